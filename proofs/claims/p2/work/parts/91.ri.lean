set_option maxHeartbeats 4000000 in
set_option maxRecDepth 100000 in
theorem r_featureOf {ws0 : List Cond} {tb : String → gz_T} (hws : ∀ w ∈ gr_ws, w ∈ ws0) (htb : tb RX13 = gr_T) (ext : gz_Sh) (I : gr_I) (J : gr_J) (hI : gr_Inv I)   (x0 : I 0 71 = 5 ∨ I 0 73 ≤ I 0 69) (x1 : I 0 72 ≤ I 0 69) (x2 : I 0 71 = 0 ∨ (I 0 72 < I 0 73 ∧ I 0 72 < I 0 69)) (x3 : I 0 71 = 3 → 2 ≤ I 0 73 - I 0 72 ∧ I 0 73 - I 0 72 ≤ 14) (x4 : I 0 72 ≤ I 0 73) (x5 : 0 ≤ I 0 6) (x6 : I 0 119 ≤ 5) : ∃ r h', gz_Ev ws0 tb 11 (yX13_featureOf, cX13_featureOf, 2, (some .boolean)) [.inr (.inr (some 0))] (gr_sh ++ ext) (gr_h I J) r (gr_sh ++ ext) h' 0 0 ∧ (∃ (I' : gr_I) (J' : gr_J), h' = gr_h I' J' ∧ gr_Inv I' ∧ gr_fr [71, 72, 73, 74, 75, 76, 77] [73] I I' ∧ gr_fj [71, 72, 73, 74, 75, 76, 77] [73] J J' ∧ (∃ z : Int, r = some (.inl z) ∧ 0 ≤ z ∧ z ≤ 1 ∧ (I' 0 71 = 5 ∨ I' 0 73 ≤ I' 0 69) ∧ (I' 0 72 ≤ I' 0 69) ∧ (I' 0 71 = 0 ∨ (I' 0 72 < I' 0 73 ∧ I' 0 72 < I' 0 69)) ∧ (I' 0 71 = 3 → 2 ≤ I' 0 73 - I' 0 72 ∧ I' 0 73 - I' 0 72 ≤ 14) ∧ (I' 0 72 ≤ I' 0 73) ∧ (I' 0 69 = I 0 69) ∧ (I 0 73 ≤ I' 0 73) ∧ (I 0 72 ≤ I' 0 72))) := by
  have FI : gr_fr [71, 72, 73, 74, 75, 76, 77] [73] I I := fun _ _ _ => rfl
  have FJ : gr_fj [71, 72, 73, 74, 75, 76, 77] [73] J J := fun _ _ _ => rfl
  have hD : gv_D (gr_E ws0 tb 10 (yX13_featureOf, cX13_featureOf, 2, (some .boolean)) kX13_featureOf) := gq_ok oX13_featureOf
  refine gr_ev (d := 10) (l := kX13_featureOf) (Po := fun r h' => (∃ (I' : gr_I) (J' : gr_J), h' = gr_h I' J' ∧ gr_Inv I' ∧ gr_fr [71, 72, 73, 74, 75, 76, 77] [73] I I' ∧ gr_fj [71, 72, 73, 74, 75, 76, 77] [73] J J' ∧ (∃ z : Int, r = some (.inl z) ∧ 0 ≤ z ∧ z ≤ 1 ∧ (I' 0 71 = 5 ∨ I' 0 73 ≤ I' 0 69) ∧ (I' 0 72 ≤ I' 0 69) ∧ (I' 0 71 = 0 ∨ (I' 0 72 < I' 0 73 ∧ I' 0 72 < I' 0 69)) ∧ (I' 0 71 = 3 → 2 ≤ I' 0 73 - I' 0 72 ∧ I' 0 73 - I' 0 72 ≤ 14) ∧ (I' 0 72 ≤ I' 0 73) ∧ (I' 0 69 = I 0 69) ∧ (I 0 73 ≤ I' 0 73) ∧ (I 0 72 ≤ I' 0 72)))) htb rfl (Nat.le_of_ble_eq_true rfl) ?_
  have f1 := (show 0 ≤ I 0 71 ∧ I 0 71 ≤ 5 from (hI 0 71).1)
  have f2 := (show 0 ≤ I 0 72 ∧ I 0 72 ≤ 1000 from (hI 0 72).1)
  have f3 := (show 0 ≤ I 0 73 ∧ I 0 73 ≤ 1001 from (hI 0 73).1)
  have f4 := (show 0 ≤ I 0 69 ∧ I 0 69 ≤ 1000 from (hI 0 69).1)
  have f5 := (show (-1) ≤ I 0 6 ∧ I 0 6 ≤ 7 from (hI 0 6).1)
  have f6 := (show 0 ≤ I 0 119 ∧ I 0 119 ≤ 6 from (hI 0 119).1)
  refine gv_run 1 true hD (pc' := 1) (lv' := [(0, .inr (.inr (some 0)))]) (st' := [.inr (.inr (some 0))]) (h' := gr_h I J) (C := (True ∧ True)) rfl ⟨trivial, trivial⟩ ?_
  obtain ⟨r7, h7, E7, P7⟩ := r_name (ws0 := ws0) (tb := tb) hws htb ext I J hI   
  obtain ⟨I8, J9, rfl, hI8, g7, k7, ⟨z7, rfl, q7⟩⟩ := P7
  have FI8 := gr_frt FI g7 rfl rfl
  have FJ9 := gr_fjt FJ k7 rfl rfl
  have t10 := g7 0 71 rfl
  have t11 := g7 0 72 rfl
  have t12 := g7 0 73 rfl
  have t13 := g7 0 69 rfl
  have t14 := g7 0 6 rfl
  have t15 := g7 0 119 rfl
  have f16 := (show 0 ≤ I8 0 71 ∧ I8 0 71 ≤ 5 from (hI8 0 71).1)
  have f17 := (show 0 ≤ I8 0 72 ∧ I8 0 72 ≤ 1000 from (hI8 0 72).1)
  have f18 := (show 0 ≤ I8 0 73 ∧ I8 0 73 ≤ 1001 from (hI8 0 73).1)
  have f19 := (show 0 ≤ I8 0 69 ∧ I8 0 69 ≤ 1000 from (hI8 0 69).1)
  have f20 := (show (-1) ≤ I8 0 6 ∧ I8 0 6 ≤ 7 from (hI8 0 6).1)
  have f21 := (show 0 ≤ I8 0 119 ∧ I8 0 119 ≤ 6 from (hI8 0 119).1)
  refine gv_callV hD rfl (As := []) (st := []) rfl (by decide) rfl rfl (gr_lV hws rfl) (Nat.le_of_ble_eq_true rfl) (gz_Ev_mono (d := 3) (by decide) E7) ?_
  show gv_X _ _ (4, [(0, .inr (.inr (some 0)))], [.inl z7], gr_sh ++ ext, gr_h I8 J9)
  refine gv_if_ne (t := 9) hD rfl rfl ⟨by omega, by omega⟩ (fun c22 => ?_) (fun c22 => ?_)
  · have f23 := (show (-1) ≤ I8 0 6 ∧ I8 0 6 ≤ 7 from (hI8 0 6).1)
    refine gv_run 7 true hD (pc' := 21) (lv' := [(0, .inr (.inr (some 0)))]) (st' := [.inr (.inr (some 0)), .inl (8 * (I8 0 6)), .inr (.inr (some 20))]) (h' := gr_h I8 J9) (C := (((((((True ∧ True) ∧ True) ∧ True) ∧ True) ∧ True) ∧ True) ∧ True)) rfl ⟨⟨⟨⟨⟨⟨⟨trivial, trivial⟩, trivial⟩, trivial⟩, trivial⟩, trivial⟩, trivial⟩, trivial⟩ ?_
    have f24 := (show (-1) ≤ I8 0 6 ∧ I8 0 6 ≤ 7 from (hI8 0 6).1)
    have f25 := (show 0 ≤ I8 13 (Int.toNat ((I8 0 6))) ∧ I8 13 (Int.toNat ((I8 0 6))) ≤ 8 from (hI8 13 (Int.toNat ((I8 0 6)))).1)
    refine gv_run 4 true hD (pc' := 29) (lv' := [(0, .inr (.inr (some 0)))]) (st' := [.inl (I8 13 (Int.toNat ((I8 0 6)))), .inl (8 * (I8 0 6)), .inr (.inr (some 20))]) (h' := gr_h I8 J9) (C := ((((True ∧ True) ∧ True) ∧ True) ∧ (0 ≤ (I8 0 6) ∧ (I8 0 6) < ((8 : Nat) : Int)))) rfl ⟨⟨⟨⟨trivial, trivial⟩, trivial⟩, trivial⟩, ⟨by omega, by omega⟩⟩ ?_
    refine gv_run 2 true hD (pc' := 33) (lv' := [(0, .inr (.inr (some 0)))]) (st' := [.inr (.inl (J9 0 75)), .inl (I8 13 (Int.toNat ((I8 0 6)))), .inl (8 * (I8 0 6)), .inr (.inr (some 20))]) (h' := gr_h I8 J9) (C := ((True ∧ True) ∧ True)) rfl ⟨⟨trivial, trivial⟩, trivial⟩ ?_
    obtain ⟨r26, h26, E26, P26⟩ := r_find_20 (ws0 := ws0) (tb := tb) hws htb ext I8 J9 hI8 ((8 * (I8 0 6))) ((I8 13 (Int.toNat ((I8 0 6))))) (J9 0 75) ⟨by omega, by omega⟩ ⟨by omega, by omega⟩ (by omega)
    obtain ⟨rfl, ⟨z26, rfl, q26⟩⟩ := P26
    refine gv_callS hD rfl (As := [.inr (.inr (some 20)), .inl (8 * (I8 0 6)), .inl (I8 13 (Int.toNat ((I8 0 6)))), .inr (.inl (J9 0 75))]) (st := []) rfl (gr_lS hws rfl) (Nat.le_of_ble_eq_true rfl) (gz_Ev_mono (d := 1) (by decide) E26) ?_
    show gv_X _ _ (36, [(0, .inr (.inr (some 0)))], [.inl z26], gr_sh ++ ext, gr_h I8 J9)
    refine gv_run 2 true hD (pc' := 38) (lv' := [(1, .inl z26), (0, .inr (.inr (some 0)))]) (st' := [.inl z26]) (h' := gr_h I8 J9) (C := ((True ∧ True) ∧ True)) rfl ⟨⟨trivial, trivial⟩, trivial⟩ ?_
    refine gv_if_ge (t := 47) hD rfl rfl ⟨by omega, by omega⟩ (fun c27 => ?_) (fun c27 => ?_)
    · have f28 := (show 0 ≤ I8 0 119 ∧ I8 0 119 ≤ 6 from (hI8 0 119).1)
      refine gv_run 5 true hD (pc' := 56) (lv' := [(1, .inl z26), (0, .inr (.inr (some 0)))]) (st' := [.inl z26, .inl (I8 0 119), .inr (.inr (some 73))]) (h' := gr_h I8 J9) (C := (((((True ∧ True) ∧ True) ∧ True) ∧ True) ∧ True)) rfl ⟨⟨⟨⟨⟨trivial, trivial⟩, trivial⟩, trivial⟩, trivial⟩, trivial⟩ ?_
      refine gv_run 1 true hD (pc' := 57) (lv' := [(1, .inl z26), (0, .inr (.inr (some 0)))]) (st' := []) (h' := gz_up (gr_h I8 J9) 73 (Int.toNat ((I8 0 119))) (.inl z26)) (C := (True ∧ (0 ≤ (I8 0 119) ∧ (I8 0 119) < ((6 : Nat) : Int)))) rfl ⟨trivial, ⟨by omega, by omega⟩⟩ ?_
      refine gr_st hI8 FI8 rfl rfl ⟨⟨by show 0 ≤ _; omega, by show _ ≤ 7; omega⟩, trivial⟩ (fun I29 hI29 FI29 q30 p30 => ?_)
      have t31 := p30 0 71 (fun q => absurd q.1 (by decide))
      have t32 := p30 0 72 (fun q => absurd q.1 (by decide))
      have t33 := p30 0 73 (fun q => absurd q.1 (by decide))
      have t34 := p30 0 69 (fun q => absurd q.1 (by decide))
      have t35 := p30 0 6 (fun q => absurd q.1 (by decide))
      have t36 := p30 0 119 (fun q => absurd q.1 (by decide))
      have f37 := (show 0 ≤ I29 0 71 ∧ I29 0 71 ≤ 5 from (hI29 0 71).1)
      have f38 := (show 0 ≤ I29 0 72 ∧ I29 0 72 ≤ 1000 from (hI29 0 72).1)
      have f39 := (show 0 ≤ I29 0 73 ∧ I29 0 73 ≤ 1001 from (hI29 0 73).1)
      have f40 := (show 0 ≤ I29 0 69 ∧ I29 0 69 ≤ 1000 from (hI29 0 69).1)
      have f41 := (show (-1) ≤ I29 0 6 ∧ I29 0 6 ≤ 7 from (hI29 0 6).1)
      have f42 := (show 0 ≤ I29 0 119 ∧ I29 0 119 ≤ 6 from (hI29 0 119).1)
      refine gv_run 1 true hD (pc' := 58) (lv' := [(1, .inl z26), (0, .inr (.inr (some 0)))]) (st' := [.inr (.inr (some 0))]) (h' := gr_h I29 J9) (C := (True ∧ True)) rfl ⟨trivial, trivial⟩ ?_
      obtain ⟨r43, h43, E43, P43⟩ := r_next (ws0 := ws0) (tb := tb) hws htb ext I29 J9 hI29   (by omega)
      obtain ⟨I44, J45, rfl, hI44, g43, k43, ⟨rfl, q43⟩⟩ := P43
      have FI44 := gr_frt FI29 g43 rfl rfl
      have FJ45 := gr_fjt FJ9 k43 rfl rfl
      have t46 := g43 0 69 rfl
      have t47 := g43 0 6 rfl
      have t48 := g43 0 119 rfl
      have f49 := (show 0 ≤ I44 0 71 ∧ I44 0 71 ≤ 5 from (hI44 0 71).1)
      have f50 := (show 0 ≤ I44 0 72 ∧ I44 0 72 ≤ 1000 from (hI44 0 72).1)
      have f51 := (show 0 ≤ I44 0 73 ∧ I44 0 73 ≤ 1001 from (hI44 0 73).1)
      have f52 := (show 0 ≤ I44 0 69 ∧ I44 0 69 ≤ 1000 from (hI44 0 69).1)
      have f53 := (show (-1) ≤ I44 0 6 ∧ I44 0 6 ≤ 7 from (hI44 0 6).1)
      have f54 := (show 0 ≤ I44 0 119 ∧ I44 0 119 ≤ 6 from (hI44 0 119).1)
      refine gv_callV hD rfl (As := []) (st := []) rfl (by decide) rfl rfl (gr_lV hws rfl) (Nat.le_of_ble_eq_true rfl) (gz_Ev_mono (d := 10) (by decide) E43) ?_
      show gv_X _ _ (61, [(1, .inl z26), (0, .inr (.inr (some 0)))], [], gr_sh ++ ext, gr_h I44 J45)
      refine gv_run 1 true hD (pc' := 62) (lv' := [(1, .inl z26), (0, .inr (.inr (some 0)))]) (st' := [.inl 1]) (h' := gr_h I44 J45) (C := (True ∧ True)) rfl ⟨trivial, trivial⟩ ?_
      exact gv_zret hD rfl (by omega) ⟨I44, J45, rfl, hI44, FI44, FJ45, ⟨_, rfl, by omega⟩⟩
    · refine gv_run 2 true hD (pc' := 43) (lv' := [(1, .inl z26), (0, .inr (.inr (some 0)))]) (st' := [.inl 5, .inr (.inr (some 0))]) (h' := gr_h I8 J9) (C := ((True ∧ True) ∧ True)) rfl ⟨⟨trivial, trivial⟩, trivial⟩ ?_
      obtain ⟨r55, h55, E55, P55⟩ := r_no_ (ws0 := ws0) (tb := tb) hws htb ext I8 J9 hI8 5 ⟨by omega, by omega⟩ 
      obtain ⟨I56, J57, rfl, hI56, g55, k55, ⟨z55, rfl, q55⟩⟩ := P55
      have FI56 := gr_frt FI8 g55 rfl rfl
      have FJ57 := gr_fjt FJ9 k55 rfl rfl
      have t58 := g55 0 71 rfl
      have t59 := g55 0 72 rfl
      have t60 := g55 0 73 rfl
      have t61 := g55 0 69 rfl
      have t62 := g55 0 6 rfl
      have t63 := g55 0 119 rfl
      have f64 := (show 0 ≤ I56 0 71 ∧ I56 0 71 ≤ 5 from (hI56 0 71).1)
      have f65 := (show 0 ≤ I56 0 72 ∧ I56 0 72 ≤ 1000 from (hI56 0 72).1)
      have f66 := (show 0 ≤ I56 0 73 ∧ I56 0 73 ≤ 1001 from (hI56 0 73).1)
      have f67 := (show 0 ≤ I56 0 69 ∧ I56 0 69 ≤ 1000 from (hI56 0 69).1)
      have f68 := (show (-1) ≤ I56 0 6 ∧ I56 0 6 ≤ 7 from (hI56 0 6).1)
      have f69 := (show 0 ≤ I56 0 119 ∧ I56 0 119 ≤ 6 from (hI56 0 119).1)
      refine gv_callV hD rfl (As := [.inl 5]) (st := []) rfl (by decide) rfl rfl (gr_lV hws rfl) (Nat.le_of_ble_eq_true rfl) (gz_Ev_mono (d := 2) (by decide) E55) ?_
      show gv_X _ _ (46, [(1, .inl z26), (0, .inr (.inr (some 0)))], [.inl z55], gr_sh ++ ext, gr_h I56 J57)
      exact gv_zret hD rfl (by omega) ⟨I56, J57, rfl, hI56, FI56, FJ57, ⟨_, rfl, by omega⟩⟩
  · refine gv_run 1 true hD (pc' := 8) (lv' := [(0, .inr (.inr (some 0)))]) (st' := [.inl 0]) (h' := gr_h I8 J9) (C := (True ∧ True)) rfl ⟨trivial, trivial⟩ ?_
    exact gv_zret hD rfl (by omega) ⟨I8, J9, rfl, hI8, FI8, FJ9, ⟨_, rfl, by omega⟩⟩
set_option maxHeartbeats 4000000 in
set_option maxRecDepth 100000 in
theorem r_lettersOf {ws0 : List Cond} {tb : String → gz_T} (hws : ∀ w ∈ gr_ws, w ∈ ws0) (htb : tb RX13 = gr_T) (ext : gz_Sh) (I : gr_I) (J : gr_J) (hI : gr_Inv I)   (x0 : I 0 71 = 5 ∨ I 0 73 ≤ I 0 69) (x1 : I 0 72 ≤ I 0 69) (x2 : I 0 71 = 0 ∨ (I 0 72 < I 0 73 ∧ I 0 72 < I 0 69)) (x3 : I 0 71 = 3 → 2 ≤ I 0 73 - I 0 72 ∧ I 0 73 - I 0 72 ≤ 14) (x4 : I 0 72 ≤ I 0 73) (x5 : 0 ≤ I 0 6) : ∃ r h', gz_Ev ws0 tb 12 (yX13_lettersOf, cX13_lettersOf, 6, (some .boolean)) [.inr (.inr (some 0))] (gr_sh ++ ext) (gr_h I J) r (gr_sh ++ ext) h' 0 0 ∧ (∃ (I' : gr_I) (J' : gr_J), h' = gr_h I' J' ∧ gr_Inv I' ∧ gr_fr [71, 72, 73, 74, 75, 76, 77] [15, 22, 26] I I' ∧ gr_fj [71, 72, 73, 74, 75, 76, 77] [15, 22, 26] J J' ∧ (∃ z : Int, r = some (.inl z) ∧ 0 ≤ z ∧ z ≤ 1 ∧ (I' 0 71 = 5 ∨ I' 0 73 ≤ I' 0 69) ∧ (I' 0 72 ≤ I' 0 69) ∧ (I' 0 71 = 0 ∨ (I' 0 72 < I' 0 73 ∧ I' 0 72 < I' 0 69)) ∧ (I' 0 71 = 3 → 2 ≤ I' 0 73 - I' 0 72 ∧ I' 0 73 - I' 0 72 ≤ 14) ∧ (I' 0 72 ≤ I' 0 73) ∧ (I' 0 69 = I 0 69) ∧ (I 0 73 ≤ I' 0 73) ∧ (I 0 72 ≤ I' 0 72))) := by
  have FI : gr_fr [71, 72, 73, 74, 75, 76, 77] [15, 22, 26] I I := fun _ _ _ => rfl
  have FJ : gr_fj [71, 72, 73, 74, 75, 76, 77] [15, 22, 26] J J := fun _ _ _ => rfl
  have hD : gv_D (gr_E ws0 tb 11 (yX13_lettersOf, cX13_lettersOf, 6, (some .boolean)) kX13_lettersOf) := gq_ok oX13_lettersOf
  refine gr_ev (d := 11) (l := kX13_lettersOf) (Po := fun r h' => (∃ (I' : gr_I) (J' : gr_J), h' = gr_h I' J' ∧ gr_Inv I' ∧ gr_fr [71, 72, 73, 74, 75, 76, 77] [15, 22, 26] I I' ∧ gr_fj [71, 72, 73, 74, 75, 76, 77] [15, 22, 26] J J' ∧ (∃ z : Int, r = some (.inl z) ∧ 0 ≤ z ∧ z ≤ 1 ∧ (I' 0 71 = 5 ∨ I' 0 73 ≤ I' 0 69) ∧ (I' 0 72 ≤ I' 0 69) ∧ (I' 0 71 = 0 ∨ (I' 0 72 < I' 0 73 ∧ I' 0 72 < I' 0 69)) ∧ (I' 0 71 = 3 → 2 ≤ I' 0 73 - I' 0 72 ∧ I' 0 73 - I' 0 72 ≤ 14) ∧ (I' 0 72 ≤ I' 0 73) ∧ (I' 0 69 = I 0 69) ∧ (I 0 73 ≤ I' 0 73) ∧ (I 0 72 ≤ I' 0 72)))) htb rfl (Nat.le_of_ble_eq_true rfl) ?_
  have f1 := (show 0 ≤ I 0 71 ∧ I 0 71 ≤ 5 from (hI 0 71).1)
  have f2 := (show 0 ≤ I 0 72 ∧ I 0 72 ≤ 1000 from (hI 0 72).1)
  have f3 := (show 0 ≤ I 0 73 ∧ I 0 73 ≤ 1001 from (hI 0 73).1)
  have f4 := (show 0 ≤ I 0 69 ∧ I 0 69 ≤ 1000 from (hI 0 69).1)
  have f5 := (show (-1) ≤ I 0 6 ∧ I 0 6 ≤ 7 from (hI 0 6).1)
  have L81 : ∀ (n : Nat) (I6 : gr_I) (J7 : gr_J) (v1_8 : Int) (v2_8 : Int64) (v4_8 : Int) (v5_8 : Int), (13 - v5_8).toNat < n → gr_Inv I6 → gr_fr [71, 72, 73, 74, 75, 76, 77] [15, 22, 26] I I6 → gr_fj [71, 72, 73, 74, 75, 76, 77] [15, 22, 26] J J7 → ((0 ≤ v1_8 ∧ v1_8 ≤ 7) ∧ ((-2147483648) ≤ v4_8 ∧ v4_8 ≤ 2147483647) ∧ (0 ≤ v5_8 ∧ v5_8 ≤ 12) ∧ (I6 0 71 = 3) ∧ (I6 0 71 = 5 ∨ I6 0 73 ≤ I6 0 69) ∧ (I6 0 72 ≤ I6 0 69) ∧ (I6 0 71 = 0 ∨ (I6 0 72 < I6 0 73 ∧ I6 0 72 < I6 0 69)) ∧ (I6 0 71 = 3 → 2 ≤ I6 0 73 - I6 0 72 ∧ I6 0 73 - I6 0 72 ≤ 14) ∧ (I6 0 72 ≤ I6 0 73) ∧ (I6 0 69 = I 0 69) ∧ (I 0 73 ≤ I6 0 73) ∧ (I 0 72 ≤ I6 0 72)) → gv_X (gr_E ws0 tb 11 (yX13_lettersOf, cX13_lettersOf, 6, (some .boolean)) kX13_lettersOf) (gv_Q cX13_lettersOf (some .boolean) (gr_sh ++ ext) (fun r h' => (∃ (I' : gr_I) (J' : gr_J), h' = gr_h I' J' ∧ gr_Inv I' ∧ gr_fr [71, 72, 73, 74, 75, 76, 77] [15, 22, 26] I I' ∧ gr_fj [71, 72, 73, 74, 75, 76, 77] [15, 22, 26] J J' ∧ (∃ z : Int, r = some (.inl z) ∧ 0 ≤ z ∧ z ≤ 1 ∧ (I' 0 71 = 5 ∨ I' 0 73 ≤ I' 0 69) ∧ (I' 0 72 ≤ I' 0 69) ∧ (I' 0 71 = 0 ∨ (I' 0 72 < I' 0 73 ∧ I' 0 72 < I' 0 69)) ∧ (I' 0 71 = 3 → 2 ≤ I' 0 73 - I' 0 72 ∧ I' 0 73 - I' 0 72 ≤ 14) ∧ (I' 0 72 ≤ I' 0 73) ∧ (I' 0 69 = I 0 69) ∧ (I 0 73 ≤ I' 0 73) ∧ (I 0 72 ≤ I' 0 72))))) (81, [(0, .inr (.inr (some 0))), (1, .inl v1_8), (2, .inr (.inl v2_8)), (4, .inl v4_8), (5, .inl v5_8)], [], gr_sh ++ ext, gr_h I6 J7) := by
    intro n
    induction n with
    | zero => intro I6 J7 v1_8 v2_8 v4_8 v5_8 hn; omega
    | succ n ih81 =>
      intro I6 J7 v1_8 v2_8 v4_8 v5_8 hn hI6 FI6 FJ7 m_8
      obtain ⟨hv1_8, hv4_8, hv5_8, e0_8, e1_8, e2_8, e3_8, e4_8, e5_8, e6_8, e7_8, e8_8⟩ := m_8
      have f9 := (show 0 ≤ I6 0 71 ∧ I6 0 71 ≤ 5 from (hI6 0 71).1)
      have f10 := (show 0 ≤ I6 0 72 ∧ I6 0 72 ≤ 1000 from (hI6 0 72).1)
      have f11 := (show 0 ≤ I6 0 73 ∧ I6 0 73 ≤ 1001 from (hI6 0 73).1)
      have f12 := (show 0 ≤ I6 0 69 ∧ I6 0 69 ≤ 1000 from (hI6 0 69).1)
      have f13 := (show (-1) ≤ I6 0 6 ∧ I6 0 6 ≤ 7 from (hI6 0 6).1)
      have L141 : ∀ (I14 : gr_I) (J15 : gr_J) (s1_16 : Int), gr_Inv I14 → gr_fr [71, 72, 73, 74, 75, 76, 77] [15, 22, 26] I I14 → gr_fj [71, 72, 73, 74, 75, 76, 77] [15, 22, 26] J J15 → ((0 ≤ v1_8 ∧ v1_8 ≤ 7) ∧ ((-2147483648) ≤ v4_8 ∧ v4_8 ≤ 2147483647) ∧ (0 ≤ s1_16 ∧ s1_16 ≤ 1) ∧ (s1_16 = 0 ∨ I14 15 (Int.toNat v1_8) ≤ 15) ∧ (I14 0 71 = 5 ∨ I14 0 73 ≤ I14 0 69) ∧ (I14 0 72 ≤ I14 0 69) ∧ (I14 0 71 = 0 ∨ (I14 0 72 < I14 0 73 ∧ I14 0 72 < I14 0 69)) ∧ (I14 0 71 = 3 → 2 ≤ I14 0 73 - I14 0 72 ∧ I14 0 73 - I14 0 72 ≤ 14) ∧ (I14 0 72 ≤ I14 0 73) ∧ (I14 0 69 = I 0 69) ∧ (I 0 73 ≤ I14 0 73) ∧ (I 0 72 ≤ I14 0 72)) → gv_X (gr_E ws0 tb 11 (yX13_lettersOf, cX13_lettersOf, 6, (some .boolean)) kX13_lettersOf) (gv_Q cX13_lettersOf (some .boolean) (gr_sh ++ ext) (fun r h' => (∃ (I' : gr_I) (J' : gr_J), h' = gr_h I' J' ∧ gr_Inv I' ∧ gr_fr [71, 72, 73, 74, 75, 76, 77] [15, 22, 26] I I' ∧ gr_fj [71, 72, 73, 74, 75, 76, 77] [15, 22, 26] J J' ∧ (∃ z : Int, r = some (.inl z) ∧ 0 ≤ z ∧ z ≤ 1 ∧ (I' 0 71 = 5 ∨ I' 0 73 ≤ I' 0 69) ∧ (I' 0 72 ≤ I' 0 69) ∧ (I' 0 71 = 0 ∨ (I' 0 72 < I' 0 73 ∧ I' 0 72 < I' 0 69)) ∧ (I' 0 71 = 3 → 2 ≤ I' 0 73 - I' 0 72 ∧ I' 0 73 - I' 0 72 ≤ 14) ∧ (I' 0 72 ≤ I' 0 73) ∧ (I' 0 69 = I 0 69) ∧ (I 0 73 ≤ I' 0 73) ∧ (I 0 72 ≤ I' 0 72))))) (141, [(0, .inr (.inr (some 0))), (1, .inl v1_8), (2, .inr (.inl v2_8)), (4, .inl v4_8)], [.inl s1_16, .inr (.inr (some 0))], gr_sh ++ ext, gr_h I14 J15) := by
        intro I14 J15 s1_16 hI14 FI14 FJ15 m_16
        obtain ⟨hv1_8_16, hv4_8_16, hs1_16, e0_16, e1_16, e2_16, e3_16, e4_16, e5_16, e6_16, e7_16, e8_16⟩ := m_16
        have f17 := (show 0 ≤ I14 0 71 ∧ I14 0 71 ≤ 5 from (hI14 0 71).1)
        have f18 := (show 0 ≤ I14 0 72 ∧ I14 0 72 ≤ 1000 from (hI14 0 72).1)
        have f19 := (show 0 ≤ I14 0 73 ∧ I14 0 73 ≤ 1001 from (hI14 0 73).1)
        have f20 := (show 0 ≤ I14 0 69 ∧ I14 0 69 ≤ 1000 from (hI14 0 69).1)
        have f21 := (show (-1) ≤ I14 0 6 ∧ I14 0 6 ≤ 7 from (hI14 0 6).1)
        obtain ⟨r22, h22, E22, P22⟩ := r_done (ws0 := ws0) (tb := tb) hws htb ext I14 J15 hI14 s1_16 ⟨by omega, by omega⟩ (by omega) (by omega) (by omega) (by omega) (by omega)
        obtain ⟨I23, J24, rfl, hI23, g22, k22, ⟨z22, rfl, q22⟩⟩ := P22
        have FI23 := gr_frt FI14 g22 rfl rfl
        have FJ24 := gr_fjt FJ15 k22 rfl rfl
        have t25 := g22 0 69 rfl
        have t26 := g22 0 6 rfl
        have t27 := g22 15 (Int.toNat v1_8) rfl
        have f28 := (show 0 ≤ I23 0 71 ∧ I23 0 71 ≤ 5 from (hI23 0 71).1)
        have f29 := (show 0 ≤ I23 0 72 ∧ I23 0 72 ≤ 1000 from (hI23 0 72).1)
        have f30 := (show 0 ≤ I23 0 73 ∧ I23 0 73 ≤ 1001 from (hI23 0 73).1)
        have f31 := (show 0 ≤ I23 0 69 ∧ I23 0 69 ≤ 1000 from (hI23 0 69).1)
        have f32 := (show (-1) ≤ I23 0 6 ∧ I23 0 6 ≤ 7 from (hI23 0 6).1)
        refine gv_callV hD rfl (As := [.inl s1_16]) (st := []) rfl (by decide) rfl rfl (gr_lV hws rfl) (Nat.le_of_ble_eq_true rfl) (gz_Ev_mono (d := 11) (by decide) E22) ?_
        show gv_X _ _ (144, [(0, .inr (.inr (some 0))), (1, .inl v1_8), (2, .inr (.inl v2_8)), (4, .inl v4_8)], [.inl z22], gr_sh ++ ext, gr_h I23 J24)
        refine gv_if_ne (t := 149) hD rfl rfl ⟨by omega, by omega⟩ (fun c33 => ?_) (fun c33 => ?_)
        · refine gv_run 7 true hD (pc' := 161) (lv' := [(0, .inr (.inr (some 0))), (1, .inl v1_8), (2, .inr (.inl v2_8)), (4, .inl v4_8)]) (st' := [.inr (.inr (some 15)), .inl (16 * v1_8), .inr (.inr (some 22))]) (h' := gr_h I23 J24) (C := (((((((True ∧ True) ∧ True) ∧ True) ∧ True) ∧ True) ∧ True) ∧ True)) rfl ⟨⟨⟨⟨⟨⟨⟨trivial, trivial⟩, trivial⟩, trivial⟩, trivial⟩, trivial⟩, trivial⟩, trivial⟩ ?_
          have f34 := (show 0 ≤ I23 15 (Int.toNat v1_8) ∧ I23 15 (Int.toNat v1_8) ≤ 16 from (hI23 15 (Int.toNat v1_8)).1)
          refine gv_run 2 true hD (pc' := 163) (lv' := [(0, .inr (.inr (some 0))), (1, .inl v1_8), (2, .inr (.inl v2_8)), (4, .inl v4_8)]) (st' := [.inl (I23 15 (Int.toNat v1_8)), .inl (16 * v1_8), .inr (.inr (some 22))]) (h' := gr_h I23 J24) (C := ((True ∧ True) ∧ (0 ≤ v1_8 ∧ v1_8 < ((8 : Nat) : Int)))) rfl ⟨⟨trivial, trivial⟩, ⟨by omega, by omega⟩⟩ ?_
          refine gv_run 3 true hD (pc' := 166) (lv' := [(0, .inr (.inr (some 0))), (1, .inl v1_8), (2, .inr (.inl v2_8)), (4, .inl v4_8)]) (st' := []) (h' := gz_up (gr_h I23 J24) 22 (Int.toNat (((16 * v1_8) + (I23 15 (Int.toNat v1_8))))) (.inr (.inl v2_8))) (C := (((True ∧ True) ∧ True) ∧ (0 ≤ (((16 * v1_8) + (I23 15 (Int.toNat v1_8)))) ∧ (((16 * v1_8) + (I23 15 (Int.toNat v1_8)))) < ((128 : Nat) : Int)))) rfl ⟨⟨⟨trivial, trivial⟩, trivial⟩, ⟨by omega, by omega⟩⟩ ?_
          refine gr_stJ FJ24 rfl rfl (fun J35 FJ35 => ?_)
          refine gv_run 7 true hD (pc' := 178) (lv' := [(0, .inr (.inr (some 0))), (1, .inl v1_8), (2, .inr (.inl v2_8)), (4, .inl v4_8)]) (st' := [.inr (.inr (some 15)), .inl (16 * v1_8), .inr (.inr (some 26))]) (h' := gr_h I23 J35) (C := (((((((True ∧ True) ∧ True) ∧ True) ∧ True) ∧ True) ∧ True) ∧ True)) rfl ⟨⟨⟨⟨⟨⟨⟨trivial, trivial⟩, trivial⟩, trivial⟩, trivial⟩, trivial⟩, trivial⟩, trivial⟩ ?_
          have f36 := (show 0 ≤ I23 15 (Int.toNat v1_8) ∧ I23 15 (Int.toNat v1_8) ≤ 16 from (hI23 15 (Int.toNat v1_8)).1)
          refine gv_run 3 true hD (pc' := 181) (lv' := [(0, .inr (.inr (some 0))), (1, .inl v1_8), (2, .inr (.inl v2_8)), (4, .inl v4_8)]) (st' := [.inl (I23 15 (Int.toNat v1_8)), .inl v1_8, .inr (.inr (some 15)), .inl (16 * v1_8), .inr (.inr (some 26))]) (h' := gr_h I23 J35) (C := (((True ∧ True) ∧ True) ∧ (0 ≤ v1_8 ∧ v1_8 < ((8 : Nat) : Int)))) rfl ⟨⟨⟨trivial, trivial⟩, trivial⟩, ⟨by omega, by omega⟩⟩ ?_
          refine gv_run 3 true hD (pc' := 184) (lv' := [(0, .inr (.inr (some 0))), (1, .inl v1_8), (2, .inr (.inl v2_8)), (4, .inl v4_8)]) (st' := [.inl ((I23 15 (Int.toNat v1_8)) + 1), .inl v1_8, .inr (.inr (some 15)), .inl (I23 15 (Int.toNat v1_8)), .inl (16 * v1_8), .inr (.inr (some 26))]) (h' := gr_h I23 J35) (C := (((True ∧ True) ∧ True) ∧ True)) rfl ⟨⟨⟨trivial, trivial⟩, trivial⟩, trivial⟩ ?_
          refine gv_run 1 true hD (pc' := 185) (lv' := [(0, .inr (.inr (some 0))), (1, .inl v1_8), (2, .inr (.inl v2_8)), (4, .inl v4_8)]) (st' := [.inl (I23 15 (Int.toNat v1_8)), .inl (16 * v1_8), .inr (.inr (some 26))]) (h' := gz_up (gr_h I23 J35) 15 (Int.toNat v1_8) (.inl (((I23 15 (Int.toNat v1_8)) + 1)))) (C := (True ∧ (0 ≤ v1_8 ∧ v1_8 < ((8 : Nat) : Int)))) rfl ⟨trivial, ⟨by omega, by omega⟩⟩ ?_
          refine gr_st hI23 FI23 rfl rfl ⟨⟨by show 0 ≤ _; omega, by show _ ≤ 16; omega⟩, trivial⟩ (fun I37 hI37 FI37 q38 p38 => ?_)
          have t39 := p38 0 71 (fun q => absurd q.1 (by decide))
          have t40 := p38 0 72 (fun q => absurd q.1 (by decide))
          have t41 := p38 0 73 (fun q => absurd q.1 (by decide))
          have t42 := p38 0 69 (fun q => absurd q.1 (by decide))
          have t43 := p38 0 6 (fun q => absurd q.1 (by decide))
          have f44 := (show 0 ≤ I37 0 71 ∧ I37 0 71 ≤ 5 from (hI37 0 71).1)
          have f45 := (show 0 ≤ I37 0 72 ∧ I37 0 72 ≤ 1000 from (hI37 0 72).1)
          have f46 := (show 0 ≤ I37 0 73 ∧ I37 0 73 ≤ 1001 from (hI37 0 73).1)
          have f47 := (show 0 ≤ I37 0 69 ∧ I37 0 69 ≤ 1000 from (hI37 0 69).1)
          have f48 := (show (-1) ≤ I37 0 6 ∧ I37 0 6 ≤ 7 from (hI37 0 6).1)
          refine gv_run 3 true hD (pc' := 189) (lv' := [(0, .inr (.inr (some 0))), (1, .inl v1_8), (2, .inr (.inl v2_8)), (4, .inl v4_8)]) (st' := []) (h' := gz_up (gr_h I37 J35) 26 (Int.toNat (((16 * v1_8) + (I23 15 (Int.toNat v1_8))))) (.inl v4_8)) (C := (((True ∧ True) ∧ True) ∧ (0 ≤ (((16 * v1_8) + (I23 15 (Int.toNat v1_8)))) ∧ (((16 * v1_8) + (I23 15 (Int.toNat v1_8)))) < ((128 : Nat) : Int)))) rfl ⟨⟨⟨trivial, trivial⟩, trivial⟩, ⟨by omega, by omega⟩⟩ ?_
          refine gr_st hI37 FI37 rfl rfl ⟨⟨by show (-2147483648) ≤ _; omega, by show _ ≤ 2147483647; omega⟩, trivial⟩ (fun I49 hI49 FI49 q50 p50 => ?_)
          have t51 := p50 0 71 (fun q => absurd q.1 (by decide))
          have t52 := p50 0 72 (fun q => absurd q.1 (by decide))
          have t53 := p50 0 73 (fun q => absurd q.1 (by decide))
          have t54 := p50 0 69 (fun q => absurd q.1 (by decide))
          have t55 := p50 0 6 (fun q => absurd q.1 (by decide))
          have t56 := p50 15 (Int.toNat v1_8) (fun q => absurd q.1 (by decide))
          have f57 := (show 0 ≤ I49 0 71 ∧ I49 0 71 ≤ 5 from (hI49 0 71).1)
          have f58 := (show 0 ≤ I49 0 72 ∧ I49 0 72 ≤ 1000 from (hI49 0 72).1)
          have f59 := (show 0 ≤ I49 0 73 ∧ I49 0 73 ≤ 1001 from (hI49 0 73).1)
          have f60 := (show 0 ≤ I49 0 69 ∧ I49 0 69 ≤ 1000 from (hI49 0 69).1)
          have f61 := (show (-1) ≤ I49 0 6 ∧ I49 0 6 ≤ 7 from (hI49 0 6).1)
          refine gv_run 1 true hD (pc' := 190) (lv' := [(0, .inr (.inr (some 0))), (1, .inl v1_8), (2, .inr (.inl v2_8)), (4, .inl v4_8)]) (st' := [.inl 1]) (h' := gr_h I49 J35) (C := (True ∧ True)) rfl ⟨trivial, trivial⟩ ?_
          exact gv_zret hD rfl (by omega) ⟨I49, J35, rfl, hI49, FI49, FJ35, ⟨_, rfl, by omega⟩⟩
        · refine gv_run 1 true hD (pc' := 148) (lv' := [(0, .inr (.inr (some 0))), (1, .inl v1_8), (2, .inr (.inl v2_8)), (4, .inl v4_8)]) (st' := [.inl 0]) (h' := gr_h I23 J24) (C := (True ∧ True)) rfl ⟨trivial, trivial⟩ ?_
          exact gv_zret hD rfl (by omega) ⟨I23, J24, rfl, hI23, FI23, FJ24, ⟨_, rfl, by omega⟩⟩
      refine gv_run 2 true hD (pc' := 84) (lv' := [(0, .inr (.inr (some 0))), (1, .inl v1_8), (2, .inr (.inl v2_8)), (4, .inl v4_8), (5, .inl v5_8)]) (st' := [.inr (.inr (some 0)), .inl v5_8]) (h' := gr_h I6 J7) (C := ((True ∧ True) ∧ True)) rfl ⟨⟨trivial, trivial⟩, trivial⟩ ?_
      obtain ⟨r62, h62, E62, P62⟩ := r_size (ws0 := ws0) (tb := tb) hws htb ext I6 J7 hI6   
      obtain ⟨rfl, ⟨z62, rfl, q62⟩⟩ := P62
      refine gv_callV hD rfl (As := []) (st := [.inl v5_8]) rfl (by decide) rfl rfl (gr_lV hws rfl) (Nat.le_of_ble_eq_true rfl) (gz_Ev_mono (d := 1) (by decide) E62) ?_
      show gv_X _ _ (87, [(0, .inr (.inr (some 0))), (1, .inl v1_8), (2, .inr (.inl v2_8)), (4, .inl v4_8), (5, .inl v5_8)], [.inl z62, .inl v5_8], gr_sh ++ ext, gr_h I6 J7)
      refine gv_icmp_ge (t := 120) hD rfl rfl ⟨⟨by omega, by omega⟩, ⟨by omega, by omega⟩⟩ (fun c63 => ?_) (fun c63 => ?_)
      · refine gv_run 1 true hD (pc' := 121) (lv' := [(0, .inr (.inr (some 0))), (1, .inl v1_8), (2, .inr (.inl v2_8)), (4, .inl v4_8), (5, .inl v5_8)]) (st' := [.inr (.inr (some 0))]) (h' := gr_h I6 J7) (C := (True ∧ True)) rfl ⟨trivial, trivial⟩ ?_
        obtain ⟨r64, h64, E64, P64⟩ := r_next (ws0 := ws0) (tb := tb) hws htb ext I6 J7 hI6   (by omega)
        obtain ⟨I65, J66, rfl, hI65, g64, k64, ⟨rfl, q64⟩⟩ := P64
        have FI65 := gr_frt FI6 g64 rfl rfl
        have FJ66 := gr_fjt FJ7 k64 rfl rfl
        have t67 := g64 0 69 rfl
        have t68 := g64 0 6 rfl
        have t69 := g64 15 (Int.toNat v1_8) rfl
        have f70 := (show 0 ≤ I65 0 71 ∧ I65 0 71 ≤ 5 from (hI65 0 71).1)
        have f71 := (show 0 ≤ I65 0 72 ∧ I65 0 72 ≤ 1000 from (hI65 0 72).1)
        have f72 := (show 0 ≤ I65 0 73 ∧ I65 0 73 ≤ 1001 from (hI65 0 73).1)
        have f73 := (show 0 ≤ I65 0 69 ∧ I65 0 69 ≤ 1000 from (hI65 0 69).1)
        have f74 := (show (-1) ≤ I65 0 6 ∧ I65 0 6 ≤ 7 from (hI65 0 6).1)
        refine gv_callV hD rfl (As := []) (st := []) rfl (by decide) rfl rfl (gr_lV hws rfl) (Nat.le_of_ble_eq_true rfl) (gz_Ev_mono (d := 10) (by decide) E64) ?_
        show gv_X _ _ (124, [(0, .inr (.inr (some 0))), (1, .inl v1_8), (2, .inr (.inl v2_8)), (4, .inl v4_8), (5, .inl v5_8)], [], gr_sh ++ ext, gr_h I65 J66)
        have f75 := (show 0 ≤ I65 15 (Int.toNat v1_8) ∧ I65 15 (Int.toNat v1_8) ≤ 16 from (hI65 15 (Int.toNat v1_8)).1)
        refine gv_run 5 true hD (pc' := 131) (lv' := [(0, .inr (.inr (some 0))), (1, .inl v1_8), (2, .inr (.inl v2_8)), (4, .inl v4_8), (5, .inl v5_8)]) (st' := [.inl (I65 15 (Int.toNat v1_8)), .inr (.inr (some 0))]) (h' := gr_h I65 J66) (C := (((((True ∧ True) ∧ True) ∧ True) ∧ True) ∧ (0 ≤ v1_8 ∧ v1_8 < ((8 : Nat) : Int)))) rfl ⟨⟨⟨⟨⟨trivial, trivial⟩, trivial⟩, trivial⟩, trivial⟩, ⟨by omega, by omega⟩⟩ ?_
        refine gv_run 1 true hD (pc' := 133) (lv' := [(0, .inr (.inr (some 0))), (1, .inl v1_8), (2, .inr (.inl v2_8)), (4, .inl v4_8), (5, .inl v5_8)]) (st' := [.inl 16, .inl (I65 15 (Int.toNat v1_8)), .inr (.inr (some 0))]) (h' := gr_h I65 J66) (C := (True ∧ True)) rfl ⟨trivial, trivial⟩ ?_
        refine gv_icmp_ge (t := 140) hD rfl rfl ⟨⟨by omega, by omega⟩, ⟨by omega, by omega⟩⟩ (fun c76 => ?_) (fun c76 => ?_)
        · refine gv_run 1 true hD (pc' := 141) (lv' := [(0, .inr (.inr (some 0))), (1, .inl v1_8), (2, .inr (.inl v2_8)), (4, .inl v4_8), (5, .inl v5_8)]) (st' := [.inl 0, .inr (.inr (some 0))]) (h' := gr_h I65 J66) (C := (True ∧ True)) rfl ⟨trivial, trivial⟩ ?_
          refine gv_pick [0, 1, 2, 3] rfl ?_
          exact L141 I65 J66 0 hI65 FI65 FJ66 (by omega)
        · refine gv_run 2 true hD (pc' := 141) (lv' := [(0, .inr (.inr (some 0))), (1, .inl v1_8), (2, .inr (.inl v2_8)), (4, .inl v4_8), (5, .inl v5_8)]) (st' := [.inl 1, .inr (.inr (some 0))]) (h' := gr_h I65 J66) (C := ((True ∧ True) ∧ True)) rfl ⟨⟨trivial, trivial⟩, trivial⟩ ?_
          refine gv_pick [0, 1, 2, 3] rfl ?_
          exact L141 I65 J66 1 hI65 FI65 FJ66 (by omega)
      · have f77 := (show 0 ≤ I6 0 72 ∧ I6 0 72 ≤ 1000 from (hI6 0 72).1)
        refine gv_run 7 true hD (pc' := 102) (lv' := [(0, .inr (.inr (some 0))), (1, .inl v1_8), (2, .inr (.inl v2_8)), (4, .inl v4_8), (5, .inl v5_8)]) (st' := [.inl 1, .inl (I6 0 72), .inr (.inr (some 57)), .inl 1, .inl v4_8]) (h' := gr_h I6 J7) (C := (((((((True ∧ True) ∧ True) ∧ True) ∧ True) ∧ True) ∧ True) ∧ True)) rfl ⟨⟨⟨⟨⟨⟨⟨trivial, trivial⟩, trivial⟩, trivial⟩, trivial⟩, trivial⟩, trivial⟩, trivial⟩ ?_
        have f78 := (show (-128) ≤ I6 57 (Int.toNat ((((I6 0 72) + 1) + v5_8))) ∧ I6 57 (Int.toNat ((((I6 0 72) + 1) + v5_8))) ≤ 127 from (hI6 57 (Int.toNat ((((I6 0 72) + 1) + v5_8)))).1)
        refine gv_run 4 true hD (pc' := 107) (lv' := [(0, .inr (.inr (some 0))), (1, .inl v1_8), (2, .inr (.inl v2_8)), (4, .inl v4_8), (5, .inl v5_8)]) (st' := [.inl (I6 57 (Int.toNat ((((I6 0 72) + 1) + v5_8)))), .inl 1, .inl v4_8]) (h' := gr_h I6 J7) (C := ((((True ∧ True) ∧ True) ∧ True) ∧ (0 ≤ ((((I6 0 72) + 1) + v5_8)) ∧ ((((I6 0 72) + 1) + v5_8)) < ((1000 : Nat) : Int)))) rfl ⟨⟨⟨⟨trivial, trivial⟩, trivial⟩, trivial⟩, ⟨by omega, by omega⟩⟩ ?_
        have f79 := gw_any (Int32.ofInt 1 <<< (Int32.ofInt (((I6 57 (Int.toNat ((((I6 0 72) + 1) + v5_8)))) - 97)) &&& 31))
        have f80 := gw_any ((Int32.ofInt v4_8 ||| Int32.ofInt (((Int32.ofInt 1 <<< (Int32.ofInt (((I6 57 (Int.toNat ((((I6 0 72) + 1) + v5_8)))) - 97)) &&& 31)).toInt))))
        refine gv_run 7 true hD (pc' := 81) (lv' := [(5, .inl (v5_8 + 1)), (4, .inl ((Int32.ofInt v4_8 ||| Int32.ofInt (((Int32.ofInt 1 <<< (Int32.ofInt (((I6 57 (Int.toNat ((((I6 0 72) + 1) + v5_8)))) - 97)) &&& 31)).toInt))).toInt)), (0, .inr (.inr (some 0))), (1, .inl v1_8), (2, .inr (.inl v2_8))]) (st' := []) (h' := gr_h I6 J7) (C := (((((((True ∧ True) ∧ True) ∧ True) ∧ True) ∧ True) ∧ True) ∧ True)) rfl ⟨⟨⟨⟨⟨⟨⟨trivial, trivial⟩, trivial⟩, trivial⟩, trivial⟩, trivial⟩, trivial⟩, trivial⟩ ?_
        refine gv_pick [2, 3, 4, 1, 0] rfl ?_
        exact ih81 I6 J7 v1_8 v2_8 (((Int32.ofInt v4_8 ||| Int32.ofInt (((Int32.ofInt 1 <<< (Int32.ofInt (((I6 57 (Int.toNat ((((I6 0 72) + 1) + v5_8)))) - 97)) &&& 31)).toInt))).toInt)) (v5_8 + 1) (by omega) hI6 FI6 FJ7 (by omega)
  have f81 := (show (-1) ≤ I 0 6 ∧ I 0 6 ≤ 7 from (hI 0 6).1)
  refine gv_run 4 true hD (pc' := 6) (lv' := [(1, .inl (I 0 6)), (0, .inr (.inr (some 0)))]) (st' := [.inr (.inr (some 0))]) (h' := gr_h I J) (C := ((((True ∧ True) ∧ True) ∧ True) ∧ True)) rfl ⟨⟨⟨⟨trivial, trivial⟩, trivial⟩, trivial⟩, trivial⟩ ?_
  obtain ⟨r82, h82, E82, P82⟩ := r_name (ws0 := ws0) (tb := tb) hws htb ext I J hI   
  obtain ⟨I83, J84, rfl, hI83, g82, k82, ⟨z82, rfl, q82⟩⟩ := P82
  have FI83 := gr_frt FI g82 rfl rfl
  have FJ84 := gr_fjt FJ k82 rfl rfl
  have t85 := g82 0 71 rfl
  have t86 := g82 0 72 rfl
  have t87 := g82 0 73 rfl
  have t88 := g82 0 69 rfl
  have t89 := g82 0 6 rfl
  have t90 := g82 15 (Int.toNat ((I 0 6))) rfl
  have f91 := (show 0 ≤ I83 0 71 ∧ I83 0 71 ≤ 5 from (hI83 0 71).1)
  have f92 := (show 0 ≤ I83 0 72 ∧ I83 0 72 ≤ 1000 from (hI83 0 72).1)
  have f93 := (show 0 ≤ I83 0 73 ∧ I83 0 73 ≤ 1001 from (hI83 0 73).1)
  have f94 := (show 0 ≤ I83 0 69 ∧ I83 0 69 ≤ 1000 from (hI83 0 69).1)
  have f95 := (show (-1) ≤ I83 0 6 ∧ I83 0 6 ≤ 7 from (hI83 0 6).1)
  refine gv_callV hD rfl (As := []) (st := []) rfl (by decide) rfl rfl (gr_lV hws rfl) (Nat.le_of_ble_eq_true rfl) (gz_Ev_mono (d := 3) (by decide) E82) ?_
  show gv_X _ _ (9, [(1, .inl (I 0 6)), (0, .inr (.inr (some 0)))], [.inl z82], gr_sh ++ ext, gr_h I83 J84)
  refine gv_if_ne (t := 14) hD rfl rfl ⟨by omega, by omega⟩ (fun c96 => ?_) (fun c96 => ?_)
  · refine gv_run 7 true hD (pc' := 26) (lv' := [(2, .inr (.inl (J84 0 75))), (1, .inl (I 0 6)), (0, .inr (.inr (some 0)))]) (st' := [.inl (I 0 6), .inl 16, .inr (.inr (some 22))]) (h' := gr_h I83 J84) (C := (((((((True ∧ True) ∧ True) ∧ True) ∧ True) ∧ True) ∧ True) ∧ True)) rfl ⟨⟨⟨⟨⟨⟨⟨trivial, trivial⟩, trivial⟩, trivial⟩, trivial⟩, trivial⟩, trivial⟩, trivial⟩ ?_
    have f97 := (show 0 ≤ I83 15 (Int.toNat ((I 0 6))) ∧ I83 15 (Int.toNat ((I 0 6))) ≤ 16 from (hI83 15 (Int.toNat ((I 0 6)))).1)
    refine gv_run 5 true hD (pc' := 33) (lv' := [(2, .inr (.inl (J84 0 75))), (1, .inl (I 0 6)), (0, .inr (.inr (some 0)))]) (st' := [.inl (I83 15 (Int.toNat ((I 0 6)))), .inl (16 * (I 0 6)), .inr (.inr (some 22))]) (h' := gr_h I83 J84) (C := (((((True ∧ True) ∧ True) ∧ True) ∧ True) ∧ (0 ≤ (I 0 6) ∧ (I 0 6) < ((8 : Nat) : Int)))) rfl ⟨⟨⟨⟨⟨trivial, trivial⟩, trivial⟩, trivial⟩, trivial⟩, ⟨by omega, by omega⟩⟩ ?_
    refine gv_run 1 true hD (pc' := 34) (lv' := [(2, .inr (.inl (J84 0 75))), (1, .inl (I 0 6)), (0, .inr (.inr (some 0)))]) (st' := [.inr (.inl (J84 0 75)), .inl (I83 15 (Int.toNat ((I 0 6)))), .inl (16 * (I 0 6)), .inr (.inr (some 22))]) (h' := gr_h I83 J84) (C := (True ∧ True)) rfl ⟨trivial, trivial⟩ ?_
    obtain ⟨r98, h98, E98, P98⟩ := r_find_22 (ws0 := ws0) (tb := tb) hws htb ext I83 J84 hI83 ((16 * (I 0 6))) ((I83 15 (Int.toNat ((I 0 6))))) (J84 0 75) ⟨by omega, by omega⟩ ⟨by omega, by omega⟩ (by omega)
    obtain ⟨rfl, ⟨z98, rfl, q98⟩⟩ := P98
    refine gv_callS hD rfl (As := [.inr (.inr (some 22)), .inl (16 * (I 0 6)), .inl (I83 15 (Int.toNat ((I 0 6)))), .inr (.inl (J84 0 75))]) (st := []) rfl (gr_lS hws rfl) (Nat.le_of_ble_eq_true rfl) (gz_Ev_mono (d := 1) (by decide) E98) ?_
    show gv_X _ _ (37, [(2, .inr (.inl (J84 0 75))), (1, .inl (I 0 6)), (0, .inr (.inr (some 0)))], [.inl z98], gr_sh ++ ext, gr_h I83 J84)
    refine gv_if_lt (t := 46) hD rfl rfl ⟨by omega, by omega⟩ (fun c99 => ?_) (fun c99 => ?_)
    · refine gv_run 1 true hD (pc' := 47) (lv' := [(2, .inr (.inl (J84 0 75))), (1, .inl (I 0 6)), (0, .inr (.inr (some 0)))]) (st' := [.inr (.inr (some 0))]) (h' := gr_h I83 J84) (C := (True ∧ True)) rfl ⟨trivial, trivial⟩ ?_
      obtain ⟨r100, h100, E100, P100⟩ := r_next (ws0 := ws0) (tb := tb) hws htb ext I83 J84 hI83   (by omega)
      obtain ⟨I101, J102, rfl, hI101, g100, k100, ⟨rfl, q100⟩⟩ := P100
      have FI101 := gr_frt FI83 g100 rfl rfl
      have FJ102 := gr_fjt FJ84 k100 rfl rfl
      have t103 := g100 0 69 rfl
      have t104 := g100 0 6 rfl
      have t105 := g100 15 (Int.toNat ((I 0 6))) rfl
      have f106 := (show 0 ≤ I101 0 71 ∧ I101 0 71 ≤ 5 from (hI101 0 71).1)
      have f107 := (show 0 ≤ I101 0 72 ∧ I101 0 72 ≤ 1000 from (hI101 0 72).1)
      have f108 := (show 0 ≤ I101 0 73 ∧ I101 0 73 ≤ 1001 from (hI101 0 73).1)
      have f109 := (show 0 ≤ I101 0 69 ∧ I101 0 69 ≤ 1000 from (hI101 0 69).1)
      have f110 := (show (-1) ≤ I101 0 6 ∧ I101 0 6 ≤ 7 from (hI101 0 6).1)
      refine gv_callV hD rfl (As := []) (st := []) rfl (by decide) rfl rfl (gr_lV hws rfl) (Nat.le_of_ble_eq_true rfl) (gz_Ev_mono (d := 10) (by decide) E100) ?_
      show gv_X _ _ (50, [(2, .inr (.inl (J84 0 75))), (1, .inl (I 0 6)), (0, .inr (.inr (some 0)))], [], gr_sh ++ ext, gr_h I101 J102)
      refine gv_run 2 true hD (pc' := 53) (lv' := [(2, .inr (.inl (J84 0 75))), (1, .inl (I 0 6)), (0, .inr (.inr (some 0)))]) (st' := [.inl 61, .inr (.inr (some 0))]) (h' := gr_h I101 J102) (C := ((True ∧ True) ∧ True)) rfl ⟨⟨trivial, trivial⟩, trivial⟩ ?_
      obtain ⟨r111, h111, E111, P111⟩ := r_need (ws0 := ws0) (tb := tb) hws htb ext I101 J102 hI101 61 ⟨by omega, by omega⟩ (by omega) (by omega) (by omega) (by omega) (by omega)
      obtain ⟨I112, J113, rfl, hI112, g111, k111, ⟨z111, rfl, q111⟩⟩ := P111
      have FI112 := gr_frt FI101 g111 rfl rfl
      have FJ113 := gr_fjt FJ102 k111 rfl rfl
      have t114 := g111 0 69 rfl
      have t115 := g111 0 6 rfl
      have t116 := g111 15 (Int.toNat ((I 0 6))) rfl
      have f117 := (show 0 ≤ I112 0 71 ∧ I112 0 71 ≤ 5 from (hI112 0 71).1)
      have f118 := (show 0 ≤ I112 0 72 ∧ I112 0 72 ≤ 1000 from (hI112 0 72).1)
      have f119 := (show 0 ≤ I112 0 73 ∧ I112 0 73 ≤ 1001 from (hI112 0 73).1)
      have f120 := (show 0 ≤ I112 0 69 ∧ I112 0 69 ≤ 1000 from (hI112 0 69).1)
      have f121 := (show (-1) ≤ I112 0 6 ∧ I112 0 6 ≤ 7 from (hI112 0 6).1)
      refine gv_callV hD rfl (As := [.inl 61]) (st := []) rfl (by decide) rfl rfl (gr_lV hws rfl) (Nat.le_of_ble_eq_true rfl) (gz_Ev_mono (d := 11) (by decide) E111) ?_
      show gv_X _ _ (56, [(2, .inr (.inl (J84 0 75))), (1, .inl (I 0 6)), (0, .inr (.inr (some 0)))], [.inl z111], gr_sh ++ ext, gr_h I112 J113)
      refine gv_if_ne (t := 61) hD rfl rfl ⟨by omega, by omega⟩ (fun c122 => ?_) (fun c122 => ?_)
      · have f123 := (show 0 ≤ I112 0 71 ∧ I112 0 71 ≤ 5 from (hI112 0 71).1)
        refine gv_run 3 true hD (pc' := 66) (lv' := [(2, .inr (.inl (J84 0 75))), (1, .inl (I 0 6)), (0, .inr (.inr (some 0)))]) (st' := [.inl 3, .inl (I112 0 71)]) (h' := gr_h I112 J113) (C := (((True ∧ True) ∧ True) ∧ True)) rfl ⟨⟨⟨trivial, trivial⟩, trivial⟩, trivial⟩ ?_
        refine gv_icmp_eq (t := 75) hD rfl rfl ⟨⟨by omega, by omega⟩, ⟨by omega, by omega⟩⟩ (fun c124 => ?_) (fun c124 => ?_)
        · refine gv_run 4 true hD (pc' := 81) (lv' := [(5, .inl 0), (4, .inl 0), (2, .inr (.inl (J84 0 75))), (1, .inl (I 0 6)), (0, .inr (.inr (some 0)))]) (st' := []) (h' := gr_h I112 J113) (C := ((((True ∧ True) ∧ True) ∧ True) ∧ True)) rfl ⟨⟨⟨⟨trivial, trivial⟩, trivial⟩, trivial⟩, trivial⟩ ?_
          refine gv_pick [4, 3, 2, 1, 0] rfl ?_
          exact L81 _ I112 J113 (I 0 6) (J84 0 75) 0 0 (Nat.lt_succ_self _) hI112 FI112 FJ113 (by omega)
        · refine gv_run 2 true hD (pc' := 71) (lv' := [(2, .inr (.inl (J84 0 75))), (1, .inl (I 0 6)), (0, .inr (.inr (some 0)))]) (st' := [.inl 1, .inr (.inr (some 0))]) (h' := gr_h I112 J113) (C := ((True ∧ True) ∧ True)) rfl ⟨⟨trivial, trivial⟩, trivial⟩ ?_
          obtain ⟨r125, h125, E125, P125⟩ := r_no_ (ws0 := ws0) (tb := tb) hws htb ext I112 J113 hI112 1 ⟨by omega, by omega⟩ 
          obtain ⟨I126, J127, rfl, hI126, g125, k125, ⟨z125, rfl, q125⟩⟩ := P125
          have FI126 := gr_frt FI112 g125 rfl rfl
          have FJ127 := gr_fjt FJ113 k125 rfl rfl
          have t128 := g125 0 71 rfl
          have t129 := g125 0 72 rfl
          have t130 := g125 0 73 rfl
          have t131 := g125 0 69 rfl
          have t132 := g125 0 6 rfl
          have t133 := g125 15 (Int.toNat ((I 0 6))) rfl
          have f134 := (show 0 ≤ I126 0 71 ∧ I126 0 71 ≤ 5 from (hI126 0 71).1)
          have f135 := (show 0 ≤ I126 0 72 ∧ I126 0 72 ≤ 1000 from (hI126 0 72).1)
          have f136 := (show 0 ≤ I126 0 73 ∧ I126 0 73 ≤ 1001 from (hI126 0 73).1)
          have f137 := (show 0 ≤ I126 0 69 ∧ I126 0 69 ≤ 1000 from (hI126 0 69).1)
          have f138 := (show (-1) ≤ I126 0 6 ∧ I126 0 6 ≤ 7 from (hI126 0 6).1)
          refine gv_callV hD rfl (As := [.inl 1]) (st := []) rfl (by decide) rfl rfl (gr_lV hws rfl) (Nat.le_of_ble_eq_true rfl) (gz_Ev_mono (d := 2) (by decide) E125) ?_
          show gv_X _ _ (74, [(2, .inr (.inl (J84 0 75))), (1, .inl (I 0 6)), (0, .inr (.inr (some 0)))], [.inl z125], gr_sh ++ ext, gr_h I126 J127)
          exact gv_zret hD rfl (by omega) ⟨I126, J127, rfl, hI126, FI126, FJ127, ⟨_, rfl, by omega⟩⟩
      · refine gv_run 1 true hD (pc' := 60) (lv' := [(2, .inr (.inl (J84 0 75))), (1, .inl (I 0 6)), (0, .inr (.inr (some 0)))]) (st' := [.inl 0]) (h' := gr_h I112 J113) (C := (True ∧ True)) rfl ⟨trivial, trivial⟩ ?_
        exact gv_zret hD rfl (by omega) ⟨I112, J113, rfl, hI112, FI112, FJ113, ⟨_, rfl, by omega⟩⟩
    · refine gv_run 2 true hD (pc' := 42) (lv' := [(2, .inr (.inl (J84 0 75))), (1, .inl (I 0 6)), (0, .inr (.inr (some 0)))]) (st' := [.inl 4, .inr (.inr (some 0))]) (h' := gr_h I83 J84) (C := ((True ∧ True) ∧ True)) rfl ⟨⟨trivial, trivial⟩, trivial⟩ ?_
      obtain ⟨r139, h139, E139, P139⟩ := r_no_ (ws0 := ws0) (tb := tb) hws htb ext I83 J84 hI83 4 ⟨by omega, by omega⟩ 
      obtain ⟨I140, J141, rfl, hI140, g139, k139, ⟨z139, rfl, q139⟩⟩ := P139
      have FI140 := gr_frt FI83 g139 rfl rfl
      have FJ141 := gr_fjt FJ84 k139 rfl rfl
      have t142 := g139 0 71 rfl
      have t143 := g139 0 72 rfl
      have t144 := g139 0 73 rfl
      have t145 := g139 0 69 rfl
      have t146 := g139 0 6 rfl
      have t147 := g139 15 (Int.toNat ((I 0 6))) rfl
      have f148 := (show 0 ≤ I140 0 71 ∧ I140 0 71 ≤ 5 from (hI140 0 71).1)
      have f149 := (show 0 ≤ I140 0 72 ∧ I140 0 72 ≤ 1000 from (hI140 0 72).1)
      have f150 := (show 0 ≤ I140 0 73 ∧ I140 0 73 ≤ 1001 from (hI140 0 73).1)
      have f151 := (show 0 ≤ I140 0 69 ∧ I140 0 69 ≤ 1000 from (hI140 0 69).1)
      have f152 := (show (-1) ≤ I140 0 6 ∧ I140 0 6 ≤ 7 from (hI140 0 6).1)
      refine gv_callV hD rfl (As := [.inl 4]) (st := []) rfl (by decide) rfl rfl (gr_lV hws rfl) (Nat.le_of_ble_eq_true rfl) (gz_Ev_mono (d := 2) (by decide) E139) ?_
      show gv_X _ _ (45, [(2, .inr (.inl (J84 0 75))), (1, .inl (I 0 6)), (0, .inr (.inr (some 0)))], [.inl z139], gr_sh ++ ext, gr_h I140 J141)
      exact gv_zret hD rfl (by omega) ⟨I140, J141, rfl, hI140, FI140, FJ141, ⟨_, rfl, by omega⟩⟩
  · refine gv_run 1 true hD (pc' := 13) (lv' := [(1, .inl (I 0 6)), (0, .inr (.inr (some 0)))]) (st' := [.inl 0]) (h' := gr_h I83 J84) (C := (True ∧ True)) rfl ⟨trivial, trivial⟩ ?_
    exact gv_zret hD rfl (by omega) ⟨I83, J84, rfl, hI83, FI83, FJ84, ⟨_, rfl, by omega⟩⟩
