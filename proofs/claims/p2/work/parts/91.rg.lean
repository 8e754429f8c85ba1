set_option maxHeartbeats 4000000 in
set_option maxRecDepth 100000 in
theorem r_need {ws0 : List Cond} {tb : String → gz_T} (hws : ∀ w ∈ gr_ws, w ∈ ws0) (htb : tb RX13 = gr_T) (ext : gz_Sh) (I : gr_I) (J : gr_J) (hI : gr_Inv I) (a1 : Int) (ha1 : 0 ≤ a1 ∧ a1 ≤ 127) (x0 : I 0 71 = 5 ∨ I 0 73 ≤ I 0 69) (x1 : I 0 72 ≤ I 0 69) (x2 : I 0 71 = 0 ∨ (I 0 72 < I 0 73 ∧ I 0 72 < I 0 69)) (x3 : I 0 71 = 3 → 2 ≤ I 0 73 - I 0 72 ∧ I 0 73 - I 0 72 ≤ 14) (x4 : I 0 72 ≤ I 0 73) : ∃ r h', gz_Ev ws0 tb 11 (yX13_need, cX13_need, 2, (some .boolean)) [.inr (.inr (some 0)), .inl a1] (gr_sh ++ ext) (gr_h I J) r (gr_sh ++ ext) h' 0 0 ∧ (∃ (I' : gr_I) (J' : gr_J), h' = gr_h I' J' ∧ gr_Inv I' ∧ gr_fr [71, 72, 73, 74, 75, 76, 77] [] I I' ∧ gr_fj [71, 72, 73, 74, 75, 76, 77] [] J J' ∧ (∃ z : Int, r = some (.inl z) ∧ 0 ≤ z ∧ z ≤ 1 ∧ (I' 0 71 = 5 ∨ I' 0 73 ≤ I' 0 69) ∧ (I' 0 72 ≤ I' 0 69) ∧ (I' 0 71 = 0 ∨ (I' 0 72 < I' 0 73 ∧ I' 0 72 < I' 0 69)) ∧ (I' 0 71 = 3 → 2 ≤ I' 0 73 - I' 0 72 ∧ I' 0 73 - I' 0 72 ≤ 14) ∧ (I' 0 72 ≤ I' 0 73) ∧ (I' 0 69 = I 0 69) ∧ (I 0 73 ≤ I' 0 73) ∧ (I 0 72 ≤ I' 0 72) ∧ (z = 0 ∨ (I 0 73 ≤ I' 0 72 ∧ I 0 71 = 4)))) := by
  have FI : gr_fr [71, 72, 73, 74, 75, 76, 77] [] I I := fun _ _ _ => rfl
  have FJ : gr_fj [71, 72, 73, 74, 75, 76, 77] [] J J := fun _ _ _ => rfl
  have hD : gv_D (gr_E ws0 tb 10 (yX13_need, cX13_need, 2, (some .boolean)) kX13_need) := gq_ok oX13_need
  refine gr_ev (d := 10) (l := kX13_need) (Po := fun r h' => (∃ (I' : gr_I) (J' : gr_J), h' = gr_h I' J' ∧ gr_Inv I' ∧ gr_fr [71, 72, 73, 74, 75, 76, 77] [] I I' ∧ gr_fj [71, 72, 73, 74, 75, 76, 77] [] J J' ∧ (∃ z : Int, r = some (.inl z) ∧ 0 ≤ z ∧ z ≤ 1 ∧ (I' 0 71 = 5 ∨ I' 0 73 ≤ I' 0 69) ∧ (I' 0 72 ≤ I' 0 69) ∧ (I' 0 71 = 0 ∨ (I' 0 72 < I' 0 73 ∧ I' 0 72 < I' 0 69)) ∧ (I' 0 71 = 3 → 2 ≤ I' 0 73 - I' 0 72 ∧ I' 0 73 - I' 0 72 ≤ 14) ∧ (I' 0 72 ≤ I' 0 73) ∧ (I' 0 69 = I 0 69) ∧ (I 0 73 ≤ I' 0 73) ∧ (I 0 72 ≤ I' 0 72) ∧ (z = 0 ∨ (I 0 73 ≤ I' 0 72 ∧ I 0 71 = 4))))) htb rfl (Nat.le_of_ble_eq_true rfl) ?_
  have f1 := (show 0 ≤ I 0 71 ∧ I 0 71 ≤ 5 from (hI 0 71).1)
  have f2 := (show 0 ≤ I 0 72 ∧ I 0 72 ≤ 1000 from (hI 0 72).1)
  have f3 := (show 0 ≤ I 0 73 ∧ I 0 73 ≤ 1001 from (hI 0 73).1)
  have f4 := (show 0 ≤ I 0 69 ∧ I 0 69 ≤ 1000 from (hI 0 69).1)
  refine gv_run 2 true hD (pc' := 2) (lv' := [(0, .inr (.inr (some 0))), (1, .inl a1)]) (st' := [.inl a1, .inr (.inr (some 0))]) (h' := gr_h I J) (C := ((True ∧ True) ∧ True)) rfl ⟨⟨trivial, trivial⟩, trivial⟩ ?_
  obtain ⟨r5, h5, E5, P5⟩ := r_sign (ws0 := ws0) (tb := tb) hws htb ext I J hI a1 ⟨by omega, by omega⟩ (by omega)
  obtain ⟨rfl, ⟨z5, rfl, q5⟩⟩ := P5
  refine gv_callV hD rfl (As := [.inl a1]) (st := []) rfl (by decide) rfl rfl (gr_lV hws rfl) (Nat.le_of_ble_eq_true rfl) (gz_Ev_mono (d := 1) (by decide) E5) ?_
  show gv_X _ _ (5, [(0, .inr (.inr (some 0))), (1, .inl a1)], [.inl z5], gr_sh ++ ext, gr_h I J)
  refine gv_if_ne (t := 14) hD rfl rfl ⟨by omega, by omega⟩ (fun c6 => ?_) (fun c6 => ?_)
  · refine gv_run 1 true hD (pc' := 15) (lv' := [(0, .inr (.inr (some 0))), (1, .inl a1)]) (st' := [.inr (.inr (some 0))]) (h' := gr_h I J) (C := (True ∧ True)) rfl ⟨trivial, trivial⟩ ?_
    obtain ⟨r7, h7, E7, P7⟩ := r_next (ws0 := ws0) (tb := tb) hws htb ext I J hI   (by omega)
    obtain ⟨I8, J9, rfl, hI8, g7, k7, ⟨rfl, q7⟩⟩ := P7
    have FI8 := gr_frt FI g7 rfl rfl
    have FJ9 := gr_fjt FJ k7 rfl rfl
    have t10 := g7 0 69 rfl
    have f11 := (show 0 ≤ I8 0 71 ∧ I8 0 71 ≤ 5 from (hI8 0 71).1)
    have f12 := (show 0 ≤ I8 0 72 ∧ I8 0 72 ≤ 1000 from (hI8 0 72).1)
    have f13 := (show 0 ≤ I8 0 73 ∧ I8 0 73 ≤ 1001 from (hI8 0 73).1)
    have f14 := (show 0 ≤ I8 0 69 ∧ I8 0 69 ≤ 1000 from (hI8 0 69).1)
    refine gv_callV hD rfl (As := []) (st := []) rfl (by decide) rfl rfl (gr_lV hws rfl) (Nat.le_of_ble_eq_true rfl) (gz_Ev_mono (d := 10) (by decide) E7) ?_
    show gv_X _ _ (18, [(0, .inr (.inr (some 0))), (1, .inl a1)], [], gr_sh ++ ext, gr_h I8 J9)
    refine gv_run 1 true hD (pc' := 19) (lv' := [(0, .inr (.inr (some 0))), (1, .inl a1)]) (st' := [.inl 1]) (h' := gr_h I8 J9) (C := (True ∧ True)) rfl ⟨trivial, trivial⟩ ?_
    exact gv_zret hD rfl (by omega) ⟨I8, J9, rfl, hI8, FI8, FJ9, ⟨_, rfl, by omega⟩⟩
  · refine gv_run 2 true hD (pc' := 10) (lv' := [(0, .inr (.inr (some 0))), (1, .inl a1)]) (st' := [.inl 1, .inr (.inr (some 0))]) (h' := gr_h I J) (C := ((True ∧ True) ∧ True)) rfl ⟨⟨trivial, trivial⟩, trivial⟩ ?_
    obtain ⟨r15, h15, E15, P15⟩ := r_no_ (ws0 := ws0) (tb := tb) hws htb ext I J hI 1 ⟨by omega, by omega⟩ 
    obtain ⟨I16, J17, rfl, hI16, g15, k15, ⟨z15, rfl, q15⟩⟩ := P15
    have FI16 := gr_frt FI g15 rfl rfl
    have FJ17 := gr_fjt FJ k15 rfl rfl
    have t18 := g15 0 71 rfl
    have t19 := g15 0 72 rfl
    have t20 := g15 0 73 rfl
    have t21 := g15 0 69 rfl
    have f22 := (show 0 ≤ I16 0 71 ∧ I16 0 71 ≤ 5 from (hI16 0 71).1)
    have f23 := (show 0 ≤ I16 0 72 ∧ I16 0 72 ≤ 1000 from (hI16 0 72).1)
    have f24 := (show 0 ≤ I16 0 73 ∧ I16 0 73 ≤ 1001 from (hI16 0 73).1)
    have f25 := (show 0 ≤ I16 0 69 ∧ I16 0 69 ≤ 1000 from (hI16 0 69).1)
    refine gv_callV hD rfl (As := [.inl 1]) (st := []) rfl (by decide) rfl rfl (gr_lV hws rfl) (Nat.le_of_ble_eq_true rfl) (gz_Ev_mono (d := 2) (by decide) E15) ?_
    show gv_X _ _ (13, [(0, .inr (.inr (some 0))), (1, .inl a1)], [.inl z15], gr_sh ++ ext, gr_h I16 J17)
    exact gv_zret hD rfl (by omega) ⟨I16, J17, rfl, hI16, FI16, FJ17, ⟨_, rfl, by omega⟩⟩
set_option maxHeartbeats 4000000 in
set_option maxRecDepth 100000 in
theorem r_done {ws0 : List Cond} {tb : String → gz_T} (hws : ∀ w ∈ gr_ws, w ∈ ws0) (htb : tb RX13 = gr_T) (ext : gz_Sh) (I : gr_I) (J : gr_J) (hI : gr_Inv I) (a1 : Int) (ha1 : 0 ≤ a1 ∧ a1 ≤ 1) (x0 : I 0 71 = 5 ∨ I 0 73 ≤ I 0 69) (x1 : I 0 72 ≤ I 0 69) (x2 : I 0 71 = 0 ∨ (I 0 72 < I 0 73 ∧ I 0 72 < I 0 69)) (x3 : I 0 71 = 3 → 2 ≤ I 0 73 - I 0 72 ∧ I 0 73 - I 0 72 ≤ 14) (x4 : I 0 72 ≤ I 0 73) : ∃ r h', gz_Ev ws0 tb 11 (yX13_done, cX13_done, 2, (some .boolean)) [.inr (.inr (some 0)), .inl a1] (gr_sh ++ ext) (gr_h I J) r (gr_sh ++ ext) h' 0 0 ∧ (∃ (I' : gr_I) (J' : gr_J), h' = gr_h I' J' ∧ gr_Inv I' ∧ gr_fr [71, 72, 73, 74, 75, 76, 77] [] I I' ∧ gr_fj [71, 72, 73, 74, 75, 76, 77] [] J J' ∧ (∃ z : Int, r = some (.inl z) ∧ 0 ≤ z ∧ z ≤ 1 ∧ (I' 0 71 = 5 ∨ I' 0 73 ≤ I' 0 69) ∧ (I' 0 72 ≤ I' 0 69) ∧ (I' 0 71 = 0 ∨ (I' 0 72 < I' 0 73 ∧ I' 0 72 < I' 0 69)) ∧ (I' 0 71 = 3 → 2 ≤ I' 0 73 - I' 0 72 ∧ I' 0 73 - I' 0 72 ≤ 14) ∧ (I' 0 72 ≤ I' 0 73) ∧ (I' 0 69 = I 0 69) ∧ (I 0 73 ≤ I' 0 73) ∧ (I 0 72 ≤ I' 0 72) ∧ (z = 0 ∨ a1 = 1) ∧ (z = 0 ∨ (I 0 73 ≤ I' 0 72 ∧ I 0 71 = 4)))) := by
  have FI : gr_fr [71, 72, 73, 74, 75, 76, 77] [] I I := fun _ _ _ => rfl
  have FJ : gr_fj [71, 72, 73, 74, 75, 76, 77] [] J J := fun _ _ _ => rfl
  have hD : gv_D (gr_E ws0 tb 10 (yX13_done, cX13_done, 2, (some .boolean)) kX13_done) := gq_ok oX13_done
  refine gr_ev (d := 10) (l := kX13_done) (Po := fun r h' => (∃ (I' : gr_I) (J' : gr_J), h' = gr_h I' J' ∧ gr_Inv I' ∧ gr_fr [71, 72, 73, 74, 75, 76, 77] [] I I' ∧ gr_fj [71, 72, 73, 74, 75, 76, 77] [] J J' ∧ (∃ z : Int, r = some (.inl z) ∧ 0 ≤ z ∧ z ≤ 1 ∧ (I' 0 71 = 5 ∨ I' 0 73 ≤ I' 0 69) ∧ (I' 0 72 ≤ I' 0 69) ∧ (I' 0 71 = 0 ∨ (I' 0 72 < I' 0 73 ∧ I' 0 72 < I' 0 69)) ∧ (I' 0 71 = 3 → 2 ≤ I' 0 73 - I' 0 72 ∧ I' 0 73 - I' 0 72 ≤ 14) ∧ (I' 0 72 ≤ I' 0 73) ∧ (I' 0 69 = I 0 69) ∧ (I 0 73 ≤ I' 0 73) ∧ (I 0 72 ≤ I' 0 72) ∧ (z = 0 ∨ a1 = 1) ∧ (z = 0 ∨ (I 0 73 ≤ I' 0 72 ∧ I 0 71 = 4))))) htb rfl (Nat.le_of_ble_eq_true rfl) ?_
  have f1 := (show 0 ≤ I 0 71 ∧ I 0 71 ≤ 5 from (hI 0 71).1)
  have f2 := (show 0 ≤ I 0 72 ∧ I 0 72 ≤ 1000 from (hI 0 72).1)
  have f3 := (show 0 ≤ I 0 73 ∧ I 0 73 ≤ 1001 from (hI 0 73).1)
  have f4 := (show 0 ≤ I 0 69 ∧ I 0 69 ≤ 1000 from (hI 0 69).1)
  refine gv_run 2 true hD (pc' := 3) (lv' := [(0, .inr (.inr (some 0))), (1, .inl a1)]) (st' := [.inl 59, .inr (.inr (some 0))]) (h' := gr_h I J) (C := ((True ∧ True) ∧ True)) rfl ⟨⟨trivial, trivial⟩, trivial⟩ ?_
  obtain ⟨r5, h5, E5, P5⟩ := r_sign (ws0 := ws0) (tb := tb) hws htb ext I J hI 59 ⟨by omega, by omega⟩ (by omega)
  obtain ⟨rfl, ⟨z5, rfl, q5⟩⟩ := P5
  refine gv_callV hD rfl (As := [.inl 59]) (st := []) rfl (by decide) rfl rfl (gr_lV hws rfl) (Nat.le_of_ble_eq_true rfl) (gz_Ev_mono (d := 1) (by decide) E5) ?_
  show gv_X _ _ (6, [(0, .inr (.inr (some 0))), (1, .inl a1)], [.inl z5], gr_sh ++ ext, gr_h I J)
  refine gv_if_ne (t := 15) hD rfl rfl ⟨by omega, by omega⟩ (fun c6 => ?_) (fun c6 => ?_)
  · refine gv_run 1 true hD (pc' := 16) (lv' := [(0, .inr (.inr (some 0))), (1, .inl a1)]) (st' := [.inl a1]) (h' := gr_h I J) (C := (True ∧ True)) rfl ⟨trivial, trivial⟩ ?_
    refine gv_if_ne (t := 29) hD rfl rfl ⟨by omega, by omega⟩ (fun c7 => ?_) (fun c7 => ?_)
    · refine gv_run 1 true hD (pc' := 30) (lv' := [(0, .inr (.inr (some 0))), (1, .inl a1)]) (st' := [.inr (.inr (some 0))]) (h' := gr_h I J) (C := (True ∧ True)) rfl ⟨trivial, trivial⟩ ?_
      obtain ⟨r8, h8, E8, P8⟩ := r_next (ws0 := ws0) (tb := tb) hws htb ext I J hI   (by omega)
      obtain ⟨I9, J10, rfl, hI9, g8, k8, ⟨rfl, q8⟩⟩ := P8
      have FI9 := gr_frt FI g8 rfl rfl
      have FJ10 := gr_fjt FJ k8 rfl rfl
      have t11 := g8 0 69 rfl
      have f12 := (show 0 ≤ I9 0 71 ∧ I9 0 71 ≤ 5 from (hI9 0 71).1)
      have f13 := (show 0 ≤ I9 0 72 ∧ I9 0 72 ≤ 1000 from (hI9 0 72).1)
      have f14 := (show 0 ≤ I9 0 73 ∧ I9 0 73 ≤ 1001 from (hI9 0 73).1)
      have f15 := (show 0 ≤ I9 0 69 ∧ I9 0 69 ≤ 1000 from (hI9 0 69).1)
      refine gv_callV hD rfl (As := []) (st := []) rfl (by decide) rfl rfl (gr_lV hws rfl) (Nat.le_of_ble_eq_true rfl) (gz_Ev_mono (d := 10) (by decide) E8) ?_
      show gv_X _ _ (33, [(0, .inr (.inr (some 0))), (1, .inl a1)], [], gr_sh ++ ext, gr_h I9 J10)
      refine gv_run 1 true hD (pc' := 34) (lv' := [(0, .inr (.inr (some 0))), (1, .inl a1)]) (st' := [.inl 1]) (h' := gr_h I9 J10) (C := (True ∧ True)) rfl ⟨trivial, trivial⟩ ?_
      exact gv_zret hD rfl (by omega) ⟨I9, J10, rfl, hI9, FI9, FJ10, ⟨_, rfl, by omega⟩⟩
    · have f16 := (show 0 ≤ I 0 78 ∧ I 0 78 ≤ 1000 from (hI 0 78).1)
      refine gv_run 4 true hD (pc' := 25) (lv' := [(0, .inr (.inr (some 0))), (1, .inl a1)]) (st' := [.inl (I 0 78), .inl 2, .inr (.inr (some 0))]) (h' := gr_h I J) (C := ((((True ∧ True) ∧ True) ∧ True) ∧ True)) rfl ⟨⟨⟨⟨trivial, trivial⟩, trivial⟩, trivial⟩, trivial⟩ ?_
      obtain ⟨r17, h17, E17, P17⟩ := r_no (ws0 := ws0) (tb := tb) hws htb ext I J hI 2 (I 0 78) ⟨by omega, by omega⟩ ⟨by omega, by omega⟩ 
      obtain ⟨I18, J19, rfl, hI18, g17, k17, ⟨z17, rfl, q17⟩⟩ := P17
      have FI18 := gr_frt FI g17 rfl rfl
      have FJ19 := gr_fjt FJ k17 rfl rfl
      have t20 := g17 0 71 rfl
      have t21 := g17 0 72 rfl
      have t22 := g17 0 73 rfl
      have t23 := g17 0 69 rfl
      have f24 := (show 0 ≤ I18 0 71 ∧ I18 0 71 ≤ 5 from (hI18 0 71).1)
      have f25 := (show 0 ≤ I18 0 72 ∧ I18 0 72 ≤ 1000 from (hI18 0 72).1)
      have f26 := (show 0 ≤ I18 0 73 ∧ I18 0 73 ≤ 1001 from (hI18 0 73).1)
      have f27 := (show 0 ≤ I18 0 69 ∧ I18 0 69 ≤ 1000 from (hI18 0 69).1)
      refine gv_callV hD rfl (As := [.inl 2, .inl (I 0 78)]) (st := []) rfl (by decide) rfl rfl (gr_lV hws rfl) (Nat.le_of_ble_eq_true rfl) (gz_Ev_mono (d := 1) (by decide) E17) ?_
      show gv_X _ _ (28, [(0, .inr (.inr (some 0))), (1, .inl a1)], [.inl z17], gr_sh ++ ext, gr_h I18 J19)
      exact gv_zret hD rfl (by omega) ⟨I18, J19, rfl, hI18, FI18, FJ19, ⟨_, rfl, by omega⟩⟩
  · refine gv_run 2 true hD (pc' := 11) (lv' := [(0, .inr (.inr (some 0))), (1, .inl a1)]) (st' := [.inl 1, .inr (.inr (some 0))]) (h' := gr_h I J) (C := ((True ∧ True) ∧ True)) rfl ⟨⟨trivial, trivial⟩, trivial⟩ ?_
    obtain ⟨r28, h28, E28, P28⟩ := r_no_ (ws0 := ws0) (tb := tb) hws htb ext I J hI 1 ⟨by omega, by omega⟩ 
    obtain ⟨I29, J30, rfl, hI29, g28, k28, ⟨z28, rfl, q28⟩⟩ := P28
    have FI29 := gr_frt FI g28 rfl rfl
    have FJ30 := gr_fjt FJ k28 rfl rfl
    have t31 := g28 0 71 rfl
    have t32 := g28 0 72 rfl
    have t33 := g28 0 73 rfl
    have t34 := g28 0 69 rfl
    have f35 := (show 0 ≤ I29 0 71 ∧ I29 0 71 ≤ 5 from (hI29 0 71).1)
    have f36 := (show 0 ≤ I29 0 72 ∧ I29 0 72 ≤ 1000 from (hI29 0 72).1)
    have f37 := (show 0 ≤ I29 0 73 ∧ I29 0 73 ≤ 1001 from (hI29 0 73).1)
    have f38 := (show 0 ≤ I29 0 69 ∧ I29 0 69 ≤ 1000 from (hI29 0 69).1)
    refine gv_callV hD rfl (As := [.inl 1]) (st := []) rfl (by decide) rfl rfl (gr_lV hws rfl) (Nat.le_of_ble_eq_true rfl) (gz_Ev_mono (d := 2) (by decide) E28) ?_
    show gv_X _ _ (14, [(0, .inr (.inr (some 0))), (1, .inl a1)], [.inl z28], gr_sh ++ ext, gr_h I29 J30)
    exact gv_zret hD rfl (by omega) ⟨I29, J30, rfl, hI29, FI29, FJ30, ⟨_, rfl, by omega⟩⟩
set_option maxHeartbeats 4000000 in
set_option maxRecDepth 100000 in
theorem r_cost {ws0 : List Cond} {tb : String → gz_T} (hws : ∀ w ∈ gr_ws, w ∈ ws0) (htb : tb RX13 = gr_T) (ext : gz_Sh) (I : gr_I) (J : gr_J) (hI : gr_Inv I)   (x0 : I 0 71 = 5 ∨ I 0 73 ≤ I 0 69) (x1 : I 0 72 ≤ I 0 69) (x2 : I 0 71 = 0 ∨ (I 0 72 < I 0 73 ∧ I 0 72 < I 0 69)) (x3 : I 0 71 = 3 → 2 ≤ I 0 73 - I 0 72 ∧ I 0 73 - I 0 72 ≤ 14) (x4 : I 0 72 ≤ I 0 73) : ∃ r h', gz_Ev ws0 tb 11 (yX13_cost, cX13_cost, 1, (some .boolean)) [.inr (.inr (some 0))] (gr_sh ++ ext) (gr_h I J) r (gr_sh ++ ext) h' 0 0 ∧ (∃ (I' : gr_I) (J' : gr_J), h' = gr_h I' J' ∧ gr_Inv I' ∧ gr_fr [71, 72, 73, 74, 75, 76, 77, 101] [] I I' ∧ gr_fj [71, 72, 73, 74, 75, 76, 77, 101] [] J J' ∧ (∃ z : Int, r = some (.inl z) ∧ 0 ≤ z ∧ z ≤ 1 ∧ (I' 0 71 = 5 ∨ I' 0 73 ≤ I' 0 69) ∧ (I' 0 72 ≤ I' 0 69) ∧ (I' 0 71 = 0 ∨ (I' 0 72 < I' 0 73 ∧ I' 0 72 < I' 0 69)) ∧ (I' 0 71 = 3 → 2 ≤ I' 0 73 - I' 0 72 ∧ I' 0 73 - I' 0 72 ≤ 14) ∧ (I' 0 72 ≤ I' 0 73) ∧ (I' 0 69 = I 0 69) ∧ (I 0 73 ≤ I' 0 73) ∧ (I 0 72 ≤ I' 0 72))) := by
  have FI : gr_fr [71, 72, 73, 74, 75, 76, 77, 101] [] I I := fun _ _ _ => rfl
  have FJ : gr_fj [71, 72, 73, 74, 75, 76, 77, 101] [] J J := fun _ _ _ => rfl
  have hD : gv_D (gr_E ws0 tb 10 (yX13_cost, cX13_cost, 1, (some .boolean)) kX13_cost) := gq_ok oX13_cost
  refine gr_ev (d := 10) (l := kX13_cost) (Po := fun r h' => (∃ (I' : gr_I) (J' : gr_J), h' = gr_h I' J' ∧ gr_Inv I' ∧ gr_fr [71, 72, 73, 74, 75, 76, 77, 101] [] I I' ∧ gr_fj [71, 72, 73, 74, 75, 76, 77, 101] [] J J' ∧ (∃ z : Int, r = some (.inl z) ∧ 0 ≤ z ∧ z ≤ 1 ∧ (I' 0 71 = 5 ∨ I' 0 73 ≤ I' 0 69) ∧ (I' 0 72 ≤ I' 0 69) ∧ (I' 0 71 = 0 ∨ (I' 0 72 < I' 0 73 ∧ I' 0 72 < I' 0 69)) ∧ (I' 0 71 = 3 → 2 ≤ I' 0 73 - I' 0 72 ∧ I' 0 73 - I' 0 72 ≤ 14) ∧ (I' 0 72 ≤ I' 0 73) ∧ (I' 0 69 = I 0 69) ∧ (I 0 73 ≤ I' 0 73) ∧ (I 0 72 ≤ I' 0 72)))) htb rfl (Nat.le_of_ble_eq_true rfl) ?_
  have f1 := (show 0 ≤ I 0 71 ∧ I 0 71 ≤ 5 from (hI 0 71).1)
  have f2 := (show 0 ≤ I 0 72 ∧ I 0 72 ≤ 1000 from (hI 0 72).1)
  have f3 := (show 0 ≤ I 0 73 ∧ I 0 73 ≤ 1001 from (hI 0 73).1)
  have f4 := (show 0 ≤ I 0 69 ∧ I 0 69 ≤ 1000 from (hI 0 69).1)
  refine gv_run 3 true hD (pc' := 5) (lv' := [(0, .inr (.inr (some 0)))]) (st' := []) (h' := gz_up (gr_h I J) 0 101 (.inl 0)) (C := (((True ∧ True) ∧ True) ∧ True)) rfl ⟨⟨⟨trivial, trivial⟩, trivial⟩, trivial⟩ ?_
  refine gr_st hI FI rfl rfl ⟨⟨by show 0 ≤ _; omega, by show _ ≤ 10000; omega⟩, trivial⟩ (fun I5 hI5 FI5 q6 p6 => ?_)
  have t7 := p6 0 71 (by decide)
  have t8 := p6 0 72 (by decide)
  have t9 := p6 0 73 (by decide)
  have t10 := p6 0 69 (by decide)
  have f11 := (show 0 ≤ I5 0 71 ∧ I5 0 71 ≤ 5 from (hI5 0 71).1)
  have f12 := (show 0 ≤ I5 0 72 ∧ I5 0 72 ≤ 1000 from (hI5 0 72).1)
  have f13 := (show 0 ≤ I5 0 73 ∧ I5 0 73 ≤ 1001 from (hI5 0 73).1)
  have f14 := (show 0 ≤ I5 0 69 ∧ I5 0 69 ≤ 1000 from (hI5 0 69).1)
  refine gv_run 3 true hD (pc' := 10) (lv' := [(0, .inr (.inr (some 0)))]) (st' := [.inr (.inl (J 0 92)), .inr (.inr (some 0))]) (h' := gr_h I5 J) (C := (((True ∧ True) ∧ True) ∧ True)) rfl ⟨⟨⟨trivial, trivial⟩, trivial⟩, trivial⟩ ?_
  obtain ⟨r15, h15, E15, P15⟩ := r_is (ws0 := ws0) (tb := tb) hws htb ext I5 J hI5 (J 0 92)  
  obtain ⟨rfl, ⟨z15, rfl, q15⟩⟩ := P15
  refine gv_callV hD rfl (As := [.inr (.inl (J 0 92))]) (st := []) rfl (by decide) rfl rfl (gr_lV hws rfl) (Nat.le_of_ble_eq_true rfl) (gz_Ev_mono (d := 1) (by decide) E15) ?_
  show gv_X _ _ (13, [(0, .inr (.inr (some 0)))], [.inl z15], gr_sh ++ ext, gr_h I5 J)
  refine gv_if_ne (t := 18) hD rfl rfl ⟨by omega, by omega⟩ (fun c16 => ?_) (fun c16 => ?_)
  · refine gv_run 1 true hD (pc' := 19) (lv' := [(0, .inr (.inr (some 0)))]) (st' := [.inr (.inr (some 0))]) (h' := gr_h I5 J) (C := (True ∧ True)) rfl ⟨trivial, trivial⟩ ?_
    obtain ⟨r17, h17, E17, P17⟩ := r_next (ws0 := ws0) (tb := tb) hws htb ext I5 J hI5   (by omega)
    obtain ⟨I18, J19, rfl, hI18, g17, k17, ⟨rfl, q17⟩⟩ := P17
    have FI18 := gr_frt FI5 g17 rfl rfl
    have FJ19 := gr_fjt FJ k17 rfl rfl
    have t20 := g17 0 69 rfl
    have f21 := (show 0 ≤ I18 0 71 ∧ I18 0 71 ≤ 5 from (hI18 0 71).1)
    have f22 := (show 0 ≤ I18 0 72 ∧ I18 0 72 ≤ 1000 from (hI18 0 72).1)
    have f23 := (show 0 ≤ I18 0 73 ∧ I18 0 73 ≤ 1001 from (hI18 0 73).1)
    have f24 := (show 0 ≤ I18 0 69 ∧ I18 0 69 ≤ 1000 from (hI18 0 69).1)
    refine gv_callV hD rfl (As := []) (st := []) rfl (by decide) rfl rfl (gr_lV hws rfl) (Nat.le_of_ble_eq_true rfl) (gz_Ev_mono (d := 10) (by decide) E17) ?_
    show gv_X _ _ (22, [(0, .inr (.inr (some 0)))], [], gr_sh ++ ext, gr_h I18 J19)
    have f25 := (show 0 ≤ I18 0 71 ∧ I18 0 71 ≤ 5 from (hI18 0 71).1)
    refine gv_run 3 true hD (pc' := 27) (lv' := [(0, .inr (.inr (some 0)))]) (st' := [.inl 2, .inl (I18 0 71)]) (h' := gr_h I18 J19) (C := (((True ∧ True) ∧ True) ∧ True)) rfl ⟨⟨⟨trivial, trivial⟩, trivial⟩, trivial⟩ ?_
    refine gv_icmp_eq (t := 36) hD rfl rfl ⟨⟨by omega, by omega⟩, ⟨by omega, by omega⟩⟩ (fun c26 => ?_) (fun c26 => ?_)
    · have f27 := (show 0 ≤ I18 0 74 ∧ I18 0 74 ≤ 999999 from (hI18 0 74).1)
      refine gv_run 3 true hD (pc' := 43) (lv' := [(0, .inr (.inr (some 0)))]) (st' := [.inl 10000, .inl (I18 0 74)]) (h' := gr_h I18 J19) (C := (((True ∧ True) ∧ True) ∧ True)) rfl ⟨⟨⟨trivial, trivial⟩, trivial⟩, trivial⟩ ?_
      refine gv_icmp_le (t := 52) hD rfl rfl ⟨⟨by omega, by omega⟩, ⟨by omega, by omega⟩⟩ (fun c28 => ?_) (fun c28 => ?_)
      · have f29 := (show 0 ≤ I18 0 74 ∧ I18 0 74 ≤ 999999 from (hI18 0 74).1)
        refine gv_run 3 true hD (pc' := 57) (lv' := [(0, .inr (.inr (some 0)))]) (st' := [.inl (I18 0 74), .inr (.inr (some 0))]) (h' := gr_h I18 J19) (C := (((True ∧ True) ∧ True) ∧ True)) rfl ⟨⟨⟨trivial, trivial⟩, trivial⟩, trivial⟩ ?_
        refine gv_run 1 true hD (pc' := 60) (lv' := [(0, .inr (.inr (some 0)))]) (st' := []) (h' := gz_up (gr_h I18 J19) 0 101 (.inl (I18 0 74))) (C := (True ∧ True)) rfl ⟨trivial, trivial⟩ ?_
        refine gr_st hI18 FI18 rfl rfl ⟨⟨by show 0 ≤ _; omega, by show _ ≤ 10000; omega⟩, trivial⟩ (fun I30 hI30 FI30 q31 p31 => ?_)
        have t32 := p31 0 71 (by decide)
        have t33 := p31 0 72 (by decide)
        have t34 := p31 0 73 (by decide)
        have t35 := p31 0 69 (by decide)
        have f36 := (show 0 ≤ I30 0 71 ∧ I30 0 71 ≤ 5 from (hI30 0 71).1)
        have f37 := (show 0 ≤ I30 0 72 ∧ I30 0 72 ≤ 1000 from (hI30 0 72).1)
        have f38 := (show 0 ≤ I30 0 73 ∧ I30 0 73 ≤ 1001 from (hI30 0 73).1)
        have f39 := (show 0 ≤ I30 0 69 ∧ I30 0 69 ≤ 1000 from (hI30 0 69).1)
        refine gv_run 1 true hD (pc' := 61) (lv' := [(0, .inr (.inr (some 0)))]) (st' := [.inr (.inr (some 0))]) (h' := gr_h I30 J19) (C := (True ∧ True)) rfl ⟨trivial, trivial⟩ ?_
        obtain ⟨r40, h40, E40, P40⟩ := r_next (ws0 := ws0) (tb := tb) hws htb ext I30 J19 hI30   (by omega)
        obtain ⟨I41, J42, rfl, hI41, g40, k40, ⟨rfl, q40⟩⟩ := P40
        have FI41 := gr_frt FI30 g40 rfl rfl
        have FJ42 := gr_fjt FJ19 k40 rfl rfl
        have t43 := g40 0 69 rfl
        have f44 := (show 0 ≤ I41 0 71 ∧ I41 0 71 ≤ 5 from (hI41 0 71).1)
        have f45 := (show 0 ≤ I41 0 72 ∧ I41 0 72 ≤ 1000 from (hI41 0 72).1)
        have f46 := (show 0 ≤ I41 0 73 ∧ I41 0 73 ≤ 1001 from (hI41 0 73).1)
        have f47 := (show 0 ≤ I41 0 69 ∧ I41 0 69 ≤ 1000 from (hI41 0 69).1)
        refine gv_callV hD rfl (As := []) (st := []) rfl (by decide) rfl rfl (gr_lV hws rfl) (Nat.le_of_ble_eq_true rfl) (gz_Ev_mono (d := 10) (by decide) E40) ?_
        show gv_X _ _ (64, [(0, .inr (.inr (some 0)))], [], gr_sh ++ ext, gr_h I41 J42)
        refine gv_run 1 true hD (pc' := 65) (lv' := [(0, .inr (.inr (some 0)))]) (st' := [.inl 1]) (h' := gr_h I41 J42) (C := (True ∧ True)) rfl ⟨trivial, trivial⟩ ?_
        exact gv_zret hD rfl (by omega) ⟨I41, J42, rfl, hI41, FI41, FJ42, ⟨_, rfl, by omega⟩⟩
      · refine gv_run 2 true hD (pc' := 48) (lv' := [(0, .inr (.inr (some 0)))]) (st' := [.inl 5, .inr (.inr (some 0))]) (h' := gr_h I18 J19) (C := ((True ∧ True) ∧ True)) rfl ⟨⟨trivial, trivial⟩, trivial⟩ ?_
        obtain ⟨r48, h48, E48, P48⟩ := r_no_ (ws0 := ws0) (tb := tb) hws htb ext I18 J19 hI18 5 ⟨by omega, by omega⟩ 
        obtain ⟨I49, J50, rfl, hI49, g48, k48, ⟨z48, rfl, q48⟩⟩ := P48
        have FI49 := gr_frt FI18 g48 rfl rfl
        have FJ50 := gr_fjt FJ19 k48 rfl rfl
        have t51 := g48 0 71 rfl
        have t52 := g48 0 72 rfl
        have t53 := g48 0 73 rfl
        have t54 := g48 0 69 rfl
        have f55 := (show 0 ≤ I49 0 71 ∧ I49 0 71 ≤ 5 from (hI49 0 71).1)
        have f56 := (show 0 ≤ I49 0 72 ∧ I49 0 72 ≤ 1000 from (hI49 0 72).1)
        have f57 := (show 0 ≤ I49 0 73 ∧ I49 0 73 ≤ 1001 from (hI49 0 73).1)
        have f58 := (show 0 ≤ I49 0 69 ∧ I49 0 69 ≤ 1000 from (hI49 0 69).1)
        refine gv_callV hD rfl (As := [.inl 5]) (st := []) rfl (by decide) rfl rfl (gr_lV hws rfl) (Nat.le_of_ble_eq_true rfl) (gz_Ev_mono (d := 2) (by decide) E48) ?_
        show gv_X _ _ (51, [(0, .inr (.inr (some 0)))], [.inl z48], gr_sh ++ ext, gr_h I49 J50)
        exact gv_zret hD rfl (by omega) ⟨I49, J50, rfl, hI49, FI49, FJ50, ⟨_, rfl, by omega⟩⟩
    · refine gv_run 2 true hD (pc' := 32) (lv' := [(0, .inr (.inr (some 0)))]) (st' := [.inl 1, .inr (.inr (some 0))]) (h' := gr_h I18 J19) (C := ((True ∧ True) ∧ True)) rfl ⟨⟨trivial, trivial⟩, trivial⟩ ?_
      obtain ⟨r59, h59, E59, P59⟩ := r_no_ (ws0 := ws0) (tb := tb) hws htb ext I18 J19 hI18 1 ⟨by omega, by omega⟩ 
      obtain ⟨I60, J61, rfl, hI60, g59, k59, ⟨z59, rfl, q59⟩⟩ := P59
      have FI60 := gr_frt FI18 g59 rfl rfl
      have FJ61 := gr_fjt FJ19 k59 rfl rfl
      have t62 := g59 0 71 rfl
      have t63 := g59 0 72 rfl
      have t64 := g59 0 73 rfl
      have t65 := g59 0 69 rfl
      have f66 := (show 0 ≤ I60 0 71 ∧ I60 0 71 ≤ 5 from (hI60 0 71).1)
      have f67 := (show 0 ≤ I60 0 72 ∧ I60 0 72 ≤ 1000 from (hI60 0 72).1)
      have f68 := (show 0 ≤ I60 0 73 ∧ I60 0 73 ≤ 1001 from (hI60 0 73).1)
      have f69 := (show 0 ≤ I60 0 69 ∧ I60 0 69 ≤ 1000 from (hI60 0 69).1)
      refine gv_callV hD rfl (As := [.inl 1]) (st := []) rfl (by decide) rfl rfl (gr_lV hws rfl) (Nat.le_of_ble_eq_true rfl) (gz_Ev_mono (d := 2) (by decide) E59) ?_
      show gv_X _ _ (35, [(0, .inr (.inr (some 0)))], [.inl z59], gr_sh ++ ext, gr_h I60 J61)
      exact gv_zret hD rfl (by omega) ⟨I60, J61, rfl, hI60, FI60, FJ61, ⟨_, rfl, by omega⟩⟩
  · refine gv_run 1 true hD (pc' := 17) (lv' := [(0, .inr (.inr (some 0)))]) (st' := [.inl 1]) (h' := gr_h I5 J) (C := (True ∧ True)) rfl ⟨trivial, trivial⟩ ?_
    exact gv_zret hD rfl (by omega) ⟨I5, J, rfl, hI5, FI5, FJ, ⟨_, rfl, by omega⟩⟩
set_option maxHeartbeats 4000000 in
set_option maxRecDepth 100000 in
theorem r_kind {ws0 : List Cond} {tb : String → gz_T} (hws : ∀ w ∈ gr_ws, w ∈ ws0) (htb : tb RX13 = gr_T) (ext : gz_Sh) (I : gr_I) (J : gr_J) (hI : gr_Inv I)   (x0 : I 0 71 = 5 ∨ I 0 73 ≤ I 0 69) (x1 : I 0 72 ≤ I 0 69) (x2 : I 0 71 = 0 ∨ (I 0 72 < I 0 73 ∧ I 0 72 < I 0 69)) (x3 : I 0 71 = 3 → 2 ≤ I 0 73 - I 0 72 ∧ I 0 73 - I 0 72 ≤ 14) (x4 : I 0 72 ≤ I 0 73) : ∃ r h', gz_Ev ws0 tb 12 (yX13_kind, cX13_kind, 3, (some .boolean)) [.inr (.inr (some 0))] (gr_sh ++ ext) (gr_h I J) r (gr_sh ++ ext) h' 0 0 ∧ (∃ (I' : gr_I) (J' : gr_J), h' = gr_h I' J' ∧ gr_Inv I' ∧ gr_fr [2, 71, 72, 73, 74, 75, 76, 77] [2] I I' ∧ gr_fj [2, 71, 72, 73, 74, 75, 76, 77] [2] J J' ∧ (∃ z : Int, r = some (.inl z) ∧ 0 ≤ z ∧ z ≤ 1 ∧ (I' 0 71 = 5 ∨ I' 0 73 ≤ I' 0 69) ∧ (I' 0 72 ≤ I' 0 69) ∧ (I' 0 71 = 0 ∨ (I' 0 72 < I' 0 73 ∧ I' 0 72 < I' 0 69)) ∧ (I' 0 71 = 3 → 2 ≤ I' 0 73 - I' 0 72 ∧ I' 0 73 - I' 0 72 ≤ 14) ∧ (I' 0 72 ≤ I' 0 73) ∧ (I' 0 69 = I 0 69) ∧ (I 0 73 ≤ I' 0 73) ∧ (I 0 72 ≤ I' 0 72))) := by
  have FI : gr_fr [2, 71, 72, 73, 74, 75, 76, 77] [2] I I := fun _ _ _ => rfl
  have FJ : gr_fj [2, 71, 72, 73, 74, 75, 76, 77] [2] J J := fun _ _ _ => rfl
  have hD : gv_D (gr_E ws0 tb 11 (yX13_kind, cX13_kind, 3, (some .boolean)) kX13_kind) := gq_ok oX13_kind
  refine gr_ev (d := 11) (l := kX13_kind) (Po := fun r h' => (∃ (I' : gr_I) (J' : gr_J), h' = gr_h I' J' ∧ gr_Inv I' ∧ gr_fr [2, 71, 72, 73, 74, 75, 76, 77] [2] I I' ∧ gr_fj [2, 71, 72, 73, 74, 75, 76, 77] [2] J J' ∧ (∃ z : Int, r = some (.inl z) ∧ 0 ≤ z ∧ z ≤ 1 ∧ (I' 0 71 = 5 ∨ I' 0 73 ≤ I' 0 69) ∧ (I' 0 72 ≤ I' 0 69) ∧ (I' 0 71 = 0 ∨ (I' 0 72 < I' 0 73 ∧ I' 0 72 < I' 0 69)) ∧ (I' 0 71 = 3 → 2 ≤ I' 0 73 - I' 0 72 ∧ I' 0 73 - I' 0 72 ≤ 14) ∧ (I' 0 72 ≤ I' 0 73) ∧ (I' 0 69 = I 0 69) ∧ (I 0 73 ≤ I' 0 73) ∧ (I 0 72 ≤ I' 0 72)))) htb rfl (Nat.le_of_ble_eq_true rfl) ?_
  have f1 := (show 0 ≤ I 0 71 ∧ I 0 71 ≤ 5 from (hI 0 71).1)
  have f2 := (show 0 ≤ I 0 72 ∧ I 0 72 ≤ 1000 from (hI 0 72).1)
  have f3 := (show 0 ≤ I 0 73 ∧ I 0 73 ≤ 1001 from (hI 0 73).1)
  have f4 := (show 0 ≤ I 0 69 ∧ I 0 69 ≤ 1000 from (hI 0 69).1)
  have f5 := (show 0 ≤ I 0 2 ∧ I 0 2 ≤ 32 from (hI 0 2).1)
  have L55 : ∀ (I6 : gr_I) (J7 : gr_J) (v1_8 : Int64) (s1_8 : Int), gr_Inv I6 → gr_fr [2, 71, 72, 73, 74, 75, 76, 77] [2] I I6 → gr_fj [2, 71, 72, 73, 74, 75, 76, 77] [2] J J7 → ((0 ≤ s1_8 ∧ s1_8 ≤ 1) ∧ (s1_8 = 0 ∨ I6 0 2 ≤ 31) ∧ (I6 0 71 = 5 ∨ I6 0 73 ≤ I6 0 69) ∧ (I6 0 72 ≤ I6 0 69) ∧ (I6 0 71 = 0 ∨ (I6 0 72 < I6 0 73 ∧ I6 0 72 < I6 0 69)) ∧ (I6 0 71 = 3 → 2 ≤ I6 0 73 - I6 0 72 ∧ I6 0 73 - I6 0 72 ≤ 14) ∧ (I6 0 72 ≤ I6 0 73) ∧ (I6 0 69 = I 0 69) ∧ (I 0 73 ≤ I6 0 73) ∧ (I 0 72 ≤ I6 0 72)) → gv_X (gr_E ws0 tb 11 (yX13_kind, cX13_kind, 3, (some .boolean)) kX13_kind) (gv_Q cX13_kind (some .boolean) (gr_sh ++ ext) (fun r h' => (∃ (I' : gr_I) (J' : gr_J), h' = gr_h I' J' ∧ gr_Inv I' ∧ gr_fr [2, 71, 72, 73, 74, 75, 76, 77] [2] I I' ∧ gr_fj [2, 71, 72, 73, 74, 75, 76, 77] [2] J J' ∧ (∃ z : Int, r = some (.inl z) ∧ 0 ≤ z ∧ z ≤ 1 ∧ (I' 0 71 = 5 ∨ I' 0 73 ≤ I' 0 69) ∧ (I' 0 72 ≤ I' 0 69) ∧ (I' 0 71 = 0 ∨ (I' 0 72 < I' 0 73 ∧ I' 0 72 < I' 0 69)) ∧ (I' 0 71 = 3 → 2 ≤ I' 0 73 - I' 0 72 ∧ I' 0 73 - I' 0 72 ≤ 14) ∧ (I' 0 72 ≤ I' 0 73) ∧ (I' 0 69 = I 0 69) ∧ (I 0 73 ≤ I' 0 73) ∧ (I 0 72 ≤ I' 0 72))))) (55, [(0, .inr (.inr (some 0))), (1, .inr (.inl v1_8))], [.inl s1_8, .inr (.inr (some 0))], gr_sh ++ ext, gr_h I6 J7) := by
    intro I6 J7 v1_8 s1_8 hI6 FI6 FJ7 m_8
    obtain ⟨hs1_8, e0_8, e1_8, e2_8, e3_8, e4_8, e5_8, e6_8, e7_8, e8_8⟩ := m_8
    have f9 := (show 0 ≤ I6 0 71 ∧ I6 0 71 ≤ 5 from (hI6 0 71).1)
    have f10 := (show 0 ≤ I6 0 72 ∧ I6 0 72 ≤ 1000 from (hI6 0 72).1)
    have f11 := (show 0 ≤ I6 0 73 ∧ I6 0 73 ≤ 1001 from (hI6 0 73).1)
    have f12 := (show 0 ≤ I6 0 69 ∧ I6 0 69 ≤ 1000 from (hI6 0 69).1)
    have f13 := (show 0 ≤ I6 0 2 ∧ I6 0 2 ≤ 32 from (hI6 0 2).1)
    obtain ⟨r14, h14, E14, P14⟩ := r_done (ws0 := ws0) (tb := tb) hws htb ext I6 J7 hI6 s1_8 ⟨by omega, by omega⟩ (by omega) (by omega) (by omega) (by omega) (by omega)
    obtain ⟨I15, J16, rfl, hI15, g14, k14, ⟨z14, rfl, q14⟩⟩ := P14
    have FI15 := gr_frt FI6 g14 rfl rfl
    have FJ16 := gr_fjt FJ7 k14 rfl rfl
    have t17 := g14 0 69 rfl
    have t18 := g14 0 2 rfl
    have f19 := (show 0 ≤ I15 0 71 ∧ I15 0 71 ≤ 5 from (hI15 0 71).1)
    have f20 := (show 0 ≤ I15 0 72 ∧ I15 0 72 ≤ 1000 from (hI15 0 72).1)
    have f21 := (show 0 ≤ I15 0 73 ∧ I15 0 73 ≤ 1001 from (hI15 0 73).1)
    have f22 := (show 0 ≤ I15 0 69 ∧ I15 0 69 ≤ 1000 from (hI15 0 69).1)
    have f23 := (show 0 ≤ I15 0 2 ∧ I15 0 2 ≤ 32 from (hI15 0 2).1)
    refine gv_callV hD rfl (As := [.inl s1_8]) (st := []) rfl (by decide) rfl rfl (gr_lV hws rfl) (Nat.le_of_ble_eq_true rfl) (gz_Ev_mono (d := 11) (by decide) E14) ?_
    show gv_X _ _ (58, [(0, .inr (.inr (some 0))), (1, .inr (.inl v1_8))], [.inl z14], gr_sh ++ ext, gr_h I15 J16)
    refine gv_if_ne (t := 63) hD rfl rfl ⟨by omega, by omega⟩ (fun c24 => ?_) (fun c24 => ?_)
    · have f25 := (show 0 ≤ I15 0 2 ∧ I15 0 2 ≤ 32 from (hI15 0 2).1)
      refine gv_run 7 true hD (pc' := 74) (lv' := [(0, .inr (.inr (some 0))), (1, .inr (.inl v1_8))]) (st' := [.inl 1, .inl (I15 0 2), .inr (.inr (some 0)), .inl (I15 0 2), .inr (.inr (some 2))]) (h' := gr_h I15 J16) (C := (((((((True ∧ True) ∧ True) ∧ True) ∧ True) ∧ True) ∧ True) ∧ True)) rfl ⟨⟨⟨⟨⟨⟨⟨trivial, trivial⟩, trivial⟩, trivial⟩, trivial⟩, trivial⟩, trivial⟩, trivial⟩ ?_
      refine gv_run 2 true hD (pc' := 78) (lv' := [(0, .inr (.inr (some 0))), (1, .inr (.inl v1_8))]) (st' := [.inl (I15 0 2), .inr (.inr (some 2))]) (h' := gz_up (gr_h I15 J16) 0 2 (.inl (((I15 0 2) + 1)))) (C := ((True ∧ True) ∧ True)) rfl ⟨⟨trivial, trivial⟩, trivial⟩ ?_
      refine gr_st hI15 FI15 rfl rfl ⟨⟨by show 0 ≤ _; omega, by show _ ≤ 32; omega⟩, trivial⟩ (fun I26 hI26 FI26 q27 p27 => ?_)
      have t28 := p27 0 71 (by decide)
      have t29 := p27 0 72 (by decide)
      have t30 := p27 0 73 (by decide)
      have t31 := p27 0 69 (by decide)
      have f32 := (show 0 ≤ I26 0 71 ∧ I26 0 71 ≤ 5 from (hI26 0 71).1)
      have f33 := (show 0 ≤ I26 0 72 ∧ I26 0 72 ≤ 1000 from (hI26 0 72).1)
      have f34 := (show 0 ≤ I26 0 73 ∧ I26 0 73 ≤ 1001 from (hI26 0 73).1)
      have f35 := (show 0 ≤ I26 0 69 ∧ I26 0 69 ≤ 1000 from (hI26 0 69).1)
      have f36 := (show 0 ≤ I26 0 2 ∧ I26 0 2 ≤ 32 from (hI26 0 2).1)
      refine gv_run 2 true hD (pc' := 80) (lv' := [(0, .inr (.inr (some 0))), (1, .inr (.inl v1_8))]) (st' := []) (h' := gz_up (gr_h I26 J16) 2 (Int.toNat ((I15 0 2))) (.inr (.inl v1_8))) (C := ((True ∧ True) ∧ (0 ≤ (I15 0 2) ∧ (I15 0 2) < ((32 : Nat) : Int)))) rfl ⟨⟨trivial, trivial⟩, ⟨by omega, by omega⟩⟩ ?_
      refine gr_stJ FJ16 rfl rfl (fun J37 FJ37 => ?_)
      refine gv_run 1 true hD (pc' := 81) (lv' := [(0, .inr (.inr (some 0))), (1, .inr (.inl v1_8))]) (st' := [.inl 1]) (h' := gr_h I26 J37) (C := (True ∧ True)) rfl ⟨trivial, trivial⟩ ?_
      exact gv_zret hD rfl (by omega) ⟨I26, J37, rfl, hI26, FI26, FJ37, ⟨_, rfl, by omega⟩⟩
    · refine gv_run 1 true hD (pc' := 62) (lv' := [(0, .inr (.inr (some 0))), (1, .inr (.inl v1_8))]) (st' := [.inl 0]) (h' := gr_h I15 J16) (C := (True ∧ True)) rfl ⟨trivial, trivial⟩ ?_
      exact gv_zret hD rfl (by omega) ⟨I15, J16, rfl, hI15, FI15, FJ16, ⟨_, rfl, by omega⟩⟩
  refine gv_run 1 true hD (pc' := 1) (lv' := [(0, .inr (.inr (some 0)))]) (st' := [.inr (.inr (some 0))]) (h' := gr_h I J) (C := (True ∧ True)) rfl ⟨trivial, trivial⟩ ?_
  obtain ⟨r38, h38, E38, P38⟩ := r_name (ws0 := ws0) (tb := tb) hws htb ext I J hI   
  obtain ⟨I39, J40, rfl, hI39, g38, k38, ⟨z38, rfl, q38⟩⟩ := P38
  have FI39 := gr_frt FI g38 rfl rfl
  have FJ40 := gr_fjt FJ k38 rfl rfl
  have t41 := g38 0 71 rfl
  have t42 := g38 0 72 rfl
  have t43 := g38 0 73 rfl
  have t44 := g38 0 69 rfl
  have t45 := g38 0 2 rfl
  have f46 := (show 0 ≤ I39 0 71 ∧ I39 0 71 ≤ 5 from (hI39 0 71).1)
  have f47 := (show 0 ≤ I39 0 72 ∧ I39 0 72 ≤ 1000 from (hI39 0 72).1)
  have f48 := (show 0 ≤ I39 0 73 ∧ I39 0 73 ≤ 1001 from (hI39 0 73).1)
  have f49 := (show 0 ≤ I39 0 69 ∧ I39 0 69 ≤ 1000 from (hI39 0 69).1)
  have f50 := (show 0 ≤ I39 0 2 ∧ I39 0 2 ≤ 32 from (hI39 0 2).1)
  refine gv_callV hD rfl (As := []) (st := []) rfl (by decide) rfl rfl (gr_lV hws rfl) (Nat.le_of_ble_eq_true rfl) (gz_Ev_mono (d := 3) (by decide) E38) ?_
  show gv_X _ _ (4, [(0, .inr (.inr (some 0)))], [.inl z38], gr_sh ++ ext, gr_h I39 J40)
  refine gv_if_ne (t := 9) hD rfl rfl ⟨by omega, by omega⟩ (fun c51 => ?_) (fun c51 => ?_)
  · refine gv_run 7 true hD (pc' := 20) (lv' := [(1, .inr (.inl (J40 0 75))), (0, .inr (.inr (some 0)))]) (st' := [.inr (.inr (some 0)), .inl 0, .inr (.inr (some 2))]) (h' := gr_h I39 J40) (C := (((((((True ∧ True) ∧ True) ∧ True) ∧ True) ∧ True) ∧ True) ∧ True)) rfl ⟨⟨⟨⟨⟨⟨⟨trivial, trivial⟩, trivial⟩, trivial⟩, trivial⟩, trivial⟩, trivial⟩, trivial⟩ ?_
    have f52 := (show 0 ≤ I39 0 2 ∧ I39 0 2 ≤ 32 from (hI39 0 2).1)
    refine gv_run 2 true hD (pc' := 24) (lv' := [(1, .inr (.inl (J40 0 75))), (0, .inr (.inr (some 0)))]) (st' := [.inr (.inl (J40 0 75)), .inl (I39 0 2), .inl 0, .inr (.inr (some 2))]) (h' := gr_h I39 J40) (C := ((True ∧ True) ∧ True)) rfl ⟨⟨trivial, trivial⟩, trivial⟩ ?_
    obtain ⟨r53, h53, E53, P53⟩ := r_find_2 (ws0 := ws0) (tb := tb) hws htb ext I39 J40 hI39 0 (I39 0 2) (J40 0 75) ⟨by omega, by omega⟩ ⟨by omega, by omega⟩ (by omega)
    obtain ⟨rfl, ⟨z53, rfl, q53⟩⟩ := P53
    refine gv_callS hD rfl (As := [.inr (.inr (some 2)), .inl 0, .inl (I39 0 2), .inr (.inl (J40 0 75))]) (st := []) rfl (gr_lS hws rfl) (Nat.le_of_ble_eq_true rfl) (gz_Ev_mono (d := 1) (by decide) E53) ?_
    show gv_X _ _ (27, [(1, .inr (.inl (J40 0 75))), (0, .inr (.inr (some 0)))], [.inl z53], gr_sh ++ ext, gr_h I39 J40)
    refine gv_if_lt (t := 36) hD rfl rfl ⟨by omega, by omega⟩ (fun c54 => ?_) (fun c54 => ?_)
    · refine gv_run 1 true hD (pc' := 37) (lv' := [(1, .inr (.inl (J40 0 75))), (0, .inr (.inr (some 0)))]) (st' := [.inr (.inr (some 0))]) (h' := gr_h I39 J40) (C := (True ∧ True)) rfl ⟨trivial, trivial⟩ ?_
      obtain ⟨r55, h55, E55, P55⟩ := r_next (ws0 := ws0) (tb := tb) hws htb ext I39 J40 hI39   (by omega)
      obtain ⟨I56, J57, rfl, hI56, g55, k55, ⟨rfl, q55⟩⟩ := P55
      have FI56 := gr_frt FI39 g55 rfl rfl
      have FJ57 := gr_fjt FJ40 k55 rfl rfl
      have t58 := g55 0 69 rfl
      have t59 := g55 0 2 rfl
      have f60 := (show 0 ≤ I56 0 71 ∧ I56 0 71 ≤ 5 from (hI56 0 71).1)
      have f61 := (show 0 ≤ I56 0 72 ∧ I56 0 72 ≤ 1000 from (hI56 0 72).1)
      have f62 := (show 0 ≤ I56 0 73 ∧ I56 0 73 ≤ 1001 from (hI56 0 73).1)
      have f63 := (show 0 ≤ I56 0 69 ∧ I56 0 69 ≤ 1000 from (hI56 0 69).1)
      have f64 := (show 0 ≤ I56 0 2 ∧ I56 0 2 ≤ 32 from (hI56 0 2).1)
      refine gv_callV hD rfl (As := []) (st := []) rfl (by decide) rfl rfl (gr_lV hws rfl) (Nat.le_of_ble_eq_true rfl) (gz_Ev_mono (d := 10) (by decide) E55) ?_
      show gv_X _ _ (40, [(1, .inr (.inl (J40 0 75))), (0, .inr (.inr (some 0)))], [], gr_sh ++ ext, gr_h I56 J57)
      have f65 := (show 0 ≤ I56 0 2 ∧ I56 0 2 ≤ 32 from (hI56 0 2).1)
      refine gv_run 4 true hD (pc' := 47) (lv' := [(1, .inr (.inl (J40 0 75))), (0, .inr (.inr (some 0)))]) (st' := [.inl 32, .inl (I56 0 2), .inr (.inr (some 0))]) (h' := gr_h I56 J57) (C := ((((True ∧ True) ∧ True) ∧ True) ∧ True)) rfl ⟨⟨⟨⟨trivial, trivial⟩, trivial⟩, trivial⟩, trivial⟩ ?_
      refine gv_icmp_ge (t := 54) hD rfl rfl ⟨⟨by omega, by omega⟩, ⟨by omega, by omega⟩⟩ (fun c66 => ?_) (fun c66 => ?_)
      · refine gv_run 1 true hD (pc' := 55) (lv' := [(1, .inr (.inl (J40 0 75))), (0, .inr (.inr (some 0)))]) (st' := [.inl 0, .inr (.inr (some 0))]) (h' := gr_h I56 J57) (C := (True ∧ True)) rfl ⟨trivial, trivial⟩ ?_
        refine gv_pick [1, 0] rfl ?_
        exact L55 I56 J57 (J40 0 75) 0 hI56 FI56 FJ57 (by omega)
      · refine gv_run 2 true hD (pc' := 55) (lv' := [(1, .inr (.inl (J40 0 75))), (0, .inr (.inr (some 0)))]) (st' := [.inl 1, .inr (.inr (some 0))]) (h' := gr_h I56 J57) (C := ((True ∧ True) ∧ True)) rfl ⟨⟨trivial, trivial⟩, trivial⟩ ?_
        refine gv_pick [1, 0] rfl ?_
        exact L55 I56 J57 (J40 0 75) 1 hI56 FI56 FJ57 (by omega)
    · refine gv_run 2 true hD (pc' := 32) (lv' := [(1, .inr (.inl (J40 0 75))), (0, .inr (.inr (some 0)))]) (st' := [.inl 4, .inr (.inr (some 0))]) (h' := gr_h I39 J40) (C := ((True ∧ True) ∧ True)) rfl ⟨⟨trivial, trivial⟩, trivial⟩ ?_
      obtain ⟨r67, h67, E67, P67⟩ := r_no_ (ws0 := ws0) (tb := tb) hws htb ext I39 J40 hI39 4 ⟨by omega, by omega⟩ 
      obtain ⟨I68, J69, rfl, hI68, g67, k67, ⟨z67, rfl, q67⟩⟩ := P67
      have FI68 := gr_frt FI39 g67 rfl rfl
      have FJ69 := gr_fjt FJ40 k67 rfl rfl
      have t70 := g67 0 71 rfl
      have t71 := g67 0 72 rfl
      have t72 := g67 0 73 rfl
      have t73 := g67 0 69 rfl
      have t74 := g67 0 2 rfl
      have f75 := (show 0 ≤ I68 0 71 ∧ I68 0 71 ≤ 5 from (hI68 0 71).1)
      have f76 := (show 0 ≤ I68 0 72 ∧ I68 0 72 ≤ 1000 from (hI68 0 72).1)
      have f77 := (show 0 ≤ I68 0 73 ∧ I68 0 73 ≤ 1001 from (hI68 0 73).1)
      have f78 := (show 0 ≤ I68 0 69 ∧ I68 0 69 ≤ 1000 from (hI68 0 69).1)
      have f79 := (show 0 ≤ I68 0 2 ∧ I68 0 2 ≤ 32 from (hI68 0 2).1)
      refine gv_callV hD rfl (As := [.inl 4]) (st := []) rfl (by decide) rfl rfl (gr_lV hws rfl) (Nat.le_of_ble_eq_true rfl) (gz_Ev_mono (d := 2) (by decide) E67) ?_
      show gv_X _ _ (35, [(1, .inr (.inl (J40 0 75))), (0, .inr (.inr (some 0)))], [.inl z67], gr_sh ++ ext, gr_h I68 J69)
      exact gv_zret hD rfl (by omega) ⟨I68, J69, rfl, hI68, FI68, FJ69, ⟨_, rfl, by omega⟩⟩
  · refine gv_run 1 true hD (pc' := 8) (lv' := [(0, .inr (.inr (some 0)))]) (st' := [.inl 0]) (h' := gr_h I39 J40) (C := (True ∧ True)) rfl ⟨trivial, trivial⟩ ?_
    exact gv_zret hD rfl (by omega) ⟨I39, J40, rfl, hI39, FI39, FJ40, ⟨_, rfl, by omega⟩⟩
set_option maxHeartbeats 4000000 in
set_option maxRecDepth 100000 in
theorem r_thing {ws0 : List Cond} {tb : String → gz_T} (hws : ∀ w ∈ gr_ws, w ∈ ws0) (htb : tb RX13 = gr_T) (ext : gz_Sh) (I : gr_I) (J : gr_J) (hI : gr_Inv I)   (x0 : I 0 71 = 5 ∨ I 0 73 ≤ I 0 69) (x1 : I 0 72 ≤ I 0 69) (x2 : I 0 71 = 0 ∨ (I 0 72 < I 0 73 ∧ I 0 72 < I 0 69)) (x3 : I 0 71 = 3 → 2 ≤ I 0 73 - I 0 72 ∧ I 0 73 - I 0 72 ≤ 14) (x4 : I 0 72 ≤ I 0 73) : ∃ r h', gz_Ev ws0 tb 12 (yX13_thing, cX13_thing, 3, (some .boolean)) [.inr (.inr (some 0))] (gr_sh ++ ext) (gr_h I J) r (gr_sh ++ ext) h' 0 0 ∧ (∃ (I' : gr_I) (J' : gr_J), h' = gr_h I' J' ∧ gr_Inv I' ∧ gr_fr [4, 71, 72, 73, 74, 75, 76, 77] [4] I I' ∧ gr_fj [4, 71, 72, 73, 74, 75, 76, 77] [4] J J' ∧ (∃ z : Int, r = some (.inl z) ∧ 0 ≤ z ∧ z ≤ 1 ∧ (I' 0 71 = 5 ∨ I' 0 73 ≤ I' 0 69) ∧ (I' 0 72 ≤ I' 0 69) ∧ (I' 0 71 = 0 ∨ (I' 0 72 < I' 0 73 ∧ I' 0 72 < I' 0 69)) ∧ (I' 0 71 = 3 → 2 ≤ I' 0 73 - I' 0 72 ∧ I' 0 73 - I' 0 72 ≤ 14) ∧ (I' 0 72 ≤ I' 0 73) ∧ (I' 0 69 = I 0 69) ∧ (I 0 73 ≤ I' 0 73) ∧ (I 0 72 ≤ I' 0 72))) := by
  have FI : gr_fr [4, 71, 72, 73, 74, 75, 76, 77] [4] I I := fun _ _ _ => rfl
  have FJ : gr_fj [4, 71, 72, 73, 74, 75, 76, 77] [4] J J := fun _ _ _ => rfl
  have hD : gv_D (gr_E ws0 tb 11 (yX13_thing, cX13_thing, 3, (some .boolean)) kX13_thing) := gq_ok oX13_thing
  refine gr_ev (d := 11) (l := kX13_thing) (Po := fun r h' => (∃ (I' : gr_I) (J' : gr_J), h' = gr_h I' J' ∧ gr_Inv I' ∧ gr_fr [4, 71, 72, 73, 74, 75, 76, 77] [4] I I' ∧ gr_fj [4, 71, 72, 73, 74, 75, 76, 77] [4] J J' ∧ (∃ z : Int, r = some (.inl z) ∧ 0 ≤ z ∧ z ≤ 1 ∧ (I' 0 71 = 5 ∨ I' 0 73 ≤ I' 0 69) ∧ (I' 0 72 ≤ I' 0 69) ∧ (I' 0 71 = 0 ∨ (I' 0 72 < I' 0 73 ∧ I' 0 72 < I' 0 69)) ∧ (I' 0 71 = 3 → 2 ≤ I' 0 73 - I' 0 72 ∧ I' 0 73 - I' 0 72 ≤ 14) ∧ (I' 0 72 ≤ I' 0 73) ∧ (I' 0 69 = I 0 69) ∧ (I 0 73 ≤ I' 0 73) ∧ (I 0 72 ≤ I' 0 72)))) htb rfl (Nat.le_of_ble_eq_true rfl) ?_
  have f1 := (show 0 ≤ I 0 71 ∧ I 0 71 ≤ 5 from (hI 0 71).1)
  have f2 := (show 0 ≤ I 0 72 ∧ I 0 72 ≤ 1000 from (hI 0 72).1)
  have f3 := (show 0 ≤ I 0 73 ∧ I 0 73 ≤ 1001 from (hI 0 73).1)
  have f4 := (show 0 ≤ I 0 69 ∧ I 0 69 ≤ 1000 from (hI 0 69).1)
  have f5 := (show 0 ≤ I 0 4 ∧ I 0 4 ≤ 8 from (hI 0 4).1)
  have L55 : ∀ (I6 : gr_I) (J7 : gr_J) (v1_8 : Int64) (s1_8 : Int), gr_Inv I6 → gr_fr [4, 71, 72, 73, 74, 75, 76, 77] [4] I I6 → gr_fj [4, 71, 72, 73, 74, 75, 76, 77] [4] J J7 → ((0 ≤ s1_8 ∧ s1_8 ≤ 1) ∧ (s1_8 = 0 ∨ I6 0 4 ≤ 7) ∧ (I6 0 71 = 5 ∨ I6 0 73 ≤ I6 0 69) ∧ (I6 0 72 ≤ I6 0 69) ∧ (I6 0 71 = 0 ∨ (I6 0 72 < I6 0 73 ∧ I6 0 72 < I6 0 69)) ∧ (I6 0 71 = 3 → 2 ≤ I6 0 73 - I6 0 72 ∧ I6 0 73 - I6 0 72 ≤ 14) ∧ (I6 0 72 ≤ I6 0 73) ∧ (I6 0 69 = I 0 69) ∧ (I 0 73 ≤ I6 0 73) ∧ (I 0 72 ≤ I6 0 72)) → gv_X (gr_E ws0 tb 11 (yX13_thing, cX13_thing, 3, (some .boolean)) kX13_thing) (gv_Q cX13_thing (some .boolean) (gr_sh ++ ext) (fun r h' => (∃ (I' : gr_I) (J' : gr_J), h' = gr_h I' J' ∧ gr_Inv I' ∧ gr_fr [4, 71, 72, 73, 74, 75, 76, 77] [4] I I' ∧ gr_fj [4, 71, 72, 73, 74, 75, 76, 77] [4] J J' ∧ (∃ z : Int, r = some (.inl z) ∧ 0 ≤ z ∧ z ≤ 1 ∧ (I' 0 71 = 5 ∨ I' 0 73 ≤ I' 0 69) ∧ (I' 0 72 ≤ I' 0 69) ∧ (I' 0 71 = 0 ∨ (I' 0 72 < I' 0 73 ∧ I' 0 72 < I' 0 69)) ∧ (I' 0 71 = 3 → 2 ≤ I' 0 73 - I' 0 72 ∧ I' 0 73 - I' 0 72 ≤ 14) ∧ (I' 0 72 ≤ I' 0 73) ∧ (I' 0 69 = I 0 69) ∧ (I 0 73 ≤ I' 0 73) ∧ (I 0 72 ≤ I' 0 72))))) (55, [(0, .inr (.inr (some 0))), (1, .inr (.inl v1_8))], [.inl s1_8, .inr (.inr (some 0))], gr_sh ++ ext, gr_h I6 J7) := by
    intro I6 J7 v1_8 s1_8 hI6 FI6 FJ7 m_8
    obtain ⟨hs1_8, e0_8, e1_8, e2_8, e3_8, e4_8, e5_8, e6_8, e7_8, e8_8⟩ := m_8
    have f9 := (show 0 ≤ I6 0 71 ∧ I6 0 71 ≤ 5 from (hI6 0 71).1)
    have f10 := (show 0 ≤ I6 0 72 ∧ I6 0 72 ≤ 1000 from (hI6 0 72).1)
    have f11 := (show 0 ≤ I6 0 73 ∧ I6 0 73 ≤ 1001 from (hI6 0 73).1)
    have f12 := (show 0 ≤ I6 0 69 ∧ I6 0 69 ≤ 1000 from (hI6 0 69).1)
    have f13 := (show 0 ≤ I6 0 4 ∧ I6 0 4 ≤ 8 from (hI6 0 4).1)
    obtain ⟨r14, h14, E14, P14⟩ := r_done (ws0 := ws0) (tb := tb) hws htb ext I6 J7 hI6 s1_8 ⟨by omega, by omega⟩ (by omega) (by omega) (by omega) (by omega) (by omega)
    obtain ⟨I15, J16, rfl, hI15, g14, k14, ⟨z14, rfl, q14⟩⟩ := P14
    have FI15 := gr_frt FI6 g14 rfl rfl
    have FJ16 := gr_fjt FJ7 k14 rfl rfl
    have t17 := g14 0 69 rfl
    have t18 := g14 0 4 rfl
    have f19 := (show 0 ≤ I15 0 71 ∧ I15 0 71 ≤ 5 from (hI15 0 71).1)
    have f20 := (show 0 ≤ I15 0 72 ∧ I15 0 72 ≤ 1000 from (hI15 0 72).1)
    have f21 := (show 0 ≤ I15 0 73 ∧ I15 0 73 ≤ 1001 from (hI15 0 73).1)
    have f22 := (show 0 ≤ I15 0 69 ∧ I15 0 69 ≤ 1000 from (hI15 0 69).1)
    have f23 := (show 0 ≤ I15 0 4 ∧ I15 0 4 ≤ 8 from (hI15 0 4).1)
    refine gv_callV hD rfl (As := [.inl s1_8]) (st := []) rfl (by decide) rfl rfl (gr_lV hws rfl) (Nat.le_of_ble_eq_true rfl) (gz_Ev_mono (d := 11) (by decide) E14) ?_
    show gv_X _ _ (58, [(0, .inr (.inr (some 0))), (1, .inr (.inl v1_8))], [.inl z14], gr_sh ++ ext, gr_h I15 J16)
    refine gv_if_ne (t := 63) hD rfl rfl ⟨by omega, by omega⟩ (fun c24 => ?_) (fun c24 => ?_)
    · have f25 := (show 0 ≤ I15 0 4 ∧ I15 0 4 ≤ 8 from (hI15 0 4).1)
      refine gv_run 7 true hD (pc' := 74) (lv' := [(0, .inr (.inr (some 0))), (1, .inr (.inl v1_8))]) (st' := [.inl 1, .inl (I15 0 4), .inr (.inr (some 0)), .inl (I15 0 4), .inr (.inr (some 4))]) (h' := gr_h I15 J16) (C := (((((((True ∧ True) ∧ True) ∧ True) ∧ True) ∧ True) ∧ True) ∧ True)) rfl ⟨⟨⟨⟨⟨⟨⟨trivial, trivial⟩, trivial⟩, trivial⟩, trivial⟩, trivial⟩, trivial⟩, trivial⟩ ?_
      refine gv_run 2 true hD (pc' := 78) (lv' := [(0, .inr (.inr (some 0))), (1, .inr (.inl v1_8))]) (st' := [.inl (I15 0 4), .inr (.inr (some 4))]) (h' := gz_up (gr_h I15 J16) 0 4 (.inl (((I15 0 4) + 1)))) (C := ((True ∧ True) ∧ True)) rfl ⟨⟨trivial, trivial⟩, trivial⟩ ?_
      refine gr_st hI15 FI15 rfl rfl ⟨⟨by show 0 ≤ _; omega, by show _ ≤ 8; omega⟩, trivial⟩ (fun I26 hI26 FI26 q27 p27 => ?_)
      have t28 := p27 0 71 (by decide)
      have t29 := p27 0 72 (by decide)
      have t30 := p27 0 73 (by decide)
      have t31 := p27 0 69 (by decide)
      have f32 := (show 0 ≤ I26 0 71 ∧ I26 0 71 ≤ 5 from (hI26 0 71).1)
      have f33 := (show 0 ≤ I26 0 72 ∧ I26 0 72 ≤ 1000 from (hI26 0 72).1)
      have f34 := (show 0 ≤ I26 0 73 ∧ I26 0 73 ≤ 1001 from (hI26 0 73).1)
      have f35 := (show 0 ≤ I26 0 69 ∧ I26 0 69 ≤ 1000 from (hI26 0 69).1)
      have f36 := (show 0 ≤ I26 0 4 ∧ I26 0 4 ≤ 8 from (hI26 0 4).1)
      refine gv_run 2 true hD (pc' := 80) (lv' := [(0, .inr (.inr (some 0))), (1, .inr (.inl v1_8))]) (st' := []) (h' := gz_up (gr_h I26 J16) 4 (Int.toNat ((I15 0 4))) (.inr (.inl v1_8))) (C := ((True ∧ True) ∧ (0 ≤ (I15 0 4) ∧ (I15 0 4) < ((8 : Nat) : Int)))) rfl ⟨⟨trivial, trivial⟩, ⟨by omega, by omega⟩⟩ ?_
      refine gr_stJ FJ16 rfl rfl (fun J37 FJ37 => ?_)
      refine gv_run 1 true hD (pc' := 81) (lv' := [(0, .inr (.inr (some 0))), (1, .inr (.inl v1_8))]) (st' := [.inl 1]) (h' := gr_h I26 J37) (C := (True ∧ True)) rfl ⟨trivial, trivial⟩ ?_
      exact gv_zret hD rfl (by omega) ⟨I26, J37, rfl, hI26, FI26, FJ37, ⟨_, rfl, by omega⟩⟩
    · refine gv_run 1 true hD (pc' := 62) (lv' := [(0, .inr (.inr (some 0))), (1, .inr (.inl v1_8))]) (st' := [.inl 0]) (h' := gr_h I15 J16) (C := (True ∧ True)) rfl ⟨trivial, trivial⟩ ?_
      exact gv_zret hD rfl (by omega) ⟨I15, J16, rfl, hI15, FI15, FJ16, ⟨_, rfl, by omega⟩⟩
  refine gv_run 1 true hD (pc' := 1) (lv' := [(0, .inr (.inr (some 0)))]) (st' := [.inr (.inr (some 0))]) (h' := gr_h I J) (C := (True ∧ True)) rfl ⟨trivial, trivial⟩ ?_
  obtain ⟨r38, h38, E38, P38⟩ := r_name (ws0 := ws0) (tb := tb) hws htb ext I J hI   
  obtain ⟨I39, J40, rfl, hI39, g38, k38, ⟨z38, rfl, q38⟩⟩ := P38
  have FI39 := gr_frt FI g38 rfl rfl
  have FJ40 := gr_fjt FJ k38 rfl rfl
  have t41 := g38 0 71 rfl
  have t42 := g38 0 72 rfl
  have t43 := g38 0 73 rfl
  have t44 := g38 0 69 rfl
  have t45 := g38 0 4 rfl
  have f46 := (show 0 ≤ I39 0 71 ∧ I39 0 71 ≤ 5 from (hI39 0 71).1)
  have f47 := (show 0 ≤ I39 0 72 ∧ I39 0 72 ≤ 1000 from (hI39 0 72).1)
  have f48 := (show 0 ≤ I39 0 73 ∧ I39 0 73 ≤ 1001 from (hI39 0 73).1)
  have f49 := (show 0 ≤ I39 0 69 ∧ I39 0 69 ≤ 1000 from (hI39 0 69).1)
  have f50 := (show 0 ≤ I39 0 4 ∧ I39 0 4 ≤ 8 from (hI39 0 4).1)
  refine gv_callV hD rfl (As := []) (st := []) rfl (by decide) rfl rfl (gr_lV hws rfl) (Nat.le_of_ble_eq_true rfl) (gz_Ev_mono (d := 3) (by decide) E38) ?_
  show gv_X _ _ (4, [(0, .inr (.inr (some 0)))], [.inl z38], gr_sh ++ ext, gr_h I39 J40)
  refine gv_if_ne (t := 9) hD rfl rfl ⟨by omega, by omega⟩ (fun c51 => ?_) (fun c51 => ?_)
  · refine gv_run 7 true hD (pc' := 20) (lv' := [(1, .inr (.inl (J40 0 75))), (0, .inr (.inr (some 0)))]) (st' := [.inr (.inr (some 0)), .inl 0, .inr (.inr (some 4))]) (h' := gr_h I39 J40) (C := (((((((True ∧ True) ∧ True) ∧ True) ∧ True) ∧ True) ∧ True) ∧ True)) rfl ⟨⟨⟨⟨⟨⟨⟨trivial, trivial⟩, trivial⟩, trivial⟩, trivial⟩, trivial⟩, trivial⟩, trivial⟩ ?_
    have f52 := (show 0 ≤ I39 0 4 ∧ I39 0 4 ≤ 8 from (hI39 0 4).1)
    refine gv_run 2 true hD (pc' := 24) (lv' := [(1, .inr (.inl (J40 0 75))), (0, .inr (.inr (some 0)))]) (st' := [.inr (.inl (J40 0 75)), .inl (I39 0 4), .inl 0, .inr (.inr (some 4))]) (h' := gr_h I39 J40) (C := ((True ∧ True) ∧ True)) rfl ⟨⟨trivial, trivial⟩, trivial⟩ ?_
    obtain ⟨r53, h53, E53, P53⟩ := r_find_4 (ws0 := ws0) (tb := tb) hws htb ext I39 J40 hI39 0 (I39 0 4) (J40 0 75) ⟨by omega, by omega⟩ ⟨by omega, by omega⟩ (by omega)
    obtain ⟨rfl, ⟨z53, rfl, q53⟩⟩ := P53
    refine gv_callS hD rfl (As := [.inr (.inr (some 4)), .inl 0, .inl (I39 0 4), .inr (.inl (J40 0 75))]) (st := []) rfl (gr_lS hws rfl) (Nat.le_of_ble_eq_true rfl) (gz_Ev_mono (d := 1) (by decide) E53) ?_
    show gv_X _ _ (27, [(1, .inr (.inl (J40 0 75))), (0, .inr (.inr (some 0)))], [.inl z53], gr_sh ++ ext, gr_h I39 J40)
    refine gv_if_lt (t := 36) hD rfl rfl ⟨by omega, by omega⟩ (fun c54 => ?_) (fun c54 => ?_)
    · refine gv_run 1 true hD (pc' := 37) (lv' := [(1, .inr (.inl (J40 0 75))), (0, .inr (.inr (some 0)))]) (st' := [.inr (.inr (some 0))]) (h' := gr_h I39 J40) (C := (True ∧ True)) rfl ⟨trivial, trivial⟩ ?_
      obtain ⟨r55, h55, E55, P55⟩ := r_next (ws0 := ws0) (tb := tb) hws htb ext I39 J40 hI39   (by omega)
      obtain ⟨I56, J57, rfl, hI56, g55, k55, ⟨rfl, q55⟩⟩ := P55
      have FI56 := gr_frt FI39 g55 rfl rfl
      have FJ57 := gr_fjt FJ40 k55 rfl rfl
      have t58 := g55 0 69 rfl
      have t59 := g55 0 4 rfl
      have f60 := (show 0 ≤ I56 0 71 ∧ I56 0 71 ≤ 5 from (hI56 0 71).1)
      have f61 := (show 0 ≤ I56 0 72 ∧ I56 0 72 ≤ 1000 from (hI56 0 72).1)
      have f62 := (show 0 ≤ I56 0 73 ∧ I56 0 73 ≤ 1001 from (hI56 0 73).1)
      have f63 := (show 0 ≤ I56 0 69 ∧ I56 0 69 ≤ 1000 from (hI56 0 69).1)
      have f64 := (show 0 ≤ I56 0 4 ∧ I56 0 4 ≤ 8 from (hI56 0 4).1)
      refine gv_callV hD rfl (As := []) (st := []) rfl (by decide) rfl rfl (gr_lV hws rfl) (Nat.le_of_ble_eq_true rfl) (gz_Ev_mono (d := 10) (by decide) E55) ?_
      show gv_X _ _ (40, [(1, .inr (.inl (J40 0 75))), (0, .inr (.inr (some 0)))], [], gr_sh ++ ext, gr_h I56 J57)
      have f65 := (show 0 ≤ I56 0 4 ∧ I56 0 4 ≤ 8 from (hI56 0 4).1)
      refine gv_run 4 true hD (pc' := 47) (lv' := [(1, .inr (.inl (J40 0 75))), (0, .inr (.inr (some 0)))]) (st' := [.inl 8, .inl (I56 0 4), .inr (.inr (some 0))]) (h' := gr_h I56 J57) (C := ((((True ∧ True) ∧ True) ∧ True) ∧ True)) rfl ⟨⟨⟨⟨trivial, trivial⟩, trivial⟩, trivial⟩, trivial⟩ ?_
      refine gv_icmp_ge (t := 54) hD rfl rfl ⟨⟨by omega, by omega⟩, ⟨by omega, by omega⟩⟩ (fun c66 => ?_) (fun c66 => ?_)
      · refine gv_run 1 true hD (pc' := 55) (lv' := [(1, .inr (.inl (J40 0 75))), (0, .inr (.inr (some 0)))]) (st' := [.inl 0, .inr (.inr (some 0))]) (h' := gr_h I56 J57) (C := (True ∧ True)) rfl ⟨trivial, trivial⟩ ?_
        refine gv_pick [1, 0] rfl ?_
        exact L55 I56 J57 (J40 0 75) 0 hI56 FI56 FJ57 (by omega)
      · refine gv_run 2 true hD (pc' := 55) (lv' := [(1, .inr (.inl (J40 0 75))), (0, .inr (.inr (some 0)))]) (st' := [.inl 1, .inr (.inr (some 0))]) (h' := gr_h I56 J57) (C := ((True ∧ True) ∧ True)) rfl ⟨⟨trivial, trivial⟩, trivial⟩ ?_
        refine gv_pick [1, 0] rfl ?_
        exact L55 I56 J57 (J40 0 75) 1 hI56 FI56 FJ57 (by omega)
    · refine gv_run 2 true hD (pc' := 32) (lv' := [(1, .inr (.inl (J40 0 75))), (0, .inr (.inr (some 0)))]) (st' := [.inl 4, .inr (.inr (some 0))]) (h' := gr_h I39 J40) (C := ((True ∧ True) ∧ True)) rfl ⟨⟨trivial, trivial⟩, trivial⟩ ?_
      obtain ⟨r67, h67, E67, P67⟩ := r_no_ (ws0 := ws0) (tb := tb) hws htb ext I39 J40 hI39 4 ⟨by omega, by omega⟩ 
      obtain ⟨I68, J69, rfl, hI68, g67, k67, ⟨z67, rfl, q67⟩⟩ := P67
      have FI68 := gr_frt FI39 g67 rfl rfl
      have FJ69 := gr_fjt FJ40 k67 rfl rfl
      have t70 := g67 0 71 rfl
      have t71 := g67 0 72 rfl
      have t72 := g67 0 73 rfl
      have t73 := g67 0 69 rfl
      have t74 := g67 0 4 rfl
      have f75 := (show 0 ≤ I68 0 71 ∧ I68 0 71 ≤ 5 from (hI68 0 71).1)
      have f76 := (show 0 ≤ I68 0 72 ∧ I68 0 72 ≤ 1000 from (hI68 0 72).1)
      have f77 := (show 0 ≤ I68 0 73 ∧ I68 0 73 ≤ 1001 from (hI68 0 73).1)
      have f78 := (show 0 ≤ I68 0 69 ∧ I68 0 69 ≤ 1000 from (hI68 0 69).1)
      have f79 := (show 0 ≤ I68 0 4 ∧ I68 0 4 ≤ 8 from (hI68 0 4).1)
      refine gv_callV hD rfl (As := [.inl 4]) (st := []) rfl (by decide) rfl rfl (gr_lV hws rfl) (Nat.le_of_ble_eq_true rfl) (gz_Ev_mono (d := 2) (by decide) E67) ?_
      show gv_X _ _ (35, [(1, .inr (.inl (J40 0 75))), (0, .inr (.inr (some 0)))], [.inl z67], gr_sh ++ ext, gr_h I68 J69)
      exact gv_zret hD rfl (by omega) ⟨I68, J69, rfl, hI68, FI68, FJ69, ⟨_, rfl, by omega⟩⟩
  · refine gv_run 1 true hD (pc' := 8) (lv' := [(0, .inr (.inr (some 0)))]) (st' := [.inl 0]) (h' := gr_h I39 J40) (C := (True ∧ True)) rfl ⟨trivial, trivial⟩ ?_
    exact gv_zret hD rfl (by omega) ⟨I39, J40, rfl, hI39, FI39, FJ40, ⟨_, rfl, by omega⟩⟩
set_option maxHeartbeats 4000000 in
set_option maxRecDepth 100000 in
theorem r_tongue {ws0 : List Cond} {tb : String → gz_T} (hws : ∀ w ∈ gr_ws, w ∈ ws0) (htb : tb RX13 = gr_T) (ext : gz_Sh) (I : gr_I) (J : gr_J) (hI : gr_Inv I)   (x0 : I 0 71 = 5 ∨ I 0 73 ≤ I 0 69) (x1 : I 0 72 ≤ I 0 69) (x2 : I 0 71 = 0 ∨ (I 0 72 < I 0 73 ∧ I 0 72 < I 0 69)) (x3 : I 0 71 = 3 → 2 ≤ I 0 73 - I 0 72 ∧ I 0 73 - I 0 72 ≤ 14) (x4 : I 0 72 ≤ I 0 73) : ∃ r h', gz_Ev ws0 tb 12 (yX13_tongue, cX13_tongue, 4, (some .boolean)) [.inr (.inr (some 0))] (gr_sh ++ ext) (gr_h I J) r (gr_sh ++ ext) h' 0 0 ∧ (∃ (I' : gr_I) (J' : gr_J), h' = gr_h I' J' ∧ gr_Inv I' ∧ gr_fr [1, 6, 71, 72, 73, 74, 75, 76, 77] [1] I I' ∧ gr_fj [1, 6, 71, 72, 73, 74, 75, 76, 77] [1] J J' ∧ (∃ z : Int, r = some (.inl z) ∧ 0 ≤ z ∧ z ≤ 1 ∧ (I' 0 71 = 5 ∨ I' 0 73 ≤ I' 0 69) ∧ (I' 0 72 ≤ I' 0 69) ∧ (I' 0 71 = 0 ∨ (I' 0 72 < I' 0 73 ∧ I' 0 72 < I' 0 69)) ∧ (I' 0 71 = 3 → 2 ≤ I' 0 73 - I' 0 72 ∧ I' 0 73 - I' 0 72 ≤ 14) ∧ (I' 0 72 ≤ I' 0 73) ∧ (I' 0 69 = I 0 69) ∧ (I 0 73 ≤ I' 0 73) ∧ (I 0 72 ≤ I' 0 72))) := by
  have FI : gr_fr [1, 6, 71, 72, 73, 74, 75, 76, 77] [1] I I := fun _ _ _ => rfl
  have FJ : gr_fj [1, 6, 71, 72, 73, 74, 75, 76, 77] [1] J J := fun _ _ _ => rfl
  have hD : gv_D (gr_E ws0 tb 11 (yX13_tongue, cX13_tongue, 4, (some .boolean)) kX13_tongue) := gq_ok oX13_tongue
  refine gr_ev (d := 11) (l := kX13_tongue) (Po := fun r h' => (∃ (I' : gr_I) (J' : gr_J), h' = gr_h I' J' ∧ gr_Inv I' ∧ gr_fr [1, 6, 71, 72, 73, 74, 75, 76, 77] [1] I I' ∧ gr_fj [1, 6, 71, 72, 73, 74, 75, 76, 77] [1] J J' ∧ (∃ z : Int, r = some (.inl z) ∧ 0 ≤ z ∧ z ≤ 1 ∧ (I' 0 71 = 5 ∨ I' 0 73 ≤ I' 0 69) ∧ (I' 0 72 ≤ I' 0 69) ∧ (I' 0 71 = 0 ∨ (I' 0 72 < I' 0 73 ∧ I' 0 72 < I' 0 69)) ∧ (I' 0 71 = 3 → 2 ≤ I' 0 73 - I' 0 72 ∧ I' 0 73 - I' 0 72 ≤ 14) ∧ (I' 0 72 ≤ I' 0 73) ∧ (I' 0 69 = I 0 69) ∧ (I 0 73 ≤ I' 0 73) ∧ (I 0 72 ≤ I' 0 72)))) htb rfl (Nat.le_of_ble_eq_true rfl) ?_
  have f1 := (show 0 ≤ I 0 71 ∧ I 0 71 ≤ 5 from (hI 0 71).1)
  have f2 := (show 0 ≤ I 0 72 ∧ I 0 72 ≤ 1000 from (hI 0 72).1)
  have f3 := (show 0 ≤ I 0 73 ∧ I 0 73 ≤ 1001 from (hI 0 73).1)
  have f4 := (show 0 ≤ I 0 69 ∧ I 0 69 ≤ 1000 from (hI 0 69).1)
  have f5 := (show 0 ≤ I 0 1 ∧ I 0 1 ≤ 8 from (hI 0 1).1)
  have L51 : ∀ (I6 : gr_I) (J7 : gr_J) (v1_8 : Int64) (v3_8 : Int) (s1_8 : Int), gr_Inv I6 → gr_fr [1, 6, 71, 72, 73, 74, 75, 76, 77] [1] I I6 → gr_fj [1, 6, 71, 72, 73, 74, 75, 76, 77] [1] J J7 → (((-1) ≤ v3_8 ∧ v3_8 ≤ 7) ∧ (0 ≤ s1_8 ∧ s1_8 ≤ 1) ∧ (s1_8 = 0 ∨ 0 ≤ v3_8 ∨ I6 0 1 ≤ 7) ∧ (I6 0 71 = 5 ∨ I6 0 73 ≤ I6 0 69) ∧ (I6 0 72 ≤ I6 0 69) ∧ (I6 0 71 = 0 ∨ (I6 0 72 < I6 0 73 ∧ I6 0 72 < I6 0 69)) ∧ (I6 0 71 = 3 → 2 ≤ I6 0 73 - I6 0 72 ∧ I6 0 73 - I6 0 72 ≤ 14) ∧ (I6 0 72 ≤ I6 0 73) ∧ (I6 0 69 = I 0 69) ∧ (I 0 73 ≤ I6 0 73) ∧ (I 0 72 ≤ I6 0 72)) → gv_X (gr_E ws0 tb 11 (yX13_tongue, cX13_tongue, 4, (some .boolean)) kX13_tongue) (gv_Q cX13_tongue (some .boolean) (gr_sh ++ ext) (fun r h' => (∃ (I' : gr_I) (J' : gr_J), h' = gr_h I' J' ∧ gr_Inv I' ∧ gr_fr [1, 6, 71, 72, 73, 74, 75, 76, 77] [1] I I' ∧ gr_fj [1, 6, 71, 72, 73, 74, 75, 76, 77] [1] J J' ∧ (∃ z : Int, r = some (.inl z) ∧ 0 ≤ z ∧ z ≤ 1 ∧ (I' 0 71 = 5 ∨ I' 0 73 ≤ I' 0 69) ∧ (I' 0 72 ≤ I' 0 69) ∧ (I' 0 71 = 0 ∨ (I' 0 72 < I' 0 73 ∧ I' 0 72 < I' 0 69)) ∧ (I' 0 71 = 3 → 2 ≤ I' 0 73 - I' 0 72 ∧ I' 0 73 - I' 0 72 ≤ 14) ∧ (I' 0 72 ≤ I' 0 73) ∧ (I' 0 69 = I 0 69) ∧ (I 0 73 ≤ I' 0 73) ∧ (I 0 72 ≤ I' 0 72))))) (51, [(0, .inr (.inr (some 0))), (1, .inr (.inl v1_8)), (3, .inl v3_8)], [.inl s1_8, .inr (.inr (some 0))], gr_sh ++ ext, gr_h I6 J7) := by
    intro I6 J7 v1_8 v3_8 s1_8 hI6 FI6 FJ7 m_8
    obtain ⟨hv3_8, hs1_8, e0_8, e1_8, e2_8, e3_8, e4_8, e5_8, e6_8, e7_8, e8_8⟩ := m_8
    have f9 := (show 0 ≤ I6 0 71 ∧ I6 0 71 ≤ 5 from (hI6 0 71).1)
    have f10 := (show 0 ≤ I6 0 72 ∧ I6 0 72 ≤ 1000 from (hI6 0 72).1)
    have f11 := (show 0 ≤ I6 0 73 ∧ I6 0 73 ≤ 1001 from (hI6 0 73).1)
    have f12 := (show 0 ≤ I6 0 69 ∧ I6 0 69 ≤ 1000 from (hI6 0 69).1)
    have f13 := (show 0 ≤ I6 0 1 ∧ I6 0 1 ≤ 8 from (hI6 0 1).1)
    have L82 : ∀ (I14 : gr_I) (J15 : gr_J) (v3_16 : Int), gr_Inv I14 → gr_fr [1, 6, 71, 72, 73, 74, 75, 76, 77] [1] I I14 → gr_fj [1, 6, 71, 72, 73, 74, 75, 76, 77] [1] J J15 → ((0 ≤ v3_16 ∧ v3_16 ≤ 7) ∧ (I14 0 71 = 5 ∨ I14 0 73 ≤ I14 0 69) ∧ (I14 0 72 ≤ I14 0 69) ∧ (I14 0 71 = 0 ∨ (I14 0 72 < I14 0 73 ∧ I14 0 72 < I14 0 69)) ∧ (I14 0 71 = 3 → 2 ≤ I14 0 73 - I14 0 72 ∧ I14 0 73 - I14 0 72 ≤ 14) ∧ (I14 0 72 ≤ I14 0 73) ∧ (I14 0 69 = I 0 69) ∧ (I 0 73 ≤ I14 0 73) ∧ (I 0 72 ≤ I14 0 72)) → gv_X (gr_E ws0 tb 11 (yX13_tongue, cX13_tongue, 4, (some .boolean)) kX13_tongue) (gv_Q cX13_tongue (some .boolean) (gr_sh ++ ext) (fun r h' => (∃ (I' : gr_I) (J' : gr_J), h' = gr_h I' J' ∧ gr_Inv I' ∧ gr_fr [1, 6, 71, 72, 73, 74, 75, 76, 77] [1] I I' ∧ gr_fj [1, 6, 71, 72, 73, 74, 75, 76, 77] [1] J J' ∧ (∃ z : Int, r = some (.inl z) ∧ 0 ≤ z ∧ z ≤ 1 ∧ (I' 0 71 = 5 ∨ I' 0 73 ≤ I' 0 69) ∧ (I' 0 72 ≤ I' 0 69) ∧ (I' 0 71 = 0 ∨ (I' 0 72 < I' 0 73 ∧ I' 0 72 < I' 0 69)) ∧ (I' 0 71 = 3 → 2 ≤ I' 0 73 - I' 0 72 ∧ I' 0 73 - I' 0 72 ≤ 14) ∧ (I' 0 72 ≤ I' 0 73) ∧ (I' 0 69 = I 0 69) ∧ (I 0 73 ≤ I' 0 73) ∧ (I 0 72 ≤ I' 0 72))))) (82, [(0, .inr (.inr (some 0))), (3, .inl v3_16)], [], gr_sh ++ ext, gr_h I14 J15) := by
      intro I14 J15 v3_16 hI14 FI14 FJ15 m_16
      obtain ⟨hv3_16, e0_16, e1_16, e2_16, e3_16, e4_16, e5_16, e6_16, e7_16⟩ := m_16
      have f17 := (show 0 ≤ I14 0 71 ∧ I14 0 71 ≤ 5 from (hI14 0 71).1)
      have f18 := (show 0 ≤ I14 0 72 ∧ I14 0 72 ≤ 1000 from (hI14 0 72).1)
      have f19 := (show 0 ≤ I14 0 73 ∧ I14 0 73 ≤ 1001 from (hI14 0 73).1)
      have f20 := (show 0 ≤ I14 0 69 ∧ I14 0 69 ≤ 1000 from (hI14 0 69).1)
      have f21 := (show 0 ≤ I14 0 1 ∧ I14 0 1 ≤ 8 from (hI14 0 1).1)
      refine gv_run 3 true hD (pc' := 87) (lv' := [(0, .inr (.inr (some 0))), (3, .inl v3_16)]) (st' := []) (h' := gz_up (gr_h I14 J15) 0 6 (.inl v3_16)) (C := (((True ∧ True) ∧ True) ∧ True)) rfl ⟨⟨⟨trivial, trivial⟩, trivial⟩, trivial⟩ ?_
      refine gr_st hI14 FI14 rfl rfl ⟨⟨by show (-1) ≤ _; omega, by show _ ≤ 7; omega⟩, trivial⟩ (fun I22 hI22 FI22 q23 p23 => ?_)
      have t24 := p23 0 71 (by decide)
      have t25 := p23 0 72 (by decide)
      have t26 := p23 0 73 (by decide)
      have t27 := p23 0 69 (by decide)
      have t28 := p23 0 1 (by decide)
      have f29 := (show 0 ≤ I22 0 71 ∧ I22 0 71 ≤ 5 from (hI22 0 71).1)
      have f30 := (show 0 ≤ I22 0 72 ∧ I22 0 72 ≤ 1000 from (hI22 0 72).1)
      have f31 := (show 0 ≤ I22 0 73 ∧ I22 0 73 ≤ 1001 from (hI22 0 73).1)
      have f32 := (show 0 ≤ I22 0 69 ∧ I22 0 69 ≤ 1000 from (hI22 0 69).1)
      have f33 := (show 0 ≤ I22 0 1 ∧ I22 0 1 ≤ 8 from (hI22 0 1).1)
      refine gv_run 1 true hD (pc' := 88) (lv' := [(0, .inr (.inr (some 0))), (3, .inl v3_16)]) (st' := [.inl 1]) (h' := gr_h I22 J15) (C := (True ∧ True)) rfl ⟨trivial, trivial⟩ ?_
      exact gv_zret hD rfl (by omega) ⟨I22, J15, rfl, hI22, FI22, FJ15, ⟨_, rfl, by omega⟩⟩
    obtain ⟨r34, h34, E34, P34⟩ := r_done (ws0 := ws0) (tb := tb) hws htb ext I6 J7 hI6 s1_8 ⟨by omega, by omega⟩ (by omega) (by omega) (by omega) (by omega) (by omega)
    obtain ⟨I35, J36, rfl, hI35, g34, k34, ⟨z34, rfl, q34⟩⟩ := P34
    have FI35 := gr_frt FI6 g34 rfl rfl
    have FJ36 := gr_fjt FJ7 k34 rfl rfl
    have t37 := g34 0 69 rfl
    have t38 := g34 0 1 rfl
    have f39 := (show 0 ≤ I35 0 71 ∧ I35 0 71 ≤ 5 from (hI35 0 71).1)
    have f40 := (show 0 ≤ I35 0 72 ∧ I35 0 72 ≤ 1000 from (hI35 0 72).1)
    have f41 := (show 0 ≤ I35 0 73 ∧ I35 0 73 ≤ 1001 from (hI35 0 73).1)
    have f42 := (show 0 ≤ I35 0 69 ∧ I35 0 69 ≤ 1000 from (hI35 0 69).1)
    have f43 := (show 0 ≤ I35 0 1 ∧ I35 0 1 ≤ 8 from (hI35 0 1).1)
    refine gv_callV hD rfl (As := [.inl s1_8]) (st := []) rfl (by decide) rfl rfl (gr_lV hws rfl) (Nat.le_of_ble_eq_true rfl) (gz_Ev_mono (d := 11) (by decide) E34) ?_
    show gv_X _ _ (54, [(0, .inr (.inr (some 0))), (1, .inr (.inl v1_8)), (3, .inl v3_8)], [.inl z34], gr_sh ++ ext, gr_h I35 J36)
    refine gv_if_ne (t := 59) hD rfl rfl ⟨by omega, by omega⟩ (fun c44 => ?_) (fun c44 => ?_)
    · refine gv_run 1 true hD (pc' := 60) (lv' := [(0, .inr (.inr (some 0))), (1, .inr (.inl v1_8)), (3, .inl v3_8)]) (st' := [.inl v3_8]) (h' := gr_h I35 J36) (C := (True ∧ True)) rfl ⟨trivial, trivial⟩ ?_
      refine gv_if_ge (t := 82) hD rfl rfl ⟨by omega, by omega⟩ (fun c45 => ?_) (fun c45 => ?_)
      · refine gv_pick [0, 2] rfl ?_
        exact L82 I35 J36 v3_8 hI35 FI35 FJ36 (by omega)
      · have f46 := (show 0 ≤ I35 0 1 ∧ I35 0 1 ≤ 8 from (hI35 0 1).1)
        refine gv_run 6 true hD (pc' := 71) (lv' := [(0, .inr (.inr (some 0))), (1, .inr (.inl v1_8)), (3, .inl v3_8)]) (st' := [.inl ((I35 0 1) + 1), .inr (.inr (some 0)), .inl (I35 0 1)]) (h' := gr_h I35 J36) (C := ((((((True ∧ True) ∧ True) ∧ True) ∧ True) ∧ True) ∧ True)) rfl ⟨⟨⟨⟨⟨⟨trivial, trivial⟩, trivial⟩, trivial⟩, trivial⟩, trivial⟩, trivial⟩ ?_
        refine gv_run 1 true hD (pc' := 74) (lv' := [(0, .inr (.inr (some 0))), (1, .inr (.inl v1_8)), (3, .inl v3_8)]) (st' := [.inl (I35 0 1)]) (h' := gz_up (gr_h I35 J36) 0 1 (.inl (((I35 0 1) + 1)))) (C := (True ∧ True)) rfl ⟨trivial, trivial⟩ ?_
        refine gr_st hI35 FI35 rfl rfl ⟨⟨by show 0 ≤ _; omega, by show _ ≤ 8; omega⟩, trivial⟩ (fun I47 hI47 FI47 q48 p48 => ?_)
        have t49 := p48 0 71 (by decide)
        have t50 := p48 0 72 (by decide)
        have t51 := p48 0 73 (by decide)
        have t52 := p48 0 69 (by decide)
        have f53 := (show 0 ≤ I47 0 71 ∧ I47 0 71 ≤ 5 from (hI47 0 71).1)
        have f54 := (show 0 ≤ I47 0 72 ∧ I47 0 72 ≤ 1000 from (hI47 0 72).1)
        have f55 := (show 0 ≤ I47 0 73 ∧ I47 0 73 ≤ 1001 from (hI47 0 73).1)
        have f56 := (show 0 ≤ I47 0 69 ∧ I47 0 69 ≤ 1000 from (hI47 0 69).1)
        have f57 := (show 0 ≤ I47 0 1 ∧ I47 0 1 ≤ 8 from (hI47 0 1).1)
        refine gv_run 5 true hD (pc' := 81) (lv' := [(3, .inl (I35 0 1)), (0, .inr (.inr (some 0))), (1, .inr (.inl v1_8))]) (st' := [.inr (.inl v1_8), .inl (I35 0 1), .inr (.inr (some 1))]) (h' := gr_h I47 J36) (C := (((((True ∧ True) ∧ True) ∧ True) ∧ True) ∧ True)) rfl ⟨⟨⟨⟨⟨trivial, trivial⟩, trivial⟩, trivial⟩, trivial⟩, trivial⟩ ?_
        refine gv_run 1 true hD (pc' := 82) (lv' := [(3, .inl (I35 0 1)), (0, .inr (.inr (some 0))), (1, .inr (.inl v1_8))]) (st' := []) (h' := gz_up (gr_h I47 J36) 1 (Int.toNat ((I35 0 1))) (.inr (.inl v1_8))) (C := (True ∧ (0 ≤ (I35 0 1) ∧ (I35 0 1) < ((8 : Nat) : Int)))) rfl ⟨trivial, ⟨by omega, by omega⟩⟩ ?_
        refine gr_stJ FJ36 rfl rfl (fun J58 FJ58 => ?_)
        refine gv_pick [1, 0] rfl ?_
        exact L82 I47 J58 (I35 0 1) hI47 FI47 FJ58 (by omega)
    · refine gv_run 1 true hD (pc' := 58) (lv' := [(0, .inr (.inr (some 0))), (1, .inr (.inl v1_8)), (3, .inl v3_8)]) (st' := [.inl 0]) (h' := gr_h I35 J36) (C := (True ∧ True)) rfl ⟨trivial, trivial⟩ ?_
      exact gv_zret hD rfl (by omega) ⟨I35, J36, rfl, hI35, FI35, FJ36, ⟨_, rfl, by omega⟩⟩
  have L46 : ∀ (I59 : gr_I) (J60 : gr_J) (v1_61 : Int64) (v3_61 : Int), gr_Inv I59 → gr_fr [1, 6, 71, 72, 73, 74, 75, 76, 77] [1] I I59 → gr_fj [1, 6, 71, 72, 73, 74, 75, 76, 77] [1] J J60 → (((-1) ≤ v3_61 ∧ v3_61 ≤ 7) ∧ (0 ≤ v3_61 ∨ I59 0 1 ≤ 7) ∧ (I59 0 71 = 5 ∨ I59 0 73 ≤ I59 0 69) ∧ (I59 0 72 ≤ I59 0 69) ∧ (I59 0 71 = 0 ∨ (I59 0 72 < I59 0 73 ∧ I59 0 72 < I59 0 69)) ∧ (I59 0 71 = 3 → 2 ≤ I59 0 73 - I59 0 72 ∧ I59 0 73 - I59 0 72 ≤ 14) ∧ (I59 0 72 ≤ I59 0 73) ∧ (I59 0 69 = I 0 69) ∧ (I 0 73 ≤ I59 0 73) ∧ (I 0 72 ≤ I59 0 72)) → gv_X (gr_E ws0 tb 11 (yX13_tongue, cX13_tongue, 4, (some .boolean)) kX13_tongue) (gv_Q cX13_tongue (some .boolean) (gr_sh ++ ext) (fun r h' => (∃ (I' : gr_I) (J' : gr_J), h' = gr_h I' J' ∧ gr_Inv I' ∧ gr_fr [1, 6, 71, 72, 73, 74, 75, 76, 77] [1] I I' ∧ gr_fj [1, 6, 71, 72, 73, 74, 75, 76, 77] [1] J J' ∧ (∃ z : Int, r = some (.inl z) ∧ 0 ≤ z ∧ z ≤ 1 ∧ (I' 0 71 = 5 ∨ I' 0 73 ≤ I' 0 69) ∧ (I' 0 72 ≤ I' 0 69) ∧ (I' 0 71 = 0 ∨ (I' 0 72 < I' 0 73 ∧ I' 0 72 < I' 0 69)) ∧ (I' 0 71 = 3 → 2 ≤ I' 0 73 - I' 0 72 ∧ I' 0 73 - I' 0 72 ≤ 14) ∧ (I' 0 72 ≤ I' 0 73) ∧ (I' 0 69 = I 0 69) ∧ (I 0 73 ≤ I' 0 73) ∧ (I 0 72 ≤ I' 0 72))))) (46, [(0, .inr (.inr (some 0))), (1, .inr (.inl v1_61)), (3, .inl v3_61)], [.inr (.inr (some 0))], gr_sh ++ ext, gr_h I59 J60) := by
    intro I59 J60 v1_61 v3_61 hI59 FI59 FJ60 m_61
    obtain ⟨hv3_61, e0_61, e1_61, e2_61, e3_61, e4_61, e5_61, e6_61, e7_61, e8_61⟩ := m_61
    have f62 := (show 0 ≤ I59 0 71 ∧ I59 0 71 ≤ 5 from (hI59 0 71).1)
    have f63 := (show 0 ≤ I59 0 72 ∧ I59 0 72 ≤ 1000 from (hI59 0 72).1)
    have f64 := (show 0 ≤ I59 0 73 ∧ I59 0 73 ≤ 1001 from (hI59 0 73).1)
    have f65 := (show 0 ≤ I59 0 69 ∧ I59 0 69 ≤ 1000 from (hI59 0 69).1)
    have f66 := (show 0 ≤ I59 0 1 ∧ I59 0 1 ≤ 8 from (hI59 0 1).1)
    refine gv_run 2 true hD (pc' := 51) (lv' := [(0, .inr (.inr (some 0))), (1, .inr (.inl v1_61)), (3, .inl v3_61)]) (st' := [.inl 1, .inr (.inr (some 0))]) (h' := gr_h I59 J60) (C := ((True ∧ True) ∧ True)) rfl ⟨⟨trivial, trivial⟩, trivial⟩ ?_
    exact L51 I59 J60 v1_61 v3_61 1 hI59 FI59 FJ60 (by omega)
  refine gv_run 1 true hD (pc' := 1) (lv' := [(0, .inr (.inr (some 0)))]) (st' := [.inr (.inr (some 0))]) (h' := gr_h I J) (C := (True ∧ True)) rfl ⟨trivial, trivial⟩ ?_
  obtain ⟨r67, h67, E67, P67⟩ := r_name (ws0 := ws0) (tb := tb) hws htb ext I J hI   
  obtain ⟨I68, J69, rfl, hI68, g67, k67, ⟨z67, rfl, q67⟩⟩ := P67
  have FI68 := gr_frt FI g67 rfl rfl
  have FJ69 := gr_fjt FJ k67 rfl rfl
  have t70 := g67 0 71 rfl
  have t71 := g67 0 72 rfl
  have t72 := g67 0 73 rfl
  have t73 := g67 0 69 rfl
  have t74 := g67 0 1 rfl
  have f75 := (show 0 ≤ I68 0 71 ∧ I68 0 71 ≤ 5 from (hI68 0 71).1)
  have f76 := (show 0 ≤ I68 0 72 ∧ I68 0 72 ≤ 1000 from (hI68 0 72).1)
  have f77 := (show 0 ≤ I68 0 73 ∧ I68 0 73 ≤ 1001 from (hI68 0 73).1)
  have f78 := (show 0 ≤ I68 0 69 ∧ I68 0 69 ≤ 1000 from (hI68 0 69).1)
  have f79 := (show 0 ≤ I68 0 1 ∧ I68 0 1 ≤ 8 from (hI68 0 1).1)
  refine gv_callV hD rfl (As := []) (st := []) rfl (by decide) rfl rfl (gr_lV hws rfl) (Nat.le_of_ble_eq_true rfl) (gz_Ev_mono (d := 3) (by decide) E67) ?_
  show gv_X _ _ (4, [(0, .inr (.inr (some 0)))], [.inl z67], gr_sh ++ ext, gr_h I68 J69)
  refine gv_if_ne (t := 9) hD rfl rfl ⟨by omega, by omega⟩ (fun c80 => ?_) (fun c80 => ?_)
  · refine gv_run 7 true hD (pc' := 20) (lv' := [(1, .inr (.inl (J69 0 75))), (0, .inr (.inr (some 0)))]) (st' := [.inr (.inr (some 0)), .inl 0, .inr (.inr (some 1))]) (h' := gr_h I68 J69) (C := (((((((True ∧ True) ∧ True) ∧ True) ∧ True) ∧ True) ∧ True) ∧ True)) rfl ⟨⟨⟨⟨⟨⟨⟨trivial, trivial⟩, trivial⟩, trivial⟩, trivial⟩, trivial⟩, trivial⟩, trivial⟩ ?_
    have f81 := (show 0 ≤ I68 0 1 ∧ I68 0 1 ≤ 8 from (hI68 0 1).1)
    refine gv_run 2 true hD (pc' := 24) (lv' := [(1, .inr (.inl (J69 0 75))), (0, .inr (.inr (some 0)))]) (st' := [.inr (.inl (J69 0 75)), .inl (I68 0 1), .inl 0, .inr (.inr (some 1))]) (h' := gr_h I68 J69) (C := ((True ∧ True) ∧ True)) rfl ⟨⟨trivial, trivial⟩, trivial⟩ ?_
    obtain ⟨r82, h82, E82, P82⟩ := r_find_1 (ws0 := ws0) (tb := tb) hws htb ext I68 J69 hI68 0 (I68 0 1) (J69 0 75) ⟨by omega, by omega⟩ ⟨by omega, by omega⟩ (by omega)
    obtain ⟨rfl, ⟨z82, rfl, q82⟩⟩ := P82
    refine gv_callS hD rfl (As := [.inr (.inr (some 1)), .inl 0, .inl (I68 0 1), .inr (.inl (J69 0 75))]) (st := []) rfl (gr_lS hws rfl) (Nat.le_of_ble_eq_true rfl) (gz_Ev_mono (d := 1) (by decide) E82) ?_
    show gv_X _ _ (27, [(1, .inr (.inl (J69 0 75))), (0, .inr (.inr (some 0)))], [.inl z82], gr_sh ++ ext, gr_h I68 J69)
    refine gv_run 2 true hD (pc' := 29) (lv' := [(3, .inl z82), (1, .inr (.inl (J69 0 75))), (0, .inr (.inr (some 0)))]) (st' := [.inr (.inr (some 0))]) (h' := gr_h I68 J69) (C := ((True ∧ True) ∧ True)) rfl ⟨⟨trivial, trivial⟩, trivial⟩ ?_
    obtain ⟨r83, h83, E83, P83⟩ := r_next (ws0 := ws0) (tb := tb) hws htb ext I68 J69 hI68   (by omega)
    obtain ⟨I84, J85, rfl, hI84, g83, k83, ⟨rfl, q83⟩⟩ := P83
    have FI84 := gr_frt FI68 g83 rfl rfl
    have FJ85 := gr_fjt FJ69 k83 rfl rfl
    have t86 := g83 0 69 rfl
    have t87 := g83 0 1 rfl
    have f88 := (show 0 ≤ I84 0 71 ∧ I84 0 71 ≤ 5 from (hI84 0 71).1)
    have f89 := (show 0 ≤ I84 0 72 ∧ I84 0 72 ≤ 1000 from (hI84 0 72).1)
    have f90 := (show 0 ≤ I84 0 73 ∧ I84 0 73 ≤ 1001 from (hI84 0 73).1)
    have f91 := (show 0 ≤ I84 0 69 ∧ I84 0 69 ≤ 1000 from (hI84 0 69).1)
    have f92 := (show 0 ≤ I84 0 1 ∧ I84 0 1 ≤ 8 from (hI84 0 1).1)
    refine gv_callV hD rfl (As := []) (st := []) rfl (by decide) rfl rfl (gr_lV hws rfl) (Nat.le_of_ble_eq_true rfl) (gz_Ev_mono (d := 10) (by decide) E83) ?_
    show gv_X _ _ (32, [(3, .inl z82), (1, .inr (.inl (J69 0 75))), (0, .inr (.inr (some 0)))], [], gr_sh ++ ext, gr_h I84 J85)
    refine gv_run 2 true hD (pc' := 34) (lv' := [(3, .inl z82), (1, .inr (.inl (J69 0 75))), (0, .inr (.inr (some 0)))]) (st' := [.inl z82, .inr (.inr (some 0))]) (h' := gr_h I84 J85) (C := ((True ∧ True) ∧ True)) rfl ⟨⟨trivial, trivial⟩, trivial⟩ ?_
    refine gv_if_ge (t := 46) hD rfl rfl ⟨by omega, by omega⟩ (fun c93 => ?_) (fun c93 => ?_)
    · refine gv_pick [2, 1, 0] rfl ?_
      exact L46 I84 J85 (J69 0 75) z82 hI84 FI84 FJ85 (by omega)
    · have f94 := (show 0 ≤ I84 0 1 ∧ I84 0 1 ≤ 8 from (hI84 0 1).1)
      refine gv_run 3 true hD (pc' := 43) (lv' := [(3, .inl z82), (1, .inr (.inl (J69 0 75))), (0, .inr (.inr (some 0)))]) (st' := [.inl 8, .inl (I84 0 1), .inr (.inr (some 0))]) (h' := gr_h I84 J85) (C := (((True ∧ True) ∧ True) ∧ True)) rfl ⟨⟨⟨trivial, trivial⟩, trivial⟩, trivial⟩ ?_
      refine gv_icmp_ge (t := 50) hD rfl rfl ⟨⟨by omega, by omega⟩, ⟨by omega, by omega⟩⟩ (fun c95 => ?_) (fun c95 => ?_)
      · refine gv_run 1 true hD (pc' := 51) (lv' := [(3, .inl z82), (1, .inr (.inl (J69 0 75))), (0, .inr (.inr (some 0)))]) (st' := [.inl 0, .inr (.inr (some 0))]) (h' := gr_h I84 J85) (C := (True ∧ True)) rfl ⟨trivial, trivial⟩ ?_
        refine gv_pick [2, 1, 0] rfl ?_
        exact L51 I84 J85 (J69 0 75) z82 0 hI84 FI84 FJ85 (by omega)
      · refine gv_pick [2, 1, 0] rfl ?_
        exact L46 I84 J85 (J69 0 75) z82 hI84 FI84 FJ85 (by omega)
  · refine gv_run 1 true hD (pc' := 8) (lv' := [(0, .inr (.inr (some 0)))]) (st' := [.inl 0]) (h' := gr_h I68 J69) (C := (True ∧ True)) rfl ⟨trivial, trivial⟩ ?_
    exact gv_zret hD rfl (by omega) ⟨I68, J69, rfl, hI68, FI68, FJ69, ⟨_, rfl, by omega⟩⟩
