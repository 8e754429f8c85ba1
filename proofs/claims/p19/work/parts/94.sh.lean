set_option maxHeartbeats 4000000 in
set_option maxRecDepth 100000 in
theorem r_tongue_p {ws0 : List Cond} {tb : String → gz_T} (hws : ∀ w ∈ gr_ws, w ∈ ws0) (htb : tb RX13 = gr_T) (ext : gz_Sh) (β : Int → Int) (N9 : Int) (p9 : Int) (I : gr_I) (J : gr_J) (hI : gr_Inv I)   (x0 : I 0 71 = 5 ∨ I 0 73 ≤ I 0 69) (x1 : I 0 72 ≤ I 0 69) (x2 : I 0 71 = 0 ∨ (I 0 72 < I 0 73 ∧ I 0 72 < I 0 69)) (x3 : I 0 71 = 3 → 2 ≤ I 0 73 - I 0 72 ∧ I 0 73 - I 0 72 ≤ 14) (x4 : I 0 72 ≤ I 0 73) (x5 : gr_ATp β N9 p9 I J) (x6 : 0 ≤ p9) : ∃ r h', gz_Ev ws0 tb 12 (yX13_tongue, cX13_tongue, 4, (some .boolean)) [.inr (.inr (some 0))] (gr_sh ++ ext) (gr_h I J) r (gr_sh ++ ext) h' 0 0 ∧ (∃ (I' : gr_I) (J' : gr_J), h' = gr_h I' J' ∧ gr_Inv I' ∧ gr_fr [1, 6, 71, 72, 73, 74, 75, 76, 77] [1] I I' ∧ gr_fj [1, 6, 71, 72, 73, 74, 75, 76, 77] [1] J J' ∧ (∃ z : Int, r = some (.inl z) ∧ 0 ≤ z ∧ z ≤ 1 ∧ (I' 0 71 = 5 ∨ I' 0 73 ≤ I' 0 69) ∧ (I' 0 72 ≤ I' 0 69) ∧ (I' 0 71 = 0 ∨ (I' 0 72 < I' 0 73 ∧ I' 0 72 < I' 0 69)) ∧ (I' 0 71 = 3 → 2 ≤ I' 0 73 - I' 0 72 ∧ I' 0 73 - I' 0 72 ≤ 14) ∧ (I' 0 72 ≤ I' 0 73) ∧ (I' 0 69 = I 0 69) ∧ (I 0 73 ≤ I' 0 73) ∧ (I 0 72 ≤ I' 0 72) ∧ (gs_Or z (0 ≤ (gs_tong β N9 I J (I 0 78) p9) ∧ gr_ATp β N9 (gs_tong β N9 I J (I 0 78) p9) I' J' ∧ (gs_lk I J 1 1 (gs_rn β N9 p9) < 0 → gs_put 1 1 (gs_rn β N9 p9) I J I' J' ∧ I' 0 6 = I 0 1) ∧ (0 ≤ gs_lk I J 1 1 (gs_rn β N9 p9) → gs_same 1 1 I J I' J' ∧ I' 0 6 = gs_lk I J 1 1 (gs_rn β N9 p9))) ((gs_tong β N9 I J (I 0 78) p9) < 0 ∧ I' 0 77 = -1 - (gs_tong β N9 I J (I 0 78) p9) ∧ gs_same 1 1 I J I' J' ∧ I' 0 6 = I 0 6)))) := by
  have FI : gr_fr [1, 6, 71, 72, 73, 74, 75, 76, 77] [1] I I := fun _ _ _ => rfl
  have FJ : gr_fj [1, 6, 71, 72, 73, 74, 75, 76, 77] [1] J J := fun _ _ _ => rfl
  have hD : gv_D (gr_E ws0 tb 11 (yX13_tongue, cX13_tongue, 4, (some .boolean)) kX13_tongue) := gq_ok oX13_tongue
  refine gr_ev (d := 11) (l := kX13_tongue) (Po := fun r h' => (∃ (I' : gr_I) (J' : gr_J), h' = gr_h I' J' ∧ gr_Inv I' ∧ gr_fr [1, 6, 71, 72, 73, 74, 75, 76, 77] [1] I I' ∧ gr_fj [1, 6, 71, 72, 73, 74, 75, 76, 77] [1] J J' ∧ (∃ z : Int, r = some (.inl z) ∧ 0 ≤ z ∧ z ≤ 1 ∧ (I' 0 71 = 5 ∨ I' 0 73 ≤ I' 0 69) ∧ (I' 0 72 ≤ I' 0 69) ∧ (I' 0 71 = 0 ∨ (I' 0 72 < I' 0 73 ∧ I' 0 72 < I' 0 69)) ∧ (I' 0 71 = 3 → 2 ≤ I' 0 73 - I' 0 72 ∧ I' 0 73 - I' 0 72 ≤ 14) ∧ (I' 0 72 ≤ I' 0 73) ∧ (I' 0 69 = I 0 69) ∧ (I 0 73 ≤ I' 0 73) ∧ (I 0 72 ≤ I' 0 72) ∧ (gs_Or z (0 ≤ (gs_tong β N9 I J (I 0 78) p9) ∧ gr_ATp β N9 (gs_tong β N9 I J (I 0 78) p9) I' J' ∧ (gs_lk I J 1 1 (gs_rn β N9 p9) < 0 → gs_put 1 1 (gs_rn β N9 p9) I J I' J' ∧ I' 0 6 = I 0 1) ∧ (0 ≤ gs_lk I J 1 1 (gs_rn β N9 p9) → gs_same 1 1 I J I' J' ∧ I' 0 6 = gs_lk I J 1 1 (gs_rn β N9 p9))) ((gs_tong β N9 I J (I 0 78) p9) < 0 ∧ I' 0 77 = -1 - (gs_tong β N9 I J (I 0 78) p9) ∧ gs_same 1 1 I J I' J' ∧ I' 0 6 = I 0 6))))) htb rfl (Nat.le_of_ble_eq_true rfl) ?_
  have tAT := gr_ATp_l x5
  have f1 := (show 0 ≤ I 0 71 ∧ I 0 71 ≤ 5 from (hI 0 71).1)
  have f2 := (show 0 ≤ I 0 72 ∧ I 0 72 ≤ 1000 from (hI 0 72).1)
  have f3 := (show 0 ≤ I 0 73 ∧ I 0 73 ≤ 1001 from (hI 0 73).1)
  have f4 := (show 0 ≤ I 0 69 ∧ I 0 69 ≤ 1000 from (hI 0 69).1)
  have f5 := (show 0 ≤ I 0 1 ∧ I 0 1 ≤ 8 from (hI 0 1).1)
  have f6 := (show (-1) ≤ I 0 6 ∧ I 0 6 ≤ 7 from (hI 0 6).1)
  refine gv_run 1 true hD (pc' := 1) (lv' := [(0, .inr (.inr (some 0)))]) (st' := [.inr (.inr (some 0))]) (h' := gr_h I J) (C := (True ∧ True)) rfl ⟨trivial, trivial⟩ ?_
  obtain ⟨r7, h7, E7, P7⟩ := r_name_p (ws0 := ws0) (tb := tb) hws htb ext β N9 p9 I J hI   x5 (by omega)
  obtain ⟨I8, J9, rfl, hI8, g7, k7, ⟨z7, rfl, q7⟩⟩ := P7
  have FI8 := gr_frt FI g7 rfl rfl
  have FJ9 := gr_fjt FJ k7 rfl rfl
  have t10 := g7 0 71 rfl
  have t11 := g7 0 72 rfl
  have t12 := g7 0 73 rfl
  have t13 := g7 0 69 rfl
  have t14 := g7 0 1 rfl
  have t15 := g7 0 6 rfl
  have f16 := (show 0 ≤ I8 0 71 ∧ I8 0 71 ≤ 5 from (hI8 0 71).1)
  have f17 := (show 0 ≤ I8 0 72 ∧ I8 0 72 ≤ 1000 from (hI8 0 72).1)
  have f18 := (show 0 ≤ I8 0 73 ∧ I8 0 73 ≤ 1001 from (hI8 0 73).1)
  have f19 := (show 0 ≤ I8 0 69 ∧ I8 0 69 ≤ 1000 from (hI8 0 69).1)
  have f20 := (show 0 ≤ I8 0 1 ∧ I8 0 1 ≤ 8 from (hI8 0 1).1)
  have f21 := (show (-1) ≤ I8 0 6 ∧ I8 0 6 ≤ 7 from (hI8 0 6).1)
  have A22 := gr_ATp_F x5 g7 k7 rfl
  have t23 := gr_ATp_l A22
  refine gv_callV hD rfl (As := []) (st := []) rfl (by decide) rfl rfl (gr_lV hws rfl) (Nat.le_of_ble_eq_true rfl) (gz_Ev_mono (d := 3) (by decide) E7) ?_
  show gv_X _ _ (4, [(0, .inr (.inr (some 0)))], [.inl z7], gr_sh ++ ext, gr_h I8 J9)
  refine gv_if_ne (t := 9) hD rfl rfl ⟨by omega, by omega⟩ (fun c24 => ?_) (fun c24 => ?_)
  · refine gv_run 7 true hD (pc' := 20) (lv' := [(1, .inr (.inl (J9 0 75))), (0, .inr (.inr (some 0)))]) (st' := [.inr (.inr (some 0)), .inl 0, .inr (.inr (some 1))]) (h' := gr_h I8 J9) (C := (((((((True ∧ True) ∧ True) ∧ True) ∧ True) ∧ True) ∧ True) ∧ True)) rfl ⟨⟨⟨⟨⟨⟨⟨trivial, trivial⟩, trivial⟩, trivial⟩, trivial⟩, trivial⟩, trivial⟩, trivial⟩ ?_
    have f25 := (show 0 ≤ I8 0 1 ∧ I8 0 1 ≤ 8 from (hI8 0 1).1)
    refine gv_run 2 true hD (pc' := 24) (lv' := [(1, .inr (.inl (J9 0 75))), (0, .inr (.inr (some 0)))]) (st' := [.inr (.inl (J9 0 75)), .inl (I8 0 1), .inl 0, .inr (.inr (some 1))]) (h' := gr_h I8 J9) (C := ((True ∧ True) ∧ True)) rfl ⟨⟨trivial, trivial⟩, trivial⟩ ?_
    obtain ⟨r26, h26, E26, P26⟩ := r_find_1_p (ws0 := ws0) (tb := tb) hws htb ext I8 J9 hI8 0 (I8 0 1) (J9 0 75) ⟨by omega, by omega⟩ ⟨by omega, by omega⟩ (by omega)
    obtain ⟨rfl, ⟨z26, rfl, q26⟩⟩ := P26
    have t27 := q26.2.2.2.trans (gs_lk_eq (I := I) (J := J) (w := gs_rn β N9 p9) (fun k => (k7 1 k rfl)) (g7 0 1 rfl) (gr_ATp_w A22))
    refine gv_callS hD rfl (As := [.inr (.inr (some 1)), .inl 0, .inl (I8 0 1), .inr (.inl (J9 0 75))]) (st := []) rfl (gr_lS hws rfl) (Nat.le_of_ble_eq_true rfl) (gz_Ev_mono (d := 1) (by decide) E26) ?_
    show gv_X _ _ (27, [(1, .inr (.inl (J9 0 75))), (0, .inr (.inr (some 0)))], [.inl z26], gr_sh ++ ext, gr_h I8 J9)
    refine gv_run 2 true hD (pc' := 29) (lv' := [(3, .inl z26), (1, .inr (.inl (J9 0 75))), (0, .inr (.inr (some 0)))]) (st' := [.inr (.inr (some 0))]) (h' := gr_h I8 J9) (C := ((True ∧ True) ∧ True)) rfl ⟨⟨trivial, trivial⟩, trivial⟩ ?_
    obtain ⟨r28, h28, E28, P28⟩ := r_next_p (ws0 := ws0) (tb := tb) hws htb ext β N9 I8 J9 hI8   (by omega) A22.1.1 A22.1.2
    obtain ⟨I29, J30, rfl, hI29, g28, k28, ⟨rfl, q28⟩⟩ := P28
    have FI29 := gr_frt FI8 g28 rfl rfl
    have FJ30 := gr_fjt FJ9 k28 rfl rfl
    have t31 := g28 0 69 rfl
    have t32 := g28 0 1 rfl
    have t33 := g28 0 6 rfl
    have f34 := (show 0 ≤ I29 0 71 ∧ I29 0 71 ≤ 5 from (hI29 0 71).1)
    have f35 := (show 0 ≤ I29 0 72 ∧ I29 0 72 ≤ 1000 from (hI29 0 72).1)
    have f36 := (show 0 ≤ I29 0 73 ∧ I29 0 73 ≤ 1001 from (hI29 0 73).1)
    have f37 := (show 0 ≤ I29 0 69 ∧ I29 0 69 ≤ 1000 from (hI29 0 69).1)
    have f38 := (show 0 ≤ I29 0 1 ∧ I29 0 1 ≤ 8 from (hI29 0 1).1)
    have f39 := (show (-1) ≤ I29 0 6 ∧ I29 0 6 ≤ 7 from (hI29 0 6).1)
    have A40 := gr_ATp_nx A22 q28.2.2.2.2.2
    have t41 := gr_ATp_l A40
    refine gv_callV hD rfl (As := []) (st := []) rfl (by decide) rfl rfl (gr_lV hws rfl) (Nat.le_of_ble_eq_true rfl) (gz_Ev_mono (d := 10) (by decide) E28) ?_
    show gv_X _ _ (32, [(3, .inl z26), (1, .inr (.inl (J9 0 75))), (0, .inr (.inr (some 0)))], [], gr_sh ++ ext, gr_h I29 J30)
    refine gv_run 2 true hD (pc' := 34) (lv' := [(3, .inl z26), (1, .inr (.inl (J9 0 75))), (0, .inr (.inr (some 0)))]) (st' := [.inl z26, .inr (.inr (some 0))]) (h' := gr_h I29 J30) (C := ((True ∧ True) ∧ True)) rfl ⟨⟨trivial, trivial⟩, trivial⟩ ?_
    refine gv_if_ge (t := 46) hD rfl rfl ⟨by omega, by omega⟩ (fun c42 => ?_) (fun c42 => ?_)
    · refine gv_run 2 true hD (pc' := 51) (lv' := [(3, .inl z26), (1, .inr (.inl (J9 0 75))), (0, .inr (.inr (some 0)))]) (st' := [.inl 1, .inr (.inr (some 0))]) (h' := gr_h I29 J30) (C := ((True ∧ True) ∧ True)) rfl ⟨⟨trivial, trivial⟩, trivial⟩ ?_
      obtain ⟨r43, h43, E43, P43⟩ := r_done_p (ws0 := ws0) (tb := tb) hws htb ext β N9 (gs_X β N9 p9) I29 J30 hI29 1 ⟨by omega, by omega⟩ (by omega) (by omega) (by omega) (by omega) (by omega) A40 (by omega)
      obtain ⟨I44, J45, rfl, hI44, g43, k43, ⟨z43, rfl, q43⟩⟩ := P43
      have FI44 := gr_frt FI29 g43 rfl rfl
      have FJ45 := gr_fjt FJ30 k43 rfl rfl
      have t46 := g43 0 69 rfl
      have t47 := g43 0 1 rfl
      have t48 := g43 0 6 rfl
      have f49 := (show 0 ≤ I44 0 71 ∧ I44 0 71 ≤ 5 from (hI44 0 71).1)
      have f50 := (show 0 ≤ I44 0 72 ∧ I44 0 72 ≤ 1000 from (hI44 0 72).1)
      have f51 := (show 0 ≤ I44 0 73 ∧ I44 0 73 ≤ 1001 from (hI44 0 73).1)
      have f52 := (show 0 ≤ I44 0 69 ∧ I44 0 69 ≤ 1000 from (hI44 0 69).1)
      have f53 := (show 0 ≤ I44 0 1 ∧ I44 0 1 ≤ 8 from (hI44 0 1).1)
      have f54 := (show (-1) ≤ I44 0 6 ∧ I44 0 6 ≤ 7 from (hI44 0 6).1)
      refine gv_callV hD rfl (As := [.inl 1]) (st := []) rfl (by decide) rfl rfl (gr_lV hws rfl) (Nat.le_of_ble_eq_true rfl) (gz_Ev_mono (d := 11) (by decide) E43) ?_
      show gv_X _ _ (54, [(3, .inl z26), (1, .inr (.inl (J9 0 75))), (0, .inr (.inr (some 0)))], [.inl z43], gr_sh ++ ext, gr_h I44 J45)
      refine gv_if_ne (t := 59) hD rfl rfl ⟨by omega, by omega⟩ (fun c55 => ?_) (fun c55 => ?_)
      · have Q56 := q43.2.2.2.2.2.2.2.2.2.2.2.2
        rw [FI29 0 78 rfl] at Q56
        obtain ⟨u56, A56⟩ := gs_or1 Q56 (by omega)
        have t57 := gr_ATp_l A56
        refine gv_run 1 true hD (pc' := 60) (lv' := [(3, .inl z26), (1, .inr (.inl (J9 0 75))), (0, .inr (.inr (some 0)))]) (st' := [.inl z26]) (h' := gr_h I44 J45) (C := (True ∧ True)) rfl ⟨trivial, trivial⟩ ?_
        refine gv_if_ge (t := 82) hD rfl rfl ⟨by omega, by omega⟩ (fun c58 => ?_) (fun c58 => ?_)
        · refine gv_run 3 true hD (pc' := 87) (lv' := [(3, .inl z26), (1, .inr (.inl (J9 0 75))), (0, .inr (.inr (some 0)))]) (st' := []) (h' := gz_up (gr_h I44 J45) 0 6 (.inl z26)) (C := (((True ∧ True) ∧ True) ∧ True)) rfl ⟨⟨⟨trivial, trivial⟩, trivial⟩, trivial⟩ ?_
          refine gr_st hI44 FI44 rfl rfl ⟨⟨by show (-1) ≤ _; omega, by show _ ≤ 7; omega⟩, trivial⟩ (fun I59 hI59 FI59 q60 p60 => ?_)
          have t61 := p60 0 71 (by decide)
          have t62 := p60 0 72 (by decide)
          have t63 := p60 0 73 (by decide)
          have t64 := p60 0 69 (by decide)
          have t65 := p60 0 1 (by decide)
          have f66 := (show 0 ≤ I59 0 71 ∧ I59 0 71 ≤ 5 from (hI59 0 71).1)
          have f67 := (show 0 ≤ I59 0 72 ∧ I59 0 72 ≤ 1000 from (hI59 0 72).1)
          have f68 := (show 0 ≤ I59 0 73 ∧ I59 0 73 ≤ 1001 from (hI59 0 73).1)
          have f69 := (show 0 ≤ I59 0 69 ∧ I59 0 69 ≤ 1000 from (hI59 0 69).1)
          have f70 := (show 0 ≤ I59 0 1 ∧ I59 0 1 ≤ 8 from (hI59 0 1).1)
          have f71 := (show (-1) ≤ I59 0 6 ∧ I59 0 6 ≤ 7 from (hI59 0 6).1)
          have A72 := gr_ATp_sf A56 p60 rfl
          refine gv_run 1 true hD (pc' := 88) (lv' := [(3, .inl z26), (1, .inr (.inl (J9 0 75))), (0, .inr (.inr (some 0)))]) (st' := [.inl 1]) (h' := gr_h I59 J45) (C := (True ∧ True)) rfl ⟨trivial, trivial⟩ ?_
          exact gv_zret hD rfl (by omega) ⟨I59, J45, rfl, hI59, FI59, FJ45, ⟨_, rfl, by omega, by omega, by omega, by omega, by omega, by omega, by omega, by omega, by omega, by omega, (Or.inl ⟨by omega, by have e9 : (gs_tong β N9 I J (I 0 78) p9) = (gs_done β N9 1 (I 0 78) (gs_X β N9 p9)) := (by first | (exfalso; omega) | (unfold gs_tong; (repeat first | rw [if_pos (by omega)] | rw [if_neg (by omega)]))); rw [e9]; exact ⟨by omega, A72, ⟨fun h => absurd h (by omega), fun _ => ⟨⟨by omega, fun j => (((k43 1 j rfl).trans (k28 1 j rfl)).trans (k7 1 j rfl))⟩, by omega⟩⟩⟩⟩)⟩⟩
        · exfalso; omega
      · have Q73 := q43.2.2.2.2.2.2.2.2.2.2.2.2
        rw [FI29 0 78 rfl] at Q73
        obtain ⟨u73, u73_⟩ := gs_or0 Q73 (by omega)
        refine gv_run 1 true hD (pc' := 58) (lv' := [(3, .inl z26), (1, .inr (.inl (J9 0 75))), (0, .inr (.inr (some 0)))]) (st' := [.inl 0]) (h' := gr_h I44 J45) (C := (True ∧ True)) rfl ⟨trivial, trivial⟩ ?_
        exact gv_zret hD rfl (by omega) ⟨I44, J45, rfl, hI44, FI44, FJ45, ⟨_, rfl, by omega, by omega, by omega, by omega, by omega, by omega, by omega, by omega, by omega, by omega, (Or.inr ⟨by omega, by first | (exfalso; omega) | (unfold gs_tong; (repeat first | rw [if_pos (by omega)] | rw [if_neg (by omega)]); exact ⟨by omega, by omega, ⟨⟨(((g43 0 1 rfl).trans (g28 0 1 rfl)).trans (g7 0 1 rfl)), fun j => (((k43 1 j rfl).trans (k28 1 j rfl)).trans (k7 1 j rfl))⟩, (((g43 0 6 rfl).trans (g28 0 6 rfl)).trans (g7 0 6 rfl))⟩⟩)⟩)⟩⟩
    · have f74 := (show 0 ≤ I29 0 1 ∧ I29 0 1 ≤ 8 from (hI29 0 1).1)
      refine gv_run 3 true hD (pc' := 43) (lv' := [(3, .inl z26), (1, .inr (.inl (J9 0 75))), (0, .inr (.inr (some 0)))]) (st' := [.inl 8, .inl (I29 0 1), .inr (.inr (some 0))]) (h' := gr_h I29 J30) (C := (((True ∧ True) ∧ True) ∧ True)) rfl ⟨⟨⟨trivial, trivial⟩, trivial⟩, trivial⟩ ?_
      refine gv_icmp_ge (t := 50) hD rfl rfl ⟨⟨by omega, by omega⟩, ⟨by omega, by omega⟩⟩ (fun c75 => ?_) (fun c75 => ?_)
      · refine gv_run 1 true hD (pc' := 51) (lv' := [(3, .inl z26), (1, .inr (.inl (J9 0 75))), (0, .inr (.inr (some 0)))]) (st' := [.inl 0, .inr (.inr (some 0))]) (h' := gr_h I29 J30) (C := (True ∧ True)) rfl ⟨trivial, trivial⟩ ?_
        obtain ⟨r76, h76, E76, P76⟩ := r_done_p (ws0 := ws0) (tb := tb) hws htb ext β N9 (gs_X β N9 p9) I29 J30 hI29 0 ⟨by omega, by omega⟩ (by omega) (by omega) (by omega) (by omega) (by omega) A40 (by omega)
        obtain ⟨I77, J78, rfl, hI77, g76, k76, ⟨z76, rfl, q76⟩⟩ := P76
        have FI77 := gr_frt FI29 g76 rfl rfl
        have FJ78 := gr_fjt FJ30 k76 rfl rfl
        have t79 := g76 0 69 rfl
        have t80 := g76 0 1 rfl
        have t81 := g76 0 6 rfl
        have f82 := (show 0 ≤ I77 0 71 ∧ I77 0 71 ≤ 5 from (hI77 0 71).1)
        have f83 := (show 0 ≤ I77 0 72 ∧ I77 0 72 ≤ 1000 from (hI77 0 72).1)
        have f84 := (show 0 ≤ I77 0 73 ∧ I77 0 73 ≤ 1001 from (hI77 0 73).1)
        have f85 := (show 0 ≤ I77 0 69 ∧ I77 0 69 ≤ 1000 from (hI77 0 69).1)
        have f86 := (show 0 ≤ I77 0 1 ∧ I77 0 1 ≤ 8 from (hI77 0 1).1)
        have f87 := (show (-1) ≤ I77 0 6 ∧ I77 0 6 ≤ 7 from (hI77 0 6).1)
        refine gv_callV hD rfl (As := [.inl 0]) (st := []) rfl (by decide) rfl rfl (gr_lV hws rfl) (Nat.le_of_ble_eq_true rfl) (gz_Ev_mono (d := 11) (by decide) E76) ?_
        show gv_X _ _ (54, [(3, .inl z26), (1, .inr (.inl (J9 0 75))), (0, .inr (.inr (some 0)))], [.inl z76], gr_sh ++ ext, gr_h I77 J78)
        refine gv_if_ne (t := 59) hD rfl rfl ⟨by omega, by omega⟩ (fun c88 => ?_) (fun c88 => ?_)
        · have Q89 := q76.2.2.2.2.2.2.2.2.2.2.2.2
          rw [FI29 0 78 rfl] at Q89
          obtain ⟨u89, A89⟩ := gs_or1 Q89 (by omega)
          have t90 := gr_ATp_l A89
          refine gv_run 1 true hD (pc' := 60) (lv' := [(3, .inl z26), (1, .inr (.inl (J9 0 75))), (0, .inr (.inr (some 0)))]) (st' := [.inl z26]) (h' := gr_h I77 J78) (C := (True ∧ True)) rfl ⟨trivial, trivial⟩ ?_
          refine gv_if_ge (t := 82) hD rfl rfl ⟨by omega, by omega⟩ (fun c91 => ?_) (fun c91 => ?_)
          · exfalso; omega
          · have f92 := (show 0 ≤ I77 0 1 ∧ I77 0 1 ≤ 8 from (hI77 0 1).1)
            refine gv_run 6 true hD (pc' := 71) (lv' := [(3, .inl z26), (1, .inr (.inl (J9 0 75))), (0, .inr (.inr (some 0)))]) (st' := [.inl ((I77 0 1) + 1), .inr (.inr (some 0)), .inl (I77 0 1)]) (h' := gr_h I77 J78) (C := ((((((True ∧ True) ∧ True) ∧ True) ∧ True) ∧ True) ∧ True)) rfl ⟨⟨⟨⟨⟨⟨trivial, trivial⟩, trivial⟩, trivial⟩, trivial⟩, trivial⟩, trivial⟩ ?_
            refine gv_run 1 true hD (pc' := 74) (lv' := [(3, .inl z26), (1, .inr (.inl (J9 0 75))), (0, .inr (.inr (some 0)))]) (st' := [.inl (I77 0 1)]) (h' := gz_up (gr_h I77 J78) 0 1 (.inl (((I77 0 1) + 1)))) (C := (True ∧ True)) rfl ⟨trivial, trivial⟩ ?_
            refine gr_st hI77 FI77 rfl rfl ⟨⟨by show 0 ≤ _; omega, by show _ ≤ 8; omega⟩, trivial⟩ (fun I93 hI93 FI93 q94 p94 => ?_)
            have t95 := p94 0 71 (by decide)
            have t96 := p94 0 72 (by decide)
            have t97 := p94 0 73 (by decide)
            have t98 := p94 0 69 (by decide)
            have t99 := p94 0 6 (by decide)
            have f100 := (show 0 ≤ I93 0 71 ∧ I93 0 71 ≤ 5 from (hI93 0 71).1)
            have f101 := (show 0 ≤ I93 0 72 ∧ I93 0 72 ≤ 1000 from (hI93 0 72).1)
            have f102 := (show 0 ≤ I93 0 73 ∧ I93 0 73 ≤ 1001 from (hI93 0 73).1)
            have f103 := (show 0 ≤ I93 0 69 ∧ I93 0 69 ≤ 1000 from (hI93 0 69).1)
            have f104 := (show 0 ≤ I93 0 1 ∧ I93 0 1 ≤ 8 from (hI93 0 1).1)
            have f105 := (show (-1) ≤ I93 0 6 ∧ I93 0 6 ≤ 7 from (hI93 0 6).1)
            have A106 := gr_ATp_sf A89 p94 rfl
            refine gv_run 5 true hD (pc' := 81) (lv' := [(3, .inl (I77 0 1)), (1, .inr (.inl (J9 0 75))), (0, .inr (.inr (some 0)))]) (st' := [.inr (.inl (J9 0 75)), .inl (I77 0 1), .inr (.inr (some 1))]) (h' := gr_h I93 J78) (C := (((((True ∧ True) ∧ True) ∧ True) ∧ True) ∧ True)) rfl ⟨⟨⟨⟨⟨trivial, trivial⟩, trivial⟩, trivial⟩, trivial⟩, trivial⟩ ?_
            refine gv_run 1 true hD (pc' := 82) (lv' := [(3, .inl (I77 0 1)), (1, .inr (.inl (J9 0 75))), (0, .inr (.inr (some 0)))]) (st' := []) (h' := gz_up (gr_h I93 J78) 1 (Int.toNat ((I77 0 1))) (.inr (.inl (J9 0 75)))) (C := (True ∧ (0 ≤ (I77 0 1) ∧ (I77 0 1) < ((8 : Nat) : Int)))) rfl ⟨trivial, ⟨by omega, by omega⟩⟩ ?_
            refine gr_stJq FJ78 rfl rfl (fun J107 FJ107 q108 p108 => ?_)
            have A109 := gr_ATp_sj' A106 p108 rfl
            refine gv_run 3 true hD (pc' := 87) (lv' := [(3, .inl (I77 0 1)), (1, .inr (.inl (J9 0 75))), (0, .inr (.inr (some 0)))]) (st' := []) (h' := gz_up (gr_h I93 J107) 0 6 (.inl (I77 0 1))) (C := (((True ∧ True) ∧ True) ∧ True)) rfl ⟨⟨⟨trivial, trivial⟩, trivial⟩, trivial⟩ ?_
            refine gr_st hI93 FI93 rfl rfl ⟨⟨by show (-1) ≤ _; omega, by show _ ≤ 7; omega⟩, trivial⟩ (fun I110 hI110 FI110 q111 p111 => ?_)
            have t112 := p111 0 71 (by decide)
            have t113 := p111 0 72 (by decide)
            have t114 := p111 0 73 (by decide)
            have t115 := p111 0 69 (by decide)
            have t116 := p111 0 1 (by decide)
            have f117 := (show 0 ≤ I110 0 71 ∧ I110 0 71 ≤ 5 from (hI110 0 71).1)
            have f118 := (show 0 ≤ I110 0 72 ∧ I110 0 72 ≤ 1000 from (hI110 0 72).1)
            have f119 := (show 0 ≤ I110 0 73 ∧ I110 0 73 ≤ 1001 from (hI110 0 73).1)
            have f120 := (show 0 ≤ I110 0 69 ∧ I110 0 69 ≤ 1000 from (hI110 0 69).1)
            have f121 := (show 0 ≤ I110 0 1 ∧ I110 0 1 ≤ 8 from (hI110 0 1).1)
            have f122 := (show (-1) ≤ I110 0 6 ∧ I110 0 6 ≤ 7 from (hI110 0 6).1)
            have A123 := gr_ATp_sf A109 p111 rfl
            refine gv_run 1 true hD (pc' := 88) (lv' := [(3, .inl (I77 0 1)), (1, .inr (.inl (J9 0 75))), (0, .inr (.inr (some 0)))]) (st' := [.inl 1]) (h' := gr_h I110 J107) (C := (True ∧ True)) rfl ⟨trivial, trivial⟩ ?_
            exact gv_zret hD rfl (by omega) ⟨I110, J107, rfl, hI110, FI110, FJ107, ⟨_, rfl, by omega, by omega, by omega, by omega, by omega, by omega, by omega, by omega, by omega, by omega, (Or.inl ⟨by omega, by have e9 : (gs_tong β N9 I J (I 0 78) p9) = (gs_done β N9 0 (I 0 78) (gs_X β N9 p9)) := (by first | (exfalso; omega) | (unfold gs_tong; (repeat first | rw [if_pos (by omega)] | rw [if_neg (by omega)]))); rw [e9]; exact ⟨by omega, A123, ⟨fun _ => ⟨⟨by omega, by rw [show Int.toNat (I 0 1) = (Int.toNat ((I77 0 1))) from by omega]; exact q108.trans (gr_ATp_w A22), fun j hj => (p108 1 j (fun h => hj (by have h9 := h.2; omega))).trans (((k76 1 j rfl).trans (k28 1 j rfl)).trans (k7 1 j rfl))⟩, by omega⟩, fun h => absurd h (by omega)⟩⟩⟩)⟩⟩
        · have Q124 := q76.2.2.2.2.2.2.2.2.2.2.2.2
          rw [FI29 0 78 rfl] at Q124
          obtain ⟨u124, u124_⟩ := gs_or0 Q124 (by omega)
          refine gv_run 1 true hD (pc' := 58) (lv' := [(3, .inl z26), (1, .inr (.inl (J9 0 75))), (0, .inr (.inr (some 0)))]) (st' := [.inl 0]) (h' := gr_h I77 J78) (C := (True ∧ True)) rfl ⟨trivial, trivial⟩ ?_
          exact gv_zret hD rfl (by omega) ⟨I77, J78, rfl, hI77, FI77, FJ78, ⟨_, rfl, by omega, by omega, by omega, by omega, by omega, by omega, by omega, by omega, by omega, by omega, (Or.inr ⟨by omega, by first | (exfalso; omega) | (unfold gs_tong; (repeat first | rw [if_pos (by omega)] | rw [if_neg (by omega)]); exact ⟨by omega, by omega, ⟨⟨(((g76 0 1 rfl).trans (g28 0 1 rfl)).trans (g7 0 1 rfl)), fun j => (((k76 1 j rfl).trans (k28 1 j rfl)).trans (k7 1 j rfl))⟩, (((g76 0 6 rfl).trans (g28 0 6 rfl)).trans (g7 0 6 rfl))⟩⟩)⟩)⟩⟩
      · refine gv_run 2 true hD (pc' := 51) (lv' := [(3, .inl z26), (1, .inr (.inl (J9 0 75))), (0, .inr (.inr (some 0)))]) (st' := [.inl 1, .inr (.inr (some 0))]) (h' := gr_h I29 J30) (C := ((True ∧ True) ∧ True)) rfl ⟨⟨trivial, trivial⟩, trivial⟩ ?_
        obtain ⟨r125, h125, E125, P125⟩ := r_done_p (ws0 := ws0) (tb := tb) hws htb ext β N9 (gs_X β N9 p9) I29 J30 hI29 1 ⟨by omega, by omega⟩ (by omega) (by omega) (by omega) (by omega) (by omega) A40 (by omega)
        obtain ⟨I126, J127, rfl, hI126, g125, k125, ⟨z125, rfl, q125⟩⟩ := P125
        have FI126 := gr_frt FI29 g125 rfl rfl
        have FJ127 := gr_fjt FJ30 k125 rfl rfl
        have t128 := g125 0 69 rfl
        have t129 := g125 0 1 rfl
        have t130 := g125 0 6 rfl
        have f131 := (show 0 ≤ I126 0 71 ∧ I126 0 71 ≤ 5 from (hI126 0 71).1)
        have f132 := (show 0 ≤ I126 0 72 ∧ I126 0 72 ≤ 1000 from (hI126 0 72).1)
        have f133 := (show 0 ≤ I126 0 73 ∧ I126 0 73 ≤ 1001 from (hI126 0 73).1)
        have f134 := (show 0 ≤ I126 0 69 ∧ I126 0 69 ≤ 1000 from (hI126 0 69).1)
        have f135 := (show 0 ≤ I126 0 1 ∧ I126 0 1 ≤ 8 from (hI126 0 1).1)
        have f136 := (show (-1) ≤ I126 0 6 ∧ I126 0 6 ≤ 7 from (hI126 0 6).1)
        refine gv_callV hD rfl (As := [.inl 1]) (st := []) rfl (by decide) rfl rfl (gr_lV hws rfl) (Nat.le_of_ble_eq_true rfl) (gz_Ev_mono (d := 11) (by decide) E125) ?_
        show gv_X _ _ (54, [(3, .inl z26), (1, .inr (.inl (J9 0 75))), (0, .inr (.inr (some 0)))], [.inl z125], gr_sh ++ ext, gr_h I126 J127)
        refine gv_if_ne (t := 59) hD rfl rfl ⟨by omega, by omega⟩ (fun c137 => ?_) (fun c137 => ?_)
        · have Q138 := q125.2.2.2.2.2.2.2.2.2.2.2.2
          rw [FI29 0 78 rfl] at Q138
          obtain ⟨u138, A138⟩ := gs_or1 Q138 (by omega)
          have t139 := gr_ATp_l A138
          refine gv_run 1 true hD (pc' := 60) (lv' := [(3, .inl z26), (1, .inr (.inl (J9 0 75))), (0, .inr (.inr (some 0)))]) (st' := [.inl z26]) (h' := gr_h I126 J127) (C := (True ∧ True)) rfl ⟨trivial, trivial⟩ ?_
          refine gv_if_ge (t := 82) hD rfl rfl ⟨by omega, by omega⟩ (fun c140 => ?_) (fun c140 => ?_)
          · exfalso; omega
          · have f141 := (show 0 ≤ I126 0 1 ∧ I126 0 1 ≤ 8 from (hI126 0 1).1)
            refine gv_run 6 true hD (pc' := 71) (lv' := [(3, .inl z26), (1, .inr (.inl (J9 0 75))), (0, .inr (.inr (some 0)))]) (st' := [.inl ((I126 0 1) + 1), .inr (.inr (some 0)), .inl (I126 0 1)]) (h' := gr_h I126 J127) (C := ((((((True ∧ True) ∧ True) ∧ True) ∧ True) ∧ True) ∧ True)) rfl ⟨⟨⟨⟨⟨⟨trivial, trivial⟩, trivial⟩, trivial⟩, trivial⟩, trivial⟩, trivial⟩ ?_
            refine gv_run 1 true hD (pc' := 74) (lv' := [(3, .inl z26), (1, .inr (.inl (J9 0 75))), (0, .inr (.inr (some 0)))]) (st' := [.inl (I126 0 1)]) (h' := gz_up (gr_h I126 J127) 0 1 (.inl (((I126 0 1) + 1)))) (C := (True ∧ True)) rfl ⟨trivial, trivial⟩ ?_
            refine gr_st hI126 FI126 rfl rfl ⟨⟨by show 0 ≤ _; omega, by show _ ≤ 8; omega⟩, trivial⟩ (fun I142 hI142 FI142 q143 p143 => ?_)
            have t144 := p143 0 71 (by decide)
            have t145 := p143 0 72 (by decide)
            have t146 := p143 0 73 (by decide)
            have t147 := p143 0 69 (by decide)
            have t148 := p143 0 6 (by decide)
            have f149 := (show 0 ≤ I142 0 71 ∧ I142 0 71 ≤ 5 from (hI142 0 71).1)
            have f150 := (show 0 ≤ I142 0 72 ∧ I142 0 72 ≤ 1000 from (hI142 0 72).1)
            have f151 := (show 0 ≤ I142 0 73 ∧ I142 0 73 ≤ 1001 from (hI142 0 73).1)
            have f152 := (show 0 ≤ I142 0 69 ∧ I142 0 69 ≤ 1000 from (hI142 0 69).1)
            have f153 := (show 0 ≤ I142 0 1 ∧ I142 0 1 ≤ 8 from (hI142 0 1).1)
            have f154 := (show (-1) ≤ I142 0 6 ∧ I142 0 6 ≤ 7 from (hI142 0 6).1)
            have A155 := gr_ATp_sf A138 p143 rfl
            refine gv_run 5 true hD (pc' := 81) (lv' := [(3, .inl (I126 0 1)), (1, .inr (.inl (J9 0 75))), (0, .inr (.inr (some 0)))]) (st' := [.inr (.inl (J9 0 75)), .inl (I126 0 1), .inr (.inr (some 1))]) (h' := gr_h I142 J127) (C := (((((True ∧ True) ∧ True) ∧ True) ∧ True) ∧ True)) rfl ⟨⟨⟨⟨⟨trivial, trivial⟩, trivial⟩, trivial⟩, trivial⟩, trivial⟩ ?_
            refine gv_run 1 true hD (pc' := 82) (lv' := [(3, .inl (I126 0 1)), (1, .inr (.inl (J9 0 75))), (0, .inr (.inr (some 0)))]) (st' := []) (h' := gz_up (gr_h I142 J127) 1 (Int.toNat ((I126 0 1))) (.inr (.inl (J9 0 75)))) (C := (True ∧ (0 ≤ (I126 0 1) ∧ (I126 0 1) < ((8 : Nat) : Int)))) rfl ⟨trivial, ⟨by omega, by omega⟩⟩ ?_
            refine gr_stJq FJ127 rfl rfl (fun J156 FJ156 q157 p157 => ?_)
            have A158 := gr_ATp_sj' A155 p157 rfl
            refine gv_run 3 true hD (pc' := 87) (lv' := [(3, .inl (I126 0 1)), (1, .inr (.inl (J9 0 75))), (0, .inr (.inr (some 0)))]) (st' := []) (h' := gz_up (gr_h I142 J156) 0 6 (.inl (I126 0 1))) (C := (((True ∧ True) ∧ True) ∧ True)) rfl ⟨⟨⟨trivial, trivial⟩, trivial⟩, trivial⟩ ?_
            refine gr_st hI142 FI142 rfl rfl ⟨⟨by show (-1) ≤ _; omega, by show _ ≤ 7; omega⟩, trivial⟩ (fun I159 hI159 FI159 q160 p160 => ?_)
            have t161 := p160 0 71 (by decide)
            have t162 := p160 0 72 (by decide)
            have t163 := p160 0 73 (by decide)
            have t164 := p160 0 69 (by decide)
            have t165 := p160 0 1 (by decide)
            have f166 := (show 0 ≤ I159 0 71 ∧ I159 0 71 ≤ 5 from (hI159 0 71).1)
            have f167 := (show 0 ≤ I159 0 72 ∧ I159 0 72 ≤ 1000 from (hI159 0 72).1)
            have f168 := (show 0 ≤ I159 0 73 ∧ I159 0 73 ≤ 1001 from (hI159 0 73).1)
            have f169 := (show 0 ≤ I159 0 69 ∧ I159 0 69 ≤ 1000 from (hI159 0 69).1)
            have f170 := (show 0 ≤ I159 0 1 ∧ I159 0 1 ≤ 8 from (hI159 0 1).1)
            have f171 := (show (-1) ≤ I159 0 6 ∧ I159 0 6 ≤ 7 from (hI159 0 6).1)
            have A172 := gr_ATp_sf A158 p160 rfl
            refine gv_run 1 true hD (pc' := 88) (lv' := [(3, .inl (I126 0 1)), (1, .inr (.inl (J9 0 75))), (0, .inr (.inr (some 0)))]) (st' := [.inl 1]) (h' := gr_h I159 J156) (C := (True ∧ True)) rfl ⟨trivial, trivial⟩ ?_
            exact gv_zret hD rfl (by omega) ⟨I159, J156, rfl, hI159, FI159, FJ156, ⟨_, rfl, by omega, by omega, by omega, by omega, by omega, by omega, by omega, by omega, by omega, by omega, (Or.inl ⟨by omega, by have e9 : (gs_tong β N9 I J (I 0 78) p9) = (gs_done β N9 1 (I 0 78) (gs_X β N9 p9)) := (by first | (exfalso; omega) | (unfold gs_tong; (repeat first | rw [if_pos (by omega)] | rw [if_neg (by omega)]))); rw [e9]; exact ⟨by omega, A172, ⟨fun _ => ⟨⟨by omega, by rw [show Int.toNat (I 0 1) = (Int.toNat ((I126 0 1))) from by omega]; exact q157.trans (gr_ATp_w A22), fun j hj => (p157 1 j (fun h => hj (by have h9 := h.2; omega))).trans (((k125 1 j rfl).trans (k28 1 j rfl)).trans (k7 1 j rfl))⟩, by omega⟩, fun h => absurd h (by omega)⟩⟩⟩)⟩⟩
        · have Q173 := q125.2.2.2.2.2.2.2.2.2.2.2.2
          rw [FI29 0 78 rfl] at Q173
          obtain ⟨u173, u173_⟩ := gs_or0 Q173 (by omega)
          refine gv_run 1 true hD (pc' := 58) (lv' := [(3, .inl z26), (1, .inr (.inl (J9 0 75))), (0, .inr (.inr (some 0)))]) (st' := [.inl 0]) (h' := gr_h I126 J127) (C := (True ∧ True)) rfl ⟨trivial, trivial⟩ ?_
          exact gv_zret hD rfl (by omega) ⟨I126, J127, rfl, hI126, FI126, FJ127, ⟨_, rfl, by omega, by omega, by omega, by omega, by omega, by omega, by omega, by omega, by omega, by omega, (Or.inr ⟨by omega, by first | (exfalso; omega) | (unfold gs_tong; (repeat first | rw [if_pos (by omega)] | rw [if_neg (by omega)]); exact ⟨by omega, by omega, ⟨⟨(((g125 0 1 rfl).trans (g28 0 1 rfl)).trans (g7 0 1 rfl)), fun j => (((k125 1 j rfl).trans (k28 1 j rfl)).trans (k7 1 j rfl))⟩, (((g125 0 6 rfl).trans (g28 0 6 rfl)).trans (g7 0 6 rfl))⟩⟩)⟩)⟩⟩
  · refine gv_run 1 true hD (pc' := 8) (lv' := [(0, .inr (.inr (some 0)))]) (st' := [.inl 0]) (h' := gr_h I8 J9) (C := (True ∧ True)) rfl ⟨trivial, trivial⟩ ?_
    exact gv_zret hD rfl (by omega) ⟨I8, J9, rfl, hI8, FI8, FJ9, ⟨_, rfl, by omega, by omega, by omega, by omega, by omega, by omega, by omega, by omega, by omega, by omega, (Or.inr ⟨by omega, by first | (exfalso; omega) | (unfold gs_tong; (repeat first | rw [if_pos (by omega)] | rw [if_neg (by omega)]); exact ⟨by omega, by omega, ⟨⟨(g7 0 1 rfl), fun j => (k7 1 j rfl)⟩, (g7 0 6 rfl)⟩⟩)⟩)⟩⟩
