set_option maxHeartbeats 8000000 in
set_option maxRecDepth 100000 in
theorem r_tongue_p {ws0 : List Cond} {tb : String → gz_T} (hws : ∀ w ∈ gr_ws, w ∈ ws0) (htb : tb RX13 = gr_T) (ext : gz_Sh) (β : Int → Int) (N9 : Int) (p9 : Int) (I : gr_I) (J : gr_J) (hI : gr_Inv I)   (x0 : I 0 71 = 5 ∨ I 0 73 ≤ I 0 69) (x1 : I 0 72 ≤ I 0 69) (x2 : I 0 71 = 0 ∨ (I 0 72 < I 0 73 ∧ I 0 72 < I 0 69)) (x3 : I 0 71 = 3 → 2 ≤ I 0 73 - I 0 72 ∧ I 0 73 - I 0 72 ≤ 14) (x4 : I 0 72 ≤ I 0 73) (x5 : gr_ATp β N9 p9 I J) (x6 : 0 ≤ p9) : ∃ r h', gz_Ev ws0 tb 12 (yX13_tongue, cX13_tongue, 4, (some .boolean)) [.inr (.inr (some 0))] (gr_sh ++ ext) (gr_h I J) r (gr_sh ++ ext) h' 0 0 ∧ (∃ (I' : gr_I) (J' : gr_J), h' = gr_h I' J' ∧ gr_Inv I' ∧ gr_fr [1, 6, 71, 72, 73, 74, 75, 76, 77] [1] I I' ∧ gr_fj [1, 6, 71, 72, 73, 74, 75, 76, 77] [1] J J' ∧ (∃ z : Int, r = some (.inl z) ∧ 0 ≤ z ∧ z ≤ 1 ∧ (I' 0 71 = 5 ∨ I' 0 73 ≤ I' 0 69) ∧ (I' 0 72 ≤ I' 0 69) ∧ (I' 0 71 = 0 ∨ (I' 0 72 < I' 0 73 ∧ I' 0 72 < I' 0 69)) ∧ (I' 0 71 = 3 → 2 ≤ I' 0 73 - I' 0 72 ∧ I' 0 73 - I' 0 72 ≤ 14) ∧ (I' 0 72 ≤ I' 0 73) ∧ (I' 0 69 = I 0 69) ∧ (I 0 73 ≤ I' 0 73) ∧ (I 0 72 ≤ I' 0 72) ∧ (gs_Or z (0 ≤ (gs_tong β N9 I J (I 0 78) p9) ∧ gr_ATp β N9 (gs_tong β N9 I J (I 0 78) p9) I' J' ∧ (gs_lk I J 1 1 (gs_rn β N9 p9) < 0 → gs_put 1 1 (gs_rn β N9 p9) I J I' J' ∧ I' 0 6 = I 0 1) ∧ (0 ≤ gs_lk I J 1 1 (gs_rn β N9 p9) → gs_same 1 1 I J I' J' ∧ I' 0 6 = gs_lk I J 1 1 (gs_rn β N9 p9))) ((gs_tong β N9 I J (I 0 78) p9) < 0 ∧ I' 0 77 = -1 - (gs_tong β N9 I J (I 0 78) p9) ∧ gs_same 1 1 I J I' J' ∧ I' 0 6 = I 0 6)))) := by
  have FI : gr_fr [1, 6, 71, 72, 73, 74, 75, 76, 77] [1] I I := fun _ _ _ => rfl
  have FJ : gr_fj [1, 6, 71, 72, 73, 74, 75, 76, 77] [1] J J := fun _ _ _ => rfl
  have hD : gv_D (gr_E ws0 tb 11 (yX13_tongue, cX13_tongue, 4, (some .boolean)) kX13_tongue) := gq_of oX13_tongue
  refine gr_ev (d := 11) (l := kX13_tongue) (Po := fun r h' => (∃ (I' : gr_I) (J' : gr_J), h' = gr_h I' J' ∧ gr_Inv I' ∧ gr_fr [1, 6, 71, 72, 73, 74, 75, 76, 77] [1] I I' ∧ gr_fj [1, 6, 71, 72, 73, 74, 75, 76, 77] [1] J J' ∧ (∃ z : Int, r = some (.inl z) ∧ 0 ≤ z ∧ z ≤ 1 ∧ (I' 0 71 = 5 ∨ I' 0 73 ≤ I' 0 69) ∧ (I' 0 72 ≤ I' 0 69) ∧ (I' 0 71 = 0 ∨ (I' 0 72 < I' 0 73 ∧ I' 0 72 < I' 0 69)) ∧ (I' 0 71 = 3 → 2 ≤ I' 0 73 - I' 0 72 ∧ I' 0 73 - I' 0 72 ≤ 14) ∧ (I' 0 72 ≤ I' 0 73) ∧ (I' 0 69 = I 0 69) ∧ (I 0 73 ≤ I' 0 73) ∧ (I 0 72 ≤ I' 0 72) ∧ (gs_Or z (0 ≤ (gs_tong β N9 I J (I 0 78) p9) ∧ gr_ATp β N9 (gs_tong β N9 I J (I 0 78) p9) I' J' ∧ (gs_lk I J 1 1 (gs_rn β N9 p9) < 0 → gs_put 1 1 (gs_rn β N9 p9) I J I' J' ∧ I' 0 6 = I 0 1) ∧ (0 ≤ gs_lk I J 1 1 (gs_rn β N9 p9) → gs_same 1 1 I J I' J' ∧ I' 0 6 = gs_lk I J 1 1 (gs_rn β N9 p9))) ((gs_tong β N9 I J (I 0 78) p9) < 0 ∧ I' 0 77 = -1 - (gs_tong β N9 I J (I 0 78) p9) ∧ gs_same 1 1 I J I' J' ∧ I' 0 6 = I 0 6))))) htb rfl (Nat.le_of_ble_eq_true rfl) ?_
  have tAT := gr_ATp_l x5
  have f1 := (gr_b_0_71 hI)
  have f2 := (gr_b_0_72 hI)
  have f3 := (gr_b_0_73 hI)
  have f4 := (gr_b_0_69 hI)
  have f5 := (gr_b_0_1 hI)
  have f6 := (gr_b_0_6 hI)
  refine gv_run 1 true hD (pc' := 1) (lv' := [(0, .inr (.inr (some 0)))]) (st' := [.inr (.inr (some 0))]) (h' := gr_h I J) (C := (True ∧ True)) rfl ⟨trivial, trivial⟩ ?_
  obtain ⟨r7, h7, E7, P7⟩ := r_name_p (ws0 := ws0) (tb := tb) hws htb ext β N9 p9 I J hI   x5 (by exact gz_m 0 (by omega))
  obtain ⟨I8, J9, rfl, hI8, g7, k7, ⟨z7, rfl, q7⟩⟩ := P7
  have FI8 := gr_frt FI g7 rfl rfl
  have FJ9 := gr_fjt FJ k7 rfl rfl
  have t10 := g7 0 71 rfl
  have t11 := g7 0 72 rfl
  have t12 := g7 0 73 rfl
  have t13 := g7 0 69 rfl
  have t14 := g7 0 1 rfl
  have t15 := g7 0 6 rfl
  have f16 := (gr_b_0_71 hI8)
  have f17 := (gr_b_0_72 hI8)
  have f18 := (gr_b_0_73 hI8)
  have f19 := (gr_b_0_69 hI8)
  have f20 := (gr_b_0_1 hI8)
  have f21 := (gr_b_0_6 hI8)
  have A22 := gr_ATp_F x5 g7 k7 rfl
  have t23 := gr_ATp_l A22
  refine gv_callV hD rfl (As := []) (st := []) rfl (by decide) rfl rfl (gr_lV hws rfl) (Nat.le_of_ble_eq_true rfl) (gz_Ev_mono (d := 3) (by decide) E7) ?_
  show gv_X _ _ (4, [(0, .inr (.inr (some 0)))], [.inl z7], gr_sh ++ ext, gr_h I8 J9)
  refine gv_if_ne (t := 9) hD rfl rfl ⟨by exact gz_m 1 (by omega), by exact gz_m 2 (by omega)⟩ (fun c24 => ?_) (fun c24 => ?_)
  · refine gv_run 7 true hD (pc' := 20) (lv' := [(1, .inr (.inl (J9 0 75))), (0, .inr (.inr (some 0)))]) (st' := [.inr (.inr (some 0)), .inl 0, .inr (.inr (some 1))]) (h' := gr_h I8 J9) (C := (((((((True ∧ True) ∧ True) ∧ True) ∧ True) ∧ True) ∧ True) ∧ True)) rfl ⟨⟨⟨⟨⟨⟨⟨trivial, trivial⟩, trivial⟩, trivial⟩, trivial⟩, trivial⟩, trivial⟩, trivial⟩ ?_
    have f25 := (gr_b_0_1 hI8)
    refine gv_run 2 true hD (pc' := 24) (lv' := [(1, .inr (.inl (J9 0 75))), (0, .inr (.inr (some 0)))]) (st' := [.inr (.inl (J9 0 75)), .inl (I8 0 1), .inl 0, .inr (.inr (some 1))]) (h' := gr_h I8 J9) (C := ((True ∧ True) ∧ True)) rfl ⟨⟨trivial, trivial⟩, trivial⟩ ?_
    obtain ⟨r26, h26, E26, P26⟩ := r_find_1_p (ws0 := ws0) (tb := tb) hws htb ext I8 J9 hI8 0 (I8 0 1) (J9 0 75) ⟨by exact gz_m 3 (by omega), by exact gz_m 4 (by omega)⟩ ⟨by exact gz_m 5 (by omega), by exact gz_m 6 (by omega)⟩ (by exact gz_m 7 (by omega))
    obtain ⟨rfl, ⟨z26, rfl, q26⟩⟩ := P26
    have t27 := q26.2.2.2.trans (gs_lk_eq (I := I) (J := J) (w := gs_rn β N9 p9) (fun k => (k7 1 k rfl)) (g7 0 1 rfl) (gr_ATp_w A22))
    refine gv_callS hD rfl (As := [.inr (.inr (some 1)), .inl 0, .inl (I8 0 1), .inr (.inl (J9 0 75))]) (st := []) rfl (gr_lS hws rfl) (Nat.le_of_ble_eq_true rfl) (gz_Ev_mono (d := 1) (by decide) E26) ?_
    show gv_X _ _ (27, [(1, .inr (.inl (J9 0 75))), (0, .inr (.inr (some 0)))], [.inl z26], gr_sh ++ ext, gr_h I8 J9)
    refine gv_run 2 true hD (pc' := 29) (lv' := [(3, .inl z26), (1, .inr (.inl (J9 0 75))), (0, .inr (.inr (some 0)))]) (st' := [.inr (.inr (some 0))]) (h' := gr_h I8 J9) (C := ((True ∧ True) ∧ True)) rfl ⟨⟨trivial, trivial⟩, trivial⟩ ?_
    obtain ⟨r28, h28, E28, P28⟩ := r_next_p (ws0 := ws0) (tb := tb) hws htb ext β N9 I8 J9 hI8   (by exact gz_m 8 (by omega)) A22.1.1 A22.1.2
    obtain ⟨I29, J30, rfl, hI29, g28, k28, ⟨rfl, q28⟩⟩ := P28
    have FI29 := gr_frt FI8 g28 rfl rfl
    have FJ30 := gr_fjt FJ9 k28 rfl rfl
    have t31 := g28 0 69 rfl
    have t32 := g28 0 1 rfl
    have t33 := g28 0 6 rfl
    have f34 := (gr_b_0_71 hI29)
    have f35 := (gr_b_0_72 hI29)
    have f36 := (gr_b_0_73 hI29)
    have f37 := (gr_b_0_69 hI29)
    have f38 := (gr_b_0_1 hI29)
    have f39 := (gr_b_0_6 hI29)
    have A40 := gr_ATp_nx A22 q28.2.2.2.2.2
    have t41 := gr_ATp_l A40
    refine gv_callV hD rfl (As := []) (st := []) rfl (by decide) rfl rfl (gr_lV hws rfl) (Nat.le_of_ble_eq_true rfl) (gz_Ev_mono (d := 10) (by decide) E28) ?_
    show gv_X _ _ (32, [(3, .inl z26), (1, .inr (.inl (J9 0 75))), (0, .inr (.inr (some 0)))], [], gr_sh ++ ext, gr_h I29 J30)
    refine gv_run 2 true hD (pc' := 34) (lv' := [(3, .inl z26), (1, .inr (.inl (J9 0 75))), (0, .inr (.inr (some 0)))]) (st' := [.inl z26, .inr (.inr (some 0))]) (h' := gr_h I29 J30) (C := ((True ∧ True) ∧ True)) rfl ⟨⟨trivial, trivial⟩, trivial⟩ ?_
    refine gv_if_ge (t := 46) hD rfl rfl ⟨by exact gz_m 9 (by omega), by exact gz_m 10 (by omega)⟩ (fun c42 => ?_) (fun c42 => ?_)
    · refine gv_run 2 true hD (pc' := 51) (lv' := [(3, .inl z26), (1, .inr (.inl (J9 0 75))), (0, .inr (.inr (some 0)))]) (st' := [.inl 1, .inr (.inr (some 0))]) (h' := gr_h I29 J30) (C := ((True ∧ True) ∧ True)) rfl ⟨⟨trivial, trivial⟩, trivial⟩ ?_
      obtain ⟨r43, h43, E43, P43⟩ := r_done_p (ws0 := ws0) (tb := tb) hws htb ext β N9 (gs_X β N9 p9) I29 J30 hI29 1 ⟨by exact gz_m 11 (by omega), by exact gz_m 12 (by omega)⟩ (by exact gz_m 13 (by omega)) (by exact gz_m 14 (by omega)) (by exact gz_m 15 (by omega)) (by exact gz_m 16 (by omega)) (by exact gz_m 17 (by omega)) A40 (by exact gz_m 18 (by omega))
      obtain ⟨I44, J45, rfl, hI44, g43, k43, ⟨z43, rfl, q43⟩⟩ := P43
      have FI44 := gr_frt FI29 g43 rfl rfl
      have FJ45 := gr_fjt FJ30 k43 rfl rfl
      have t46 := g43 0 69 rfl
      have t47 := g43 0 1 rfl
      have t48 := g43 0 6 rfl
      have f49 := (gr_b_0_71 hI44)
      have f50 := (gr_b_0_72 hI44)
      have f51 := (gr_b_0_73 hI44)
      have f52 := (gr_b_0_69 hI44)
      have f53 := (gr_b_0_1 hI44)
      have f54 := (gr_b_0_6 hI44)
      refine gv_callV hD rfl (As := [.inl 1]) (st := []) rfl (by decide) rfl rfl (gr_lV hws rfl) (Nat.le_of_ble_eq_true rfl) (gz_Ev_mono (d := 11) (by decide) E43) ?_
      show gv_X _ _ (54, [(3, .inl z26), (1, .inr (.inl (J9 0 75))), (0, .inr (.inr (some 0)))], [.inl z43], gr_sh ++ ext, gr_h I44 J45)
      refine gv_if_ne (t := 59) hD rfl rfl ⟨by exact gz_m 19 (by omega), by exact gz_m 20 (by omega)⟩ (fun c55 => ?_) (fun c55 => ?_)
      · have Q56 := q43.2.2.2.2.2.2.2.2.2.2.2.2
        rw [FI29 0 78 rfl] at Q56
        obtain ⟨u56, A56⟩ := gs_or1 Q56 (by exact gz_m 21 (by omega))
        have t57 := gr_ATp_l A56
        refine gv_run 1 true hD (pc' := 60) (lv' := [(3, .inl z26), (1, .inr (.inl (J9 0 75))), (0, .inr (.inr (some 0)))]) (st' := [.inl z26]) (h' := gr_h I44 J45) (C := (True ∧ True)) rfl ⟨trivial, trivial⟩ ?_
        refine gv_if_ge (t := 82) hD rfl rfl ⟨by exact gz_m 22 (by omega), by exact gz_m 23 (by omega)⟩ (fun c58 => ?_) (fun c58 => ?_)
        · refine gv_run 3 true hD (pc' := 87) (lv' := [(3, .inl z26), (1, .inr (.inl (J9 0 75))), (0, .inr (.inr (some 0)))]) (st' := []) (h' := gz_up (gr_h I44 J45) 0 6 (.inl z26)) (C := (((True ∧ True) ∧ True) ∧ True)) rfl ⟨⟨⟨trivial, trivial⟩, trivial⟩, trivial⟩ ?_
          refine gr_st hI44 FI44 rfl rfl ⟨⟨by show (-1) ≤ _; exact gz_m 24 (by omega), by show _ ≤ 7; exact gz_m 25 (by omega)⟩, trivial⟩ (fun I59 hI59 FI59 q60 p60 => ?_)
          have t61 := p60 0 71 (by decide)
          have t62 := p60 0 72 (by decide)
          have t63 := p60 0 73 (by decide)
          have t64 := p60 0 69 (by decide)
          have t65 := p60 0 1 (by decide)
          have f66 := (gr_b_0_71 hI59)
          have f67 := (gr_b_0_72 hI59)
          have f68 := (gr_b_0_73 hI59)
          have f69 := (gr_b_0_69 hI59)
          have f70 := (gr_b_0_1 hI59)
          have f71 := (gr_b_0_6 hI59)
          have A72 := gr_ATp_sf A56 p60 rfl
          refine gv_run 1 true hD (pc' := 88) (lv' := [(3, .inl z26), (1, .inr (.inl (J9 0 75))), (0, .inr (.inr (some 0)))]) (st' := [.inl 1]) (h' := gr_h I59 J45) (C := (True ∧ True)) rfl ⟨trivial, trivial⟩ ?_
          exact gv_zret hD rfl (by exact gz_m 26 (by omega)) ⟨I59, J45, rfl, hI59, FI59, FJ45, ⟨_, rfl, by exact gz_m 27 (by omega), by exact gz_m 28 (by omega), by exact gz_m 29 (by omega), by exact gz_m 30 (by omega), by exact gz_m 31 (by omega), by exact gz_m 32 (by omega), by exact gz_m 33 (by omega), by exact gz_m 34 (by omega), by exact gz_m 35 (by omega), by exact gz_m 36 (by omega), (Or.inl ⟨by exact gz_m 37 (by omega), by have e9 : (gs_tong β N9 I J (I 0 78) p9) = (gs_done β N9 1 (I 0 78) (gs_X β N9 p9)) := (by first | (exfalso; exact gz_m 38 (by omega)) | (unfold gs_tong; (repeat first | rw [if_pos (by exact gz_m 39 (by omega))] | rw [if_neg (by exact gz_m 40 (by omega))]))); rw [e9]; exact ⟨by exact gz_m 41 (by omega), A72, ⟨fun h => absurd h (by exact gz_m 42 (by omega)), fun _ => ⟨⟨by exact gz_m 43 (by omega), fun j => (((k43 1 j rfl).trans (k28 1 j rfl)).trans (k7 1 j rfl))⟩, by exact gz_m 44 (by omega)⟩⟩⟩⟩)⟩⟩
        · exfalso; exact gz_m 45 (by omega)
      · have Q73 := q43.2.2.2.2.2.2.2.2.2.2.2.2
        rw [FI29 0 78 rfl] at Q73
        obtain ⟨u73, u73_⟩ := gs_or0 Q73 (by exact gz_m 46 (by omega))
        refine gv_run 1 true hD (pc' := 58) (lv' := [(3, .inl z26), (1, .inr (.inl (J9 0 75))), (0, .inr (.inr (some 0)))]) (st' := [.inl 0]) (h' := gr_h I44 J45) (C := (True ∧ True)) rfl ⟨trivial, trivial⟩ ?_
        exact gv_zret hD rfl (by exact gz_m 47 (by omega)) ⟨I44, J45, rfl, hI44, FI44, FJ45, ⟨_, rfl, by exact gz_m 48 (by omega), by exact gz_m 49 (by omega), by exact gz_m 50 (by omega), by exact gz_m 51 (by omega), by exact gz_m 52 (by omega), by exact gz_m 53 (by omega), by exact gz_m 54 (by omega), by exact gz_m 55 (by omega), by exact gz_m 56 (by omega), by exact gz_m 57 (by omega), (Or.inr ⟨by exact gz_m 58 (by omega), by first | (exfalso; exact gz_m 59 (by omega)) | (unfold gs_tong; (repeat first | rw [if_pos (by exact gz_m 60 (by omega))] | rw [if_neg (by exact gz_m 61 (by omega))]); exact ⟨by exact gz_m 62 (by omega), by exact gz_m 63 (by omega), ⟨⟨(((g43 0 1 rfl).trans (g28 0 1 rfl)).trans (g7 0 1 rfl)), fun j => (((k43 1 j rfl).trans (k28 1 j rfl)).trans (k7 1 j rfl))⟩, (((g43 0 6 rfl).trans (g28 0 6 rfl)).trans (g7 0 6 rfl))⟩⟩)⟩)⟩⟩
    · have f74 := (gr_b_0_1 hI29)
      refine gv_run 3 true hD (pc' := 43) (lv' := [(3, .inl z26), (1, .inr (.inl (J9 0 75))), (0, .inr (.inr (some 0)))]) (st' := [.inl 8, .inl (I29 0 1), .inr (.inr (some 0))]) (h' := gr_h I29 J30) (C := (((True ∧ True) ∧ True) ∧ True)) rfl ⟨⟨⟨trivial, trivial⟩, trivial⟩, trivial⟩ ?_
      refine gv_icmp_ge (t := 50) hD rfl rfl ⟨⟨by exact gz_m 64 (by omega), by exact gz_m 65 (by omega)⟩, ⟨by exact gz_m 66 (by omega), by exact gz_m 67 (by omega)⟩⟩ (fun c75 => ?_) (fun c75 => ?_)
      · refine gv_run 1 true hD (pc' := 51) (lv' := [(3, .inl z26), (1, .inr (.inl (J9 0 75))), (0, .inr (.inr (some 0)))]) (st' := [.inl 0, .inr (.inr (some 0))]) (h' := gr_h I29 J30) (C := (True ∧ True)) rfl ⟨trivial, trivial⟩ ?_
        obtain ⟨r76, h76, E76, P76⟩ := r_done_p (ws0 := ws0) (tb := tb) hws htb ext β N9 (gs_X β N9 p9) I29 J30 hI29 0 ⟨by exact gz_m 68 (by omega), by exact gz_m 69 (by omega)⟩ (by exact gz_m 70 (by omega)) (by exact gz_m 71 (by omega)) (by exact gz_m 72 (by omega)) (by exact gz_m 73 (by omega)) (by exact gz_m 74 (by omega)) A40 (by exact gz_m 75 (by omega))
        obtain ⟨I77, J78, rfl, hI77, g76, k76, ⟨z76, rfl, q76⟩⟩ := P76
        have FI77 := gr_frt FI29 g76 rfl rfl
        have FJ78 := gr_fjt FJ30 k76 rfl rfl
        have t79 := g76 0 69 rfl
        have t80 := g76 0 1 rfl
        have t81 := g76 0 6 rfl
        have f82 := (gr_b_0_71 hI77)
        have f83 := (gr_b_0_72 hI77)
        have f84 := (gr_b_0_73 hI77)
        have f85 := (gr_b_0_69 hI77)
        have f86 := (gr_b_0_1 hI77)
        have f87 := (gr_b_0_6 hI77)
        refine gv_callV hD rfl (As := [.inl 0]) (st := []) rfl (by decide) rfl rfl (gr_lV hws rfl) (Nat.le_of_ble_eq_true rfl) (gz_Ev_mono (d := 11) (by decide) E76) ?_
        show gv_X _ _ (54, [(3, .inl z26), (1, .inr (.inl (J9 0 75))), (0, .inr (.inr (some 0)))], [.inl z76], gr_sh ++ ext, gr_h I77 J78)
        refine gv_if_ne (t := 59) hD rfl rfl ⟨by exact gz_m 76 (by omega), by exact gz_m 77 (by omega)⟩ (fun c88 => ?_) (fun c88 => ?_)
        · have Q89 := q76.2.2.2.2.2.2.2.2.2.2.2.2
          rw [FI29 0 78 rfl] at Q89
          obtain ⟨u89, A89⟩ := gs_or1 Q89 (by exact gz_m 78 (by omega))
          have t90 := gr_ATp_l A89
          refine gv_run 1 true hD (pc' := 60) (lv' := [(3, .inl z26), (1, .inr (.inl (J9 0 75))), (0, .inr (.inr (some 0)))]) (st' := [.inl z26]) (h' := gr_h I77 J78) (C := (True ∧ True)) rfl ⟨trivial, trivial⟩ ?_
          refine gv_if_ge (t := 82) hD rfl rfl ⟨by exact gz_m 79 (by omega), by exact gz_m 80 (by omega)⟩ (fun c91 => ?_) (fun c91 => ?_)
          · exfalso; exact gz_m 81 (by omega)
          · have f92 := (gr_b_0_1 hI77)
            refine gv_run 6 true hD (pc' := 71) (lv' := [(3, .inl z26), (1, .inr (.inl (J9 0 75))), (0, .inr (.inr (some 0)))]) (st' := [.inl ((I77 0 1) + 1), .inr (.inr (some 0)), .inl (I77 0 1)]) (h' := gr_h I77 J78) (C := ((((((True ∧ True) ∧ True) ∧ True) ∧ True) ∧ True) ∧ True)) rfl ⟨⟨⟨⟨⟨⟨trivial, trivial⟩, trivial⟩, trivial⟩, trivial⟩, trivial⟩, trivial⟩ ?_
            refine gv_run 1 true hD (pc' := 74) (lv' := [(3, .inl z26), (1, .inr (.inl (J9 0 75))), (0, .inr (.inr (some 0)))]) (st' := [.inl (I77 0 1)]) (h' := gz_up (gr_h I77 J78) 0 1 (.inl (((I77 0 1) + 1)))) (C := (True ∧ True)) rfl ⟨trivial, trivial⟩ ?_
            refine gr_st hI77 FI77 rfl rfl ⟨⟨by show 0 ≤ _; exact gz_m 82 (by omega), by show _ ≤ 8; exact gz_m 83 (by omega)⟩, trivial⟩ (fun I93 hI93 FI93 q94 p94 => ?_)
            have t95 := p94 0 71 (by decide)
            have t96 := p94 0 72 (by decide)
            have t97 := p94 0 73 (by decide)
            have t98 := p94 0 69 (by decide)
            have t99 := p94 0 6 (by decide)
            have f100 := (gr_b_0_71 hI93)
            have f101 := (gr_b_0_72 hI93)
            have f102 := (gr_b_0_73 hI93)
            have f103 := (gr_b_0_69 hI93)
            have f104 := (gr_b_0_1 hI93)
            have f105 := (gr_b_0_6 hI93)
            have A106 := gr_ATp_sf A89 p94 rfl
            refine gv_run 5 true hD (pc' := 81) (lv' := [(3, .inl (I77 0 1)), (1, .inr (.inl (J9 0 75))), (0, .inr (.inr (some 0)))]) (st' := [.inr (.inl (J9 0 75)), .inl (I77 0 1), .inr (.inr (some 1))]) (h' := gr_h I93 J78) (C := (((((True ∧ True) ∧ True) ∧ True) ∧ True) ∧ True)) rfl ⟨⟨⟨⟨⟨trivial, trivial⟩, trivial⟩, trivial⟩, trivial⟩, trivial⟩ ?_
            refine gv_run 1 true hD (pc' := 82) (lv' := [(3, .inl (I77 0 1)), (1, .inr (.inl (J9 0 75))), (0, .inr (.inr (some 0)))]) (st' := []) (h' := gz_up (gr_h I93 J78) 1 (Int.toNat ((I77 0 1))) (.inr (.inl (J9 0 75)))) (C := (True ∧ (0 ≤ (I77 0 1) ∧ (I77 0 1) < ((8 : Nat) : Int)))) rfl ⟨trivial, ⟨by exact gz_m 84 (by omega), by exact gz_m 85 (by omega)⟩⟩ ?_
            refine gr_stJq FJ78 rfl rfl (fun J107 FJ107 q108 p108 => ?_)
            have A109 := gr_ATp_sj' A106 p108 rfl
            refine gv_run 3 true hD (pc' := 87) (lv' := [(3, .inl (I77 0 1)), (1, .inr (.inl (J9 0 75))), (0, .inr (.inr (some 0)))]) (st' := []) (h' := gz_up (gr_h I93 J107) 0 6 (.inl (I77 0 1))) (C := (((True ∧ True) ∧ True) ∧ True)) rfl ⟨⟨⟨trivial, trivial⟩, trivial⟩, trivial⟩ ?_
            refine gr_st hI93 FI93 rfl rfl ⟨⟨by show (-1) ≤ _; exact gz_m 86 (by omega), by show _ ≤ 7; exact gz_m 87 (by omega)⟩, trivial⟩ (fun I110 hI110 FI110 q111 p111 => ?_)
            have t112 := p111 0 71 (by decide)
            have t113 := p111 0 72 (by decide)
            have t114 := p111 0 73 (by decide)
            have t115 := p111 0 69 (by decide)
            have t116 := p111 0 1 (by decide)
            have f117 := (gr_b_0_71 hI110)
            have f118 := (gr_b_0_72 hI110)
            have f119 := (gr_b_0_73 hI110)
            have f120 := (gr_b_0_69 hI110)
            have f121 := (gr_b_0_1 hI110)
            have f122 := (gr_b_0_6 hI110)
            have A123 := gr_ATp_sf A109 p111 rfl
            refine gv_run 1 true hD (pc' := 88) (lv' := [(3, .inl (I77 0 1)), (1, .inr (.inl (J9 0 75))), (0, .inr (.inr (some 0)))]) (st' := [.inl 1]) (h' := gr_h I110 J107) (C := (True ∧ True)) rfl ⟨trivial, trivial⟩ ?_
            exact gv_zret hD rfl (by exact gz_m 88 (by omega)) ⟨I110, J107, rfl, hI110, FI110, FJ107, ⟨_, rfl, by exact gz_m 89 (by omega), by exact gz_m 90 (by omega), by exact gz_m 91 (by omega), by exact gz_m 92 (by omega), by exact gz_m 93 (by omega), by exact gz_m 94 (by omega), by exact gz_m 95 (by omega), by exact gz_m 96 (by omega), by exact gz_m 97 (by omega), by exact gz_m 98 (by omega), (Or.inl ⟨by exact gz_m 99 (by omega), by have e9 : (gs_tong β N9 I J (I 0 78) p9) = (gs_done β N9 0 (I 0 78) (gs_X β N9 p9)) := (by first | (exfalso; exact gz_m 100 (by omega)) | (unfold gs_tong; (repeat first | rw [if_pos (by exact gz_m 101 (by omega))] | rw [if_neg (by exact gz_m 102 (by omega))]))); rw [e9]; exact ⟨by exact gz_m 103 (by omega), A123, ⟨fun _ => ⟨⟨by exact gz_m 104 (by omega), by rw [show Int.toNat (I 0 1) = (Int.toNat ((I77 0 1))) from by exact gz_m 105 (by omega)]; exact q108.trans (gr_ATp_w A22), fun j hj => (p108 1 j (fun h => hj (by have h9 := h.2; exact gz_m 106 (by omega)))).trans (((k76 1 j rfl).trans (k28 1 j rfl)).trans (k7 1 j rfl))⟩, by exact gz_m 107 (by omega)⟩, fun h => absurd h (by exact gz_m 108 (by omega))⟩⟩⟩)⟩⟩
        · have Q124 := q76.2.2.2.2.2.2.2.2.2.2.2.2
          rw [FI29 0 78 rfl] at Q124
          obtain ⟨u124, u124_⟩ := gs_or0 Q124 (by exact gz_m 109 (by omega))
          refine gv_run 1 true hD (pc' := 58) (lv' := [(3, .inl z26), (1, .inr (.inl (J9 0 75))), (0, .inr (.inr (some 0)))]) (st' := [.inl 0]) (h' := gr_h I77 J78) (C := (True ∧ True)) rfl ⟨trivial, trivial⟩ ?_
          exact gv_zret hD rfl (by exact gz_m 110 (by omega)) ⟨I77, J78, rfl, hI77, FI77, FJ78, ⟨_, rfl, by exact gz_m 111 (by omega), by exact gz_m 112 (by omega), by exact gz_m 113 (by omega), by exact gz_m 114 (by omega), by exact gz_m 115 (by omega), by exact gz_m 116 (by omega), by exact gz_m 117 (by omega), by exact gz_m 118 (by omega), by exact gz_m 119 (by omega), by exact gz_m 120 (by omega), (Or.inr ⟨by exact gz_m 121 (by omega), by first | (exfalso; exact gz_m 122 (by omega)) | (unfold gs_tong; (repeat first | rw [if_pos (by exact gz_m 123 (by omega))] | rw [if_neg (by exact gz_m 124 (by omega))]); exact ⟨by exact gz_m 125 (by omega), by exact gz_m 126 (by omega), ⟨⟨(((g76 0 1 rfl).trans (g28 0 1 rfl)).trans (g7 0 1 rfl)), fun j => (((k76 1 j rfl).trans (k28 1 j rfl)).trans (k7 1 j rfl))⟩, (((g76 0 6 rfl).trans (g28 0 6 rfl)).trans (g7 0 6 rfl))⟩⟩)⟩)⟩⟩
      · refine gv_run 2 true hD (pc' := 51) (lv' := [(3, .inl z26), (1, .inr (.inl (J9 0 75))), (0, .inr (.inr (some 0)))]) (st' := [.inl 1, .inr (.inr (some 0))]) (h' := gr_h I29 J30) (C := ((True ∧ True) ∧ True)) rfl ⟨⟨trivial, trivial⟩, trivial⟩ ?_
        obtain ⟨r125, h125, E125, P125⟩ := r_done_p (ws0 := ws0) (tb := tb) hws htb ext β N9 (gs_X β N9 p9) I29 J30 hI29 1 ⟨by exact gz_m 127 (by omega), by exact gz_m 128 (by omega)⟩ (by exact gz_m 129 (by omega)) (by exact gz_m 130 (by omega)) (by exact gz_m 131 (by omega)) (by exact gz_m 132 (by omega)) (by exact gz_m 133 (by omega)) A40 (by exact gz_m 134 (by omega))
        obtain ⟨I126, J127, rfl, hI126, g125, k125, ⟨z125, rfl, q125⟩⟩ := P125
        have FI126 := gr_frt FI29 g125 rfl rfl
        have FJ127 := gr_fjt FJ30 k125 rfl rfl
        have t128 := g125 0 69 rfl
        have t129 := g125 0 1 rfl
        have t130 := g125 0 6 rfl
        have f131 := (gr_b_0_71 hI126)
        have f132 := (gr_b_0_72 hI126)
        have f133 := (gr_b_0_73 hI126)
        have f134 := (gr_b_0_69 hI126)
        have f135 := (gr_b_0_1 hI126)
        have f136 := (gr_b_0_6 hI126)
        refine gv_callV hD rfl (As := [.inl 1]) (st := []) rfl (by decide) rfl rfl (gr_lV hws rfl) (Nat.le_of_ble_eq_true rfl) (gz_Ev_mono (d := 11) (by decide) E125) ?_
        show gv_X _ _ (54, [(3, .inl z26), (1, .inr (.inl (J9 0 75))), (0, .inr (.inr (some 0)))], [.inl z125], gr_sh ++ ext, gr_h I126 J127)
        refine gv_if_ne (t := 59) hD rfl rfl ⟨by exact gz_m 135 (by omega), by exact gz_m 136 (by omega)⟩ (fun c137 => ?_) (fun c137 => ?_)
        · have Q138 := q125.2.2.2.2.2.2.2.2.2.2.2.2
          rw [FI29 0 78 rfl] at Q138
          obtain ⟨u138, A138⟩ := gs_or1 Q138 (by exact gz_m 137 (by omega))
          have t139 := gr_ATp_l A138
          refine gv_run 1 true hD (pc' := 60) (lv' := [(3, .inl z26), (1, .inr (.inl (J9 0 75))), (0, .inr (.inr (some 0)))]) (st' := [.inl z26]) (h' := gr_h I126 J127) (C := (True ∧ True)) rfl ⟨trivial, trivial⟩ ?_
          refine gv_if_ge (t := 82) hD rfl rfl ⟨by exact gz_m 138 (by omega), by exact gz_m 139 (by omega)⟩ (fun c140 => ?_) (fun c140 => ?_)
          · exfalso; exact gz_m 140 (by omega)
          · have f141 := (gr_b_0_1 hI126)
            refine gv_run 6 true hD (pc' := 71) (lv' := [(3, .inl z26), (1, .inr (.inl (J9 0 75))), (0, .inr (.inr (some 0)))]) (st' := [.inl ((I126 0 1) + 1), .inr (.inr (some 0)), .inl (I126 0 1)]) (h' := gr_h I126 J127) (C := ((((((True ∧ True) ∧ True) ∧ True) ∧ True) ∧ True) ∧ True)) rfl ⟨⟨⟨⟨⟨⟨trivial, trivial⟩, trivial⟩, trivial⟩, trivial⟩, trivial⟩, trivial⟩ ?_
            refine gv_run 1 true hD (pc' := 74) (lv' := [(3, .inl z26), (1, .inr (.inl (J9 0 75))), (0, .inr (.inr (some 0)))]) (st' := [.inl (I126 0 1)]) (h' := gz_up (gr_h I126 J127) 0 1 (.inl (((I126 0 1) + 1)))) (C := (True ∧ True)) rfl ⟨trivial, trivial⟩ ?_
            refine gr_st hI126 FI126 rfl rfl ⟨⟨by show 0 ≤ _; exact gz_m 141 (by omega), by show _ ≤ 8; exact gz_m 142 (by omega)⟩, trivial⟩ (fun I142 hI142 FI142 q143 p143 => ?_)
            have t144 := p143 0 71 (by decide)
            have t145 := p143 0 72 (by decide)
            have t146 := p143 0 73 (by decide)
            have t147 := p143 0 69 (by decide)
            have t148 := p143 0 6 (by decide)
            have f149 := (gr_b_0_71 hI142)
            have f150 := (gr_b_0_72 hI142)
            have f151 := (gr_b_0_73 hI142)
            have f152 := (gr_b_0_69 hI142)
            have f153 := (gr_b_0_1 hI142)
            have f154 := (gr_b_0_6 hI142)
            have A155 := gr_ATp_sf A138 p143 rfl
            refine gv_run 5 true hD (pc' := 81) (lv' := [(3, .inl (I126 0 1)), (1, .inr (.inl (J9 0 75))), (0, .inr (.inr (some 0)))]) (st' := [.inr (.inl (J9 0 75)), .inl (I126 0 1), .inr (.inr (some 1))]) (h' := gr_h I142 J127) (C := (((((True ∧ True) ∧ True) ∧ True) ∧ True) ∧ True)) rfl ⟨⟨⟨⟨⟨trivial, trivial⟩, trivial⟩, trivial⟩, trivial⟩, trivial⟩ ?_
            refine gv_run 1 true hD (pc' := 82) (lv' := [(3, .inl (I126 0 1)), (1, .inr (.inl (J9 0 75))), (0, .inr (.inr (some 0)))]) (st' := []) (h' := gz_up (gr_h I142 J127) 1 (Int.toNat ((I126 0 1))) (.inr (.inl (J9 0 75)))) (C := (True ∧ (0 ≤ (I126 0 1) ∧ (I126 0 1) < ((8 : Nat) : Int)))) rfl ⟨trivial, ⟨by exact gz_m 143 (by omega), by exact gz_m 144 (by omega)⟩⟩ ?_
            refine gr_stJq FJ127 rfl rfl (fun J156 FJ156 q157 p157 => ?_)
            have A158 := gr_ATp_sj' A155 p157 rfl
            refine gv_run 3 true hD (pc' := 87) (lv' := [(3, .inl (I126 0 1)), (1, .inr (.inl (J9 0 75))), (0, .inr (.inr (some 0)))]) (st' := []) (h' := gz_up (gr_h I142 J156) 0 6 (.inl (I126 0 1))) (C := (((True ∧ True) ∧ True) ∧ True)) rfl ⟨⟨⟨trivial, trivial⟩, trivial⟩, trivial⟩ ?_
            refine gr_st hI142 FI142 rfl rfl ⟨⟨by show (-1) ≤ _; exact gz_m 145 (by omega), by show _ ≤ 7; exact gz_m 146 (by omega)⟩, trivial⟩ (fun I159 hI159 FI159 q160 p160 => ?_)
            have t161 := p160 0 71 (by decide)
            have t162 := p160 0 72 (by decide)
            have t163 := p160 0 73 (by decide)
            have t164 := p160 0 69 (by decide)
            have t165 := p160 0 1 (by decide)
            have f166 := (gr_b_0_71 hI159)
            have f167 := (gr_b_0_72 hI159)
            have f168 := (gr_b_0_73 hI159)
            have f169 := (gr_b_0_69 hI159)
            have f170 := (gr_b_0_1 hI159)
            have f171 := (gr_b_0_6 hI159)
            have A172 := gr_ATp_sf A158 p160 rfl
            refine gv_run 1 true hD (pc' := 88) (lv' := [(3, .inl (I126 0 1)), (1, .inr (.inl (J9 0 75))), (0, .inr (.inr (some 0)))]) (st' := [.inl 1]) (h' := gr_h I159 J156) (C := (True ∧ True)) rfl ⟨trivial, trivial⟩ ?_
            exact gv_zret hD rfl (by exact gz_m 147 (by omega)) ⟨I159, J156, rfl, hI159, FI159, FJ156, ⟨_, rfl, by exact gz_m 148 (by omega), by exact gz_m 149 (by omega), by exact gz_m 150 (by omega), by exact gz_m 151 (by omega), by exact gz_m 152 (by omega), by exact gz_m 153 (by omega), by exact gz_m 154 (by omega), by exact gz_m 155 (by omega), by exact gz_m 156 (by omega), by exact gz_m 157 (by omega), (Or.inl ⟨by exact gz_m 158 (by omega), by have e9 : (gs_tong β N9 I J (I 0 78) p9) = (gs_done β N9 1 (I 0 78) (gs_X β N9 p9)) := (by first | (exfalso; exact gz_m 159 (by omega)) | (unfold gs_tong; (repeat first | rw [if_pos (by exact gz_m 160 (by omega))] | rw [if_neg (by exact gz_m 161 (by omega))]))); rw [e9]; exact ⟨by exact gz_m 162 (by omega), A172, ⟨fun _ => ⟨⟨by exact gz_m 163 (by omega), by rw [show Int.toNat (I 0 1) = (Int.toNat ((I126 0 1))) from by exact gz_m 164 (by omega)]; exact q157.trans (gr_ATp_w A22), fun j hj => (p157 1 j (fun h => hj (by have h9 := h.2; exact gz_m 165 (by omega)))).trans (((k125 1 j rfl).trans (k28 1 j rfl)).trans (k7 1 j rfl))⟩, by exact gz_m 166 (by omega)⟩, fun h => absurd h (by exact gz_m 167 (by omega))⟩⟩⟩)⟩⟩
        · have Q173 := q125.2.2.2.2.2.2.2.2.2.2.2.2
          rw [FI29 0 78 rfl] at Q173
          obtain ⟨u173, u173_⟩ := gs_or0 Q173 (by exact gz_m 168 (by omega))
          refine gv_run 1 true hD (pc' := 58) (lv' := [(3, .inl z26), (1, .inr (.inl (J9 0 75))), (0, .inr (.inr (some 0)))]) (st' := [.inl 0]) (h' := gr_h I126 J127) (C := (True ∧ True)) rfl ⟨trivial, trivial⟩ ?_
          exact gv_zret hD rfl (by exact gz_m 169 (by omega)) ⟨I126, J127, rfl, hI126, FI126, FJ127, ⟨_, rfl, by exact gz_m 170 (by omega), by exact gz_m 171 (by omega), by exact gz_m 172 (by omega), by exact gz_m 173 (by omega), by exact gz_m 174 (by omega), by exact gz_m 175 (by omega), by exact gz_m 176 (by omega), by exact gz_m 177 (by omega), by exact gz_m 178 (by omega), by exact gz_m 179 (by omega), (Or.inr ⟨by exact gz_m 180 (by omega), by first | (exfalso; exact gz_m 181 (by omega)) | (unfold gs_tong; (repeat first | rw [if_pos (by exact gz_m 182 (by omega))] | rw [if_neg (by exact gz_m 183 (by omega))]); exact ⟨by exact gz_m 184 (by omega), by exact gz_m 185 (by omega), ⟨⟨(((g125 0 1 rfl).trans (g28 0 1 rfl)).trans (g7 0 1 rfl)), fun j => (((k125 1 j rfl).trans (k28 1 j rfl)).trans (k7 1 j rfl))⟩, (((g125 0 6 rfl).trans (g28 0 6 rfl)).trans (g7 0 6 rfl))⟩⟩)⟩)⟩⟩
  · refine gv_run 1 true hD (pc' := 8) (lv' := [(0, .inr (.inr (some 0)))]) (st' := [.inl 0]) (h' := gr_h I8 J9) (C := (True ∧ True)) rfl ⟨trivial, trivial⟩ ?_
    exact gv_zret hD rfl (by exact gz_m 186 (by omega)) ⟨I8, J9, rfl, hI8, FI8, FJ9, ⟨_, rfl, by exact gz_m 187 (by omega), by exact gz_m 188 (by omega), by exact gz_m 189 (by omega), by exact gz_m 190 (by omega), by exact gz_m 191 (by omega), by exact gz_m 192 (by omega), by exact gz_m 193 (by omega), by exact gz_m 194 (by omega), by exact gz_m 195 (by omega), by exact gz_m 196 (by omega), (Or.inr ⟨by exact gz_m 197 (by omega), by first | (exfalso; exact gz_m 198 (by omega)) | (unfold gs_tong; (repeat first | rw [if_pos (by exact gz_m 199 (by omega))] | rw [if_neg (by exact gz_m 200 (by omega))]); exact ⟨by exact gz_m 201 (by omega), by exact gz_m 202 (by omega), ⟨⟨(g7 0 1 rfl), fun j => (k7 1 j rfl)⟩, (g7 0 6 rfl)⟩⟩)⟩)⟩⟩
