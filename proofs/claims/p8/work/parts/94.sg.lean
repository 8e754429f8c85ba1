set_option maxHeartbeats 8000000 in
set_option maxRecDepth 100000 in
theorem r_kind_p {ws0 : List Cond} {tb : String → gz_T} (hws : ∀ w ∈ gr_ws, w ∈ ws0) (htb : tb RX13 = gr_T) (ext : gz_Sh) (β : Int → Int) (N9 : Int) (p9 : Int) (I : gr_I) (J : gr_J) (hI : gr_Inv I)   (x0 : I 0 71 = 5 ∨ I 0 73 ≤ I 0 69) (x1 : I 0 72 ≤ I 0 69) (x2 : I 0 71 = 0 ∨ (I 0 72 < I 0 73 ∧ I 0 72 < I 0 69)) (x3 : I 0 71 = 3 → 2 ≤ I 0 73 - I 0 72 ∧ I 0 73 - I 0 72 ≤ 14) (x4 : I 0 72 ≤ I 0 73) (x5 : gr_ATp β N9 p9 I J) (x6 : 0 ≤ p9) : ∃ r h', gz_Ev ws0 tb 12 (yX13_kind, cX13_kind, 3, (some .boolean)) [.inr (.inr (some 0))] (gr_sh ++ ext) (gr_h I J) r (gr_sh ++ ext) h' 0 0 ∧ (∃ (I' : gr_I) (J' : gr_J), h' = gr_h I' J' ∧ gr_Inv I' ∧ gr_fr [2, 71, 72, 73, 74, 75, 76, 77] [2] I I' ∧ gr_fj [2, 71, 72, 73, 74, 75, 76, 77] [2] J J' ∧ (∃ z : Int, r = some (.inl z) ∧ 0 ≤ z ∧ z ≤ 1 ∧ (I' 0 71 = 5 ∨ I' 0 73 ≤ I' 0 69) ∧ (I' 0 72 ≤ I' 0 69) ∧ (I' 0 71 = 0 ∨ (I' 0 72 < I' 0 73 ∧ I' 0 72 < I' 0 69)) ∧ (I' 0 71 = 3 → 2 ≤ I' 0 73 - I' 0 72 ∧ I' 0 73 - I' 0 72 ≤ 14) ∧ (I' 0 72 ≤ I' 0 73) ∧ (I' 0 69 = I 0 69) ∧ (I 0 73 ≤ I' 0 73) ∧ (I 0 72 ≤ I' 0 72) ∧ (gs_Or z (0 ≤ (gs_new β N9 I J 2 2 32 (I 0 78) p9) ∧ gr_ATp β N9 (gs_new β N9 I J 2 2 32 (I 0 78) p9) I' J' ∧ gs_put 2 2 (gs_rn β N9 p9) I J I' J') ((gs_new β N9 I J 2 2 32 (I 0 78) p9) < 0 ∧ I' 0 77 = -1 - (gs_new β N9 I J 2 2 32 (I 0 78) p9) ∧ gs_same 2 2 I J I' J')))) := by
  have FI : gr_fr [2, 71, 72, 73, 74, 75, 76, 77] [2] I I := fun _ _ _ => rfl
  have FJ : gr_fj [2, 71, 72, 73, 74, 75, 76, 77] [2] J J := fun _ _ _ => rfl
  have hD : gv_D (gr_E ws0 tb 11 (yX13_kind, cX13_kind, 3, (some .boolean)) kX13_kind) := gq_of oX13_kind
  refine gr_ev (d := 11) (l := kX13_kind) (Po := fun r h' => (∃ (I' : gr_I) (J' : gr_J), h' = gr_h I' J' ∧ gr_Inv I' ∧ gr_fr [2, 71, 72, 73, 74, 75, 76, 77] [2] I I' ∧ gr_fj [2, 71, 72, 73, 74, 75, 76, 77] [2] J J' ∧ (∃ z : Int, r = some (.inl z) ∧ 0 ≤ z ∧ z ≤ 1 ∧ (I' 0 71 = 5 ∨ I' 0 73 ≤ I' 0 69) ∧ (I' 0 72 ≤ I' 0 69) ∧ (I' 0 71 = 0 ∨ (I' 0 72 < I' 0 73 ∧ I' 0 72 < I' 0 69)) ∧ (I' 0 71 = 3 → 2 ≤ I' 0 73 - I' 0 72 ∧ I' 0 73 - I' 0 72 ≤ 14) ∧ (I' 0 72 ≤ I' 0 73) ∧ (I' 0 69 = I 0 69) ∧ (I 0 73 ≤ I' 0 73) ∧ (I 0 72 ≤ I' 0 72) ∧ (gs_Or z (0 ≤ (gs_new β N9 I J 2 2 32 (I 0 78) p9) ∧ gr_ATp β N9 (gs_new β N9 I J 2 2 32 (I 0 78) p9) I' J' ∧ gs_put 2 2 (gs_rn β N9 p9) I J I' J') ((gs_new β N9 I J 2 2 32 (I 0 78) p9) < 0 ∧ I' 0 77 = -1 - (gs_new β N9 I J 2 2 32 (I 0 78) p9) ∧ gs_same 2 2 I J I' J'))))) htb rfl (Nat.le_of_ble_eq_true rfl) ?_
  have tAT := gr_ATp_l x5
  have f1 := (gr_b_0_71 hI)
  have f2 := (gr_b_0_72 hI)
  have f3 := (gr_b_0_73 hI)
  have f4 := (gr_b_0_69 hI)
  have f5 := (gr_b_0_2 hI)
  refine gv_run 1 true hD (pc' := 1) (lv' := [(0, .inr (.inr (some 0)))]) (st' := [.inr (.inr (some 0))]) (h' := gr_h I J) (C := (True ∧ True)) rfl ⟨trivial, trivial⟩ ?_
  obtain ⟨r6, h6, E6, P6⟩ := r_name_p (ws0 := ws0) (tb := tb) hws htb ext β N9 p9 I J hI   x5 (by exact gz_m 0 (by omega))
  obtain ⟨I7, J8, rfl, hI7, g6, k6, ⟨z6, rfl, q6⟩⟩ := P6
  have FI7 := gr_frt FI g6 rfl rfl
  have FJ8 := gr_fjt FJ k6 rfl rfl
  have t9 := g6 0 71 rfl
  have t10 := g6 0 72 rfl
  have t11 := g6 0 73 rfl
  have t12 := g6 0 69 rfl
  have t13 := g6 0 2 rfl
  have f14 := (gr_b_0_71 hI7)
  have f15 := (gr_b_0_72 hI7)
  have f16 := (gr_b_0_73 hI7)
  have f17 := (gr_b_0_69 hI7)
  have f18 := (gr_b_0_2 hI7)
  have A19 := gr_ATp_F x5 g6 k6 rfl
  have t20 := gr_ATp_l A19
  refine gv_callV hD rfl (As := []) (st := []) rfl (by decide) rfl rfl (gr_lV hws rfl) (Nat.le_of_ble_eq_true rfl) (gz_Ev_mono (d := 3) (by decide) E6) ?_
  show gv_X _ _ (4, [(0, .inr (.inr (some 0)))], [.inl z6], gr_sh ++ ext, gr_h I7 J8)
  refine gv_if_ne (t := 9) hD rfl rfl ⟨by exact gz_m 1 (by omega), by exact gz_m 2 (by omega)⟩ (fun c21 => ?_) (fun c21 => ?_)
  · refine gv_run 7 true hD (pc' := 20) (lv' := [(1, .inr (.inl (J8 0 75))), (0, .inr (.inr (some 0)))]) (st' := [.inr (.inr (some 0)), .inl 0, .inr (.inr (some 2))]) (h' := gr_h I7 J8) (C := (((((((True ∧ True) ∧ True) ∧ True) ∧ True) ∧ True) ∧ True) ∧ True)) rfl ⟨⟨⟨⟨⟨⟨⟨trivial, trivial⟩, trivial⟩, trivial⟩, trivial⟩, trivial⟩, trivial⟩, trivial⟩ ?_
    have f22 := (gr_b_0_2 hI7)
    refine gv_run 2 true hD (pc' := 24) (lv' := [(1, .inr (.inl (J8 0 75))), (0, .inr (.inr (some 0)))]) (st' := [.inr (.inl (J8 0 75)), .inl (I7 0 2), .inl 0, .inr (.inr (some 2))]) (h' := gr_h I7 J8) (C := ((True ∧ True) ∧ True)) rfl ⟨⟨trivial, trivial⟩, trivial⟩ ?_
    obtain ⟨r23, h23, E23, P23⟩ := r_find_2_p (ws0 := ws0) (tb := tb) hws htb ext I7 J8 hI7 0 (I7 0 2) (J8 0 75) ⟨by exact gz_m 3 (by omega), by exact gz_m 4 (by omega)⟩ ⟨by exact gz_m 5 (by omega), by exact gz_m 6 (by omega)⟩ (by exact gz_m 7 (by omega))
    obtain ⟨rfl, ⟨z23, rfl, q23⟩⟩ := P23
    have t24 := q23.2.2.2.trans (gs_lk_eq (I := I) (J := J) (w := gs_rn β N9 p9) (fun k => (k6 2 k rfl)) (g6 0 2 rfl) (gr_ATp_w A19))
    refine gv_callS hD rfl (As := [.inr (.inr (some 2)), .inl 0, .inl (I7 0 2), .inr (.inl (J8 0 75))]) (st := []) rfl (gr_lS hws rfl) (Nat.le_of_ble_eq_true rfl) (gz_Ev_mono (d := 1) (by decide) E23) ?_
    show gv_X _ _ (27, [(1, .inr (.inl (J8 0 75))), (0, .inr (.inr (some 0)))], [.inl z23], gr_sh ++ ext, gr_h I7 J8)
    refine gv_if_lt (t := 36) hD rfl rfl ⟨by exact gz_m 8 (by omega), by exact gz_m 9 (by omega)⟩ (fun c25 => ?_) (fun c25 => ?_)
    · refine gv_run 1 true hD (pc' := 37) (lv' := [(1, .inr (.inl (J8 0 75))), (0, .inr (.inr (some 0)))]) (st' := [.inr (.inr (some 0))]) (h' := gr_h I7 J8) (C := (True ∧ True)) rfl ⟨trivial, trivial⟩ ?_
      obtain ⟨r26, h26, E26, P26⟩ := r_next_p (ws0 := ws0) (tb := tb) hws htb ext β N9 I7 J8 hI7   (by exact gz_m 10 (by omega)) A19.1.1 A19.1.2
      obtain ⟨I27, J28, rfl, hI27, g26, k26, ⟨rfl, q26⟩⟩ := P26
      have FI27 := gr_frt FI7 g26 rfl rfl
      have FJ28 := gr_fjt FJ8 k26 rfl rfl
      have t29 := g26 0 69 rfl
      have t30 := g26 0 2 rfl
      have f31 := (gr_b_0_71 hI27)
      have f32 := (gr_b_0_72 hI27)
      have f33 := (gr_b_0_73 hI27)
      have f34 := (gr_b_0_69 hI27)
      have f35 := (gr_b_0_2 hI27)
      have A36 := gr_ATp_nx A19 q26.2.2.2.2.2
      have t37 := gr_ATp_l A36
      refine gv_callV hD rfl (As := []) (st := []) rfl (by decide) rfl rfl (gr_lV hws rfl) (Nat.le_of_ble_eq_true rfl) (gz_Ev_mono (d := 10) (by decide) E26) ?_
      show gv_X _ _ (40, [(1, .inr (.inl (J8 0 75))), (0, .inr (.inr (some 0)))], [], gr_sh ++ ext, gr_h I27 J28)
      have f38 := (gr_b_0_2 hI27)
      refine gv_run 4 true hD (pc' := 47) (lv' := [(1, .inr (.inl (J8 0 75))), (0, .inr (.inr (some 0)))]) (st' := [.inl 32, .inl (I27 0 2), .inr (.inr (some 0))]) (h' := gr_h I27 J28) (C := ((((True ∧ True) ∧ True) ∧ True) ∧ True)) rfl ⟨⟨⟨⟨trivial, trivial⟩, trivial⟩, trivial⟩, trivial⟩ ?_
      refine gv_icmp_ge (t := 54) hD rfl rfl ⟨⟨by exact gz_m 11 (by omega), by exact gz_m 12 (by omega)⟩, ⟨by exact gz_m 13 (by omega), by exact gz_m 14 (by omega)⟩⟩ (fun c39 => ?_) (fun c39 => ?_)
      · refine gv_run 1 true hD (pc' := 55) (lv' := [(1, .inr (.inl (J8 0 75))), (0, .inr (.inr (some 0)))]) (st' := [.inl 0, .inr (.inr (some 0))]) (h' := gr_h I27 J28) (C := (True ∧ True)) rfl ⟨trivial, trivial⟩ ?_
        obtain ⟨r40, h40, E40, P40⟩ := r_done_p (ws0 := ws0) (tb := tb) hws htb ext β N9 (gs_X β N9 p9) I27 J28 hI27 0 ⟨by exact gz_m 15 (by omega), by exact gz_m 16 (by omega)⟩ (by exact gz_m 17 (by omega)) (by exact gz_m 18 (by omega)) (by exact gz_m 19 (by omega)) (by exact gz_m 20 (by omega)) (by exact gz_m 21 (by omega)) A36 (by exact gz_m 22 (by omega))
        obtain ⟨I41, J42, rfl, hI41, g40, k40, ⟨z40, rfl, q40⟩⟩ := P40
        have FI41 := gr_frt FI27 g40 rfl rfl
        have FJ42 := gr_fjt FJ28 k40 rfl rfl
        have t43 := g40 0 69 rfl
        have t44 := g40 0 2 rfl
        have f45 := (gr_b_0_71 hI41)
        have f46 := (gr_b_0_72 hI41)
        have f47 := (gr_b_0_73 hI41)
        have f48 := (gr_b_0_69 hI41)
        have f49 := (gr_b_0_2 hI41)
        refine gv_callV hD rfl (As := [.inl 0]) (st := []) rfl (by decide) rfl rfl (gr_lV hws rfl) (Nat.le_of_ble_eq_true rfl) (gz_Ev_mono (d := 11) (by decide) E40) ?_
        show gv_X _ _ (58, [(1, .inr (.inl (J8 0 75))), (0, .inr (.inr (some 0)))], [.inl z40], gr_sh ++ ext, gr_h I41 J42)
        refine gv_if_ne (t := 63) hD rfl rfl ⟨by exact gz_m 23 (by omega), by exact gz_m 24 (by omega)⟩ (fun c50 => ?_) (fun c50 => ?_)
        · have Q51 := q40.2.2.2.2.2.2.2.2.2.2.2.2
          rw [FI27 0 78 rfl] at Q51
          obtain ⟨u51, A51⟩ := gs_or1 Q51 (by exact gz_m 25 (by omega))
          have t52 := gr_ATp_l A51
          have f53 := (gr_b_0_2 hI41)
          refine gv_run 7 true hD (pc' := 74) (lv' := [(1, .inr (.inl (J8 0 75))), (0, .inr (.inr (some 0)))]) (st' := [.inl 1, .inl (I41 0 2), .inr (.inr (some 0)), .inl (I41 0 2), .inr (.inr (some 2))]) (h' := gr_h I41 J42) (C := (((((((True ∧ True) ∧ True) ∧ True) ∧ True) ∧ True) ∧ True) ∧ True)) rfl ⟨⟨⟨⟨⟨⟨⟨trivial, trivial⟩, trivial⟩, trivial⟩, trivial⟩, trivial⟩, trivial⟩, trivial⟩ ?_
          refine gv_run 2 true hD (pc' := 78) (lv' := [(1, .inr (.inl (J8 0 75))), (0, .inr (.inr (some 0)))]) (st' := [.inl (I41 0 2), .inr (.inr (some 2))]) (h' := gz_up (gr_h I41 J42) 0 2 (.inl (((I41 0 2) + 1)))) (C := ((True ∧ True) ∧ True)) rfl ⟨⟨trivial, trivial⟩, trivial⟩ ?_
          refine gr_st hI41 FI41 rfl rfl ⟨⟨by show 0 ≤ _; exact gz_m 26 (by omega), by show _ ≤ 32; exact gz_m 27 (by omega)⟩, trivial⟩ (fun I54 hI54 FI54 q55 p55 => ?_)
          have t56 := p55 0 71 (by decide)
          have t57 := p55 0 72 (by decide)
          have t58 := p55 0 73 (by decide)
          have t59 := p55 0 69 (by decide)
          have f60 := (gr_b_0_71 hI54)
          have f61 := (gr_b_0_72 hI54)
          have f62 := (gr_b_0_73 hI54)
          have f63 := (gr_b_0_69 hI54)
          have f64 := (gr_b_0_2 hI54)
          have A65 := gr_ATp_sf A51 p55 rfl
          refine gv_run 2 true hD (pc' := 80) (lv' := [(1, .inr (.inl (J8 0 75))), (0, .inr (.inr (some 0)))]) (st' := []) (h' := gz_up (gr_h I54 J42) 2 (Int.toNat ((I41 0 2))) (.inr (.inl (J8 0 75)))) (C := ((True ∧ True) ∧ (0 ≤ (I41 0 2) ∧ (I41 0 2) < ((32 : Nat) : Int)))) rfl ⟨⟨trivial, trivial⟩, ⟨by exact gz_m 28 (by omega), by exact gz_m 29 (by omega)⟩⟩ ?_
          refine gr_stJq FJ42 rfl rfl (fun J66 FJ66 q67 p67 => ?_)
          have A68 := gr_ATp_sj' A65 p67 rfl
          refine gv_run 1 true hD (pc' := 81) (lv' := [(1, .inr (.inl (J8 0 75))), (0, .inr (.inr (some 0)))]) (st' := [.inl 1]) (h' := gr_h I54 J66) (C := (True ∧ True)) rfl ⟨trivial, trivial⟩ ?_
          exact gv_zret hD rfl (by exact gz_m 30 (by omega)) ⟨I54, J66, rfl, hI54, FI54, FJ66, ⟨_, rfl, by exact gz_m 31 (by omega), by exact gz_m 32 (by omega), by exact gz_m 33 (by omega), by exact gz_m 34 (by omega), by exact gz_m 35 (by omega), by exact gz_m 36 (by omega), by exact gz_m 37 (by omega), by exact gz_m 38 (by omega), by exact gz_m 39 (by omega), by exact gz_m 40 (by omega), (Or.inl ⟨by exact gz_m 41 (by omega), by have e9 : (gs_new β N9 I J 2 2 32 (I 0 78) p9) = (gs_done β N9 0 (I 0 78) (gs_X β N9 p9)) := (by first | (exfalso; exact gz_m 42 (by omega)) | (unfold gs_new; (repeat first | rw [if_pos (by exact gz_m 43 (by omega))] | rw [if_neg (by exact gz_m 44 (by omega))]))); rw [e9]; exact ⟨by exact gz_m 45 (by omega), A68, ⟨by exact gz_m 46 (by omega), by rw [show Int.toNat (I 0 2) = (Int.toNat ((I41 0 2))) from by exact gz_m 47 (by omega)]; exact q67.trans (gr_ATp_w A19), fun j hj => (p67 2 j (fun h => hj (by have h9 := h.2; exact gz_m 48 (by omega)))).trans (((k40 2 j rfl).trans (k26 2 j rfl)).trans (k6 2 j rfl))⟩⟩⟩)⟩⟩
        · have Q69 := q40.2.2.2.2.2.2.2.2.2.2.2.2
          rw [FI27 0 78 rfl] at Q69
          obtain ⟨u69, u69_⟩ := gs_or0 Q69 (by exact gz_m 49 (by omega))
          refine gv_run 1 true hD (pc' := 62) (lv' := [(1, .inr (.inl (J8 0 75))), (0, .inr (.inr (some 0)))]) (st' := [.inl 0]) (h' := gr_h I41 J42) (C := (True ∧ True)) rfl ⟨trivial, trivial⟩ ?_
          exact gv_zret hD rfl (by exact gz_m 50 (by omega)) ⟨I41, J42, rfl, hI41, FI41, FJ42, ⟨_, rfl, by exact gz_m 51 (by omega), by exact gz_m 52 (by omega), by exact gz_m 53 (by omega), by exact gz_m 54 (by omega), by exact gz_m 55 (by omega), by exact gz_m 56 (by omega), by exact gz_m 57 (by omega), by exact gz_m 58 (by omega), by exact gz_m 59 (by omega), by exact gz_m 60 (by omega), (Or.inr ⟨by exact gz_m 61 (by omega), by first | (exfalso; exact gz_m 62 (by omega)) | (unfold gs_new; (repeat first | rw [if_pos (by exact gz_m 63 (by omega))] | rw [if_neg (by exact gz_m 64 (by omega))]); exact ⟨by exact gz_m 65 (by omega), by exact gz_m 66 (by omega), ⟨(((g40 0 2 rfl).trans (g26 0 2 rfl)).trans (g6 0 2 rfl)), fun j => (((k40 2 j rfl).trans (k26 2 j rfl)).trans (k6 2 j rfl))⟩⟩)⟩)⟩⟩
      · refine gv_run 2 true hD (pc' := 55) (lv' := [(1, .inr (.inl (J8 0 75))), (0, .inr (.inr (some 0)))]) (st' := [.inl 1, .inr (.inr (some 0))]) (h' := gr_h I27 J28) (C := ((True ∧ True) ∧ True)) rfl ⟨⟨trivial, trivial⟩, trivial⟩ ?_
        obtain ⟨r70, h70, E70, P70⟩ := r_done_p (ws0 := ws0) (tb := tb) hws htb ext β N9 (gs_X β N9 p9) I27 J28 hI27 1 ⟨by exact gz_m 67 (by omega), by exact gz_m 68 (by omega)⟩ (by exact gz_m 69 (by omega)) (by exact gz_m 70 (by omega)) (by exact gz_m 71 (by omega)) (by exact gz_m 72 (by omega)) (by exact gz_m 73 (by omega)) A36 (by exact gz_m 74 (by omega))
        obtain ⟨I71, J72, rfl, hI71, g70, k70, ⟨z70, rfl, q70⟩⟩ := P70
        have FI71 := gr_frt FI27 g70 rfl rfl
        have FJ72 := gr_fjt FJ28 k70 rfl rfl
        have t73 := g70 0 69 rfl
        have t74 := g70 0 2 rfl
        have f75 := (gr_b_0_71 hI71)
        have f76 := (gr_b_0_72 hI71)
        have f77 := (gr_b_0_73 hI71)
        have f78 := (gr_b_0_69 hI71)
        have f79 := (gr_b_0_2 hI71)
        refine gv_callV hD rfl (As := [.inl 1]) (st := []) rfl (by decide) rfl rfl (gr_lV hws rfl) (Nat.le_of_ble_eq_true rfl) (gz_Ev_mono (d := 11) (by decide) E70) ?_
        show gv_X _ _ (58, [(1, .inr (.inl (J8 0 75))), (0, .inr (.inr (some 0)))], [.inl z70], gr_sh ++ ext, gr_h I71 J72)
        refine gv_if_ne (t := 63) hD rfl rfl ⟨by exact gz_m 75 (by omega), by exact gz_m 76 (by omega)⟩ (fun c80 => ?_) (fun c80 => ?_)
        · have Q81 := q70.2.2.2.2.2.2.2.2.2.2.2.2
          rw [FI27 0 78 rfl] at Q81
          obtain ⟨u81, A81⟩ := gs_or1 Q81 (by exact gz_m 77 (by omega))
          have t82 := gr_ATp_l A81
          have f83 := (gr_b_0_2 hI71)
          refine gv_run 7 true hD (pc' := 74) (lv' := [(1, .inr (.inl (J8 0 75))), (0, .inr (.inr (some 0)))]) (st' := [.inl 1, .inl (I71 0 2), .inr (.inr (some 0)), .inl (I71 0 2), .inr (.inr (some 2))]) (h' := gr_h I71 J72) (C := (((((((True ∧ True) ∧ True) ∧ True) ∧ True) ∧ True) ∧ True) ∧ True)) rfl ⟨⟨⟨⟨⟨⟨⟨trivial, trivial⟩, trivial⟩, trivial⟩, trivial⟩, trivial⟩, trivial⟩, trivial⟩ ?_
          refine gv_run 2 true hD (pc' := 78) (lv' := [(1, .inr (.inl (J8 0 75))), (0, .inr (.inr (some 0)))]) (st' := [.inl (I71 0 2), .inr (.inr (some 2))]) (h' := gz_up (gr_h I71 J72) 0 2 (.inl (((I71 0 2) + 1)))) (C := ((True ∧ True) ∧ True)) rfl ⟨⟨trivial, trivial⟩, trivial⟩ ?_
          refine gr_st hI71 FI71 rfl rfl ⟨⟨by show 0 ≤ _; exact gz_m 78 (by omega), by show _ ≤ 32; exact gz_m 79 (by omega)⟩, trivial⟩ (fun I84 hI84 FI84 q85 p85 => ?_)
          have t86 := p85 0 71 (by decide)
          have t87 := p85 0 72 (by decide)
          have t88 := p85 0 73 (by decide)
          have t89 := p85 0 69 (by decide)
          have f90 := (gr_b_0_71 hI84)
          have f91 := (gr_b_0_72 hI84)
          have f92 := (gr_b_0_73 hI84)
          have f93 := (gr_b_0_69 hI84)
          have f94 := (gr_b_0_2 hI84)
          have A95 := gr_ATp_sf A81 p85 rfl
          refine gv_run 2 true hD (pc' := 80) (lv' := [(1, .inr (.inl (J8 0 75))), (0, .inr (.inr (some 0)))]) (st' := []) (h' := gz_up (gr_h I84 J72) 2 (Int.toNat ((I71 0 2))) (.inr (.inl (J8 0 75)))) (C := ((True ∧ True) ∧ (0 ≤ (I71 0 2) ∧ (I71 0 2) < ((32 : Nat) : Int)))) rfl ⟨⟨trivial, trivial⟩, ⟨by exact gz_m 80 (by omega), by exact gz_m 81 (by omega)⟩⟩ ?_
          refine gr_stJq FJ72 rfl rfl (fun J96 FJ96 q97 p97 => ?_)
          have A98 := gr_ATp_sj' A95 p97 rfl
          refine gv_run 1 true hD (pc' := 81) (lv' := [(1, .inr (.inl (J8 0 75))), (0, .inr (.inr (some 0)))]) (st' := [.inl 1]) (h' := gr_h I84 J96) (C := (True ∧ True)) rfl ⟨trivial, trivial⟩ ?_
          exact gv_zret hD rfl (by exact gz_m 82 (by omega)) ⟨I84, J96, rfl, hI84, FI84, FJ96, ⟨_, rfl, by exact gz_m 83 (by omega), by exact gz_m 84 (by omega), by exact gz_m 85 (by omega), by exact gz_m 86 (by omega), by exact gz_m 87 (by omega), by exact gz_m 88 (by omega), by exact gz_m 89 (by omega), by exact gz_m 90 (by omega), by exact gz_m 91 (by omega), by exact gz_m 92 (by omega), (Or.inl ⟨by exact gz_m 93 (by omega), by have e9 : (gs_new β N9 I J 2 2 32 (I 0 78) p9) = (gs_done β N9 1 (I 0 78) (gs_X β N9 p9)) := (by first | (exfalso; exact gz_m 94 (by omega)) | (unfold gs_new; (repeat first | rw [if_pos (by exact gz_m 95 (by omega))] | rw [if_neg (by exact gz_m 96 (by omega))]))); rw [e9]; exact ⟨by exact gz_m 97 (by omega), A98, ⟨by exact gz_m 98 (by omega), by rw [show Int.toNat (I 0 2) = (Int.toNat ((I71 0 2))) from by exact gz_m 99 (by omega)]; exact q97.trans (gr_ATp_w A19), fun j hj => (p97 2 j (fun h => hj (by have h9 := h.2; exact gz_m 100 (by omega)))).trans (((k70 2 j rfl).trans (k26 2 j rfl)).trans (k6 2 j rfl))⟩⟩⟩)⟩⟩
        · have Q99 := q70.2.2.2.2.2.2.2.2.2.2.2.2
          rw [FI27 0 78 rfl] at Q99
          obtain ⟨u99, u99_⟩ := gs_or0 Q99 (by exact gz_m 101 (by omega))
          refine gv_run 1 true hD (pc' := 62) (lv' := [(1, .inr (.inl (J8 0 75))), (0, .inr (.inr (some 0)))]) (st' := [.inl 0]) (h' := gr_h I71 J72) (C := (True ∧ True)) rfl ⟨trivial, trivial⟩ ?_
          exact gv_zret hD rfl (by exact gz_m 102 (by omega)) ⟨I71, J72, rfl, hI71, FI71, FJ72, ⟨_, rfl, by exact gz_m 103 (by omega), by exact gz_m 104 (by omega), by exact gz_m 105 (by omega), by exact gz_m 106 (by omega), by exact gz_m 107 (by omega), by exact gz_m 108 (by omega), by exact gz_m 109 (by omega), by exact gz_m 110 (by omega), by exact gz_m 111 (by omega), by exact gz_m 112 (by omega), (Or.inr ⟨by exact gz_m 113 (by omega), by first | (exfalso; exact gz_m 114 (by omega)) | (unfold gs_new; (repeat first | rw [if_pos (by exact gz_m 115 (by omega))] | rw [if_neg (by exact gz_m 116 (by omega))]); exact ⟨by exact gz_m 117 (by omega), by exact gz_m 118 (by omega), ⟨(((g70 0 2 rfl).trans (g26 0 2 rfl)).trans (g6 0 2 rfl)), fun j => (((k70 2 j rfl).trans (k26 2 j rfl)).trans (k6 2 j rfl))⟩⟩)⟩)⟩⟩
    · refine gv_run 2 true hD (pc' := 32) (lv' := [(1, .inr (.inl (J8 0 75))), (0, .inr (.inr (some 0)))]) (st' := [.inl 4, .inr (.inr (some 0))]) (h' := gr_h I7 J8) (C := ((True ∧ True) ∧ True)) rfl ⟨⟨trivial, trivial⟩, trivial⟩ ?_
      obtain ⟨r100, h100, E100, P100⟩ := r_no__p (ws0 := ws0) (tb := tb) hws htb ext β N9 p9 I7 J8 hI7 4 ⟨by exact gz_m 119 (by omega), by exact gz_m 120 (by omega)⟩ A19 (by exact gz_m 121 (by omega))
      obtain ⟨I101, J102, rfl, hI101, g100, k100, ⟨z100, rfl, q100⟩⟩ := P100
      have FI101 := gr_frt FI7 g100 rfl rfl
      have FJ102 := gr_fjt FJ8 k100 rfl rfl
      have t103 := g100 0 71 rfl
      have t104 := g100 0 72 rfl
      have t105 := g100 0 73 rfl
      have t106 := g100 0 69 rfl
      have t107 := g100 0 2 rfl
      have f108 := (gr_b_0_71 hI101)
      have f109 := (gr_b_0_72 hI101)
      have f110 := (gr_b_0_73 hI101)
      have f111 := (gr_b_0_69 hI101)
      have f112 := (gr_b_0_2 hI101)
      have A113 := gr_ATp_F A19 g100 k100 rfl
      have t114 := gr_ATp_l A113
      refine gv_callV hD rfl (As := [.inl 4]) (st := []) rfl (by decide) rfl rfl (gr_lV hws rfl) (Nat.le_of_ble_eq_true rfl) (gz_Ev_mono (d := 2) (by decide) E100) ?_
      show gv_X _ _ (35, [(1, .inr (.inl (J8 0 75))), (0, .inr (.inr (some 0)))], [.inl z100], gr_sh ++ ext, gr_h I101 J102)
      exact gv_zret hD rfl (by exact gz_m 122 (by omega)) ⟨I101, J102, rfl, hI101, FI101, FJ102, ⟨_, rfl, by exact gz_m 123 (by omega), by exact gz_m 124 (by omega), by exact gz_m 125 (by omega), by exact gz_m 126 (by omega), by exact gz_m 127 (by omega), by exact gz_m 128 (by omega), by exact gz_m 129 (by omega), by exact gz_m 130 (by omega), by exact gz_m 131 (by omega), by exact gz_m 132 (by omega), (Or.inr ⟨by exact gz_m 133 (by omega), by first | (exfalso; exact gz_m 134 (by omega)) | (unfold gs_new; (repeat first | rw [if_pos (by exact gz_m 135 (by omega))] | rw [if_neg (by exact gz_m 136 (by omega))]); exact ⟨by exact gz_m 137 (by omega), by exact gz_m 138 (by omega), ⟨((g100 0 2 rfl).trans (g6 0 2 rfl)), fun j => ((k100 2 j rfl).trans (k6 2 j rfl))⟩⟩)⟩)⟩⟩
  · refine gv_run 1 true hD (pc' := 8) (lv' := [(0, .inr (.inr (some 0)))]) (st' := [.inl 0]) (h' := gr_h I7 J8) (C := (True ∧ True)) rfl ⟨trivial, trivial⟩ ?_
    exact gv_zret hD rfl (by exact gz_m 139 (by omega)) ⟨I7, J8, rfl, hI7, FI7, FJ8, ⟨_, rfl, by exact gz_m 140 (by omega), by exact gz_m 141 (by omega), by exact gz_m 142 (by omega), by exact gz_m 143 (by omega), by exact gz_m 144 (by omega), by exact gz_m 145 (by omega), by exact gz_m 146 (by omega), by exact gz_m 147 (by omega), by exact gz_m 148 (by omega), by exact gz_m 149 (by omega), (Or.inr ⟨by exact gz_m 150 (by omega), by first | (exfalso; exact gz_m 151 (by omega)) | (unfold gs_new; (repeat first | rw [if_pos (by exact gz_m 152 (by omega))] | rw [if_neg (by exact gz_m 153 (by omega))]); exact ⟨by exact gz_m 154 (by omega), by exact gz_m 155 (by omega), ⟨(g6 0 2 rfl), fun j => (k6 2 j rfl)⟩⟩)⟩)⟩⟩
set_option maxHeartbeats 8000000 in
set_option maxRecDepth 100000 in
theorem r_thing_p {ws0 : List Cond} {tb : String → gz_T} (hws : ∀ w ∈ gr_ws, w ∈ ws0) (htb : tb RX13 = gr_T) (ext : gz_Sh) (β : Int → Int) (N9 : Int) (p9 : Int) (I : gr_I) (J : gr_J) (hI : gr_Inv I)   (x0 : I 0 71 = 5 ∨ I 0 73 ≤ I 0 69) (x1 : I 0 72 ≤ I 0 69) (x2 : I 0 71 = 0 ∨ (I 0 72 < I 0 73 ∧ I 0 72 < I 0 69)) (x3 : I 0 71 = 3 → 2 ≤ I 0 73 - I 0 72 ∧ I 0 73 - I 0 72 ≤ 14) (x4 : I 0 72 ≤ I 0 73) (x5 : gr_ATp β N9 p9 I J) (x6 : 0 ≤ p9) : ∃ r h', gz_Ev ws0 tb 12 (yX13_thing, cX13_thing, 3, (some .boolean)) [.inr (.inr (some 0))] (gr_sh ++ ext) (gr_h I J) r (gr_sh ++ ext) h' 0 0 ∧ (∃ (I' : gr_I) (J' : gr_J), h' = gr_h I' J' ∧ gr_Inv I' ∧ gr_fr [4, 71, 72, 73, 74, 75, 76, 77] [4] I I' ∧ gr_fj [4, 71, 72, 73, 74, 75, 76, 77] [4] J J' ∧ (∃ z : Int, r = some (.inl z) ∧ 0 ≤ z ∧ z ≤ 1 ∧ (I' 0 71 = 5 ∨ I' 0 73 ≤ I' 0 69) ∧ (I' 0 72 ≤ I' 0 69) ∧ (I' 0 71 = 0 ∨ (I' 0 72 < I' 0 73 ∧ I' 0 72 < I' 0 69)) ∧ (I' 0 71 = 3 → 2 ≤ I' 0 73 - I' 0 72 ∧ I' 0 73 - I' 0 72 ≤ 14) ∧ (I' 0 72 ≤ I' 0 73) ∧ (I' 0 69 = I 0 69) ∧ (I 0 73 ≤ I' 0 73) ∧ (I 0 72 ≤ I' 0 72) ∧ (gs_Or z (0 ≤ (gs_new β N9 I J 4 4 8 (I 0 78) p9) ∧ gr_ATp β N9 (gs_new β N9 I J 4 4 8 (I 0 78) p9) I' J' ∧ gs_put 4 4 (gs_rn β N9 p9) I J I' J') ((gs_new β N9 I J 4 4 8 (I 0 78) p9) < 0 ∧ I' 0 77 = -1 - (gs_new β N9 I J 4 4 8 (I 0 78) p9) ∧ gs_same 4 4 I J I' J')))) := by
  have FI : gr_fr [4, 71, 72, 73, 74, 75, 76, 77] [4] I I := fun _ _ _ => rfl
  have FJ : gr_fj [4, 71, 72, 73, 74, 75, 76, 77] [4] J J := fun _ _ _ => rfl
  have hD : gv_D (gr_E ws0 tb 11 (yX13_thing, cX13_thing, 3, (some .boolean)) kX13_thing) := gq_of oX13_thing
  refine gr_ev (d := 11) (l := kX13_thing) (Po := fun r h' => (∃ (I' : gr_I) (J' : gr_J), h' = gr_h I' J' ∧ gr_Inv I' ∧ gr_fr [4, 71, 72, 73, 74, 75, 76, 77] [4] I I' ∧ gr_fj [4, 71, 72, 73, 74, 75, 76, 77] [4] J J' ∧ (∃ z : Int, r = some (.inl z) ∧ 0 ≤ z ∧ z ≤ 1 ∧ (I' 0 71 = 5 ∨ I' 0 73 ≤ I' 0 69) ∧ (I' 0 72 ≤ I' 0 69) ∧ (I' 0 71 = 0 ∨ (I' 0 72 < I' 0 73 ∧ I' 0 72 < I' 0 69)) ∧ (I' 0 71 = 3 → 2 ≤ I' 0 73 - I' 0 72 ∧ I' 0 73 - I' 0 72 ≤ 14) ∧ (I' 0 72 ≤ I' 0 73) ∧ (I' 0 69 = I 0 69) ∧ (I 0 73 ≤ I' 0 73) ∧ (I 0 72 ≤ I' 0 72) ∧ (gs_Or z (0 ≤ (gs_new β N9 I J 4 4 8 (I 0 78) p9) ∧ gr_ATp β N9 (gs_new β N9 I J 4 4 8 (I 0 78) p9) I' J' ∧ gs_put 4 4 (gs_rn β N9 p9) I J I' J') ((gs_new β N9 I J 4 4 8 (I 0 78) p9) < 0 ∧ I' 0 77 = -1 - (gs_new β N9 I J 4 4 8 (I 0 78) p9) ∧ gs_same 4 4 I J I' J'))))) htb rfl (Nat.le_of_ble_eq_true rfl) ?_
  have tAT := gr_ATp_l x5
  have f1 := (gr_b_0_71 hI)
  have f2 := (gr_b_0_72 hI)
  have f3 := (gr_b_0_73 hI)
  have f4 := (gr_b_0_69 hI)
  have f5 := (gr_b_0_4 hI)
  refine gv_run 1 true hD (pc' := 1) (lv' := [(0, .inr (.inr (some 0)))]) (st' := [.inr (.inr (some 0))]) (h' := gr_h I J) (C := (True ∧ True)) rfl ⟨trivial, trivial⟩ ?_
  obtain ⟨r6, h6, E6, P6⟩ := r_name_p (ws0 := ws0) (tb := tb) hws htb ext β N9 p9 I J hI   x5 (by exact gz_m 0 (by omega))
  obtain ⟨I7, J8, rfl, hI7, g6, k6, ⟨z6, rfl, q6⟩⟩ := P6
  have FI7 := gr_frt FI g6 rfl rfl
  have FJ8 := gr_fjt FJ k6 rfl rfl
  have t9 := g6 0 71 rfl
  have t10 := g6 0 72 rfl
  have t11 := g6 0 73 rfl
  have t12 := g6 0 69 rfl
  have t13 := g6 0 4 rfl
  have f14 := (gr_b_0_71 hI7)
  have f15 := (gr_b_0_72 hI7)
  have f16 := (gr_b_0_73 hI7)
  have f17 := (gr_b_0_69 hI7)
  have f18 := (gr_b_0_4 hI7)
  have A19 := gr_ATp_F x5 g6 k6 rfl
  have t20 := gr_ATp_l A19
  refine gv_callV hD rfl (As := []) (st := []) rfl (by decide) rfl rfl (gr_lV hws rfl) (Nat.le_of_ble_eq_true rfl) (gz_Ev_mono (d := 3) (by decide) E6) ?_
  show gv_X _ _ (4, [(0, .inr (.inr (some 0)))], [.inl z6], gr_sh ++ ext, gr_h I7 J8)
  refine gv_if_ne (t := 9) hD rfl rfl ⟨by exact gz_m 1 (by omega), by exact gz_m 2 (by omega)⟩ (fun c21 => ?_) (fun c21 => ?_)
  · refine gv_run 7 true hD (pc' := 20) (lv' := [(1, .inr (.inl (J8 0 75))), (0, .inr (.inr (some 0)))]) (st' := [.inr (.inr (some 0)), .inl 0, .inr (.inr (some 4))]) (h' := gr_h I7 J8) (C := (((((((True ∧ True) ∧ True) ∧ True) ∧ True) ∧ True) ∧ True) ∧ True)) rfl ⟨⟨⟨⟨⟨⟨⟨trivial, trivial⟩, trivial⟩, trivial⟩, trivial⟩, trivial⟩, trivial⟩, trivial⟩ ?_
    have f22 := (gr_b_0_4 hI7)
    refine gv_run 2 true hD (pc' := 24) (lv' := [(1, .inr (.inl (J8 0 75))), (0, .inr (.inr (some 0)))]) (st' := [.inr (.inl (J8 0 75)), .inl (I7 0 4), .inl 0, .inr (.inr (some 4))]) (h' := gr_h I7 J8) (C := ((True ∧ True) ∧ True)) rfl ⟨⟨trivial, trivial⟩, trivial⟩ ?_
    obtain ⟨r23, h23, E23, P23⟩ := r_find_4_p (ws0 := ws0) (tb := tb) hws htb ext I7 J8 hI7 0 (I7 0 4) (J8 0 75) ⟨by exact gz_m 3 (by omega), by exact gz_m 4 (by omega)⟩ ⟨by exact gz_m 5 (by omega), by exact gz_m 6 (by omega)⟩ (by exact gz_m 7 (by omega))
    obtain ⟨rfl, ⟨z23, rfl, q23⟩⟩ := P23
    have t24 := q23.2.2.2.trans (gs_lk_eq (I := I) (J := J) (w := gs_rn β N9 p9) (fun k => (k6 4 k rfl)) (g6 0 4 rfl) (gr_ATp_w A19))
    refine gv_callS hD rfl (As := [.inr (.inr (some 4)), .inl 0, .inl (I7 0 4), .inr (.inl (J8 0 75))]) (st := []) rfl (gr_lS hws rfl) (Nat.le_of_ble_eq_true rfl) (gz_Ev_mono (d := 1) (by decide) E23) ?_
    show gv_X _ _ (27, [(1, .inr (.inl (J8 0 75))), (0, .inr (.inr (some 0)))], [.inl z23], gr_sh ++ ext, gr_h I7 J8)
    refine gv_if_lt (t := 36) hD rfl rfl ⟨by exact gz_m 8 (by omega), by exact gz_m 9 (by omega)⟩ (fun c25 => ?_) (fun c25 => ?_)
    · refine gv_run 1 true hD (pc' := 37) (lv' := [(1, .inr (.inl (J8 0 75))), (0, .inr (.inr (some 0)))]) (st' := [.inr (.inr (some 0))]) (h' := gr_h I7 J8) (C := (True ∧ True)) rfl ⟨trivial, trivial⟩ ?_
      obtain ⟨r26, h26, E26, P26⟩ := r_next_p (ws0 := ws0) (tb := tb) hws htb ext β N9 I7 J8 hI7   (by exact gz_m 10 (by omega)) A19.1.1 A19.1.2
      obtain ⟨I27, J28, rfl, hI27, g26, k26, ⟨rfl, q26⟩⟩ := P26
      have FI27 := gr_frt FI7 g26 rfl rfl
      have FJ28 := gr_fjt FJ8 k26 rfl rfl
      have t29 := g26 0 69 rfl
      have t30 := g26 0 4 rfl
      have f31 := (gr_b_0_71 hI27)
      have f32 := (gr_b_0_72 hI27)
      have f33 := (gr_b_0_73 hI27)
      have f34 := (gr_b_0_69 hI27)
      have f35 := (gr_b_0_4 hI27)
      have A36 := gr_ATp_nx A19 q26.2.2.2.2.2
      have t37 := gr_ATp_l A36
      refine gv_callV hD rfl (As := []) (st := []) rfl (by decide) rfl rfl (gr_lV hws rfl) (Nat.le_of_ble_eq_true rfl) (gz_Ev_mono (d := 10) (by decide) E26) ?_
      show gv_X _ _ (40, [(1, .inr (.inl (J8 0 75))), (0, .inr (.inr (some 0)))], [], gr_sh ++ ext, gr_h I27 J28)
      have f38 := (gr_b_0_4 hI27)
      refine gv_run 4 true hD (pc' := 47) (lv' := [(1, .inr (.inl (J8 0 75))), (0, .inr (.inr (some 0)))]) (st' := [.inl 8, .inl (I27 0 4), .inr (.inr (some 0))]) (h' := gr_h I27 J28) (C := ((((True ∧ True) ∧ True) ∧ True) ∧ True)) rfl ⟨⟨⟨⟨trivial, trivial⟩, trivial⟩, trivial⟩, trivial⟩ ?_
      refine gv_icmp_ge (t := 54) hD rfl rfl ⟨⟨by exact gz_m 11 (by omega), by exact gz_m 12 (by omega)⟩, ⟨by exact gz_m 13 (by omega), by exact gz_m 14 (by omega)⟩⟩ (fun c39 => ?_) (fun c39 => ?_)
      · refine gv_run 1 true hD (pc' := 55) (lv' := [(1, .inr (.inl (J8 0 75))), (0, .inr (.inr (some 0)))]) (st' := [.inl 0, .inr (.inr (some 0))]) (h' := gr_h I27 J28) (C := (True ∧ True)) rfl ⟨trivial, trivial⟩ ?_
        obtain ⟨r40, h40, E40, P40⟩ := r_done_p (ws0 := ws0) (tb := tb) hws htb ext β N9 (gs_X β N9 p9) I27 J28 hI27 0 ⟨by exact gz_m 15 (by omega), by exact gz_m 16 (by omega)⟩ (by exact gz_m 17 (by omega)) (by exact gz_m 18 (by omega)) (by exact gz_m 19 (by omega)) (by exact gz_m 20 (by omega)) (by exact gz_m 21 (by omega)) A36 (by exact gz_m 22 (by omega))
        obtain ⟨I41, J42, rfl, hI41, g40, k40, ⟨z40, rfl, q40⟩⟩ := P40
        have FI41 := gr_frt FI27 g40 rfl rfl
        have FJ42 := gr_fjt FJ28 k40 rfl rfl
        have t43 := g40 0 69 rfl
        have t44 := g40 0 4 rfl
        have f45 := (gr_b_0_71 hI41)
        have f46 := (gr_b_0_72 hI41)
        have f47 := (gr_b_0_73 hI41)
        have f48 := (gr_b_0_69 hI41)
        have f49 := (gr_b_0_4 hI41)
        refine gv_callV hD rfl (As := [.inl 0]) (st := []) rfl (by decide) rfl rfl (gr_lV hws rfl) (Nat.le_of_ble_eq_true rfl) (gz_Ev_mono (d := 11) (by decide) E40) ?_
        show gv_X _ _ (58, [(1, .inr (.inl (J8 0 75))), (0, .inr (.inr (some 0)))], [.inl z40], gr_sh ++ ext, gr_h I41 J42)
        refine gv_if_ne (t := 63) hD rfl rfl ⟨by exact gz_m 23 (by omega), by exact gz_m 24 (by omega)⟩ (fun c50 => ?_) (fun c50 => ?_)
        · have Q51 := q40.2.2.2.2.2.2.2.2.2.2.2.2
          rw [FI27 0 78 rfl] at Q51
          obtain ⟨u51, A51⟩ := gs_or1 Q51 (by exact gz_m 25 (by omega))
          have t52 := gr_ATp_l A51
          have f53 := (gr_b_0_4 hI41)
          refine gv_run 7 true hD (pc' := 74) (lv' := [(1, .inr (.inl (J8 0 75))), (0, .inr (.inr (some 0)))]) (st' := [.inl 1, .inl (I41 0 4), .inr (.inr (some 0)), .inl (I41 0 4), .inr (.inr (some 4))]) (h' := gr_h I41 J42) (C := (((((((True ∧ True) ∧ True) ∧ True) ∧ True) ∧ True) ∧ True) ∧ True)) rfl ⟨⟨⟨⟨⟨⟨⟨trivial, trivial⟩, trivial⟩, trivial⟩, trivial⟩, trivial⟩, trivial⟩, trivial⟩ ?_
          refine gv_run 2 true hD (pc' := 78) (lv' := [(1, .inr (.inl (J8 0 75))), (0, .inr (.inr (some 0)))]) (st' := [.inl (I41 0 4), .inr (.inr (some 4))]) (h' := gz_up (gr_h I41 J42) 0 4 (.inl (((I41 0 4) + 1)))) (C := ((True ∧ True) ∧ True)) rfl ⟨⟨trivial, trivial⟩, trivial⟩ ?_
          refine gr_st hI41 FI41 rfl rfl ⟨⟨by show 0 ≤ _; exact gz_m 26 (by omega), by show _ ≤ 8; exact gz_m 27 (by omega)⟩, trivial⟩ (fun I54 hI54 FI54 q55 p55 => ?_)
          have t56 := p55 0 71 (by decide)
          have t57 := p55 0 72 (by decide)
          have t58 := p55 0 73 (by decide)
          have t59 := p55 0 69 (by decide)
          have f60 := (gr_b_0_71 hI54)
          have f61 := (gr_b_0_72 hI54)
          have f62 := (gr_b_0_73 hI54)
          have f63 := (gr_b_0_69 hI54)
          have f64 := (gr_b_0_4 hI54)
          have A65 := gr_ATp_sf A51 p55 rfl
          refine gv_run 2 true hD (pc' := 80) (lv' := [(1, .inr (.inl (J8 0 75))), (0, .inr (.inr (some 0)))]) (st' := []) (h' := gz_up (gr_h I54 J42) 4 (Int.toNat ((I41 0 4))) (.inr (.inl (J8 0 75)))) (C := ((True ∧ True) ∧ (0 ≤ (I41 0 4) ∧ (I41 0 4) < ((8 : Nat) : Int)))) rfl ⟨⟨trivial, trivial⟩, ⟨by exact gz_m 28 (by omega), by exact gz_m 29 (by omega)⟩⟩ ?_
          refine gr_stJq FJ42 rfl rfl (fun J66 FJ66 q67 p67 => ?_)
          have A68 := gr_ATp_sj' A65 p67 rfl
          refine gv_run 1 true hD (pc' := 81) (lv' := [(1, .inr (.inl (J8 0 75))), (0, .inr (.inr (some 0)))]) (st' := [.inl 1]) (h' := gr_h I54 J66) (C := (True ∧ True)) rfl ⟨trivial, trivial⟩ ?_
          exact gv_zret hD rfl (by exact gz_m 30 (by omega)) ⟨I54, J66, rfl, hI54, FI54, FJ66, ⟨_, rfl, by exact gz_m 31 (by omega), by exact gz_m 32 (by omega), by exact gz_m 33 (by omega), by exact gz_m 34 (by omega), by exact gz_m 35 (by omega), by exact gz_m 36 (by omega), by exact gz_m 37 (by omega), by exact gz_m 38 (by omega), by exact gz_m 39 (by omega), by exact gz_m 40 (by omega), (Or.inl ⟨by exact gz_m 41 (by omega), by have e9 : (gs_new β N9 I J 4 4 8 (I 0 78) p9) = (gs_done β N9 0 (I 0 78) (gs_X β N9 p9)) := (by first | (exfalso; exact gz_m 42 (by omega)) | (unfold gs_new; (repeat first | rw [if_pos (by exact gz_m 43 (by omega))] | rw [if_neg (by exact gz_m 44 (by omega))]))); rw [e9]; exact ⟨by exact gz_m 45 (by omega), A68, ⟨by exact gz_m 46 (by omega), by rw [show Int.toNat (I 0 4) = (Int.toNat ((I41 0 4))) from by exact gz_m 47 (by omega)]; exact q67.trans (gr_ATp_w A19), fun j hj => (p67 4 j (fun h => hj (by have h9 := h.2; exact gz_m 48 (by omega)))).trans (((k40 4 j rfl).trans (k26 4 j rfl)).trans (k6 4 j rfl))⟩⟩⟩)⟩⟩
        · have Q69 := q40.2.2.2.2.2.2.2.2.2.2.2.2
          rw [FI27 0 78 rfl] at Q69
          obtain ⟨u69, u69_⟩ := gs_or0 Q69 (by exact gz_m 49 (by omega))
          refine gv_run 1 true hD (pc' := 62) (lv' := [(1, .inr (.inl (J8 0 75))), (0, .inr (.inr (some 0)))]) (st' := [.inl 0]) (h' := gr_h I41 J42) (C := (True ∧ True)) rfl ⟨trivial, trivial⟩ ?_
          exact gv_zret hD rfl (by exact gz_m 50 (by omega)) ⟨I41, J42, rfl, hI41, FI41, FJ42, ⟨_, rfl, by exact gz_m 51 (by omega), by exact gz_m 52 (by omega), by exact gz_m 53 (by omega), by exact gz_m 54 (by omega), by exact gz_m 55 (by omega), by exact gz_m 56 (by omega), by exact gz_m 57 (by omega), by exact gz_m 58 (by omega), by exact gz_m 59 (by omega), by exact gz_m 60 (by omega), (Or.inr ⟨by exact gz_m 61 (by omega), by first | (exfalso; exact gz_m 62 (by omega)) | (unfold gs_new; (repeat first | rw [if_pos (by exact gz_m 63 (by omega))] | rw [if_neg (by exact gz_m 64 (by omega))]); exact ⟨by exact gz_m 65 (by omega), by exact gz_m 66 (by omega), ⟨(((g40 0 4 rfl).trans (g26 0 4 rfl)).trans (g6 0 4 rfl)), fun j => (((k40 4 j rfl).trans (k26 4 j rfl)).trans (k6 4 j rfl))⟩⟩)⟩)⟩⟩
      · refine gv_run 2 true hD (pc' := 55) (lv' := [(1, .inr (.inl (J8 0 75))), (0, .inr (.inr (some 0)))]) (st' := [.inl 1, .inr (.inr (some 0))]) (h' := gr_h I27 J28) (C := ((True ∧ True) ∧ True)) rfl ⟨⟨trivial, trivial⟩, trivial⟩ ?_
        obtain ⟨r70, h70, E70, P70⟩ := r_done_p (ws0 := ws0) (tb := tb) hws htb ext β N9 (gs_X β N9 p9) I27 J28 hI27 1 ⟨by exact gz_m 67 (by omega), by exact gz_m 68 (by omega)⟩ (by exact gz_m 69 (by omega)) (by exact gz_m 70 (by omega)) (by exact gz_m 71 (by omega)) (by exact gz_m 72 (by omega)) (by exact gz_m 73 (by omega)) A36 (by exact gz_m 74 (by omega))
        obtain ⟨I71, J72, rfl, hI71, g70, k70, ⟨z70, rfl, q70⟩⟩ := P70
        have FI71 := gr_frt FI27 g70 rfl rfl
        have FJ72 := gr_fjt FJ28 k70 rfl rfl
        have t73 := g70 0 69 rfl
        have t74 := g70 0 4 rfl
        have f75 := (gr_b_0_71 hI71)
        have f76 := (gr_b_0_72 hI71)
        have f77 := (gr_b_0_73 hI71)
        have f78 := (gr_b_0_69 hI71)
        have f79 := (gr_b_0_4 hI71)
        refine gv_callV hD rfl (As := [.inl 1]) (st := []) rfl (by decide) rfl rfl (gr_lV hws rfl) (Nat.le_of_ble_eq_true rfl) (gz_Ev_mono (d := 11) (by decide) E70) ?_
        show gv_X _ _ (58, [(1, .inr (.inl (J8 0 75))), (0, .inr (.inr (some 0)))], [.inl z70], gr_sh ++ ext, gr_h I71 J72)
        refine gv_if_ne (t := 63) hD rfl rfl ⟨by exact gz_m 75 (by omega), by exact gz_m 76 (by omega)⟩ (fun c80 => ?_) (fun c80 => ?_)
        · have Q81 := q70.2.2.2.2.2.2.2.2.2.2.2.2
          rw [FI27 0 78 rfl] at Q81
          obtain ⟨u81, A81⟩ := gs_or1 Q81 (by exact gz_m 77 (by omega))
          have t82 := gr_ATp_l A81
          have f83 := (gr_b_0_4 hI71)
          refine gv_run 7 true hD (pc' := 74) (lv' := [(1, .inr (.inl (J8 0 75))), (0, .inr (.inr (some 0)))]) (st' := [.inl 1, .inl (I71 0 4), .inr (.inr (some 0)), .inl (I71 0 4), .inr (.inr (some 4))]) (h' := gr_h I71 J72) (C := (((((((True ∧ True) ∧ True) ∧ True) ∧ True) ∧ True) ∧ True) ∧ True)) rfl ⟨⟨⟨⟨⟨⟨⟨trivial, trivial⟩, trivial⟩, trivial⟩, trivial⟩, trivial⟩, trivial⟩, trivial⟩ ?_
          refine gv_run 2 true hD (pc' := 78) (lv' := [(1, .inr (.inl (J8 0 75))), (0, .inr (.inr (some 0)))]) (st' := [.inl (I71 0 4), .inr (.inr (some 4))]) (h' := gz_up (gr_h I71 J72) 0 4 (.inl (((I71 0 4) + 1)))) (C := ((True ∧ True) ∧ True)) rfl ⟨⟨trivial, trivial⟩, trivial⟩ ?_
          refine gr_st hI71 FI71 rfl rfl ⟨⟨by show 0 ≤ _; exact gz_m 78 (by omega), by show _ ≤ 8; exact gz_m 79 (by omega)⟩, trivial⟩ (fun I84 hI84 FI84 q85 p85 => ?_)
          have t86 := p85 0 71 (by decide)
          have t87 := p85 0 72 (by decide)
          have t88 := p85 0 73 (by decide)
          have t89 := p85 0 69 (by decide)
          have f90 := (gr_b_0_71 hI84)
          have f91 := (gr_b_0_72 hI84)
          have f92 := (gr_b_0_73 hI84)
          have f93 := (gr_b_0_69 hI84)
          have f94 := (gr_b_0_4 hI84)
          have A95 := gr_ATp_sf A81 p85 rfl
          refine gv_run 2 true hD (pc' := 80) (lv' := [(1, .inr (.inl (J8 0 75))), (0, .inr (.inr (some 0)))]) (st' := []) (h' := gz_up (gr_h I84 J72) 4 (Int.toNat ((I71 0 4))) (.inr (.inl (J8 0 75)))) (C := ((True ∧ True) ∧ (0 ≤ (I71 0 4) ∧ (I71 0 4) < ((8 : Nat) : Int)))) rfl ⟨⟨trivial, trivial⟩, ⟨by exact gz_m 80 (by omega), by exact gz_m 81 (by omega)⟩⟩ ?_
          refine gr_stJq FJ72 rfl rfl (fun J96 FJ96 q97 p97 => ?_)
          have A98 := gr_ATp_sj' A95 p97 rfl
          refine gv_run 1 true hD (pc' := 81) (lv' := [(1, .inr (.inl (J8 0 75))), (0, .inr (.inr (some 0)))]) (st' := [.inl 1]) (h' := gr_h I84 J96) (C := (True ∧ True)) rfl ⟨trivial, trivial⟩ ?_
          exact gv_zret hD rfl (by exact gz_m 82 (by omega)) ⟨I84, J96, rfl, hI84, FI84, FJ96, ⟨_, rfl, by exact gz_m 83 (by omega), by exact gz_m 84 (by omega), by exact gz_m 85 (by omega), by exact gz_m 86 (by omega), by exact gz_m 87 (by omega), by exact gz_m 88 (by omega), by exact gz_m 89 (by omega), by exact gz_m 90 (by omega), by exact gz_m 91 (by omega), by exact gz_m 92 (by omega), (Or.inl ⟨by exact gz_m 93 (by omega), by have e9 : (gs_new β N9 I J 4 4 8 (I 0 78) p9) = (gs_done β N9 1 (I 0 78) (gs_X β N9 p9)) := (by first | (exfalso; exact gz_m 94 (by omega)) | (unfold gs_new; (repeat first | rw [if_pos (by exact gz_m 95 (by omega))] | rw [if_neg (by exact gz_m 96 (by omega))]))); rw [e9]; exact ⟨by exact gz_m 97 (by omega), A98, ⟨by exact gz_m 98 (by omega), by rw [show Int.toNat (I 0 4) = (Int.toNat ((I71 0 4))) from by exact gz_m 99 (by omega)]; exact q97.trans (gr_ATp_w A19), fun j hj => (p97 4 j (fun h => hj (by have h9 := h.2; exact gz_m 100 (by omega)))).trans (((k70 4 j rfl).trans (k26 4 j rfl)).trans (k6 4 j rfl))⟩⟩⟩)⟩⟩
        · have Q99 := q70.2.2.2.2.2.2.2.2.2.2.2.2
          rw [FI27 0 78 rfl] at Q99
          obtain ⟨u99, u99_⟩ := gs_or0 Q99 (by exact gz_m 101 (by omega))
          refine gv_run 1 true hD (pc' := 62) (lv' := [(1, .inr (.inl (J8 0 75))), (0, .inr (.inr (some 0)))]) (st' := [.inl 0]) (h' := gr_h I71 J72) (C := (True ∧ True)) rfl ⟨trivial, trivial⟩ ?_
          exact gv_zret hD rfl (by exact gz_m 102 (by omega)) ⟨I71, J72, rfl, hI71, FI71, FJ72, ⟨_, rfl, by exact gz_m 103 (by omega), by exact gz_m 104 (by omega), by exact gz_m 105 (by omega), by exact gz_m 106 (by omega), by exact gz_m 107 (by omega), by exact gz_m 108 (by omega), by exact gz_m 109 (by omega), by exact gz_m 110 (by omega), by exact gz_m 111 (by omega), by exact gz_m 112 (by omega), (Or.inr ⟨by exact gz_m 113 (by omega), by first | (exfalso; exact gz_m 114 (by omega)) | (unfold gs_new; (repeat first | rw [if_pos (by exact gz_m 115 (by omega))] | rw [if_neg (by exact gz_m 116 (by omega))]); exact ⟨by exact gz_m 117 (by omega), by exact gz_m 118 (by omega), ⟨(((g70 0 4 rfl).trans (g26 0 4 rfl)).trans (g6 0 4 rfl)), fun j => (((k70 4 j rfl).trans (k26 4 j rfl)).trans (k6 4 j rfl))⟩⟩)⟩)⟩⟩
    · refine gv_run 2 true hD (pc' := 32) (lv' := [(1, .inr (.inl (J8 0 75))), (0, .inr (.inr (some 0)))]) (st' := [.inl 4, .inr (.inr (some 0))]) (h' := gr_h I7 J8) (C := ((True ∧ True) ∧ True)) rfl ⟨⟨trivial, trivial⟩, trivial⟩ ?_
      obtain ⟨r100, h100, E100, P100⟩ := r_no__p (ws0 := ws0) (tb := tb) hws htb ext β N9 p9 I7 J8 hI7 4 ⟨by exact gz_m 119 (by omega), by exact gz_m 120 (by omega)⟩ A19 (by exact gz_m 121 (by omega))
      obtain ⟨I101, J102, rfl, hI101, g100, k100, ⟨z100, rfl, q100⟩⟩ := P100
      have FI101 := gr_frt FI7 g100 rfl rfl
      have FJ102 := gr_fjt FJ8 k100 rfl rfl
      have t103 := g100 0 71 rfl
      have t104 := g100 0 72 rfl
      have t105 := g100 0 73 rfl
      have t106 := g100 0 69 rfl
      have t107 := g100 0 4 rfl
      have f108 := (gr_b_0_71 hI101)
      have f109 := (gr_b_0_72 hI101)
      have f110 := (gr_b_0_73 hI101)
      have f111 := (gr_b_0_69 hI101)
      have f112 := (gr_b_0_4 hI101)
      have A113 := gr_ATp_F A19 g100 k100 rfl
      have t114 := gr_ATp_l A113
      refine gv_callV hD rfl (As := [.inl 4]) (st := []) rfl (by decide) rfl rfl (gr_lV hws rfl) (Nat.le_of_ble_eq_true rfl) (gz_Ev_mono (d := 2) (by decide) E100) ?_
      show gv_X _ _ (35, [(1, .inr (.inl (J8 0 75))), (0, .inr (.inr (some 0)))], [.inl z100], gr_sh ++ ext, gr_h I101 J102)
      exact gv_zret hD rfl (by exact gz_m 122 (by omega)) ⟨I101, J102, rfl, hI101, FI101, FJ102, ⟨_, rfl, by exact gz_m 123 (by omega), by exact gz_m 124 (by omega), by exact gz_m 125 (by omega), by exact gz_m 126 (by omega), by exact gz_m 127 (by omega), by exact gz_m 128 (by omega), by exact gz_m 129 (by omega), by exact gz_m 130 (by omega), by exact gz_m 131 (by omega), by exact gz_m 132 (by omega), (Or.inr ⟨by exact gz_m 133 (by omega), by first | (exfalso; exact gz_m 134 (by omega)) | (unfold gs_new; (repeat first | rw [if_pos (by exact gz_m 135 (by omega))] | rw [if_neg (by exact gz_m 136 (by omega))]); exact ⟨by exact gz_m 137 (by omega), by exact gz_m 138 (by omega), ⟨((g100 0 4 rfl).trans (g6 0 4 rfl)), fun j => ((k100 4 j rfl).trans (k6 4 j rfl))⟩⟩)⟩)⟩⟩
  · refine gv_run 1 true hD (pc' := 8) (lv' := [(0, .inr (.inr (some 0)))]) (st' := [.inl 0]) (h' := gr_h I7 J8) (C := (True ∧ True)) rfl ⟨trivial, trivial⟩ ?_
    exact gv_zret hD rfl (by exact gz_m 139 (by omega)) ⟨I7, J8, rfl, hI7, FI7, FJ8, ⟨_, rfl, by exact gz_m 140 (by omega), by exact gz_m 141 (by omega), by exact gz_m 142 (by omega), by exact gz_m 143 (by omega), by exact gz_m 144 (by omega), by exact gz_m 145 (by omega), by exact gz_m 146 (by omega), by exact gz_m 147 (by omega), by exact gz_m 148 (by omega), by exact gz_m 149 (by omega), (Or.inr ⟨by exact gz_m 150 (by omega), by first | (exfalso; exact gz_m 151 (by omega)) | (unfold gs_new; (repeat first | rw [if_pos (by exact gz_m 152 (by omega))] | rw [if_neg (by exact gz_m 153 (by omega))]); exact ⟨by exact gz_m 154 (by omega), by exact gz_m 155 (by omega), ⟨(g6 0 4 rfl), fun j => (k6 4 j rfl)⟩⟩)⟩)⟩⟩
