set_option maxHeartbeats 4000000 in
set_option maxRecDepth 100000 in
theorem r_kind_p {ws0 : List Cond} {tb : String → gz_T} (hws : ∀ w ∈ gr_ws, w ∈ ws0) (htb : tb RX13 = gr_T) (ext : gz_Sh) (β : Int → Int) (N9 : Int) (p9 : Int) (I : gr_I) (J : gr_J) (hI : gr_Inv I)   (x0 : I 0 71 = 5 ∨ I 0 73 ≤ I 0 69) (x1 : I 0 72 ≤ I 0 69) (x2 : I 0 71 = 0 ∨ (I 0 72 < I 0 73 ∧ I 0 72 < I 0 69)) (x3 : I 0 71 = 3 → 2 ≤ I 0 73 - I 0 72 ∧ I 0 73 - I 0 72 ≤ 14) (x4 : I 0 72 ≤ I 0 73) (x5 : gr_ATp β N9 p9 I J) (x6 : 0 ≤ p9) : ∃ r h', gz_Ev ws0 tb 12 (yX13_kind, cX13_kind, 3, (some .boolean)) [.inr (.inr (some 0))] (gr_sh ++ ext) (gr_h I J) r (gr_sh ++ ext) h' 0 0 ∧ (∃ (I' : gr_I) (J' : gr_J), h' = gr_h I' J' ∧ gr_Inv I' ∧ gr_fr [2, 71, 72, 73, 74, 75, 76, 77] [2] I I' ∧ gr_fj [2, 71, 72, 73, 74, 75, 76, 77] [2] J J' ∧ (∃ z : Int, r = some (.inl z) ∧ 0 ≤ z ∧ z ≤ 1 ∧ (I' 0 71 = 5 ∨ I' 0 73 ≤ I' 0 69) ∧ (I' 0 72 ≤ I' 0 69) ∧ (I' 0 71 = 0 ∨ (I' 0 72 < I' 0 73 ∧ I' 0 72 < I' 0 69)) ∧ (I' 0 71 = 3 → 2 ≤ I' 0 73 - I' 0 72 ∧ I' 0 73 - I' 0 72 ≤ 14) ∧ (I' 0 72 ≤ I' 0 73) ∧ (I' 0 69 = I 0 69) ∧ (I 0 73 ≤ I' 0 73) ∧ (I 0 72 ≤ I' 0 72) ∧ (gs_Or z (0 ≤ (gs_new β N9 I J 2 2 32 (I 0 78) p9) ∧ gr_ATp β N9 (gs_new β N9 I J 2 2 32 (I 0 78) p9) I' J' ∧ gs_put 2 2 (gs_rn β N9 p9) I J I' J') ((gs_new β N9 I J 2 2 32 (I 0 78) p9) < 0 ∧ I' 0 77 = -1 - (gs_new β N9 I J 2 2 32 (I 0 78) p9) ∧ gs_same 2 2 I J I' J')))) := by
  have FI : gr_fr [2, 71, 72, 73, 74, 75, 76, 77] [2] I I := fun _ _ _ => rfl
  have FJ : gr_fj [2, 71, 72, 73, 74, 75, 76, 77] [2] J J := fun _ _ _ => rfl
  have hD : gv_D (gr_E ws0 tb 11 (yX13_kind, cX13_kind, 3, (some .boolean)) kX13_kind) := gq_ok oX13_kind
  refine gr_ev (d := 11) (l := kX13_kind) (Po := fun r h' => (∃ (I' : gr_I) (J' : gr_J), h' = gr_h I' J' ∧ gr_Inv I' ∧ gr_fr [2, 71, 72, 73, 74, 75, 76, 77] [2] I I' ∧ gr_fj [2, 71, 72, 73, 74, 75, 76, 77] [2] J J' ∧ (∃ z : Int, r = some (.inl z) ∧ 0 ≤ z ∧ z ≤ 1 ∧ (I' 0 71 = 5 ∨ I' 0 73 ≤ I' 0 69) ∧ (I' 0 72 ≤ I' 0 69) ∧ (I' 0 71 = 0 ∨ (I' 0 72 < I' 0 73 ∧ I' 0 72 < I' 0 69)) ∧ (I' 0 71 = 3 → 2 ≤ I' 0 73 - I' 0 72 ∧ I' 0 73 - I' 0 72 ≤ 14) ∧ (I' 0 72 ≤ I' 0 73) ∧ (I' 0 69 = I 0 69) ∧ (I 0 73 ≤ I' 0 73) ∧ (I 0 72 ≤ I' 0 72) ∧ (gs_Or z (0 ≤ (gs_new β N9 I J 2 2 32 (I 0 78) p9) ∧ gr_ATp β N9 (gs_new β N9 I J 2 2 32 (I 0 78) p9) I' J' ∧ gs_put 2 2 (gs_rn β N9 p9) I J I' J') ((gs_new β N9 I J 2 2 32 (I 0 78) p9) < 0 ∧ I' 0 77 = -1 - (gs_new β N9 I J 2 2 32 (I 0 78) p9) ∧ gs_same 2 2 I J I' J'))))) htb rfl (Nat.le_of_ble_eq_true rfl) ?_
  have tAT := gr_ATp_l x5
  have f1 := (show 0 ≤ I 0 71 ∧ I 0 71 ≤ 5 from (hI 0 71).1)
  have f2 := (show 0 ≤ I 0 72 ∧ I 0 72 ≤ 1000 from (hI 0 72).1)
  have f3 := (show 0 ≤ I 0 73 ∧ I 0 73 ≤ 1001 from (hI 0 73).1)
  have f4 := (show 0 ≤ I 0 69 ∧ I 0 69 ≤ 1000 from (hI 0 69).1)
  have f5 := (show 0 ≤ I 0 2 ∧ I 0 2 ≤ 32 from (hI 0 2).1)
  refine gv_run 1 true hD (pc' := 1) (lv' := [(0, .inr (.inr (some 0)))]) (st' := [.inr (.inr (some 0))]) (h' := gr_h I J) (C := (True ∧ True)) rfl ⟨trivial, trivial⟩ ?_
  obtain ⟨r6, h6, E6, P6⟩ := r_name_p (ws0 := ws0) (tb := tb) hws htb ext β N9 p9 I J hI   x5 (by omega)
  obtain ⟨I7, J8, rfl, hI7, g6, k6, ⟨z6, rfl, q6⟩⟩ := P6
  have FI7 := gr_frt FI g6 rfl rfl
  have FJ8 := gr_fjt FJ k6 rfl rfl
  have t9 := g6 0 71 rfl
  have t10 := g6 0 72 rfl
  have t11 := g6 0 73 rfl
  have t12 := g6 0 69 rfl
  have t13 := g6 0 2 rfl
  have f14 := (show 0 ≤ I7 0 71 ∧ I7 0 71 ≤ 5 from (hI7 0 71).1)
  have f15 := (show 0 ≤ I7 0 72 ∧ I7 0 72 ≤ 1000 from (hI7 0 72).1)
  have f16 := (show 0 ≤ I7 0 73 ∧ I7 0 73 ≤ 1001 from (hI7 0 73).1)
  have f17 := (show 0 ≤ I7 0 69 ∧ I7 0 69 ≤ 1000 from (hI7 0 69).1)
  have f18 := (show 0 ≤ I7 0 2 ∧ I7 0 2 ≤ 32 from (hI7 0 2).1)
  have A19 := gr_ATp_F x5 g6 k6 rfl
  have t20 := gr_ATp_l A19
  refine gv_callV hD rfl (As := []) (st := []) rfl (by decide) rfl rfl (gr_lV hws rfl) (Nat.le_of_ble_eq_true rfl) (gz_Ev_mono (d := 3) (by decide) E6) ?_
  show gv_X _ _ (4, [(0, .inr (.inr (some 0)))], [.inl z6], gr_sh ++ ext, gr_h I7 J8)
  refine gv_if_ne (t := 9) hD rfl rfl ⟨by omega, by omega⟩ (fun c21 => ?_) (fun c21 => ?_)
  · refine gv_run 7 true hD (pc' := 20) (lv' := [(1, .inr (.inl (J8 0 75))), (0, .inr (.inr (some 0)))]) (st' := [.inr (.inr (some 0)), .inl 0, .inr (.inr (some 2))]) (h' := gr_h I7 J8) (C := (((((((True ∧ True) ∧ True) ∧ True) ∧ True) ∧ True) ∧ True) ∧ True)) rfl ⟨⟨⟨⟨⟨⟨⟨trivial, trivial⟩, trivial⟩, trivial⟩, trivial⟩, trivial⟩, trivial⟩, trivial⟩ ?_
    have f22 := (show 0 ≤ I7 0 2 ∧ I7 0 2 ≤ 32 from (hI7 0 2).1)
    refine gv_run 2 true hD (pc' := 24) (lv' := [(1, .inr (.inl (J8 0 75))), (0, .inr (.inr (some 0)))]) (st' := [.inr (.inl (J8 0 75)), .inl (I7 0 2), .inl 0, .inr (.inr (some 2))]) (h' := gr_h I7 J8) (C := ((True ∧ True) ∧ True)) rfl ⟨⟨trivial, trivial⟩, trivial⟩ ?_
    obtain ⟨r23, h23, E23, P23⟩ := r_find_2_p (ws0 := ws0) (tb := tb) hws htb ext I7 J8 hI7 0 (I7 0 2) (J8 0 75) ⟨by omega, by omega⟩ ⟨by omega, by omega⟩ (by omega)
    obtain ⟨rfl, ⟨z23, rfl, q23⟩⟩ := P23
    have t24 := q23.2.2.2.trans (gs_lk_eq (I := I) (J := J) (w := gs_rn β N9 p9) (fun k => (k6 2 k rfl)) (g6 0 2 rfl) (gr_ATp_w A19))
    refine gv_callS hD rfl (As := [.inr (.inr (some 2)), .inl 0, .inl (I7 0 2), .inr (.inl (J8 0 75))]) (st := []) rfl (gr_lS hws rfl) (Nat.le_of_ble_eq_true rfl) (gz_Ev_mono (d := 1) (by decide) E23) ?_
    show gv_X _ _ (27, [(1, .inr (.inl (J8 0 75))), (0, .inr (.inr (some 0)))], [.inl z23], gr_sh ++ ext, gr_h I7 J8)
    refine gv_if_lt (t := 36) hD rfl rfl ⟨by omega, by omega⟩ (fun c25 => ?_) (fun c25 => ?_)
    · refine gv_run 1 true hD (pc' := 37) (lv' := [(1, .inr (.inl (J8 0 75))), (0, .inr (.inr (some 0)))]) (st' := [.inr (.inr (some 0))]) (h' := gr_h I7 J8) (C := (True ∧ True)) rfl ⟨trivial, trivial⟩ ?_
      obtain ⟨r26, h26, E26, P26⟩ := r_next_p (ws0 := ws0) (tb := tb) hws htb ext β N9 I7 J8 hI7   (by omega) A19.1.1 A19.1.2
      obtain ⟨I27, J28, rfl, hI27, g26, k26, ⟨rfl, q26⟩⟩ := P26
      have FI27 := gr_frt FI7 g26 rfl rfl
      have FJ28 := gr_fjt FJ8 k26 rfl rfl
      have t29 := g26 0 69 rfl
      have t30 := g26 0 2 rfl
      have f31 := (show 0 ≤ I27 0 71 ∧ I27 0 71 ≤ 5 from (hI27 0 71).1)
      have f32 := (show 0 ≤ I27 0 72 ∧ I27 0 72 ≤ 1000 from (hI27 0 72).1)
      have f33 := (show 0 ≤ I27 0 73 ∧ I27 0 73 ≤ 1001 from (hI27 0 73).1)
      have f34 := (show 0 ≤ I27 0 69 ∧ I27 0 69 ≤ 1000 from (hI27 0 69).1)
      have f35 := (show 0 ≤ I27 0 2 ∧ I27 0 2 ≤ 32 from (hI27 0 2).1)
      have A36 := gr_ATp_nx A19 q26.2.2.2.2.2
      have t37 := gr_ATp_l A36
      refine gv_callV hD rfl (As := []) (st := []) rfl (by decide) rfl rfl (gr_lV hws rfl) (Nat.le_of_ble_eq_true rfl) (gz_Ev_mono (d := 10) (by decide) E26) ?_
      show gv_X _ _ (40, [(1, .inr (.inl (J8 0 75))), (0, .inr (.inr (some 0)))], [], gr_sh ++ ext, gr_h I27 J28)
      have f38 := (show 0 ≤ I27 0 2 ∧ I27 0 2 ≤ 32 from (hI27 0 2).1)
      refine gv_run 4 true hD (pc' := 47) (lv' := [(1, .inr (.inl (J8 0 75))), (0, .inr (.inr (some 0)))]) (st' := [.inl 32, .inl (I27 0 2), .inr (.inr (some 0))]) (h' := gr_h I27 J28) (C := ((((True ∧ True) ∧ True) ∧ True) ∧ True)) rfl ⟨⟨⟨⟨trivial, trivial⟩, trivial⟩, trivial⟩, trivial⟩ ?_
      refine gv_icmp_ge (t := 54) hD rfl rfl ⟨⟨by omega, by omega⟩, ⟨by omega, by omega⟩⟩ (fun c39 => ?_) (fun c39 => ?_)
      · refine gv_run 1 true hD (pc' := 55) (lv' := [(1, .inr (.inl (J8 0 75))), (0, .inr (.inr (some 0)))]) (st' := [.inl 0, .inr (.inr (some 0))]) (h' := gr_h I27 J28) (C := (True ∧ True)) rfl ⟨trivial, trivial⟩ ?_
        obtain ⟨r40, h40, E40, P40⟩ := r_done_p (ws0 := ws0) (tb := tb) hws htb ext β N9 (gs_X β N9 p9) I27 J28 hI27 0 ⟨by omega, by omega⟩ (by omega) (by omega) (by omega) (by omega) (by omega) A36 (by omega)
        obtain ⟨I41, J42, rfl, hI41, g40, k40, ⟨z40, rfl, q40⟩⟩ := P40
        have FI41 := gr_frt FI27 g40 rfl rfl
        have FJ42 := gr_fjt FJ28 k40 rfl rfl
        have t43 := g40 0 69 rfl
        have t44 := g40 0 2 rfl
        have f45 := (show 0 ≤ I41 0 71 ∧ I41 0 71 ≤ 5 from (hI41 0 71).1)
        have f46 := (show 0 ≤ I41 0 72 ∧ I41 0 72 ≤ 1000 from (hI41 0 72).1)
        have f47 := (show 0 ≤ I41 0 73 ∧ I41 0 73 ≤ 1001 from (hI41 0 73).1)
        have f48 := (show 0 ≤ I41 0 69 ∧ I41 0 69 ≤ 1000 from (hI41 0 69).1)
        have f49 := (show 0 ≤ I41 0 2 ∧ I41 0 2 ≤ 32 from (hI41 0 2).1)
        refine gv_callV hD rfl (As := [.inl 0]) (st := []) rfl (by decide) rfl rfl (gr_lV hws rfl) (Nat.le_of_ble_eq_true rfl) (gz_Ev_mono (d := 11) (by decide) E40) ?_
        show gv_X _ _ (58, [(1, .inr (.inl (J8 0 75))), (0, .inr (.inr (some 0)))], [.inl z40], gr_sh ++ ext, gr_h I41 J42)
        refine gv_if_ne (t := 63) hD rfl rfl ⟨by omega, by omega⟩ (fun c50 => ?_) (fun c50 => ?_)
        · have Q51 := q40.2.2.2.2.2.2.2.2.2.2.2.2
          rw [FI27 0 78 rfl] at Q51
          obtain ⟨u51, A51⟩ := gs_or1 Q51 (by omega)
          have t52 := gr_ATp_l A51
          have f53 := (show 0 ≤ I41 0 2 ∧ I41 0 2 ≤ 32 from (hI41 0 2).1)
          refine gv_run 7 true hD (pc' := 74) (lv' := [(1, .inr (.inl (J8 0 75))), (0, .inr (.inr (some 0)))]) (st' := [.inl 1, .inl (I41 0 2), .inr (.inr (some 0)), .inl (I41 0 2), .inr (.inr (some 2))]) (h' := gr_h I41 J42) (C := (((((((True ∧ True) ∧ True) ∧ True) ∧ True) ∧ True) ∧ True) ∧ True)) rfl ⟨⟨⟨⟨⟨⟨⟨trivial, trivial⟩, trivial⟩, trivial⟩, trivial⟩, trivial⟩, trivial⟩, trivial⟩ ?_
          refine gv_run 2 true hD (pc' := 78) (lv' := [(1, .inr (.inl (J8 0 75))), (0, .inr (.inr (some 0)))]) (st' := [.inl (I41 0 2), .inr (.inr (some 2))]) (h' := gz_up (gr_h I41 J42) 0 2 (.inl (((I41 0 2) + 1)))) (C := ((True ∧ True) ∧ True)) rfl ⟨⟨trivial, trivial⟩, trivial⟩ ?_
          refine gr_st hI41 FI41 rfl rfl ⟨⟨by show 0 ≤ _; omega, by show _ ≤ 32; omega⟩, trivial⟩ (fun I54 hI54 FI54 q55 p55 => ?_)
          have t56 := p55 0 71 (by decide)
          have t57 := p55 0 72 (by decide)
          have t58 := p55 0 73 (by decide)
          have t59 := p55 0 69 (by decide)
          have f60 := (show 0 ≤ I54 0 71 ∧ I54 0 71 ≤ 5 from (hI54 0 71).1)
          have f61 := (show 0 ≤ I54 0 72 ∧ I54 0 72 ≤ 1000 from (hI54 0 72).1)
          have f62 := (show 0 ≤ I54 0 73 ∧ I54 0 73 ≤ 1001 from (hI54 0 73).1)
          have f63 := (show 0 ≤ I54 0 69 ∧ I54 0 69 ≤ 1000 from (hI54 0 69).1)
          have f64 := (show 0 ≤ I54 0 2 ∧ I54 0 2 ≤ 32 from (hI54 0 2).1)
          have A65 := gr_ATp_sf A51 p55 rfl
          refine gv_run 2 true hD (pc' := 80) (lv' := [(1, .inr (.inl (J8 0 75))), (0, .inr (.inr (some 0)))]) (st' := []) (h' := gz_up (gr_h I54 J42) 2 (Int.toNat ((I41 0 2))) (.inr (.inl (J8 0 75)))) (C := ((True ∧ True) ∧ (0 ≤ (I41 0 2) ∧ (I41 0 2) < ((32 : Nat) : Int)))) rfl ⟨⟨trivial, trivial⟩, ⟨by omega, by omega⟩⟩ ?_
          refine gr_stJq FJ42 rfl rfl (fun J66 FJ66 q67 p67 => ?_)
          have A68 := gr_ATp_sj' A65 p67 rfl
          refine gv_run 1 true hD (pc' := 81) (lv' := [(1, .inr (.inl (J8 0 75))), (0, .inr (.inr (some 0)))]) (st' := [.inl 1]) (h' := gr_h I54 J66) (C := (True ∧ True)) rfl ⟨trivial, trivial⟩ ?_
          exact gv_zret hD rfl (by omega) ⟨I54, J66, rfl, hI54, FI54, FJ66, ⟨_, rfl, by omega, by omega, by omega, by omega, by omega, by omega, by omega, by omega, by omega, by omega, (Or.inl ⟨by omega, by have e9 : (gs_new β N9 I J 2 2 32 (I 0 78) p9) = (gs_done β N9 0 (I 0 78) (gs_X β N9 p9)) := (by first | (exfalso; omega) | (unfold gs_new; (repeat first | rw [if_pos (by omega)] | rw [if_neg (by omega)]))); rw [e9]; exact ⟨by omega, A68, ⟨by omega, by rw [show Int.toNat (I 0 2) = (Int.toNat ((I41 0 2))) from by omega]; exact q67.trans (gr_ATp_w A19), fun j hj => (p67 2 j (fun h => hj (by have h9 := h.2; omega))).trans (((k40 2 j rfl).trans (k26 2 j rfl)).trans (k6 2 j rfl))⟩⟩⟩)⟩⟩
        · have Q69 := q40.2.2.2.2.2.2.2.2.2.2.2.2
          rw [FI27 0 78 rfl] at Q69
          obtain ⟨u69, u69_⟩ := gs_or0 Q69 (by omega)
          refine gv_run 1 true hD (pc' := 62) (lv' := [(1, .inr (.inl (J8 0 75))), (0, .inr (.inr (some 0)))]) (st' := [.inl 0]) (h' := gr_h I41 J42) (C := (True ∧ True)) rfl ⟨trivial, trivial⟩ ?_
          exact gv_zret hD rfl (by omega) ⟨I41, J42, rfl, hI41, FI41, FJ42, ⟨_, rfl, by omega, by omega, by omega, by omega, by omega, by omega, by omega, by omega, by omega, by omega, (Or.inr ⟨by omega, by first | (exfalso; omega) | (unfold gs_new; (repeat first | rw [if_pos (by omega)] | rw [if_neg (by omega)]); exact ⟨by omega, by omega, ⟨(((g40 0 2 rfl).trans (g26 0 2 rfl)).trans (g6 0 2 rfl)), fun j => (((k40 2 j rfl).trans (k26 2 j rfl)).trans (k6 2 j rfl))⟩⟩)⟩)⟩⟩
      · refine gv_run 2 true hD (pc' := 55) (lv' := [(1, .inr (.inl (J8 0 75))), (0, .inr (.inr (some 0)))]) (st' := [.inl 1, .inr (.inr (some 0))]) (h' := gr_h I27 J28) (C := ((True ∧ True) ∧ True)) rfl ⟨⟨trivial, trivial⟩, trivial⟩ ?_
        obtain ⟨r70, h70, E70, P70⟩ := r_done_p (ws0 := ws0) (tb := tb) hws htb ext β N9 (gs_X β N9 p9) I27 J28 hI27 1 ⟨by omega, by omega⟩ (by omega) (by omega) (by omega) (by omega) (by omega) A36 (by omega)
        obtain ⟨I71, J72, rfl, hI71, g70, k70, ⟨z70, rfl, q70⟩⟩ := P70
        have FI71 := gr_frt FI27 g70 rfl rfl
        have FJ72 := gr_fjt FJ28 k70 rfl rfl
        have t73 := g70 0 69 rfl
        have t74 := g70 0 2 rfl
        have f75 := (show 0 ≤ I71 0 71 ∧ I71 0 71 ≤ 5 from (hI71 0 71).1)
        have f76 := (show 0 ≤ I71 0 72 ∧ I71 0 72 ≤ 1000 from (hI71 0 72).1)
        have f77 := (show 0 ≤ I71 0 73 ∧ I71 0 73 ≤ 1001 from (hI71 0 73).1)
        have f78 := (show 0 ≤ I71 0 69 ∧ I71 0 69 ≤ 1000 from (hI71 0 69).1)
        have f79 := (show 0 ≤ I71 0 2 ∧ I71 0 2 ≤ 32 from (hI71 0 2).1)
        refine gv_callV hD rfl (As := [.inl 1]) (st := []) rfl (by decide) rfl rfl (gr_lV hws rfl) (Nat.le_of_ble_eq_true rfl) (gz_Ev_mono (d := 11) (by decide) E70) ?_
        show gv_X _ _ (58, [(1, .inr (.inl (J8 0 75))), (0, .inr (.inr (some 0)))], [.inl z70], gr_sh ++ ext, gr_h I71 J72)
        refine gv_if_ne (t := 63) hD rfl rfl ⟨by omega, by omega⟩ (fun c80 => ?_) (fun c80 => ?_)
        · have Q81 := q70.2.2.2.2.2.2.2.2.2.2.2.2
          rw [FI27 0 78 rfl] at Q81
          obtain ⟨u81, A81⟩ := gs_or1 Q81 (by omega)
          have t82 := gr_ATp_l A81
          have f83 := (show 0 ≤ I71 0 2 ∧ I71 0 2 ≤ 32 from (hI71 0 2).1)
          refine gv_run 7 true hD (pc' := 74) (lv' := [(1, .inr (.inl (J8 0 75))), (0, .inr (.inr (some 0)))]) (st' := [.inl 1, .inl (I71 0 2), .inr (.inr (some 0)), .inl (I71 0 2), .inr (.inr (some 2))]) (h' := gr_h I71 J72) (C := (((((((True ∧ True) ∧ True) ∧ True) ∧ True) ∧ True) ∧ True) ∧ True)) rfl ⟨⟨⟨⟨⟨⟨⟨trivial, trivial⟩, trivial⟩, trivial⟩, trivial⟩, trivial⟩, trivial⟩, trivial⟩ ?_
          refine gv_run 2 true hD (pc' := 78) (lv' := [(1, .inr (.inl (J8 0 75))), (0, .inr (.inr (some 0)))]) (st' := [.inl (I71 0 2), .inr (.inr (some 2))]) (h' := gz_up (gr_h I71 J72) 0 2 (.inl (((I71 0 2) + 1)))) (C := ((True ∧ True) ∧ True)) rfl ⟨⟨trivial, trivial⟩, trivial⟩ ?_
          refine gr_st hI71 FI71 rfl rfl ⟨⟨by show 0 ≤ _; omega, by show _ ≤ 32; omega⟩, trivial⟩ (fun I84 hI84 FI84 q85 p85 => ?_)
          have t86 := p85 0 71 (by decide)
          have t87 := p85 0 72 (by decide)
          have t88 := p85 0 73 (by decide)
          have t89 := p85 0 69 (by decide)
          have f90 := (show 0 ≤ I84 0 71 ∧ I84 0 71 ≤ 5 from (hI84 0 71).1)
          have f91 := (show 0 ≤ I84 0 72 ∧ I84 0 72 ≤ 1000 from (hI84 0 72).1)
          have f92 := (show 0 ≤ I84 0 73 ∧ I84 0 73 ≤ 1001 from (hI84 0 73).1)
          have f93 := (show 0 ≤ I84 0 69 ∧ I84 0 69 ≤ 1000 from (hI84 0 69).1)
          have f94 := (show 0 ≤ I84 0 2 ∧ I84 0 2 ≤ 32 from (hI84 0 2).1)
          have A95 := gr_ATp_sf A81 p85 rfl
          refine gv_run 2 true hD (pc' := 80) (lv' := [(1, .inr (.inl (J8 0 75))), (0, .inr (.inr (some 0)))]) (st' := []) (h' := gz_up (gr_h I84 J72) 2 (Int.toNat ((I71 0 2))) (.inr (.inl (J8 0 75)))) (C := ((True ∧ True) ∧ (0 ≤ (I71 0 2) ∧ (I71 0 2) < ((32 : Nat) : Int)))) rfl ⟨⟨trivial, trivial⟩, ⟨by omega, by omega⟩⟩ ?_
          refine gr_stJq FJ72 rfl rfl (fun J96 FJ96 q97 p97 => ?_)
          have A98 := gr_ATp_sj' A95 p97 rfl
          refine gv_run 1 true hD (pc' := 81) (lv' := [(1, .inr (.inl (J8 0 75))), (0, .inr (.inr (some 0)))]) (st' := [.inl 1]) (h' := gr_h I84 J96) (C := (True ∧ True)) rfl ⟨trivial, trivial⟩ ?_
          exact gv_zret hD rfl (by omega) ⟨I84, J96, rfl, hI84, FI84, FJ96, ⟨_, rfl, by omega, by omega, by omega, by omega, by omega, by omega, by omega, by omega, by omega, by omega, (Or.inl ⟨by omega, by have e9 : (gs_new β N9 I J 2 2 32 (I 0 78) p9) = (gs_done β N9 1 (I 0 78) (gs_X β N9 p9)) := (by first | (exfalso; omega) | (unfold gs_new; (repeat first | rw [if_pos (by omega)] | rw [if_neg (by omega)]))); rw [e9]; exact ⟨by omega, A98, ⟨by omega, by rw [show Int.toNat (I 0 2) = (Int.toNat ((I71 0 2))) from by omega]; exact q97.trans (gr_ATp_w A19), fun j hj => (p97 2 j (fun h => hj (by have h9 := h.2; omega))).trans (((k70 2 j rfl).trans (k26 2 j rfl)).trans (k6 2 j rfl))⟩⟩⟩)⟩⟩
        · have Q99 := q70.2.2.2.2.2.2.2.2.2.2.2.2
          rw [FI27 0 78 rfl] at Q99
          obtain ⟨u99, u99_⟩ := gs_or0 Q99 (by omega)
          refine gv_run 1 true hD (pc' := 62) (lv' := [(1, .inr (.inl (J8 0 75))), (0, .inr (.inr (some 0)))]) (st' := [.inl 0]) (h' := gr_h I71 J72) (C := (True ∧ True)) rfl ⟨trivial, trivial⟩ ?_
          exact gv_zret hD rfl (by omega) ⟨I71, J72, rfl, hI71, FI71, FJ72, ⟨_, rfl, by omega, by omega, by omega, by omega, by omega, by omega, by omega, by omega, by omega, by omega, (Or.inr ⟨by omega, by first | (exfalso; omega) | (unfold gs_new; (repeat first | rw [if_pos (by omega)] | rw [if_neg (by omega)]); exact ⟨by omega, by omega, ⟨(((g70 0 2 rfl).trans (g26 0 2 rfl)).trans (g6 0 2 rfl)), fun j => (((k70 2 j rfl).trans (k26 2 j rfl)).trans (k6 2 j rfl))⟩⟩)⟩)⟩⟩
    · refine gv_run 2 true hD (pc' := 32) (lv' := [(1, .inr (.inl (J8 0 75))), (0, .inr (.inr (some 0)))]) (st' := [.inl 4, .inr (.inr (some 0))]) (h' := gr_h I7 J8) (C := ((True ∧ True) ∧ True)) rfl ⟨⟨trivial, trivial⟩, trivial⟩ ?_
      obtain ⟨r100, h100, E100, P100⟩ := r_no__p (ws0 := ws0) (tb := tb) hws htb ext β N9 p9 I7 J8 hI7 4 ⟨by omega, by omega⟩ A19 (by omega)
      obtain ⟨I101, J102, rfl, hI101, g100, k100, ⟨z100, rfl, q100⟩⟩ := P100
      have FI101 := gr_frt FI7 g100 rfl rfl
      have FJ102 := gr_fjt FJ8 k100 rfl rfl
      have t103 := g100 0 71 rfl
      have t104 := g100 0 72 rfl
      have t105 := g100 0 73 rfl
      have t106 := g100 0 69 rfl
      have t107 := g100 0 2 rfl
      have f108 := (show 0 ≤ I101 0 71 ∧ I101 0 71 ≤ 5 from (hI101 0 71).1)
      have f109 := (show 0 ≤ I101 0 72 ∧ I101 0 72 ≤ 1000 from (hI101 0 72).1)
      have f110 := (show 0 ≤ I101 0 73 ∧ I101 0 73 ≤ 1001 from (hI101 0 73).1)
      have f111 := (show 0 ≤ I101 0 69 ∧ I101 0 69 ≤ 1000 from (hI101 0 69).1)
      have f112 := (show 0 ≤ I101 0 2 ∧ I101 0 2 ≤ 32 from (hI101 0 2).1)
      have A113 := gr_ATp_F A19 g100 k100 rfl
      have t114 := gr_ATp_l A113
      refine gv_callV hD rfl (As := [.inl 4]) (st := []) rfl (by decide) rfl rfl (gr_lV hws rfl) (Nat.le_of_ble_eq_true rfl) (gz_Ev_mono (d := 2) (by decide) E100) ?_
      show gv_X _ _ (35, [(1, .inr (.inl (J8 0 75))), (0, .inr (.inr (some 0)))], [.inl z100], gr_sh ++ ext, gr_h I101 J102)
      exact gv_zret hD rfl (by omega) ⟨I101, J102, rfl, hI101, FI101, FJ102, ⟨_, rfl, by omega, by omega, by omega, by omega, by omega, by omega, by omega, by omega, by omega, by omega, (Or.inr ⟨by omega, by first | (exfalso; omega) | (unfold gs_new; (repeat first | rw [if_pos (by omega)] | rw [if_neg (by omega)]); exact ⟨by omega, by omega, ⟨((g100 0 2 rfl).trans (g6 0 2 rfl)), fun j => ((k100 2 j rfl).trans (k6 2 j rfl))⟩⟩)⟩)⟩⟩
  · refine gv_run 1 true hD (pc' := 8) (lv' := [(0, .inr (.inr (some 0)))]) (st' := [.inl 0]) (h' := gr_h I7 J8) (C := (True ∧ True)) rfl ⟨trivial, trivial⟩ ?_
    exact gv_zret hD rfl (by omega) ⟨I7, J8, rfl, hI7, FI7, FJ8, ⟨_, rfl, by omega, by omega, by omega, by omega, by omega, by omega, by omega, by omega, by omega, by omega, (Or.inr ⟨by omega, by first | (exfalso; omega) | (unfold gs_new; (repeat first | rw [if_pos (by omega)] | rw [if_neg (by omega)]); exact ⟨by omega, by omega, ⟨(g6 0 2 rfl), fun j => (k6 2 j rfl)⟩⟩)⟩)⟩⟩
set_option maxHeartbeats 4000000 in
set_option maxRecDepth 100000 in
theorem r_thing_p {ws0 : List Cond} {tb : String → gz_T} (hws : ∀ w ∈ gr_ws, w ∈ ws0) (htb : tb RX13 = gr_T) (ext : gz_Sh) (β : Int → Int) (N9 : Int) (p9 : Int) (I : gr_I) (J : gr_J) (hI : gr_Inv I)   (x0 : I 0 71 = 5 ∨ I 0 73 ≤ I 0 69) (x1 : I 0 72 ≤ I 0 69) (x2 : I 0 71 = 0 ∨ (I 0 72 < I 0 73 ∧ I 0 72 < I 0 69)) (x3 : I 0 71 = 3 → 2 ≤ I 0 73 - I 0 72 ∧ I 0 73 - I 0 72 ≤ 14) (x4 : I 0 72 ≤ I 0 73) (x5 : gr_ATp β N9 p9 I J) (x6 : 0 ≤ p9) : ∃ r h', gz_Ev ws0 tb 12 (yX13_thing, cX13_thing, 3, (some .boolean)) [.inr (.inr (some 0))] (gr_sh ++ ext) (gr_h I J) r (gr_sh ++ ext) h' 0 0 ∧ (∃ (I' : gr_I) (J' : gr_J), h' = gr_h I' J' ∧ gr_Inv I' ∧ gr_fr [4, 71, 72, 73, 74, 75, 76, 77] [4] I I' ∧ gr_fj [4, 71, 72, 73, 74, 75, 76, 77] [4] J J' ∧ (∃ z : Int, r = some (.inl z) ∧ 0 ≤ z ∧ z ≤ 1 ∧ (I' 0 71 = 5 ∨ I' 0 73 ≤ I' 0 69) ∧ (I' 0 72 ≤ I' 0 69) ∧ (I' 0 71 = 0 ∨ (I' 0 72 < I' 0 73 ∧ I' 0 72 < I' 0 69)) ∧ (I' 0 71 = 3 → 2 ≤ I' 0 73 - I' 0 72 ∧ I' 0 73 - I' 0 72 ≤ 14) ∧ (I' 0 72 ≤ I' 0 73) ∧ (I' 0 69 = I 0 69) ∧ (I 0 73 ≤ I' 0 73) ∧ (I 0 72 ≤ I' 0 72) ∧ (gs_Or z (0 ≤ (gs_new β N9 I J 4 4 8 (I 0 78) p9) ∧ gr_ATp β N9 (gs_new β N9 I J 4 4 8 (I 0 78) p9) I' J' ∧ gs_put 4 4 (gs_rn β N9 p9) I J I' J') ((gs_new β N9 I J 4 4 8 (I 0 78) p9) < 0 ∧ I' 0 77 = -1 - (gs_new β N9 I J 4 4 8 (I 0 78) p9) ∧ gs_same 4 4 I J I' J')))) := by
  have FI : gr_fr [4, 71, 72, 73, 74, 75, 76, 77] [4] I I := fun _ _ _ => rfl
  have FJ : gr_fj [4, 71, 72, 73, 74, 75, 76, 77] [4] J J := fun _ _ _ => rfl
  have hD : gv_D (gr_E ws0 tb 11 (yX13_thing, cX13_thing, 3, (some .boolean)) kX13_thing) := gq_ok oX13_thing
  refine gr_ev (d := 11) (l := kX13_thing) (Po := fun r h' => (∃ (I' : gr_I) (J' : gr_J), h' = gr_h I' J' ∧ gr_Inv I' ∧ gr_fr [4, 71, 72, 73, 74, 75, 76, 77] [4] I I' ∧ gr_fj [4, 71, 72, 73, 74, 75, 76, 77] [4] J J' ∧ (∃ z : Int, r = some (.inl z) ∧ 0 ≤ z ∧ z ≤ 1 ∧ (I' 0 71 = 5 ∨ I' 0 73 ≤ I' 0 69) ∧ (I' 0 72 ≤ I' 0 69) ∧ (I' 0 71 = 0 ∨ (I' 0 72 < I' 0 73 ∧ I' 0 72 < I' 0 69)) ∧ (I' 0 71 = 3 → 2 ≤ I' 0 73 - I' 0 72 ∧ I' 0 73 - I' 0 72 ≤ 14) ∧ (I' 0 72 ≤ I' 0 73) ∧ (I' 0 69 = I 0 69) ∧ (I 0 73 ≤ I' 0 73) ∧ (I 0 72 ≤ I' 0 72) ∧ (gs_Or z (0 ≤ (gs_new β N9 I J 4 4 8 (I 0 78) p9) ∧ gr_ATp β N9 (gs_new β N9 I J 4 4 8 (I 0 78) p9) I' J' ∧ gs_put 4 4 (gs_rn β N9 p9) I J I' J') ((gs_new β N9 I J 4 4 8 (I 0 78) p9) < 0 ∧ I' 0 77 = -1 - (gs_new β N9 I J 4 4 8 (I 0 78) p9) ∧ gs_same 4 4 I J I' J'))))) htb rfl (Nat.le_of_ble_eq_true rfl) ?_
  have tAT := gr_ATp_l x5
  have f1 := (show 0 ≤ I 0 71 ∧ I 0 71 ≤ 5 from (hI 0 71).1)
  have f2 := (show 0 ≤ I 0 72 ∧ I 0 72 ≤ 1000 from (hI 0 72).1)
  have f3 := (show 0 ≤ I 0 73 ∧ I 0 73 ≤ 1001 from (hI 0 73).1)
  have f4 := (show 0 ≤ I 0 69 ∧ I 0 69 ≤ 1000 from (hI 0 69).1)
  have f5 := (show 0 ≤ I 0 4 ∧ I 0 4 ≤ 8 from (hI 0 4).1)
  refine gv_run 1 true hD (pc' := 1) (lv' := [(0, .inr (.inr (some 0)))]) (st' := [.inr (.inr (some 0))]) (h' := gr_h I J) (C := (True ∧ True)) rfl ⟨trivial, trivial⟩ ?_
  obtain ⟨r6, h6, E6, P6⟩ := r_name_p (ws0 := ws0) (tb := tb) hws htb ext β N9 p9 I J hI   x5 (by omega)
  obtain ⟨I7, J8, rfl, hI7, g6, k6, ⟨z6, rfl, q6⟩⟩ := P6
  have FI7 := gr_frt FI g6 rfl rfl
  have FJ8 := gr_fjt FJ k6 rfl rfl
  have t9 := g6 0 71 rfl
  have t10 := g6 0 72 rfl
  have t11 := g6 0 73 rfl
  have t12 := g6 0 69 rfl
  have t13 := g6 0 4 rfl
  have f14 := (show 0 ≤ I7 0 71 ∧ I7 0 71 ≤ 5 from (hI7 0 71).1)
  have f15 := (show 0 ≤ I7 0 72 ∧ I7 0 72 ≤ 1000 from (hI7 0 72).1)
  have f16 := (show 0 ≤ I7 0 73 ∧ I7 0 73 ≤ 1001 from (hI7 0 73).1)
  have f17 := (show 0 ≤ I7 0 69 ∧ I7 0 69 ≤ 1000 from (hI7 0 69).1)
  have f18 := (show 0 ≤ I7 0 4 ∧ I7 0 4 ≤ 8 from (hI7 0 4).1)
  have A19 := gr_ATp_F x5 g6 k6 rfl
  have t20 := gr_ATp_l A19
  refine gv_callV hD rfl (As := []) (st := []) rfl (by decide) rfl rfl (gr_lV hws rfl) (Nat.le_of_ble_eq_true rfl) (gz_Ev_mono (d := 3) (by decide) E6) ?_
  show gv_X _ _ (4, [(0, .inr (.inr (some 0)))], [.inl z6], gr_sh ++ ext, gr_h I7 J8)
  refine gv_if_ne (t := 9) hD rfl rfl ⟨by omega, by omega⟩ (fun c21 => ?_) (fun c21 => ?_)
  · refine gv_run 7 true hD (pc' := 20) (lv' := [(1, .inr (.inl (J8 0 75))), (0, .inr (.inr (some 0)))]) (st' := [.inr (.inr (some 0)), .inl 0, .inr (.inr (some 4))]) (h' := gr_h I7 J8) (C := (((((((True ∧ True) ∧ True) ∧ True) ∧ True) ∧ True) ∧ True) ∧ True)) rfl ⟨⟨⟨⟨⟨⟨⟨trivial, trivial⟩, trivial⟩, trivial⟩, trivial⟩, trivial⟩, trivial⟩, trivial⟩ ?_
    have f22 := (show 0 ≤ I7 0 4 ∧ I7 0 4 ≤ 8 from (hI7 0 4).1)
    refine gv_run 2 true hD (pc' := 24) (lv' := [(1, .inr (.inl (J8 0 75))), (0, .inr (.inr (some 0)))]) (st' := [.inr (.inl (J8 0 75)), .inl (I7 0 4), .inl 0, .inr (.inr (some 4))]) (h' := gr_h I7 J8) (C := ((True ∧ True) ∧ True)) rfl ⟨⟨trivial, trivial⟩, trivial⟩ ?_
    obtain ⟨r23, h23, E23, P23⟩ := r_find_4_p (ws0 := ws0) (tb := tb) hws htb ext I7 J8 hI7 0 (I7 0 4) (J8 0 75) ⟨by omega, by omega⟩ ⟨by omega, by omega⟩ (by omega)
    obtain ⟨rfl, ⟨z23, rfl, q23⟩⟩ := P23
    have t24 := q23.2.2.2.trans (gs_lk_eq (I := I) (J := J) (w := gs_rn β N9 p9) (fun k => (k6 4 k rfl)) (g6 0 4 rfl) (gr_ATp_w A19))
    refine gv_callS hD rfl (As := [.inr (.inr (some 4)), .inl 0, .inl (I7 0 4), .inr (.inl (J8 0 75))]) (st := []) rfl (gr_lS hws rfl) (Nat.le_of_ble_eq_true rfl) (gz_Ev_mono (d := 1) (by decide) E23) ?_
    show gv_X _ _ (27, [(1, .inr (.inl (J8 0 75))), (0, .inr (.inr (some 0)))], [.inl z23], gr_sh ++ ext, gr_h I7 J8)
    refine gv_if_lt (t := 36) hD rfl rfl ⟨by omega, by omega⟩ (fun c25 => ?_) (fun c25 => ?_)
    · refine gv_run 1 true hD (pc' := 37) (lv' := [(1, .inr (.inl (J8 0 75))), (0, .inr (.inr (some 0)))]) (st' := [.inr (.inr (some 0))]) (h' := gr_h I7 J8) (C := (True ∧ True)) rfl ⟨trivial, trivial⟩ ?_
      obtain ⟨r26, h26, E26, P26⟩ := r_next_p (ws0 := ws0) (tb := tb) hws htb ext β N9 I7 J8 hI7   (by omega) A19.1.1 A19.1.2
      obtain ⟨I27, J28, rfl, hI27, g26, k26, ⟨rfl, q26⟩⟩ := P26
      have FI27 := gr_frt FI7 g26 rfl rfl
      have FJ28 := gr_fjt FJ8 k26 rfl rfl
      have t29 := g26 0 69 rfl
      have t30 := g26 0 4 rfl
      have f31 := (show 0 ≤ I27 0 71 ∧ I27 0 71 ≤ 5 from (hI27 0 71).1)
      have f32 := (show 0 ≤ I27 0 72 ∧ I27 0 72 ≤ 1000 from (hI27 0 72).1)
      have f33 := (show 0 ≤ I27 0 73 ∧ I27 0 73 ≤ 1001 from (hI27 0 73).1)
      have f34 := (show 0 ≤ I27 0 69 ∧ I27 0 69 ≤ 1000 from (hI27 0 69).1)
      have f35 := (show 0 ≤ I27 0 4 ∧ I27 0 4 ≤ 8 from (hI27 0 4).1)
      have A36 := gr_ATp_nx A19 q26.2.2.2.2.2
      have t37 := gr_ATp_l A36
      refine gv_callV hD rfl (As := []) (st := []) rfl (by decide) rfl rfl (gr_lV hws rfl) (Nat.le_of_ble_eq_true rfl) (gz_Ev_mono (d := 10) (by decide) E26) ?_
      show gv_X _ _ (40, [(1, .inr (.inl (J8 0 75))), (0, .inr (.inr (some 0)))], [], gr_sh ++ ext, gr_h I27 J28)
      have f38 := (show 0 ≤ I27 0 4 ∧ I27 0 4 ≤ 8 from (hI27 0 4).1)
      refine gv_run 4 true hD (pc' := 47) (lv' := [(1, .inr (.inl (J8 0 75))), (0, .inr (.inr (some 0)))]) (st' := [.inl 8, .inl (I27 0 4), .inr (.inr (some 0))]) (h' := gr_h I27 J28) (C := ((((True ∧ True) ∧ True) ∧ True) ∧ True)) rfl ⟨⟨⟨⟨trivial, trivial⟩, trivial⟩, trivial⟩, trivial⟩ ?_
      refine gv_icmp_ge (t := 54) hD rfl rfl ⟨⟨by omega, by omega⟩, ⟨by omega, by omega⟩⟩ (fun c39 => ?_) (fun c39 => ?_)
      · refine gv_run 1 true hD (pc' := 55) (lv' := [(1, .inr (.inl (J8 0 75))), (0, .inr (.inr (some 0)))]) (st' := [.inl 0, .inr (.inr (some 0))]) (h' := gr_h I27 J28) (C := (True ∧ True)) rfl ⟨trivial, trivial⟩ ?_
        obtain ⟨r40, h40, E40, P40⟩ := r_done_p (ws0 := ws0) (tb := tb) hws htb ext β N9 (gs_X β N9 p9) I27 J28 hI27 0 ⟨by omega, by omega⟩ (by omega) (by omega) (by omega) (by omega) (by omega) A36 (by omega)
        obtain ⟨I41, J42, rfl, hI41, g40, k40, ⟨z40, rfl, q40⟩⟩ := P40
        have FI41 := gr_frt FI27 g40 rfl rfl
        have FJ42 := gr_fjt FJ28 k40 rfl rfl
        have t43 := g40 0 69 rfl
        have t44 := g40 0 4 rfl
        have f45 := (show 0 ≤ I41 0 71 ∧ I41 0 71 ≤ 5 from (hI41 0 71).1)
        have f46 := (show 0 ≤ I41 0 72 ∧ I41 0 72 ≤ 1000 from (hI41 0 72).1)
        have f47 := (show 0 ≤ I41 0 73 ∧ I41 0 73 ≤ 1001 from (hI41 0 73).1)
        have f48 := (show 0 ≤ I41 0 69 ∧ I41 0 69 ≤ 1000 from (hI41 0 69).1)
        have f49 := (show 0 ≤ I41 0 4 ∧ I41 0 4 ≤ 8 from (hI41 0 4).1)
        refine gv_callV hD rfl (As := [.inl 0]) (st := []) rfl (by decide) rfl rfl (gr_lV hws rfl) (Nat.le_of_ble_eq_true rfl) (gz_Ev_mono (d := 11) (by decide) E40) ?_
        show gv_X _ _ (58, [(1, .inr (.inl (J8 0 75))), (0, .inr (.inr (some 0)))], [.inl z40], gr_sh ++ ext, gr_h I41 J42)
        refine gv_if_ne (t := 63) hD rfl rfl ⟨by omega, by omega⟩ (fun c50 => ?_) (fun c50 => ?_)
        · have Q51 := q40.2.2.2.2.2.2.2.2.2.2.2.2
          rw [FI27 0 78 rfl] at Q51
          obtain ⟨u51, A51⟩ := gs_or1 Q51 (by omega)
          have t52 := gr_ATp_l A51
          have f53 := (show 0 ≤ I41 0 4 ∧ I41 0 4 ≤ 8 from (hI41 0 4).1)
          refine gv_run 7 true hD (pc' := 74) (lv' := [(1, .inr (.inl (J8 0 75))), (0, .inr (.inr (some 0)))]) (st' := [.inl 1, .inl (I41 0 4), .inr (.inr (some 0)), .inl (I41 0 4), .inr (.inr (some 4))]) (h' := gr_h I41 J42) (C := (((((((True ∧ True) ∧ True) ∧ True) ∧ True) ∧ True) ∧ True) ∧ True)) rfl ⟨⟨⟨⟨⟨⟨⟨trivial, trivial⟩, trivial⟩, trivial⟩, trivial⟩, trivial⟩, trivial⟩, trivial⟩ ?_
          refine gv_run 2 true hD (pc' := 78) (lv' := [(1, .inr (.inl (J8 0 75))), (0, .inr (.inr (some 0)))]) (st' := [.inl (I41 0 4), .inr (.inr (some 4))]) (h' := gz_up (gr_h I41 J42) 0 4 (.inl (((I41 0 4) + 1)))) (C := ((True ∧ True) ∧ True)) rfl ⟨⟨trivial, trivial⟩, trivial⟩ ?_
          refine gr_st hI41 FI41 rfl rfl ⟨⟨by show 0 ≤ _; omega, by show _ ≤ 8; omega⟩, trivial⟩ (fun I54 hI54 FI54 q55 p55 => ?_)
          have t56 := p55 0 71 (by decide)
          have t57 := p55 0 72 (by decide)
          have t58 := p55 0 73 (by decide)
          have t59 := p55 0 69 (by decide)
          have f60 := (show 0 ≤ I54 0 71 ∧ I54 0 71 ≤ 5 from (hI54 0 71).1)
          have f61 := (show 0 ≤ I54 0 72 ∧ I54 0 72 ≤ 1000 from (hI54 0 72).1)
          have f62 := (show 0 ≤ I54 0 73 ∧ I54 0 73 ≤ 1001 from (hI54 0 73).1)
          have f63 := (show 0 ≤ I54 0 69 ∧ I54 0 69 ≤ 1000 from (hI54 0 69).1)
          have f64 := (show 0 ≤ I54 0 4 ∧ I54 0 4 ≤ 8 from (hI54 0 4).1)
          have A65 := gr_ATp_sf A51 p55 rfl
          refine gv_run 2 true hD (pc' := 80) (lv' := [(1, .inr (.inl (J8 0 75))), (0, .inr (.inr (some 0)))]) (st' := []) (h' := gz_up (gr_h I54 J42) 4 (Int.toNat ((I41 0 4))) (.inr (.inl (J8 0 75)))) (C := ((True ∧ True) ∧ (0 ≤ (I41 0 4) ∧ (I41 0 4) < ((8 : Nat) : Int)))) rfl ⟨⟨trivial, trivial⟩, ⟨by omega, by omega⟩⟩ ?_
          refine gr_stJq FJ42 rfl rfl (fun J66 FJ66 q67 p67 => ?_)
          have A68 := gr_ATp_sj' A65 p67 rfl
          refine gv_run 1 true hD (pc' := 81) (lv' := [(1, .inr (.inl (J8 0 75))), (0, .inr (.inr (some 0)))]) (st' := [.inl 1]) (h' := gr_h I54 J66) (C := (True ∧ True)) rfl ⟨trivial, trivial⟩ ?_
          exact gv_zret hD rfl (by omega) ⟨I54, J66, rfl, hI54, FI54, FJ66, ⟨_, rfl, by omega, by omega, by omega, by omega, by omega, by omega, by omega, by omega, by omega, by omega, (Or.inl ⟨by omega, by have e9 : (gs_new β N9 I J 4 4 8 (I 0 78) p9) = (gs_done β N9 0 (I 0 78) (gs_X β N9 p9)) := (by first | (exfalso; omega) | (unfold gs_new; (repeat first | rw [if_pos (by omega)] | rw [if_neg (by omega)]))); rw [e9]; exact ⟨by omega, A68, ⟨by omega, by rw [show Int.toNat (I 0 4) = (Int.toNat ((I41 0 4))) from by omega]; exact q67.trans (gr_ATp_w A19), fun j hj => (p67 4 j (fun h => hj (by have h9 := h.2; omega))).trans (((k40 4 j rfl).trans (k26 4 j rfl)).trans (k6 4 j rfl))⟩⟩⟩)⟩⟩
        · have Q69 := q40.2.2.2.2.2.2.2.2.2.2.2.2
          rw [FI27 0 78 rfl] at Q69
          obtain ⟨u69, u69_⟩ := gs_or0 Q69 (by omega)
          refine gv_run 1 true hD (pc' := 62) (lv' := [(1, .inr (.inl (J8 0 75))), (0, .inr (.inr (some 0)))]) (st' := [.inl 0]) (h' := gr_h I41 J42) (C := (True ∧ True)) rfl ⟨trivial, trivial⟩ ?_
          exact gv_zret hD rfl (by omega) ⟨I41, J42, rfl, hI41, FI41, FJ42, ⟨_, rfl, by omega, by omega, by omega, by omega, by omega, by omega, by omega, by omega, by omega, by omega, (Or.inr ⟨by omega, by first | (exfalso; omega) | (unfold gs_new; (repeat first | rw [if_pos (by omega)] | rw [if_neg (by omega)]); exact ⟨by omega, by omega, ⟨(((g40 0 4 rfl).trans (g26 0 4 rfl)).trans (g6 0 4 rfl)), fun j => (((k40 4 j rfl).trans (k26 4 j rfl)).trans (k6 4 j rfl))⟩⟩)⟩)⟩⟩
      · refine gv_run 2 true hD (pc' := 55) (lv' := [(1, .inr (.inl (J8 0 75))), (0, .inr (.inr (some 0)))]) (st' := [.inl 1, .inr (.inr (some 0))]) (h' := gr_h I27 J28) (C := ((True ∧ True) ∧ True)) rfl ⟨⟨trivial, trivial⟩, trivial⟩ ?_
        obtain ⟨r70, h70, E70, P70⟩ := r_done_p (ws0 := ws0) (tb := tb) hws htb ext β N9 (gs_X β N9 p9) I27 J28 hI27 1 ⟨by omega, by omega⟩ (by omega) (by omega) (by omega) (by omega) (by omega) A36 (by omega)
        obtain ⟨I71, J72, rfl, hI71, g70, k70, ⟨z70, rfl, q70⟩⟩ := P70
        have FI71 := gr_frt FI27 g70 rfl rfl
        have FJ72 := gr_fjt FJ28 k70 rfl rfl
        have t73 := g70 0 69 rfl
        have t74 := g70 0 4 rfl
        have f75 := (show 0 ≤ I71 0 71 ∧ I71 0 71 ≤ 5 from (hI71 0 71).1)
        have f76 := (show 0 ≤ I71 0 72 ∧ I71 0 72 ≤ 1000 from (hI71 0 72).1)
        have f77 := (show 0 ≤ I71 0 73 ∧ I71 0 73 ≤ 1001 from (hI71 0 73).1)
        have f78 := (show 0 ≤ I71 0 69 ∧ I71 0 69 ≤ 1000 from (hI71 0 69).1)
        have f79 := (show 0 ≤ I71 0 4 ∧ I71 0 4 ≤ 8 from (hI71 0 4).1)
        refine gv_callV hD rfl (As := [.inl 1]) (st := []) rfl (by decide) rfl rfl (gr_lV hws rfl) (Nat.le_of_ble_eq_true rfl) (gz_Ev_mono (d := 11) (by decide) E70) ?_
        show gv_X _ _ (58, [(1, .inr (.inl (J8 0 75))), (0, .inr (.inr (some 0)))], [.inl z70], gr_sh ++ ext, gr_h I71 J72)
        refine gv_if_ne (t := 63) hD rfl rfl ⟨by omega, by omega⟩ (fun c80 => ?_) (fun c80 => ?_)
        · have Q81 := q70.2.2.2.2.2.2.2.2.2.2.2.2
          rw [FI27 0 78 rfl] at Q81
          obtain ⟨u81, A81⟩ := gs_or1 Q81 (by omega)
          have t82 := gr_ATp_l A81
          have f83 := (show 0 ≤ I71 0 4 ∧ I71 0 4 ≤ 8 from (hI71 0 4).1)
          refine gv_run 7 true hD (pc' := 74) (lv' := [(1, .inr (.inl (J8 0 75))), (0, .inr (.inr (some 0)))]) (st' := [.inl 1, .inl (I71 0 4), .inr (.inr (some 0)), .inl (I71 0 4), .inr (.inr (some 4))]) (h' := gr_h I71 J72) (C := (((((((True ∧ True) ∧ True) ∧ True) ∧ True) ∧ True) ∧ True) ∧ True)) rfl ⟨⟨⟨⟨⟨⟨⟨trivial, trivial⟩, trivial⟩, trivial⟩, trivial⟩, trivial⟩, trivial⟩, trivial⟩ ?_
          refine gv_run 2 true hD (pc' := 78) (lv' := [(1, .inr (.inl (J8 0 75))), (0, .inr (.inr (some 0)))]) (st' := [.inl (I71 0 4), .inr (.inr (some 4))]) (h' := gz_up (gr_h I71 J72) 0 4 (.inl (((I71 0 4) + 1)))) (C := ((True ∧ True) ∧ True)) rfl ⟨⟨trivial, trivial⟩, trivial⟩ ?_
          refine gr_st hI71 FI71 rfl rfl ⟨⟨by show 0 ≤ _; omega, by show _ ≤ 8; omega⟩, trivial⟩ (fun I84 hI84 FI84 q85 p85 => ?_)
          have t86 := p85 0 71 (by decide)
          have t87 := p85 0 72 (by decide)
          have t88 := p85 0 73 (by decide)
          have t89 := p85 0 69 (by decide)
          have f90 := (show 0 ≤ I84 0 71 ∧ I84 0 71 ≤ 5 from (hI84 0 71).1)
          have f91 := (show 0 ≤ I84 0 72 ∧ I84 0 72 ≤ 1000 from (hI84 0 72).1)
          have f92 := (show 0 ≤ I84 0 73 ∧ I84 0 73 ≤ 1001 from (hI84 0 73).1)
          have f93 := (show 0 ≤ I84 0 69 ∧ I84 0 69 ≤ 1000 from (hI84 0 69).1)
          have f94 := (show 0 ≤ I84 0 4 ∧ I84 0 4 ≤ 8 from (hI84 0 4).1)
          have A95 := gr_ATp_sf A81 p85 rfl
          refine gv_run 2 true hD (pc' := 80) (lv' := [(1, .inr (.inl (J8 0 75))), (0, .inr (.inr (some 0)))]) (st' := []) (h' := gz_up (gr_h I84 J72) 4 (Int.toNat ((I71 0 4))) (.inr (.inl (J8 0 75)))) (C := ((True ∧ True) ∧ (0 ≤ (I71 0 4) ∧ (I71 0 4) < ((8 : Nat) : Int)))) rfl ⟨⟨trivial, trivial⟩, ⟨by omega, by omega⟩⟩ ?_
          refine gr_stJq FJ72 rfl rfl (fun J96 FJ96 q97 p97 => ?_)
          have A98 := gr_ATp_sj' A95 p97 rfl
          refine gv_run 1 true hD (pc' := 81) (lv' := [(1, .inr (.inl (J8 0 75))), (0, .inr (.inr (some 0)))]) (st' := [.inl 1]) (h' := gr_h I84 J96) (C := (True ∧ True)) rfl ⟨trivial, trivial⟩ ?_
          exact gv_zret hD rfl (by omega) ⟨I84, J96, rfl, hI84, FI84, FJ96, ⟨_, rfl, by omega, by omega, by omega, by omega, by omega, by omega, by omega, by omega, by omega, by omega, (Or.inl ⟨by omega, by have e9 : (gs_new β N9 I J 4 4 8 (I 0 78) p9) = (gs_done β N9 1 (I 0 78) (gs_X β N9 p9)) := (by first | (exfalso; omega) | (unfold gs_new; (repeat first | rw [if_pos (by omega)] | rw [if_neg (by omega)]))); rw [e9]; exact ⟨by omega, A98, ⟨by omega, by rw [show Int.toNat (I 0 4) = (Int.toNat ((I71 0 4))) from by omega]; exact q97.trans (gr_ATp_w A19), fun j hj => (p97 4 j (fun h => hj (by have h9 := h.2; omega))).trans (((k70 4 j rfl).trans (k26 4 j rfl)).trans (k6 4 j rfl))⟩⟩⟩)⟩⟩
        · have Q99 := q70.2.2.2.2.2.2.2.2.2.2.2.2
          rw [FI27 0 78 rfl] at Q99
          obtain ⟨u99, u99_⟩ := gs_or0 Q99 (by omega)
          refine gv_run 1 true hD (pc' := 62) (lv' := [(1, .inr (.inl (J8 0 75))), (0, .inr (.inr (some 0)))]) (st' := [.inl 0]) (h' := gr_h I71 J72) (C := (True ∧ True)) rfl ⟨trivial, trivial⟩ ?_
          exact gv_zret hD rfl (by omega) ⟨I71, J72, rfl, hI71, FI71, FJ72, ⟨_, rfl, by omega, by omega, by omega, by omega, by omega, by omega, by omega, by omega, by omega, by omega, (Or.inr ⟨by omega, by first | (exfalso; omega) | (unfold gs_new; (repeat first | rw [if_pos (by omega)] | rw [if_neg (by omega)]); exact ⟨by omega, by omega, ⟨(((g70 0 4 rfl).trans (g26 0 4 rfl)).trans (g6 0 4 rfl)), fun j => (((k70 4 j rfl).trans (k26 4 j rfl)).trans (k6 4 j rfl))⟩⟩)⟩)⟩⟩
    · refine gv_run 2 true hD (pc' := 32) (lv' := [(1, .inr (.inl (J8 0 75))), (0, .inr (.inr (some 0)))]) (st' := [.inl 4, .inr (.inr (some 0))]) (h' := gr_h I7 J8) (C := ((True ∧ True) ∧ True)) rfl ⟨⟨trivial, trivial⟩, trivial⟩ ?_
      obtain ⟨r100, h100, E100, P100⟩ := r_no__p (ws0 := ws0) (tb := tb) hws htb ext β N9 p9 I7 J8 hI7 4 ⟨by omega, by omega⟩ A19 (by omega)
      obtain ⟨I101, J102, rfl, hI101, g100, k100, ⟨z100, rfl, q100⟩⟩ := P100
      have FI101 := gr_frt FI7 g100 rfl rfl
      have FJ102 := gr_fjt FJ8 k100 rfl rfl
      have t103 := g100 0 71 rfl
      have t104 := g100 0 72 rfl
      have t105 := g100 0 73 rfl
      have t106 := g100 0 69 rfl
      have t107 := g100 0 4 rfl
      have f108 := (show 0 ≤ I101 0 71 ∧ I101 0 71 ≤ 5 from (hI101 0 71).1)
      have f109 := (show 0 ≤ I101 0 72 ∧ I101 0 72 ≤ 1000 from (hI101 0 72).1)
      have f110 := (show 0 ≤ I101 0 73 ∧ I101 0 73 ≤ 1001 from (hI101 0 73).1)
      have f111 := (show 0 ≤ I101 0 69 ∧ I101 0 69 ≤ 1000 from (hI101 0 69).1)
      have f112 := (show 0 ≤ I101 0 4 ∧ I101 0 4 ≤ 8 from (hI101 0 4).1)
      have A113 := gr_ATp_F A19 g100 k100 rfl
      have t114 := gr_ATp_l A113
      refine gv_callV hD rfl (As := [.inl 4]) (st := []) rfl (by decide) rfl rfl (gr_lV hws rfl) (Nat.le_of_ble_eq_true rfl) (gz_Ev_mono (d := 2) (by decide) E100) ?_
      show gv_X _ _ (35, [(1, .inr (.inl (J8 0 75))), (0, .inr (.inr (some 0)))], [.inl z100], gr_sh ++ ext, gr_h I101 J102)
      exact gv_zret hD rfl (by omega) ⟨I101, J102, rfl, hI101, FI101, FJ102, ⟨_, rfl, by omega, by omega, by omega, by omega, by omega, by omega, by omega, by omega, by omega, by omega, (Or.inr ⟨by omega, by first | (exfalso; omega) | (unfold gs_new; (repeat first | rw [if_pos (by omega)] | rw [if_neg (by omega)]); exact ⟨by omega, by omega, ⟨((g100 0 4 rfl).trans (g6 0 4 rfl)), fun j => ((k100 4 j rfl).trans (k6 4 j rfl))⟩⟩)⟩)⟩⟩
  · refine gv_run 1 true hD (pc' := 8) (lv' := [(0, .inr (.inr (some 0)))]) (st' := [.inl 0]) (h' := gr_h I7 J8) (C := (True ∧ True)) rfl ⟨trivial, trivial⟩ ?_
    exact gv_zret hD rfl (by omega) ⟨I7, J8, rfl, hI7, FI7, FJ8, ⟨_, rfl, by omega, by omega, by omega, by omega, by omega, by omega, by omega, by omega, by omega, by omega, (Or.inr ⟨by omega, by first | (exfalso; omega) | (unfold gs_new; (repeat first | rw [if_pos (by omega)] | rw [if_neg (by omega)]); exact ⟨by omega, by omega, ⟨(g6 0 4 rfl), fun j => (k6 4 j rfl)⟩⟩)⟩)⟩⟩
