set_option maxHeartbeats 4000000 in
set_option maxRecDepth 100000 in
theorem d_X12_mend_c {ws0 : List Cond} {tb : String → gz_T} (hws : gc_Ws ws0) (htb : gc_tbs tb) (sh : gz_Sh) (ro : Nat → Nat) (I : gr_I) (J : gr_J) (A : gc_A) (hI : gc_Inv ro I) (a1 : Int) (a2 : Int) (a3 : Nat) (a4 : Int) (a5 : Nat) (a6 : Int) (a7 : Int) (a8 : Int) (a9 : Int) (hb : gc_Base sh ro A) (h_a3 : gc_isTongue sh ro A a3) (G_a3 : 144 ≤ a3) (h_a5 : gc_isText sh ro A a5) (ha1 : 0 ≤ a1 ∧ a1 ≤ 7) (ha2 : 0 ≤ a2 ∧ a2 ≤ 31) (ha4 : 0 ≤ a4 ∧ a4 ≤ 1) (ha6 : 0 ≤ a6 ∧ a6 ≤ 32767) (ha7 : (-1) ≤ a7 ∧ a7 ≤ 1) (ha8 : 0 ≤ a8 ∧ a8 ≤ 1000) (ha9 : 0 ≤ a9 ∧ a9 ≤ 1000)  {Q : gz_S → Prop} (L177 : ((0 ≤ a1 ∧ a1 ≤ 7) ∧ (0 ≤ a2 ∧ a2 ≤ 31) ∧ (0 ≤ a4 ∧ a4 ≤ 1) ∧ (0 ≤ a6 ∧ a6 ≤ 32767) ∧ (0 ≤ a7 ∧ a7 ≤ 0) ∧ (1 ≤ a8 ∧ a8 ≤ 1000) ∧ (0 ≤ a9 ∧ a9 ≤ 999) ∧ (a2 = a2) ∧ (a6 = a6) ∧ (a7 = a7) ∧ (a8 = a8) ∧ (a9 = a9) ∧ (a9 < a8) ∧ (a7 = 0)) → gv_X (gc_E12 ws0 tb 97 (yX12_mend, cX12_mend, 10, (some .int)) kX12_mend) Q (177, [(0, .inr (.inr (some 0))), (1, .inl a1), (2, .inl a2), (3, .inr (.inr (some a3))), (4, .inl a4), (5, .inr (.inr (some a5))), (6, .inl a6), (7, .inl a7), (8, .inl a8), (9, .inl a9)], [], sh, gc_h sh I J A)) (L242 : ((0 ≤ a1 ∧ a1 ≤ 7) ∧ (0 ≤ a2 ∧ a2 ≤ 31) ∧ (0 ≤ a4 ∧ a4 ≤ 1) ∧ (0 ≤ a6 ∧ a6 ≤ 32767) ∧ ((-1) ≤ a7 ∧ a7 ≤ 1) ∧ (0 ≤ a8 ∧ a8 ≤ 1000) ∧ (0 ≤ a9 ∧ a9 ≤ 1000) ∧ (a6 = a6) ∧ (a7 = a7)) → gv_X (gc_E12 ws0 tb 97 (yX12_mend, cX12_mend, 10, (some .int)) kX12_mend) Q (242, [(0, .inr (.inr (some 0))), (1, .inl a1), (2, .inl a2), (3, .inr (.inr (some a3))), (4, .inl a4), (5, .inr (.inr (some a5))), (6, .inl a6), (7, .inl a7), (8, .inl a8), (9, .inl a9)], [], sh, gc_h sh I J A)) : gv_X (gc_E12 ws0 tb 97 (yX12_mend, cX12_mend, 10, (some .int)) kX12_mend) Q (165, [(0, .inr (.inr (some 0))), (1, .inl a1), (2, .inl a2), (3, .inr (.inr (some a3))), (4, .inl a4), (5, .inr (.inr (some a5))), (6, .inl a6), (7, .inl a7), (8, .inl a8), (9, .inl a9)], [], sh, gc_h sh I J A) := by
  obtain ⟨S_a3, R_a3, B_a3, A_a3_0, h_a3_1, A_a3_1, h_a3_3, A_a3_2, S_a3_5, R_a3_5, B_a3_5, A_a3_3, S_a3_6, R_a3_6, B_a3_6, A_a3_4, h_a3_7, A_a3_5, S_a3_9, R_a3_9, B_a3_9, A_a3_7, S_a3_10, R_a3_10, B_a3_10, A_a3_8, h_a3_11, A_a3_9, S_a3_13, R_a3_13, B_a3_13, A_a3_10, S_a3_14, R_a3_14, B_a3_14, A_a3_12, S_a3_15, R_a3_15, B_a3_15, A_a3_14, S_a3_16, R_a3_16, B_a3_16, A_a3_15, h_a3_17⟩ := id h_a3
  obtain ⟨S_a3_1, R_a3_1, B_a3_1, A_a3_1_0, S_a3_1_1, R_a3_1_1, B_a3_1_1, Q0_a3_1, Q1_a3_1, Q2_a3_1⟩ := id h_a3_1
  obtain ⟨S_a3_3, R_a3_3, B_a3_3, A_a3_3_0, S_a3_3_1, R_a3_3_1, B_a3_3_1, Q0_a3_3, Q1_a3_3, Q2_a3_3⟩ := id h_a3_3
  obtain ⟨S_a3_7, R_a3_7, B_a3_7, A_a3_7_0, S_a3_7_1, R_a3_7_1, B_a3_7_1, Q0_a3_7, Q1_a3_7, Q2_a3_7⟩ := id h_a3_7
  obtain ⟨S_a3_11, R_a3_11, B_a3_11, A_a3_11_0, S_a3_11_1, R_a3_11_1, B_a3_11_1, Q0_a3_11, Q1_a3_11, Q2_a3_11⟩ := id h_a3_11
  obtain ⟨S_a3_17, R_a3_17, B_a3_17, A_a3_17_0, S_20, R_20, B_20, A_a3_17_1, S_a3_17_1, R_a3_17_1, B_a3_17_1, A_a3_17_2, S_a3_17_2, R_a3_17_2, B_a3_17_2, A_a3_17_3, S_a3_17_3, R_a3_17_3, B_a3_17_3, A_a3_17_4, S_a3_17_4, R_a3_17_4, B_a3_17_4, A_a3_17_5, S_a3_17_5, R_a3_17_5, B_a3_17_5, S_a3_17_6, R_a3_17_6, B_a3_17_6, S_a3_17_7, R_a3_17_7, B_a3_17_7⟩ := id h_a3_17
  obtain ⟨S_a5, R_a5, B_a5, A_a5_0, S_a5_1, R_a5_1, B_a5_1, A_a5_2, S_a5_2, R_a5_2, B_a5_2, A_a5_3, S_a5_3, R_a5_3, B_a5_3⟩ := id h_a5
  have hD : gv_D (gc_E12 ws0 tb 97 (yX12_mend, cX12_mend, 10, (some .int)) kX12_mend) := gq_ok oX12_mend
  refine gv_run 2 true hD (pc' := 169) (lv' := [(0, .inr (.inr (some 0))), (1, .inl a1), (2, .inl a2), (3, .inr (.inr (some a3))), (4, .inl a4), (5, .inr (.inr (some a5))), (6, .inl a6), (7, .inl a7), (8, .inl a8), (9, .inl a9)]) (st' := [.inl a8, .inl a9]) (h' := gc_h sh I J A) (C := ((True ∧ True) ∧ True)) rfl ⟨⟨trivial, trivial⟩, trivial⟩ ?_
  refine gv_icmp_ge (t := 242) hD rfl rfl ⟨⟨by omega, by omega⟩, ⟨by omega, by omega⟩⟩ (fun c3 => ?_) (fun c3 => ?_)
  · show gv_X _ _ (242, [(0, .inr (.inr (some 0))), (1, .inl a1), (2, .inl a2), (3, .inr (.inr (some a3))), (4, .inl a4), (5, .inr (.inr (some a5))), (6, .inl a6), (7, .inl a7), (8, .inl a8), (9, .inl a9)], [], sh, gc_h sh I J A)
    exact L242 (by omega)
  · show gv_X _ _ (172, [(0, .inr (.inr (some 0))), (1, .inl a1), (2, .inl a2), (3, .inr (.inr (some a3))), (4, .inl a4), (5, .inr (.inr (some a5))), (6, .inl a6), (7, .inl a7), (8, .inl a8), (9, .inl a9)], [], sh, gc_h sh I J A)
    refine gv_run 1 true hD (pc' := 174) (lv' := [(0, .inr (.inr (some 0))), (1, .inl a1), (2, .inl a2), (3, .inr (.inr (some a3))), (4, .inl a4), (5, .inr (.inr (some a5))), (6, .inl a6), (7, .inl a7), (8, .inl a8), (9, .inl a9)]) (st' := [.inl a7]) (h' := gc_h sh I J A) (C := (True ∧ True)) rfl ⟨trivial, trivial⟩ ?_
    refine gv_if_ne (t := 242) hD rfl rfl ⟨by omega, by omega⟩ (fun c4 => ?_) (fun c4 => ?_)
    · show gv_X _ _ (242, [(0, .inr (.inr (some 0))), (1, .inl a1), (2, .inl a2), (3, .inr (.inr (some a3))), (4, .inl a4), (5, .inr (.inr (some a5))), (6, .inl a6), (7, .inl a7), (8, .inl a8), (9, .inl a9)], [], sh, gc_h sh I J A)
      exact L242 (by omega)
    · show gv_X _ _ (177, [(0, .inr (.inr (some 0))), (1, .inl a1), (2, .inl a2), (3, .inr (.inr (some a3))), (4, .inl a4), (5, .inr (.inr (some a5))), (6, .inl a6), (7, .inl a7), (8, .inl a8), (9, .inl a9)], [], sh, gc_h sh I J A)
      exact L177 (by omega)
set_option maxHeartbeats 4000000 in
set_option maxRecDepth 100000 in
theorem d_X12_mend_e {ws0 : List Cond} {tb : String → gz_T} (hws : gc_Ws ws0) (htb : gc_tbs tb) (sh : gz_Sh) (ro : Nat → Nat) (I : gr_I) (J : gr_J) (A : gc_A) (hI : gc_Inv ro I) (a1 : Int) (a2 : Int) (a3 : Nat) (a4 : Int) (a5 : Nat) (a6 : Int) (a7 : Int) (a8 : Int) (a9 : Int) (hb : gc_Base sh ro A) (h_a3 : gc_isTongue sh ro A a3) (G_a3 : 144 ≤ a3) (h_a5 : gc_isText sh ro A a5) (ha1 : 0 ≤ a1 ∧ a1 ≤ 7) (ha2 : 0 ≤ a2 ∧ a2 ≤ 31) (ha4 : 0 ≤ a4 ∧ a4 ≤ 1) (ha6 : 0 ≤ a6 ∧ a6 ≤ 32767) (ha7 : (-1) ≤ a7 ∧ a7 ≤ 1) (ha8 : 0 ≤ a8 ∧ a8 ≤ 1000) (ha9 : 0 ≤ a9 ∧ a9 ≤ 1000) (KFN_I : gc_FN I) (KFZ_I : gc_FZ I)  : gv_X (gc_E12 ws0 tb 97 (yX12_mend, cX12_mend, 10, (some .int)) kX12_mend) (gv_Q cX12_mend (some .int) sh (fun r h' => (∃ (I' : gr_I) (J' : gr_J), h' = gc_h sh I' J' A ∧ gc_Inv ro I' ∧ (∀ q j : Nat, ((q = 48 ∧ j = 3) ∨ (q = 48 ∧ j = 6) ∨ (q = 27 ∧ j = 1) ∨ q = 28 ∨ (q = 61 ∧ j = 2) ∨ (q = 61 ∧ j = 3) ∨ (q = 61 ∧ j = 4) ∨ q = 62) ∨ I' q j = I q j) ∧ (∀ q j : Nat, (False) ∨ J' q j = J q j) ∧ gc_FN I' ∧ gc_FZ I' ∧ (∃ z : Int, r = some (.inl z) ∧ (-1) ≤ z ∧ z ≤ 32767 ∧ (a7 ≤ 0 ∨ (I' 61 3 = 1 ∧ I' 61 2 = (a3 : Int) ∧ I' 61 4 = 0)) ∧ (0 < a7 ∨ (I' 61 3 = I 61 3 ∧ I' 61 15 = I 61 15 ∧ I' 61 2 = I 61 2)) ∧ (a7 ≤ 0 ∨ ∀ q j : Nat, 48 ≤ q → q ≤ 60 → I' q j = I q j))))) (242, [(0, .inr (.inr (some 0))), (1, .inl a1), (2, .inl a2), (3, .inr (.inr (some a3))), (4, .inl a4), (5, .inr (.inr (some a5))), (6, .inl a6), (7, .inl a7), (8, .inl a8), (9, .inl a9)], [], sh, gc_h sh I J A) := by
  have FI : ∀ q j : Nat, ((q = 48 ∧ j = 3) ∨ (q = 48 ∧ j = 6) ∨ (q = 27 ∧ j = 1) ∨ q = 28 ∨ (q = 61 ∧ j = 2) ∨ (q = 61 ∧ j = 3) ∨ (q = 61 ∧ j = 4) ∨ q = 62) ∨ I q j = I q j := fun _ _ => Or.inr rfl
  have FJ : ∀ q j : Nat, (False) ∨ J q j = J q j := fun _ _ => Or.inr rfl
  have A_0_2 : A 0 2 = some 27 := gc_bA hb rfl
  have A_0_6 : A 0 6 = some 48 := gc_bA hb rfl
  have A_0_7 : A 0 7 = some 61 := gc_bA hb rfl
  have B_0 : 0 < 1000000 := by decide
  have B_27 : 27 < 1000000 := by decide
  have B_48 : 48 < 1000000 := by decide
  have B_61 : 61 < 1000000 := by decide
  have R_48 : ro 48 = 49 := gc_bR hb (by decide) rfl
  have R_61 : ro 61 = 72 := gc_bR hb (by decide) rfl
  have S_0 : sh[0]? = some (false, 12, 17) := gc_bS hb rfl
  have S_27 : sh[27]? = some (false, 9, 10) := gc_bS hb rfl
  have S_48 : sh[48]? = some (false, 0, 22) := gc_bS hb rfl
  have S_61 : sh[61]? = some (false, 5, 19) := gc_bS hb rfl
  obtain ⟨S_a3, R_a3, B_a3, A_a3_0, h_a3_1, A_a3_1, h_a3_3, A_a3_2, S_a3_5, R_a3_5, B_a3_5, A_a3_3, S_a3_6, R_a3_6, B_a3_6, A_a3_4, h_a3_7, A_a3_5, S_a3_9, R_a3_9, B_a3_9, A_a3_7, S_a3_10, R_a3_10, B_a3_10, A_a3_8, h_a3_11, A_a3_9, S_a3_13, R_a3_13, B_a3_13, A_a3_10, S_a3_14, R_a3_14, B_a3_14, A_a3_12, S_a3_15, R_a3_15, B_a3_15, A_a3_14, S_a3_16, R_a3_16, B_a3_16, A_a3_15, h_a3_17⟩ := id h_a3
  obtain ⟨S_a3_1, R_a3_1, B_a3_1, A_a3_1_0, S_a3_1_1, R_a3_1_1, B_a3_1_1, Q0_a3_1, Q1_a3_1, Q2_a3_1⟩ := id h_a3_1
  obtain ⟨S_a3_3, R_a3_3, B_a3_3, A_a3_3_0, S_a3_3_1, R_a3_3_1, B_a3_3_1, Q0_a3_3, Q1_a3_3, Q2_a3_3⟩ := id h_a3_3
  obtain ⟨S_a3_7, R_a3_7, B_a3_7, A_a3_7_0, S_a3_7_1, R_a3_7_1, B_a3_7_1, Q0_a3_7, Q1_a3_7, Q2_a3_7⟩ := id h_a3_7
  obtain ⟨S_a3_11, R_a3_11, B_a3_11, A_a3_11_0, S_a3_11_1, R_a3_11_1, B_a3_11_1, Q0_a3_11, Q1_a3_11, Q2_a3_11⟩ := id h_a3_11
  obtain ⟨S_a3_17, R_a3_17, B_a3_17, A_a3_17_0, S_20, R_20, B_20, A_a3_17_1, S_a3_17_1, R_a3_17_1, B_a3_17_1, A_a3_17_2, S_a3_17_2, R_a3_17_2, B_a3_17_2, A_a3_17_3, S_a3_17_3, R_a3_17_3, B_a3_17_3, A_a3_17_4, S_a3_17_4, R_a3_17_4, B_a3_17_4, A_a3_17_5, S_a3_17_5, R_a3_17_5, B_a3_17_5, S_a3_17_6, R_a3_17_6, B_a3_17_6, S_a3_17_7, R_a3_17_7, B_a3_17_7⟩ := id h_a3_17
  obtain ⟨S_a5, R_a5, B_a5, A_a5_0, S_a5_1, R_a5_1, B_a5_1, A_a5_2, S_a5_2, R_a5_2, B_a5_2, A_a5_3, S_a5_3, R_a5_3, B_a5_3⟩ := id h_a5
  have hD : gv_D (gc_E12 ws0 tb 97 (yX12_mend, cX12_mend, 10, (some .int)) kX12_mend) := gq_ok oX12_mend
  have f1 := (show 0 ≤ I 61 3 ∧ I 61 3 ≤ 1 from gc_in hI R_61 rfl rfl)
  have f2 := (show 0 ≤ I 61 4 ∧ I 61 4 ≤ 1 from gc_in hI R_61 rfl rfl)
  have f3 := (show (-1) ≤ I 61 2 ∧ I 61 2 ≤ 999999 from gc_in hI R_61 rfl rfl)
  have f4 := (show 0 ≤ I 61 15 ∧ I 61 15 ≤ 16 from gc_in hI R_61 rfl rfl)
  have f5 := (show 0 ≤ I 48 6 ∧ I 48 6 ≤ 9000 from gc_in hI R_48 rfl rfl)
  refine gv_run 1 true hD (pc' := 244) (lv' := [(0, .inr (.inr (some 0))), (1, .inl a1), (2, .inl a2), (3, .inr (.inr (some a3))), (4, .inl a4), (5, .inr (.inr (some a5))), (6, .inl a6), (7, .inl a7), (8, .inl a8), (9, .inl a9)]) (st' := [.inl a7]) (h' := gc_h sh I J A) (C := (True ∧ True)) rfl ⟨trivial, trivial⟩ ?_
  refine gv_if_gt (t := 256) hD rfl rfl ⟨by omega, by omega⟩ (fun c6 => ?_) (fun c6 => ?_)
  · show gv_X _ _ (256, [(0, .inr (.inr (some 0))), (1, .inl a1), (2, .inl a2), (3, .inr (.inr (some a3))), (4, .inl a4), (5, .inr (.inr (some a5))), (6, .inl a6), (7, .inl a7), (8, .inl a8), (9, .inl a9)], [], sh, gc_h sh I J A)
    refine gv_run 1 true hD (pc' := 257) (lv' := [(0, .inr (.inr (some 0))), (1, .inl a1), (2, .inl a2), (3, .inr (.inr (some a3))), (4, .inl a4), (5, .inr (.inr (some a5))), (6, .inl a6), (7, .inl a7), (8, .inl a8), (9, .inl a9)]) (st' := [.inr (.inr (some 0))]) (h' := gc_h sh I J A) (C := (True ∧ True)) rfl ⟨trivial, trivial⟩ ?_
    refine gv_get hD rfl rfl S_0 ⟨by decide, B_0⟩ (gc_hA S_0 rfl A_0_2) ?_
    show gv_X _ _ (260, [(0, .inr (.inr (some 0))), (1, .inl a1), (2, .inl a2), (3, .inr (.inr (some a3))), (4, .inl a4), (5, .inr (.inr (some a5))), (6, .inl a6), (7, .inl a7), (8, .inl a8), (9, .inl a9)], [.inr (.inr (some 27))], sh, gc_h sh I J A)
    refine gv_run 1 true hD (pc' := 262) (lv' := [(0, .inr (.inr (some 0))), (1, .inl a1), (2, .inl a2), (3, .inr (.inr (some a3))), (4, .inl a4), (5, .inr (.inr (some a5))), (6, .inl a6), (7, .inl a7), (8, .inl a8), (9, .inl a9)]) (st' := [.inr (.inr (some a5)), .inr (.inr (some 27))]) (h' := gc_h sh I J A) (C := (True ∧ True)) rfl ⟨trivial, trivial⟩ ?_
    obtain ⟨r7, h7, E7, P7⟩ := d_X9_putWords (ws0 := ws0) (tb := tb) hws htb sh ro I J A hI 27 a5 (gc_b27 hb) h_a5    
    obtain ⟨I8, J9, rfl, hI8, g7, k7, rfl⟩ := P7
    have FI8 := gc_frc (W := fun q j => (q = 48 ∧ j = 3) ∨ (q = 48 ∧ j = 6) ∨ (q = 27 ∧ j = 1) ∨ q = 28 ∨ (q = 61 ∧ j = 2) ∨ (q = 61 ∧ j = 3) ∨ (q = 61 ∧ j = 4) ∨ q = 62) (V := fun q j => (q = 27 ∧ j = 1) ∨ q = 28) FI (fun q j h => (h.elim (fun h => (Or.inr (Or.inr (Or.inl h)))) (fun h => (Or.inr (Or.inr (Or.inr (Or.inl h))))))) g7
    have t10 := (g7 61 3).resolve_left (fun h => h.elim (fun h => absurd h.2 (by decide)) (fun h => absurd h (by decide)))
    have t11 := (g7 61 4).resolve_left (fun h => h.elim (fun h => absurd h.2 (by decide)) (fun h => absurd h (by decide)))
    have t12 := (g7 61 2).resolve_left (fun h => h.elim (fun h => absurd h.2 (by decide)) (fun h => absurd h (by decide)))
    have t13 := (g7 61 15).resolve_left (fun h => h.elim (fun h => absurd h.2 (by decide)) (fun h => absurd h (by decide)))
    have t14 := (g7 48 6).resolve_left (fun h => h.elim (fun h => absurd h.2 (by decide)) (fun h => absurd h (by decide)))
    obtain rfl : J = J9 := funext fun q => funext fun j => ((k7 q j).resolve_left id).symm
    have KFN_I8 := gc_FN_fr KFN_I (fun k => (g7 49 k).resolve_left (fun h => h.elim (fun h => absurd h.1 (by decide)) (fun h => absurd h (by decide)))) (fun k => (g7 50 k).resolve_left (fun h => h.elim (fun h => absurd h.1 (by decide)) (fun h => absurd h (by decide))))
    have KFZ_I8 := gc_FZ_fr KFZ_I ((g7 2 1).resolve_left (fun h => h.elim (fun h => absurd h.1 (by decide)) (fun h => absurd h (by decide)))) (fun k => (g7 49 k).resolve_left (fun h => h.elim (fun h => absurd h.1 (by decide)) (fun h => absurd h (by decide)))) (fun k => (g7 50 k).resolve_left (fun h => h.elim (fun h => absurd h.1 (by decide)) (fun h => absurd h (by decide))))
    refine gv_callV hD rfl (As := [.inr (.inr (some a5))]) (st := []) rfl B_27 S_27 rfl (gc_lV12 hws rfl) (Nat.le_of_ble_eq_true rfl) (gz_Ev_mono (d := 5) (by decide) E7) ?_
    show gv_X _ _ (265, [(0, .inr (.inr (some 0))), (1, .inl a1), (2, .inl a2), (3, .inr (.inr (some a3))), (4, .inl a4), (5, .inr (.inr (some a5))), (6, .inl a6), (7, .inl a7), (8, .inl a8), (9, .inl a9)], [], sh, gc_h sh I8 J A)
    refine gv_run 1 true hD (pc' := 266) (lv' := [(0, .inr (.inr (some 0))), (1, .inl a1), (2, .inl a2), (3, .inr (.inr (some a3))), (4, .inl a4), (5, .inr (.inr (some a5))), (6, .inl a6), (7, .inl a7), (8, .inl a8), (9, .inl a9)]) (st' := [.inr (.inr (some 0))]) (h' := gc_h sh I8 J A) (C := (True ∧ True)) rfl ⟨trivial, trivial⟩ ?_
    refine gv_get hD rfl rfl S_0 ⟨by decide, B_0⟩ (gc_hA S_0 rfl A_0_7) ?_
    show gv_X _ _ (269, [(0, .inr (.inr (some 0))), (1, .inl a1), (2, .inl a2), (3, .inr (.inr (some a3))), (4, .inl a4), (5, .inr (.inr (some a5))), (6, .inl a6), (7, .inl a7), (8, .inl a8), (9, .inl a9)], [.inr (.inr (some 61))], sh, gc_h sh I8 J A)
    refine gv_run 1 true hD (pc' := 270) (lv' := [(0, .inr (.inr (some 0))), (1, .inl a1), (2, .inl a2), (3, .inr (.inr (some a3))), (4, .inl a4), (5, .inr (.inr (some a5))), (6, .inl a6), (7, .inl a7), (8, .inl a8), (9, .inl a9)]) (st' := [.inr (.inr (some a3)), .inr (.inr (some 61))]) (h' := gc_h sh I8 J A) (C := (True ∧ True)) rfl ⟨trivial, trivial⟩ ?_
    obtain ⟨r15, h15, E15, P15⟩ := d_X5_open (ws0 := ws0) (tb := tb) hws htb sh ro I8 J A hI8  a3 hb h_a3 G_a3    
    obtain ⟨I16, J17, rfl, hI16, g15, k15, ⟨rfl, q15⟩⟩ := P15
    have FI16 := gc_frc (W := fun q j => (q = 48 ∧ j = 3) ∨ (q = 48 ∧ j = 6) ∨ (q = 27 ∧ j = 1) ∨ q = 28 ∨ (q = 61 ∧ j = 2) ∨ (q = 61 ∧ j = 3) ∨ (q = 61 ∧ j = 4) ∨ q = 62) (V := fun q j => (q = 61 ∧ j = 2) ∨ (q = 61 ∧ j = 3) ∨ (q = 61 ∧ j = 4) ∨ q = 62) FI8 (fun q j h => (h.elim (fun h => (Or.inr (Or.inr (Or.inr (Or.inr (Or.inl h)))))) (fun h => (h.elim (fun h => (Or.inr (Or.inr (Or.inr (Or.inr (Or.inr (Or.inl h))))))) (fun h => (h.elim (fun h => (Or.inr (Or.inr (Or.inr (Or.inr (Or.inr (Or.inr (Or.inl h)))))))) (fun h => (Or.inr (Or.inr (Or.inr (Or.inr (Or.inr (Or.inr (Or.inr h)))))))))))))) g15
    have t18 := (g15 61 15).resolve_left (fun h => h.elim (fun h => absurd h.2 (by decide)) (fun h => h.elim (fun h => absurd h.2 (by decide)) (fun h => h.elim (fun h => absurd h.2 (by decide)) (fun h => absurd h (by decide)))))
    have t19 := (g15 48 6).resolve_left (fun h => h.elim (fun h => absurd h.2 (by decide)) (fun h => h.elim (fun h => absurd h.2 (by decide)) (fun h => h.elim (fun h => absurd h.2 (by decide)) (fun h => absurd h (by decide)))))
    have f20 := (show 0 ≤ I16 61 3 ∧ I16 61 3 ≤ 1 from gc_in hI16 R_61 rfl rfl)
    have f21 := (show 0 ≤ I16 61 4 ∧ I16 61 4 ≤ 1 from gc_in hI16 R_61 rfl rfl)
    have f22 := (show (-1) ≤ I16 61 2 ∧ I16 61 2 ≤ 999999 from gc_in hI16 R_61 rfl rfl)
    obtain rfl : J = J17 := funext fun q => funext fun j => ((k15 q j).resolve_left id).symm
    have KFN_I16 := gc_FN_fr KFN_I8 (fun k => (g15 49 k).resolve_left (fun h => h.elim (fun h => absurd h.1 (by decide)) (fun h => h.elim (fun h => absurd h.1 (by decide)) (fun h => h.elim (fun h => absurd h.1 (by decide)) (fun h => absurd h (by decide)))))) (fun k => (g15 50 k).resolve_left (fun h => h.elim (fun h => absurd h.1 (by decide)) (fun h => h.elim (fun h => absurd h.1 (by decide)) (fun h => h.elim (fun h => absurd h.1 (by decide)) (fun h => absurd h (by decide))))))
    have KFZ_I16 := gc_FZ_fr KFZ_I8 ((g15 2 1).resolve_left (fun h => h.elim (fun h => absurd h.2 (by decide)) (fun h => h.elim (fun h => absurd h.2 (by decide)) (fun h => h.elim (fun h => absurd h.2 (by decide)) (fun h => absurd h (by decide)))))) (fun k => (g15 49 k).resolve_left (fun h => h.elim (fun h => absurd h.1 (by decide)) (fun h => h.elim (fun h => absurd h.1 (by decide)) (fun h => h.elim (fun h => absurd h.1 (by decide)) (fun h => absurd h (by decide)))))) (fun k => (g15 50 k).resolve_left (fun h => h.elim (fun h => absurd h.1 (by decide)) (fun h => h.elim (fun h => absurd h.1 (by decide)) (fun h => h.elim (fun h => absurd h.1 (by decide)) (fun h => absurd h (by decide))))))
    refine gv_callV hD rfl (As := [.inr (.inr (some a3))]) (st := []) rfl B_61 S_61 rfl (gc_lV12 hws rfl) (Nat.le_of_ble_eq_true rfl) (gz_Ev_mono (d := 1) (by decide) E15) ?_
    show gv_X _ _ (273, [(0, .inr (.inr (some 0))), (1, .inl a1), (2, .inl a2), (3, .inr (.inr (some a3))), (4, .inl a4), (5, .inr (.inr (some a5))), (6, .inl a6), (7, .inl a7), (8, .inl a8), (9, .inl a9)], [], sh, gc_h sh I16 J A)
    refine gv_run 1 true hD (pc' := 275) (lv' := [(0, .inr (.inr (some 0))), (1, .inl a1), (2, .inl a2), (3, .inr (.inr (some a3))), (4, .inl a4), (5, .inr (.inr (some a5))), (6, .inl a6), (7, .inl a7), (8, .inl a8), (9, .inl a9)]) (st' := [.inl a6]) (h' := gc_h sh I16 J A) (C := (True ∧ True)) rfl ⟨trivial, trivial⟩ ?_
    exact gv_iret hD rfl ⟨I16, J, rfl, hI16, FI16, FJ, KFN_I16, KFZ_I16, ⟨_, rfl, by omega, by omega, by omega, by omega, (Or.inr (fun q j h1 h2 => (((g15 q j).resolve_left (by omega)).trans ((g7 q j).resolve_left (by omega)))))⟩⟩
  · show gv_X _ _ (247, [(0, .inr (.inr (some 0))), (1, .inl a1), (2, .inl a2), (3, .inr (.inr (some a3))), (4, .inl a4), (5, .inr (.inr (some a5))), (6, .inl a6), (7, .inl a7), (8, .inl a8), (9, .inl a9)], [], sh, gc_h sh I J A)
    refine gv_run 1 true hD (pc' := 248) (lv' := [(0, .inr (.inr (some 0))), (1, .inl a1), (2, .inl a2), (3, .inr (.inr (some a3))), (4, .inl a4), (5, .inr (.inr (some a5))), (6, .inl a6), (7, .inl a7), (8, .inl a8), (9, .inl a9)]) (st' := [.inr (.inr (some 0))]) (h' := gc_h sh I J A) (C := (True ∧ True)) rfl ⟨trivial, trivial⟩ ?_
    refine gv_get hD rfl rfl S_0 ⟨by decide, B_0⟩ (gc_hA S_0 rfl A_0_6) ?_
    show gv_X _ _ (251, [(0, .inr (.inr (some 0))), (1, .inl a1), (2, .inl a2), (3, .inr (.inr (some a3))), (4, .inl a4), (5, .inr (.inr (some a5))), (6, .inl a6), (7, .inl a7), (8, .inl a8), (9, .inl a9)], [.inr (.inr (some 48))], sh, gc_h sh I J A)
    obtain ⟨r23, h23, E23, P23⟩ := d_X0_forget (ws0 := ws0) (tb := tb) hws htb sh ro I J A hI   hb     
    obtain ⟨I24, J25, rfl, hI24, g23, k23, ⟨rfl, q23⟩⟩ := P23
    have FI24 := gc_frc (W := fun q j => (q = 48 ∧ j = 3) ∨ (q = 48 ∧ j = 6) ∨ (q = 27 ∧ j = 1) ∨ q = 28 ∨ (q = 61 ∧ j = 2) ∨ (q = 61 ∧ j = 3) ∨ (q = 61 ∧ j = 4) ∨ q = 62) (V := fun q j => (q = 48 ∧ j = 3) ∨ (q = 48 ∧ j = 6)) FI (fun q j h => (h.elim (fun h => (Or.inl h)) (fun h => (Or.inr (Or.inl h))))) g23
    have t26 := (g23 61 3).resolve_left (fun h => h.elim (fun h => absurd h.1 (by decide)) (fun h => absurd h.2 (by decide)))
    have t27 := (g23 61 4).resolve_left (fun h => h.elim (fun h => absurd h.2 (by decide)) (fun h => absurd h.2 (by decide)))
    have t28 := (g23 61 2).resolve_left (fun h => h.elim (fun h => absurd h.2 (by decide)) (fun h => absurd h.2 (by decide)))
    have t29 := (g23 61 15).resolve_left (fun h => h.elim (fun h => absurd h.2 (by decide)) (fun h => absurd h.2 (by decide)))
    have f30 := (show 0 ≤ I24 48 6 ∧ I24 48 6 ≤ 9000 from gc_in hI24 R_48 rfl rfl)
    obtain rfl : J = J25 := funext fun q => funext fun j => ((k23 q j).resolve_left id).symm
    have KFN_I24 := gc_FN_fr KFN_I (fun k => (g23 49 k).resolve_left (fun h => h.elim (fun h => absurd h.1 (by decide)) (fun h => absurd h.1 (by decide)))) (fun k => (g23 50 k).resolve_left (fun h => h.elim (fun h => absurd h.1 (by decide)) (fun h => absurd h.1 (by decide))))
    have KFZ_I24 := gc_FZ_fr KFZ_I ((g23 2 1).resolve_left (fun h => h.elim (fun h => absurd h.2 (by decide)) (fun h => absurd h.2 (by decide)))) (fun k => (g23 49 k).resolve_left (fun h => h.elim (fun h => absurd h.1 (by decide)) (fun h => absurd h.1 (by decide)))) (fun k => (g23 50 k).resolve_left (fun h => h.elim (fun h => absurd h.1 (by decide)) (fun h => absurd h.1 (by decide))))
    refine gv_callV hD rfl (As := []) (st := []) rfl B_48 S_48 rfl (gc_lV12 hws rfl) (Nat.le_of_ble_eq_true rfl) (gz_Ev_mono (d := 1) (by decide) E23) ?_
    show gv_X _ _ (254, [(0, .inr (.inr (some 0))), (1, .inl a1), (2, .inl a2), (3, .inr (.inr (some a3))), (4, .inl a4), (5, .inr (.inr (some a5))), (6, .inl a6), (7, .inl a7), (8, .inl a8), (9, .inl a9)], [], sh, gc_h sh I24 J A)
    refine gv_run 1 true hD (pc' := 255) (lv' := [(0, .inr (.inr (some 0))), (1, .inl a1), (2, .inl a2), (3, .inr (.inr (some a3))), (4, .inl a4), (5, .inr (.inr (some a5))), (6, .inl a6), (7, .inl a7), (8, .inl a8), (9, .inl a9)]) (st' := [.inl (-1)]) (h' := gc_h sh I24 J A) (C := (True ∧ True)) rfl ⟨trivial, trivial⟩ ?_
    exact gv_iret hD rfl ⟨I24, J, rfl, hI24, FI24, FJ, KFN_I24, KFZ_I24, ⟨_, rfl, by omega, by omega, by omega, by omega, (Or.inl (by omega))⟩⟩
