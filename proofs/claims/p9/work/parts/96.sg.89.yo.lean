set_option maxHeartbeats 8000000 in
set_option maxRecDepth 100000 in
theorem d_X12_mend_c {ws0 : List Cond} {tb : String → gz_T} (hws : gc_Ws ws0) (htb : gc_tbs tb) (sh : gz_Sh) (ro : Nat → Nat) (I : gr_I) (J : gr_J) (A : gc_A) (hI : gc_Inv ro I) (a1 : Int) (a2 : Int) (a3 : Nat) (a4 : Int) (a5 : Nat) (a6 : Int) (a7 : Int) (a8 : Int) (a9 : Int) (hb : gc_Base sh ro A) (h_a3 : gc_isTongue sh ro A a3) (G_a3 : 144 ≤ a3) (h_a5 : gc_isText sh ro A a5) (ha1 : 0 ≤ a1 ∧ a1 ≤ 7) (ha2 : 0 ≤ a2 ∧ a2 ≤ 31) (ha4 : 0 ≤ a4 ∧ a4 ≤ 1) (ha6 : 0 ≤ a6 ∧ a6 ≤ 32767) (ha7 : (-1) ≤ a7 ∧ a7 ≤ 1) (ha8 : 0 ≤ a8 ∧ a8 ≤ 1000) (ha9 : 0 ≤ a9 ∧ a9 ≤ 1000)  {Q : gz_S → Prop} (L177 : ((0 ≤ a1 ∧ a1 ≤ 7) ∧ (0 ≤ a2 ∧ a2 ≤ 31) ∧ (0 ≤ a4 ∧ a4 ≤ 1) ∧ (0 ≤ a6 ∧ a6 ≤ 32767) ∧ (0 ≤ a7 ∧ a7 ≤ 0) ∧ (1 ≤ a8 ∧ a8 ≤ 1000) ∧ (0 ≤ a9 ∧ a9 ≤ 999) ∧ (a2 = a2) ∧ (a6 = a6) ∧ (a7 = a7) ∧ (a8 = a8) ∧ (a9 = a9) ∧ (a9 < a8) ∧ (a7 = 0)) → gv_X (gc_E12 ws0 tb 97 (yX12_mend, cX12_mend, 10, (some .int)) kX12_mend) Q (177, [(0, .inr (.inr (some 0))), (1, .inl a1), (2, .inl a2), (3, .inr (.inr (some a3))), (4, .inl a4), (5, .inr (.inr (some a5))), (6, .inl a6), (7, .inl a7), (8, .inl a8), (9, .inl a9)], [], sh, gc_h sh I J A)) (L242 : ((0 ≤ a1 ∧ a1 ≤ 7) ∧ (0 ≤ a2 ∧ a2 ≤ 31) ∧ (0 ≤ a4 ∧ a4 ≤ 1) ∧ (0 ≤ a6 ∧ a6 ≤ 32767) ∧ ((-1) ≤ a7 ∧ a7 ≤ 1) ∧ (0 ≤ a8 ∧ a8 ≤ 1000) ∧ (0 ≤ a9 ∧ a9 ≤ 1000) ∧ (a6 = a6) ∧ (a7 = a7)) → gv_X (gc_E12 ws0 tb 97 (yX12_mend, cX12_mend, 10, (some .int)) kX12_mend) Q (242, [(0, .inr (.inr (some 0))), (1, .inl a1), (2, .inl a2), (3, .inr (.inr (some a3))), (4, .inl a4), (5, .inr (.inr (some a5))), (6, .inl a6), (7, .inl a7), (8, .inl a8), (9, .inl a9)], [], sh, gc_h sh I J A)) : gv_X (gc_E12 ws0 tb 97 (yX12_mend, cX12_mend, 10, (some .int)) kX12_mend) Q (165, [(0, .inr (.inr (some 0))), (1, .inl a1), (2, .inl a2), (3, .inr (.inr (some a3))), (4, .inl a4), (5, .inr (.inr (some a5))), (6, .inl a6), (7, .inl a7), (8, .inl a8), (9, .inl a9)], [], sh, gc_h sh I J A) := by
  obtain ⟨S_a3, R_a3, B_a3, A_a3_0, h_a3_1, A_a3_1, h_a3_3, A_a3_2, S_a3_5, R_a3_5, B_a3_5, A_a3_3, S_a3_6, R_a3_6, B_a3_6, A_a3_4, h_a3_7, A_a3_5, S_a3_9, R_a3_9, B_a3_9, A_a3_7, S_a3_10, R_a3_10, B_a3_10, A_a3_8, h_a3_11, A_a3_9, S_a3_13, R_a3_13, B_a3_13, A_a3_10, S_a3_14, R_a3_14, B_a3_14, A_a3_12, S_a3_15, R_a3_15, B_a3_15, A_a3_14, S_a3_16, R_a3_16, B_a3_16, A_a3_15, h_a3_17⟩ := id h_a3
  replace R_a3 := gz_hi R_a3
  replace B_a3 := gz_hi B_a3
  replace R_a3_5 := gz_hi R_a3_5
  replace B_a3_5 := gz_hi B_a3_5
  replace R_a3_6 := gz_hi R_a3_6
  replace B_a3_6 := gz_hi B_a3_6
  replace R_a3_9 := gz_hi R_a3_9
  replace B_a3_9 := gz_hi B_a3_9
  replace R_a3_10 := gz_hi R_a3_10
  replace B_a3_10 := gz_hi B_a3_10
  replace R_a3_13 := gz_hi R_a3_13
  replace B_a3_13 := gz_hi B_a3_13
  replace R_a3_14 := gz_hi R_a3_14
  replace B_a3_14 := gz_hi B_a3_14
  replace R_a3_15 := gz_hi R_a3_15
  replace B_a3_15 := gz_hi B_a3_15
  replace R_a3_16 := gz_hi R_a3_16
  replace B_a3_16 := gz_hi B_a3_16
  obtain ⟨S_a3_1, R_a3_1, B_a3_1, A_a3_1_0, S_a3_1_1, R_a3_1_1, B_a3_1_1, Q0_a3_1, Q1_a3_1, Q2_a3_1⟩ := id h_a3_1
  replace R_a3_1 := gz_hi R_a3_1
  replace B_a3_1 := gz_hi B_a3_1
  replace R_a3_1_1 := gz_hi R_a3_1_1
  replace B_a3_1_1 := gz_hi B_a3_1_1
  obtain ⟨S_a3_3, R_a3_3, B_a3_3, A_a3_3_0, S_a3_3_1, R_a3_3_1, B_a3_3_1, Q0_a3_3, Q1_a3_3, Q2_a3_3⟩ := id h_a3_3
  replace R_a3_3 := gz_hi R_a3_3
  replace B_a3_3 := gz_hi B_a3_3
  replace R_a3_3_1 := gz_hi R_a3_3_1
  replace B_a3_3_1 := gz_hi B_a3_3_1
  obtain ⟨S_a3_7, R_a3_7, B_a3_7, A_a3_7_0, S_a3_7_1, R_a3_7_1, B_a3_7_1, Q0_a3_7, Q1_a3_7, Q2_a3_7⟩ := id h_a3_7
  replace R_a3_7 := gz_hi R_a3_7
  replace B_a3_7 := gz_hi B_a3_7
  replace R_a3_7_1 := gz_hi R_a3_7_1
  replace B_a3_7_1 := gz_hi B_a3_7_1
  obtain ⟨S_a3_11, R_a3_11, B_a3_11, A_a3_11_0, S_a3_11_1, R_a3_11_1, B_a3_11_1, Q0_a3_11, Q1_a3_11, Q2_a3_11⟩ := id h_a3_11
  replace R_a3_11 := gz_hi R_a3_11
  replace B_a3_11 := gz_hi B_a3_11
  replace R_a3_11_1 := gz_hi R_a3_11_1
  replace B_a3_11_1 := gz_hi B_a3_11_1
  obtain ⟨S_a3_17, R_a3_17, B_a3_17, A_a3_17_0, S_20, R_20, B_20, A_a3_17_1, S_a3_17_1, R_a3_17_1, B_a3_17_1, A_a3_17_2, S_a3_17_2, R_a3_17_2, B_a3_17_2, A_a3_17_3, S_a3_17_3, R_a3_17_3, B_a3_17_3, A_a3_17_4, S_a3_17_4, R_a3_17_4, B_a3_17_4, A_a3_17_5, S_a3_17_5, R_a3_17_5, B_a3_17_5, S_a3_17_6, R_a3_17_6, B_a3_17_6, S_a3_17_7, R_a3_17_7, B_a3_17_7⟩ := id h_a3_17
  replace R_a3_17 := gz_hi R_a3_17
  replace B_a3_17 := gz_hi B_a3_17
  replace R_20 := gz_hi R_20
  replace B_20 := gz_hi B_20
  replace R_a3_17_1 := gz_hi R_a3_17_1
  replace B_a3_17_1 := gz_hi B_a3_17_1
  replace R_a3_17_2 := gz_hi R_a3_17_2
  replace B_a3_17_2 := gz_hi B_a3_17_2
  replace R_a3_17_3 := gz_hi R_a3_17_3
  replace B_a3_17_3 := gz_hi B_a3_17_3
  replace R_a3_17_4 := gz_hi R_a3_17_4
  replace B_a3_17_4 := gz_hi B_a3_17_4
  replace R_a3_17_5 := gz_hi R_a3_17_5
  replace B_a3_17_5 := gz_hi B_a3_17_5
  replace R_a3_17_6 := gz_hi R_a3_17_6
  replace B_a3_17_6 := gz_hi B_a3_17_6
  replace R_a3_17_7 := gz_hi R_a3_17_7
  replace B_a3_17_7 := gz_hi B_a3_17_7
  obtain ⟨S_a5, R_a5, B_a5, A_a5_0, S_a5_1, R_a5_1, B_a5_1, A_a5_2, S_a5_2, R_a5_2, B_a5_2, A_a5_3, S_a5_3, R_a5_3, B_a5_3⟩ := id h_a5
  replace R_a5 := gz_hi R_a5
  replace B_a5 := gz_hi B_a5
  replace R_a5_1 := gz_hi R_a5_1
  replace B_a5_1 := gz_hi B_a5_1
  replace R_a5_2 := gz_hi R_a5_2
  replace B_a5_2 := gz_hi B_a5_2
  replace R_a5_3 := gz_hi R_a5_3
  replace B_a5_3 := gz_hi B_a5_3
  have hD : gv_D (gc_E12 ws0 tb 97 (yX12_mend, cX12_mend, 10, (some .int)) kX12_mend) := gq_of oX12_mend
  refine gv_run 2 true hD (pcₚ := 169) (lvₚ := [(0, .inr (.inr (some 0))), (1, .inl a1), (2, .inl a2), (3, .inr (.inr (some a3))), (4, .inl a4), (5, .inr (.inr (some a5))), (6, .inl a6), (7, .inl a7), (8, .inl a8), (9, .inl a9)]) (stₚ := [.inl a8, .inl a9]) (hₚ := gc_h sh I J A) (C := ((True ∧ True) ∧ True)) rfl ⟨⟨trivial, trivial⟩, trivial⟩ ?_
  refine gv_icmp_ge (t := 242) hD rfl rfl ⟨⟨by (/-0-/first | omega | (simp only [gz_hd] at *; omega)), by (/-1-/first | omega | (simp only [gz_hd] at *; omega))⟩, ⟨by (/-2-/first | omega | (simp only [gz_hd] at *; omega)), by (/-3-/first | omega | (simp only [gz_hd] at *; omega))⟩⟩ (fun c3 => ?_) (fun c3 => ?_)
  · show gv_X _ _ (242, [(0, .inr (.inr (some 0))), (1, .inl a1), (2, .inl a2), (3, .inr (.inr (some a3))), (4, .inl a4), (5, .inr (.inr (some a5))), (6, .inl a6), (7, .inl a7), (8, .inl a8), (9, .inl a9)], [], sh, gc_h sh I J A)
    exact L242 (by (/-4-/first | (and_intros <;> omega) | (simp only [gz_hd] at *; omega)))
  · show gv_X _ _ (172, [(0, .inr (.inr (some 0))), (1, .inl a1), (2, .inl a2), (3, .inr (.inr (some a3))), (4, .inl a4), (5, .inr (.inr (some a5))), (6, .inl a6), (7, .inl a7), (8, .inl a8), (9, .inl a9)], [], sh, gc_h sh I J A)
    refine gv_run 1 true hD (pcₚ := 174) (lvₚ := [(0, .inr (.inr (some 0))), (1, .inl a1), (2, .inl a2), (3, .inr (.inr (some a3))), (4, .inl a4), (5, .inr (.inr (some a5))), (6, .inl a6), (7, .inl a7), (8, .inl a8), (9, .inl a9)]) (stₚ := [.inl a7]) (hₚ := gc_h sh I J A) (C := (True ∧ True)) rfl ⟨trivial, trivial⟩ ?_
    refine gv_if_ne (t := 242) hD rfl rfl ⟨by (/-5-/first | omega | (simp only [gz_hd] at *; omega)), by (/-6-/first | omega | (simp only [gz_hd] at *; omega))⟩ (fun c4 => ?_) (fun c4 => ?_)
    · show gv_X _ _ (242, [(0, .inr (.inr (some 0))), (1, .inl a1), (2, .inl a2), (3, .inr (.inr (some a3))), (4, .inl a4), (5, .inr (.inr (some a5))), (6, .inl a6), (7, .inl a7), (8, .inl a8), (9, .inl a9)], [], sh, gc_h sh I J A)
      exact L242 (by (/-7-/first | (and_intros <;> omega) | (simp only [gz_hd] at *; omega)))
    · show gv_X _ _ (177, [(0, .inr (.inr (some 0))), (1, .inl a1), (2, .inl a2), (3, .inr (.inr (some a3))), (4, .inl a4), (5, .inr (.inr (some a5))), (6, .inl a6), (7, .inl a7), (8, .inl a8), (9, .inl a9)], [], sh, gc_h sh I J A)
      exact L177 (by (/-8-/first | (and_intros <;> omega) | (simp only [gz_hd] at *; omega)))
set_option maxHeartbeats 8000000 in
set_option maxRecDepth 100000 in
theorem d_X12_mend_e {ws0 : List Cond} {tb : String → gz_T} (hws : gc_Ws ws0) (htb : gc_tbs tb) (sh : gz_Sh) (ro : Nat → Nat) (I : gr_I) (J : gr_J) (A : gc_A) (hI : gc_Inv ro I) (a1 : Int) (a2 : Int) (a3 : Nat) (a4 : Int) (a5 : Nat) (a6 : Int) (a7 : Int) (a8 : Int) (a9 : Int) (hb : gc_Base sh ro A) (h_a3 : gc_isTongue sh ro A a3) (G_a3 : 144 ≤ a3) (h_a5 : gc_isText sh ro A a5) (ha1 : 0 ≤ a1 ∧ a1 ≤ 7) (ha2 : 0 ≤ a2 ∧ a2 ≤ 31) (ha4 : 0 ≤ a4 ∧ a4 ≤ 1) (ha6 : 0 ≤ a6 ∧ a6 ≤ 32767) (ha7 : (-1) ≤ a7 ∧ a7 ≤ 1) (ha8 : 0 ≤ a8 ∧ a8 ≤ 1000) (ha9 : 0 ≤ a9 ∧ a9 ≤ 1000) (KFN_I : gc_FN I) (KFZ_I : gc_FZ I)  : gv_X (gc_E12 ws0 tb 97 (yX12_mend, cX12_mend, 10, (some .int)) kX12_mend) (gv_Q cX12_mend (some .int) sh (fun r hₚ => (∃ (Iₚ : gr_I) (Jₚ : gr_J), hₚ = gc_h sh Iₚ Jₚ A ∧ gc_Inv ro Iₚ ∧ (∀ q j : Nat, ((q = 48 ∧ j = 3) ∨ (q = 48 ∧ j = 6) ∨ (q = 27 ∧ j = 1) ∨ q = 28 ∨ (q = 61 ∧ j = 2) ∨ (q = 61 ∧ j = 3) ∨ (q = 61 ∧ j = 4) ∨ q = 62) ∨ Iₚ q j = I q j) ∧ (∀ q j : Nat, (False) ∨ Jₚ q j = J q j) ∧ gc_FN Iₚ ∧ gc_FZ Iₚ ∧ (∃ z : Int, r = some (.inl z) ∧ (-1) ≤ z ∧ z ≤ 32767 ∧ (a7 ≤ 0 ∨ (Iₚ 61 3 = 1 ∧ Iₚ 61 2 = (a3 : Int) ∧ Iₚ 61 4 = 0)) ∧ (0 < a7 ∨ (Iₚ 61 3 = I 61 3 ∧ Iₚ 61 15 = I 61 15 ∧ Iₚ 61 2 = I 61 2)) ∧ (a7 ≤ 0 ∨ ∀ q j : Nat, 48 ≤ q → q ≤ 60 → Iₚ q j = I q j))))) (242, [(0, .inr (.inr (some 0))), (1, .inl a1), (2, .inl a2), (3, .inr (.inr (some a3))), (4, .inl a4), (5, .inr (.inr (some a5))), (6, .inl a6), (7, .inl a7), (8, .inl a8), (9, .inl a9)], [], sh, gc_h sh I J A) := by
  have FI : ∀ q j : Nat, ((q = 48 ∧ j = 3) ∨ (q = 48 ∧ j = 6) ∨ (q = 27 ∧ j = 1) ∨ q = 28 ∨ (q = 61 ∧ j = 2) ∨ (q = 61 ∧ j = 3) ∨ (q = 61 ∧ j = 4) ∨ q = 62) ∨ I q j = I q j := fun _ _ => Or.inr rfl
  have FJ : ∀ q j : Nat, (False) ∨ J q j = J q j := fun _ _ => Or.inr rfl
  have A_0_2 : A 0 2 = some 27 := gc_bA_0_2 hb
  have A_0_6 : A 0 6 = some 48 := gc_bA_0_6 hb
  have A_0_7 : A 0 7 = some 61 := gc_bA_0_7 hb
  have B_0 := gz_hi (show 0 < 1000000 from by decide)
  have B_27 := gz_hi (show 27 < 1000000 from by decide)
  have B_48 := gz_hi (show 48 < 1000000 from by decide)
  have B_61 := gz_hi (show 61 < 1000000 from by decide)
  have R_48 := gz_hi (show ro 48 = 49 from gc_bR_48 hb)
  have R_61 := gz_hi (show ro 61 = 72 from gc_bR_61 hb)
  have S_0 : sh[0]? = some (false, 12, 17) := gc_bS_0 hb
  have S_27 : sh[27]? = some (false, 9, 10) := gc_bS_27 hb
  have S_48 : sh[48]? = some (false, 0, 22) := gc_bS_48 hb
  have S_61 : sh[61]? = some (false, 5, 19) := gc_bS_61 hb
  obtain ⟨S_a3, R_a3, B_a3, A_a3_0, h_a3_1, A_a3_1, h_a3_3, A_a3_2, S_a3_5, R_a3_5, B_a3_5, A_a3_3, S_a3_6, R_a3_6, B_a3_6, A_a3_4, h_a3_7, A_a3_5, S_a3_9, R_a3_9, B_a3_9, A_a3_7, S_a3_10, R_a3_10, B_a3_10, A_a3_8, h_a3_11, A_a3_9, S_a3_13, R_a3_13, B_a3_13, A_a3_10, S_a3_14, R_a3_14, B_a3_14, A_a3_12, S_a3_15, R_a3_15, B_a3_15, A_a3_14, S_a3_16, R_a3_16, B_a3_16, A_a3_15, h_a3_17⟩ := id h_a3
  replace R_a3 := gz_hi R_a3
  replace B_a3 := gz_hi B_a3
  replace R_a3_5 := gz_hi R_a3_5
  replace B_a3_5 := gz_hi B_a3_5
  replace R_a3_6 := gz_hi R_a3_6
  replace B_a3_6 := gz_hi B_a3_6
  replace R_a3_9 := gz_hi R_a3_9
  replace B_a3_9 := gz_hi B_a3_9
  replace R_a3_10 := gz_hi R_a3_10
  replace B_a3_10 := gz_hi B_a3_10
  replace R_a3_13 := gz_hi R_a3_13
  replace B_a3_13 := gz_hi B_a3_13
  replace R_a3_14 := gz_hi R_a3_14
  replace B_a3_14 := gz_hi B_a3_14
  replace R_a3_15 := gz_hi R_a3_15
  replace B_a3_15 := gz_hi B_a3_15
  replace R_a3_16 := gz_hi R_a3_16
  replace B_a3_16 := gz_hi B_a3_16
  obtain ⟨S_a3_1, R_a3_1, B_a3_1, A_a3_1_0, S_a3_1_1, R_a3_1_1, B_a3_1_1, Q0_a3_1, Q1_a3_1, Q2_a3_1⟩ := id h_a3_1
  replace R_a3_1 := gz_hi R_a3_1
  replace B_a3_1 := gz_hi B_a3_1
  replace R_a3_1_1 := gz_hi R_a3_1_1
  replace B_a3_1_1 := gz_hi B_a3_1_1
  obtain ⟨S_a3_3, R_a3_3, B_a3_3, A_a3_3_0, S_a3_3_1, R_a3_3_1, B_a3_3_1, Q0_a3_3, Q1_a3_3, Q2_a3_3⟩ := id h_a3_3
  replace R_a3_3 := gz_hi R_a3_3
  replace B_a3_3 := gz_hi B_a3_3
  replace R_a3_3_1 := gz_hi R_a3_3_1
  replace B_a3_3_1 := gz_hi B_a3_3_1
  obtain ⟨S_a3_7, R_a3_7, B_a3_7, A_a3_7_0, S_a3_7_1, R_a3_7_1, B_a3_7_1, Q0_a3_7, Q1_a3_7, Q2_a3_7⟩ := id h_a3_7
  replace R_a3_7 := gz_hi R_a3_7
  replace B_a3_7 := gz_hi B_a3_7
  replace R_a3_7_1 := gz_hi R_a3_7_1
  replace B_a3_7_1 := gz_hi B_a3_7_1
  obtain ⟨S_a3_11, R_a3_11, B_a3_11, A_a3_11_0, S_a3_11_1, R_a3_11_1, B_a3_11_1, Q0_a3_11, Q1_a3_11, Q2_a3_11⟩ := id h_a3_11
  replace R_a3_11 := gz_hi R_a3_11
  replace B_a3_11 := gz_hi B_a3_11
  replace R_a3_11_1 := gz_hi R_a3_11_1
  replace B_a3_11_1 := gz_hi B_a3_11_1
  obtain ⟨S_a3_17, R_a3_17, B_a3_17, A_a3_17_0, S_20, R_20, B_20, A_a3_17_1, S_a3_17_1, R_a3_17_1, B_a3_17_1, A_a3_17_2, S_a3_17_2, R_a3_17_2, B_a3_17_2, A_a3_17_3, S_a3_17_3, R_a3_17_3, B_a3_17_3, A_a3_17_4, S_a3_17_4, R_a3_17_4, B_a3_17_4, A_a3_17_5, S_a3_17_5, R_a3_17_5, B_a3_17_5, S_a3_17_6, R_a3_17_6, B_a3_17_6, S_a3_17_7, R_a3_17_7, B_a3_17_7⟩ := id h_a3_17
  replace R_a3_17 := gz_hi R_a3_17
  replace B_a3_17 := gz_hi B_a3_17
  replace R_20 := gz_hi R_20
  replace B_20 := gz_hi B_20
  replace R_a3_17_1 := gz_hi R_a3_17_1
  replace B_a3_17_1 := gz_hi B_a3_17_1
  replace R_a3_17_2 := gz_hi R_a3_17_2
  replace B_a3_17_2 := gz_hi B_a3_17_2
  replace R_a3_17_3 := gz_hi R_a3_17_3
  replace B_a3_17_3 := gz_hi B_a3_17_3
  replace R_a3_17_4 := gz_hi R_a3_17_4
  replace B_a3_17_4 := gz_hi B_a3_17_4
  replace R_a3_17_5 := gz_hi R_a3_17_5
  replace B_a3_17_5 := gz_hi B_a3_17_5
  replace R_a3_17_6 := gz_hi R_a3_17_6
  replace B_a3_17_6 := gz_hi B_a3_17_6
  replace R_a3_17_7 := gz_hi R_a3_17_7
  replace B_a3_17_7 := gz_hi B_a3_17_7
  obtain ⟨S_a5, R_a5, B_a5, A_a5_0, S_a5_1, R_a5_1, B_a5_1, A_a5_2, S_a5_2, R_a5_2, B_a5_2, A_a5_3, S_a5_3, R_a5_3, B_a5_3⟩ := id h_a5
  replace R_a5 := gz_hi R_a5
  replace B_a5 := gz_hi B_a5
  replace R_a5_1 := gz_hi R_a5_1
  replace B_a5_1 := gz_hi B_a5_1
  replace R_a5_2 := gz_hi R_a5_2
  replace B_a5_2 := gz_hi B_a5_2
  replace R_a5_3 := gz_hi R_a5_3
  replace B_a5_3 := gz_hi B_a5_3
  have hD : gv_D (gc_E12 ws0 tb 97 (yX12_mend, cX12_mend, 10, (some .int)) kX12_mend) := gq_of oX12_mend
  refine gv_run 1 true hD (pcₚ := 244) (lvₚ := [(0, .inr (.inr (some 0))), (1, .inl a1), (2, .inl a2), (3, .inr (.inr (some a3))), (4, .inl a4), (5, .inr (.inr (some a5))), (6, .inl a6), (7, .inl a7), (8, .inl a8), (9, .inl a9)]) (stₚ := [.inl a7]) (hₚ := gc_h sh I J A) (C := (True ∧ True)) rfl ⟨trivial, trivial⟩ ?_
  refine gv_if_gt (t := 256) hD rfl rfl ⟨by (/-0-/first | omega | (simp only [gz_hd] at *; omega)), by (/-1-/first | omega | (simp only [gz_hd] at *; omega))⟩ (fun c6 => ?_) (fun c6 => ?_)
  · show gv_X _ _ (256, [(0, .inr (.inr (some 0))), (1, .inl a1), (2, .inl a2), (3, .inr (.inr (some a3))), (4, .inl a4), (5, .inr (.inr (some a5))), (6, .inl a6), (7, .inl a7), (8, .inl a8), (9, .inl a9)], [], sh, gc_h sh I J A)
    refine gv_run 1 true hD (pcₚ := 257) (lvₚ := [(0, .inr (.inr (some 0))), (1, .inl a1), (2, .inl a2), (3, .inr (.inr (some a3))), (4, .inl a4), (5, .inr (.inr (some a5))), (6, .inl a6), (7, .inl a7), (8, .inl a8), (9, .inl a9)]) (stₚ := [.inr (.inr (some 0))]) (hₚ := gc_h sh I J A) (C := (True ∧ True)) rfl ⟨trivial, trivial⟩ ?_
    refine gv_get hD rfl rfl S_0 ⟨by decide, (gz_sh B_0)⟩ (gc_hA S_0 rfl A_0_2) ?_
    show gv_X _ _ (260, [(0, .inr (.inr (some 0))), (1, .inl a1), (2, .inl a2), (3, .inr (.inr (some a3))), (4, .inl a4), (5, .inr (.inr (some a5))), (6, .inl a6), (7, .inl a7), (8, .inl a8), (9, .inl a9)], [.inr (.inr (some 27))], sh, gc_h sh I J A)
    refine gv_run 1 true hD (pcₚ := 262) (lvₚ := [(0, .inr (.inr (some 0))), (1, .inl a1), (2, .inl a2), (3, .inr (.inr (some a3))), (4, .inl a4), (5, .inr (.inr (some a5))), (6, .inl a6), (7, .inl a7), (8, .inl a8), (9, .inl a9)]) (stₚ := [.inr (.inr (some a5)), .inr (.inr (some 27))]) (hₚ := gc_h sh I J A) (C := (True ∧ True)) rfl ⟨trivial, trivial⟩ ?_
    obtain ⟨r7, h7, E7, P7⟩ := d_X9_putWords (ws0 := ws0) (tb := tb) hws htb sh ro I J A hI 27 a5 (gc_b27 hb) h_a5    
    obtain ⟨I8, J9, rfl, hI8, g7, k7, rfl⟩ := P7
    have FI8 := gc_frc (W := fun q j => (q = 48 ∧ j = 3) ∨ (q = 48 ∧ j = 6) ∨ (q = 27 ∧ j = 1) ∨ q = 28 ∨ (q = 61 ∧ j = 2) ∨ (q = 61 ∧ j = 3) ∨ (q = 61 ∧ j = 4) ∨ q = 62) (V := fun q j => (q = 27 ∧ j = 1) ∨ q = 28) FI (fun q j h => (h.elim (fun h => (Or.inr (Or.inr (Or.inl h)))) (fun h => (Or.inr (Or.inr (Or.inr (Or.inl h))))))) g7
    obtain rfl : J = J9 := funext fun q => funext fun j => ((k7 q j).resolve_left id).symm
    have KFN_I8 := gc_FN_fr KFN_I (fun k => (g7 49 k).resolve_left (fun h => h.elim (fun h => absurd h.1 (by first | exact gz_ne rfl | decide)) (fun h => absurd h (by first | exact gz_ne rfl | decide)))) (fun k => (g7 50 k).resolve_left (fun h => h.elim (fun h => absurd h.1 (by first | exact gz_ne rfl | decide)) (fun h => absurd h (by first | exact gz_ne rfl | decide))))
    have KFZ_I8 := gc_FZ_fr KFZ_I ((g7 2 1).resolve_left (fun h => h.elim (fun h => absurd h.1 (by first | exact gz_ne rfl | decide)) (fun h => absurd h (by first | exact gz_ne rfl | decide)))) (fun k => (g7 49 k).resolve_left (fun h => h.elim (fun h => absurd h.1 (by first | exact gz_ne rfl | decide)) (fun h => absurd h (by first | exact gz_ne rfl | decide)))) (fun k => (g7 50 k).resolve_left (fun h => h.elim (fun h => absurd h.1 (by first | exact gz_ne rfl | decide)) (fun h => absurd h (by first | exact gz_ne rfl | decide))))
    refine gv_callV hD rfl (As := [.inr (.inr (some a5))]) (st := []) rfl (gz_sh B_27) S_27 rfl (gc_lV12 hws rfl) (Nat.le_of_ble_eq_true rfl) (gz_Ev_mono (d := 5) (by decide) E7) ?_
    show gv_X _ _ (265, [(0, .inr (.inr (some 0))), (1, .inl a1), (2, .inl a2), (3, .inr (.inr (some a3))), (4, .inl a4), (5, .inr (.inr (some a5))), (6, .inl a6), (7, .inl a7), (8, .inl a8), (9, .inl a9)], [], sh, gc_h sh I8 J A)
    refine gv_run 1 true hD (pcₚ := 266) (lvₚ := [(0, .inr (.inr (some 0))), (1, .inl a1), (2, .inl a2), (3, .inr (.inr (some a3))), (4, .inl a4), (5, .inr (.inr (some a5))), (6, .inl a6), (7, .inl a7), (8, .inl a8), (9, .inl a9)]) (stₚ := [.inr (.inr (some 0))]) (hₚ := gc_h sh I8 J A) (C := (True ∧ True)) rfl ⟨trivial, trivial⟩ ?_
    refine gv_get hD rfl rfl S_0 ⟨by decide, (gz_sh B_0)⟩ (gc_hA S_0 rfl A_0_7) ?_
    show gv_X _ _ (269, [(0, .inr (.inr (some 0))), (1, .inl a1), (2, .inl a2), (3, .inr (.inr (some a3))), (4, .inl a4), (5, .inr (.inr (some a5))), (6, .inl a6), (7, .inl a7), (8, .inl a8), (9, .inl a9)], [.inr (.inr (some 61))], sh, gc_h sh I8 J A)
    refine gv_run 1 true hD (pcₚ := 270) (lvₚ := [(0, .inr (.inr (some 0))), (1, .inl a1), (2, .inl a2), (3, .inr (.inr (some a3))), (4, .inl a4), (5, .inr (.inr (some a5))), (6, .inl a6), (7, .inl a7), (8, .inl a8), (9, .inl a9)]) (stₚ := [.inr (.inr (some a3)), .inr (.inr (some 61))]) (hₚ := gc_h sh I8 J A) (C := (True ∧ True)) rfl ⟨trivial, trivial⟩ ?_
    obtain ⟨r15, h15, E15, P15⟩ := d_X5_open (ws0 := ws0) (tb := tb) hws htb sh ro I8 J A hI8  a3 hb h_a3 G_a3    
    obtain ⟨I16, J17, rfl, hI16, g15, k15, ⟨rfl, q15⟩⟩ := P15
    replace q15 := gz_hi q15
    have FI16 := gc_frc (W := fun q j => (q = 48 ∧ j = 3) ∨ (q = 48 ∧ j = 6) ∨ (q = 27 ∧ j = 1) ∨ q = 28 ∨ (q = 61 ∧ j = 2) ∨ (q = 61 ∧ j = 3) ∨ (q = 61 ∧ j = 4) ∨ q = 62) (V := fun q j => (q = 61 ∧ j = 2) ∨ (q = 61 ∧ j = 3) ∨ (q = 61 ∧ j = 4) ∨ q = 62) FI8 (fun q j h => (h.elim (fun h => (Or.inr (Or.inr (Or.inr (Or.inr (Or.inl h)))))) (fun h => (h.elim (fun h => (Or.inr (Or.inr (Or.inr (Or.inr (Or.inr (Or.inl h))))))) (fun h => (h.elim (fun h => (Or.inr (Or.inr (Or.inr (Or.inr (Or.inr (Or.inr (Or.inl h)))))))) (fun h => (Or.inr (Or.inr (Or.inr (Or.inr (Or.inr (Or.inr (Or.inr h)))))))))))))) g15
    obtain rfl : J = J17 := funext fun q => funext fun j => ((k15 q j).resolve_left id).symm
    have KFN_I16 := gc_FN_fr KFN_I8 (fun k => (g15 49 k).resolve_left (fun h => h.elim (fun h => absurd h.1 (by first | exact gz_ne rfl | decide)) (fun h => h.elim (fun h => absurd h.1 (by first | exact gz_ne rfl | decide)) (fun h => h.elim (fun h => absurd h.1 (by first | exact gz_ne rfl | decide)) (fun h => absurd h (by first | exact gz_ne rfl | decide)))))) (fun k => (g15 50 k).resolve_left (fun h => h.elim (fun h => absurd h.1 (by first | exact gz_ne rfl | decide)) (fun h => h.elim (fun h => absurd h.1 (by first | exact gz_ne rfl | decide)) (fun h => h.elim (fun h => absurd h.1 (by first | exact gz_ne rfl | decide)) (fun h => absurd h (by first | exact gz_ne rfl | decide))))))
    have KFZ_I16 := gc_FZ_fr KFZ_I8 ((g15 2 1).resolve_left (fun h => h.elim (fun h => absurd h.2 (by first | exact gz_ne rfl | decide)) (fun h => h.elim (fun h => absurd h.2 (by first | exact gz_ne rfl | decide)) (fun h => h.elim (fun h => absurd h.2 (by first | exact gz_ne rfl | decide)) (fun h => absurd h (by first | exact gz_ne rfl | decide)))))) (fun k => (g15 49 k).resolve_left (fun h => h.elim (fun h => absurd h.1 (by first | exact gz_ne rfl | decide)) (fun h => h.elim (fun h => absurd h.1 (by first | exact gz_ne rfl | decide)) (fun h => h.elim (fun h => absurd h.1 (by first | exact gz_ne rfl | decide)) (fun h => absurd h (by first | exact gz_ne rfl | decide)))))) (fun k => (g15 50 k).resolve_left (fun h => h.elim (fun h => absurd h.1 (by first | exact gz_ne rfl | decide)) (fun h => h.elim (fun h => absurd h.1 (by first | exact gz_ne rfl | decide)) (fun h => h.elim (fun h => absurd h.1 (by first | exact gz_ne rfl | decide)) (fun h => absurd h (by first | exact gz_ne rfl | decide))))))
    refine gv_callV hD rfl (As := [.inr (.inr (some a3))]) (st := []) rfl (gz_sh B_61) S_61 rfl (gc_lV12 hws rfl) (Nat.le_of_ble_eq_true rfl) (gz_Ev_mono (d := 1) (by decide) E15) ?_
    show gv_X _ _ (273, [(0, .inr (.inr (some 0))), (1, .inl a1), (2, .inl a2), (3, .inr (.inr (some a3))), (4, .inl a4), (5, .inr (.inr (some a5))), (6, .inl a6), (7, .inl a7), (8, .inl a8), (9, .inl a9)], [], sh, gc_h sh I16 J A)
    refine gv_run 1 true hD (pcₚ := 275) (lvₚ := [(0, .inr (.inr (some 0))), (1, .inl a1), (2, .inl a2), (3, .inr (.inr (some a3))), (4, .inl a4), (5, .inr (.inr (some a5))), (6, .inl a6), (7, .inl a7), (8, .inl a8), (9, .inl a9)]) (stₚ := [.inl a6]) (hₚ := gc_h sh I16 J A) (C := (True ∧ True)) rfl ⟨trivial, trivial⟩ ?_
    exact gv_iret hD rfl ⟨I16, J, rfl, hI16, FI16, FJ, KFN_I16, KFZ_I16, ⟨_, rfl, by (/-2-/first | omega | (simp only [gz_hd] at *; omega)), by (/-3-/first | omega | (simp only [gz_hd] at *; omega)), by (/-4-/first | (have o1 := gz_sh q15; omega) | (simp only [gz_hd] at *; omega)), by (/-5-/first | omega | (simp only [gz_hd] at *; omega)), (Or.inr (fun q j h1 h2 => (((g15 q j).resolve_left (by (/-6-/first | omega | (simp only [gz_hd] at *; omega)))).trans ((g7 q j).resolve_left (by (/-7-/first | omega | (simp only [gz_hd] at *; omega)))))))⟩⟩
  · show gv_X _ _ (247, [(0, .inr (.inr (some 0))), (1, .inl a1), (2, .inl a2), (3, .inr (.inr (some a3))), (4, .inl a4), (5, .inr (.inr (some a5))), (6, .inl a6), (7, .inl a7), (8, .inl a8), (9, .inl a9)], [], sh, gc_h sh I J A)
    refine gv_run 1 true hD (pcₚ := 248) (lvₚ := [(0, .inr (.inr (some 0))), (1, .inl a1), (2, .inl a2), (3, .inr (.inr (some a3))), (4, .inl a4), (5, .inr (.inr (some a5))), (6, .inl a6), (7, .inl a7), (8, .inl a8), (9, .inl a9)]) (stₚ := [.inr (.inr (some 0))]) (hₚ := gc_h sh I J A) (C := (True ∧ True)) rfl ⟨trivial, trivial⟩ ?_
    refine gv_get hD rfl rfl S_0 ⟨by decide, (gz_sh B_0)⟩ (gc_hA S_0 rfl A_0_6) ?_
    show gv_X _ _ (251, [(0, .inr (.inr (some 0))), (1, .inl a1), (2, .inl a2), (3, .inr (.inr (some a3))), (4, .inl a4), (5, .inr (.inr (some a5))), (6, .inl a6), (7, .inl a7), (8, .inl a8), (9, .inl a9)], [.inr (.inr (some 48))], sh, gc_h sh I J A)
    obtain ⟨r23, h23, E23, P23⟩ := d_X0_forget (ws0 := ws0) (tb := tb) hws htb sh ro I J A hI   hb     
    obtain ⟨I24, J25, rfl, hI24, g23, k23, ⟨rfl, q23⟩⟩ := P23
    replace q23 := gz_hi q23
    have FI24 := gc_frc (W := fun q j => (q = 48 ∧ j = 3) ∨ (q = 48 ∧ j = 6) ∨ (q = 27 ∧ j = 1) ∨ q = 28 ∨ (q = 61 ∧ j = 2) ∨ (q = 61 ∧ j = 3) ∨ (q = 61 ∧ j = 4) ∨ q = 62) (V := fun q j => (q = 48 ∧ j = 3) ∨ (q = 48 ∧ j = 6)) FI (fun q j h => (h.elim (fun h => (Or.inl h)) (fun h => (Or.inr (Or.inl h))))) g23
    have t26 := gz_hi ((g23 61 3).resolve_left (fun h => h.elim (fun h => absurd h.1 (by first | exact gz_ne rfl | decide)) (fun h => absurd h.2 (by first | exact gz_ne rfl | decide))))
    have t28 := gz_hi ((g23 61 2).resolve_left (fun h => h.elim (fun h => absurd h.2 (by first | exact gz_ne rfl | decide)) (fun h => absurd h.2 (by first | exact gz_ne rfl | decide))))
    have t29 := gz_hi ((g23 61 15).resolve_left (fun h => h.elim (fun h => absurd h.2 (by first | exact gz_ne rfl | decide)) (fun h => absurd h.2 (by first | exact gz_ne rfl | decide))))
    obtain rfl : J = J25 := funext fun q => funext fun j => ((k23 q j).resolve_left id).symm
    have KFN_I24 := gc_FN_fr KFN_I (fun k => (g23 49 k).resolve_left (fun h => h.elim (fun h => absurd h.1 (by first | exact gz_ne rfl | decide)) (fun h => absurd h.1 (by first | exact gz_ne rfl | decide)))) (fun k => (g23 50 k).resolve_left (fun h => h.elim (fun h => absurd h.1 (by first | exact gz_ne rfl | decide)) (fun h => absurd h.1 (by first | exact gz_ne rfl | decide))))
    have KFZ_I24 := gc_FZ_fr KFZ_I ((g23 2 1).resolve_left (fun h => h.elim (fun h => absurd h.2 (by first | exact gz_ne rfl | decide)) (fun h => absurd h.2 (by first | exact gz_ne rfl | decide)))) (fun k => (g23 49 k).resolve_left (fun h => h.elim (fun h => absurd h.1 (by first | exact gz_ne rfl | decide)) (fun h => absurd h.1 (by first | exact gz_ne rfl | decide)))) (fun k => (g23 50 k).resolve_left (fun h => h.elim (fun h => absurd h.1 (by first | exact gz_ne rfl | decide)) (fun h => absurd h.1 (by first | exact gz_ne rfl | decide))))
    refine gv_callV hD rfl (As := []) (st := []) rfl (gz_sh B_48) S_48 rfl (gc_lV12 hws rfl) (Nat.le_of_ble_eq_true rfl) (gz_Ev_mono (d := 1) (by decide) E23) ?_
    show gv_X _ _ (254, [(0, .inr (.inr (some 0))), (1, .inl a1), (2, .inl a2), (3, .inr (.inr (some a3))), (4, .inl a4), (5, .inr (.inr (some a5))), (6, .inl a6), (7, .inl a7), (8, .inl a8), (9, .inl a9)], [], sh, gc_h sh I24 J A)
    refine gv_run 1 true hD (pcₚ := 255) (lvₚ := [(0, .inr (.inr (some 0))), (1, .inl a1), (2, .inl a2), (3, .inr (.inr (some a3))), (4, .inl a4), (5, .inr (.inr (some a5))), (6, .inl a6), (7, .inl a7), (8, .inl a8), (9, .inl a9)]) (stₚ := [.inl (-1)]) (hₚ := gc_h sh I24 J A) (C := (True ∧ True)) rfl ⟨trivial, trivial⟩ ?_
    exact gv_iret hD rfl ⟨I24, J, rfl, hI24, FI24, FJ, KFN_I24, KFZ_I24, ⟨_, rfl, by (/-8-/first | omega | (simp only [gz_hd] at *; omega)), by (/-9-/first | omega | (simp only [gz_hd] at *; omega)), by (/-10-/first | omega | (simp only [gz_hd] at *; omega)), by (/-11-/first | (have o1 := gz_sh t26; have o2 := gz_sh t28; have o3 := gz_sh t29; omega) | (simp only [gz_hd] at *; omega)), (Or.inl (by (/-12-/first | omega | (simp only [gz_hd] at *; omega))))⟩⟩
