set_option maxHeartbeats 8000000 in
set_option maxRecDepth 100000 in
theorem d_X12_swap_l {ws0 : List Cond} {tb : String → gz_T} (hws : gc_Ws ws0) (htb : gc_tbs tb) (sh : gz_Sh) (ro : Nat → Nat) (I : gr_I) (J : gr_J) (A : gc_A) (hI : gc_Inv ro I) (σ : Nat → Int) (a1 : Int) (a2 : Int) (a3 : Int) (a4 : Nat) (a5 : Nat) (a6 : Int) (a7 : Int) (hb : gc_Base sh ro A) (h_a4 : gc_isTongue sh ro A a4) (G_a4 : 144 ≤ a4) (h_a5 : gc_isTongue sh ro A a5) (G_a5 : 144 ≤ a5) (ha1 : 0 ≤ a1 ∧ a1 ≤ 7) (ha2 : 0 ≤ a2 ∧ a2 ≤ 31) (ha3 : 0 ≤ a3 ∧ a3 ≤ 7) (ha6 : 0 ≤ a6 ∧ a6 ≤ 1) (ha7 : 0 ≤ a7 ∧ a7 ≤ 15) (x0 : gc_Ls sh ro A a4 I) (x1 : gc_WV a4 I) (x2 : ∀ i q : Nat, (i : Int) < I a4 13 → A (a4 + 16) i = some q → I q 8 = σ i) (x3 : gc_WA σ I) (x4 : gc_FN I) (x5 : I 49 (Int.toNat (I 48 10)) + I 50 (Int.toNat (I 48 10)) ≤ I 48 3) (x6 : I 61 4 = 0 ∨ (gc_LH σ (-1) I ∧ gc_TH (-1) I)) (x7 : I 61 3 = 1) (x8 : I 61 2 = (a4 : Int)) (x9 : ∀ k : Nat, (k : Int) < I 48 6 → I 12 (Int.toNat (gc_fn A I a4 k)) = gc_ws σ I k ∧ gc_fn A I a4 k < I 4 1) (x10 : ∀ i q : Nat, (i : Int) < I a4 13 → A (a4 + 16) i = some q → ∀ a : Int, 0 ≤ a → a < I q 8 → 0 ≤ I (q + 6) (Int.toNat a) ∧ I (q + 6) (Int.toNat a) < I q 8) {Q : gz_S → Prop} (L92 : ∀ (I4 : gr_I) (J5 : gr_J) (v8_6 : Int), gc_Inv ro I4 → (∀ q j : Nat, ((q = 61 ∧ j = 4) ∨ (q = 61 ∧ j = 8) ∨ (q = 61 ∧ j = 9) ∨ (q = 61 ∧ j = 10) ∨ (q = 61 ∧ j = 15) ∨ q = 64 ∨ q = 65 ∨ q = 66 ∨ q = 67 ∨ q = 68 ∨ q = 69 ∨ q = 70 ∨ q = 71 ∨ q = 72 ∨ q = 73 ∨ q = 123) ∨ I4 q j = I q j) → (∀ q j : Nat, (False) ∨ J5 q j = J q j) → ((0 ≤ a1 ∧ a1 ≤ 7) ∧ (0 ≤ a2 ∧ a2 ≤ 31) ∧ (0 ≤ a3 ∧ a3 ≤ 7) ∧ (0 ≤ a6 ∧ a6 ≤ 1) ∧ (0 ≤ a7 ∧ a7 ≤ 15) ∧ (1 ≤ v8_6 ∧ v8_6 ≤ 60) ∧ (a7 = a7) ∧ (I4 61 4 = 1) ∧ (1 ≤ v8_6 ∧ v8_6 ≤ 60)) → (gc_LH σ (-1) I4) → (gc_TH (-1) I4) → (gc_wtr I4 123 v8_6) → gv_X (gc_E12 ws0 tb 97 (yX12_swap, cX12_swap, 9, (some .int)) kX12_swap) Q (92, [(0, .inr (.inr (some 0))), (1, .inl a1), (2, .inl a2), (3, .inl a3), (4, .inr (.inr (some a4))), (5, .inr (.inr (some a5))), (6, .inl a6), (7, .inl a7), (8, .inl v8_6)], [], sh, gc_h sh I4 J5 A)) (L137 : ∀ (I7 : gr_I) (J8 : gr_J) , gc_Inv ro I7 → (∀ q j : Nat, ((q = 61 ∧ j = 4) ∨ (q = 61 ∧ j = 8) ∨ (q = 61 ∧ j = 9) ∨ (q = 61 ∧ j = 10) ∨ (q = 61 ∧ j = 15) ∨ q = 64 ∨ q = 65 ∨ q = 66 ∨ q = 67 ∨ q = 68 ∨ q = 69 ∨ q = 70 ∨ q = 71 ∨ q = 72 ∨ q = 73 ∨ q = 123) ∨ I7 q j = I q j) → (∀ q j : Nat, (False) ∨ J8 q j = J q j) → ((0 ≤ a1 ∧ a1 ≤ 7) ∧ (0 ≤ a2 ∧ a2 ≤ 31) ∧ (0 ≤ a3 ∧ a3 ≤ 7) ∧ (0 ≤ a6 ∧ a6 ≤ 1) ∧ (0 ≤ a7 ∧ a7 ≤ 15) ∧ (a7 = a7) ∧ (I7 61 4 = 1)) → (gc_LH σ (-1) I7) → (gc_TH (-1) I7) → gv_X (gc_E12 ws0 tb 97 (yX12_swap, cX12_swap, 9, (some .int)) kX12_swap) Q (137, [(0, .inr (.inr (some 0))), (1, .inl a1), (2, .inl a2), (3, .inl a3), (4, .inr (.inr (some a4))), (5, .inr (.inr (some a5))), (6, .inl a6), (7, .inl a7)], [], sh, gc_h sh I7 J8 A)) : gv_X (gc_E12 ws0 tb 97 (yX12_swap, cX12_swap, 9, (some .int)) kX12_swap) Q (69, [(0, .inr (.inr (some 0))), (1, .inl a1), (2, .inl a2), (3, .inl a3), (4, .inr (.inr (some a4))), (5, .inr (.inr (some a5))), (6, .inl a6), (7, .inl a7)], [], sh, gc_h sh I J A) := by
  have FI : ∀ q j : Nat, ((q = 61 ∧ j = 4) ∨ (q = 61 ∧ j = 8) ∨ (q = 61 ∧ j = 9) ∨ (q = 61 ∧ j = 10) ∨ (q = 61 ∧ j = 15) ∨ q = 64 ∨ q = 65 ∨ q = 66 ∨ q = 67 ∨ q = 68 ∨ q = 69 ∨ q = 70 ∨ q = 71 ∨ q = 72 ∨ q = 73 ∨ q = 123) ∨ I q j = I q j := fun _ _ => Or.inr rfl
  have FJ : ∀ q j : Nat, (False) ∨ J q j = J q j := fun _ _ => Or.inr rfl
  have A_0_11 : A 0 11 = some 114 := gc_bA_0_11 hb
  have A_0_7 : A 0 7 = some 61 := gc_bA_0_7 hb
  have B_0 := gz_hi (show 0 < 1000000 from by decide)
  have B_114 := gz_hi (show 114 < 1000000 from by decide)
  have B_123 := gz_hi (show 123 < 1000000 from by decide)
  have B_61 := gz_hi (show 61 < 1000000 from by decide)
  have R_123 := gz_hi (show ro 123 = 37 from gc_bR_123 hb)
  have R_61 := gz_hi (show ro 61 = 72 from gc_bR_61 hb)
  have S_0 : sh[0]? = some (false, 12, 17) := gc_bS_0 hb
  have S_114 : sh[114]? = some (true, 7, 9) := gc_bS_114 hb
  have S_123 : sh[123]? = some (true, 1, 60) := gc_bS_123 hb
  have S_61 : sh[61]? = some (false, 5, 19) := gc_bS_61 hb
  obtain ⟨S_a4, R_a4, B_a4, A_a4_0, h_a4_1, A_a4_1, h_a4_3, A_a4_2, S_a4_5, R_a4_5, B_a4_5, A_a4_3, S_a4_6, R_a4_6, B_a4_6, A_a4_4, h_a4_7, A_a4_5, S_a4_9, R_a4_9, B_a4_9, A_a4_7, S_a4_10, R_a4_10, B_a4_10, A_a4_8, h_a4_11, A_a4_9, S_a4_13, R_a4_13, B_a4_13, A_a4_10, S_a4_14, R_a4_14, B_a4_14, A_a4_12, S_a4_15, R_a4_15, B_a4_15, A_a4_14, S_a4_16, R_a4_16, B_a4_16, A_a4_15, h_a4_17⟩ := id h_a4
  replace R_a4 := gz_hi R_a4
  replace B_a4 := gz_hi B_a4
  replace R_a4_5 := gz_hi R_a4_5
  replace B_a4_5 := gz_hi B_a4_5
  replace R_a4_6 := gz_hi R_a4_6
  replace B_a4_6 := gz_hi B_a4_6
  replace R_a4_9 := gz_hi R_a4_9
  replace B_a4_9 := gz_hi B_a4_9
  replace R_a4_10 := gz_hi R_a4_10
  replace B_a4_10 := gz_hi B_a4_10
  replace R_a4_13 := gz_hi R_a4_13
  replace B_a4_13 := gz_hi B_a4_13
  replace R_a4_14 := gz_hi R_a4_14
  replace B_a4_14 := gz_hi B_a4_14
  replace R_a4_15 := gz_hi R_a4_15
  replace B_a4_15 := gz_hi B_a4_15
  replace R_a4_16 := gz_hi R_a4_16
  replace B_a4_16 := gz_hi B_a4_16
  obtain ⟨S_a4_1, R_a4_1, B_a4_1, A_a4_1_0, S_a4_1_1, R_a4_1_1, B_a4_1_1, Q0_a4_1, Q1_a4_1, Q2_a4_1⟩ := id h_a4_1
  replace R_a4_1 := gz_hi R_a4_1
  replace B_a4_1 := gz_hi B_a4_1
  replace R_a4_1_1 := gz_hi R_a4_1_1
  replace B_a4_1_1 := gz_hi B_a4_1_1
  obtain ⟨S_a4_3, R_a4_3, B_a4_3, A_a4_3_0, S_a4_3_1, R_a4_3_1, B_a4_3_1, Q0_a4_3, Q1_a4_3, Q2_a4_3⟩ := id h_a4_3
  replace R_a4_3 := gz_hi R_a4_3
  replace B_a4_3 := gz_hi B_a4_3
  replace R_a4_3_1 := gz_hi R_a4_3_1
  replace B_a4_3_1 := gz_hi B_a4_3_1
  obtain ⟨S_a4_7, R_a4_7, B_a4_7, A_a4_7_0, S_a4_7_1, R_a4_7_1, B_a4_7_1, Q0_a4_7, Q1_a4_7, Q2_a4_7⟩ := id h_a4_7
  replace R_a4_7 := gz_hi R_a4_7
  replace B_a4_7 := gz_hi B_a4_7
  replace R_a4_7_1 := gz_hi R_a4_7_1
  replace B_a4_7_1 := gz_hi B_a4_7_1
  obtain ⟨S_a4_11, R_a4_11, B_a4_11, A_a4_11_0, S_a4_11_1, R_a4_11_1, B_a4_11_1, Q0_a4_11, Q1_a4_11, Q2_a4_11⟩ := id h_a4_11
  replace R_a4_11 := gz_hi R_a4_11
  replace B_a4_11 := gz_hi B_a4_11
  replace R_a4_11_1 := gz_hi R_a4_11_1
  replace B_a4_11_1 := gz_hi B_a4_11_1
  obtain ⟨S_a4_17, R_a4_17, B_a4_17, A_a4_17_0, S_20, R_20, B_20, A_a4_17_1, S_a4_17_1, R_a4_17_1, B_a4_17_1, A_a4_17_2, S_a4_17_2, R_a4_17_2, B_a4_17_2, A_a4_17_3, S_a4_17_3, R_a4_17_3, B_a4_17_3, A_a4_17_4, S_a4_17_4, R_a4_17_4, B_a4_17_4, A_a4_17_5, S_a4_17_5, R_a4_17_5, B_a4_17_5, S_a4_17_6, R_a4_17_6, B_a4_17_6, S_a4_17_7, R_a4_17_7, B_a4_17_7⟩ := id h_a4_17
  replace R_a4_17 := gz_hi R_a4_17
  replace B_a4_17 := gz_hi B_a4_17
  replace R_20 := gz_hi R_20
  replace B_20 := gz_hi B_20
  replace R_a4_17_1 := gz_hi R_a4_17_1
  replace B_a4_17_1 := gz_hi B_a4_17_1
  replace R_a4_17_2 := gz_hi R_a4_17_2
  replace B_a4_17_2 := gz_hi B_a4_17_2
  replace R_a4_17_3 := gz_hi R_a4_17_3
  replace B_a4_17_3 := gz_hi B_a4_17_3
  replace R_a4_17_4 := gz_hi R_a4_17_4
  replace B_a4_17_4 := gz_hi B_a4_17_4
  replace R_a4_17_5 := gz_hi R_a4_17_5
  replace B_a4_17_5 := gz_hi B_a4_17_5
  replace R_a4_17_6 := gz_hi R_a4_17_6
  replace B_a4_17_6 := gz_hi B_a4_17_6
  replace R_a4_17_7 := gz_hi R_a4_17_7
  replace B_a4_17_7 := gz_hi B_a4_17_7
  obtain ⟨S_a5, R_a5, B_a5, A_a5_0, h_a5_1, A_a5_1, h_a5_3, A_a5_2, S_a5_5, R_a5_5, B_a5_5, A_a5_3, S_a5_6, R_a5_6, B_a5_6, A_a5_4, h_a5_7, A_a5_5, S_a5_9, R_a5_9, B_a5_9, A_a5_7, S_a5_10, R_a5_10, B_a5_10, A_a5_8, h_a5_11, A_a5_9, S_a5_13, R_a5_13, B_a5_13, A_a5_10, S_a5_14, R_a5_14, B_a5_14, A_a5_12, S_a5_15, R_a5_15, B_a5_15, A_a5_14, S_a5_16, R_a5_16, B_a5_16, A_a5_15, h_a5_17⟩ := id h_a5
  replace R_a5 := gz_hi R_a5
  replace B_a5 := gz_hi B_a5
  replace R_a5_5 := gz_hi R_a5_5
  replace B_a5_5 := gz_hi B_a5_5
  replace R_a5_6 := gz_hi R_a5_6
  replace B_a5_6 := gz_hi B_a5_6
  replace R_a5_9 := gz_hi R_a5_9
  replace B_a5_9 := gz_hi B_a5_9
  replace R_a5_10 := gz_hi R_a5_10
  replace B_a5_10 := gz_hi B_a5_10
  replace R_a5_13 := gz_hi R_a5_13
  replace B_a5_13 := gz_hi B_a5_13
  replace R_a5_14 := gz_hi R_a5_14
  replace B_a5_14 := gz_hi B_a5_14
  replace R_a5_15 := gz_hi R_a5_15
  replace B_a5_15 := gz_hi B_a5_15
  replace R_a5_16 := gz_hi R_a5_16
  replace B_a5_16 := gz_hi B_a5_16
  obtain ⟨S_a5_1, R_a5_1, B_a5_1, A_a5_1_0, S_a5_1_1, R_a5_1_1, B_a5_1_1, Q0_a5_1, Q1_a5_1, Q2_a5_1⟩ := id h_a5_1
  replace R_a5_1 := gz_hi R_a5_1
  replace B_a5_1 := gz_hi B_a5_1
  replace R_a5_1_1 := gz_hi R_a5_1_1
  replace B_a5_1_1 := gz_hi B_a5_1_1
  obtain ⟨S_a5_3, R_a5_3, B_a5_3, A_a5_3_0, S_a5_3_1, R_a5_3_1, B_a5_3_1, Q0_a5_3, Q1_a5_3, Q2_a5_3⟩ := id h_a5_3
  replace R_a5_3 := gz_hi R_a5_3
  replace B_a5_3 := gz_hi B_a5_3
  replace R_a5_3_1 := gz_hi R_a5_3_1
  replace B_a5_3_1 := gz_hi B_a5_3_1
  obtain ⟨S_a5_7, R_a5_7, B_a5_7, A_a5_7_0, S_a5_7_1, R_a5_7_1, B_a5_7_1, Q0_a5_7, Q1_a5_7, Q2_a5_7⟩ := id h_a5_7
  replace R_a5_7 := gz_hi R_a5_7
  replace B_a5_7 := gz_hi B_a5_7
  replace R_a5_7_1 := gz_hi R_a5_7_1
  replace B_a5_7_1 := gz_hi B_a5_7_1
  obtain ⟨S_a5_11, R_a5_11, B_a5_11, A_a5_11_0, S_a5_11_1, R_a5_11_1, B_a5_11_1, Q0_a5_11, Q1_a5_11, Q2_a5_11⟩ := id h_a5_11
  replace R_a5_11 := gz_hi R_a5_11
  replace B_a5_11 := gz_hi B_a5_11
  replace R_a5_11_1 := gz_hi R_a5_11_1
  replace B_a5_11_1 := gz_hi B_a5_11_1
  obtain ⟨S_a5_17, R_a5_17, B_a5_17, A_a5_17_0, S_20, R_20, B_20, A_a5_17_1, S_a5_17_1, R_a5_17_1, B_a5_17_1, A_a5_17_2, S_a5_17_2, R_a5_17_2, B_a5_17_2, A_a5_17_3, S_a5_17_3, R_a5_17_3, B_a5_17_3, A_a5_17_4, S_a5_17_4, R_a5_17_4, B_a5_17_4, A_a5_17_5, S_a5_17_5, R_a5_17_5, B_a5_17_5, S_a5_17_6, R_a5_17_6, B_a5_17_6, S_a5_17_7, R_a5_17_7, B_a5_17_7⟩ := id h_a5_17
  replace R_a5_17 := gz_hi R_a5_17
  replace B_a5_17 := gz_hi B_a5_17
  replace R_20 := gz_hi R_20
  replace B_20 := gz_hi B_20
  replace R_a5_17_1 := gz_hi R_a5_17_1
  replace B_a5_17_1 := gz_hi B_a5_17_1
  replace R_a5_17_2 := gz_hi R_a5_17_2
  replace B_a5_17_2 := gz_hi B_a5_17_2
  replace R_a5_17_3 := gz_hi R_a5_17_3
  replace B_a5_17_3 := gz_hi B_a5_17_3
  replace R_a5_17_4 := gz_hi R_a5_17_4
  replace B_a5_17_4 := gz_hi B_a5_17_4
  replace R_a5_17_5 := gz_hi R_a5_17_5
  replace B_a5_17_5 := gz_hi B_a5_17_5
  replace R_a5_17_6 := gz_hi R_a5_17_6
  replace B_a5_17_6 := gz_hi B_a5_17_6
  replace R_a5_17_7 := gz_hi R_a5_17_7
  replace B_a5_17_7 := gz_hi B_a5_17_7
  have hD : gv_D (gc_E12 ws0 tb 97 (yX12_swap, cX12_swap, 9, (some .int)) kX12_swap) := gq_of oX12_swap
  refine gv_run 1 true hD (pcₚ := 70) (lvₚ := [(0, .inr (.inr (some 0))), (1, .inl a1), (2, .inl a2), (3, .inl a3), (4, .inr (.inr (some a4))), (5, .inr (.inr (some a5))), (6, .inl a6), (7, .inl a7)]) (stₚ := [.inr (.inr (some 0))]) (hₚ := gc_h sh I J A) (C := (True ∧ True)) rfl ⟨trivial, trivial⟩ ?_
  refine gv_get hD rfl rfl S_0 ⟨by decide, (gz_sh B_0)⟩ (gc_hA S_0 rfl A_0_7) ?_
  show gv_X _ _ (73, [(0, .inr (.inr (some 0))), (1, .inl a1), (2, .inl a2), (3, .inl a3), (4, .inr (.inr (some a4))), (5, .inr (.inr (some a5))), (6, .inl a6), (7, .inl a7)], [.inr (.inr (some 61))], sh, gc_h sh I J A)
  refine gv_run 2 true hD (pcₚ := 76) (lvₚ := [(0, .inr (.inr (some 0))), (1, .inl a1), (2, .inl a2), (3, .inl a3), (4, .inr (.inr (some a4))), (5, .inr (.inr (some a5))), (6, .inl a6), (7, .inl a7)]) (stₚ := [.inr (.inr (some 0)), .inl a7, .inr (.inr (some 61))]) (hₚ := gc_h sh I J A) (C := ((True ∧ True) ∧ True)) rfl ⟨⟨trivial, trivial⟩, trivial⟩ ?_
  refine gv_get hD rfl rfl S_0 ⟨by decide, (gz_sh B_0)⟩ (gc_hA S_0 rfl A_0_11) ?_
  show gv_X _ _ (79, [(0, .inr (.inr (some 0))), (1, .inl a1), (2, .inl a2), (3, .inl a3), (4, .inr (.inr (some a4))), (5, .inr (.inr (some a5))), (6, .inl a6), (7, .inl a7)], [.inr (.inr (some 114)), .inl a7, .inr (.inr (some 61))], sh, gc_h sh I J A)
  refine gv_run 1 true hD (pcₚ := 81) (lvₚ := [(0, .inr (.inr (some 0))), (1, .inl a1), (2, .inl a2), (3, .inl a3), (4, .inr (.inr (some a4))), (5, .inr (.inr (some a5))), (6, .inl a6), (7, .inl a7)]) (stₚ := [.inl 8, .inr (.inr (some 114)), .inl a7, .inr (.inr (some 61))]) (hₚ := gc_h sh I J A) (C := (True ∧ True)) rfl ⟨trivial, trivial⟩ ?_
  refine gv_aald hD rfl S_114 ⟨by decide, by decide⟩ ⟨by decide, (gz_sh B_114)⟩ ⟨by (/-0-/first | omega | (simp only [gz_hd] at *; omega)), by (/-1-/first | omega | (simp only [gz_hd] at *; omega))⟩ ((gc_aA S_114 rfl).trans (show A 114 8 = some 123 from gc_bA hb rfl)) ?_
  show gv_X _ _ (82, [(0, .inr (.inr (some 0))), (1, .inl a1), (2, .inl a2), (3, .inl a3), (4, .inr (.inr (some a4))), (5, .inr (.inr (some a5))), (6, .inl a6), (7, .inl a7)], [.inr (.inr (some 123)), .inl a7, .inr (.inr (some 61))], sh, gc_h sh I J A)
  obtain ⟨r11, h11, E11, P11⟩ := d_X5_spell_f (ws0 := ws0) (tb := tb) hws htb sh ro I J A hI  60 a4 σ a7 123 hb S_123 (gz_sh R_123) (gz_sh B_123) (by decide) h_a4 G_a4  ⟨by (/-2-/first | omega | (simp only [gz_hd] at *; omega)), by (/-3-/first | omega | (simp only [gz_hd] at *; omega))⟩ x0 x1 x2 x3 x4 (by (/-4-/first | omega | (simp only [gz_hd] at *; omega))) x6 (by (/-5-/first | omega | (simp only [gz_hd] at *; omega))) x9 x10 (by (/-6-/first | (and_intros <;> omega) | (simp only [gz_hd] at *; omega))) (by (/-7-/first | omega | (simp only [gz_hd] at *; omega))) (by (/-8-/first | omega | (simp only [gz_hd] at *; omega))) 
  obtain ⟨I12, J13, rfl, hI12, g11, k11, ⟨z11, rfl, q11⟩⟩ := P11
  replace q11 := gz_hi q11
  have FI12 := gc_frc (W := fun q j => (q = 61 ∧ j = 4) ∨ (q = 61 ∧ j = 8) ∨ (q = 61 ∧ j = 9) ∨ (q = 61 ∧ j = 10) ∨ (q = 61 ∧ j = 15) ∨ q = 64 ∨ q = 65 ∨ q = 66 ∨ q = 67 ∨ q = 68 ∨ q = 69 ∨ q = 70 ∨ q = 71 ∨ q = 72 ∨ q = 73 ∨ q = 123) (V := fun q j => (q = 61 ∧ j = 4) ∨ (q = 61 ∧ j = 8) ∨ (q = 61 ∧ j = 9) ∨ (q = 61 ∧ j = 10) ∨ (q = 61 ∧ j = 15) ∨ q = 64 ∨ q = 65 ∨ q = 66 ∨ q = 67 ∨ q = 68 ∨ q = 69 ∨ q = 70 ∨ q = 71 ∨ q = 72 ∨ q = 73 ∨ q = 123) FI (fun q j h => (h.elim (fun h => (Or.inl h)) (fun h => (h.elim (fun h => (Or.inr (Or.inl h))) (fun h => (h.elim (fun h => (Or.inr (Or.inr (Or.inl h)))) (fun h => (h.elim (fun h => (Or.inr (Or.inr (Or.inr (Or.inl h))))) (fun h => (h.elim (fun h => (Or.inr (Or.inr (Or.inr (Or.inr (Or.inl h)))))) (fun h => (h.elim (fun h => (Or.inr (Or.inr (Or.inr (Or.inr (Or.inr (Or.inl h))))))) (fun h => (h.elim (fun h => (Or.inr (Or.inr (Or.inr (Or.inr (Or.inr (Or.inr (Or.inl h)))))))) (fun h => (h.elim (fun h => (Or.inr (Or.inr (Or.inr (Or.inr (Or.inr (Or.inr (Or.inr (Or.inl h))))))))) (fun h => (h.elim (fun h => (Or.inr (Or.inr (Or.inr (Or.inr (Or.inr (Or.inr (Or.inr (Or.inr (Or.inl h)))))))))) (fun h => (h.elim (fun h => (Or.inr (Or.inr (Or.inr (Or.inr (Or.inr (Or.inr (Or.inr (Or.inr (Or.inr (Or.inl h))))))))))) (fun h => (h.elim (fun h => (Or.inr (Or.inr (Or.inr (Or.inr (Or.inr (Or.inr (Or.inr (Or.inr (Or.inr (Or.inr (Or.inl h)))))))))))) (fun h => (h.elim (fun h => (Or.inr (Or.inr (Or.inr (Or.inr (Or.inr (Or.inr (Or.inr (Or.inr (Or.inr (Or.inr (Or.inr (Or.inl h))))))))))))) (fun h => (h.elim (fun h => (Or.inr (Or.inr (Or.inr (Or.inr (Or.inr (Or.inr (Or.inr (Or.inr (Or.inr (Or.inr (Or.inr (Or.inr (Or.inl h)))))))))))))) (fun h => (h.elim (fun h => (Or.inr (Or.inr (Or.inr (Or.inr (Or.inr (Or.inr (Or.inr (Or.inr (Or.inr (Or.inr (Or.inr (Or.inr (Or.inr (Or.inl h))))))))))))))) (fun h => (h.elim (fun h => (Or.inr (Or.inr (Or.inr (Or.inr (Or.inr (Or.inr (Or.inr (Or.inr (Or.inr (Or.inr (Or.inr (Or.inr (Or.inr (Or.inr (Or.inl h)))))))))))))))) (fun h => (Or.inr (Or.inr (Or.inr (Or.inr (Or.inr (Or.inr (Or.inr (Or.inr (Or.inr (Or.inr (Or.inr (Or.inr (Or.inr (Or.inr (Or.inr h)))))))))))))))))))))))))))))))))))))))))))))) g11
  obtain rfl : J = J13 := funext fun q => funext fun j => ((k11 q j).resolve_left id).symm
  refine gv_callV hD rfl (As := [.inl a7, .inr (.inr (some 123))]) (st := []) rfl (gz_sh B_61) S_61 rfl (gc_lV12 hws rfl) (Nat.le_of_ble_eq_true rfl) (gz_Ev_mono (d := 9) (by decide) E11) ?_
  show gv_X _ _ (85, [(0, .inr (.inr (some 0))), (1, .inl a1), (2, .inl a2), (3, .inl a3), (4, .inr (.inr (some a4))), (5, .inr (.inr (some a5))), (6, .inl a6), (7, .inl a7)], [.inl z11], sh, gc_h sh I12 J A)
  refine gv_run 2 true hD (pcₚ := 89) (lvₚ := [(8, .inl z11), (0, .inr (.inr (some 0))), (1, .inl a1), (2, .inl a2), (3, .inl a3), (4, .inr (.inr (some a4))), (5, .inr (.inr (some a5))), (6, .inl a6), (7, .inl a7)]) (stₚ := [.inl z11]) (hₚ := gc_h sh I12 J A) (C := ((True ∧ True) ∧ True)) rfl ⟨⟨trivial, trivial⟩, trivial⟩ ?_
  refine gv_if_le (t := 137) hD rfl rfl ⟨by (/-9-/first | (have o1 := gz_sh q11; omega) | (simp only [gz_hd] at *; omega)), by (/-10-/first | (have o1 := gz_sh q11; omega) | (simp only [gz_hd] at *; omega))⟩ (fun c17 => ?_) (fun c17 => ?_)
  · show gv_X _ _ (137, [(8, .inl z11), (0, .inr (.inr (some 0))), (1, .inl a1), (2, .inl a2), (3, .inl a3), (4, .inr (.inr (some a4))), (5, .inr (.inr (some a5))), (6, .inl a6), (7, .inl a7)], [], sh, gc_h sh I12 J A)
    refine gv_pick [1, 2, 3, 4, 5, 6, 7, 8] rfl ?_
    exact L137 I12 J hI12 FI12 FJ (by (/-11-/first | (and_intros; (omega); (omega); (omega); (omega); (omega); (omega); (omega); (omega); (omega); (omega); (omega); (have o1 := gz_sh q11; omega)) | (simp only [gz_hd] at *; omega))) (gz_sh q11).2.2.1 (gz_sh q11).2.2.2.1
  · show gv_X _ _ (92, [(8, .inl z11), (0, .inr (.inr (some 0))), (1, .inl a1), (2, .inl a2), (3, .inl a3), (4, .inr (.inr (some a4))), (5, .inr (.inr (some a5))), (6, .inl a6), (7, .inl a7)], [], sh, gc_h sh I12 J A)
    refine gv_pick [1, 2, 3, 4, 5, 6, 7, 8, 0] rfl ?_
    exact L92 I12 J z11 hI12 FI12 FJ (by (/-12-/first | (and_intros; (omega); (omega); (omega); (omega); (omega); (omega); (omega); (omega); (omega); (omega); (omega); (have o1 := gz_sh q11; omega); (omega); (have o1 := gz_sh q11; omega); (omega); (have o1 := gz_sh q11; omega)) | (simp only [gz_hd] at *; omega))) (gz_sh q11).2.2.1 (gz_sh q11).2.2.2.1 ((gz_sh q11).2.2.2.2.2.1.resolve_left (by (/-13-/first | (have o1 := gz_sh q11; omega) | (simp only [gz_hd] at *; omega))))
