set_option maxHeartbeats 8000000 in
set_option maxRecDepth 100000 in
theorem d_X12_swap_n {ws0 : List Cond} {tb : String → gz_T} (hws : gc_Ws ws0) (htb : gc_tbs tb) (sh : gz_Sh) (ro : Nat → Nat) (I : gr_I) (J : gr_J) (A : gc_A) (hI : gc_Inv ro I) (σ : Nat → Int) (ς : Nat → Int → Int) (a1 : Int) (a2 : Int) (a3 : Int) (a4 : Nat) (a5 : Nat) (a6 : Int) (a7 : Int) (a8 : Int) (hb : gc_Base sh ro A) (h_a4 : gc_isTongue sh ro A a4) (G_a4 : 144 ≤ a4) (h_a5 : gc_isTongue sh ro A a5) (G_a5 : 144 ≤ a5) (ha1 : 0 ≤ a1 ∧ a1 ≤ 7) (ha2 : 0 ≤ a2 ∧ a2 ≤ 31) (ha3 : 0 ≤ a3 ∧ a3 ≤ 7) (ha6 : 0 ≤ a6 ∧ a6 ≤ 1) (ha7 : 0 ≤ a7 ∧ a7 ≤ 15) (ha8 : 1 ≤ a8 ∧ a8 ≤ 60) (x0 : gc_wtr I 123 a8) (x1 : gc_Ls sh ro A a5 I) (x2 : gc_LP σ ς A a5 I) (x3 : gc_SO A a5 I) (x4 : gc_AG A a5 I) {Q : gz_S → Prop} (L62 : ∀ (I3 : gr_I) (J4 : gr_J) (v7_5 : Int), gc_Inv ro I3 → (∀ q j : Nat, ((q = 74 ∧ j = 1) ∨ (q = 74 ∧ j = 9) ∨ q = 22 ∨ q = 75 ∨ q = 76 ∨ q = 77 ∨ q = 78 ∨ q = 79 ∨ q = 80 ∨ q = 81 ∨ q = 82 ∨ q = 83 ∨ q = 84 ∨ q = 85 ∨ (q = 35 ∧ j = 1) ∨ q = 36 ∨ (126 ≤ q ∧ q ≤ 141) ∨ q = 142 ∨ (q = 0 ∧ j = 15)) ∨ I3 q j = I q j) → (∀ q j : Nat, (False) ∨ J4 q j = J q j) → ((0 ≤ a1 ∧ a1 ≤ 7) ∧ (0 ≤ a2 ∧ a2 ≤ 31) ∧ (0 ≤ a3 ∧ a3 ≤ 7) ∧ (0 ≤ a6 ∧ a6 ≤ 1) ∧ (1 ≤ v7_5 ∧ v7_5 ≤ 16) ∧ (v7_5 = a7 + 1) ∧ (I3 74 1 = (a5 : Int))) → gv_X (gc_E12 ws0 tb 97 (yX12_swap, cX12_swap, 9, (some .int)) kX12_swap) Q (62, [(0, .inr (.inr (some 0))), (1, .inl a1), (2, .inl a2), (3, .inl a3), (4, .inr (.inr (some a4))), (5, .inr (.inr (some a5))), (6, .inl a6), (7, .inl v7_5)], [], sh, gc_h sh I3 J4 A)) : gv_X (gc_E12 ws0 tb 97 (yX12_swap, cX12_swap, 9, (some .int)) kX12_swap) Q (92, [(0, .inr (.inr (some 0))), (1, .inl a1), (2, .inl a2), (3, .inl a3), (4, .inr (.inr (some a4))), (5, .inr (.inr (some a5))), (6, .inl a6), (7, .inl a7), (8, .inl a8)], [], sh, gc_h sh I J A) := by
  have FI : ∀ q j : Nat, ((q = 74 ∧ j = 1) ∨ (q = 74 ∧ j = 9) ∨ q = 22 ∨ q = 75 ∨ q = 76 ∨ q = 77 ∨ q = 78 ∨ q = 79 ∨ q = 80 ∨ q = 81 ∨ q = 82 ∨ q = 83 ∨ q = 84 ∨ q = 85 ∨ (q = 35 ∧ j = 1) ∨ q = 36 ∨ (126 ≤ q ∧ q ≤ 141) ∨ q = 142 ∨ (q = 0 ∧ j = 15)) ∨ I q j = I q j := fun _ _ => Or.inr rfl
  have FJ : ∀ q j : Nat, (False) ∨ J q j = J q j := fun _ _ => Or.inr rfl
  have A_0_11 : A 0 11 = some 114 := gc_bA_0_11 hb
  have A_0_4 : A 0 4 = some 35 := gc_bA_0_4 hb
  have A_0_8 : A 0 8 = some 74 := gc_bA_0_8 hb
  have B_0 := gz_hi (show 0 < 1000000 from by decide)
  have B_114 := gz_hi (show 114 < 1000000 from by decide)
  have B_123 := gz_hi (show 123 < 1000000 from by decide)
  have B_35 := gz_hi (show 35 < 1000000 from by decide)
  have B_74 := gz_hi (show 74 < 1000000 from by decide)
  have R_123 := gz_hi (show ro 123 = 37 from gc_bR_123 hb)
  have R_35 := gz_hi (show ro 35 = 3 from gc_bR_35 hb)
  have R_74 := gz_hi (show ro 74 = 73 from gc_bR_74 hb)
  have S_0 : sh[0]? = some (false, 12, 17) := gc_bS_0 hb
  have S_114 : sh[114]? = some (true, 7, 9) := gc_bS_114 hb
  have S_123 : sh[123]? = some (true, 1, 60) := gc_bS_123 hb
  have S_35 : sh[35]? = some (false, 9, 10) := gc_bS_35 hb
  have S_74 : sh[74]? = some (false, 7, 14) := gc_bS_74 hb
  obtain ⟨S_a4, R_a4, B_a4, A_a4_0, h_a4_1, A_a4_1, h_a4_3, A_a4_2, S_a4_5, R_a4_5, B_a4_5, A_a4_3, S_a4_6, R_a4_6, B_a4_6, A_a4_4, h_a4_7, A_a4_5, S_a4_9, R_a4_9, B_a4_9, A_a4_7, S_a4_10, R_a4_10, B_a4_10, A_a4_8, h_a4_11, A_a4_9, S_a4_13, R_a4_13, B_a4_13, A_a4_10, S_a4_14, R_a4_14, B_a4_14, A_a4_12, S_a4_15, R_a4_15, B_a4_15, A_a4_14, S_a4_16, R_a4_16, B_a4_16, A_a4_15, h_a4_17⟩ := id h_a4
  replace R_a4 := gz_hi R_a4
  replace B_a4 := gz_hi B_a4
  replace R_a4_5 := gz_hi R_a4_5
  replace B_a4_5 := gz_hi B_a4_5
  replace R_a4_6 := gz_hi R_a4_6
  replace B_a4_6 := gz_hi B_a4_6
  replace R_a4_9 := gz_hi R_a4_9
  replace B_a4_9 := gz_hi B_a4_9
  replace R_a4_10 := gz_hi R_a4_10
  replace B_a4_10 := gz_hi B_a4_10
  replace R_a4_13 := gz_hi R_a4_13
  replace B_a4_13 := gz_hi B_a4_13
  replace R_a4_14 := gz_hi R_a4_14
  replace B_a4_14 := gz_hi B_a4_14
  replace R_a4_15 := gz_hi R_a4_15
  replace B_a4_15 := gz_hi B_a4_15
  replace R_a4_16 := gz_hi R_a4_16
  replace B_a4_16 := gz_hi B_a4_16
  obtain ⟨S_a4_1, R_a4_1, B_a4_1, A_a4_1_0, S_a4_1_1, R_a4_1_1, B_a4_1_1, Q0_a4_1, Q1_a4_1, Q2_a4_1⟩ := id h_a4_1
  replace R_a4_1 := gz_hi R_a4_1
  replace B_a4_1 := gz_hi B_a4_1
  replace R_a4_1_1 := gz_hi R_a4_1_1
  replace B_a4_1_1 := gz_hi B_a4_1_1
  obtain ⟨S_a4_3, R_a4_3, B_a4_3, A_a4_3_0, S_a4_3_1, R_a4_3_1, B_a4_3_1, Q0_a4_3, Q1_a4_3, Q2_a4_3⟩ := id h_a4_3
  replace R_a4_3 := gz_hi R_a4_3
  replace B_a4_3 := gz_hi B_a4_3
  replace R_a4_3_1 := gz_hi R_a4_3_1
  replace B_a4_3_1 := gz_hi B_a4_3_1
  obtain ⟨S_a4_7, R_a4_7, B_a4_7, A_a4_7_0, S_a4_7_1, R_a4_7_1, B_a4_7_1, Q0_a4_7, Q1_a4_7, Q2_a4_7⟩ := id h_a4_7
  replace R_a4_7 := gz_hi R_a4_7
  replace B_a4_7 := gz_hi B_a4_7
  replace R_a4_7_1 := gz_hi R_a4_7_1
  replace B_a4_7_1 := gz_hi B_a4_7_1
  obtain ⟨S_a4_11, R_a4_11, B_a4_11, A_a4_11_0, S_a4_11_1, R_a4_11_1, B_a4_11_1, Q0_a4_11, Q1_a4_11, Q2_a4_11⟩ := id h_a4_11
  replace R_a4_11 := gz_hi R_a4_11
  replace B_a4_11 := gz_hi B_a4_11
  replace R_a4_11_1 := gz_hi R_a4_11_1
  replace B_a4_11_1 := gz_hi B_a4_11_1
  obtain ⟨S_a4_17, R_a4_17, B_a4_17, A_a4_17_0, S_20, R_20, B_20, A_a4_17_1, S_a4_17_1, R_a4_17_1, B_a4_17_1, A_a4_17_2, S_a4_17_2, R_a4_17_2, B_a4_17_2, A_a4_17_3, S_a4_17_3, R_a4_17_3, B_a4_17_3, A_a4_17_4, S_a4_17_4, R_a4_17_4, B_a4_17_4, A_a4_17_5, S_a4_17_5, R_a4_17_5, B_a4_17_5, S_a4_17_6, R_a4_17_6, B_a4_17_6, S_a4_17_7, R_a4_17_7, B_a4_17_7⟩ := id h_a4_17
  replace R_a4_17 := gz_hi R_a4_17
  replace B_a4_17 := gz_hi B_a4_17
  replace R_20 := gz_hi R_20
  replace B_20 := gz_hi B_20
  replace R_a4_17_1 := gz_hi R_a4_17_1
  replace B_a4_17_1 := gz_hi B_a4_17_1
  replace R_a4_17_2 := gz_hi R_a4_17_2
  replace B_a4_17_2 := gz_hi B_a4_17_2
  replace R_a4_17_3 := gz_hi R_a4_17_3
  replace B_a4_17_3 := gz_hi B_a4_17_3
  replace R_a4_17_4 := gz_hi R_a4_17_4
  replace B_a4_17_4 := gz_hi B_a4_17_4
  replace R_a4_17_5 := gz_hi R_a4_17_5
  replace B_a4_17_5 := gz_hi B_a4_17_5
  replace R_a4_17_6 := gz_hi R_a4_17_6
  replace B_a4_17_6 := gz_hi B_a4_17_6
  replace R_a4_17_7 := gz_hi R_a4_17_7
  replace B_a4_17_7 := gz_hi B_a4_17_7
  obtain ⟨S_a5, R_a5, B_a5, A_a5_0, h_a5_1, A_a5_1, h_a5_3, A_a5_2, S_a5_5, R_a5_5, B_a5_5, A_a5_3, S_a5_6, R_a5_6, B_a5_6, A_a5_4, h_a5_7, A_a5_5, S_a5_9, R_a5_9, B_a5_9, A_a5_7, S_a5_10, R_a5_10, B_a5_10, A_a5_8, h_a5_11, A_a5_9, S_a5_13, R_a5_13, B_a5_13, A_a5_10, S_a5_14, R_a5_14, B_a5_14, A_a5_12, S_a5_15, R_a5_15, B_a5_15, A_a5_14, S_a5_16, R_a5_16, B_a5_16, A_a5_15, h_a5_17⟩ := id h_a5
  replace R_a5 := gz_hi R_a5
  replace B_a5 := gz_hi B_a5
  replace R_a5_5 := gz_hi R_a5_5
  replace B_a5_5 := gz_hi B_a5_5
  replace R_a5_6 := gz_hi R_a5_6
  replace B_a5_6 := gz_hi B_a5_6
  replace R_a5_9 := gz_hi R_a5_9
  replace B_a5_9 := gz_hi B_a5_9
  replace R_a5_10 := gz_hi R_a5_10
  replace B_a5_10 := gz_hi B_a5_10
  replace R_a5_13 := gz_hi R_a5_13
  replace B_a5_13 := gz_hi B_a5_13
  replace R_a5_14 := gz_hi R_a5_14
  replace B_a5_14 := gz_hi B_a5_14
  replace R_a5_15 := gz_hi R_a5_15
  replace B_a5_15 := gz_hi B_a5_15
  replace R_a5_16 := gz_hi R_a5_16
  replace B_a5_16 := gz_hi B_a5_16
  obtain ⟨S_a5_1, R_a5_1, B_a5_1, A_a5_1_0, S_a5_1_1, R_a5_1_1, B_a5_1_1, Q0_a5_1, Q1_a5_1, Q2_a5_1⟩ := id h_a5_1
  replace R_a5_1 := gz_hi R_a5_1
  replace B_a5_1 := gz_hi B_a5_1
  replace R_a5_1_1 := gz_hi R_a5_1_1
  replace B_a5_1_1 := gz_hi B_a5_1_1
  obtain ⟨S_a5_3, R_a5_3, B_a5_3, A_a5_3_0, S_a5_3_1, R_a5_3_1, B_a5_3_1, Q0_a5_3, Q1_a5_3, Q2_a5_3⟩ := id h_a5_3
  replace R_a5_3 := gz_hi R_a5_3
  replace B_a5_3 := gz_hi B_a5_3
  replace R_a5_3_1 := gz_hi R_a5_3_1
  replace B_a5_3_1 := gz_hi B_a5_3_1
  obtain ⟨S_a5_7, R_a5_7, B_a5_7, A_a5_7_0, S_a5_7_1, R_a5_7_1, B_a5_7_1, Q0_a5_7, Q1_a5_7, Q2_a5_7⟩ := id h_a5_7
  replace R_a5_7 := gz_hi R_a5_7
  replace B_a5_7 := gz_hi B_a5_7
  replace R_a5_7_1 := gz_hi R_a5_7_1
  replace B_a5_7_1 := gz_hi B_a5_7_1
  obtain ⟨S_a5_11, R_a5_11, B_a5_11, A_a5_11_0, S_a5_11_1, R_a5_11_1, B_a5_11_1, Q0_a5_11, Q1_a5_11, Q2_a5_11⟩ := id h_a5_11
  replace R_a5_11 := gz_hi R_a5_11
  replace B_a5_11 := gz_hi B_a5_11
  replace R_a5_11_1 := gz_hi R_a5_11_1
  replace B_a5_11_1 := gz_hi B_a5_11_1
  obtain ⟨S_a5_17, R_a5_17, B_a5_17, A_a5_17_0, S_20, R_20, B_20, A_a5_17_1, S_a5_17_1, R_a5_17_1, B_a5_17_1, A_a5_17_2, S_a5_17_2, R_a5_17_2, B_a5_17_2, A_a5_17_3, S_a5_17_3, R_a5_17_3, B_a5_17_3, A_a5_17_4, S_a5_17_4, R_a5_17_4, B_a5_17_4, A_a5_17_5, S_a5_17_5, R_a5_17_5, B_a5_17_5, S_a5_17_6, R_a5_17_6, B_a5_17_6, S_a5_17_7, R_a5_17_7, B_a5_17_7⟩ := id h_a5_17
  replace R_a5_17 := gz_hi R_a5_17
  replace B_a5_17 := gz_hi B_a5_17
  replace R_20 := gz_hi R_20
  replace B_20 := gz_hi B_20
  replace R_a5_17_1 := gz_hi R_a5_17_1
  replace B_a5_17_1 := gz_hi B_a5_17_1
  replace R_a5_17_2 := gz_hi R_a5_17_2
  replace B_a5_17_2 := gz_hi B_a5_17_2
  replace R_a5_17_3 := gz_hi R_a5_17_3
  replace B_a5_17_3 := gz_hi B_a5_17_3
  replace R_a5_17_4 := gz_hi R_a5_17_4
  replace B_a5_17_4 := gz_hi B_a5_17_4
  replace R_a5_17_5 := gz_hi R_a5_17_5
  replace B_a5_17_5 := gz_hi B_a5_17_5
  replace R_a5_17_6 := gz_hi R_a5_17_6
  replace B_a5_17_6 := gz_hi B_a5_17_6
  replace R_a5_17_7 := gz_hi R_a5_17_7
  replace B_a5_17_7 := gz_hi B_a5_17_7
  have hD : gv_D (gc_E12 ws0 tb 97 (yX12_swap, cX12_swap, 9, (some .int)) kX12_swap) := gq_of oX12_swap
  have N_a5__22 := gz_hi (show ¬ (a5 = 22) from by (/-0-/first | (have o1 := gz_sh B_a5; have o2 := gz_sh B_a5_10; have o3 := gz_sh B_a5_13; have o4 := gz_sh B_a5_14; have o5 := gz_sh B_a5_15; have o6 := gz_sh B_a5_16; have o7 := gz_sh B_a5_17; have o8 := gz_sh B_a5_17_1; have o9 := gz_sh B_a5_17_2; have o10 := gz_sh B_a5_17_3; have o11 := gz_sh B_a5_17_4; have o12 := gz_sh B_a5_17_5; have o13 := gz_sh B_a5_17_6; have o14 := gz_sh B_a5_17_7; have o15 := gz_sh B_a5_5; have o16 := gz_sh B_a5_6; have o17 := gz_sh B_a5_9; omega) | (simp only [gz_hd] at *; omega)))
  have N_a5__75 := gz_hi (show ¬ (a5 = 75) from by (/-1-/first | (have o1 := gz_sh B_a5; have o2 := gz_sh B_a5_10; have o3 := gz_sh B_a5_13; have o4 := gz_sh B_a5_14; have o5 := gz_sh B_a5_15; have o6 := gz_sh B_a5_16; have o7 := gz_sh B_a5_17; have o8 := gz_sh B_a5_17_1; have o9 := gz_sh B_a5_17_2; have o10 := gz_sh B_a5_17_3; have o11 := gz_sh B_a5_17_4; have o12 := gz_sh B_a5_17_5; have o13 := gz_sh B_a5_17_6; have o14 := gz_sh B_a5_17_7; have o15 := gz_sh B_a5_5; have o16 := gz_sh B_a5_6; have o17 := gz_sh B_a5_9; omega) | (simp only [gz_hd] at *; omega)))
  have N_a5__76 := gz_hi (show ¬ (a5 = 76) from by (/-2-/first | (have o1 := gz_sh B_a5; have o2 := gz_sh B_a5_10; have o3 := gz_sh B_a5_13; have o4 := gz_sh B_a5_14; have o5 := gz_sh B_a5_15; have o6 := gz_sh B_a5_16; have o7 := gz_sh B_a5_17; have o8 := gz_sh B_a5_17_1; have o9 := gz_sh B_a5_17_2; have o10 := gz_sh B_a5_17_3; have o11 := gz_sh B_a5_17_4; have o12 := gz_sh B_a5_17_5; have o13 := gz_sh B_a5_17_6; have o14 := gz_sh B_a5_17_7; have o15 := gz_sh B_a5_5; have o16 := gz_sh B_a5_6; have o17 := gz_sh B_a5_9; omega) | (simp only [gz_hd] at *; omega)))
  have N_a5__77 := gz_hi (show ¬ (a5 = 77) from by (/-3-/first | (have o1 := gz_sh B_a5; have o2 := gz_sh B_a5_10; have o3 := gz_sh B_a5_13; have o4 := gz_sh B_a5_14; have o5 := gz_sh B_a5_15; have o6 := gz_sh B_a5_16; have o7 := gz_sh B_a5_17; have o8 := gz_sh B_a5_17_1; have o9 := gz_sh B_a5_17_2; have o10 := gz_sh B_a5_17_3; have o11 := gz_sh B_a5_17_4; have o12 := gz_sh B_a5_17_5; have o13 := gz_sh B_a5_17_6; have o14 := gz_sh B_a5_17_7; have o15 := gz_sh B_a5_5; have o16 := gz_sh B_a5_6; have o17 := gz_sh B_a5_9; omega) | (simp only [gz_hd] at *; omega)))
  have N_a5__78 := gz_hi (show ¬ (a5 = 78) from by (/-4-/first | (have o1 := gz_sh B_a5; have o2 := gz_sh B_a5_10; have o3 := gz_sh B_a5_13; have o4 := gz_sh B_a5_14; have o5 := gz_sh B_a5_15; have o6 := gz_sh B_a5_16; have o7 := gz_sh B_a5_17; have o8 := gz_sh B_a5_17_1; have o9 := gz_sh B_a5_17_2; have o10 := gz_sh B_a5_17_3; have o11 := gz_sh B_a5_17_4; have o12 := gz_sh B_a5_17_5; have o13 := gz_sh B_a5_17_6; have o14 := gz_sh B_a5_17_7; have o15 := gz_sh B_a5_5; have o16 := gz_sh B_a5_6; have o17 := gz_sh B_a5_9; omega) | (simp only [gz_hd] at *; omega)))
  have N_a5__79 := gz_hi (show ¬ (a5 = 79) from by (/-5-/first | (have o1 := gz_sh B_a5; have o2 := gz_sh B_a5_10; have o3 := gz_sh B_a5_13; have o4 := gz_sh B_a5_14; have o5 := gz_sh B_a5_15; have o6 := gz_sh B_a5_16; have o7 := gz_sh B_a5_17; have o8 := gz_sh B_a5_17_1; have o9 := gz_sh B_a5_17_2; have o10 := gz_sh B_a5_17_3; have o11 := gz_sh B_a5_17_4; have o12 := gz_sh B_a5_17_5; have o13 := gz_sh B_a5_17_6; have o14 := gz_sh B_a5_17_7; have o15 := gz_sh B_a5_5; have o16 := gz_sh B_a5_6; have o17 := gz_sh B_a5_9; omega) | (simp only [gz_hd] at *; omega)))
  have N_a5__80 := gz_hi (show ¬ (a5 = 80) from by (/-6-/first | (have o1 := gz_sh B_a5; have o2 := gz_sh B_a5_10; have o3 := gz_sh B_a5_13; have o4 := gz_sh B_a5_14; have o5 := gz_sh B_a5_15; have o6 := gz_sh B_a5_16; have o7 := gz_sh B_a5_17; have o8 := gz_sh B_a5_17_1; have o9 := gz_sh B_a5_17_2; have o10 := gz_sh B_a5_17_3; have o11 := gz_sh B_a5_17_4; have o12 := gz_sh B_a5_17_5; have o13 := gz_sh B_a5_17_6; have o14 := gz_sh B_a5_17_7; have o15 := gz_sh B_a5_5; have o16 := gz_sh B_a5_6; have o17 := gz_sh B_a5_9; omega) | (simp only [gz_hd] at *; omega)))
  have N_a5__81 := gz_hi (show ¬ (a5 = 81) from by (/-7-/first | (have o1 := gz_sh B_a5; have o2 := gz_sh B_a5_10; have o3 := gz_sh B_a5_13; have o4 := gz_sh B_a5_14; have o5 := gz_sh B_a5_15; have o6 := gz_sh B_a5_16; have o7 := gz_sh B_a5_17; have o8 := gz_sh B_a5_17_1; have o9 := gz_sh B_a5_17_2; have o10 := gz_sh B_a5_17_3; have o11 := gz_sh B_a5_17_4; have o12 := gz_sh B_a5_17_5; have o13 := gz_sh B_a5_17_6; have o14 := gz_sh B_a5_17_7; have o15 := gz_sh B_a5_5; have o16 := gz_sh B_a5_6; have o17 := gz_sh B_a5_9; omega) | (simp only [gz_hd] at *; omega)))
  have N_a5__82 := gz_hi (show ¬ (a5 = 82) from by (/-8-/first | (have o1 := gz_sh B_a5; have o2 := gz_sh B_a5_10; have o3 := gz_sh B_a5_13; have o4 := gz_sh B_a5_14; have o5 := gz_sh B_a5_15; have o6 := gz_sh B_a5_16; have o7 := gz_sh B_a5_17; have o8 := gz_sh B_a5_17_1; have o9 := gz_sh B_a5_17_2; have o10 := gz_sh B_a5_17_3; have o11 := gz_sh B_a5_17_4; have o12 := gz_sh B_a5_17_5; have o13 := gz_sh B_a5_17_6; have o14 := gz_sh B_a5_17_7; have o15 := gz_sh B_a5_5; have o16 := gz_sh B_a5_6; have o17 := gz_sh B_a5_9; omega) | (simp only [gz_hd] at *; omega)))
  have N_a5__83 := gz_hi (show ¬ (a5 = 83) from by (/-9-/first | (have o1 := gz_sh B_a5; have o2 := gz_sh B_a5_10; have o3 := gz_sh B_a5_13; have o4 := gz_sh B_a5_14; have o5 := gz_sh B_a5_15; have o6 := gz_sh B_a5_16; have o7 := gz_sh B_a5_17; have o8 := gz_sh B_a5_17_1; have o9 := gz_sh B_a5_17_2; have o10 := gz_sh B_a5_17_3; have o11 := gz_sh B_a5_17_4; have o12 := gz_sh B_a5_17_5; have o13 := gz_sh B_a5_17_6; have o14 := gz_sh B_a5_17_7; have o15 := gz_sh B_a5_5; have o16 := gz_sh B_a5_6; have o17 := gz_sh B_a5_9; omega) | (simp only [gz_hd] at *; omega)))
  have N_a5__84 := gz_hi (show ¬ (a5 = 84) from by (/-10-/first | (have o1 := gz_sh B_a5; have o2 := gz_sh B_a5_10; have o3 := gz_sh B_a5_13; have o4 := gz_sh B_a5_14; have o5 := gz_sh B_a5_15; have o6 := gz_sh B_a5_16; have o7 := gz_sh B_a5_17; have o8 := gz_sh B_a5_17_1; have o9 := gz_sh B_a5_17_2; have o10 := gz_sh B_a5_17_3; have o11 := gz_sh B_a5_17_4; have o12 := gz_sh B_a5_17_5; have o13 := gz_sh B_a5_17_6; have o14 := gz_sh B_a5_17_7; have o15 := gz_sh B_a5_5; have o16 := gz_sh B_a5_6; have o17 := gz_sh B_a5_9; omega) | (simp only [gz_hd] at *; omega)))
  have N_a5__85 := gz_hi (show ¬ (a5 = 85) from by (/-11-/first | (have o1 := gz_sh B_a5; have o2 := gz_sh B_a5_10; have o3 := gz_sh B_a5_13; have o4 := gz_sh B_a5_14; have o5 := gz_sh B_a5_15; have o6 := gz_sh B_a5_16; have o7 := gz_sh B_a5_17; have o8 := gz_sh B_a5_17_1; have o9 := gz_sh B_a5_17_2; have o10 := gz_sh B_a5_17_3; have o11 := gz_sh B_a5_17_4; have o12 := gz_sh B_a5_17_5; have o13 := gz_sh B_a5_17_6; have o14 := gz_sh B_a5_17_7; have o15 := gz_sh B_a5_5; have o16 := gz_sh B_a5_6; have o17 := gz_sh B_a5_9; omega) | (simp only [gz_hd] at *; omega)))
  have N_a5__36 := gz_hi (show ¬ (a5 = 36) from by (/-12-/first | (have o1 := gz_sh B_a5; have o2 := gz_sh B_a5_10; have o3 := gz_sh B_a5_13; have o4 := gz_sh B_a5_14; have o5 := gz_sh B_a5_15; have o6 := gz_sh B_a5_16; have o7 := gz_sh B_a5_17; have o8 := gz_sh B_a5_17_1; have o9 := gz_sh B_a5_17_2; have o10 := gz_sh B_a5_17_3; have o11 := gz_sh B_a5_17_4; have o12 := gz_sh B_a5_17_5; have o13 := gz_sh B_a5_17_6; have o14 := gz_sh B_a5_17_7; have o15 := gz_sh B_a5_5; have o16 := gz_sh B_a5_6; have o17 := gz_sh B_a5_9; omega) | (simp only [gz_hd] at *; omega)))
  have L137 : ∀ (I6 : gr_I) (J7 : gr_J) , gc_Inv ro I6 → (∀ q j : Nat, ((q = 74 ∧ j = 1) ∨ (q = 74 ∧ j = 9) ∨ q = 22 ∨ q = 75 ∨ q = 76 ∨ q = 77 ∨ q = 78 ∨ q = 79 ∨ q = 80 ∨ q = 81 ∨ q = 82 ∨ q = 83 ∨ q = 84 ∨ q = 85 ∨ (q = 35 ∧ j = 1) ∨ q = 36 ∨ (126 ≤ q ∧ q ≤ 141) ∨ q = 142 ∨ (q = 0 ∧ j = 15)) ∨ I6 q j = I q j) → (∀ q j : Nat, (False) ∨ J7 q j = J q j) → ((0 ≤ a1 ∧ a1 ≤ 7) ∧ (0 ≤ a2 ∧ a2 ≤ 31) ∧ (0 ≤ a3 ∧ a3 ≤ 7) ∧ (0 ≤ a6 ∧ a6 ≤ 1) ∧ (0 ≤ a7 ∧ a7 ≤ 15) ∧ (a7 = a7) ∧ (I6 74 1 = (a5 : Int))) → gv_X (gc_E12 ws0 tb 97 (yX12_swap, cX12_swap, 9, (some .int)) kX12_swap) Q (137, [(0, .inr (.inr (some 0))), (1, .inl a1), (2, .inl a2), (3, .inl a3), (4, .inr (.inr (some a4))), (5, .inr (.inr (some a5))), (6, .inl a6), (7, .inl a7)], [], sh, gc_h sh I6 J7 A) := by
    intro I6 J7 hI6 FI6 FJ7 m_8
    obtain ⟨ha1_8, ha2_8, ha3_8, ha6_8, ha7_8, e0_8, e1_8⟩ := gz_h7 m_8
    refine gv_run 2 true hD (pcₚ := 62) (lvₚ := [(7, .inl (a7 + 1)), (0, .inr (.inr (some 0))), (1, .inl a1), (2, .inl a2), (3, .inl a3), (4, .inr (.inr (some a4))), (5, .inr (.inr (some a5))), (6, .inl a6)]) (stₚ := []) (hₚ := gc_h sh I6 J7 A) (C := ((True ∧ True) ∧ True)) rfl ⟨⟨trivial, trivial⟩, trivial⟩ ?_
    refine gv_pick [1, 2, 3, 4, 5, 6, 7, 0] rfl ?_
    exact L62 I6 J7 (a7 + 1) hI6 FI6 FJ7 (by (/-13-/first | (and_intros; (omega); (omega); (omega); (omega); (omega); (omega); (omega); (omega); (omega); (omega); (omega); (have o1 := gz_sh e1_8; omega)) | (simp only [gz_hd] at *; omega)))
  refine gv_run 1 true hD (pcₚ := 93) (lvₚ := [(0, .inr (.inr (some 0))), (1, .inl a1), (2, .inl a2), (3, .inl a3), (4, .inr (.inr (some a4))), (5, .inr (.inr (some a5))), (6, .inl a6), (7, .inl a7), (8, .inl a8)]) (stₚ := [.inr (.inr (some 0))]) (hₚ := gc_h sh I J A) (C := (True ∧ True)) rfl ⟨trivial, trivial⟩ ?_
  refine gv_get hD rfl rfl S_0 ⟨by decide, (gz_sh B_0)⟩ (gc_hA S_0 rfl A_0_8) ?_
  show gv_X _ _ (96, [(0, .inr (.inr (some 0))), (1, .inl a1), (2, .inl a2), (3, .inl a3), (4, .inr (.inr (some a4))), (5, .inr (.inr (some a5))), (6, .inl a6), (7, .inl a7), (8, .inl a8)], [.inr (.inr (some 74))], sh, gc_h sh I J A)
  refine gv_run 2 true hD (pcₚ := 99) (lvₚ := [(0, .inr (.inr (some 0))), (1, .inl a1), (2, .inl a2), (3, .inl a3), (4, .inr (.inr (some a4))), (5, .inr (.inr (some a5))), (6, .inl a6), (7, .inl a7), (8, .inl a8)]) (stₚ := [.inr (.inr (some 0)), .inr (.inr (some a5)), .inr (.inr (some 74))]) (hₚ := gc_h sh I J A) (C := ((True ∧ True) ∧ True)) rfl ⟨⟨trivial, trivial⟩, trivial⟩ ?_
  refine gv_get hD rfl rfl S_0 ⟨by decide, (gz_sh B_0)⟩ (gc_hA S_0 rfl A_0_11) ?_
  show gv_X _ _ (102, [(0, .inr (.inr (some 0))), (1, .inl a1), (2, .inl a2), (3, .inl a3), (4, .inr (.inr (some a4))), (5, .inr (.inr (some a5))), (6, .inl a6), (7, .inl a7), (8, .inl a8)], [.inr (.inr (some 114)), .inr (.inr (some a5)), .inr (.inr (some 74))], sh, gc_h sh I J A)
  refine gv_run 1 true hD (pcₚ := 104) (lvₚ := [(0, .inr (.inr (some 0))), (1, .inl a1), (2, .inl a2), (3, .inl a3), (4, .inr (.inr (some a4))), (5, .inr (.inr (some a5))), (6, .inl a6), (7, .inl a7), (8, .inl a8)]) (stₚ := [.inl 8, .inr (.inr (some 114)), .inr (.inr (some a5)), .inr (.inr (some 74))]) (hₚ := gc_h sh I J A) (C := (True ∧ True)) rfl ⟨trivial, trivial⟩ ?_
  refine gv_aald hD rfl S_114 ⟨by decide, by decide⟩ ⟨by decide, (gz_sh B_114)⟩ ⟨by (/-14-/first | omega | (simp only [gz_hd] at *; omega)), by (/-15-/first | omega | (simp only [gz_hd] at *; omega))⟩ ((gc_aA S_114 rfl).trans (show A 114 8 = some 123 from gc_bA hb rfl)) ?_
  show gv_X _ _ (105, [(0, .inr (.inr (some 0))), (1, .inl a1), (2, .inl a2), (3, .inl a3), (4, .inr (.inr (some a4))), (5, .inr (.inr (some a5))), (6, .inl a6), (7, .inl a7), (8, .inl a8)], [.inr (.inr (some 123)), .inr (.inr (some a5)), .inr (.inr (some 74))], sh, gc_h sh I J A)
  refine gv_run 1 true hD (pcₚ := 107) (lvₚ := [(0, .inr (.inr (some 0))), (1, .inl a1), (2, .inl a2), (3, .inl a3), (4, .inr (.inr (some a4))), (5, .inr (.inr (some a5))), (6, .inl a6), (7, .inl a7), (8, .inl a8)]) (stₚ := [.inl a8, .inr (.inr (some 123)), .inr (.inr (some a5)), .inr (.inr (some 74))]) (hₚ := gc_h sh I J A) (C := (True ∧ True)) rfl ⟨trivial, trivial⟩ ?_
  obtain ⟨r12, h12, E12, P12⟩ := d_X7_findOptions_r (ws0 := ws0) (tb := tb) hws htb sh ro I J A hI  60 σ ς (I a5 13) a5 123 a8 hb h_a5 G_a5 S_123 (gz_sh R_123) (gz_sh B_123) (by decide)  ⟨by (/-16-/first | omega | (simp only [gz_hd] at *; omega)), by (/-17-/first | omega | (simp only [gz_hd] at *; omega))⟩ x0 (by (/-18-/first | omega | (simp only [gz_hd] at *; omega))) (by (/-19-/first | omega | (simp only [gz_hd] at *; omega))) x1 x2 (by (/-20-/first | omega | (simp only [gz_hd] at *; omega))) (by (/-21-/first | omega | (simp only [gz_hd] at *; omega))) 
  obtain ⟨I13, J14, rfl, hI13, g12, k12, ⟨z12, rfl, q12⟩⟩ := P12
  replace q12 := gz_hi q12
  have FI13 := gc_frc (W := fun q j => (q = 74 ∧ j = 1) ∨ (q = 74 ∧ j = 9) ∨ q = 22 ∨ q = 75 ∨ q = 76 ∨ q = 77 ∨ q = 78 ∨ q = 79 ∨ q = 80 ∨ q = 81 ∨ q = 82 ∨ q = 83 ∨ q = 84 ∨ q = 85 ∨ (q = 35 ∧ j = 1) ∨ q = 36 ∨ (126 ≤ q ∧ q ≤ 141) ∨ q = 142 ∨ (q = 0 ∧ j = 15)) (V := fun q j => (q = 74 ∧ j = 1) ∨ (q = 74 ∧ j = 9) ∨ q = 22 ∨ q = 75 ∨ q = 76 ∨ q = 77 ∨ q = 78 ∨ q = 79 ∨ q = 80 ∨ q = 81 ∨ q = 82 ∨ q = 83) FI (fun q j h => (h.elim (fun h => (Or.inl h)) (fun h => (h.elim (fun h => (Or.inr (Or.inl h))) (fun h => (h.elim (fun h => (Or.inr (Or.inr (Or.inl h)))) (fun h => (h.elim (fun h => (Or.inr (Or.inr (Or.inr (Or.inl h))))) (fun h => (h.elim (fun h => (Or.inr (Or.inr (Or.inr (Or.inr (Or.inl h)))))) (fun h => (h.elim (fun h => (Or.inr (Or.inr (Or.inr (Or.inr (Or.inr (Or.inl h))))))) (fun h => (h.elim (fun h => (Or.inr (Or.inr (Or.inr (Or.inr (Or.inr (Or.inr (Or.inl h)))))))) (fun h => (h.elim (fun h => (Or.inr (Or.inr (Or.inr (Or.inr (Or.inr (Or.inr (Or.inr (Or.inl h))))))))) (fun h => (h.elim (fun h => (Or.inr (Or.inr (Or.inr (Or.inr (Or.inr (Or.inr (Or.inr (Or.inr (Or.inl h)))))))))) (fun h => (h.elim (fun h => (Or.inr (Or.inr (Or.inr (Or.inr (Or.inr (Or.inr (Or.inr (Or.inr (Or.inr (Or.inl h))))))))))) (fun h => (h.elim (fun h => (Or.inr (Or.inr (Or.inr (Or.inr (Or.inr (Or.inr (Or.inr (Or.inr (Or.inr (Or.inr (Or.inl h)))))))))))) (fun h => (Or.inr (Or.inr (Or.inr (Or.inr (Or.inr (Or.inr (Or.inr (Or.inr (Or.inr (Or.inr (Or.inr (Or.inl h))))))))))))))))))))))))))))))))))) g12
  have t15 := gz_hi ((g12 a5 13).resolve_left (fun h => h.elim (fun h => absurd h.2 (by first | exact gz_ne rfl | decide)) (fun h => h.elim (fun h => absurd h.2 (by first | exact gz_ne rfl | decide)) (fun h => h.elim (fun h => absurd h (gz_sh N_a5__22)) (fun h => h.elim (fun h => absurd h (gz_sh N_a5__75)) (fun h => h.elim (fun h => absurd h (gz_sh N_a5__76)) (fun h => h.elim (fun h => absurd h (gz_sh N_a5__77)) (fun h => h.elim (fun h => absurd h (gz_sh N_a5__78)) (fun h => h.elim (fun h => absurd h (gz_sh N_a5__79)) (fun h => h.elim (fun h => absurd h (gz_sh N_a5__80)) (fun h => h.elim (fun h => absurd h (gz_sh N_a5__81)) (fun h => h.elim (fun h => absurd h (gz_sh N_a5__82)) (fun h => absurd h (gz_sh N_a5__83))))))))))))))
  obtain rfl : J = J14 := funext fun q => funext fun j => ((k12 q j).resolve_left id).symm
  refine gv_callV hD rfl (As := [.inr (.inr (some a5)), .inr (.inr (some 123)), .inl a8]) (st := []) rfl (gz_sh B_74) S_74 rfl (gc_lV12 hws rfl) (Nat.le_of_ble_eq_true rfl) (gz_Ev_mono (d := 10) (by decide) E12) ?_
  show gv_X _ _ (110, [(0, .inr (.inr (some 0))), (1, .inl a1), (2, .inl a2), (3, .inl a3), (4, .inr (.inr (some a4))), (5, .inr (.inr (some a5))), (6, .inl a6), (7, .inl a7), (8, .inl a8)], [.inl z12], sh, gc_h sh I13 J A)
  refine gv_if_le (t := 137) hD rfl rfl ⟨by (/-22-/first | (have o1 := gz_sh q12; omega) | (simp only [gz_hd] at *; omega)), by (/-23-/first | (have o1 := gz_sh q12; omega) | (simp only [gz_hd] at *; omega))⟩ (fun c17 => ?_) (fun c17 => ?_)
  · show gv_X _ _ (137, [(0, .inr (.inr (some 0))), (1, .inl a1), (2, .inl a2), (3, .inl a3), (4, .inr (.inr (some a4))), (5, .inr (.inr (some a5))), (6, .inl a6), (7, .inl a7), (8, .inl a8)], [], sh, gc_h sh I13 J A)
    refine gv_pick [0, 1, 2, 3, 4, 5, 6, 7] rfl ?_
    exact L137 I13 J hI13 FI13 FJ (by (/-24-/first | (and_intros; (omega); (omega); (omega); (omega); (omega); (omega); (omega); (omega); (omega); (omega); (omega); (have o1 := gz_sh q12; omega)) | (simp only [gz_hd] at *; omega)))
  · show gv_X _ _ (113, [(0, .inr (.inr (some 0))), (1, .inl a1), (2, .inl a2), (3, .inl a3), (4, .inr (.inr (some a4))), (5, .inr (.inr (some a5))), (6, .inl a6), (7, .inl a7), (8, .inl a8)], [], sh, gc_h sh I13 J A)
    refine gv_run 1 true hD (pcₚ := 114) (lvₚ := [(0, .inr (.inr (some 0))), (1, .inl a1), (2, .inl a2), (3, .inl a3), (4, .inr (.inr (some a4))), (5, .inr (.inr (some a5))), (6, .inl a6), (7, .inl a7), (8, .inl a8)]) (stₚ := [.inr (.inr (some 0))]) (hₚ := gc_h sh I13 J A) (C := (True ∧ True)) rfl ⟨trivial, trivial⟩ ?_
    refine gv_get hD rfl rfl S_0 ⟨by decide, (gz_sh B_0)⟩ (gc_hA S_0 rfl A_0_4) ?_
    show gv_X _ _ (117, [(0, .inr (.inr (some 0))), (1, .inl a1), (2, .inl a2), (3, .inl a3), (4, .inr (.inr (some a4))), (5, .inr (.inr (some a5))), (6, .inl a6), (7, .inl a7), (8, .inl a8)], [.inr (.inr (some 35))], sh, gc_h sh I13 J A)
    refine gv_run 1 true hD (pcₚ := 118) (lvₚ := [(0, .inr (.inr (some 0))), (1, .inl a1), (2, .inl a2), (3, .inl a3), (4, .inr (.inr (some a4))), (5, .inr (.inr (some a5))), (6, .inl a6), (7, .inl a7), (8, .inl a8)]) (stₚ := [.inl 0, .inr (.inr (some 35))]) (hₚ := gc_h sh I13 J A) (C := (True ∧ True)) rfl ⟨trivial, trivial⟩ ?_
    refine gv_put hD rfl rfl S_35 ⟨by decide, (gz_sh B_35)⟩ rfl trivial ?_
    refine gc_st (k := 1) hI13 S_35 rfl (gz_sh R_35) (lo := 0) (hi := 1000) rfl rfl (by (/-25-/first | omega | (simp only [gz_hd] at *; omega))) (by (/-26-/first | omega | (simp only [gz_hd] at *; omega))) (fun I18 hI18 q19 p19 => ?_)
    have FI18 := gc_frs (W := fun q j => (q = 74 ∧ j = 1) ∨ (q = 74 ∧ j = 9) ∨ q = 22 ∨ q = 75 ∨ q = 76 ∨ q = 77 ∨ q = 78 ∨ q = 79 ∨ q = 80 ∨ q = 81 ∨ q = 82 ∨ q = 83 ∨ q = 84 ∨ q = 85 ∨ (q = 35 ∧ j = 1) ∨ q = 36 ∨ (126 ≤ q ∧ q ≤ 141) ∨ q = 142 ∨ (q = 0 ∧ j = 15)) FI13 (Or.inr (Or.inr (Or.inr (Or.inr (Or.inr (Or.inr (Or.inr (Or.inr (Or.inr (Or.inr (Or.inr (Or.inr (Or.inr (Or.inr (Or.inl ⟨rfl, rfl⟩))))))))))))))) p19
    have t20 := gz_hi (p19 a5 13 (fun h => absurd h.2 (by first | exact gz_ne rfl | decide)))
    have t21 := gz_hi (p19 74 1 (fun h => absurd h.1 (by first | exact gz_ne rfl | decide)))
    have t22 := gz_hi (p19 76 0 (fun h => absurd h.2 (by first | exact gz_ne rfl | decide)))
    show gv_X _ _ (121, [(0, .inr (.inr (some 0))), (1, .inl a1), (2, .inl a2), (3, .inl a3), (4, .inr (.inr (some a4))), (5, .inr (.inr (some a5))), (6, .inl a6), (7, .inl a7), (8, .inl a8)], [], sh, gc_h sh I18 J A)
    refine gv_run 1 true hD (pcₚ := 122) (lvₚ := [(0, .inr (.inr (some 0))), (1, .inl a1), (2, .inl a2), (3, .inl a3), (4, .inr (.inr (some a4))), (5, .inr (.inr (some a5))), (6, .inl a6), (7, .inl a7), (8, .inl a8)]) (stₚ := [.inr (.inr (some 0))]) (hₚ := gc_h sh I18 J A) (C := (True ∧ True)) rfl ⟨trivial, trivial⟩ ?_
    refine gv_get hD rfl rfl S_0 ⟨by decide, (gz_sh B_0)⟩ (gc_hA S_0 rfl A_0_8) ?_
    show gv_X _ _ (125, [(0, .inr (.inr (some 0))), (1, .inl a1), (2, .inl a2), (3, .inl a3), (4, .inr (.inr (some a4))), (5, .inr (.inr (some a5))), (6, .inl a6), (7, .inl a7), (8, .inl a8)], [.inr (.inr (some 74))], sh, gc_h sh I18 J A)
    refine gv_run 2 true hD (pcₚ := 127) (lvₚ := [(0, .inr (.inr (some 0))), (1, .inl a1), (2, .inl a2), (3, .inl a3), (4, .inr (.inr (some a4))), (5, .inr (.inr (some a5))), (6, .inl a6), (7, .inl a7), (8, .inl a8)]) (stₚ := [.inr (.inr (some 0)), .inl 0, .inr (.inr (some 74))]) (hₚ := gc_h sh I18 J A) (C := ((True ∧ True) ∧ True)) rfl ⟨⟨trivial, trivial⟩, trivial⟩ ?_
    refine gv_get hD rfl rfl S_0 ⟨by decide, (gz_sh B_0)⟩ (gc_hA S_0 rfl A_0_4) ?_
    show gv_X _ _ (130, [(0, .inr (.inr (some 0))), (1, .inl a1), (2, .inl a2), (3, .inl a3), (4, .inr (.inr (some a4))), (5, .inr (.inr (some a5))), (6, .inl a6), (7, .inl a7), (8, .inl a8)], [.inr (.inr (some 35)), .inl 0, .inr (.inr (some 74))], sh, gc_h sh I18 J A)
    obtain ⟨r23, h23, E23, P23⟩ := d_X7_write (ws0 := ws0) (tb := tb) hws htb sh ro I18 J A hI18  a5 σ ς (I a5 13) a8 0 35 hb (gc_b35 hb) (by (/-27-/first | omega | (simp only [gz_hd] at *; omega))) h_a5 G_a5  ⟨by (/-28-/first | omega | (simp only [gz_hd] at *; omega)), by (/-29-/first | omega | (simp only [gz_hd] at *; omega))⟩ (gc_OE_fr (gz_sh q12).2.2.1 (fun k => (p19 75 k (fun h => absurd h.1 (by (/-30-/first | omega | (simp only [gz_hd] at *; omega)))))) (fun k => (p19 76 k (fun h => absurd h.1 (by (/-31-/first | omega | (simp only [gz_hd] at *; omega)))))) (fun k => (p19 80 k (fun h => absurd h.1 (by (/-32-/first | omega | (simp only [gz_hd] at *; omega)))))) (fun k => (p19 81 k (fun h => absurd h.1 (by (/-33-/first | omega | (simp only [gz_hd] at *; omega))))))) (gc_Ls_fr x1 (((p19 a5 13 (fun h => absurd h.1 (by (/-34-/first | (have o1 := gz_sh B_a5; have o2 := gz_sh B_a5_10; have o3 := gz_sh B_a5_13; have o4 := gz_sh B_a5_14; have o5 := gz_sh B_a5_15; have o6 := gz_sh B_a5_16; have o7 := gz_sh B_a5_17; have o8 := gz_sh B_a5_17_1; have o9 := gz_sh B_a5_17_2; have o10 := gz_sh B_a5_17_3; have o11 := gz_sh B_a5_17_4; have o12 := gz_sh B_a5_17_5; have o13 := gz_sh B_a5_17_6; have o14 := gz_sh B_a5_17_7; have o15 := gz_sh B_a5_5; have o16 := gz_sh B_a5_6; have o17 := gz_sh B_a5_9; have o18 := gz_sh q12; have o19 := gz_sh t21; omega) | (simp only [gz_hd] at *; omega))))).trans ((g12 a5 13).resolve_left (by (/-35-/first | (have o1 := gz_sh B_a5; have o2 := gz_sh B_a5_10; have o3 := gz_sh B_a5_13; have o4 := gz_sh B_a5_14; have o5 := gz_sh B_a5_15; have o6 := gz_sh B_a5_16; have o7 := gz_sh B_a5_17; have o8 := gz_sh B_a5_17_1; have o9 := gz_sh B_a5_17_2; have o10 := gz_sh B_a5_17_3; have o11 := gz_sh B_a5_17_4; have o12 := gz_sh B_a5_17_5; have o13 := gz_sh B_a5_17_6; have o14 := gz_sh B_a5_17_7; have o15 := gz_sh B_a5_5; have o16 := gz_sh B_a5_6; have o17 := gz_sh B_a5_9; have o18 := gz_sh q12; have o19 := gz_sh t21; omega) | (simp only [gz_hd] at *; omega)))))) (fun q b2 b3 d k hd => by have b4 := gc_dj_LT b2 h_a5; exact ((p19 (q + d) k (fun h => absurd h.1 (by (/-36-/first | omega | (simp only [gz_hd] at *; omega))))).trans ((g12 (q + d) k).resolve_left (by (/-37-/first | omega | (simp only [gz_hd] at *; omega))))))) (gc_LP_fr x2 x1 (((p19 a5 13 (fun h => absurd h.1 (by (/-38-/first | (have o1 := gz_sh B_a5; have o2 := gz_sh B_a5_10; have o3 := gz_sh B_a5_13; have o4 := gz_sh B_a5_14; have o5 := gz_sh B_a5_15; have o6 := gz_sh B_a5_16; have o7 := gz_sh B_a5_17; have o8 := gz_sh B_a5_17_1; have o9 := gz_sh B_a5_17_2; have o10 := gz_sh B_a5_17_3; have o11 := gz_sh B_a5_17_4; have o12 := gz_sh B_a5_17_5; have o13 := gz_sh B_a5_17_6; have o14 := gz_sh B_a5_17_7; have o15 := gz_sh B_a5_5; have o16 := gz_sh B_a5_6; have o17 := gz_sh B_a5_9; have o18 := gz_sh q12; have o19 := gz_sh t21; omega) | (simp only [gz_hd] at *; omega))))).trans ((g12 a5 13).resolve_left (by (/-39-/first | (have o1 := gz_sh B_a5; have o2 := gz_sh B_a5_10; have o3 := gz_sh B_a5_13; have o4 := gz_sh B_a5_14; have o5 := gz_sh B_a5_15; have o6 := gz_sh B_a5_16; have o7 := gz_sh B_a5_17; have o8 := gz_sh B_a5_17_1; have o9 := gz_sh B_a5_17_2; have o10 := gz_sh B_a5_17_3; have o11 := gz_sh B_a5_17_4; have o12 := gz_sh B_a5_17_5; have o13 := gz_sh B_a5_17_6; have o14 := gz_sh B_a5_17_7; have o15 := gz_sh B_a5_5; have o16 := gz_sh B_a5_6; have o17 := gz_sh B_a5_9; have o18 := gz_sh q12; have o19 := gz_sh t21; omega) | (simp only [gz_hd] at *; omega)))))) (fun q b2 b3 d k hd => by have b4 := gc_dj_LT b2 h_a5; exact ((p19 (q + d) k (fun h => absurd h.1 (by (/-40-/first | omega | (simp only [gz_hd] at *; omega))))).trans ((g12 (q + d) k).resolve_left (by (/-41-/first | omega | (simp only [gz_hd] at *; omega)))))) (fun k => ((p19 12 k (fun h => absurd h.1 (by (/-42-/first | omega | (simp only [gz_hd] at *; omega))))).trans ((g12 12 k).resolve_left (by (/-43-/first | omega | (simp only [gz_hd] at *; omega))))))) (gh_SO_fr x3 x1 (((p19 a5 13 (fun h => absurd h.1 (by (/-44-/first | (have o1 := gz_sh B_a5; have o2 := gz_sh B_a5_10; have o3 := gz_sh B_a5_13; have o4 := gz_sh B_a5_14; have o5 := gz_sh B_a5_15; have o6 := gz_sh B_a5_16; have o7 := gz_sh B_a5_17; have o8 := gz_sh B_a5_17_1; have o9 := gz_sh B_a5_17_2; have o10 := gz_sh B_a5_17_3; have o11 := gz_sh B_a5_17_4; have o12 := gz_sh B_a5_17_5; have o13 := gz_sh B_a5_17_6; have o14 := gz_sh B_a5_17_7; have o15 := gz_sh B_a5_5; have o16 := gz_sh B_a5_6; have o17 := gz_sh B_a5_9; have o18 := gz_sh q12; have o19 := gz_sh t21; omega) | (simp only [gz_hd] at *; omega))))).trans ((g12 a5 13).resolve_left (by (/-45-/first | (have o1 := gz_sh B_a5; have o2 := gz_sh B_a5_10; have o3 := gz_sh B_a5_13; have o4 := gz_sh B_a5_14; have o5 := gz_sh B_a5_15; have o6 := gz_sh B_a5_16; have o7 := gz_sh B_a5_17; have o8 := gz_sh B_a5_17_1; have o9 := gz_sh B_a5_17_2; have o10 := gz_sh B_a5_17_3; have o11 := gz_sh B_a5_17_4; have o12 := gz_sh B_a5_17_5; have o13 := gz_sh B_a5_17_6; have o14 := gz_sh B_a5_17_7; have o15 := gz_sh B_a5_5; have o16 := gz_sh B_a5_6; have o17 := gz_sh B_a5_9; have o18 := gz_sh q12; have o19 := gz_sh t21; omega) | (simp only [gz_hd] at *; omega)))))) (fun q b2 b3 d k hd => by have b4 := gc_dj_LT b2 h_a5; exact ((p19 (q + d) k (fun h => absurd h.1 (by (/-46-/first | omega | (simp only [gz_hd] at *; omega))))).trans ((g12 (q + d) k).resolve_left (by (/-47-/first | omega | (simp only [gz_hd] at *; omega)))))) (fun k => ((p19 12 k (fun h => absurd h.1 (by (/-48-/first | omega | (simp only [gz_hd] at *; omega))))).trans ((g12 12 k).resolve_left (by (/-49-/first | omega | (simp only [gz_hd] at *; omega))))))) (gh_AG_fr x4 x1 (((p19 a5 13 (fun h => absurd h.1 (by (/-50-/first | (have o1 := gz_sh B_a5; have o2 := gz_sh B_a5_10; have o3 := gz_sh B_a5_13; have o4 := gz_sh B_a5_14; have o5 := gz_sh B_a5_15; have o6 := gz_sh B_a5_16; have o7 := gz_sh B_a5_17; have o8 := gz_sh B_a5_17_1; have o9 := gz_sh B_a5_17_2; have o10 := gz_sh B_a5_17_3; have o11 := gz_sh B_a5_17_4; have o12 := gz_sh B_a5_17_5; have o13 := gz_sh B_a5_17_6; have o14 := gz_sh B_a5_17_7; have o15 := gz_sh B_a5_5; have o16 := gz_sh B_a5_6; have o17 := gz_sh B_a5_9; have o18 := gz_sh q12; have o19 := gz_sh t21; omega) | (simp only [gz_hd] at *; omega))))).trans ((g12 a5 13).resolve_left (by (/-51-/first | (have o1 := gz_sh B_a5; have o2 := gz_sh B_a5_10; have o3 := gz_sh B_a5_13; have o4 := gz_sh B_a5_14; have o5 := gz_sh B_a5_15; have o6 := gz_sh B_a5_16; have o7 := gz_sh B_a5_17; have o8 := gz_sh B_a5_17_1; have o9 := gz_sh B_a5_17_2; have o10 := gz_sh B_a5_17_3; have o11 := gz_sh B_a5_17_4; have o12 := gz_sh B_a5_17_5; have o13 := gz_sh B_a5_17_6; have o14 := gz_sh B_a5_17_7; have o15 := gz_sh B_a5_5; have o16 := gz_sh B_a5_6; have o17 := gz_sh B_a5_9; have o18 := gz_sh q12; have o19 := gz_sh t21; omega) | (simp only [gz_hd] at *; omega)))))) (fun q b2 b3 d k hd => by have b4 := gc_dj_LT b2 h_a5; exact ((p19 (q + d) k (fun h => absurd h.1 (by (/-52-/first | omega | (simp only [gz_hd] at *; omega))))).trans ((g12 (q + d) k).resolve_left (by (/-53-/first | omega | (simp only [gz_hd] at *; omega)))))) (fun k => ((p19 12 k (fun h => absurd h.1 (by (/-54-/first | omega | (simp only [gz_hd] at *; omega))))).trans ((g12 12 k).resolve_left (by (/-55-/first | omega | (simp only [gz_hd] at *; omega))))))) (by (/-56-/first | (have o1 := gz_sh t15; have o2 := gz_sh t20; omega) | (simp only [gz_hd] at *; omega))) (show gc_EL _ _ _ from ⟨by (/-57-/first | omega | (simp only [gz_hd] at *; omega)), by (/-58-/first | omega | (simp only [gz_hd] at *; omega)), by rw [show Int.toNat 0 / 24 = 0 from by (/-59-/first | omega | (simp only [gz_hd] at *; omega))]; (/-60-/first | (have o1 := gz_sh q12; have o2 := gz_sh t22; omega) | (simp only [gz_hd] at *; omega))⟩) (by (/-61-/first | omega | (simp only [gz_hd] at *; omega))) (by (/-62-/first | (have o1 := gz_sh q12; have o2 := gz_sh t21; omega) | (simp only [gz_hd] at *; omega))) 
    obtain ⟨I24, J25, rfl, hI24, g23, k23, rfl⟩ := P23
    have FI24 := gc_frc (W := fun q j => (q = 74 ∧ j = 1) ∨ (q = 74 ∧ j = 9) ∨ q = 22 ∨ q = 75 ∨ q = 76 ∨ q = 77 ∨ q = 78 ∨ q = 79 ∨ q = 80 ∨ q = 81 ∨ q = 82 ∨ q = 83 ∨ q = 84 ∨ q = 85 ∨ (q = 35 ∧ j = 1) ∨ q = 36 ∨ (126 ≤ q ∧ q ≤ 141) ∨ q = 142 ∨ (q = 0 ∧ j = 15)) (V := fun q j => q = 84 ∨ q = 85 ∨ (q = 35 ∧ j = 1) ∨ q = 36) FI18 (fun q j h => (h.elim (fun h => (Or.inr (Or.inr (Or.inr (Or.inr (Or.inr (Or.inr (Or.inr (Or.inr (Or.inr (Or.inr (Or.inr (Or.inr (Or.inl h)))))))))))))) (fun h => (h.elim (fun h => (Or.inr (Or.inr (Or.inr (Or.inr (Or.inr (Or.inr (Or.inr (Or.inr (Or.inr (Or.inr (Or.inr (Or.inr (Or.inr (Or.inl h))))))))))))))) (fun h => (h.elim (fun h => (Or.inr (Or.inr (Or.inr (Or.inr (Or.inr (Or.inr (Or.inr (Or.inr (Or.inr (Or.inr (Or.inr (Or.inr (Or.inr (Or.inr (Or.inl h)))))))))))))))) (fun h => (Or.inr (Or.inr (Or.inr (Or.inr (Or.inr (Or.inr (Or.inr (Or.inr (Or.inr (Or.inr (Or.inr (Or.inr (Or.inr (Or.inr (Or.inr (Or.inl h))))))))))))))))))))))) g23
    have t27 := gz_hi ((g23 74 1).resolve_left (fun h => h.elim (fun h => absurd h (by first | exact gz_ne rfl | decide)) (fun h => h.elim (fun h => absurd h (by first | exact gz_ne rfl | decide)) (fun h => h.elim (fun h => absurd h.1 (by first | exact gz_ne rfl | decide)) (fun h => absurd h (by first | exact gz_ne rfl | decide))))))
    obtain rfl : J = J25 := funext fun q => funext fun j => ((k23 q j).resolve_left id).symm
    refine gv_callV hD rfl (As := [.inl 0, .inr (.inr (some 35))]) (st := []) rfl (gz_sh B_74) S_74 rfl (gc_lV12 hws rfl) (Nat.le_of_ble_eq_true rfl) (gz_Ev_mono (d := 4) (by decide) E23) ?_
    show gv_X _ _ (133, [(0, .inr (.inr (some 0))), (1, .inl a1), (2, .inl a2), (3, .inl a3), (4, .inr (.inr (some a4))), (5, .inr (.inr (some a5))), (6, .inl a6), (7, .inl a7), (8, .inl a8)], [], sh, gc_h sh I24 J A)
    refine gv_run 1 true hD (pcₚ := 134) (lvₚ := [(0, .inr (.inr (some 0))), (1, .inl a1), (2, .inl a2), (3, .inl a3), (4, .inr (.inr (some a4))), (5, .inr (.inr (some a5))), (6, .inl a6), (7, .inl a7), (8, .inl a8)]) (stₚ := [.inr (.inr (some 0))]) (hₚ := gc_h sh I24 J A) (C := (True ∧ True)) rfl ⟨trivial, trivial⟩ ?_
    obtain ⟨r29, h29, E29, P29⟩ := d_X12_noteCandidate (ws0 := ws0) (tb := tb) hws htb sh ro I24 J A hI24   hb     
    obtain ⟨I30, J31, rfl, hI30, g29, k29, rfl⟩ := P29
    have FI30 := gc_frc (W := fun q j => (q = 74 ∧ j = 1) ∨ (q = 74 ∧ j = 9) ∨ q = 22 ∨ q = 75 ∨ q = 76 ∨ q = 77 ∨ q = 78 ∨ q = 79 ∨ q = 80 ∨ q = 81 ∨ q = 82 ∨ q = 83 ∨ q = 84 ∨ q = 85 ∨ (q = 35 ∧ j = 1) ∨ q = 36 ∨ (126 ≤ q ∧ q ≤ 141) ∨ q = 142 ∨ (q = 0 ∧ j = 15)) (V := fun q j => (126 ≤ q ∧ q ≤ 141) ∨ q = 142 ∨ (q = 0 ∧ j = 15)) FI24 (fun q j h => (h.elim (fun h => (Or.inr (Or.inr (Or.inr (Or.inr (Or.inr (Or.inr (Or.inr (Or.inr (Or.inr (Or.inr (Or.inr (Or.inr (Or.inr (Or.inr (Or.inr (Or.inr (Or.inl h)))))))))))))))))) (fun h => (h.elim (fun h => (Or.inr (Or.inr (Or.inr (Or.inr (Or.inr (Or.inr (Or.inr (Or.inr (Or.inr (Or.inr (Or.inr (Or.inr (Or.inr (Or.inr (Or.inr (Or.inr (Or.inr (Or.inl h))))))))))))))))))) (fun h => (Or.inr (Or.inr (Or.inr (Or.inr (Or.inr (Or.inr (Or.inr (Or.inr (Or.inr (Or.inr (Or.inr (Or.inr (Or.inr (Or.inr (Or.inr (Or.inr (Or.inr (Or.inr h))))))))))))))))))))))) g29
    have t33 := gz_hi ((g29 74 1).resolve_left (by (/-64-/first | omega | (simp only [gz_hd] at *; omega))))
    obtain rfl : J = J31 := funext fun q => funext fun j => ((k29 q j).resolve_left id).symm
    refine gv_callV hD rfl (As := []) (st := []) rfl (gz_sh B_0) S_0 rfl (gc_lV12 hws rfl) (Nat.le_of_ble_eq_true rfl) (gz_Ev_mono (d := 2) (by decide) E29) ?_
    show gv_X _ _ (137, [(0, .inr (.inr (some 0))), (1, .inl a1), (2, .inl a2), (3, .inl a3), (4, .inr (.inr (some a4))), (5, .inr (.inr (some a5))), (6, .inl a6), (7, .inl a7), (8, .inl a8)], [], sh, gc_h sh I30 J A)
    refine gv_pick [0, 1, 2, 3, 4, 5, 6, 7] rfl ?_
    exact L137 I30 J hI30 FI30 FJ (by (/-66-/first | (and_intros; (omega); (omega); (omega); (omega); (omega); (omega); (omega); (omega); (omega); (omega); (omega); (have o1 := gz_sh q12; have o2 := gz_sh t21; have o3 := gz_sh t27; have o4 := gz_sh t33; omega)) | (simp only [gz_hd] at *; omega)))
