set_option maxHeartbeats 8000000 in
set_option maxRecDepth 100000 in
theorem d_X0_fill_m_L32 {ws0 : List Cond} {tb : String → gz_T} (hws : gc_Ws ws0) (htb : gc_tbs tb) (sh : gz_Sh) (ro : Nat → Nat) (I : gr_I) (J : gr_J) (A : gc_A) (hI : gc_Inv ro I) (a1 : Nat) (a2 : Nat) (a3 : Int) (hb : gc_Base sh ro A) (h_a1 : gc_isTongue sh ro A a1) (G_a1 : 144 ≤ a1) (h_a2 : gc_isText sh ro A a2) (G_a2 : a2 + 3 < 39 ∨ (100 ≤ a2 ∧ a2 < 140)) (ha3 : 0 ≤ a3 ∧ a3 ≤ 31) (x0 : gc_Ls sh ro A a1 I) (x1 : gc_SP a2 I) (x2 : I 48 11 ≤ 400000) (x3 : a3 < I 2 1) (x4 : 1 ≤ I a2 4) (x5 : ∀ i q : Nat, (i : Int) < I a1 13 → A (a1 + 16) i = some q → gc_un q (gc_lk A I a1 i) I) (x6 : gc_FB (a1 + 17) (24 * I a1 11) I) (KFN_I : gc_FN I) (KFZ_I : gc_FZ I) : ∀ (n9 : Nat) (I14 : gr_I) (J15 : gr_J) (v4_16 : Int) (v5_16 : Int), (26 - v5_16).toNat < n9 → gc_Inv ro I14 → (∀ q j : Nat, ((q = 48 ∧ j = 3) ∨ (q = 48 ∧ j = 6) ∨ (q = 48 ∧ j = 12) ∨ q = 51 ∨ q = 52 ∨ q = 53 ∨ q = 54 ∨ q = 55 ∨ (q = 48 ∧ j = 11) ∨ q = 58 ∨ q = 59 ∨ q = 60 ∨ (q = 48 ∧ j = 17) ∨ (q = 48 ∧ j = 18) ∨ q = 49 ∨ q = 50 ∨ (q = 48 ∧ j = 13) ∨ (q = 48 ∧ j = 14) ∨ (q = 48 ∧ j = 10) ∨ q = 56 ∨ q = 57 ∨ q = (a1 + 22)) ∨ I14 q j = I q j) → (∀ q j : Nat, (False) ∨ J15 q j = J q j) → gc_FN I14 → gc_FZ I14 → gc_WV a1 I14 → gc_LO a1 I14 → gc_WA (gc_lsl A I a1) I14 → gc_LK (gc_lk A I a1) I14 → gc_TR I14 → gc_WB (24 * I a1 11) I14 → ((0 ≤ a3 ∧ a3 ≤ 31) ∧ (1 ≤ v4_16 ∧ v4_16 ≤ 24) ∧ (1 ≤ v5_16 ∧ v5_16 ≤ 25) ∧ (v4_16 = I a2 4) ∧ (v5_16 ≤ v4_16 + 1) ∧ (I14 48 11 ≤ 400001) ∧ (I14 48 13 = (a1 : Int)) ∧ (I14 48 14 = (a2 : Int)) ∧ (I14 2 1 = I 2 1) ∧ (I14 a2 4 = I a2 4) ∧ (I14 a1 13 = I a1 13)) → (gc_OF (I a2 4) (I 2 1) v5_16 0 0 I14) → gv_X (gc_E0 ws0 tb 11 (yX0_fill, cX0_fill, 9, (some .int)) kX0_fill) (gv_Q cX0_fill (some .int) sh (fun r h' => (∃ (I' : gr_I) (J' : gr_J), h' = gc_h sh I' J' A ∧ gc_Inv ro I' ∧ (∀ q j : Nat, ((q = 48 ∧ j = 3) ∨ (q = 48 ∧ j = 6) ∨ (q = 48 ∧ j = 12) ∨ q = 51 ∨ q = 52 ∨ q = 53 ∨ q = 54 ∨ q = 55 ∨ (q = 48 ∧ j = 11) ∨ q = 58 ∨ q = 59 ∨ q = 60 ∨ (q = 48 ∧ j = 17) ∨ (q = 48 ∧ j = 18) ∨ q = 49 ∨ q = 50 ∨ (q = 48 ∧ j = 13) ∨ (q = 48 ∧ j = 14) ∨ (q = 48 ∧ j = 10) ∨ q = 56 ∨ q = 57 ∨ q = (a1 + 22)) ∨ I' q j = I q j) ∧ (∀ q j : Nat, (False) ∨ J' q j = J q j) ∧ gc_FN I' ∧ gc_FZ I' ∧ (∃ z : Int, r = some (.inl z) ∧ (-1) ≤ z ∧ z ≤ 1 ∧ (gc_WV a1 I') ∧ (I' 48 12 = 1 ∨ I' 48 11 ≤ 400000) ∧ (gc_WA (gc_lsl A I a1) I') ∧ (z = -1 ∨ I' 49 (Int.toNat (I' 48 10)) + I' 50 (Int.toNat (I' 48 10)) ≤ I' 48 3) ∧ (gc_WB (24 * I a1 11) I') ∧ (z = -1 ∨ I' 48 11 ≤ 400000) ∧ (I' 48 13 = (a1 : Int) ∧ I' 48 14 = (a2 : Int)))))) (32, [(0, .inr (.inr (some 48))), (1, .inr (.inr (some a1))), (2, .inr (.inr (some a2))), (3, .inl a3), (4, .inl v4_16), (5, .inl v5_16)], [], sh, gc_h sh I14 J15 A) := by
  have FI : ∀ q j : Nat, ((q = 48 ∧ j = 3) ∨ (q = 48 ∧ j = 6) ∨ (q = 48 ∧ j = 12) ∨ q = 51 ∨ q = 52 ∨ q = 53 ∨ q = 54 ∨ q = 55 ∨ (q = 48 ∧ j = 11) ∨ q = 58 ∨ q = 59 ∨ q = 60 ∨ (q = 48 ∧ j = 17) ∨ (q = 48 ∧ j = 18) ∨ q = 49 ∨ q = 50 ∨ (q = 48 ∧ j = 13) ∨ (q = 48 ∧ j = 14) ∨ (q = 48 ∧ j = 10) ∨ q = 56 ∨ q = 57 ∨ q = (a1 + 22)) ∨ I q j = I q j := fun _ _ => Or.inr rfl
  have FJ : ∀ q j : Nat, (False) ∨ J q j = J q j := fun _ _ => Or.inr rfl
  have A_1_0 : A 1 0 = some 2 := gc_bA_1_0 hb
  have A_48_0 : A 48 0 = some 1 := gc_bA_48_0 hb
  have A_48_2 : A 48 2 = some 50 := gc_bA_48_2 hb
  have B_1 : 1 < 1000000 := by decide
  have B_2 : 2 < 1000000 := by decide
  have B_48 : 48 < 1000000 := by decide
  have B_50 : 50 < 1000000 := by decide
  have R_2 : ro 2 = 9 := gc_bR_2 hb
  have R_48 : ro 48 = 49 := gc_bR_48 hb
  have R_50 : ro 50 = 43 := gc_bR_50 hb
  have S_1 : sh[1]? = some (false, 8, 21) := gc_bS_1 hb
  have S_2 : sh[2]? = some (false, 4, 2) := gc_bS_2 hb
  have S_48 : sh[48]? = some (false, 0, 22) := gc_bS_48 hb
  have S_50 : sh[50]? = some (true, 1, 18432) := gc_bS_50 hb
  obtain ⟨S_a1, R_a1, B_a1, A_a1_0, h_a1_1, A_a1_1, h_a1_3, A_a1_2, S_a1_5, R_a1_5, B_a1_5, A_a1_3, S_a1_6, R_a1_6, B_a1_6, A_a1_4, h_a1_7, A_a1_5, S_a1_9, R_a1_9, B_a1_9, A_a1_7, S_a1_10, R_a1_10, B_a1_10, A_a1_8, h_a1_11, A_a1_9, S_a1_13, R_a1_13, B_a1_13, A_a1_10, S_a1_14, R_a1_14, B_a1_14, A_a1_12, S_a1_15, R_a1_15, B_a1_15, A_a1_14, S_a1_16, R_a1_16, B_a1_16, A_a1_15, h_a1_17⟩ := id h_a1
  obtain ⟨S_a1_1, R_a1_1, B_a1_1, A_a1_1_0, S_a1_1_1, R_a1_1_1, B_a1_1_1, Q0_a1_1, Q1_a1_1, Q2_a1_1⟩ := id h_a1_1
  obtain ⟨S_a1_3, R_a1_3, B_a1_3, A_a1_3_0, S_a1_3_1, R_a1_3_1, B_a1_3_1, Q0_a1_3, Q1_a1_3, Q2_a1_3⟩ := id h_a1_3
  obtain ⟨S_a1_7, R_a1_7, B_a1_7, A_a1_7_0, S_a1_7_1, R_a1_7_1, B_a1_7_1, Q0_a1_7, Q1_a1_7, Q2_a1_7⟩ := id h_a1_7
  obtain ⟨S_a1_11, R_a1_11, B_a1_11, A_a1_11_0, S_a1_11_1, R_a1_11_1, B_a1_11_1, Q0_a1_11, Q1_a1_11, Q2_a1_11⟩ := id h_a1_11
  obtain ⟨S_a1_17, R_a1_17, B_a1_17, A_a1_17_0, S_20, R_20, B_20, A_a1_17_1, S_a1_17_1, R_a1_17_1, B_a1_17_1, A_a1_17_2, S_a1_17_2, R_a1_17_2, B_a1_17_2, A_a1_17_3, S_a1_17_3, R_a1_17_3, B_a1_17_3, A_a1_17_4, S_a1_17_4, R_a1_17_4, B_a1_17_4, A_a1_17_5, S_a1_17_5, R_a1_17_5, B_a1_17_5, S_a1_17_6, R_a1_17_6, B_a1_17_6, S_a1_17_7, R_a1_17_7, B_a1_17_7⟩ := id h_a1_17
  obtain ⟨S_a2, R_a2, B_a2, A_a2_0, S_a2_1, R_a2_1, B_a2_1, A_a2_2, S_a2_2, R_a2_2, B_a2_2, A_a2_3, S_a2_3, R_a2_3, B_a2_3⟩ := id h_a2
  have hD : gv_D (gc_E0 ws0 tb 11 (yX0_fill, cX0_fill, 9, (some .int)) kX0_fill) := gq_of oX0_fill
  have N_a2__51 : ¬ (a2 = 51) := by exact gz_m 0 (by omega)
  have N_a2__52 : ¬ (a2 = 52) := by exact gz_m 1 (by omega)
  have N_a2__53 : ¬ (a2 = 53) := by exact gz_m 2 (by omega)
  have N_a2__54 : ¬ (a2 = 54) := by exact gz_m 3 (by omega)
  have N_a2__55 : ¬ (a2 = 55) := by exact gz_m 4 (by omega)
  have N_a2__58 : ¬ (a2 = 58) := by exact gz_m 5 (by omega)
  have N_a2__59 : ¬ (a2 = 59) := by exact gz_m 6 (by omega)
  have N_a2__60 : ¬ (a2 = 60) := by exact gz_m 7 (by omega)
  have N_a2__49 : ¬ (a2 = 49) := by exact gz_m 8 (by omega)
  have N_a2__50 : ¬ (a2 = 50) := by exact gz_m 9 (by omega)
  have N_a2__56 : ¬ (a2 = 56) := by exact gz_m 10 (by omega)
  have N_a2__57 : ¬ (a2 = 57) := by exact gz_m 11 (by omega)
  have N_a2__a1_22 : ¬ (a2 = (a1 + 22)) := by exact gz_m 12 (by omega)
  have N_a2_2__48 : ¬ ((a2 + 2) = 48) := by exact gz_m 13 (by omega)
  have N_a2_2__51 : ¬ ((a2 + 2) = 51) := by exact gz_m 14 (by omega)
  have N_a2_2__52 : ¬ ((a2 + 2) = 52) := by exact gz_m 15 (by omega)
  have N_a2_2__53 : ¬ ((a2 + 2) = 53) := by exact gz_m 16 (by omega)
  have N_a2_2__54 : ¬ ((a2 + 2) = 54) := by exact gz_m 17 (by omega)
  have N_a2_2__55 : ¬ ((a2 + 2) = 55) := by exact gz_m 18 (by omega)
  have N_a2_2__58 : ¬ ((a2 + 2) = 58) := by exact gz_m 19 (by omega)
  have N_a2_2__59 : ¬ ((a2 + 2) = 59) := by exact gz_m 20 (by omega)
  have N_a2_2__60 : ¬ ((a2 + 2) = 60) := by exact gz_m 21 (by omega)
  have N_a2_2__49 : ¬ ((a2 + 2) = 49) := by exact gz_m 22 (by omega)
  have N_a2_2__50 : ¬ ((a2 + 2) = 50) := by exact gz_m 23 (by omega)
  have N_a2_2__56 : ¬ ((a2 + 2) = 56) := by exact gz_m 24 (by omega)
  have N_a2_2__57 : ¬ ((a2 + 2) = 57) := by exact gz_m 25 (by omega)
  have N_a2_2__a1_22 : ¬ ((a2 + 2) = (a1 + 22)) := by exact gz_m 26 (by omega)
  have N_a2_3__48 : ¬ ((a2 + 3) = 48) := by exact gz_m 27 (by omega)
  have N_a2_3__51 : ¬ ((a2 + 3) = 51) := by exact gz_m 28 (by omega)
  have N_a2_3__52 : ¬ ((a2 + 3) = 52) := by exact gz_m 29 (by omega)
  have N_a2_3__53 : ¬ ((a2 + 3) = 53) := by exact gz_m 30 (by omega)
  have N_a2_3__54 : ¬ ((a2 + 3) = 54) := by exact gz_m 31 (by omega)
  have N_a2_3__55 : ¬ ((a2 + 3) = 55) := by exact gz_m 32 (by omega)
  have N_a2_3__58 : ¬ ((a2 + 3) = 58) := by exact gz_m 33 (by omega)
  have N_a2_3__59 : ¬ ((a2 + 3) = 59) := by exact gz_m 34 (by omega)
  have N_a2_3__60 : ¬ ((a2 + 3) = 60) := by exact gz_m 35 (by omega)
  have N_a2_3__49 : ¬ ((a2 + 3) = 49) := by exact gz_m 36 (by omega)
  have N_a2_3__50 : ¬ ((a2 + 3) = 50) := by exact gz_m 37 (by omega)
  have N_a2_3__56 : ¬ ((a2 + 3) = 56) := by exact gz_m 38 (by omega)
  have N_a2_3__57 : ¬ ((a2 + 3) = 57) := by exact gz_m 39 (by omega)
  have N_a2_3__a1_22 : ¬ ((a2 + 3) = (a1 + 22)) := by exact gz_m 40 (by omega)
  have N_13__a1_22 : ¬ (13 = (a1 + 22)) := by exact gz_m 41 (by omega)
  have N_a1__51 : ¬ (a1 = 51) := by exact gz_m 42 (by omega)
  have N_a1__52 : ¬ (a1 = 52) := by exact gz_m 43 (by omega)
  have N_a1__53 : ¬ (a1 = 53) := by exact gz_m 44 (by omega)
  have N_a1__54 : ¬ (a1 = 54) := by exact gz_m 45 (by omega)
  have N_a1__55 : ¬ (a1 = 55) := by exact gz_m 46 (by omega)
  have N_a1__58 : ¬ (a1 = 58) := by exact gz_m 47 (by omega)
  have N_a1__59 : ¬ (a1 = 59) := by exact gz_m 48 (by omega)
  have N_a1__60 : ¬ (a1 = 60) := by exact gz_m 49 (by omega)
  have N_a1__49 : ¬ (a1 = 49) := by exact gz_m 50 (by omega)
  have N_a1__50 : ¬ (a1 = 50) := by exact gz_m 51 (by omega)
  have N_a1__48 : ¬ (a1 = 48) := by exact gz_m 52 (by omega)
  have N_48__a1_22 : ¬ (48 = (a1 + 22)) := by exact gz_m 53 (by omega)
  have N_a1__a1_22 : ¬ (a1 = (a1 + 22)) := by exact gz_m 54 (by omega)
  have N_2__a1_22 : ¬ (2 = (a1 + 22)) := by exact gz_m 55 (by omega)
  have N_49__a1_22 : ¬ (49 = (a1 + 22)) := by exact gz_m 56 (by omega)
  have N_50__a1_22 : ¬ (50 = (a1 + 22)) := by exact gz_m 57 (by omega)
  have N_54__a1_22 : ¬ (54 = (a1 + 22)) := by exact gz_m 58 (by omega)
  have N_56__a1_22 : ¬ (56 = (a1 + 22)) := by exact gz_m 59 (by omega)
  have N_57__a1_22 : ¬ (57 = (a1 + 22)) := by exact gz_m 60 (by omega)
  have N_53__a1_22 : ¬ (53 = (a1 + 22)) := by exact gz_m 61 (by omega)
  have N_55__a1_22 : ¬ (55 = (a1 + 22)) := by exact gz_m 62 (by omega)
  have N_a1__56 : ¬ (a1 = 56) := by exact gz_m 63 (by omega)
  have N_a1__57 : ¬ (a1 = 57) := by exact gz_m 64 (by omega)
  have f1 := (gc_b_49_3 hI R_48)
  have f2 := (gc_b_49_6 hI R_48)
  have f3 := (gc_b_49_11 hI R_48)
  have f4 := (gc_b_49_12 hI R_48)
  have f5 := (gc_b_49_17 hI R_48)
  have f6 := (gc_b_49_18 hI R_48)
  have f7 := (gc_b_49_10 hI R_48)
  have f8 := (gc_b_49_13 hI R_48)
  have f9 := (gc_b_49_14 hI R_48)
  have f10 := (show 0 ≤ I a1 13 ∧ I a1 13 ≤ 384 from gc_in2 hI R_a1 rfl rfl rfl)
  have f11 := (show 0 ≤ I a1 11 ∧ I a1 11 ≤ 64 from gc_in2 hI R_a1 rfl rfl rfl)
  have f12 := (show 0 ≤ I a2 4 ∧ I a2 4 ≤ 24 from gc_in2 hI R_a2 rfl rfl rfl)
  have f13 := (gc_b_9_1 hI R_2)
  intro n9
  induction n9 with
  | zero => intro I14 J15 v4_16 v5_16 hn; exact gz_m 65 (by omega)
  | succ n9 ih32 =>
    intro I14 J15 v4_16 v5_16 hn hI14 FI14 FJ15 KFN_I14 KFZ_I14 KWV_I14 KLO_I14 KWA_I14 KLK_I14 KTR_I14 KWB_I14 m_16 e0_16
    obtain ⟨ha3_16, hv4_16, hv5_16, e1_16, e2_16, e3_16, e4_16, e5_16, e6_16, e7_16, e8_16⟩ := m_16
    have f17 := (gc_b_49_3 hI14 R_48)
    have f18 := (gc_b_49_6 hI14 R_48)
    have f19 := (gc_b_49_11 hI14 R_48)
    have f20 := (gc_b_49_12 hI14 R_48)
    have f21 := (gc_b_49_17 hI14 R_48)
    have f22 := (gc_b_49_18 hI14 R_48)
    have f23 := (gc_b_49_10 hI14 R_48)
    have f24 := (gc_b_49_13 hI14 R_48)
    have f25 := (gc_b_49_14 hI14 R_48)
    have f26 := (show 0 ≤ I14 a1 13 ∧ I14 a1 13 ≤ 384 from gc_in2 hI14 R_a1 rfl rfl rfl)
    have f27 := (show 0 ≤ I14 a1 11 ∧ I14 a1 11 ≤ 64 from gc_in2 hI14 R_a1 rfl rfl rfl)
    have f28 := (show 0 ≤ I14 a2 4 ∧ I14 a2 4 ≤ 24 from gc_in2 hI14 R_a2 rfl rfl rfl)
    have f29 := (gc_b_9_1 hI14 R_2)
    have L49 : ∀ (n9 : Nat) (I30 : gr_I) (J31 : gr_J) (v6_32 : Int), (25 - v6_32).toNat < n9 → gc_Inv ro I30 → (∀ q j : Nat, ((q = 48 ∧ j = 3) ∨ (q = 48 ∧ j = 6) ∨ (q = 48 ∧ j = 12) ∨ q = 51 ∨ q = 52 ∨ q = 53 ∨ q = 54 ∨ q = 55 ∨ (q = 48 ∧ j = 11) ∨ q = 58 ∨ q = 59 ∨ q = 60 ∨ (q = 48 ∧ j = 17) ∨ (q = 48 ∧ j = 18) ∨ q = 49 ∨ q = 50 ∨ (q = 48 ∧ j = 13) ∨ (q = 48 ∧ j = 14) ∨ (q = 48 ∧ j = 10) ∨ q = 56 ∨ q = 57 ∨ q = (a1 + 22)) ∨ I30 q j = I q j) → (∀ q j : Nat, (False) ∨ J31 q j = J q j) → gc_FN I30 → gc_FZ I30 → gc_WV a1 I30 → gc_LO a1 I30 → gc_WA (gc_lsl A I a1) I30 → gc_LK (gc_lk A I a1) I30 → gc_TR I30 → gc_WB (24 * I a1 11) I30 → ((0 ≤ a3 ∧ a3 ≤ 31) ∧ (1 ≤ v4_16 ∧ v4_16 ≤ 24) ∧ (1 ≤ v5_16 ∧ v5_16 ≤ 24) ∧ (0 ≤ v6_32 ∧ v6_32 ≤ 24) ∧ (v4_16 = I a2 4) ∧ (v6_32 + v5_16 ≤ v4_16 + 1) ∧ (v5_16 ≤ v4_16) ∧ (I30 48 11 ≤ 400001) ∧ (I30 48 13 = (a1 : Int)) ∧ (I30 48 14 = (a2 : Int)) ∧ (I30 2 1 = I 2 1) ∧ (I30 a2 4 = I a2 4) ∧ (I30 a1 13 = I a1 13)) → (gc_OF (I a2 4) (I 2 1) v5_16 v6_32 0 I30) → gv_X (gc_E0 ws0 tb 11 (yX0_fill, cX0_fill, 9, (some .int)) kX0_fill) (gv_Q cX0_fill (some .int) sh (fun r h' => (∃ (I' : gr_I) (J' : gr_J), h' = gc_h sh I' J' A ∧ gc_Inv ro I' ∧ (∀ q j : Nat, ((q = 48 ∧ j = 3) ∨ (q = 48 ∧ j = 6) ∨ (q = 48 ∧ j = 12) ∨ q = 51 ∨ q = 52 ∨ q = 53 ∨ q = 54 ∨ q = 55 ∨ (q = 48 ∧ j = 11) ∨ q = 58 ∨ q = 59 ∨ q = 60 ∨ (q = 48 ∧ j = 17) ∨ (q = 48 ∧ j = 18) ∨ q = 49 ∨ q = 50 ∨ (q = 48 ∧ j = 13) ∨ (q = 48 ∧ j = 14) ∨ (q = 48 ∧ j = 10) ∨ q = 56 ∨ q = 57 ∨ q = (a1 + 22)) ∨ I' q j = I q j) ∧ (∀ q j : Nat, (False) ∨ J' q j = J q j) ∧ gc_FN I' ∧ gc_FZ I' ∧ (∃ z : Int, r = some (.inl z) ∧ (-1) ≤ z ∧ z ≤ 1 ∧ (gc_WV a1 I') ∧ (I' 48 12 = 1 ∨ I' 48 11 ≤ 400000) ∧ (gc_WA (gc_lsl A I a1) I') ∧ (z = -1 ∨ I' 49 (Int.toNat (I' 48 10)) + I' 50 (Int.toNat (I' 48 10)) ≤ I' 48 3) ∧ (gc_WB (24 * I a1 11) I') ∧ (z = -1 ∨ I' 48 11 ≤ 400000) ∧ (I' 48 13 = (a1 : Int) ∧ I' 48 14 = (a2 : Int)))))) (49, [(0, .inr (.inr (some 48))), (1, .inr (.inr (some a1))), (2, .inr (.inr (some a2))), (3, .inl a3), (4, .inl v4_16), (5, .inl v5_16), (6, .inl v6_32)], [], sh, gc_h sh I30 J31 A) := by
      intro n9
      induction n9 with
      | zero => intro I30 J31 v6_32 hn; exact gz_m 66 (by omega)
      | succ n9 ih49 =>
        intro I30 J31 v6_32 hn hI30 FI30 FJ31 KFN_I30 KFZ_I30 KWV_I30 KLO_I30 KWA_I30 KLK_I30 KTR_I30 KWB_I30 m_32 e0_32
        clear ha3_16 hv4_16 hv5_16 e1_16 e2_16 e3_16 e4_16 e5_16 e6_16 e7_16 e8_16 f17 f18 f19 f20 f21 f22 f23 f24 f25 f26 f27 f28 f29
        obtain ⟨ha3_32, hv4_16_32, hv5_16_32, hv6_32, e1_32, e2_32, e3_32, e4_32, e5_32, e6_32, e7_32, e8_32, e9_32⟩ := m_32
        have f33 := (gc_b_49_3 hI30 R_48)
        have f34 := (gc_b_49_6 hI30 R_48)
        have f35 := (gc_b_49_11 hI30 R_48)
        have f36 := (gc_b_49_12 hI30 R_48)
        have f37 := (gc_b_49_17 hI30 R_48)
        have f38 := (gc_b_49_18 hI30 R_48)
        have f39 := (gc_b_49_10 hI30 R_48)
        have f40 := (gc_b_49_13 hI30 R_48)
        have f41 := (gc_b_49_14 hI30 R_48)
        have f42 := (show 0 ≤ I30 a1 13 ∧ I30 a1 13 ≤ 384 from gc_in2 hI30 R_a1 rfl rfl rfl)
        have f43 := (show 0 ≤ I30 a1 11 ∧ I30 a1 11 ≤ 64 from gc_in2 hI30 R_a1 rfl rfl rfl)
        have f44 := (show 0 ≤ I30 a2 4 ∧ I30 a2 4 ≤ 24 from gc_in2 hI30 R_a2 rfl rfl rfl)
        have f45 := (gc_b_9_1 hI30 R_2)
        have L101 : ∀ (I46 : gr_I) (J47 : gr_J) (s0_48 : Int), gc_Inv ro I46 → (∀ q j : Nat, ((q = 48 ∧ j = 3) ∨ (q = 48 ∧ j = 6) ∨ (q = 48 ∧ j = 12) ∨ q = 51 ∨ q = 52 ∨ q = 53 ∨ q = 54 ∨ q = 55 ∨ (q = 48 ∧ j = 11) ∨ q = 58 ∨ q = 59 ∨ q = 60 ∨ (q = 48 ∧ j = 17) ∨ (q = 48 ∧ j = 18) ∨ q = 49 ∨ q = 50 ∨ (q = 48 ∧ j = 13) ∨ (q = 48 ∧ j = 14) ∨ (q = 48 ∧ j = 10) ∨ q = 56 ∨ q = 57 ∨ q = (a1 + 22)) ∨ I46 q j = I q j) → (∀ q j : Nat, (False) ∨ J47 q j = J q j) → gc_FN I46 → gc_FZ I46 → gc_WV a1 I46 → gc_LO a1 I46 → gc_WA (gc_lsl A I a1) I46 → gc_LK (gc_lk A I a1) I46 → gc_TR I46 → gc_WB (24 * I a1 11) I46 → ((0 ≤ a3 ∧ a3 ≤ 31) ∧ (1 ≤ v4_16 ∧ v4_16 ≤ 24) ∧ (1 ≤ v5_16 ∧ v5_16 ≤ 24) ∧ (0 ≤ v6_32 ∧ v6_32 ≤ 24) ∧ (0 ≤ s0_48 ∧ s0_48 ≤ 1536) ∧ (v4_16 = I a2 4) ∧ (v6_32 + v5_16 ≤ v4_16) ∧ (I46 48 11 ≤ 400001) ∧ (I46 48 13 = (a1 : Int)) ∧ (I46 48 14 = (a2 : Int)) ∧ (I46 2 1 = I 2 1) ∧ (I46 a2 4 = I a2 4) ∧ (I46 a1 13 = I a1 13)) → (gc_FD (I a2 4) (I 2 1) v5_16 v6_32 0 I46) → (gc_rg (a1 + 22) I46 s0_48 0 (24 * I a1 11 - 1)) → gv_X (gc_E0 ws0 tb 11 (yX0_fill, cX0_fill, 9, (some .int)) kX0_fill) (gv_Q cX0_fill (some .int) sh (fun r h' => (∃ (I' : gr_I) (J' : gr_J), h' = gc_h sh I' J' A ∧ gc_Inv ro I' ∧ (∀ q j : Nat, ((q = 48 ∧ j = 3) ∨ (q = 48 ∧ j = 6) ∨ (q = 48 ∧ j = 12) ∨ q = 51 ∨ q = 52 ∨ q = 53 ∨ q = 54 ∨ q = 55 ∨ (q = 48 ∧ j = 11) ∨ q = 58 ∨ q = 59 ∨ q = 60 ∨ (q = 48 ∧ j = 17) ∨ (q = 48 ∧ j = 18) ∨ q = 49 ∨ q = 50 ∨ (q = 48 ∧ j = 13) ∨ (q = 48 ∧ j = 14) ∨ (q = 48 ∧ j = 10) ∨ q = 56 ∨ q = 57 ∨ q = (a1 + 22)) ∨ I' q j = I q j) ∧ (∀ q j : Nat, (False) ∨ J' q j = J q j) ∧ gc_FN I' ∧ gc_FZ I' ∧ (∃ z : Int, r = some (.inl z) ∧ (-1) ≤ z ∧ z ≤ 1 ∧ (gc_WV a1 I') ∧ (I' 48 12 = 1 ∨ I' 48 11 ≤ 400000) ∧ (gc_WA (gc_lsl A I a1) I') ∧ (z = -1 ∨ I' 49 (Int.toNat (I' 48 10)) + I' 50 (Int.toNat (I' 48 10)) ≤ I' 48 3) ∧ (gc_WB (24 * I a1 11) I') ∧ (z = -1 ∨ I' 48 11 ≤ 400000) ∧ (I' 48 13 = (a1 : Int) ∧ I' 48 14 = (a2 : Int)))))) (101, [(0, .inr (.inr (some 48))), (1, .inr (.inr (some a1))), (2, .inr (.inr (some a2))), (3, .inl a3), (4, .inl v4_16), (5, .inl v5_16), (6, .inl v6_32)], [.inl s0_48], sh, gc_h sh I46 J47 A) := by
          intro I46 J47 s0_48 hI46 FI46 FJ47 KFN_I46 KFZ_I46 KWV_I46 KLO_I46 KWA_I46 KLK_I46 KTR_I46 KWB_I46 m_48 e0_48 e1_48
          clear ha3_32 hv4_16_32 hv5_16_32 hv6_32 e1_32 e2_32 e3_32 e4_32 e5_32 e6_32 e7_32 e8_32 e9_32 f33 f34 f35 f36 f37 f38 f39 f40 f41 f42 f43 f44 f45
          obtain ⟨ha3_48, hv4_16_48, hv5_16_48, hv6_32_48, hs0_48, e2_48, e3_48, e4_48, e5_48, e6_48, e7_48, e8_48, e9_48⟩ := m_48
          have f49 := (gc_b_49_3 hI46 R_48)
          have f50 := (gc_b_49_6 hI46 R_48)
          have f51 := (gc_b_49_11 hI46 R_48)
          have f52 := (gc_b_49_12 hI46 R_48)
          have f53 := (gc_b_49_17 hI46 R_48)
          have f54 := (gc_b_49_18 hI46 R_48)
          have f55 := (gc_b_49_10 hI46 R_48)
          have f56 := (gc_b_49_13 hI46 R_48)
          have f57 := (gc_b_49_14 hI46 R_48)
          have f58 := (show 0 ≤ I46 a1 13 ∧ I46 a1 13 ≤ 384 from gc_in2 hI46 R_a1 rfl rfl rfl)
          have f59 := (show 0 ≤ I46 a1 11 ∧ I46 a1 11 ≤ 64 from gc_in2 hI46 R_a1 rfl rfl rfl)
          have f60 := (show 0 ≤ I46 a2 4 ∧ I46 a2 4 ≤ 24 from gc_in2 hI46 R_a2 rfl rfl rfl)
          have f61 := (gc_b_9_1 hI46 R_2)
          have L106 : ∀ (n9 : Nat) (I62 : gr_I) (J63 : gr_J) (v7_64 : Int) (v8_64 : Int), (33 - v8_64).toNat < n9 → gc_Inv ro I62 → (∀ q j : Nat, ((q = 48 ∧ j = 3) ∨ (q = 48 ∧ j = 6) ∨ (q = 48 ∧ j = 12) ∨ q = 51 ∨ q = 52 ∨ q = 53 ∨ q = 54 ∨ q = 55 ∨ (q = 48 ∧ j = 11) ∨ q = 58 ∨ q = 59 ∨ q = 60 ∨ (q = 48 ∧ j = 17) ∨ (q = 48 ∧ j = 18) ∨ q = 49 ∨ q = 50 ∨ (q = 48 ∧ j = 13) ∨ (q = 48 ∧ j = 14) ∨ (q = 48 ∧ j = 10) ∨ q = 56 ∨ q = 57 ∨ q = (a1 + 22)) ∨ I62 q j = I q j) → (∀ q j : Nat, (False) ∨ J63 q j = J q j) → gc_FN I62 → gc_FZ I62 → gc_WV a1 I62 → gc_LO a1 I62 → gc_WA (gc_lsl A I a1) I62 → gc_LK (gc_lk A I a1) I62 → gc_TR I62 → gc_WB (24 * I a1 11) I62 → ((0 ≤ a3 ∧ a3 ≤ 31) ∧ (1 ≤ v4_16 ∧ v4_16 ≤ 24) ∧ (1 ≤ v5_16 ∧ v5_16 ≤ 24) ∧ (0 ≤ v6_32 ∧ v6_32 ≤ 24) ∧ (0 ≤ v7_64 ∧ v7_64 ≤ 1536) ∧ (0 ≤ v8_64 ∧ v8_64 ≤ 32) ∧ (v4_16 = I a2 4) ∧ (v6_32 + v5_16 ≤ v4_16) ∧ (I62 48 11 ≤ 400001) ∧ (I62 48 13 = (a1 : Int)) ∧ (I62 48 14 = (a2 : Int)) ∧ (I62 2 1 = I 2 1) ∧ (I62 a2 4 = I a2 4) ∧ (I62 a1 13 = I a1 13)) → (gc_FD (I a2 4) (I 2 1) v5_16 v6_32 v8_64 I62) → (gc_rg (a1 + 22) I62 v7_64 0 (24 * I a1 11 - 1)) → gv_X (gc_E0 ws0 tb 11 (yX0_fill, cX0_fill, 9, (some .int)) kX0_fill) (gv_Q cX0_fill (some .int) sh (fun r h' => (∃ (I' : gr_I) (J' : gr_J), h' = gc_h sh I' J' A ∧ gc_Inv ro I' ∧ (∀ q j : Nat, ((q = 48 ∧ j = 3) ∨ (q = 48 ∧ j = 6) ∨ (q = 48 ∧ j = 12) ∨ q = 51 ∨ q = 52 ∨ q = 53 ∨ q = 54 ∨ q = 55 ∨ (q = 48 ∧ j = 11) ∨ q = 58 ∨ q = 59 ∨ q = 60 ∨ (q = 48 ∧ j = 17) ∨ (q = 48 ∧ j = 18) ∨ q = 49 ∨ q = 50 ∨ (q = 48 ∧ j = 13) ∨ (q = 48 ∧ j = 14) ∨ (q = 48 ∧ j = 10) ∨ q = 56 ∨ q = 57 ∨ q = (a1 + 22)) ∨ I' q j = I q j) ∧ (∀ q j : Nat, (False) ∨ J' q j = J q j) ∧ gc_FN I' ∧ gc_FZ I' ∧ (∃ z : Int, r = some (.inl z) ∧ (-1) ≤ z ∧ z ≤ 1 ∧ (gc_WV a1 I') ∧ (I' 48 12 = 1 ∨ I' 48 11 ≤ 400000) ∧ (gc_WA (gc_lsl A I a1) I') ∧ (z = -1 ∨ I' 49 (Int.toNat (I' 48 10)) + I' 50 (Int.toNat (I' 48 10)) ≤ I' 48 3) ∧ (gc_WB (24 * I a1 11) I') ∧ (z = -1 ∨ I' 48 11 ≤ 400000) ∧ (I' 48 13 = (a1 : Int) ∧ I' 48 14 = (a2 : Int)))))) (106, [(0, .inr (.inr (some 48))), (1, .inr (.inr (some a1))), (2, .inr (.inr (some a2))), (3, .inl a3), (4, .inl v4_16), (5, .inl v5_16), (6, .inl v6_32), (7, .inl v7_64), (8, .inl v8_64)], [], sh, gc_h sh I62 J63 A) := by
            intro n9
            induction n9 with
            | zero => intro I62 J63 v7_64 v8_64 hn; exact gz_m 67 (by omega)
            | succ n9 ih106 =>
              intro I62 J63 v7_64 v8_64 hn hI62 FI62 FJ63 KFN_I62 KFZ_I62 KWV_I62 KLO_I62 KWA_I62 KLK_I62 KTR_I62 KWB_I62 m_64 e0_64 e1_64
              clear ha3_48 hv4_16_48 hv5_16_48 hv6_32_48 hs0_48 e2_48 e3_48 e4_48 e5_48 e6_48 e7_48 e8_48 e9_48 f49 f50 f51 f52 f53 f54 f55 f56 f57 f58 f59 f60 f61
              obtain ⟨ha3_64, hv4_16_64, hv5_16_64, hv6_32_64, hv7_64, hv8_64, e2_64, e3_64, e4_64, e5_64, e6_64, e7_64, e8_64, e9_64⟩ := m_64
              have f65 := (gc_b_49_3 hI62 R_48)
              have f66 := (gc_b_49_6 hI62 R_48)
              have f67 := (gc_b_49_11 hI62 R_48)
              have f68 := (gc_b_49_12 hI62 R_48)
              have f69 := (gc_b_49_17 hI62 R_48)
              have f70 := (gc_b_49_18 hI62 R_48)
              have f71 := (gc_b_49_10 hI62 R_48)
              have f72 := (gc_b_49_13 hI62 R_48)
              have f73 := (gc_b_49_14 hI62 R_48)
              have f74 := (show 0 ≤ I62 a1 13 ∧ I62 a1 13 ≤ 384 from gc_in2 hI62 R_a1 rfl rfl rfl)
              have f75 := (show 0 ≤ I62 a1 11 ∧ I62 a1 11 ≤ 64 from gc_in2 hI62 R_a1 rfl rfl rfl)
              have f76 := (show 0 ≤ I62 a2 4 ∧ I62 a2 4 ≤ 24 from gc_in2 hI62 R_a2 rfl rfl rfl)
              have f77 := (gc_b_9_1 hI62 R_2)
              have L146 : ((0 ≤ a3 ∧ a3 ≤ 31) ∧ (1 ≤ v4_16 ∧ v4_16 ≤ 24) ∧ (1 ≤ v5_16 ∧ v5_16 ≤ 24) ∧ (0 ≤ v6_32 ∧ v6_32 ≤ 24) ∧ (v4_16 = I a2 4) ∧ (v6_32 + v5_16 ≤ v4_16) ∧ (I62 48 11 ≤ 400001) ∧ (I62 48 13 = (a1 : Int)) ∧ (I62 48 14 = (a2 : Int)) ∧ (I62 2 1 = I 2 1) ∧ (I62 a2 4 = I a2 4) ∧ (I62 a1 13 = I a1 13)) → (gc_OF (I a2 4) (I 2 1) v5_16 (v6_32 + 1) 0 I62) → gv_X (gc_E0 ws0 tb 11 (yX0_fill, cX0_fill, 9, (some .int)) kX0_fill) (gv_Q cX0_fill (some .int) sh (fun r h' => (∃ (I' : gr_I) (J' : gr_J), h' = gc_h sh I' J' A ∧ gc_Inv ro I' ∧ (∀ q j : Nat, ((q = 48 ∧ j = 3) ∨ (q = 48 ∧ j = 6) ∨ (q = 48 ∧ j = 12) ∨ q = 51 ∨ q = 52 ∨ q = 53 ∨ q = 54 ∨ q = 55 ∨ (q = 48 ∧ j = 11) ∨ q = 58 ∨ q = 59 ∨ q = 60 ∨ (q = 48 ∧ j = 17) ∨ (q = 48 ∧ j = 18) ∨ q = 49 ∨ q = 50 ∨ (q = 48 ∧ j = 13) ∨ (q = 48 ∧ j = 14) ∨ (q = 48 ∧ j = 10) ∨ q = 56 ∨ q = 57 ∨ q = (a1 + 22)) ∨ I' q j = I q j) ∧ (∀ q j : Nat, (False) ∨ J' q j = J q j) ∧ gc_FN I' ∧ gc_FZ I' ∧ (∃ z : Int, r = some (.inl z) ∧ (-1) ≤ z ∧ z ≤ 1 ∧ (gc_WV a1 I') ∧ (I' 48 12 = 1 ∨ I' 48 11 ≤ 400000) ∧ (gc_WA (gc_lsl A I a1) I') ∧ (z = -1 ∨ I' 49 (Int.toNat (I' 48 10)) + I' 50 (Int.toNat (I' 48 10)) ≤ I' 48 3) ∧ (gc_WB (24 * I a1 11) I') ∧ (z = -1 ∨ I' 48 11 ≤ 400000) ∧ (I' 48 13 = (a1 : Int) ∧ I' 48 14 = (a2 : Int)))))) (146, [(0, .inr (.inr (some 48))), (1, .inr (.inr (some a1))), (2, .inr (.inr (some a2))), (3, .inl a3), (4, .inl v4_16), (5, .inl v5_16), (6, .inl v6_32)], [], sh, gc_h sh I62 J63 A) := by
                intro m_78 e0_78
                obtain ⟨ha3_78, hv4_16_78, hv5_16_78, hv6_32_78, e1_78, e2_78, e3_78, e4_78, e5_78, e6_78, e7_78, e8_78⟩ := m_78
                have f79 := (gc_b_49_3 hI62 R_48)
                have f80 := (gc_b_49_6 hI62 R_48)
                have f81 := (gc_b_49_11 hI62 R_48)
                have f82 := (gc_b_49_12 hI62 R_48)
                have f83 := (gc_b_49_17 hI62 R_48)
                have f84 := (gc_b_49_18 hI62 R_48)
                have f85 := (gc_b_49_10 hI62 R_48)
                have f86 := (gc_b_49_13 hI62 R_48)
                have f87 := (gc_b_49_14 hI62 R_48)
                have f88 := (show 0 ≤ I62 a1 13 ∧ I62 a1 13 ≤ 384 from gc_in2 hI62 R_a1 rfl rfl rfl)
                have f89 := (show 0 ≤ I62 a1 11 ∧ I62 a1 11 ≤ 64 from gc_in2 hI62 R_a1 rfl rfl rfl)
                have f90 := (show 0 ≤ I62 a2 4 ∧ I62 a2 4 ≤ 24 from gc_in2 hI62 R_a2 rfl rfl rfl)
                have f91 := (gc_b_9_1 hI62 R_2)
                refine gv_run 2 true hD (pc' := 49) (lv' := [(6, .inl (v6_32 + 1)), (0, .inr (.inr (some 48))), (1, .inr (.inr (some a1))), (2, .inr (.inr (some a2))), (3, .inl a3), (4, .inl v4_16), (5, .inl v5_16)]) (st' := []) (h' := gc_h sh I62 J63 A) (C := ((True ∧ True) ∧ True)) rfl ⟨⟨trivial, trivial⟩, trivial⟩ ?_
                refine gv_pick [1, 2, 3, 4, 5, 6, 0] rfl ?_
                exact ih49 I62 J63 (v6_32 + 1) (by exact gz_m 68 (by omega)) hI62 FI62 FJ63 KFN_I62 KFZ_I62 KWV_I62 KLO_I62 KWA_I62 KLK_I62 KTR_I62 KWB_I62 (by exact gz_m 69 (by omega)) e0_78
              refine gv_run 2 true hD (pc' := 109) (lv' := [(0, .inr (.inr (some 48))), (1, .inr (.inr (some a1))), (2, .inr (.inr (some a2))), (3, .inl a3), (4, .inl v4_16), (5, .inl v5_16), (6, .inl v6_32), (7, .inl v7_64), (8, .inl v8_64)]) (st' := [.inr (.inr (some 48)), .inl v8_64]) (h' := gc_h sh I62 J63 A) (C := ((True ∧ True) ∧ True)) rfl ⟨⟨trivial, trivial⟩, trivial⟩ ?_
              refine gv_get hD rfl rfl S_48 ⟨by decide, B_48⟩ (gc_hA S_48 rfl A_48_0) ?_
              show gv_X _ _ (112, [(0, .inr (.inr (some 48))), (1, .inr (.inr (some a1))), (2, .inr (.inr (some a2))), (3, .inl a3), (4, .inl v4_16), (5, .inl v5_16), (6, .inl v6_32), (7, .inl v7_64), (8, .inl v8_64)], [.inr (.inr (some 1)), .inl v8_64], sh, gc_h sh I62 J63 A)
              refine gv_get hD rfl rfl S_1 ⟨by decide, B_1⟩ (gc_hA S_1 rfl A_1_0) ?_
              show gv_X _ _ (115, [(0, .inr (.inr (some 48))), (1, .inr (.inr (some a1))), (2, .inr (.inr (some a2))), (3, .inl a3), (4, .inl v4_16), (5, .inl v5_16), (6, .inl v6_32), (7, .inl v7_64), (8, .inl v8_64)], [.inr (.inr (some 2)), .inl v8_64], sh, gc_h sh I62 J63 A)
              have f92 := (gc_b_9_1 hI62 R_2)
              refine gv_get hD rfl rfl S_2 ⟨by decide, B_2⟩ (gc_hI S_2 rfl) ?_
              show gv_X _ _ (118, [(0, .inr (.inr (some 48))), (1, .inr (.inr (some a1))), (2, .inr (.inr (some a2))), (3, .inl a3), (4, .inl v4_16), (5, .inl v5_16), (6, .inl v6_32), (7, .inl v7_64), (8, .inl v8_64)], [.inl (I62 2 1), .inl v8_64], sh, gc_h sh I62 J63 A)
              refine gv_icmp_ge (t := 146) hD rfl rfl ⟨⟨by exact gz_m 70 (by omega), by exact gz_m 71 (by omega)⟩, ⟨by exact gz_m 72 (by omega), by exact gz_m 73 (by omega)⟩⟩ (fun c93 => ?_) (fun c93 => ?_)
              · show gv_X _ _ (146, [(0, .inr (.inr (some 48))), (1, .inr (.inr (some a1))), (2, .inr (.inr (some a2))), (3, .inl a3), (4, .inl v4_16), (5, .inl v5_16), (6, .inl v6_32), (7, .inl v7_64), (8, .inl v8_64)], [], sh, gc_h sh I62 J63 A)
                refine gv_pick [0, 1, 2, 3, 4, 5, 6] rfl ?_
                exact L146 (by exact gz_m 74 (by omega)) (by by_cases h9 : I62 48 12 = 1; (· exact Or.inl h9); (· exact Or.inr (gc_FD_k e0_64 (by exact gz_m 75 (by omega)))))
              · show gv_X _ _ (121, [(0, .inr (.inr (some 48))), (1, .inr (.inr (some a1))), (2, .inr (.inr (some a2))), (3, .inl a3), (4, .inl v4_16), (5, .inl v5_16), (6, .inl v6_32), (7, .inl v7_64), (8, .inl v8_64)], [], sh, gc_h sh I62 J63 A)
                refine gv_run 1 true hD (pc' := 122) (lv' := [(0, .inr (.inr (some 48))), (1, .inr (.inr (some a1))), (2, .inr (.inr (some a2))), (3, .inl a3), (4, .inl v4_16), (5, .inl v5_16), (6, .inl v6_32), (7, .inl v7_64), (8, .inl v8_64)]) (st' := [.inr (.inr (some 48))]) (h' := gc_h sh I62 J63 A) (C := (True ∧ True)) rfl ⟨trivial, trivial⟩ ?_
                have f94 := (gc_b_49_12 hI62 R_48)
                refine gv_get hD rfl rfl S_48 ⟨by decide, B_48⟩ (gc_hI S_48 rfl) ?_
                show gv_X _ _ (125, [(0, .inr (.inr (some 48))), (1, .inr (.inr (some a1))), (2, .inr (.inr (some a2))), (3, .inl a3), (4, .inl v4_16), (5, .inl v5_16), (6, .inl v6_32), (7, .inl v7_64), (8, .inl v8_64)], [.inl (I62 48 12)], sh, gc_h sh I62 J63 A)
                refine gv_if_ne (t := 146) hD rfl rfl ⟨by exact gz_m 76 (by omega), by exact gz_m 77 (by omega)⟩ (fun c95 => ?_) (fun c95 => ?_)
                · show gv_X _ _ (146, [(0, .inr (.inr (some 48))), (1, .inr (.inr (some a1))), (2, .inr (.inr (some a2))), (3, .inl a3), (4, .inl v4_16), (5, .inl v5_16), (6, .inl v6_32), (7, .inl v7_64), (8, .inl v8_64)], [], sh, gc_h sh I62 J63 A)
                  refine gv_pick [0, 1, 2, 3, 4, 5, 6] rfl ?_
                  exact L146 (by exact gz_m 78 (by omega)) (by by_cases h9 : I62 48 12 = 1; (· exact Or.inl h9); (· exact Or.inr (gc_FD_k e0_64 (by exact gz_m 79 (by omega)))))
                · show gv_X _ _ (128, [(0, .inr (.inr (some 48))), (1, .inr (.inr (some a1))), (2, .inr (.inr (some a2))), (3, .inl a3), (4, .inl v4_16), (5, .inl v5_16), (6, .inl v6_32), (7, .inl v7_64), (8, .inl v8_64)], [], sh, gc_h sh I62 J63 A)
                  refine gv_run 5 true hD (pc' := 137) (lv' := [(0, .inr (.inr (some 48))), (1, .inr (.inr (some a1))), (2, .inr (.inr (some a2))), (3, .inl a3), (4, .inl v4_16), (5, .inl v5_16), (6, .inl v6_32), (7, .inl v7_64), (8, .inl v8_64)]) (st' := [.inl v7_64, .inl v8_64, .inl v5_16, .inl v6_32, .inr (.inr (some 48))]) (h' := gc_h sh I62 J63 A) (C := (((((True ∧ True) ∧ True) ∧ True) ∧ True) ∧ True)) rfl ⟨⟨⟨⟨⟨trivial, trivial⟩, trivial⟩, trivial⟩, trivial⟩, trivial⟩ ?_
                  obtain ⟨r96, h96, E96, P96⟩ := d_X0_fillSpan (ws0 := ws0) (tb := tb) hws htb sh ro I62 J63 A hI62  a1 a2 (gc_lsl A I a1) (gc_lk A I a1) (I a2 4) (I 2 1) (24 * I a1 11) v6_32 v5_16 v8_64 v7_64 hb  h_a1 G_a1 h_a2 G_a2  ⟨by exact gz_m 80 (by omega), by exact gz_m 81 (by omega)⟩ ⟨by exact gz_m 82 (by omega), by exact gz_m 83 (by omega)⟩ ⟨by exact gz_m 84 (by omega), by exact gz_m 85 (by omega)⟩ ⟨by exact gz_m 86 (by omega), by exact gz_m 87 (by omega)⟩ (by exact gz_m 88 (by omega)) (gc_SP_fr x1 ((FI62 a2 4).resolve_left (fun h => h.elim (fun h => absurd h.2 (by first | exact gz_ne rfl | decide)) (fun h => h.elim (fun h => absurd h.2 (by first | exact gz_ne rfl | decide)) (fun h => h.elim (fun h => absurd h.2 (by first | exact gz_ne rfl | decide)) (fun h => h.elim (fun h => absurd h N_a2__51) (fun h => h.elim (fun h => absurd h N_a2__52) (fun h => h.elim (fun h => absurd h N_a2__53) (fun h => h.elim (fun h => absurd h N_a2__54) (fun h => h.elim (fun h => absurd h N_a2__55) (fun h => h.elim (fun h => absurd h.2 (by first | exact gz_ne rfl | decide)) (fun h => h.elim (fun h => absurd h N_a2__58) (fun h => h.elim (fun h => absurd h N_a2__59) (fun h => h.elim (fun h => absurd h N_a2__60) (fun h => h.elim (fun h => absurd h.2 (by first | exact gz_ne rfl | decide)) (fun h => h.elim (fun h => absurd h.2 (by first | exact gz_ne rfl | decide)) (fun h => h.elim (fun h => absurd h N_a2__49) (fun h => h.elim (fun h => absurd h N_a2__50) (fun h => h.elim (fun h => absurd h.2 (by first | exact gz_ne rfl | decide)) (fun h => h.elim (fun h => absurd h.2 (by first | exact gz_ne rfl | decide)) (fun h => h.elim (fun h => absurd h.2 (by first | exact gz_ne rfl | decide)) (fun h => h.elim (fun h => absurd h N_a2__56) (fun h => h.elim (fun h => absurd h N_a2__57) (fun h => absurd h N_a2__a1_22))))))))))))))))))))))) (fun k => (FI62 (a2 + 2) k).resolve_left (fun h => h.elim (fun h => absurd h.1 N_a2_2__48) (fun h => h.elim (fun h => absurd h.1 N_a2_2__48) (fun h => h.elim (fun h => absurd h.1 N_a2_2__48) (fun h => h.elim (fun h => absurd h N_a2_2__51) (fun h => h.elim (fun h => absurd h N_a2_2__52) (fun h => h.elim (fun h => absurd h N_a2_2__53) (fun h => h.elim (fun h => absurd h N_a2_2__54) (fun h => h.elim (fun h => absurd h N_a2_2__55) (fun h => h.elim (fun h => absurd h.1 N_a2_2__48) (fun h => h.elim (fun h => absurd h N_a2_2__58) (fun h => h.elim (fun h => absurd h N_a2_2__59) (fun h => h.elim (fun h => absurd h N_a2_2__60) (fun h => h.elim (fun h => absurd h.1 N_a2_2__48) (fun h => h.elim (fun h => absurd h.1 N_a2_2__48) (fun h => h.elim (fun h => absurd h N_a2_2__49) (fun h => h.elim (fun h => absurd h N_a2_2__50) (fun h => h.elim (fun h => absurd h.1 N_a2_2__48) (fun h => h.elim (fun h => absurd h.1 N_a2_2__48) (fun h => h.elim (fun h => absurd h.1 N_a2_2__48) (fun h => h.elim (fun h => absurd h N_a2_2__56) (fun h => h.elim (fun h => absurd h N_a2_2__57) (fun h => absurd h N_a2_2__a1_22))))))))))))))))))))))) (fun k => (FI62 (a2 + 3) k).resolve_left (fun h => h.elim (fun h => absurd h.1 N_a2_3__48) (fun h => h.elim (fun h => absurd h.1 N_a2_3__48) (fun h => h.elim (fun h => absurd h.1 N_a2_3__48) (fun h => h.elim (fun h => absurd h N_a2_3__51) (fun h => h.elim (fun h => absurd h N_a2_3__52) (fun h => h.elim (fun h => absurd h N_a2_3__53) (fun h => h.elim (fun h => absurd h N_a2_3__54) (fun h => h.elim (fun h => absurd h N_a2_3__55) (fun h => h.elim (fun h => absurd h.1 N_a2_3__48) (fun h => h.elim (fun h => absurd h N_a2_3__58) (fun h => h.elim (fun h => absurd h N_a2_3__59) (fun h => h.elim (fun h => absurd h N_a2_3__60) (fun h => h.elim (fun h => absurd h.1 N_a2_3__48) (fun h => h.elim (fun h => absurd h.1 N_a2_3__48) (fun h => h.elim (fun h => absurd h N_a2_3__49) (fun h => h.elim (fun h => absurd h N_a2_3__50) (fun h => h.elim (fun h => absurd h.1 N_a2_3__48) (fun h => h.elim (fun h => absurd h.1 N_a2_3__48) (fun h => h.elim (fun h => absurd h.1 N_a2_3__48) (fun h => h.elim (fun h => absurd h N_a2_3__56) (fun h => h.elim (fun h => absurd h N_a2_3__57) (fun h => absurd h N_a2_3__a1_22)))))))))))))))))))))))) (gc_Ls_fr x0 ((FI62 a1 13).resolve_left (by exact gz_m 89 (by omega))) (fun q hL hq d k hd => (FI62 (q + d) k).resolve_left (by have := gc_dj_LT hL h_a1; exact gz_m 90 (by omega)))) (by exact gz_m 91 (by omega)) (by exact gz_m 92 (by omega)) (by exact gz_m 93 (by omega)) (by exact gz_m 94 (by omega)) (by exact gz_m 95 (by omega)) (fun i q hi hA => by rw [gc_lsl_at hA]; obtain ⟨q9, b1, b2, b3, _, _⟩ := x0 i (by exact gz_m 96 (by omega)); cases b1.symm.trans hA; have b4 := gc_dj_LT b2 h_a1; exact (FI62 _ 8).resolve_left (by exact gz_m 97 (by omega))) (fun i q hi hA => by have b5 := x5 i q (by exact gz_m 98 (by omega)) hA; obtain ⟨q9, b1, b2, b3, _, _⟩ := x0 i (by exact gz_m 99 (by omega)); cases b1.symm.trans hA; have b4 := gc_dj_LT b2 h_a1; exact gc_un_fr b5 ((FI62 _ 4).resolve_left (by exact gz_m 100 (by omega))) ((FI62 _ 1).resolve_left (by exact gz_m 101 (by omega))) ((FI62 _ 0).resolve_left (by exact gz_m 102 (by omega))) (fun k => (FI62 13 k).resolve_left (fun h => h.elim (fun h => absurd h.1 (by first | exact gz_ne rfl | decide)) (fun h => h.elim (fun h => absurd h.1 (by first | exact gz_ne rfl | decide)) (fun h => h.elim (fun h => absurd h.1 (by first | exact gz_ne rfl | decide)) (fun h => h.elim (fun h => absurd h (by first | exact gz_ne rfl | decide)) (fun h => h.elim (fun h => absurd h (by first | exact gz_ne rfl | decide)) (fun h => h.elim (fun h => absurd h (by first | exact gz_ne rfl | decide)) (fun h => h.elim (fun h => absurd h (by first | exact gz_ne rfl | decide)) (fun h => h.elim (fun h => absurd h (by first | exact gz_ne rfl | decide)) (fun h => h.elim (fun h => absurd h.1 (by first | exact gz_ne rfl | decide)) (fun h => h.elim (fun h => absurd h (by first | exact gz_ne rfl | decide)) (fun h => h.elim (fun h => absurd h (by first | exact gz_ne rfl | decide)) (fun h => h.elim (fun h => absurd h (by first | exact gz_ne rfl | decide)) (fun h => h.elim (fun h => absurd h.1 (by first | exact gz_ne rfl | decide)) (fun h => h.elim (fun h => absurd h.1 (by first | exact gz_ne rfl | decide)) (fun h => h.elim (fun h => absurd h (by first | exact gz_ne rfl | decide)) (fun h => h.elim (fun h => absurd h (by first | exact gz_ne rfl | decide)) (fun h => h.elim (fun h => absurd h.1 (by first | exact gz_ne rfl | decide)) (fun h => h.elim (fun h => absurd h.1 (by first | exact gz_ne rfl | decide)) (fun h => h.elim (fun h => absurd h.1 (by first | exact gz_ne rfl | decide)) (fun h => h.elim (fun h => absurd h (by first | exact gz_ne rfl | decide)) (fun h => h.elim (fun h => absurd h (by first | exact gz_ne rfl | decide)) (fun h => absurd h N_13__a1_22)))))))))))))))))))))))) e0_64 e1_64 (by exact gz_m 103 (by omega)) (by exact gz_m 104 (by omega)) (by exact gz_m 105 (by omega)) KWV_I62 KFN_I62 KLO_I62 KWA_I62 KFZ_I62 KLK_I62 KTR_I62 KWB_I62
                  obtain ⟨I97, J98, rfl, hI97, g96, k96, KWV_I97, KFN_I97, KLO_I97, KWA_I97, KFZ_I97, KLK_I97, KTR_I97, KWB_I97, ⟨rfl, q96⟩⟩ := P96
                  have FI97 := gc_frc (W := fun q j => (q = 48 ∧ j = 3) ∨ (q = 48 ∧ j = 6) ∨ (q = 48 ∧ j = 12) ∨ q = 51 ∨ q = 52 ∨ q = 53 ∨ q = 54 ∨ q = 55 ∨ (q = 48 ∧ j = 11) ∨ q = 58 ∨ q = 59 ∨ q = 60 ∨ (q = 48 ∧ j = 17) ∨ (q = 48 ∧ j = 18) ∨ q = 49 ∨ q = 50 ∨ (q = 48 ∧ j = 13) ∨ (q = 48 ∧ j = 14) ∨ (q = 48 ∧ j = 10) ∨ q = 56 ∨ q = 57 ∨ q = (a1 + 22)) (V := fun q j => (q = 48 ∧ j = 3) ∨ (q = 48 ∧ j = 6) ∨ (q = 48 ∧ j = 12) ∨ q = 51 ∨ q = 52 ∨ q = 53 ∨ q = 54 ∨ q = 55 ∨ (q = 48 ∧ j = 11) ∨ q = 58 ∨ q = 59 ∨ q = 60 ∨ (q = 48 ∧ j = 17) ∨ (q = 48 ∧ j = 18) ∨ q = 49 ∨ q = 50) FI62 (fun q j h => (h.elim (fun h => (Or.inl h)) (fun h => (h.elim (fun h => (Or.inr (Or.inl h))) (fun h => (h.elim (fun h => (Or.inr (Or.inr (Or.inl h)))) (fun h => (h.elim (fun h => (Or.inr (Or.inr (Or.inr (Or.inl h))))) (fun h => (h.elim (fun h => (Or.inr (Or.inr (Or.inr (Or.inr (Or.inl h)))))) (fun h => (h.elim (fun h => (Or.inr (Or.inr (Or.inr (Or.inr (Or.inr (Or.inl h))))))) (fun h => (h.elim (fun h => (Or.inr (Or.inr (Or.inr (Or.inr (Or.inr (Or.inr (Or.inl h)))))))) (fun h => (h.elim (fun h => (Or.inr (Or.inr (Or.inr (Or.inr (Or.inr (Or.inr (Or.inr (Or.inl h))))))))) (fun h => (h.elim (fun h => (Or.inr (Or.inr (Or.inr (Or.inr (Or.inr (Or.inr (Or.inr (Or.inr (Or.inl h)))))))))) (fun h => (h.elim (fun h => (Or.inr (Or.inr (Or.inr (Or.inr (Or.inr (Or.inr (Or.inr (Or.inr (Or.inr (Or.inl h))))))))))) (fun h => (h.elim (fun h => (Or.inr (Or.inr (Or.inr (Or.inr (Or.inr (Or.inr (Or.inr (Or.inr (Or.inr (Or.inr (Or.inl h)))))))))))) (fun h => (h.elim (fun h => (Or.inr (Or.inr (Or.inr (Or.inr (Or.inr (Or.inr (Or.inr (Or.inr (Or.inr (Or.inr (Or.inr (Or.inl h))))))))))))) (fun h => (h.elim (fun h => (Or.inr (Or.inr (Or.inr (Or.inr (Or.inr (Or.inr (Or.inr (Or.inr (Or.inr (Or.inr (Or.inr (Or.inr (Or.inl h)))))))))))))) (fun h => (h.elim (fun h => (Or.inr (Or.inr (Or.inr (Or.inr (Or.inr (Or.inr (Or.inr (Or.inr (Or.inr (Or.inr (Or.inr (Or.inr (Or.inr (Or.inl h))))))))))))))) (fun h => (h.elim (fun h => (Or.inr (Or.inr (Or.inr (Or.inr (Or.inr (Or.inr (Or.inr (Or.inr (Or.inr (Or.inr (Or.inr (Or.inr (Or.inr (Or.inr (Or.inl h)))))))))))))))) (fun h => (Or.inr (Or.inr (Or.inr (Or.inr (Or.inr (Or.inr (Or.inr (Or.inr (Or.inr (Or.inr (Or.inr (Or.inr (Or.inr (Or.inr (Or.inr (Or.inl h))))))))))))))))))))))))))))))))))))))))))))))) g96
                  have t99 := (g96 48 10).resolve_left (fun h => h.elim (fun h => absurd h.2 (by first | exact gz_ne rfl | decide)) (fun h => h.elim (fun h => absurd h.2 (by first | exact gz_ne rfl | decide)) (fun h => h.elim (fun h => absurd h.2 (by first | exact gz_ne rfl | decide)) (fun h => h.elim (fun h => absurd h (by first | exact gz_ne rfl | decide)) (fun h => h.elim (fun h => absurd h (by first | exact gz_ne rfl | decide)) (fun h => h.elim (fun h => absurd h (by first | exact gz_ne rfl | decide)) (fun h => h.elim (fun h => absurd h (by first | exact gz_ne rfl | decide)) (fun h => h.elim (fun h => absurd h (by first | exact gz_ne rfl | decide)) (fun h => h.elim (fun h => absurd h.2 (by first | exact gz_ne rfl | decide)) (fun h => h.elim (fun h => absurd h (by first | exact gz_ne rfl | decide)) (fun h => h.elim (fun h => absurd h (by first | exact gz_ne rfl | decide)) (fun h => h.elim (fun h => absurd h (by first | exact gz_ne rfl | decide)) (fun h => h.elim (fun h => absurd h.2 (by first | exact gz_ne rfl | decide)) (fun h => h.elim (fun h => absurd h.2 (by first | exact gz_ne rfl | decide)) (fun h => h.elim (fun h => absurd h (by first | exact gz_ne rfl | decide)) (fun h => absurd h (by first | exact gz_ne rfl | decide)))))))))))))))))
                  have t100 := (g96 48 13).resolve_left (fun h => h.elim (fun h => absurd h.2 (by first | exact gz_ne rfl | decide)) (fun h => h.elim (fun h => absurd h.2 (by first | exact gz_ne rfl | decide)) (fun h => h.elim (fun h => absurd h.2 (by first | exact gz_ne rfl | decide)) (fun h => h.elim (fun h => absurd h (by first | exact gz_ne rfl | decide)) (fun h => h.elim (fun h => absurd h (by first | exact gz_ne rfl | decide)) (fun h => h.elim (fun h => absurd h (by first | exact gz_ne rfl | decide)) (fun h => h.elim (fun h => absurd h (by first | exact gz_ne rfl | decide)) (fun h => h.elim (fun h => absurd h (by first | exact gz_ne rfl | decide)) (fun h => h.elim (fun h => absurd h.2 (by first | exact gz_ne rfl | decide)) (fun h => h.elim (fun h => absurd h (by first | exact gz_ne rfl | decide)) (fun h => h.elim (fun h => absurd h (by first | exact gz_ne rfl | decide)) (fun h => h.elim (fun h => absurd h (by first | exact gz_ne rfl | decide)) (fun h => h.elim (fun h => absurd h.2 (by first | exact gz_ne rfl | decide)) (fun h => h.elim (fun h => absurd h.2 (by first | exact gz_ne rfl | decide)) (fun h => h.elim (fun h => absurd h (by first | exact gz_ne rfl | decide)) (fun h => absurd h (by first | exact gz_ne rfl | decide)))))))))))))))))
                  have t101 := (g96 48 14).resolve_left (fun h => h.elim (fun h => absurd h.2 (by first | exact gz_ne rfl | decide)) (fun h => h.elim (fun h => absurd h.2 (by first | exact gz_ne rfl | decide)) (fun h => h.elim (fun h => absurd h.2 (by first | exact gz_ne rfl | decide)) (fun h => h.elim (fun h => absurd h (by first | exact gz_ne rfl | decide)) (fun h => h.elim (fun h => absurd h (by first | exact gz_ne rfl | decide)) (fun h => h.elim (fun h => absurd h (by first | exact gz_ne rfl | decide)) (fun h => h.elim (fun h => absurd h (by first | exact gz_ne rfl | decide)) (fun h => h.elim (fun h => absurd h (by first | exact gz_ne rfl | decide)) (fun h => h.elim (fun h => absurd h.2 (by first | exact gz_ne rfl | decide)) (fun h => h.elim (fun h => absurd h (by first | exact gz_ne rfl | decide)) (fun h => h.elim (fun h => absurd h (by first | exact gz_ne rfl | decide)) (fun h => h.elim (fun h => absurd h (by first | exact gz_ne rfl | decide)) (fun h => h.elim (fun h => absurd h.2 (by first | exact gz_ne rfl | decide)) (fun h => h.elim (fun h => absurd h.2 (by first | exact gz_ne rfl | decide)) (fun h => h.elim (fun h => absurd h (by first | exact gz_ne rfl | decide)) (fun h => absurd h (by first | exact gz_ne rfl | decide)))))))))))))))))
                  have t102 := (g96 a1 13).resolve_left (fun h => h.elim (fun h => absurd h.2 (by first | exact gz_ne rfl | decide)) (fun h => h.elim (fun h => absurd h.2 (by first | exact gz_ne rfl | decide)) (fun h => h.elim (fun h => absurd h.2 (by first | exact gz_ne rfl | decide)) (fun h => h.elim (fun h => absurd h N_a1__51) (fun h => h.elim (fun h => absurd h N_a1__52) (fun h => h.elim (fun h => absurd h N_a1__53) (fun h => h.elim (fun h => absurd h N_a1__54) (fun h => h.elim (fun h => absurd h N_a1__55) (fun h => h.elim (fun h => absurd h.2 (by first | exact gz_ne rfl | decide)) (fun h => h.elim (fun h => absurd h N_a1__58) (fun h => h.elim (fun h => absurd h N_a1__59) (fun h => h.elim (fun h => absurd h N_a1__60) (fun h => h.elim (fun h => absurd h.2 (by first | exact gz_ne rfl | decide)) (fun h => h.elim (fun h => absurd h.2 (by first | exact gz_ne rfl | decide)) (fun h => h.elim (fun h => absurd h N_a1__49) (fun h => absurd h N_a1__50))))))))))))))))
                  have t103 := (g96 a1 11).resolve_left (fun h => h.elim (fun h => absurd h.2 (by first | exact gz_ne rfl | decide)) (fun h => h.elim (fun h => absurd h.2 (by first | exact gz_ne rfl | decide)) (fun h => h.elim (fun h => absurd h.2 (by first | exact gz_ne rfl | decide)) (fun h => h.elim (fun h => absurd h N_a1__51) (fun h => h.elim (fun h => absurd h N_a1__52) (fun h => h.elim (fun h => absurd h N_a1__53) (fun h => h.elim (fun h => absurd h N_a1__54) (fun h => h.elim (fun h => absurd h N_a1__55) (fun h => h.elim (fun h => absurd h.1 N_a1__48) (fun h => h.elim (fun h => absurd h N_a1__58) (fun h => h.elim (fun h => absurd h N_a1__59) (fun h => h.elim (fun h => absurd h N_a1__60) (fun h => h.elim (fun h => absurd h.2 (by first | exact gz_ne rfl | decide)) (fun h => h.elim (fun h => absurd h.2 (by first | exact gz_ne rfl | decide)) (fun h => h.elim (fun h => absurd h N_a1__49) (fun h => absurd h N_a1__50))))))))))))))))
                  have t104 := (g96 a2 4).resolve_left (fun h => h.elim (fun h => absurd h.2 (by first | exact gz_ne rfl | decide)) (fun h => h.elim (fun h => absurd h.2 (by first | exact gz_ne rfl | decide)) (fun h => h.elim (fun h => absurd h.2 (by first | exact gz_ne rfl | decide)) (fun h => h.elim (fun h => absurd h N_a2__51) (fun h => h.elim (fun h => absurd h N_a2__52) (fun h => h.elim (fun h => absurd h N_a2__53) (fun h => h.elim (fun h => absurd h N_a2__54) (fun h => h.elim (fun h => absurd h N_a2__55) (fun h => h.elim (fun h => absurd h.2 (by first | exact gz_ne rfl | decide)) (fun h => h.elim (fun h => absurd h N_a2__58) (fun h => h.elim (fun h => absurd h N_a2__59) (fun h => h.elim (fun h => absurd h N_a2__60) (fun h => h.elim (fun h => absurd h.2 (by first | exact gz_ne rfl | decide)) (fun h => h.elim (fun h => absurd h.2 (by first | exact gz_ne rfl | decide)) (fun h => h.elim (fun h => absurd h N_a2__49) (fun h => absurd h N_a2__50))))))))))))))))
                  have t105 := (g96 2 1).resolve_left (fun h => h.elim (fun h => absurd h.2 (by first | exact gz_ne rfl | decide)) (fun h => h.elim (fun h => absurd h.2 (by first | exact gz_ne rfl | decide)) (fun h => h.elim (fun h => absurd h.2 (by first | exact gz_ne rfl | decide)) (fun h => h.elim (fun h => absurd h (by first | exact gz_ne rfl | decide)) (fun h => h.elim (fun h => absurd h (by first | exact gz_ne rfl | decide)) (fun h => h.elim (fun h => absurd h (by first | exact gz_ne rfl | decide)) (fun h => h.elim (fun h => absurd h (by first | exact gz_ne rfl | decide)) (fun h => h.elim (fun h => absurd h (by first | exact gz_ne rfl | decide)) (fun h => h.elim (fun h => absurd h.2 (by first | exact gz_ne rfl | decide)) (fun h => h.elim (fun h => absurd h (by first | exact gz_ne rfl | decide)) (fun h => h.elim (fun h => absurd h (by first | exact gz_ne rfl | decide)) (fun h => h.elim (fun h => absurd h (by first | exact gz_ne rfl | decide)) (fun h => h.elim (fun h => absurd h.2 (by first | exact gz_ne rfl | decide)) (fun h => h.elim (fun h => absurd h.2 (by first | exact gz_ne rfl | decide)) (fun h => h.elim (fun h => absurd h (by first | exact gz_ne rfl | decide)) (fun h => absurd h (by first | exact gz_ne rfl | decide)))))))))))))))))
                  have f106 := (gc_b_49_3 hI97 R_48)
                  have f107 := (gc_b_49_6 hI97 R_48)
                  have f108 := (gc_b_49_11 hI97 R_48)
                  have f109 := (gc_b_49_12 hI97 R_48)
                  have f110 := (gc_b_49_17 hI97 R_48)
                  have f111 := (gc_b_49_18 hI97 R_48)
                  obtain rfl : J63 = J98 := funext fun q => funext fun j => ((k96 q j).resolve_left id).symm
                  refine gv_callV hD rfl (As := [.inl v6_32, .inl v5_16, .inl v8_64, .inl v7_64]) (st := []) rfl B_48 S_48 rfl (gc_lV0 hws rfl) (Nat.le_of_ble_eq_true rfl) (gz_Ev_mono (d := 11) (by decide) E96) ?_
                  show gv_X _ _ (140, [(0, .inr (.inr (some 48))), (1, .inr (.inr (some a1))), (2, .inr (.inr (some a2))), (3, .inl a3), (4, .inl v4_16), (5, .inl v5_16), (6, .inl v6_32), (7, .inl v7_64), (8, .inl v8_64)], [], sh, gc_h sh I97 J63 A)
                  refine gv_run 2 true hD (pc' := 106) (lv' := [(8, .inl (v8_64 + 1)), (0, .inr (.inr (some 48))), (1, .inr (.inr (some a1))), (2, .inr (.inr (some a2))), (3, .inl a3), (4, .inl v4_16), (5, .inl v5_16), (6, .inl v6_32), (7, .inl v7_64)]) (st' := []) (h' := gc_h sh I97 J63 A) (C := ((True ∧ True) ∧ True)) rfl ⟨⟨trivial, trivial⟩, trivial⟩ ?_
                  refine gv_pick [1, 2, 3, 4, 5, 6, 7, 8, 0] rfl ?_
                  exact ih106 I97 J63 v7_64 (v8_64 + 1) (by exact gz_m 106 (by omega)) hI97 FI97 FJ63 KFN_I97 KFZ_I97 KWV_I97 KLO_I97 KWA_I97 KLK_I97 KTR_I97 KWB_I97 (by exact gz_m 107 (by omega)) q96.2.2 (gc_rg_fr e1_64 (fun k => (g96 (a1 + 22) k).resolve_left (by exact gz_m 108 (by omega))))
          refine gv_run 3 true hD (pc' := 106) (lv' := [(8, .inl 0), (7, .inl s0_48), (0, .inr (.inr (some 48))), (1, .inr (.inr (some a1))), (2, .inr (.inr (some a2))), (3, .inl a3), (4, .inl v4_16), (5, .inl v5_16), (6, .inl v6_32)]) (st' := []) (h' := gc_h sh I46 J47 A) (C := (((True ∧ True) ∧ True) ∧ True)) rfl ⟨⟨⟨trivial, trivial⟩, trivial⟩, trivial⟩ ?_
          refine gv_pick [2, 3, 4, 5, 6, 7, 8, 1, 0] rfl ?_
          exact L106 _ I46 J47 s0_48 0 (Nat.lt_succ_self _) hI46 FI46 FJ47 KFN_I46 KFZ_I46 KWV_I46 KLO_I46 KWA_I46 KLK_I46 KTR_I46 KWB_I46 (by exact gz_m 109 (by omega)) e0_48 e1_48
        have L152 : ((0 ≤ a3 ∧ a3 ≤ 31) ∧ (1 ≤ v4_16 ∧ v4_16 ≤ 24) ∧ (1 ≤ v5_16 ∧ v5_16 ≤ 24) ∧ (v4_16 = I a2 4) ∧ (v5_16 ≤ v4_16) ∧ (I30 48 11 ≤ 400001) ∧ (I30 48 13 = (a1 : Int)) ∧ (I30 48 14 = (a2 : Int)) ∧ (I30 2 1 = I 2 1) ∧ (I30 a2 4 = I a2 4) ∧ (I30 a1 13 = I a1 13)) → (gc_OF (I a2 4) (I 2 1) (v5_16 + 1) 0 0 I30) → gv_X (gc_E0 ws0 tb 11 (yX0_fill, cX0_fill, 9, (some .int)) kX0_fill) (gv_Q cX0_fill (some .int) sh (fun r h' => (∃ (I' : gr_I) (J' : gr_J), h' = gc_h sh I' J' A ∧ gc_Inv ro I' ∧ (∀ q j : Nat, ((q = 48 ∧ j = 3) ∨ (q = 48 ∧ j = 6) ∨ (q = 48 ∧ j = 12) ∨ q = 51 ∨ q = 52 ∨ q = 53 ∨ q = 54 ∨ q = 55 ∨ (q = 48 ∧ j = 11) ∨ q = 58 ∨ q = 59 ∨ q = 60 ∨ (q = 48 ∧ j = 17) ∨ (q = 48 ∧ j = 18) ∨ q = 49 ∨ q = 50 ∨ (q = 48 ∧ j = 13) ∨ (q = 48 ∧ j = 14) ∨ (q = 48 ∧ j = 10) ∨ q = 56 ∨ q = 57 ∨ q = (a1 + 22)) ∨ I' q j = I q j) ∧ (∀ q j : Nat, (False) ∨ J' q j = J q j) ∧ gc_FN I' ∧ gc_FZ I' ∧ (∃ z : Int, r = some (.inl z) ∧ (-1) ≤ z ∧ z ≤ 1 ∧ (gc_WV a1 I') ∧ (I' 48 12 = 1 ∨ I' 48 11 ≤ 400000) ∧ (gc_WA (gc_lsl A I a1) I') ∧ (z = -1 ∨ I' 49 (Int.toNat (I' 48 10)) + I' 50 (Int.toNat (I' 48 10)) ≤ I' 48 3) ∧ (gc_WB (24 * I a1 11) I') ∧ (z = -1 ∨ I' 48 11 ≤ 400000) ∧ (I' 48 13 = (a1 : Int) ∧ I' 48 14 = (a2 : Int)))))) (152, [(0, .inr (.inr (some 48))), (1, .inr (.inr (some a1))), (2, .inr (.inr (some a2))), (3, .inl a3), (4, .inl v4_16), (5, .inl v5_16)], [], sh, gc_h sh I30 J31 A) := by
          intro m_112 e0_112
          obtain ⟨ha3_112, hv4_16_112, hv5_16_112, e1_112, e2_112, e3_112, e4_112, e5_112, e6_112, e7_112, e8_112⟩ := m_112
          have f113 := (gc_b_49_3 hI30 R_48)
          have f114 := (gc_b_49_6 hI30 R_48)
          have f115 := (gc_b_49_11 hI30 R_48)
          have f116 := (gc_b_49_12 hI30 R_48)
          have f117 := (gc_b_49_17 hI30 R_48)
          have f118 := (gc_b_49_18 hI30 R_48)
          have f119 := (gc_b_49_10 hI30 R_48)
          have f120 := (gc_b_49_13 hI30 R_48)
          have f121 := (gc_b_49_14 hI30 R_48)
          have f122 := (show 0 ≤ I30 a1 13 ∧ I30 a1 13 ≤ 384 from gc_in2 hI30 R_a1 rfl rfl rfl)
          have f123 := (show 0 ≤ I30 a1 11 ∧ I30 a1 11 ≤ 64 from gc_in2 hI30 R_a1 rfl rfl rfl)
          have f124 := (show 0 ≤ I30 a2 4 ∧ I30 a2 4 ≤ 24 from gc_in2 hI30 R_a2 rfl rfl rfl)
          have f125 := (gc_b_9_1 hI30 R_2)
          refine gv_run 2 true hD (pc' := 32) (lv' := [(5, .inl (v5_16 + 1)), (0, .inr (.inr (some 48))), (1, .inr (.inr (some a1))), (2, .inr (.inr (some a2))), (3, .inl a3), (4, .inl v4_16)]) (st' := []) (h' := gc_h sh I30 J31 A) (C := ((True ∧ True) ∧ True)) rfl ⟨⟨trivial, trivial⟩, trivial⟩ ?_
          refine gv_pick [1, 2, 3, 4, 5, 0] rfl ?_
          exact ih32 I30 J31 v4_16 (v5_16 + 1) (by exact gz_m 110 (by omega)) hI30 FI30 FJ31 KFN_I30 KFZ_I30 KWV_I30 KLO_I30 KWA_I30 KLK_I30 KTR_I30 KWB_I30 (by exact gz_m 111 (by omega)) e0_112
        refine gv_run 4 true hD (pc' := 56) (lv' := [(0, .inr (.inr (some 48))), (1, .inr (.inr (some a1))), (2, .inr (.inr (some a2))), (3, .inl a3), (4, .inl v4_16), (5, .inl v5_16), (6, .inl v6_32)]) (st' := [.inl v4_16, .inl (v6_32 + v5_16)]) (h' := gc_h sh I30 J31 A) (C := ((((True ∧ True) ∧ True) ∧ True) ∧ True)) rfl ⟨⟨⟨⟨trivial, trivial⟩, trivial⟩, trivial⟩, trivial⟩ ?_
        refine gv_icmp_gt (t := 152) hD rfl rfl ⟨⟨by exact gz_m 112 (by omega), by exact gz_m 113 (by omega)⟩, ⟨by exact gz_m 114 (by omega), by exact gz_m 115 (by omega)⟩⟩ (fun c126 => ?_) (fun c126 => ?_)
        · show gv_X _ _ (152, [(0, .inr (.inr (some 48))), (1, .inr (.inr (some a1))), (2, .inr (.inr (some a2))), (3, .inl a3), (4, .inl v4_16), (5, .inl v5_16), (6, .inl v6_32)], [], sh, gc_h sh I30 J31 A)
          refine gv_pick [0, 1, 2, 3, 4, 5] rfl ?_
          exact L152 (by exact gz_m 116 (by omega)) (by by_cases h9 : I30 48 12 = 1; (· exact Or.inl h9); (· exact Or.inr (gc_FD_b (Or.resolve_left e0_32 h9) (by exact gz_m 117 (by omega)))))
        · show gv_X _ _ (59, [(0, .inr (.inr (some 48))), (1, .inr (.inr (some a1))), (2, .inr (.inr (some a2))), (3, .inl a3), (4, .inl v4_16), (5, .inl v5_16), (6, .inl v6_32)], [], sh, gc_h sh I30 J31 A)
          refine gv_run 1 true hD (pc' := 60) (lv' := [(0, .inr (.inr (some 48))), (1, .inr (.inr (some a1))), (2, .inr (.inr (some a2))), (3, .inl a3), (4, .inl v4_16), (5, .inl v5_16), (6, .inl v6_32)]) (st' := [.inr (.inr (some 48))]) (h' := gc_h sh I30 J31 A) (C := (True ∧ True)) rfl ⟨trivial, trivial⟩ ?_
          have f127 := (gc_b_49_12 hI30 R_48)
          refine gv_get hD rfl rfl S_48 ⟨by decide, B_48⟩ (gc_hI S_48 rfl) ?_
          show gv_X _ _ (63, [(0, .inr (.inr (some 48))), (1, .inr (.inr (some a1))), (2, .inr (.inr (some a2))), (3, .inl a3), (4, .inl v4_16), (5, .inl v5_16), (6, .inl v6_32)], [.inl (I30 48 12)], sh, gc_h sh I30 J31 A)
          refine gv_if_ne (t := 152) hD rfl rfl ⟨by exact gz_m 118 (by omega), by exact gz_m 119 (by omega)⟩ (fun c128 => ?_) (fun c128 => ?_)
          · show gv_X _ _ (152, [(0, .inr (.inr (some 48))), (1, .inr (.inr (some a1))), (2, .inr (.inr (some a2))), (3, .inl a3), (4, .inl v4_16), (5, .inl v5_16), (6, .inl v6_32)], [], sh, gc_h sh I30 J31 A)
            refine gv_pick [0, 1, 2, 3, 4, 5] rfl ?_
            exact L152 (by exact gz_m 120 (by omega)) (by by_cases h9 : I30 48 12 = 1; (· exact Or.inl h9); (· exact Or.inr (gc_FD_b (Or.resolve_left e0_32 h9) (by exact gz_m 121 (by omega)))))
          · show gv_X _ _ (66, [(0, .inr (.inr (some 48))), (1, .inr (.inr (some a1))), (2, .inr (.inr (some a2))), (3, .inl a3), (4, .inl v4_16), (5, .inl v5_16), (6, .inl v6_32)], [], sh, gc_h sh I30 J31 A)
            refine gv_run 2 true hD (pc' := 69) (lv' := [(0, .inr (.inr (some 48))), (1, .inr (.inr (some a1))), (2, .inr (.inr (some a2))), (3, .inl a3), (4, .inl v4_16), (5, .inl v5_16), (6, .inl v6_32)]) (st' := [.inl 1, .inl v5_16]) (h' := gc_h sh I30 J31 A) (C := ((True ∧ True) ∧ True)) rfl ⟨⟨trivial, trivial⟩, trivial⟩ ?_
            refine gv_icmp_ne (t := 100) hD rfl rfl ⟨⟨by exact gz_m 122 (by omega), by exact gz_m 123 (by omega)⟩, ⟨by exact gz_m 124 (by omega), by exact gz_m 125 (by omega)⟩⟩ (fun c129 => ?_) (fun c129 => ?_)
            · show gv_X _ _ (100, [(0, .inr (.inr (some 48))), (1, .inr (.inr (some a1))), (2, .inr (.inr (some a2))), (3, .inl a3), (4, .inl v4_16), (5, .inl v5_16), (6, .inl v6_32)], [], sh, gc_h sh I30 J31 A)
              refine gv_run 1 true hD (pc' := 101) (lv' := [(0, .inr (.inr (some 48))), (1, .inr (.inr (some a1))), (2, .inr (.inr (some a2))), (3, .inl a3), (4, .inl v4_16), (5, .inl v5_16), (6, .inl v6_32)]) (st' := [.inl 0]) (h' := gc_h sh I30 J31 A) (C := (True ∧ True)) rfl ⟨trivial, trivial⟩ ?_
              exact L101 I30 J31 0 hI30 FI30 FJ31 KFN_I30 KFZ_I30 KWV_I30 KLO_I30 KWA_I30 KLK_I30 KTR_I30 KWB_I30 (by exact gz_m 126 (by omega)) (Or.resolve_left e0_32 (by exact gz_m 127 (by omega))) (fun k a b => by exact gz_m 128 (by omega))
            · show gv_X _ _ (72, [(0, .inr (.inr (some 48))), (1, .inr (.inr (some a1))), (2, .inr (.inr (some a2))), (3, .inl a3), (4, .inl v4_16), (5, .inl v5_16), (6, .inl v6_32)], [], sh, gc_h sh I30 J31 A)
              refine gv_run 1 true hD (pc' := 73) (lv' := [(0, .inr (.inr (some 48))), (1, .inr (.inr (some a1))), (2, .inr (.inr (some a2))), (3, .inl a3), (4, .inl v4_16), (5, .inl v5_16), (6, .inl v6_32)]) (st' := [.inr (.inr (some a1))]) (h' := gc_h sh I30 J31 A) (C := (True ∧ True)) rfl ⟨trivial, trivial⟩ ?_
              refine gv_get hD rfl rfl S_a1 ⟨by decide, B_a1⟩ (gc_hA S_a1 rfl A_a1_15) ?_
              show gv_X _ _ (76, [(0, .inr (.inr (some 48))), (1, .inr (.inr (some a1))), (2, .inr (.inr (some a2))), (3, .inl a3), (4, .inl v4_16), (5, .inl v5_16), (6, .inl v6_32)], [.inr (.inr (some (a1 + 17)))], sh, gc_h sh I30 J31 A)
              refine gv_run 1 true hD (pc' := 77) (lv' := [(0, .inr (.inr (some 48))), (1, .inr (.inr (some a1))), (2, .inr (.inr (some a2))), (3, .inl a3), (4, .inl v4_16), (5, .inl v5_16), (6, .inl v6_32)]) (st' := [.inr (.inr (some a2)), .inr (.inr (some (a1 + 17)))]) (h' := gc_h sh I30 J31 A) (C := (True ∧ True)) rfl ⟨trivial, trivial⟩ ?_
              refine gv_get hD rfl rfl S_a2 ⟨by decide, B_a2⟩ (gc_hA S_a2 rfl A_a2_0) ?_
              show gv_X _ _ (80, [(0, .inr (.inr (some 48))), (1, .inr (.inr (some a1))), (2, .inr (.inr (some a2))), (3, .inl a3), (4, .inl v4_16), (5, .inl v5_16), (6, .inl v6_32)], [.inr (.inr (some (a2 + 1))), .inr (.inr (some (a1 + 17)))], sh, gc_h sh I30 J31 A)
              refine gv_run 1 true hD (pc' := 81) (lv' := [(0, .inr (.inr (some 48))), (1, .inr (.inr (some a1))), (2, .inr (.inr (some a2))), (3, .inl a3), (4, .inl v4_16), (5, .inl v5_16), (6, .inl v6_32)]) (st' := [.inr (.inr (some a2)), .inr (.inr (some (a2 + 1))), .inr (.inr (some (a1 + 17)))]) (h' := gc_h sh I30 J31 A) (C := (True ∧ True)) rfl ⟨trivial, trivial⟩ ?_
              refine gv_get hD rfl rfl S_a2 ⟨by decide, B_a2⟩ (gc_hA S_a2 rfl A_a2_2) ?_
              show gv_X _ _ (84, [(0, .inr (.inr (some 48))), (1, .inr (.inr (some a1))), (2, .inr (.inr (some a2))), (3, .inl a3), (4, .inl v4_16), (5, .inl v5_16), (6, .inl v6_32)], [.inr (.inr (some (a2 + 2))), .inr (.inr (some (a2 + 1))), .inr (.inr (some (a1 + 17)))], sh, gc_h sh I30 J31 A)
              refine gv_run 1 true hD (pc' := 86) (lv' := [(0, .inr (.inr (some 48))), (1, .inr (.inr (some a1))), (2, .inr (.inr (some a2))), (3, .inl a3), (4, .inl v4_16), (5, .inl v5_16), (6, .inl v6_32)]) (st' := [.inl v6_32, .inr (.inr (some (a2 + 2))), .inr (.inr (some (a2 + 1))), .inr (.inr (some (a1 + 17)))]) (h' := gc_h sh I30 J31 A) (C := (True ∧ True)) rfl ⟨trivial, trivial⟩ ?_
              have f130 := (show 0 ≤ I30 (a2 + 2) (Int.toNat v6_32) ∧ I30 (a2 + 2) (Int.toNat v6_32) ≤ 1000 from gc_in2 hI30 R_a2_2 rfl rfl rfl)
              refine gv_iald hD rfl S_a2_2 rfl ⟨by decide, B_a2_2⟩ ⟨by exact gz_m 129 (by omega), by exact gz_m 130 (by omega)⟩ (gc_iI S_a2_2 rfl) ?_
              show gv_X _ _ (87, [(0, .inr (.inr (some 48))), (1, .inr (.inr (some a1))), (2, .inr (.inr (some a2))), (3, .inl a3), (4, .inl v4_16), (5, .inl v5_16), (6, .inl v6_32)], [.inl (I30 (a2 + 2) (Int.toNat v6_32)), .inr (.inr (some (a2 + 1))), .inr (.inr (some (a1 + 17)))], sh, gc_h sh I30 J31 A)
              refine gv_run 1 true hD (pc' := 88) (lv' := [(0, .inr (.inr (some 48))), (1, .inr (.inr (some a1))), (2, .inr (.inr (some a2))), (3, .inl a3), (4, .inl v4_16), (5, .inl v5_16), (6, .inl v6_32)]) (st' := [.inr (.inr (some a2)), .inl (I30 (a2 + 2) (Int.toNat v6_32)), .inr (.inr (some (a2 + 1))), .inr (.inr (some (a1 + 17)))]) (h' := gc_h sh I30 J31 A) (C := (True ∧ True)) rfl ⟨trivial, trivial⟩ ?_
              refine gv_get hD rfl rfl S_a2 ⟨by decide, B_a2⟩ (gc_hA S_a2 rfl A_a2_3) ?_
              show gv_X _ _ (91, [(0, .inr (.inr (some 48))), (1, .inr (.inr (some a1))), (2, .inr (.inr (some a2))), (3, .inl a3), (4, .inl v4_16), (5, .inl v5_16), (6, .inl v6_32)], [.inr (.inr (some (a2 + 3))), .inl (I30 (a2 + 2) (Int.toNat v6_32)), .inr (.inr (some (a2 + 1))), .inr (.inr (some (a1 + 17)))], sh, gc_h sh I30 J31 A)
              refine gv_run 1 true hD (pc' := 93) (lv' := [(0, .inr (.inr (some 48))), (1, .inr (.inr (some a1))), (2, .inr (.inr (some a2))), (3, .inl a3), (4, .inl v4_16), (5, .inl v5_16), (6, .inl v6_32)]) (st' := [.inl v6_32, .inr (.inr (some (a2 + 3))), .inl (I30 (a2 + 2) (Int.toNat v6_32)), .inr (.inr (some (a2 + 1))), .inr (.inr (some (a1 + 17)))]) (h' := gc_h sh I30 J31 A) (C := (True ∧ True)) rfl ⟨trivial, trivial⟩ ?_
              have f131 := (show 0 ≤ I30 (a2 + 3) (Int.toNat v6_32) ∧ I30 (a2 + 3) (Int.toNat v6_32) ≤ 24 from gc_in2 hI30 R_a2_3 rfl rfl rfl)
              refine gv_iald hD rfl S_a2_3 rfl ⟨by decide, B_a2_3⟩ ⟨by exact gz_m 131 (by omega), by exact gz_m 132 (by omega)⟩ (gc_iI S_a2_3 rfl) ?_
              show gv_X _ _ (94, [(0, .inr (.inr (some 48))), (1, .inr (.inr (some a1))), (2, .inr (.inr (some a2))), (3, .inl a3), (4, .inl v4_16), (5, .inl v5_16), (6, .inl v6_32)], [.inl (I30 (a2 + 3) (Int.toNat v6_32)), .inl (I30 (a2 + 2) (Int.toNat v6_32)), .inr (.inr (some (a2 + 1))), .inr (.inr (some (a1 + 17)))], sh, gc_h sh I30 J31 A)
              have t132 := (gc_SP_fr x1 ((FI30 a2 4).resolve_left (fun h => h.elim (fun h => absurd h.2 (by first | exact gz_ne rfl | decide)) (fun h => h.elim (fun h => absurd h.2 (by first | exact gz_ne rfl | decide)) (fun h => h.elim (fun h => absurd h.2 (by first | exact gz_ne rfl | decide)) (fun h => h.elim (fun h => absurd h N_a2__51) (fun h => h.elim (fun h => absurd h N_a2__52) (fun h => h.elim (fun h => absurd h N_a2__53) (fun h => h.elim (fun h => absurd h N_a2__54) (fun h => h.elim (fun h => absurd h N_a2__55) (fun h => h.elim (fun h => absurd h.2 (by first | exact gz_ne rfl | decide)) (fun h => h.elim (fun h => absurd h N_a2__58) (fun h => h.elim (fun h => absurd h N_a2__59) (fun h => h.elim (fun h => absurd h N_a2__60) (fun h => h.elim (fun h => absurd h.2 (by first | exact gz_ne rfl | decide)) (fun h => h.elim (fun h => absurd h.2 (by first | exact gz_ne rfl | decide)) (fun h => h.elim (fun h => absurd h N_a2__49) (fun h => h.elim (fun h => absurd h N_a2__50) (fun h => h.elim (fun h => absurd h.2 (by first | exact gz_ne rfl | decide)) (fun h => h.elim (fun h => absurd h.2 (by first | exact gz_ne rfl | decide)) (fun h => h.elim (fun h => absurd h.2 (by first | exact gz_ne rfl | decide)) (fun h => h.elim (fun h => absurd h N_a2__56) (fun h => h.elim (fun h => absurd h N_a2__57) (fun h => absurd h N_a2__a1_22))))))))))))))))))))))) (fun k => (FI30 (a2 + 2) k).resolve_left (fun h => h.elim (fun h => absurd h.1 N_a2_2__48) (fun h => h.elim (fun h => absurd h.1 N_a2_2__48) (fun h => h.elim (fun h => absurd h.1 N_a2_2__48) (fun h => h.elim (fun h => absurd h N_a2_2__51) (fun h => h.elim (fun h => absurd h N_a2_2__52) (fun h => h.elim (fun h => absurd h N_a2_2__53) (fun h => h.elim (fun h => absurd h N_a2_2__54) (fun h => h.elim (fun h => absurd h N_a2_2__55) (fun h => h.elim (fun h => absurd h.1 N_a2_2__48) (fun h => h.elim (fun h => absurd h N_a2_2__58) (fun h => h.elim (fun h => absurd h N_a2_2__59) (fun h => h.elim (fun h => absurd h N_a2_2__60) (fun h => h.elim (fun h => absurd h.1 N_a2_2__48) (fun h => h.elim (fun h => absurd h.1 N_a2_2__48) (fun h => h.elim (fun h => absurd h N_a2_2__49) (fun h => h.elim (fun h => absurd h N_a2_2__50) (fun h => h.elim (fun h => absurd h.1 N_a2_2__48) (fun h => h.elim (fun h => absurd h.1 N_a2_2__48) (fun h => h.elim (fun h => absurd h.1 N_a2_2__48) (fun h => h.elim (fun h => absurd h N_a2_2__56) (fun h => h.elim (fun h => absurd h N_a2_2__57) (fun h => absurd h N_a2_2__a1_22))))))))))))))))))))))) (fun k => (FI30 (a2 + 3) k).resolve_left (fun h => h.elim (fun h => absurd h.1 N_a2_3__48) (fun h => h.elim (fun h => absurd h.1 N_a2_3__48) (fun h => h.elim (fun h => absurd h.1 N_a2_3__48) (fun h => h.elim (fun h => absurd h N_a2_3__51) (fun h => h.elim (fun h => absurd h N_a2_3__52) (fun h => h.elim (fun h => absurd h N_a2_3__53) (fun h => h.elim (fun h => absurd h N_a2_3__54) (fun h => h.elim (fun h => absurd h N_a2_3__55) (fun h => h.elim (fun h => absurd h.1 N_a2_3__48) (fun h => h.elim (fun h => absurd h N_a2_3__58) (fun h => h.elim (fun h => absurd h N_a2_3__59) (fun h => h.elim (fun h => absurd h N_a2_3__60) (fun h => h.elim (fun h => absurd h.1 N_a2_3__48) (fun h => h.elim (fun h => absurd h.1 N_a2_3__48) (fun h => h.elim (fun h => absurd h N_a2_3__49) (fun h => h.elim (fun h => absurd h N_a2_3__50) (fun h => h.elim (fun h => absurd h.1 N_a2_3__48) (fun h => h.elim (fun h => absurd h.1 N_a2_3__48) (fun h => h.elim (fun h => absurd h.1 N_a2_3__48) (fun h => h.elim (fun h => absurd h N_a2_3__56) (fun h => h.elim (fun h => absurd h N_a2_3__57) (fun h => absurd h N_a2_3__a1_22)))))))))))))))))))))))) (Int.toNat v6_32) (by exact gz_m 133 (by omega))
              obtain ⟨r133, h133, E133, P133⟩ := d_X2_findSame_b (ws0 := ws0) (tb := tb) hws htb sh ro I30 J31 A hI30 (a1 + 17) 1000 (24 * I a1 11) (a2 + 1) ((I30 (a2 + 2) (Int.toNat v6_32))) ((I30 (a2 + 3) (Int.toNat v6_32))) h_a1_17 S_a2_1 R_a2_1 B_a2_1 (by decide)  ⟨by exact gz_m 134 (by omega), by exact gz_m 135 (by omega)⟩ ⟨by exact gz_m 136 (by omega), by exact gz_m 137 (by omega)⟩ (by exact gz_m 138 (by omega)) (gc_FB_fr x6 (fun k => (FI30 (a1 + 17 + 4) k).resolve_left (by exact gz_m 139 (by omega))) (fun k => (FI30 (a1 + 17 + 3) k).resolve_left (by exact gz_m 140 (by omega)))) 
              obtain ⟨I134, J135, rfl, hI134, g133, k133, ⟨z133, rfl, q133⟩⟩ := P133
              have FI134 := gc_frc (W := fun q j => (q = 48 ∧ j = 3) ∨ (q = 48 ∧ j = 6) ∨ (q = 48 ∧ j = 12) ∨ q = 51 ∨ q = 52 ∨ q = 53 ∨ q = 54 ∨ q = 55 ∨ (q = 48 ∧ j = 11) ∨ q = 58 ∨ q = 59 ∨ q = 60 ∨ (q = 48 ∧ j = 17) ∨ (q = 48 ∧ j = 18) ∨ q = 49 ∨ q = 50 ∨ (q = 48 ∧ j = 13) ∨ (q = 48 ∧ j = 14) ∨ (q = 48 ∧ j = 10) ∨ q = 56 ∨ q = 57 ∨ q = (a1 + 22)) (V := fun q j => q = (a1 + 22)) FI30 (fun q j h => (Or.inr (Or.inr (Or.inr (Or.inr (Or.inr (Or.inr (Or.inr (Or.inr (Or.inr (Or.inr (Or.inr (Or.inr (Or.inr (Or.inr (Or.inr (Or.inr (Or.inr (Or.inr (Or.inr (Or.inr (Or.inr h)))))))))))))))))))))) g133
              have t136 := (g133 48 3).resolve_left (fun h => absurd h N_48__a1_22)
              have t137 := (g133 48 6).resolve_left (fun h => absurd h N_48__a1_22)
              have t138 := (g133 48 11).resolve_left (fun h => absurd h N_48__a1_22)
              have t139 := (g133 48 12).resolve_left (fun h => absurd h N_48__a1_22)
              have t140 := (g133 48 17).resolve_left (fun h => absurd h N_48__a1_22)
              have t141 := (g133 48 18).resolve_left (fun h => absurd h N_48__a1_22)
              have t142 := (g133 48 10).resolve_left (fun h => absurd h N_48__a1_22)
              have t143 := (g133 48 13).resolve_left (fun h => absurd h N_48__a1_22)
              have t144 := (g133 48 14).resolve_left (fun h => absurd h N_48__a1_22)
              have t145 := (g133 a1 13).resolve_left (fun h => absurd h N_a1__a1_22)
              have t146 := (g133 a1 11).resolve_left (fun h => absurd h N_a1__a1_22)
              have t147 := (g133 a2 4).resolve_left (fun h => absurd h N_a2__a1_22)
              have t148 := (g133 2 1).resolve_left (fun h => absurd h N_2__a1_22)
              obtain rfl : J31 = J135 := funext fun q => funext fun j => ((k133 q j).resolve_left id).symm
              have KFN_I134 := gc_FN_fr KFN_I30 (fun k => (g133 49 k).resolve_left (fun h => absurd h N_49__a1_22)) (fun k => (g133 50 k).resolve_left (fun h => absurd h N_50__a1_22))
              have KFZ_I134 := gc_FZ_fr KFZ_I30 ((g133 2 1).resolve_left (fun h => absurd h N_2__a1_22)) (fun k => (g133 49 k).resolve_left (fun h => absurd h N_49__a1_22)) (fun k => (g133 50 k).resolve_left (fun h => absurd h N_50__a1_22))
              have KWV_I134 := gc_WV_fr KWV_I30 ((g133 48 6).resolve_left (fun h => absurd h N_48__a1_22)) ((g133 a1 13).resolve_left (fun h => absurd h N_a1__a1_22)) (fun k => (g133 54 k).resolve_left (fun h => absurd h N_54__a1_22))
              have KLO_I134 := gc_LO_fr KLO_I30 ((g133 2 1).resolve_left (fun h => absurd h N_2__a1_22)) ((g133 a1 13).resolve_left (fun h => absurd h N_a1__a1_22)) (fun k => (g133 56 k).resolve_left (fun h => absurd h N_56__a1_22)) (fun k => (g133 57 k).resolve_left (fun h => absurd h N_57__a1_22))
              have KWA_I134 := gc_WA_fr KWA_I30 ((g133 48 6).resolve_left (fun h => absurd h N_48__a1_22)) (Int.le_of_eq ((g133 48 3).resolve_left (fun h => absurd h N_48__a1_22)).symm) (fun k => (g133 53 k).resolve_left (fun h => absurd h N_53__a1_22)) (fun k => (g133 54 k).resolve_left (fun h => absurd h N_54__a1_22)) (fun k => (g133 55 k).resolve_left (fun h => absurd h N_55__a1_22))
              have KLK_I134 := gc_LK_fr KLK_I30 ((g133 2 1).resolve_left (fun h => absurd h N_2__a1_22)) (fun k => (g133 56 k).resolve_left (fun h => absurd h N_56__a1_22)) (fun k => (g133 57 k).resolve_left (fun h => absurd h N_57__a1_22))
              have KTR_I134 := gc_TR_fr KTR_I30 ((g133 48 11).resolve_left (fun h => absurd h N_48__a1_22)) ((g133 48 12).resolve_left (fun h => absurd h N_48__a1_22))
              have KWB_I134 := gc_WB_fr KWB_I30 ((g133 48 6).resolve_left (fun h => absurd h N_48__a1_22)) (fun k => (g133 54 k).resolve_left (fun h => absurd h N_54__a1_22))
              refine gv_callV hD rfl (As := [.inr (.inr (some (a2 + 1))), .inl (I30 (a2 + 2) (Int.toNat v6_32)), .inl (I30 (a2 + 3) (Int.toNat v6_32))]) (st := []) rfl B_a1_17 S_a1_17 rfl (gc_lV0 hws rfl) (Nat.le_of_ble_eq_true rfl) (gz_Ev_mono (d := 2) (by decide) E133) ?_
              show gv_X _ _ (97, [(0, .inr (.inr (some 48))), (1, .inr (.inr (some a1))), (2, .inr (.inr (some a2))), (3, .inl a3), (4, .inl v4_16), (5, .inl v5_16), (6, .inl v6_32)], [.inl z133], sh, gc_h sh I134 J31 A)
              refine gv_run 1 true hD (pc' := 101) (lv' := [(0, .inr (.inr (some 48))), (1, .inr (.inr (some a1))), (2, .inr (.inr (some a2))), (3, .inl a3), (4, .inl v4_16), (5, .inl v5_16), (6, .inl v6_32)]) (st' := [.inl z133]) (h' := gc_h sh I134 J31 A) (C := (True ∧ True)) rfl ⟨trivial, trivial⟩ ?_
              exact L101 I134 J31 z133 hI134 FI134 FJ31 KFN_I134 KFZ_I134 KWV_I134 KLO_I134 KWA_I134 KLK_I134 KTR_I134 KWB_I134 (by exact gz_m 141 (by omega)) (gc_FD_fr (Or.resolve_left e0_32 (by exact gz_m 142 (by omega))) (by exact gz_m 143 (by omega)) (fun k => (g133 49 k).resolve_left (by exact gz_m 144 (by omega))) (fun k => (g133 50 k).resolve_left (by exact gz_m 145 (by omega)))) q133.2.2
    have L158 : ((0 ≤ a3 ∧ a3 ≤ 31) ∧ (1 ≤ v4_16 ∧ v4_16 ≤ 24) ∧ (v4_16 = I a2 4) ∧ (I14 48 11 ≤ 400001) ∧ (I14 48 13 = (a1 : Int)) ∧ (I14 48 14 = (a2 : Int)) ∧ (I14 2 1 = I 2 1) ∧ (I14 a2 4 = I a2 4) ∧ (I14 a1 13 = I a1 13)) → (gc_OF (I a2 4) (I 2 1) (I a2 4 + 1) 0 0 I14) → gv_X (gc_E0 ws0 tb 11 (yX0_fill, cX0_fill, 9, (some .int)) kX0_fill) (gv_Q cX0_fill (some .int) sh (fun r h' => (∃ (I' : gr_I) (J' : gr_J), h' = gc_h sh I' J' A ∧ gc_Inv ro I' ∧ (∀ q j : Nat, ((q = 48 ∧ j = 3) ∨ (q = 48 ∧ j = 6) ∨ (q = 48 ∧ j = 12) ∨ q = 51 ∨ q = 52 ∨ q = 53 ∨ q = 54 ∨ q = 55 ∨ (q = 48 ∧ j = 11) ∨ q = 58 ∨ q = 59 ∨ q = 60 ∨ (q = 48 ∧ j = 17) ∨ (q = 48 ∧ j = 18) ∨ q = 49 ∨ q = 50 ∨ (q = 48 ∧ j = 13) ∨ (q = 48 ∧ j = 14) ∨ (q = 48 ∧ j = 10) ∨ q = 56 ∨ q = 57 ∨ q = (a1 + 22)) ∨ I' q j = I q j) ∧ (∀ q j : Nat, (False) ∨ J' q j = J q j) ∧ gc_FN I' ∧ gc_FZ I' ∧ (∃ z : Int, r = some (.inl z) ∧ (-1) ≤ z ∧ z ≤ 1 ∧ (gc_WV a1 I') ∧ (I' 48 12 = 1 ∨ I' 48 11 ≤ 400000) ∧ (gc_WA (gc_lsl A I a1) I') ∧ (z = -1 ∨ I' 49 (Int.toNat (I' 48 10)) + I' 50 (Int.toNat (I' 48 10)) ≤ I' 48 3) ∧ (gc_WB (24 * I a1 11) I') ∧ (z = -1 ∨ I' 48 11 ≤ 400000) ∧ (I' 48 13 = (a1 : Int) ∧ I' 48 14 = (a2 : Int)))))) (158, [(0, .inr (.inr (some 48))), (3, .inl a3), (4, .inl v4_16)], [], sh, gc_h sh I14 J15 A) := by
      intro m_149 e0_149
      obtain ⟨ha3_149, hv4_16_149, e1_149, e2_149, e3_149, e4_149, e5_149, e6_149, e7_149⟩ := m_149
      have f150 := (gc_b_49_3 hI14 R_48)
      have f151 := (gc_b_49_6 hI14 R_48)
      have f152 := (gc_b_49_11 hI14 R_48)
      have f153 := (gc_b_49_12 hI14 R_48)
      have f154 := (gc_b_49_17 hI14 R_48)
      have f155 := (gc_b_49_18 hI14 R_48)
      have f156 := (gc_b_49_10 hI14 R_48)
      have f157 := (gc_b_49_13 hI14 R_48)
      have f158 := (gc_b_49_14 hI14 R_48)
      have f159 := (show 0 ≤ I14 a1 13 ∧ I14 a1 13 ≤ 384 from gc_in2 hI14 R_a1 rfl rfl rfl)
      have f160 := (show 0 ≤ I14 a1 11 ∧ I14 a1 11 ≤ 64 from gc_in2 hI14 R_a1 rfl rfl rfl)
      have f161 := (show 0 ≤ I14 a2 4 ∧ I14 a2 4 ≤ 24 from gc_in2 hI14 R_a2 rfl rfl rfl)
      have f162 := (gc_b_9_1 hI14 R_2)
      have L199 : ∀ (I163 : gr_I) (J164 : gr_J) (s0_165 : Int), gc_Inv ro I163 → (∀ q j : Nat, ((q = 48 ∧ j = 3) ∨ (q = 48 ∧ j = 6) ∨ (q = 48 ∧ j = 12) ∨ q = 51 ∨ q = 52 ∨ q = 53 ∨ q = 54 ∨ q = 55 ∨ (q = 48 ∧ j = 11) ∨ q = 58 ∨ q = 59 ∨ q = 60 ∨ (q = 48 ∧ j = 17) ∨ (q = 48 ∧ j = 18) ∨ q = 49 ∨ q = 50 ∨ (q = 48 ∧ j = 13) ∨ (q = 48 ∧ j = 14) ∨ (q = 48 ∧ j = 10) ∨ q = 56 ∨ q = 57 ∨ q = (a1 + 22)) ∨ I163 q j = I q j) → (∀ q j : Nat, (False) ∨ J164 q j = J q j) → gc_FN I163 → gc_FZ I163 → gc_WV a1 I163 → gc_LO a1 I163 → gc_WA (gc_lsl A I a1) I163 → gc_LK (gc_lk A I a1) I163 → gc_TR I163 → gc_WB (24 * I a1 11) I163 → ((0 ≤ s0_165 ∧ s0_165 ≤ 1) ∧ (I163 48 12 = 0) ∧ (I163 48 11 ≤ 400001) ∧ (I163 48 13 = (a1 : Int)) ∧ (I163 48 14 = (a2 : Int)) ∧ (I163 2 1 = I 2 1) ∧ (I163 a2 4 = I a2 4) ∧ (I163 a1 13 = I a1 13)) → (I163 49 (Int.toNat (I163 48 10)) + I163 50 (Int.toNat (I163 48 10)) ≤ I163 48 3) → gv_X (gc_E0 ws0 tb 11 (yX0_fill, cX0_fill, 9, (some .int)) kX0_fill) (gv_Q cX0_fill (some .int) sh (fun r h' => (∃ (I' : gr_I) (J' : gr_J), h' = gc_h sh I' J' A ∧ gc_Inv ro I' ∧ (∀ q j : Nat, ((q = 48 ∧ j = 3) ∨ (q = 48 ∧ j = 6) ∨ (q = 48 ∧ j = 12) ∨ q = 51 ∨ q = 52 ∨ q = 53 ∨ q = 54 ∨ q = 55 ∨ (q = 48 ∧ j = 11) ∨ q = 58 ∨ q = 59 ∨ q = 60 ∨ (q = 48 ∧ j = 17) ∨ (q = 48 ∧ j = 18) ∨ q = 49 ∨ q = 50 ∨ (q = 48 ∧ j = 13) ∨ (q = 48 ∧ j = 14) ∨ (q = 48 ∧ j = 10) ∨ q = 56 ∨ q = 57 ∨ q = (a1 + 22)) ∨ I' q j = I q j) ∧ (∀ q j : Nat, (False) ∨ J' q j = J q j) ∧ gc_FN I' ∧ gc_FZ I' ∧ (∃ z : Int, r = some (.inl z) ∧ (-1) ≤ z ∧ z ≤ 1 ∧ (gc_WV a1 I') ∧ (I' 48 12 = 1 ∨ I' 48 11 ≤ 400000) ∧ (gc_WA (gc_lsl A I a1) I') ∧ (z = -1 ∨ I' 49 (Int.toNat (I' 48 10)) + I' 50 (Int.toNat (I' 48 10)) ≤ I' 48 3) ∧ (gc_WB (24 * I a1 11) I') ∧ (z = -1 ∨ I' 48 11 ≤ 400000) ∧ (I' 48 13 = (a1 : Int) ∧ I' 48 14 = (a2 : Int)))))) (199, [], [.inl s0_165], sh, gc_h sh I163 J164 A) := by
        intro I163 J164 s0_165 hI163 FI163 FJ164 KFN_I163 KFZ_I163 KWV_I163 KLO_I163 KWA_I163 KLK_I163 KTR_I163 KWB_I163 m_165 e0_165
        clear ha3_149 hv4_16_149 e1_149 e2_149 e3_149 e4_149 e5_149 e6_149 e7_149 f150 f151 f152 f153 f154 f155 f156 f157 f158 f159 f160 f161 f162 ha3_16 hv4_16 hv5_16 e1_16 e2_16 e3_16 e4_16 e5_16 e6_16 e7_16 e8_16 f17 f18 f19 f20 f21 f22 f23 f24 f25 f26 f27 f28 f29
        obtain ⟨hs0_165, e1_165, e2_165, e3_165, e4_165, e5_165, e6_165, e7_165⟩ := m_165
        have f166 := (gc_b_49_3 hI163 R_48)
        have f167 := (gc_b_49_6 hI163 R_48)
        have f168 := (gc_b_49_11 hI163 R_48)
        have f169 := (gc_b_49_12 hI163 R_48)
        have f170 := (gc_b_49_17 hI163 R_48)
        have f171 := (gc_b_49_18 hI163 R_48)
        have f172 := (gc_b_49_10 hI163 R_48)
        have f173 := (gc_b_49_13 hI163 R_48)
        have f174 := (gc_b_49_14 hI163 R_48)
        have f175 := (show 0 ≤ I163 a1 13 ∧ I163 a1 13 ≤ 384 from gc_in2 hI163 R_a1 rfl rfl rfl)
        have f176 := (show 0 ≤ I163 a1 11 ∧ I163 a1 11 ≤ 64 from gc_in2 hI163 R_a1 rfl rfl rfl)
        have f177 := (show 0 ≤ I163 a2 4 ∧ I163 a2 4 ≤ 24 from gc_in2 hI163 R_a2 rfl rfl rfl)
        have f178 := (gc_b_9_1 hI163 R_2)
        exact gv_iret hD rfl ⟨I163, J164, rfl, hI163, FI163, FJ164, KFN_I163, KFZ_I163, ⟨_, rfl, by exact gz_m 146 (by omega), by exact gz_m 147 (by omega), KWV_I163, KTR_I163, KWA_I163, (Or.inr e0_165), KWB_I163, (Or.inr (by have h9 : I163 48 12 = 1 ∨ I163 48 11 ≤ 400000 := KTR_I163; exact gz_m 148 (by omega))), by exact gz_m 149 (by omega)⟩⟩
      refine gv_run 1 true hD (pc' := 159) (lv' := [(0, .inr (.inr (some 48))), (3, .inl a3), (4, .inl v4_16)]) (st' := [.inr (.inr (some 48))]) (h' := gc_h sh I14 J15 A) (C := (True ∧ True)) rfl ⟨trivial, trivial⟩ ?_
      have f179 := (gc_b_49_12 hI14 R_48)
      refine gv_get hD rfl rfl S_48 ⟨by decide, B_48⟩ (gc_hI S_48 rfl) ?_
      show gv_X _ _ (162, [(0, .inr (.inr (some 48))), (3, .inl a3), (4, .inl v4_16)], [.inl (I14 48 12)], sh, gc_h sh I14 J15 A)
      refine gv_if_eq (t := 171) hD rfl rfl ⟨by exact gz_m 150 (by omega), by exact gz_m 151 (by omega)⟩ (fun c180 => ?_) (fun c180 => ?_)
      · show gv_X _ _ (171, [(0, .inr (.inr (some 48))), (3, .inl a3), (4, .inl v4_16)], [], sh, gc_h sh I14 J15 A)
        refine gv_run 4 true hD (pc' := 176) (lv' := [(0, .inr (.inr (some 48))), (3, .inl a3), (4, .inl v4_16)]) (st' := [.inl a3, .inl v4_16, .inl 0, .inr (.inr (some 48))]) (h' := gc_h sh I14 J15 A) (C := ((((True ∧ True) ∧ True) ∧ True) ∧ True)) rfl ⟨⟨⟨⟨trivial, trivial⟩, trivial⟩, trivial⟩, trivial⟩ ?_
        obtain ⟨r181, h181, E181, P181⟩ := d_X0_spanAt (ws0 := ws0) (tb := tb) hws htb sh ro I14 J15 A hI14  0 v4_16 a3 hb   ⟨by exact gz_m 152 (by omega), by exact gz_m 153 (by omega)⟩ ⟨by exact gz_m 154 (by omega), by exact gz_m 155 (by omega)⟩ ⟨by exact gz_m 156 (by omega), by exact gz_m 157 (by omega)⟩  
        obtain ⟨rfl, ⟨z181, rfl, q181⟩⟩ := P181
        refine gv_callS hD rfl (As := [.inl 0, .inl v4_16, .inl a3]) (st := [.inr (.inr (some 48))]) rfl (gc_lS0 hws rfl) (Nat.le_of_ble_eq_true rfl) (gz_Ev_mono (d := 1) (by decide) E181) ?_
        show gv_X _ _ (179, [(0, .inr (.inr (some 48))), (3, .inl a3), (4, .inl v4_16)], [.inl z181, .inr (.inr (some 48))], sh, gc_h sh I14 J15 A)
        refine gv_put hD rfl rfl S_48 ⟨by decide, B_48⟩ rfl trivial ?_
        refine gc_st (k := 10) hI14 S_48 rfl R_48 (lo := 0) (hi := 18431) rfl rfl (by exact gz_m 158 (by omega)) (by exact gz_m 159 (by omega)) (fun I182 hI182 q183 p183 => ?_)
        have FI182 := gc_frs (W := fun q j => (q = 48 ∧ j = 3) ∨ (q = 48 ∧ j = 6) ∨ (q = 48 ∧ j = 12) ∨ q = 51 ∨ q = 52 ∨ q = 53 ∨ q = 54 ∨ q = 55 ∨ (q = 48 ∧ j = 11) ∨ q = 58 ∨ q = 59 ∨ q = 60 ∨ (q = 48 ∧ j = 17) ∨ (q = 48 ∧ j = 18) ∨ q = 49 ∨ q = 50 ∨ (q = 48 ∧ j = 13) ∨ (q = 48 ∧ j = 14) ∨ (q = 48 ∧ j = 10) ∨ q = 56 ∨ q = 57 ∨ q = (a1 + 22)) FI14 (Or.inr (Or.inr (Or.inr (Or.inr (Or.inr (Or.inr (Or.inr (Or.inr (Or.inr (Or.inr (Or.inr (Or.inr (Or.inr (Or.inr (Or.inr (Or.inr (Or.inr (Or.inr (Or.inl ⟨rfl, rfl⟩))))))))))))))))))) p183
        have t184 := p183 48 3 (fun h => absurd h.2 (by first | exact gz_ne rfl | decide))
        have t185 := p183 48 6 (fun h => absurd h.2 (by first | exact gz_ne rfl | decide))
        have t186 := p183 48 11 (fun h => absurd h.2 (by first | exact gz_ne rfl | decide))
        have t187 := p183 48 12 (fun h => absurd h.2 (by first | exact gz_ne rfl | decide))
        have t188 := p183 48 17 (fun h => absurd h.2 (by first | exact gz_ne rfl | decide))
        have t189 := p183 48 18 (fun h => absurd h.2 (by first | exact gz_ne rfl | decide))
        have t190 := p183 48 13 (fun h => absurd h.2 (by first | exact gz_ne rfl | decide))
        have t191 := p183 48 14 (fun h => absurd h.2 (by first | exact gz_ne rfl | decide))
        have t192 := p183 a1 13 (fun h => absurd h.2 (by first | exact gz_ne rfl | decide))
        have t193 := p183 a1 11 (fun h => absurd h.2 (by first | exact gz_ne rfl | decide))
        have t194 := p183 a2 4 (fun h => absurd h.2 (by first | exact gz_ne rfl | decide))
        have t195 := p183 2 1 (fun h => absurd h.2 (by first | exact gz_ne rfl | decide))
        have f196 := (gc_b_49_10 hI182 R_48)
        have KFN_I182 := gc_FN_fr KFN_I14 (fun k => p183 49 k (fun h => absurd h.1 (by first | exact gz_ne rfl | decide))) (fun k => p183 50 k (fun h => absurd h.1 (by first | exact gz_ne rfl | decide)))
        have KFZ_I182 := gc_FZ_fr KFZ_I14 (p183 2 1 (fun h => absurd h.2 (by first | exact gz_ne rfl | decide))) (fun k => p183 49 k (fun h => absurd h.1 (by first | exact gz_ne rfl | decide))) (fun k => p183 50 k (fun h => absurd h.1 (by first | exact gz_ne rfl | decide)))
        have KWV_I182 := gc_WV_fr KWV_I14 (p183 48 6 (fun h => absurd h.2 (by first | exact gz_ne rfl | decide))) (p183 a1 13 (fun h => absurd h.2 (by first | exact gz_ne rfl | decide))) (fun k => p183 54 k (fun h => absurd h.1 (by first | exact gz_ne rfl | decide)))
        have KLO_I182 := gc_LO_fr KLO_I14 (p183 2 1 (fun h => absurd h.2 (by first | exact gz_ne rfl | decide))) (p183 a1 13 (fun h => absurd h.2 (by first | exact gz_ne rfl | decide))) (fun k => p183 56 k (fun h => absurd h.1 (by first | exact gz_ne rfl | decide))) (fun k => p183 57 k (fun h => absurd h.1 (by first | exact gz_ne rfl | decide)))
        have KWA_I182 := gc_WA_fr KWA_I14 (p183 48 6 (fun h => absurd h.2 (by first | exact gz_ne rfl | decide))) (Int.le_of_eq (p183 48 3 (fun h => absurd h.2 (by first | exact gz_ne rfl | decide))).symm) (fun k => p183 53 k (fun h => absurd h.1 (by first | exact gz_ne rfl | decide))) (fun k => p183 54 k (fun h => absurd h.1 (by first | exact gz_ne rfl | decide))) (fun k => p183 55 k (fun h => absurd h.1 (by first | exact gz_ne rfl | decide)))
        have KLK_I182 := gc_LK_fr KLK_I14 (p183 2 1 (fun h => absurd h.2 (by first | exact gz_ne rfl | decide))) (fun k => p183 56 k (fun h => absurd h.1 (by first | exact gz_ne rfl | decide))) (fun k => p183 57 k (fun h => absurd h.1 (by first | exact gz_ne rfl | decide)))
        have KTR_I182 := gc_TR_fr KTR_I14 (p183 48 11 (fun h => absurd h.2 (by first | exact gz_ne rfl | decide))) (p183 48 12 (fun h => absurd h.2 (by first | exact gz_ne rfl | decide)))
        have KWB_I182 := gc_WB_fr KWB_I14 (p183 48 6 (fun h => absurd h.2 (by first | exact gz_ne rfl | decide))) (fun k => p183 54 k (fun h => absurd h.1 (by first | exact gz_ne rfl | decide)))
        show gv_X _ _ (182, [(0, .inr (.inr (some 48))), (3, .inl a3), (4, .inl v4_16)], [], sh, gc_h sh I182 J15 A)
        refine gv_run 1 true hD (pc' := 183) (lv' := [(0, .inr (.inr (some 48))), (3, .inl a3), (4, .inl v4_16)]) (st' := [.inr (.inr (some 48))]) (h' := gc_h sh I182 J15 A) (C := (True ∧ True)) rfl ⟨trivial, trivial⟩ ?_
        refine gv_get hD rfl rfl S_48 ⟨by decide, B_48⟩ (gc_hA S_48 rfl A_48_2) ?_
        show gv_X _ _ (186, [(0, .inr (.inr (some 48))), (3, .inl a3), (4, .inl v4_16)], [.inr (.inr (some 50))], sh, gc_h sh I182 J15 A)
        refine gv_run 1 true hD (pc' := 187) (lv' := [(0, .inr (.inr (some 48))), (3, .inl a3), (4, .inl v4_16)]) (st' := [.inr (.inr (some 48)), .inr (.inr (some 50))]) (h' := gc_h sh I182 J15 A) (C := (True ∧ True)) rfl ⟨trivial, trivial⟩ ?_
        have f197 := (gc_b_49_10 hI182 R_48)
        refine gv_get hD rfl rfl S_48 ⟨by decide, B_48⟩ (gc_hI S_48 rfl) ?_
        show gv_X _ _ (190, [(0, .inr (.inr (some 48))), (3, .inl a3), (4, .inl v4_16)], [.inl (I182 48 10), .inr (.inr (some 50))], sh, gc_h sh I182 J15 A)
        have f198 := (gc_b_43 hI182 R_50 (Int.toNat (I182 48 10)))
        refine gv_iald hD rfl S_50 rfl ⟨by decide, B_50⟩ ⟨by exact gz_m 160 (by omega), by exact gz_m 161 (by omega)⟩ (gc_iI S_50 rfl) ?_
        show gv_X _ _ (191, [(0, .inr (.inr (some 48))), (3, .inl a3), (4, .inl v4_16)], [.inl (I182 50 (Int.toNat (I182 48 10)))], sh, gc_h sh I182 J15 A)
        refine gv_if_le (t := 198) hD rfl rfl ⟨by exact gz_m 162 (by omega), by exact gz_m 163 (by omega)⟩ (fun c199 => ?_) (fun c199 => ?_)
        · show gv_X _ _ (198, [(0, .inr (.inr (some 48))), (3, .inl a3), (4, .inl v4_16)], [], sh, gc_h sh I182 J15 A)
          refine gv_run 1 true hD (pc' := 199) (lv' := [(0, .inr (.inr (some 48))), (3, .inl a3), (4, .inl v4_16)]) (st' := [.inl 0]) (h' := gc_h sh I182 J15 A) (C := (True ∧ True)) rfl ⟨trivial, trivial⟩ ?_
          refine gv_pick [] rfl ?_
          exact L199 I182 J15 0 hI182 FI182 FJ15 KFN_I182 KFZ_I182 KWV_I182 KLO_I182 KWA_I182 KLK_I182 KTR_I182 KWB_I182 (by exact gz_m 164 (by omega)) (by have h9 := (Or.resolve_left e0_149 (by exact gz_m 165 (by omega))) 0 (I a2 4) a3 (by exact gz_m 166 (by omega)) (by exact gz_m 167 (by omega)) (by exact gz_m 168 (by omega)) (by exact gz_m 169 (by omega)) (by exact gz_m 170 (by omega)) (by exact gz_m 171 (by omega)); rw [show I182 48 10 = (0 * 24 + I a2 4 - 1) * 32 + a3 from by exact gz_m 172 (by omega), p183 49 _ (fun h => absurd h.1 (by first | exact gz_ne rfl | decide)), p183 50 _ (fun h => absurd h.1 (by first | exact gz_ne rfl | decide)), p183 48 3 (fun h => absurd h.2 (by first | exact gz_ne rfl | decide))]; exact h9)
        · show gv_X _ _ (194, [(0, .inr (.inr (some 48))), (3, .inl a3), (4, .inl v4_16)], [], sh, gc_h sh I182 J15 A)
          refine gv_run 2 true hD (pc' := 199) (lv' := [(0, .inr (.inr (some 48))), (3, .inl a3), (4, .inl v4_16)]) (st' := [.inl 1]) (h' := gc_h sh I182 J15 A) (C := ((True ∧ True) ∧ True)) rfl ⟨⟨trivial, trivial⟩, trivial⟩ ?_
          refine gv_pick [] rfl ?_
          exact L199 I182 J15 1 hI182 FI182 FJ15 KFN_I182 KFZ_I182 KWV_I182 KLO_I182 KWA_I182 KLK_I182 KTR_I182 KWB_I182 (by exact gz_m 173 (by omega)) (by have h9 := (Or.resolve_left e0_149 (by exact gz_m 174 (by omega))) 0 (I a2 4) a3 (by exact gz_m 175 (by omega)) (by exact gz_m 176 (by omega)) (by exact gz_m 177 (by omega)) (by exact gz_m 178 (by omega)) (by exact gz_m 179 (by omega)) (by exact gz_m 180 (by omega)); rw [show I182 48 10 = (0 * 24 + I a2 4 - 1) * 32 + a3 from by exact gz_m 181 (by omega), p183 49 _ (fun h => absurd h.1 (by first | exact gz_ne rfl | decide)), p183 50 _ (fun h => absurd h.1 (by first | exact gz_ne rfl | decide)), p183 48 3 (fun h => absurd h.2 (by first | exact gz_ne rfl | decide))]; exact h9)
      · show gv_X _ _ (165, [(0, .inr (.inr (some 48))), (3, .inl a3), (4, .inl v4_16)], [], sh, gc_h sh I14 J15 A)
        refine gv_run 1 true hD (pc' := 166) (lv' := [(0, .inr (.inr (some 48))), (3, .inl a3), (4, .inl v4_16)]) (st' := [.inr (.inr (some 48))]) (h' := gc_h sh I14 J15 A) (C := (True ∧ True)) rfl ⟨trivial, trivial⟩ ?_
        obtain ⟨r200, h200, E200, P200⟩ := d_X0_forget (ws0 := ws0) (tb := tb) hws htb sh ro I14 J15 A hI14   hb     
        obtain ⟨I201, J202, rfl, hI201, g200, k200, ⟨rfl, q200⟩⟩ := P200
        have FI201 := gc_frc (W := fun q j => (q = 48 ∧ j = 3) ∨ (q = 48 ∧ j = 6) ∨ (q = 48 ∧ j = 12) ∨ q = 51 ∨ q = 52 ∨ q = 53 ∨ q = 54 ∨ q = 55 ∨ (q = 48 ∧ j = 11) ∨ q = 58 ∨ q = 59 ∨ q = 60 ∨ (q = 48 ∧ j = 17) ∨ (q = 48 ∧ j = 18) ∨ q = 49 ∨ q = 50 ∨ (q = 48 ∧ j = 13) ∨ (q = 48 ∧ j = 14) ∨ (q = 48 ∧ j = 10) ∨ q = 56 ∨ q = 57 ∨ q = (a1 + 22)) (V := fun q j => (q = 48 ∧ j = 3) ∨ (q = 48 ∧ j = 6)) FI14 (fun q j h => (h.elim (fun h => (Or.inl h)) (fun h => (Or.inr (Or.inl h))))) g200
        have t203 := (g200 48 11).resolve_left (fun h => h.elim (fun h => absurd h.2 (by first | exact gz_ne rfl | decide)) (fun h => absurd h.2 (by first | exact gz_ne rfl | decide)))
        have t204 := (g200 48 12).resolve_left (fun h => h.elim (fun h => absurd h.2 (by first | exact gz_ne rfl | decide)) (fun h => absurd h.2 (by first | exact gz_ne rfl | decide)))
        have t205 := (g200 48 17).resolve_left (fun h => h.elim (fun h => absurd h.2 (by first | exact gz_ne rfl | decide)) (fun h => absurd h.2 (by first | exact gz_ne rfl | decide)))
        have t206 := (g200 48 18).resolve_left (fun h => h.elim (fun h => absurd h.2 (by first | exact gz_ne rfl | decide)) (fun h => absurd h.2 (by first | exact gz_ne rfl | decide)))
        have t207 := (g200 48 10).resolve_left (fun h => h.elim (fun h => absurd h.2 (by first | exact gz_ne rfl | decide)) (fun h => absurd h.2 (by first | exact gz_ne rfl | decide)))
        have t208 := (g200 48 13).resolve_left (fun h => h.elim (fun h => absurd h.2 (by first | exact gz_ne rfl | decide)) (fun h => absurd h.2 (by first | exact gz_ne rfl | decide)))
        have t209 := (g200 48 14).resolve_left (fun h => h.elim (fun h => absurd h.2 (by first | exact gz_ne rfl | decide)) (fun h => absurd h.2 (by first | exact gz_ne rfl | decide)))
        have t210 := (g200 a1 13).resolve_left (fun h => h.elim (fun h => absurd h.2 (by first | exact gz_ne rfl | decide)) (fun h => absurd h.2 (by first | exact gz_ne rfl | decide)))
        have t211 := (g200 a1 11).resolve_left (fun h => h.elim (fun h => absurd h.2 (by first | exact gz_ne rfl | decide)) (fun h => absurd h.2 (by first | exact gz_ne rfl | decide)))
        have t212 := (g200 a2 4).resolve_left (fun h => h.elim (fun h => absurd h.2 (by first | exact gz_ne rfl | decide)) (fun h => absurd h.2 (by first | exact gz_ne rfl | decide)))
        have t213 := (g200 2 1).resolve_left (fun h => h.elim (fun h => absurd h.2 (by first | exact gz_ne rfl | decide)) (fun h => absurd h.2 (by first | exact gz_ne rfl | decide)))
        have f214 := (gc_b_49_3 hI201 R_48)
        have f215 := (gc_b_49_6 hI201 R_48)
        obtain rfl : J15 = J202 := funext fun q => funext fun j => ((k200 q j).resolve_left id).symm
        have KFN_I201 := gc_FN_fr KFN_I14 (fun k => (g200 49 k).resolve_left (fun h => h.elim (fun h => absurd h.1 (by first | exact gz_ne rfl | decide)) (fun h => absurd h.1 (by first | exact gz_ne rfl | decide)))) (fun k => (g200 50 k).resolve_left (fun h => h.elim (fun h => absurd h.1 (by first | exact gz_ne rfl | decide)) (fun h => absurd h.1 (by first | exact gz_ne rfl | decide))))
        have KFZ_I201 := gc_FZ_fr KFZ_I14 ((g200 2 1).resolve_left (fun h => h.elim (fun h => absurd h.2 (by first | exact gz_ne rfl | decide)) (fun h => absurd h.2 (by first | exact gz_ne rfl | decide)))) (fun k => (g200 49 k).resolve_left (fun h => h.elim (fun h => absurd h.1 (by first | exact gz_ne rfl | decide)) (fun h => absurd h.1 (by first | exact gz_ne rfl | decide)))) (fun k => (g200 50 k).resolve_left (fun h => h.elim (fun h => absurd h.1 (by first | exact gz_ne rfl | decide)) (fun h => absurd h.1 (by first | exact gz_ne rfl | decide))))
        have KLO_I201 := gc_LO_fr KLO_I14 ((g200 2 1).resolve_left (fun h => h.elim (fun h => absurd h.2 (by first | exact gz_ne rfl | decide)) (fun h => absurd h.2 (by first | exact gz_ne rfl | decide)))) ((g200 a1 13).resolve_left (fun h => h.elim (fun h => absurd h.2 (by first | exact gz_ne rfl | decide)) (fun h => absurd h.2 (by first | exact gz_ne rfl | decide)))) (fun k => (g200 56 k).resolve_left (fun h => h.elim (fun h => absurd h.1 (by first | exact gz_ne rfl | decide)) (fun h => absurd h.1 (by first | exact gz_ne rfl | decide)))) (fun k => (g200 57 k).resolve_left (fun h => h.elim (fun h => absurd h.1 (by first | exact gz_ne rfl | decide)) (fun h => absurd h.1 (by first | exact gz_ne rfl | decide))))
        have KLK_I201 := gc_LK_fr KLK_I14 ((g200 2 1).resolve_left (fun h => h.elim (fun h => absurd h.2 (by first | exact gz_ne rfl | decide)) (fun h => absurd h.2 (by first | exact gz_ne rfl | decide)))) (fun k => (g200 56 k).resolve_left (fun h => h.elim (fun h => absurd h.1 (by first | exact gz_ne rfl | decide)) (fun h => absurd h.1 (by first | exact gz_ne rfl | decide)))) (fun k => (g200 57 k).resolve_left (fun h => h.elim (fun h => absurd h.1 (by first | exact gz_ne rfl | decide)) (fun h => absurd h.1 (by first | exact gz_ne rfl | decide))))
        have KTR_I201 := gc_TR_fr KTR_I14 ((g200 48 11).resolve_left (fun h => h.elim (fun h => absurd h.2 (by first | exact gz_ne rfl | decide)) (fun h => absurd h.2 (by first | exact gz_ne rfl | decide)))) ((g200 48 12).resolve_left (fun h => h.elim (fun h => absurd h.2 (by first | exact gz_ne rfl | decide)) (fun h => absurd h.2 (by first | exact gz_ne rfl | decide))))
        refine gv_callV hD rfl (As := []) (st := []) rfl B_48 S_48 rfl (gc_lV0 hws rfl) (Nat.le_of_ble_eq_true rfl) (gz_Ev_mono (d := 1) (by decide) E200) ?_
        show gv_X _ _ (169, [(0, .inr (.inr (some 48))), (3, .inl a3), (4, .inl v4_16)], [], sh, gc_h sh I201 J15 A)
        refine gv_run 1 true hD (pc' := 170) (lv' := [(0, .inr (.inr (some 48))), (3, .inl a3), (4, .inl v4_16)]) (st' := [.inl (-1)]) (h' := gc_h sh I201 J15 A) (C := (True ∧ True)) rfl ⟨trivial, trivial⟩ ?_
        exact gv_iret hD rfl ⟨I201, J15, rfl, hI201, FI201, FJ15, KFN_I201, KFZ_I201, ⟨_, rfl, by exact gz_m 182 (by omega), by exact gz_m 183 (by omega), (gc_WV_0 (by exact gz_m 184 (by omega))), KTR_I201, (gc_WA_0 (by exact gz_m 185 (by omega))), (Or.inl (by exact gz_m 186 (by omega))), (gc_WB_0 (by exact gz_m 187 (by omega))), (Or.inl (by exact gz_m 188 (by omega))), by exact gz_m 189 (by omega)⟩⟩
    refine gv_run 2 true hD (pc' := 36) (lv' := [(0, .inr (.inr (some 48))), (1, .inr (.inr (some a1))), (2, .inr (.inr (some a2))), (3, .inl a3), (4, .inl v4_16), (5, .inl v5_16)]) (st' := [.inl v4_16, .inl v5_16]) (h' := gc_h sh I14 J15 A) (C := ((True ∧ True) ∧ True)) rfl ⟨⟨trivial, trivial⟩, trivial⟩ ?_
    refine gv_icmp_gt (t := 158) hD rfl rfl ⟨⟨by exact gz_m 190 (by omega), by exact gz_m 191 (by omega)⟩, ⟨by exact gz_m 192 (by omega), by exact gz_m 193 (by omega)⟩⟩ (fun c216 => ?_) (fun c216 => ?_)
    · show gv_X _ _ (158, [(0, .inr (.inr (some 48))), (1, .inr (.inr (some a1))), (2, .inr (.inr (some a2))), (3, .inl a3), (4, .inl v4_16), (5, .inl v5_16)], [], sh, gc_h sh I14 J15 A)
      refine gv_pick [0, 3, 4] rfl ?_
      exact L158 (by exact gz_m 194 (by omega)) (by by_cases h9 : I14 48 12 = 1; (· exact Or.inl h9); (· exact Or.inr (fun a l k h1 h2 h3 h4 h5 h6 => (Or.resolve_left e0_16 h9) a l k h1 h2 h3 h4 h5 (by exact gz_m 195 (by omega)))))
    · show gv_X _ _ (39, [(0, .inr (.inr (some 48))), (1, .inr (.inr (some a1))), (2, .inr (.inr (some a2))), (3, .inl a3), (4, .inl v4_16), (5, .inl v5_16)], [], sh, gc_h sh I14 J15 A)
      refine gv_run 1 true hD (pc' := 40) (lv' := [(0, .inr (.inr (some 48))), (1, .inr (.inr (some a1))), (2, .inr (.inr (some a2))), (3, .inl a3), (4, .inl v4_16), (5, .inl v5_16)]) (st' := [.inr (.inr (some 48))]) (h' := gc_h sh I14 J15 A) (C := (True ∧ True)) rfl ⟨trivial, trivial⟩ ?_
      have f217 := (gc_b_49_12 hI14 R_48)
      refine gv_get hD rfl rfl S_48 ⟨by decide, B_48⟩ (gc_hI S_48 rfl) ?_
      show gv_X _ _ (43, [(0, .inr (.inr (some 48))), (1, .inr (.inr (some a1))), (2, .inr (.inr (some a2))), (3, .inl a3), (4, .inl v4_16), (5, .inl v5_16)], [.inl (I14 48 12)], sh, gc_h sh I14 J15 A)
      refine gv_if_ne (t := 158) hD rfl rfl ⟨by exact gz_m 196 (by omega), by exact gz_m 197 (by omega)⟩ (fun c218 => ?_) (fun c218 => ?_)
      · show gv_X _ _ (158, [(0, .inr (.inr (some 48))), (1, .inr (.inr (some a1))), (2, .inr (.inr (some a2))), (3, .inl a3), (4, .inl v4_16), (5, .inl v5_16)], [], sh, gc_h sh I14 J15 A)
        refine gv_pick [0, 3, 4] rfl ?_
        exact L158 (by exact gz_m 198 (by omega)) (by by_cases h9 : I14 48 12 = 1; (· exact Or.inl h9); (· exact Or.inr (fun a l k h1 h2 h3 h4 h5 h6 => (Or.resolve_left e0_16 h9) a l k h1 h2 h3 h4 h5 (by exact gz_m 199 (by omega)))))
      · show gv_X _ _ (46, [(0, .inr (.inr (some 48))), (1, .inr (.inr (some a1))), (2, .inr (.inr (some a2))), (3, .inl a3), (4, .inl v4_16), (5, .inl v5_16)], [], sh, gc_h sh I14 J15 A)
        refine gv_run 2 true hD (pc' := 49) (lv' := [(6, .inl 0), (0, .inr (.inr (some 48))), (1, .inr (.inr (some a1))), (2, .inr (.inr (some a2))), (3, .inl a3), (4, .inl v4_16), (5, .inl v5_16)]) (st' := []) (h' := gc_h sh I14 J15 A) (C := ((True ∧ True) ∧ True)) rfl ⟨⟨trivial, trivial⟩, trivial⟩ ?_
        refine gv_pick [1, 2, 3, 4, 5, 6, 0] rfl ?_
        exact L49 _ I14 J15 0 (Nat.lt_succ_self _) hI14 FI14 FJ15 KFN_I14 KFZ_I14 KWV_I14 KLO_I14 KWA_I14 KLK_I14 KTR_I14 KWB_I14 (by exact gz_m 200 (by omega)) (Or.inr (Or.resolve_left e0_16 (by exact gz_m 201 (by omega))))
set_option maxHeartbeats 8000000 in
set_option maxRecDepth 100000 in
theorem d_X0_fill_m {ws0 : List Cond} {tb : String → gz_T} (hws : gc_Ws ws0) (htb : gc_tbs tb) (sh : gz_Sh) (ro : Nat → Nat) (I : gr_I) (J : gr_J) (A : gc_A) (hI : gc_Inv ro I) (a1 : Nat) (a2 : Nat) (a3 : Int) (hb : gc_Base sh ro A) (h_a1 : gc_isTongue sh ro A a1) (G_a1 : 144 ≤ a1) (h_a2 : gc_isText sh ro A a2) (G_a2 : a2 + 3 < 39 ∨ (100 ≤ a2 ∧ a2 < 140)) (ha3 : 0 ≤ a3 ∧ a3 ≤ 31) (x0 : gc_Ls sh ro A a1 I) (x1 : gc_SP a2 I) (x2 : I 48 11 ≤ 400000) (x3 : a3 < I 2 1) (x4 : 1 ≤ I a2 4) (x5 : ∀ i q : Nat, (i : Int) < I a1 13 → A (a1 + 16) i = some q → gc_un q (gc_lk A I a1 i) I) (x6 : gc_FB (a1 + 17) (24 * I a1 11) I) (KFN_I : gc_FN I) (KFZ_I : gc_FZ I) : ∃ r h', gz_Ev ws0 tb 12 (yX0_fill, cX0_fill, 9, (some .int)) [.inr (.inr (some 48)), .inr (.inr (some a1)), .inr (.inr (some a2)), .inl a3] sh (gc_h sh I J A) r sh h' 0 0 ∧ (∃ (I' : gr_I) (J' : gr_J), h' = gc_h sh I' J' A ∧ gc_Inv ro I' ∧ (∀ q j : Nat, ((q = 48 ∧ j = 3) ∨ (q = 48 ∧ j = 6) ∨ (q = 48 ∧ j = 12) ∨ q = 51 ∨ q = 52 ∨ q = 53 ∨ q = 54 ∨ q = 55 ∨ (q = 48 ∧ j = 11) ∨ q = 58 ∨ q = 59 ∨ q = 60 ∨ (q = 48 ∧ j = 17) ∨ (q = 48 ∧ j = 18) ∨ q = 49 ∨ q = 50 ∨ (q = 48 ∧ j = 13) ∨ (q = 48 ∧ j = 14) ∨ (q = 48 ∧ j = 10) ∨ q = 56 ∨ q = 57 ∨ q = (a1 + 22)) ∨ I' q j = I q j) ∧ (∀ q j : Nat, (False) ∨ J' q j = J q j) ∧ gc_FN I' ∧ gc_FZ I' ∧ (∃ z : Int, r = some (.inl z) ∧ (-1) ≤ z ∧ z ≤ 1 ∧ (gc_WV a1 I') ∧ (I' 48 12 = 1 ∨ I' 48 11 ≤ 400000) ∧ (gc_WA (gc_lsl A I a1) I') ∧ (z = -1 ∨ I' 49 (Int.toNat (I' 48 10)) + I' 50 (Int.toNat (I' 48 10)) ≤ I' 48 3) ∧ (gc_WB (24 * I a1 11) I') ∧ (z = -1 ∨ I' 48 11 ≤ 400000) ∧ (I' 48 13 = (a1 : Int) ∧ I' 48 14 = (a2 : Int)))) := by
  have FI : ∀ q j : Nat, ((q = 48 ∧ j = 3) ∨ (q = 48 ∧ j = 6) ∨ (q = 48 ∧ j = 12) ∨ q = 51 ∨ q = 52 ∨ q = 53 ∨ q = 54 ∨ q = 55 ∨ (q = 48 ∧ j = 11) ∨ q = 58 ∨ q = 59 ∨ q = 60 ∨ (q = 48 ∧ j = 17) ∨ (q = 48 ∧ j = 18) ∨ q = 49 ∨ q = 50 ∨ (q = 48 ∧ j = 13) ∨ (q = 48 ∧ j = 14) ∨ (q = 48 ∧ j = 10) ∨ q = 56 ∨ q = 57 ∨ q = (a1 + 22)) ∨ I q j = I q j := fun _ _ => Or.inr rfl
  have FJ : ∀ q j : Nat, (False) ∨ J q j = J q j := fun _ _ => Or.inr rfl
  have A_1_0 : A 1 0 = some 2 := gc_bA_1_0 hb
  have A_48_0 : A 48 0 = some 1 := gc_bA_48_0 hb
  have A_48_2 : A 48 2 = some 50 := gc_bA_48_2 hb
  have B_1 : 1 < 1000000 := by decide
  have B_2 : 2 < 1000000 := by decide
  have B_48 : 48 < 1000000 := by decide
  have B_50 : 50 < 1000000 := by decide
  have R_2 : ro 2 = 9 := gc_bR_2 hb
  have R_48 : ro 48 = 49 := gc_bR_48 hb
  have R_50 : ro 50 = 43 := gc_bR_50 hb
  have S_1 : sh[1]? = some (false, 8, 21) := gc_bS_1 hb
  have S_2 : sh[2]? = some (false, 4, 2) := gc_bS_2 hb
  have S_48 : sh[48]? = some (false, 0, 22) := gc_bS_48 hb
  have S_50 : sh[50]? = some (true, 1, 18432) := gc_bS_50 hb
  obtain ⟨S_a1, R_a1, B_a1, A_a1_0, h_a1_1, A_a1_1, h_a1_3, A_a1_2, S_a1_5, R_a1_5, B_a1_5, A_a1_3, S_a1_6, R_a1_6, B_a1_6, A_a1_4, h_a1_7, A_a1_5, S_a1_9, R_a1_9, B_a1_9, A_a1_7, S_a1_10, R_a1_10, B_a1_10, A_a1_8, h_a1_11, A_a1_9, S_a1_13, R_a1_13, B_a1_13, A_a1_10, S_a1_14, R_a1_14, B_a1_14, A_a1_12, S_a1_15, R_a1_15, B_a1_15, A_a1_14, S_a1_16, R_a1_16, B_a1_16, A_a1_15, h_a1_17⟩ := id h_a1
  obtain ⟨S_a1_1, R_a1_1, B_a1_1, A_a1_1_0, S_a1_1_1, R_a1_1_1, B_a1_1_1, Q0_a1_1, Q1_a1_1, Q2_a1_1⟩ := id h_a1_1
  obtain ⟨S_a1_3, R_a1_3, B_a1_3, A_a1_3_0, S_a1_3_1, R_a1_3_1, B_a1_3_1, Q0_a1_3, Q1_a1_3, Q2_a1_3⟩ := id h_a1_3
  obtain ⟨S_a1_7, R_a1_7, B_a1_7, A_a1_7_0, S_a1_7_1, R_a1_7_1, B_a1_7_1, Q0_a1_7, Q1_a1_7, Q2_a1_7⟩ := id h_a1_7
  obtain ⟨S_a1_11, R_a1_11, B_a1_11, A_a1_11_0, S_a1_11_1, R_a1_11_1, B_a1_11_1, Q0_a1_11, Q1_a1_11, Q2_a1_11⟩ := id h_a1_11
  obtain ⟨S_a1_17, R_a1_17, B_a1_17, A_a1_17_0, S_20, R_20, B_20, A_a1_17_1, S_a1_17_1, R_a1_17_1, B_a1_17_1, A_a1_17_2, S_a1_17_2, R_a1_17_2, B_a1_17_2, A_a1_17_3, S_a1_17_3, R_a1_17_3, B_a1_17_3, A_a1_17_4, S_a1_17_4, R_a1_17_4, B_a1_17_4, A_a1_17_5, S_a1_17_5, R_a1_17_5, B_a1_17_5, S_a1_17_6, R_a1_17_6, B_a1_17_6, S_a1_17_7, R_a1_17_7, B_a1_17_7⟩ := id h_a1_17
  obtain ⟨S_a2, R_a2, B_a2, A_a2_0, S_a2_1, R_a2_1, B_a2_1, A_a2_2, S_a2_2, R_a2_2, B_a2_2, A_a2_3, S_a2_3, R_a2_3, B_a2_3⟩ := id h_a2
  have hD : gv_D (gc_E0 ws0 tb 11 (yX0_fill, cX0_fill, 9, (some .int)) kX0_fill) := gq_of oX0_fill
  refine gc_ev0 (d := 11) (l := kX0_fill) (Po := fun r h' => (∃ (I' : gr_I) (J' : gr_J), h' = gc_h sh I' J' A ∧ gc_Inv ro I' ∧ (∀ q j : Nat, ((q = 48 ∧ j = 3) ∨ (q = 48 ∧ j = 6) ∨ (q = 48 ∧ j = 12) ∨ q = 51 ∨ q = 52 ∨ q = 53 ∨ q = 54 ∨ q = 55 ∨ (q = 48 ∧ j = 11) ∨ q = 58 ∨ q = 59 ∨ q = 60 ∨ (q = 48 ∧ j = 17) ∨ (q = 48 ∧ j = 18) ∨ q = 49 ∨ q = 50 ∨ (q = 48 ∧ j = 13) ∨ (q = 48 ∧ j = 14) ∨ (q = 48 ∧ j = 10) ∨ q = 56 ∨ q = 57 ∨ q = (a1 + 22)) ∨ I' q j = I q j) ∧ (∀ q j : Nat, (False) ∨ J' q j = J q j) ∧ gc_FN I' ∧ gc_FZ I' ∧ (∃ z : Int, r = some (.inl z) ∧ (-1) ≤ z ∧ z ≤ 1 ∧ (gc_WV a1 I') ∧ (I' 48 12 = 1 ∨ I' 48 11 ≤ 400000) ∧ (gc_WA (gc_lsl A I a1) I') ∧ (z = -1 ∨ I' 49 (Int.toNat (I' 48 10)) + I' 50 (Int.toNat (I' 48 10)) ≤ I' 48 3) ∧ (gc_WB (24 * I a1 11) I') ∧ (z = -1 ∨ I' 48 11 ≤ 400000) ∧ (I' 48 13 = (a1 : Int) ∧ I' 48 14 = (a2 : Int))))) htb rfl (Nat.le_of_ble_eq_true rfl) ?_
  have N_a2__51 : ¬ (a2 = 51) := by exact gz_m 0 (by omega)
  have N_a2__52 : ¬ (a2 = 52) := by exact gz_m 1 (by omega)
  have N_a2__53 : ¬ (a2 = 53) := by exact gz_m 2 (by omega)
  have N_a2__54 : ¬ (a2 = 54) := by exact gz_m 3 (by omega)
  have N_a2__55 : ¬ (a2 = 55) := by exact gz_m 4 (by omega)
  have N_a2__58 : ¬ (a2 = 58) := by exact gz_m 5 (by omega)
  have N_a2__59 : ¬ (a2 = 59) := by exact gz_m 6 (by omega)
  have N_a2__60 : ¬ (a2 = 60) := by exact gz_m 7 (by omega)
  have N_a2__49 : ¬ (a2 = 49) := by exact gz_m 8 (by omega)
  have N_a2__50 : ¬ (a2 = 50) := by exact gz_m 9 (by omega)
  have N_a2__56 : ¬ (a2 = 56) := by exact gz_m 10 (by omega)
  have N_a2__57 : ¬ (a2 = 57) := by exact gz_m 11 (by omega)
  have N_a2__a1_22 : ¬ (a2 = (a1 + 22)) := by exact gz_m 12 (by omega)
  have N_a2_2__48 : ¬ ((a2 + 2) = 48) := by exact gz_m 13 (by omega)
  have N_a2_2__51 : ¬ ((a2 + 2) = 51) := by exact gz_m 14 (by omega)
  have N_a2_2__52 : ¬ ((a2 + 2) = 52) := by exact gz_m 15 (by omega)
  have N_a2_2__53 : ¬ ((a2 + 2) = 53) := by exact gz_m 16 (by omega)
  have N_a2_2__54 : ¬ ((a2 + 2) = 54) := by exact gz_m 17 (by omega)
  have N_a2_2__55 : ¬ ((a2 + 2) = 55) := by exact gz_m 18 (by omega)
  have N_a2_2__58 : ¬ ((a2 + 2) = 58) := by exact gz_m 19 (by omega)
  have N_a2_2__59 : ¬ ((a2 + 2) = 59) := by exact gz_m 20 (by omega)
  have N_a2_2__60 : ¬ ((a2 + 2) = 60) := by exact gz_m 21 (by omega)
  have N_a2_2__49 : ¬ ((a2 + 2) = 49) := by exact gz_m 22 (by omega)
  have N_a2_2__50 : ¬ ((a2 + 2) = 50) := by exact gz_m 23 (by omega)
  have N_a2_2__56 : ¬ ((a2 + 2) = 56) := by exact gz_m 24 (by omega)
  have N_a2_2__57 : ¬ ((a2 + 2) = 57) := by exact gz_m 25 (by omega)
  have N_a2_2__a1_22 : ¬ ((a2 + 2) = (a1 + 22)) := by exact gz_m 26 (by omega)
  have N_a2_3__48 : ¬ ((a2 + 3) = 48) := by exact gz_m 27 (by omega)
  have N_a2_3__51 : ¬ ((a2 + 3) = 51) := by exact gz_m 28 (by omega)
  have N_a2_3__52 : ¬ ((a2 + 3) = 52) := by exact gz_m 29 (by omega)
  have N_a2_3__53 : ¬ ((a2 + 3) = 53) := by exact gz_m 30 (by omega)
  have N_a2_3__54 : ¬ ((a2 + 3) = 54) := by exact gz_m 31 (by omega)
  have N_a2_3__55 : ¬ ((a2 + 3) = 55) := by exact gz_m 32 (by omega)
  have N_a2_3__58 : ¬ ((a2 + 3) = 58) := by exact gz_m 33 (by omega)
  have N_a2_3__59 : ¬ ((a2 + 3) = 59) := by exact gz_m 34 (by omega)
  have N_a2_3__60 : ¬ ((a2 + 3) = 60) := by exact gz_m 35 (by omega)
  have N_a2_3__49 : ¬ ((a2 + 3) = 49) := by exact gz_m 36 (by omega)
  have N_a2_3__50 : ¬ ((a2 + 3) = 50) := by exact gz_m 37 (by omega)
  have N_a2_3__56 : ¬ ((a2 + 3) = 56) := by exact gz_m 38 (by omega)
  have N_a2_3__57 : ¬ ((a2 + 3) = 57) := by exact gz_m 39 (by omega)
  have N_a2_3__a1_22 : ¬ ((a2 + 3) = (a1 + 22)) := by exact gz_m 40 (by omega)
  have N_13__a1_22 : ¬ (13 = (a1 + 22)) := by exact gz_m 41 (by omega)
  have N_a1__51 : ¬ (a1 = 51) := by exact gz_m 42 (by omega)
  have N_a1__52 : ¬ (a1 = 52) := by exact gz_m 43 (by omega)
  have N_a1__53 : ¬ (a1 = 53) := by exact gz_m 44 (by omega)
  have N_a1__54 : ¬ (a1 = 54) := by exact gz_m 45 (by omega)
  have N_a1__55 : ¬ (a1 = 55) := by exact gz_m 46 (by omega)
  have N_a1__58 : ¬ (a1 = 58) := by exact gz_m 47 (by omega)
  have N_a1__59 : ¬ (a1 = 59) := by exact gz_m 48 (by omega)
  have N_a1__60 : ¬ (a1 = 60) := by exact gz_m 49 (by omega)
  have N_a1__49 : ¬ (a1 = 49) := by exact gz_m 50 (by omega)
  have N_a1__50 : ¬ (a1 = 50) := by exact gz_m 51 (by omega)
  have N_a1__48 : ¬ (a1 = 48) := by exact gz_m 52 (by omega)
  have N_48__a1_22 : ¬ (48 = (a1 + 22)) := by exact gz_m 53 (by omega)
  have N_a1__a1_22 : ¬ (a1 = (a1 + 22)) := by exact gz_m 54 (by omega)
  have N_2__a1_22 : ¬ (2 = (a1 + 22)) := by exact gz_m 55 (by omega)
  have N_49__a1_22 : ¬ (49 = (a1 + 22)) := by exact gz_m 56 (by omega)
  have N_50__a1_22 : ¬ (50 = (a1 + 22)) := by exact gz_m 57 (by omega)
  have N_54__a1_22 : ¬ (54 = (a1 + 22)) := by exact gz_m 58 (by omega)
  have N_56__a1_22 : ¬ (56 = (a1 + 22)) := by exact gz_m 59 (by omega)
  have N_57__a1_22 : ¬ (57 = (a1 + 22)) := by exact gz_m 60 (by omega)
  have N_53__a1_22 : ¬ (53 = (a1 + 22)) := by exact gz_m 61 (by omega)
  have N_55__a1_22 : ¬ (55 = (a1 + 22)) := by exact gz_m 62 (by omega)
  have N_a1__56 : ¬ (a1 = 56) := by exact gz_m 63 (by omega)
  have N_a1__57 : ¬ (a1 = 57) := by exact gz_m 64 (by omega)
  have f1 := (gc_b_49_3 hI R_48)
  have f2 := (gc_b_49_6 hI R_48)
  have f3 := (gc_b_49_11 hI R_48)
  have f4 := (gc_b_49_12 hI R_48)
  have f5 := (gc_b_49_17 hI R_48)
  have f6 := (gc_b_49_18 hI R_48)
  have f7 := (gc_b_49_10 hI R_48)
  have f8 := (gc_b_49_13 hI R_48)
  have f9 := (gc_b_49_14 hI R_48)
  have f10 := (show 0 ≤ I a1 13 ∧ I a1 13 ≤ 384 from gc_in2 hI R_a1 rfl rfl rfl)
  have f11 := (show 0 ≤ I a1 11 ∧ I a1 11 ≤ 64 from gc_in2 hI R_a1 rfl rfl rfl)
  have f12 := (show 0 ≤ I a2 4 ∧ I a2 4 ≤ 24 from gc_in2 hI R_a2 rfl rfl rfl)
  have f13 := (gc_b_9_1 hI R_2)
  have L32 : ∀ (n9 : Nat) (I14 : gr_I) (J15 : gr_J) (v4_16 : Int) (v5_16 : Int), (26 - v5_16).toNat < n9 → gc_Inv ro I14 → (∀ q j : Nat, ((q = 48 ∧ j = 3) ∨ (q = 48 ∧ j = 6) ∨ (q = 48 ∧ j = 12) ∨ q = 51 ∨ q = 52 ∨ q = 53 ∨ q = 54 ∨ q = 55 ∨ (q = 48 ∧ j = 11) ∨ q = 58 ∨ q = 59 ∨ q = 60 ∨ (q = 48 ∧ j = 17) ∨ (q = 48 ∧ j = 18) ∨ q = 49 ∨ q = 50 ∨ (q = 48 ∧ j = 13) ∨ (q = 48 ∧ j = 14) ∨ (q = 48 ∧ j = 10) ∨ q = 56 ∨ q = 57 ∨ q = (a1 + 22)) ∨ I14 q j = I q j) → (∀ q j : Nat, (False) ∨ J15 q j = J q j) → gc_FN I14 → gc_FZ I14 → gc_WV a1 I14 → gc_LO a1 I14 → gc_WA (gc_lsl A I a1) I14 → gc_LK (gc_lk A I a1) I14 → gc_TR I14 → gc_WB (24 * I a1 11) I14 → ((0 ≤ a3 ∧ a3 ≤ 31) ∧ (1 ≤ v4_16 ∧ v4_16 ≤ 24) ∧ (1 ≤ v5_16 ∧ v5_16 ≤ 25) ∧ (v4_16 = I a2 4) ∧ (v5_16 ≤ v4_16 + 1) ∧ (I14 48 11 ≤ 400001) ∧ (I14 48 13 = (a1 : Int)) ∧ (I14 48 14 = (a2 : Int)) ∧ (I14 2 1 = I 2 1) ∧ (I14 a2 4 = I a2 4) ∧ (I14 a1 13 = I a1 13)) → (gc_OF (I a2 4) (I 2 1) v5_16 0 0 I14) → gv_X (gc_E0 ws0 tb 11 (yX0_fill, cX0_fill, 9, (some .int)) kX0_fill) (gv_Q cX0_fill (some .int) sh (fun r h' => (∃ (I' : gr_I) (J' : gr_J), h' = gc_h sh I' J' A ∧ gc_Inv ro I' ∧ (∀ q j : Nat, ((q = 48 ∧ j = 3) ∨ (q = 48 ∧ j = 6) ∨ (q = 48 ∧ j = 12) ∨ q = 51 ∨ q = 52 ∨ q = 53 ∨ q = 54 ∨ q = 55 ∨ (q = 48 ∧ j = 11) ∨ q = 58 ∨ q = 59 ∨ q = 60 ∨ (q = 48 ∧ j = 17) ∨ (q = 48 ∧ j = 18) ∨ q = 49 ∨ q = 50 ∨ (q = 48 ∧ j = 13) ∨ (q = 48 ∧ j = 14) ∨ (q = 48 ∧ j = 10) ∨ q = 56 ∨ q = 57 ∨ q = (a1 + 22)) ∨ I' q j = I q j) ∧ (∀ q j : Nat, (False) ∨ J' q j = J q j) ∧ gc_FN I' ∧ gc_FZ I' ∧ (∃ z : Int, r = some (.inl z) ∧ (-1) ≤ z ∧ z ≤ 1 ∧ (gc_WV a1 I') ∧ (I' 48 12 = 1 ∨ I' 48 11 ≤ 400000) ∧ (gc_WA (gc_lsl A I a1) I') ∧ (z = -1 ∨ I' 49 (Int.toNat (I' 48 10)) + I' 50 (Int.toNat (I' 48 10)) ≤ I' 48 3) ∧ (gc_WB (24 * I a1 11) I') ∧ (z = -1 ∨ I' 48 11 ≤ 400000) ∧ (I' 48 13 = (a1 : Int) ∧ I' 48 14 = (a2 : Int)))))) (32, [(0, .inr (.inr (some 48))), (1, .inr (.inr (some a1))), (2, .inr (.inr (some a2))), (3, .inl a3), (4, .inl v4_16), (5, .inl v5_16)], [], sh, gc_h sh I14 J15 A) := d_X0_fill_m_L32 (ws0 := ws0) (tb := tb) hws htb sh ro I J A hI a1 a2 a3 hb h_a1 G_a1 h_a2 G_a2 ha3 x0 x1 x2 x3 x4 x5 x6 KFN_I KFZ_I
  refine gv_run 2 true hD (pc' := 2) (lv' := [(0, .inr (.inr (some 48))), (1, .inr (.inr (some a1))), (2, .inr (.inr (some a2))), (3, .inl a3)]) (st' := [.inr (.inr (some a1)), .inr (.inr (some 48))]) (h' := gc_h sh I J A) (C := ((True ∧ True) ∧ True)) rfl ⟨⟨trivial, trivial⟩, trivial⟩ ?_
  refine gv_put hD rfl rfl S_48 ⟨by decide, B_48⟩ rfl trivial ?_
  refine gc_st5 hI S_48 rfl R_48 (lo := -1) (hi := 999999) rfl rfl (by exact gz_m 202 (by omega)) (by exact gz_m 203 (by omega)) (fun I219 hI219 q220 p220 => ?_)
  have FI219 := gc_frs (W := fun q j => (q = 48 ∧ j = 3) ∨ (q = 48 ∧ j = 6) ∨ (q = 48 ∧ j = 12) ∨ q = 51 ∨ q = 52 ∨ q = 53 ∨ q = 54 ∨ q = 55 ∨ (q = 48 ∧ j = 11) ∨ q = 58 ∨ q = 59 ∨ q = 60 ∨ (q = 48 ∧ j = 17) ∨ (q = 48 ∧ j = 18) ∨ q = 49 ∨ q = 50 ∨ (q = 48 ∧ j = 13) ∨ (q = 48 ∧ j = 14) ∨ (q = 48 ∧ j = 10) ∨ q = 56 ∨ q = 57 ∨ q = (a1 + 22)) FI (Or.inr (Or.inr (Or.inr (Or.inr (Or.inr (Or.inr (Or.inr (Or.inr (Or.inr (Or.inr (Or.inr (Or.inr (Or.inr (Or.inr (Or.inr (Or.inr (Or.inl ⟨rfl, rfl⟩))))))))))))))))) p220
  have t221 := p220 48 3 (fun h => absurd h.2 (by first | exact gz_ne rfl | decide))
  have t222 := p220 48 6 (fun h => absurd h.2 (by first | exact gz_ne rfl | decide))
  have t223 := p220 48 11 (fun h => absurd h.2 (by first | exact gz_ne rfl | decide))
  have t224 := p220 48 12 (fun h => absurd h.2 (by first | exact gz_ne rfl | decide))
  have t225 := p220 48 17 (fun h => absurd h.2 (by first | exact gz_ne rfl | decide))
  have t226 := p220 48 18 (fun h => absurd h.2 (by first | exact gz_ne rfl | decide))
  have t227 := p220 48 10 (fun h => absurd h.2 (by first | exact gz_ne rfl | decide))
  have t228 := p220 48 14 (fun h => absurd h.2 (by first | exact gz_ne rfl | decide))
  have t229 := p220 a1 13 (fun h => absurd h.1 N_a1__48)
  have t230 := p220 a1 11 (fun h => absurd h.2 (by first | exact gz_ne rfl | decide))
  have t231 := p220 a2 4 (fun h => absurd h.2 (by first | exact gz_ne rfl | decide))
  have t232 := p220 2 1 (fun h => absurd h.2 (by first | exact gz_ne rfl | decide))
  have f233 := (gc_b_49_13 hI219 R_48)
  have KFN_I219 := gc_FN_fr KFN_I (fun k => p220 49 k (fun h => absurd h.1 (by first | exact gz_ne rfl | decide))) (fun k => p220 50 k (fun h => absurd h.1 (by first | exact gz_ne rfl | decide)))
  have KFZ_I219 := gc_FZ_fr KFZ_I (p220 2 1 (fun h => absurd h.2 (by first | exact gz_ne rfl | decide))) (fun k => p220 49 k (fun h => absurd h.1 (by first | exact gz_ne rfl | decide))) (fun k => p220 50 k (fun h => absurd h.1 (by first | exact gz_ne rfl | decide)))
  show gv_X _ _ (5, [(0, .inr (.inr (some 48))), (1, .inr (.inr (some a1))), (2, .inr (.inr (some a2))), (3, .inl a3)], [], sh, gc_h sh I219 J A)
  refine gv_run 2 true hD (pc' := 7) (lv' := [(0, .inr (.inr (some 48))), (1, .inr (.inr (some a1))), (2, .inr (.inr (some a2))), (3, .inl a3)]) (st' := [.inr (.inr (some a2)), .inr (.inr (some 48))]) (h' := gc_h sh I219 J A) (C := ((True ∧ True) ∧ True)) rfl ⟨⟨trivial, trivial⟩, trivial⟩ ?_
  refine gv_put hD rfl rfl S_48 ⟨by decide, B_48⟩ rfl trivial ?_
  refine gc_st5 hI219 S_48 rfl R_48 (lo := -1) (hi := 999999) rfl rfl (by exact gz_m 204 (by omega)) (by exact gz_m 205 (by omega)) (fun I234 hI234 q235 p235 => ?_)
  have FI234 := gc_frs (W := fun q j => (q = 48 ∧ j = 3) ∨ (q = 48 ∧ j = 6) ∨ (q = 48 ∧ j = 12) ∨ q = 51 ∨ q = 52 ∨ q = 53 ∨ q = 54 ∨ q = 55 ∨ (q = 48 ∧ j = 11) ∨ q = 58 ∨ q = 59 ∨ q = 60 ∨ (q = 48 ∧ j = 17) ∨ (q = 48 ∧ j = 18) ∨ q = 49 ∨ q = 50 ∨ (q = 48 ∧ j = 13) ∨ (q = 48 ∧ j = 14) ∨ (q = 48 ∧ j = 10) ∨ q = 56 ∨ q = 57 ∨ q = (a1 + 22)) FI219 (Or.inr (Or.inr (Or.inr (Or.inr (Or.inr (Or.inr (Or.inr (Or.inr (Or.inr (Or.inr (Or.inr (Or.inr (Or.inr (Or.inr (Or.inr (Or.inr (Or.inr (Or.inl ⟨rfl, rfl⟩)))))))))))))))))) p235
  have t236 := p235 48 3 (fun h => absurd h.2 (by first | exact gz_ne rfl | decide))
  have t237 := p235 48 6 (fun h => absurd h.2 (by first | exact gz_ne rfl | decide))
  have t238 := p235 48 11 (fun h => absurd h.2 (by first | exact gz_ne rfl | decide))
  have t239 := p235 48 12 (fun h => absurd h.2 (by first | exact gz_ne rfl | decide))
  have t240 := p235 48 17 (fun h => absurd h.2 (by first | exact gz_ne rfl | decide))
  have t241 := p235 48 18 (fun h => absurd h.2 (by first | exact gz_ne rfl | decide))
  have t242 := p235 48 10 (fun h => absurd h.2 (by first | exact gz_ne rfl | decide))
  have t243 := p235 48 13 (fun h => absurd h.2 (by first | exact gz_ne rfl | decide))
  have t244 := p235 a1 13 (fun h => absurd h.2 (by first | exact gz_ne rfl | decide))
  have t245 := p235 a1 11 (fun h => absurd h.2 (by first | exact gz_ne rfl | decide))
  have t246 := p235 a2 4 (fun h => absurd h.2 (by first | exact gz_ne rfl | decide))
  have t247 := p235 2 1 (fun h => absurd h.2 (by first | exact gz_ne rfl | decide))
  have f248 := (gc_b_49_14 hI234 R_48)
  have KFN_I234 := gc_FN_fr KFN_I219 (fun k => p235 49 k (fun h => absurd h.1 (by first | exact gz_ne rfl | decide))) (fun k => p235 50 k (fun h => absurd h.1 (by first | exact gz_ne rfl | decide)))
  have KFZ_I234 := gc_FZ_fr KFZ_I219 (p235 2 1 (fun h => absurd h.2 (by first | exact gz_ne rfl | decide))) (fun k => p235 49 k (fun h => absurd h.1 (by first | exact gz_ne rfl | decide))) (fun k => p235 50 k (fun h => absurd h.1 (by first | exact gz_ne rfl | decide)))
  show gv_X _ _ (10, [(0, .inr (.inr (some 48))), (1, .inr (.inr (some a1))), (2, .inr (.inr (some a2))), (3, .inl a3)], [], sh, gc_h sh I234 J A)
  refine gv_run 2 true hD (pc' := 12) (lv' := [(0, .inr (.inr (some 48))), (1, .inr (.inr (some a1))), (2, .inr (.inr (some a2))), (3, .inl a3)]) (st' := [.inl 0, .inr (.inr (some 48))]) (h' := gc_h sh I234 J A) (C := ((True ∧ True) ∧ True)) rfl ⟨⟨trivial, trivial⟩, trivial⟩ ?_
  refine gv_put hD rfl rfl S_48 ⟨by decide, B_48⟩ rfl (by exact gz_m 206 (by omega)) ?_
  refine gc_st (k := 12) hI234 S_48 rfl R_48 (lo := 0) (hi := 1) rfl rfl (by exact gz_m 207 (by omega)) (by exact gz_m 208 (by omega)) (fun I249 hI249 q250 p250 => ?_)
  have FI249 := gc_frs (W := fun q j => (q = 48 ∧ j = 3) ∨ (q = 48 ∧ j = 6) ∨ (q = 48 ∧ j = 12) ∨ q = 51 ∨ q = 52 ∨ q = 53 ∨ q = 54 ∨ q = 55 ∨ (q = 48 ∧ j = 11) ∨ q = 58 ∨ q = 59 ∨ q = 60 ∨ (q = 48 ∧ j = 17) ∨ (q = 48 ∧ j = 18) ∨ q = 49 ∨ q = 50 ∨ (q = 48 ∧ j = 13) ∨ (q = 48 ∧ j = 14) ∨ (q = 48 ∧ j = 10) ∨ q = 56 ∨ q = 57 ∨ q = (a1 + 22)) FI234 (Or.inr (Or.inr (Or.inl ⟨rfl, rfl⟩))) p250
  have t251 := p250 48 3 (fun h => absurd h.2 (by first | exact gz_ne rfl | decide))
  have t252 := p250 48 6 (fun h => absurd h.2 (by first | exact gz_ne rfl | decide))
  have t253 := p250 48 11 (fun h => absurd h.2 (by first | exact gz_ne rfl | decide))
  have t254 := p250 48 17 (fun h => absurd h.2 (by first | exact gz_ne rfl | decide))
  have t255 := p250 48 18 (fun h => absurd h.2 (by first | exact gz_ne rfl | decide))
  have t256 := p250 48 10 (fun h => absurd h.2 (by first | exact gz_ne rfl | decide))
  have t257 := p250 48 13 (fun h => absurd h.2 (by first | exact gz_ne rfl | decide))
  have t258 := p250 48 14 (fun h => absurd h.2 (by first | exact gz_ne rfl | decide))
  have t259 := p250 a1 13 (fun h => absurd h.2 (by first | exact gz_ne rfl | decide))
  have t260 := p250 a1 11 (fun h => absurd h.2 (by first | exact gz_ne rfl | decide))
  have t261 := p250 a2 4 (fun h => absurd h.2 (by first | exact gz_ne rfl | decide))
  have t262 := p250 2 1 (fun h => absurd h.2 (by first | exact gz_ne rfl | decide))
  have f263 := (gc_b_49_12 hI249 R_48)
  have KFN_I249 := gc_FN_fr KFN_I234 (fun k => p250 49 k (fun h => absurd h.1 (by first | exact gz_ne rfl | decide))) (fun k => p250 50 k (fun h => absurd h.1 (by first | exact gz_ne rfl | decide)))
  have KFZ_I249 := gc_FZ_fr KFZ_I234 (p250 2 1 (fun h => absurd h.2 (by first | exact gz_ne rfl | decide))) (fun k => p250 49 k (fun h => absurd h.1 (by first | exact gz_ne rfl | decide))) (fun k => p250 50 k (fun h => absurd h.1 (by first | exact gz_ne rfl | decide)))
  have KTR_I249 : gc_TR I249 := (by unfold gc_TR; exact gz_m 209 (by omega))
  show gv_X _ _ (15, [(0, .inr (.inr (some 48))), (1, .inr (.inr (some a1))), (2, .inr (.inr (some a2))), (3, .inl a3)], [], sh, gc_h sh I249 J A)
  refine gv_run 1 true hD (pc' := 16) (lv' := [(0, .inr (.inr (some 48))), (1, .inr (.inr (some a1))), (2, .inr (.inr (some a2))), (3, .inl a3)]) (st' := [.inr (.inr (some 48))]) (h' := gc_h sh I249 J A) (C := (True ∧ True)) rfl ⟨trivial, trivial⟩ ?_
  obtain ⟨r264, h264, E264, P264⟩ := d_X0_forget (ws0 := ws0) (tb := tb) hws htb sh ro I249 J A hI249   hb     
  obtain ⟨I265, J266, rfl, hI265, g264, k264, ⟨rfl, q264⟩⟩ := P264
  have FI265 := gc_frc (W := fun q j => (q = 48 ∧ j = 3) ∨ (q = 48 ∧ j = 6) ∨ (q = 48 ∧ j = 12) ∨ q = 51 ∨ q = 52 ∨ q = 53 ∨ q = 54 ∨ q = 55 ∨ (q = 48 ∧ j = 11) ∨ q = 58 ∨ q = 59 ∨ q = 60 ∨ (q = 48 ∧ j = 17) ∨ (q = 48 ∧ j = 18) ∨ q = 49 ∨ q = 50 ∨ (q = 48 ∧ j = 13) ∨ (q = 48 ∧ j = 14) ∨ (q = 48 ∧ j = 10) ∨ q = 56 ∨ q = 57 ∨ q = (a1 + 22)) (V := fun q j => (q = 48 ∧ j = 3) ∨ (q = 48 ∧ j = 6)) FI249 (fun q j h => (h.elim (fun h => (Or.inl h)) (fun h => (Or.inr (Or.inl h))))) g264
  have t267 := (g264 48 11).resolve_left (fun h => h.elim (fun h => absurd h.2 (by first | exact gz_ne rfl | decide)) (fun h => absurd h.2 (by first | exact gz_ne rfl | decide)))
  have t268 := (g264 48 12).resolve_left (fun h => h.elim (fun h => absurd h.2 (by first | exact gz_ne rfl | decide)) (fun h => absurd h.2 (by first | exact gz_ne rfl | decide)))
  have t269 := (g264 48 17).resolve_left (fun h => h.elim (fun h => absurd h.2 (by first | exact gz_ne rfl | decide)) (fun h => absurd h.2 (by first | exact gz_ne rfl | decide)))
  have t270 := (g264 48 18).resolve_left (fun h => h.elim (fun h => absurd h.2 (by first | exact gz_ne rfl | decide)) (fun h => absurd h.2 (by first | exact gz_ne rfl | decide)))
  have t271 := (g264 48 10).resolve_left (fun h => h.elim (fun h => absurd h.2 (by first | exact gz_ne rfl | decide)) (fun h => absurd h.2 (by first | exact gz_ne rfl | decide)))
  have t272 := (g264 48 13).resolve_left (fun h => h.elim (fun h => absurd h.2 (by first | exact gz_ne rfl | decide)) (fun h => absurd h.2 (by first | exact gz_ne rfl | decide)))
  have t273 := (g264 48 14).resolve_left (fun h => h.elim (fun h => absurd h.2 (by first | exact gz_ne rfl | decide)) (fun h => absurd h.2 (by first | exact gz_ne rfl | decide)))
  have t274 := (g264 a1 13).resolve_left (fun h => h.elim (fun h => absurd h.2 (by first | exact gz_ne rfl | decide)) (fun h => absurd h.2 (by first | exact gz_ne rfl | decide)))
  have t275 := (g264 a1 11).resolve_left (fun h => h.elim (fun h => absurd h.2 (by first | exact gz_ne rfl | decide)) (fun h => absurd h.2 (by first | exact gz_ne rfl | decide)))
  have t276 := (g264 a2 4).resolve_left (fun h => h.elim (fun h => absurd h.2 (by first | exact gz_ne rfl | decide)) (fun h => absurd h.2 (by first | exact gz_ne rfl | decide)))
  have t277 := (g264 2 1).resolve_left (fun h => h.elim (fun h => absurd h.2 (by first | exact gz_ne rfl | decide)) (fun h => absurd h.2 (by first | exact gz_ne rfl | decide)))
  have f278 := (gc_b_49_3 hI265 R_48)
  have f279 := (gc_b_49_6 hI265 R_48)
  obtain rfl : J = J266 := funext fun q => funext fun j => ((k264 q j).resolve_left id).symm
  have KWV_I265 : gc_WV a1 I265 := gc_WV_0 (by exact gz_m 210 (by omega))
  have KWA_I265 : gc_WA (gc_lsl A I a1) I265 := gc_WA_0 (by exact gz_m 211 (by omega))
  have KWB_I265 : gc_WB (24 * I a1 11) I265 := gc_WB_0 (by exact gz_m 212 (by omega))
  have KFN_I265 := gc_FN_fr KFN_I249 (fun k => (g264 49 k).resolve_left (fun h => h.elim (fun h => absurd h.1 (by first | exact gz_ne rfl | decide)) (fun h => absurd h.1 (by first | exact gz_ne rfl | decide)))) (fun k => (g264 50 k).resolve_left (fun h => h.elim (fun h => absurd h.1 (by first | exact gz_ne rfl | decide)) (fun h => absurd h.1 (by first | exact gz_ne rfl | decide))))
  have KFZ_I265 := gc_FZ_fr KFZ_I249 ((g264 2 1).resolve_left (fun h => h.elim (fun h => absurd h.2 (by first | exact gz_ne rfl | decide)) (fun h => absurd h.2 (by first | exact gz_ne rfl | decide)))) (fun k => (g264 49 k).resolve_left (fun h => h.elim (fun h => absurd h.1 (by first | exact gz_ne rfl | decide)) (fun h => absurd h.1 (by first | exact gz_ne rfl | decide)))) (fun k => (g264 50 k).resolve_left (fun h => h.elim (fun h => absurd h.1 (by first | exact gz_ne rfl | decide)) (fun h => absurd h.1 (by first | exact gz_ne rfl | decide))))
  have KTR_I265 := gc_TR_fr KTR_I249 ((g264 48 11).resolve_left (fun h => h.elim (fun h => absurd h.2 (by first | exact gz_ne rfl | decide)) (fun h => absurd h.2 (by first | exact gz_ne rfl | decide)))) ((g264 48 12).resolve_left (fun h => h.elim (fun h => absurd h.2 (by first | exact gz_ne rfl | decide)) (fun h => absurd h.2 (by first | exact gz_ne rfl | decide))))
  refine gv_callV hD rfl (As := []) (st := []) rfl B_48 S_48 rfl (gc_lV0 hws rfl) (Nat.le_of_ble_eq_true rfl) (gz_Ev_mono (d := 1) (by decide) E264) ?_
  show gv_X _ _ (19, [(0, .inr (.inr (some 48))), (1, .inr (.inr (some a1))), (2, .inr (.inr (some a2))), (3, .inl a3)], [], sh, gc_h sh I265 J A)
  refine gv_run 1 true hD (pc' := 20) (lv' := [(0, .inr (.inr (some 48))), (1, .inr (.inr (some a1))), (2, .inr (.inr (some a2))), (3, .inl a3)]) (st' := [.inr (.inr (some 48))]) (h' := gc_h sh I265 J A) (C := (True ∧ True)) rfl ⟨trivial, trivial⟩ ?_
  obtain ⟨r280, h280, E280, P280⟩ := d_X0_orderLins (ws0 := ws0) (tb := tb) hws htb sh ro I265 J A hI265  a1  hb  h_a1 G_a1   (gc_Ls_fr x0 ((FI265 a1 13).resolve_left (by exact gz_m 213 (by omega))) (fun q hL hq d k hd => (FI265 (q + d) k).resolve_left (by have := gc_dj_LT hL h_a1; exact gz_m 214 (by omega)))) (by exact gz_m 215 (by omega)) 
  obtain ⟨I281, J282, rfl, hI281, g280, k280, ⟨rfl, q280⟩⟩ := P280
  have FI281 := gc_frc (W := fun q j => (q = 48 ∧ j = 3) ∨ (q = 48 ∧ j = 6) ∨ (q = 48 ∧ j = 12) ∨ q = 51 ∨ q = 52 ∨ q = 53 ∨ q = 54 ∨ q = 55 ∨ (q = 48 ∧ j = 11) ∨ q = 58 ∨ q = 59 ∨ q = 60 ∨ (q = 48 ∧ j = 17) ∨ (q = 48 ∧ j = 18) ∨ q = 49 ∨ q = 50 ∨ (q = 48 ∧ j = 13) ∨ (q = 48 ∧ j = 14) ∨ (q = 48 ∧ j = 10) ∨ q = 56 ∨ q = 57 ∨ q = (a1 + 22)) (V := fun q j => q = 56 ∨ q = 57) FI265 (fun q j h => (h.elim (fun h => (Or.inr (Or.inr (Or.inr (Or.inr (Or.inr (Or.inr (Or.inr (Or.inr (Or.inr (Or.inr (Or.inr (Or.inr (Or.inr (Or.inr (Or.inr (Or.inr (Or.inr (Or.inr (Or.inr (Or.inl h))))))))))))))))))))) (fun h => (Or.inr (Or.inr (Or.inr (Or.inr (Or.inr (Or.inr (Or.inr (Or.inr (Or.inr (Or.inr (Or.inr (Or.inr (Or.inr (Or.inr (Or.inr (Or.inr (Or.inr (Or.inr (Or.inr (Or.inr (Or.inl h)))))))))))))))))))))))) g280
  have t283 := (g280 48 3).resolve_left (fun h => h.elim (fun h => absurd h (by first | exact gz_ne rfl | decide)) (fun h => absurd h (by first | exact gz_ne rfl | decide)))
  have t284 := (g280 48 6).resolve_left (fun h => h.elim (fun h => absurd h (by first | exact gz_ne rfl | decide)) (fun h => absurd h (by first | exact gz_ne rfl | decide)))
  have t285 := (g280 48 11).resolve_left (fun h => h.elim (fun h => absurd h (by first | exact gz_ne rfl | decide)) (fun h => absurd h (by first | exact gz_ne rfl | decide)))
  have t286 := (g280 48 12).resolve_left (fun h => h.elim (fun h => absurd h (by first | exact gz_ne rfl | decide)) (fun h => absurd h (by first | exact gz_ne rfl | decide)))
  have t287 := (g280 48 17).resolve_left (fun h => h.elim (fun h => absurd h (by first | exact gz_ne rfl | decide)) (fun h => absurd h (by first | exact gz_ne rfl | decide)))
  have t288 := (g280 48 18).resolve_left (fun h => h.elim (fun h => absurd h (by first | exact gz_ne rfl | decide)) (fun h => absurd h (by first | exact gz_ne rfl | decide)))
  have t289 := (g280 48 10).resolve_left (fun h => h.elim (fun h => absurd h (by first | exact gz_ne rfl | decide)) (fun h => absurd h (by first | exact gz_ne rfl | decide)))
  have t290 := (g280 48 13).resolve_left (fun h => h.elim (fun h => absurd h (by first | exact gz_ne rfl | decide)) (fun h => absurd h (by first | exact gz_ne rfl | decide)))
  have t291 := (g280 48 14).resolve_left (fun h => h.elim (fun h => absurd h (by first | exact gz_ne rfl | decide)) (fun h => absurd h (by first | exact gz_ne rfl | decide)))
  have t292 := (g280 a1 13).resolve_left (fun h => h.elim (fun h => absurd h N_a1__56) (fun h => absurd h N_a1__57))
  have t293 := (g280 a1 11).resolve_left (fun h => h.elim (fun h => absurd h N_a1__56) (fun h => absurd h N_a1__57))
  have t294 := (g280 a2 4).resolve_left (fun h => h.elim (fun h => absurd h N_a2__56) (fun h => absurd h N_a2__57))
  have t295 := (g280 2 1).resolve_left (fun h => h.elim (fun h => absurd h (by first | exact gz_ne rfl | decide)) (fun h => absurd h (by first | exact gz_ne rfl | decide)))
  obtain rfl : J = J282 := funext fun q => funext fun j => ((k280 q j).resolve_left id).symm
  have KLO_I281 : gc_LO a1 I281 := q280.1
  have KLK_I281 : gc_LK (gc_lk A I a1) I281 := (by rw [← gc_lk_fr (A := A) (t := a1) (I := I) (I' := I265) (fun k => (((((g264 11 k).resolve_left (by exact gz_m 216 (by omega))).trans (p250 11 k (fun h => absurd h.1 (by first | exact gz_ne rfl | decide)))).trans (p235 11 k (fun h => absurd h.1 (by first | exact gz_ne rfl | decide)))).trans (p220 11 k (fun h => absurd h.1 (by first | exact gz_ne rfl | decide))))) (fun q => (((((g264 q 1).resolve_left (by exact gz_m 217 (by omega))).trans (p250 q 1 (fun h => absurd h.2 (by first | exact gz_ne rfl | decide)))).trans (p235 q 1 (fun h => absurd h.2 (by first | exact gz_ne rfl | decide)))).trans (p220 q 1 (fun h => absurd h.2 (by first | exact gz_ne rfl | decide)))))]; exact q280.2)
  have KFN_I281 := gc_FN_fr KFN_I265 (fun k => (g280 49 k).resolve_left (fun h => h.elim (fun h => absurd h (by first | exact gz_ne rfl | decide)) (fun h => absurd h (by first | exact gz_ne rfl | decide)))) (fun k => (g280 50 k).resolve_left (fun h => h.elim (fun h => absurd h (by first | exact gz_ne rfl | decide)) (fun h => absurd h (by first | exact gz_ne rfl | decide))))
  have KFZ_I281 := gc_FZ_fr KFZ_I265 ((g280 2 1).resolve_left (fun h => h.elim (fun h => absurd h (by first | exact gz_ne rfl | decide)) (fun h => absurd h (by first | exact gz_ne rfl | decide)))) (fun k => (g280 49 k).resolve_left (fun h => h.elim (fun h => absurd h (by first | exact gz_ne rfl | decide)) (fun h => absurd h (by first | exact gz_ne rfl | decide)))) (fun k => (g280 50 k).resolve_left (fun h => h.elim (fun h => absurd h (by first | exact gz_ne rfl | decide)) (fun h => absurd h (by first | exact gz_ne rfl | decide))))
  have KWV_I281 := gc_WV_fr KWV_I265 ((g280 48 6).resolve_left (fun h => h.elim (fun h => absurd h (by first | exact gz_ne rfl | decide)) (fun h => absurd h (by first | exact gz_ne rfl | decide)))) ((g280 a1 13).resolve_left (fun h => h.elim (fun h => absurd h N_a1__56) (fun h => absurd h N_a1__57))) (fun k => (g280 54 k).resolve_left (fun h => h.elim (fun h => absurd h (by first | exact gz_ne rfl | decide)) (fun h => absurd h (by first | exact gz_ne rfl | decide))))
  have KWA_I281 := gc_WA_fr KWA_I265 ((g280 48 6).resolve_left (fun h => h.elim (fun h => absurd h (by first | exact gz_ne rfl | decide)) (fun h => absurd h (by first | exact gz_ne rfl | decide)))) (Int.le_of_eq ((g280 48 3).resolve_left (fun h => h.elim (fun h => absurd h (by first | exact gz_ne rfl | decide)) (fun h => absurd h (by first | exact gz_ne rfl | decide)))).symm) (fun k => (g280 53 k).resolve_left (fun h => h.elim (fun h => absurd h (by first | exact gz_ne rfl | decide)) (fun h => absurd h (by first | exact gz_ne rfl | decide)))) (fun k => (g280 54 k).resolve_left (fun h => h.elim (fun h => absurd h (by first | exact gz_ne rfl | decide)) (fun h => absurd h (by first | exact gz_ne rfl | decide)))) (fun k => (g280 55 k).resolve_left (fun h => h.elim (fun h => absurd h (by first | exact gz_ne rfl | decide)) (fun h => absurd h (by first | exact gz_ne rfl | decide))))
  have KTR_I281 := gc_TR_fr KTR_I265 ((g280 48 11).resolve_left (fun h => h.elim (fun h => absurd h (by first | exact gz_ne rfl | decide)) (fun h => absurd h (by first | exact gz_ne rfl | decide)))) ((g280 48 12).resolve_left (fun h => h.elim (fun h => absurd h (by first | exact gz_ne rfl | decide)) (fun h => absurd h (by first | exact gz_ne rfl | decide))))
  have KWB_I281 := gc_WB_fr KWB_I265 ((g280 48 6).resolve_left (fun h => h.elim (fun h => absurd h (by first | exact gz_ne rfl | decide)) (fun h => absurd h (by first | exact gz_ne rfl | decide)))) (fun k => (g280 54 k).resolve_left (fun h => h.elim (fun h => absurd h (by first | exact gz_ne rfl | decide)) (fun h => absurd h (by first | exact gz_ne rfl | decide))))
  refine gv_callV hD rfl (As := []) (st := []) rfl B_48 S_48 rfl (gc_lV0 hws rfl) (Nat.le_of_ble_eq_true rfl) (gz_Ev_mono (d := 1) (by decide) E280) ?_
  show gv_X _ _ (23, [(0, .inr (.inr (some 48))), (1, .inr (.inr (some a1))), (2, .inr (.inr (some a2))), (3, .inl a3)], [], sh, gc_h sh I281 J A)
  refine gv_run 1 true hD (pc' := 24) (lv' := [(0, .inr (.inr (some 48))), (1, .inr (.inr (some a1))), (2, .inr (.inr (some a2))), (3, .inl a3)]) (st' := [.inr (.inr (some a2))]) (h' := gc_h sh I281 J A) (C := (True ∧ True)) rfl ⟨trivial, trivial⟩ ?_
  have f296 := (show 0 ≤ I281 a2 4 ∧ I281 a2 4 ≤ 24 from gc_in2 hI281 R_a2 rfl rfl rfl)
  refine gv_get hD rfl rfl S_a2 ⟨by decide, B_a2⟩ (gc_hI S_a2 rfl) ?_
  show gv_X _ _ (27, [(0, .inr (.inr (some 48))), (1, .inr (.inr (some a1))), (2, .inr (.inr (some a2))), (3, .inl a3)], [.inl (I281 a2 4)], sh, gc_h sh I281 J A)
  refine gv_run 3 true hD (pc' := 32) (lv' := [(5, .inl 1), (4, .inl (I281 a2 4)), (0, .inr (.inr (some 48))), (1, .inr (.inr (some a1))), (2, .inr (.inr (some a2))), (3, .inl a3)]) (st' := []) (h' := gc_h sh I281 J A) (C := (((True ∧ True) ∧ True) ∧ True)) rfl ⟨⟨⟨trivial, trivial⟩, trivial⟩, trivial⟩ ?_
  refine gv_pick [2, 3, 4, 5, 1, 0] rfl ?_
  exact L32 _ I281 J (I281 a2 4) 1 (Nat.lt_succ_self _) hI281 FI281 FJ KFN_I281 KFZ_I281 KWV_I281 KLO_I281 KWA_I281 KLK_I281 KTR_I281 KWB_I281 (by exact gz_m 218 (by omega)) (Or.inr gc_FD_0)
