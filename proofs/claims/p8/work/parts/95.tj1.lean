set_option maxHeartbeats 8000000 in
set_option maxRecDepth 100000 in
theorem d_X6_readWord_a_p_L196 {ws0 : List Cond} {tb : String → gz_T} (hws : gc_Ws ws0) (htb : gc_tbs tb) (sh : gz_Sh) (ro : Nat → Nat) (I : gr_I) (J : gr_J) (A : gc_A) (hI : gc_Inv ro I) (t : Nat) (B : Int) (β : Int → Int) (η : Int) (p9 : Int) (Ir : gr_I) (Jr : gr_J)  (hb : gc_Base sh ro A) (h_t : gc_isTongue sh ro A t) (G_t : 144 ≤ t)  (x0 : B ≤ 1280 ∧ I 1 17 + I 23 1 ≤ B + I 23 5) (x1 : gc_AT β η p9 23 I J) (x2 : 0 ≤ p9) (x3 : I 1 18 = 0) (x4 : I t 11 = Ir 18 (Int.toNat (Ir 0 6))) (x5 : gs_AR Ir I) (x6 : I 4 1 = Ir 0 3) (x7 : gs_NA (I 4 1) (J 5) (Jr 3)) (x8 : I (t + 11) 1 = Ir 17 (Int.toNat (Ir 0 6))) (x9 : gs_NA (I (t + 11) 1) (J (t + 12)) (fun k => Jr 23 (Int.toNat (24 * Ir 0 6 + (k : Int))))) (x10 : I (t + 3) 1 = Ir 14 (Int.toNat (Ir 0 6))) (x11 : gs_NA (I (t + 3) 1) (J (t + 4)) (fun k => Jr 21 (Int.toNat (48 * Ir 0 6 + (k : Int))))) (x12 : gs_VR Ir I t) (x13 : I 39 2 = (t : Int)) (KLT_I : gc_LT I) (KTK_I : gc_TK I) : ∀ (I13 : gr_I) (J14 : gr_J) (v1_15 : Int) (s1_15 : Int) (p_15 : Int), gc_Inv ro I13 → (∀ q j : Nat, ((q = 39 ∧ j = 3) ∨ (q = 39 ∧ j = 4) ∨ (q = 23 ∧ j = 5) ∨ (q = 23 ∧ j = 6) ∨ (q = 23 ∧ j = 7) ∨ (q = 23 ∧ j = 8) ∨ (q = 1 ∧ j = 17) ∨ (q = 1 ∧ j = 18) ∨ q = 20 ∨ (q = 39 ∧ j = 6) ∨ (q = 39 ∧ j = 7) ∨ q = 41 ∨ (q = (t + 15) ∧ (11 * I t 11 ≤ (j : Int))) ∨ (q = t ∧ j = 11)) ∨ I13 q j = I q j) → (∀ q j : Nat, ((q = 23 ∧ j = 9)) ∨ J14 q j = J q j) → gc_LT I13 → gc_TK I13 → gc_row 41 11 gc_fW I13 → gc_PKs I I13 → ((0 ≤ v1_15 ∧ v1_15 ≤ 95) ∧ (0 ≤ s1_15 ∧ s1_15 ≤ 1) ∧ (s1_15 = 1 ∨ I13 t 11 < 64) ∧ (I13 t 11 = I t 11) ∧ (I13 41 0 = v1_15) ∧ (I 12 (Int.toNat v1_15) ≤ 0) ∧ (v1_15 < I 4 1) ∧ (0 ≤ p_15) ∧ (I13 t 11 = I t 11) ∧ ((s1_15 = 1 ∧ 64 ≤ I13 t 11) ∨ (s1_15 = 0 ∧ I13 t 11 < 64)) ∧ (I13 1 18 = 0) ∧ (I13 23 1 = I 23 1) ∧ (I 23 5 ≤ I13 23 5) ∧ (B ≤ 1280 ∧ I13 1 17 + I13 23 1 ≤ B + I13 23 5) ∧ (I13 39 2 = (t : Int))) → (gc_AT β η p_15 23 I13 J14) → ((gs_wd β η Ir Jr (I 39 5) p9) = gs_wd6 β η Ir (I 39 5) p_15) → (gs_k7 β η Ir Jr p9 I13 (I13 41)) → ((I13 39 5 = I 39 5) ∧ (∀ k, I13 (t + 15) k = I (t + 15) k)) → gv_X (gc_E6 ws0 tb 4 (yX6_readWord, cX6_readWord, 2, (some .boolean)) kX6_readWord) (gv_Q cX6_readWord (some .boolean) sh (fun r h' => (∃ (I' : gr_I) (J' : gr_J), h' = gc_h sh I' J' A ∧ gc_Inv ro I' ∧ (∀ q j : Nat, ((q = 39 ∧ j = 3) ∨ (q = 39 ∧ j = 4) ∨ (q = 23 ∧ j = 5) ∨ (q = 23 ∧ j = 6) ∨ (q = 23 ∧ j = 7) ∨ (q = 23 ∧ j = 8) ∨ (q = 1 ∧ j = 17) ∨ (q = 1 ∧ j = 18) ∨ q = 20 ∨ (q = 39 ∧ j = 6) ∨ (q = 39 ∧ j = 7) ∨ q = 41 ∨ (q = (t + 15) ∧ (11 * I t 11 ≤ (j : Int))) ∨ (q = t ∧ j = 11)) ∨ I' q j = I q j) ∧ (∀ q j : Nat, ((q = 23 ∧ j = 9)) ∨ J' q j = J q j) ∧ gc_LT I' ∧ gc_TK I' ∧ (∃ z : Int, r = some (.inl z) ∧ 0 ≤ z ∧ z ≤ 1 ∧ (I' 23 1 = I 23 1) ∧ (I 23 5 ≤ I' 23 5) ∧ (B ≤ 1280 ∧ I' 1 17 + I' 23 1 ≤ B + I' 23 5) ∧ (z = 0 ∨ I' t 11 = I t 11 + 1) ∧ (z = 1 ∨ I' t 11 = I t 11) ∧ (z = 0 ∨ (I 12 (Int.toNat (I' (t + 15) (Int.toNat (11 * I t 11)))) = 0 ∧ I' (t + 15) (Int.toNat (11 * I t 11)) < I 4 1)) ∧ (gc_PKs I I') ∧ (gs_Or z (0 ≤ (gs_wd β η Ir Jr (I 39 5) p9) ∧ gc_AT β η (gs_wd β η Ir Jr (I 39 5) p9) 23 I' J' ∧ I' 1 18 = 0 ∧ gs_Cwd β η Ir Jr I t p9 I') ((gs_wd β η Ir Jr (I 39 5) p9) < 0 ∧ I' 39 4 = -1 - (gs_wd β η Ir Jr (I 39 5) p9) ∧ ∀ j, I' (t + 15) j = I (t + 15) j)))))) (196, [(0, .inr (.inr (some 39))), (1, .inl v1_15)], [.inl s1_15, .inr (.inr (some 39))], sh, gc_h sh I13 J14 A) := by
  have FI : ∀ q j : Nat, ((q = 39 ∧ j = 3) ∨ (q = 39 ∧ j = 4) ∨ (q = 23 ∧ j = 5) ∨ (q = 23 ∧ j = 6) ∨ (q = 23 ∧ j = 7) ∨ (q = 23 ∧ j = 8) ∨ (q = 1 ∧ j = 17) ∨ (q = 1 ∧ j = 18) ∨ q = 20 ∨ (q = 39 ∧ j = 6) ∨ (q = 39 ∧ j = 7) ∨ q = 41 ∨ (q = (t + 15) ∧ (11 * I t 11 ≤ (j : Int))) ∨ (q = t ∧ j = 11)) ∨ I q j = I q j := fun _ _ => Or.inr rfl
  have FJ : ∀ q j : Nat, ((q = 23 ∧ j = 9)) ∨ J q j = J q j := fun _ _ => Or.inr rfl
  have A_1_1 : A 1 1 = some 4 := gc_bA_1_1 hb
  have A_1_7 : A 1 7 = some 12 := gc_bA_1_7 hb
  have A_39_0 : A 39 0 = some 1 := gc_bA_39_0 hb
  have A_39_1 : A 39 1 = some 23 := gc_bA_39_1 hb
  have A_39_10 : A 39 10 = some 41 := gc_bA_39_10 hb
  have B_1 : 1 < 1000000 := by decide
  have B_12 : 12 < 1000000 := by decide
  have B_23 : 23 < 1000000 := by decide
  have B_39 : 39 < 1000000 := by decide
  have B_4 : 4 < 1000000 := by decide
  have B_41 : 41 < 1000000 := by decide
  have R_1 : ro 1 = 22 := gc_bR_1 hb
  have R_12 : ro 12 = 26 := gc_bR_12 hb
  have R_23 : ro 23 = 3 := gc_bR_23 hb
  have R_39 : ro 39 = 42 := gc_bR_39 hb
  have R_4 : ro 4 = 11 := gc_bR_4 hb
  have R_41 : ro 41 = 0 := gc_bR_41 hb
  have S_1 : sh[1]? = some (false, 8, 21) := gc_bS_1 hb
  have S_12 : sh[12]? = some (true, 1, 96) := gc_bS_12 hb
  have S_23 : sh[23]? = some (false, 9, 10) := gc_bS_23 hb
  have S_39 : sh[39]? = some (false, 6, 19) := gc_bS_39 hb
  have S_4 : sh[4]? = some (false, 4, 2) := gc_bS_4 hb
  have S_41 : sh[41]? = some (true, 1, 25) := gc_bS_41 hb
  obtain ⟨S_t, R_t, B_t, A_t_0, h_t_1, A_t_1, h_t_3, A_t_2, S_t_5, R_t_5, B_t_5, A_t_3, S_t_6, R_t_6, B_t_6, A_t_4, h_t_7, A_t_5, S_t_9, R_t_9, B_t_9, A_t_7, S_t_10, R_t_10, B_t_10, A_t_8, h_t_11, A_t_9, S_t_13, R_t_13, B_t_13, A_t_10, S_t_14, R_t_14, B_t_14, A_t_12, S_t_15, R_t_15, B_t_15, A_t_14, S_t_16, R_t_16, B_t_16, A_t_15, h_t_17⟩ := id h_t
  obtain ⟨S_t_1, R_t_1, B_t_1, A_t_1_0, S_t_1_1, R_t_1_1, B_t_1_1, Q0_t_1, Q1_t_1, Q2_t_1⟩ := id h_t_1
  obtain ⟨S_t_3, R_t_3, B_t_3, A_t_3_0, S_t_3_1, R_t_3_1, B_t_3_1, Q0_t_3, Q1_t_3, Q2_t_3⟩ := id h_t_3
  obtain ⟨S_t_7, R_t_7, B_t_7, A_t_7_0, S_t_7_1, R_t_7_1, B_t_7_1, Q0_t_7, Q1_t_7, Q2_t_7⟩ := id h_t_7
  obtain ⟨S_t_11, R_t_11, B_t_11, A_t_11_0, S_t_11_1, R_t_11_1, B_t_11_1, Q0_t_11, Q1_t_11, Q2_t_11⟩ := id h_t_11
  obtain ⟨S_t_17, R_t_17, B_t_17, A_t_17_0, S_20, R_20, B_20, A_t_17_1, S_t_17_1, R_t_17_1, B_t_17_1, A_t_17_2, S_t_17_2, R_t_17_2, B_t_17_2, A_t_17_3, S_t_17_3, R_t_17_3, B_t_17_3, A_t_17_4, S_t_17_4, R_t_17_4, B_t_17_4, A_t_17_5, S_t_17_5, R_t_17_5, B_t_17_5, S_t_17_6, R_t_17_6, B_t_17_6, S_t_17_7, R_t_17_7, B_t_17_7⟩ := id h_t_17
  have hD : gv_D (gc_E6 ws0 tb 4 (yX6_readWord, cX6_readWord, 2, (some .boolean)) kX6_readWord) := gq_of oX6_readWord
  have N_23__t_15 : ¬ (23 = (t + 15)) := by exact gz_m 0 (by omega)
  have N_24__t_15 : ¬ (24 = (t + 15)) := by exact gz_m 1 (by omega)
  have N_41__t_15 : ¬ (41 = (t + 15)) := by exact gz_m 2 (by omega)
  have N_1__t_15 : ¬ (1 = (t + 15)) := by exact gz_m 3 (by omega)
  have N_20__t_15 : ¬ (20 = (t + 15)) := by exact gz_m 4 (by omega)
  have N_4__t_15 : ¬ (4 = (t + 15)) := by exact gz_m 5 (by omega)
  have N_t_11__t_15 : ¬ ((t + 11) = (t + 15)) := by exact gz_m 6 (by omega)
  have N_t__t_15 : ¬ (t = (t + 15)) := by exact gz_m 7 (by omega)
  have N_39__t_15 : ¬ (39 = (t + 15)) := by exact gz_m 8 (by omega)
  have N_24__t : ¬ (24 = t) := by exact gz_m 9 (by omega)
  have N_41__t : ¬ (41 = t) := by exact gz_m 10 (by omega)
  have N_20__t : ¬ (20 = t) := by exact gz_m 11 (by omega)
  have N_t_11__41 : ¬ ((t + 11) = 41) := by exact gz_m 12 (by omega)
  have N_t__41 : ¬ (t = 41) := by exact gz_m 13 (by omega)
  have N_t_11__20 : ¬ ((t + 11) = 20) := by exact gz_m 14 (by omega)
  have N_t__20 : ¬ (t = 20) := by exact gz_m 15 (by omega)
  have KPK_I : gc_PKs I I := gc_PKs_rf
  have t1 := gc_TK_mo KTK_I
  have f2 := (gc_b_3_1 hI R_23)
  have f3 := (gc_b_3_5 hI R_23)
  have f4 := (gc_b_3_6 hI R_23)
  have f5 := (gc_b_3_7 hI R_23)
  have f6 := (gc_b_22_17 hI R_1)
  have f7 := (gc_b_11_1 hI R_4)
  have f8 := (show 0 ≤ I (t + 11) 1 ∧ I (t + 11) 1 ≤ 24 from gc_in2 hI R_t_11 rfl rfl rfl)
  have f9 := (show 0 ≤ I t 11 ∧ I t 11 ≤ 64 from gc_in2 hI R_t rfl rfl rfl)
  have f10 := (gc_b_42_5 hI R_39)
  have f11 := (gc_b_22_18 hI R_1)
  have f12 := (gc_b_42_2 hI R_39)
  have tAT := gc_AT_l x1
  intro I13 J14 v1_15 s1_15 p_15 hI13 FI13 FJ14 KLT_I13 KTK_I13 KRW_I13 KPK_I13 m_15 e6_15 e7_15 e8_15 e9_15
  obtain ⟨hv1_15, hs1_15, e0_15, e1_15, e2_15, e3_15, e4_15, e5_15, e10_15, e11_15, e12_15, e13_15, e14_15, e15_15, e16_15⟩ := m_15
  have t16 := gc_TK_mo KTK_I13
  have f17 := (gc_b_3_1 hI13 R_23)
  have f18 := (gc_b_3_5 hI13 R_23)
  have f19 := (gc_b_3_6 hI13 R_23)
  have f20 := (gc_b_3_7 hI13 R_23)
  have f21 := (gc_b_22_17 hI13 R_1)
  have f22 := (gc_b_11_1 hI13 R_4)
  have f23 := (show 0 ≤ I13 (t + 11) 1 ∧ I13 (t + 11) 1 ≤ 24 from gc_in2 hI13 R_t_11 rfl rfl rfl)
  have f24 := (show 0 ≤ I13 t 11 ∧ I13 t 11 ≤ 64 from gc_in2 hI13 R_t rfl rfl rfl)
  have f25 := (gc_b_42_5 hI13 R_39)
  have f26 := (gc_b_22_18 hI13 R_1)
  have f27 := (gc_b_42_2 hI13 R_39)
  have t28 := gc_AT_l e6_15
  obtain ⟨r29, h29, E29, P29⟩ := d_X6_closes_p (ws0 := ws0) (tb := tb) hws htb sh ro I13 J14 A hI13  β η p_15 s1_15 hb   ⟨by exact gz_m 16 (by omega), by exact gz_m 17 (by omega)⟩ e6_15 (by exact gz_m 18 (by omega)) (by exact gz_m 19 (by omega)) KLT_I13 KTK_I13
  obtain ⟨I30, J31, rfl, hI30, g29, k29, KLT_I30, KTK_I30, ⟨z29, rfl, q29⟩⟩ := P29
  have FI30 := gc_frc (W := fun q j => (q = 39 ∧ j = 3) ∨ (q = 39 ∧ j = 4) ∨ (q = 23 ∧ j = 5) ∨ (q = 23 ∧ j = 6) ∨ (q = 23 ∧ j = 7) ∨ (q = 23 ∧ j = 8) ∨ (q = 1 ∧ j = 17) ∨ (q = 1 ∧ j = 18) ∨ q = 20 ∨ (q = 39 ∧ j = 6) ∨ (q = 39 ∧ j = 7) ∨ q = 41 ∨ (q = (t + 15) ∧ (11 * I t 11 ≤ (j : Int))) ∨ (q = t ∧ j = 11)) (V := fun q j => (q = 39 ∧ j = 3) ∨ (q = 39 ∧ j = 4) ∨ (q = 23 ∧ j = 5) ∨ (q = 23 ∧ j = 6) ∨ (q = 23 ∧ j = 7) ∨ (q = 23 ∧ j = 8)) FI13 (fun q j h => (h.elim (fun h => (Or.inl h)) (fun h => (h.elim (fun h => (Or.inr (Or.inl h))) (fun h => (h.elim (fun h => (Or.inr (Or.inr (Or.inl h)))) (fun h => (h.elim (fun h => (Or.inr (Or.inr (Or.inr (Or.inl h))))) (fun h => (h.elim (fun h => (Or.inr (Or.inr (Or.inr (Or.inr (Or.inl h)))))) (fun h => (Or.inr (Or.inr (Or.inr (Or.inr (Or.inr (Or.inl h))))))))))))))))) g29
  have FJ31 := gc_frc (W := fun q j => (q = 23 ∧ j = 9)) (V := fun q j => (q = 23 ∧ j = 9)) FJ14 (fun q j h => h) k29
  have t32 := (g29 23 1).resolve_left (fun h => h.elim (fun h => absurd h.2 (gz_ne rfl)) (fun h => h.elim (fun h => absurd h.2 (gz_ne rfl)) (fun h => h.elim (fun h => absurd h.2 (gz_ne rfl)) (fun h => h.elim (fun h => absurd h.2 (gz_ne rfl)) (fun h => h.elim (fun h => absurd h.2 (gz_ne rfl)) (fun h => absurd h.2 (gz_ne rfl)))))))
  have t33 := (g29 1 17).resolve_left (fun h => h.elim (fun h => absurd h.2 (gz_ne rfl)) (fun h => h.elim (fun h => absurd h.2 (gz_ne rfl)) (fun h => h.elim (fun h => absurd h.2 (gz_ne rfl)) (fun h => h.elim (fun h => absurd h.2 (gz_ne rfl)) (fun h => h.elim (fun h => absurd h.2 (gz_ne rfl)) (fun h => absurd h.2 (gz_ne rfl)))))))
  have t34 := (g29 4 1).resolve_left (fun h => h.elim (fun h => absurd h.2 (gz_ne rfl)) (fun h => h.elim (fun h => absurd h.2 (gz_ne rfl)) (fun h => h.elim (fun h => absurd h.2 (gz_ne rfl)) (fun h => h.elim (fun h => absurd h.2 (gz_ne rfl)) (fun h => h.elim (fun h => absurd h.2 (gz_ne rfl)) (fun h => absurd h.2 (gz_ne rfl)))))))
  have t35 := (g29 (t + 11) 1).resolve_left (fun h => h.elim (fun h => absurd h.2 (gz_ne rfl)) (fun h => h.elim (fun h => absurd h.2 (gz_ne rfl)) (fun h => h.elim (fun h => absurd h.2 (gz_ne rfl)) (fun h => h.elim (fun h => absurd h.2 (gz_ne rfl)) (fun h => h.elim (fun h => absurd h.2 (gz_ne rfl)) (fun h => absurd h.2 (gz_ne rfl)))))))
  have t36 := (g29 t 11).resolve_left (fun h => h.elim (fun h => absurd h.2 (gz_ne rfl)) (fun h => h.elim (fun h => absurd h.2 (gz_ne rfl)) (fun h => h.elim (fun h => absurd h.2 (gz_ne rfl)) (fun h => h.elim (fun h => absurd h.2 (gz_ne rfl)) (fun h => h.elim (fun h => absurd h.2 (gz_ne rfl)) (fun h => absurd h.2 (gz_ne rfl)))))))
  have t37 := (g29 39 5).resolve_left (fun h => h.elim (fun h => absurd h.2 (gz_ne rfl)) (fun h => h.elim (fun h => absurd h.2 (gz_ne rfl)) (fun h => h.elim (fun h => absurd h.1 (gz_ne rfl)) (fun h => h.elim (fun h => absurd h.2 (gz_ne rfl)) (fun h => h.elim (fun h => absurd h.2 (gz_ne rfl)) (fun h => absurd h.2 (gz_ne rfl)))))))
  have t38 := (g29 1 18).resolve_left (fun h => h.elim (fun h => absurd h.2 (gz_ne rfl)) (fun h => h.elim (fun h => absurd h.2 (gz_ne rfl)) (fun h => h.elim (fun h => absurd h.2 (gz_ne rfl)) (fun h => h.elim (fun h => absurd h.2 (gz_ne rfl)) (fun h => h.elim (fun h => absurd h.2 (gz_ne rfl)) (fun h => absurd h.2 (gz_ne rfl)))))))
  have t39 := (g29 39 2).resolve_left (fun h => h.elim (fun h => absurd h.2 (gz_ne rfl)) (fun h => h.elim (fun h => absurd h.2 (gz_ne rfl)) (fun h => h.elim (fun h => absurd h.2 (gz_ne rfl)) (fun h => h.elim (fun h => absurd h.2 (gz_ne rfl)) (fun h => h.elim (fun h => absurd h.2 (gz_ne rfl)) (fun h => absurd h.2 (gz_ne rfl)))))))
  have t40 := (g29 41 0).resolve_left (fun h => h.elim (fun h => absurd h.2 (gz_ne rfl)) (fun h => h.elim (fun h => absurd h.2 (gz_ne rfl)) (fun h => h.elim (fun h => absurd h.2 (gz_ne rfl)) (fun h => h.elim (fun h => absurd h.2 (gz_ne rfl)) (fun h => h.elim (fun h => absurd h.2 (gz_ne rfl)) (fun h => absurd h.2 (gz_ne rfl)))))))
  have f41 := (gc_b_3_5 hI30 R_23)
  have f42 := (gc_b_3_6 hI30 R_23)
  have f43 := (gc_b_3_7 hI30 R_23)
  have t44 := gc_TK_mo KTK_I30
  have KRW_I30 := gc_row_fr KRW_I13 (fun k => (g29 41 k).resolve_left (fun h => h.elim (fun h => absurd h.1 (gz_ne rfl)) (fun h => h.elim (fun h => absurd h.1 (gz_ne rfl)) (fun h => h.elim (fun h => absurd h.1 (gz_ne rfl)) (fun h => h.elim (fun h => absurd h.1 (gz_ne rfl)) (fun h => h.elim (fun h => absurd h.1 (gz_ne rfl)) (fun h => absurd h.1 (gz_ne rfl))))))))
  have KPK_I30 := gc_PKs_fr KPK_I13 ((g29 1 17).resolve_left (fun h => h.elim (fun h => absurd h.2 (gz_ne rfl)) (fun h => h.elim (fun h => absurd h.2 (gz_ne rfl)) (fun h => h.elim (fun h => absurd h.2 (gz_ne rfl)) (fun h => h.elim (fun h => absurd h.2 (gz_ne rfl)) (fun h => h.elim (fun h => absurd h.2 (gz_ne rfl)) (fun h => absurd h.2 (gz_ne rfl)))))))) (fun k => (g29 20 k).resolve_left (fun h => h.elim (fun h => absurd h.1 (gz_ne rfl)) (fun h => h.elim (fun h => absurd h.1 (gz_ne rfl)) (fun h => h.elim (fun h => absurd h.1 (gz_ne rfl)) (fun h => h.elim (fun h => absurd h.1 (gz_ne rfl)) (fun h => h.elim (fun h => absurd h.1 (gz_ne rfl)) (fun h => absurd h.1 (gz_ne rfl))))))))
  refine gv_callV hD rfl (As := [.inl s1_15]) (st := []) rfl B_39 S_39 rfl (gc_lV6 hws rfl) (Nat.le_of_ble_eq_true rfl) (gz_Ev_mono (d := 4) (by decide) E29) ?_
  show gv_X _ _ (199, [(0, .inr (.inr (some 39))), (1, .inl v1_15)], [.inl z29], sh, gc_h sh I30 J31 A)
  refine gv_if_ne (t := 204) hD rfl rfl ⟨by exact gz_m 20 (by omega), by exact gz_m 21 (by omega)⟩ (fun c45 => ?_) (fun c45 => ?_)
  · show gv_X _ _ (204, [(0, .inr (.inr (some 39))), (1, .inl v1_15)], [], sh, gc_h sh I30 J31 A)
    have V46 := q29.2.2.2.2.2
    rw [show I13 39 5 = I 39 5 from by exact gz_m 22 (by omega)] at V46
    rw [show (if s1_15 = 0 then (1 : Int) else 0) = (if Ir 18 (Int.toNat (Ir 0 6)) < 64 then 1 else 0) from gs_rm (by exact gz_m 23 (by omega))] at V46
    obtain ⟨u46, A46⟩ := gs_or1 V46 (by exact gz_m 24 (by omega))
    have t47 := gc_AT_l A46
    refine gv_run 1 true hD (pc' := 205) (lv' := [(0, .inr (.inr (some 39))), (1, .inl v1_15)]) (st' := [.inr (.inr (some 39))]) (h' := gc_h sh I30 J31 A) (C := (True ∧ True)) rfl ⟨trivial, trivial⟩ ?_
    refine gv_get hD rfl rfl S_39 ⟨by decide, B_39⟩ (gc_hA S_39 rfl A_39_10) ?_
    show gv_X _ _ (208, [(0, .inr (.inr (some 39))), (1, .inl v1_15)], [.inr (.inr (some 41))], sh, gc_h sh I30 J31 A)
    refine gv_run 2 true hD (pc' := 210) (lv' := [(0, .inr (.inr (some 39))), (1, .inl v1_15)]) (st' := [.inr (.inr (some 39)), .inl 0, .inr (.inr (some 41))]) (h' := gc_h sh I30 J31 A) (C := ((True ∧ True) ∧ True)) rfl ⟨⟨trivial, trivial⟩, trivial⟩ ?_
    refine gv_get hD rfl rfl S_39 ⟨by decide, B_39⟩ (gc_h5 (t := t) S_39 rfl (by exact gz_m 25 (by omega))) ?_
    show gv_X _ _ (213, [(0, .inr (.inr (some 39))), (1, .inl v1_15)], [.inr (.inr (some t)), .inl 0, .inr (.inr (some 41))], sh, gc_h sh I30 J31 A)
    refine gv_get hD rfl rfl S_t ⟨by decide, B_t⟩ (gc_hA S_t rfl A_t_12) ?_
    show gv_X _ _ (216, [(0, .inr (.inr (some 39))), (1, .inl v1_15)], [.inr (.inr (some (t + 15))), .inl 0, .inr (.inr (some 41))], sh, gc_h sh I30 J31 A)
    refine gv_run 1 true hD (pc' := 217) (lv' := [(0, .inr (.inr (some 39))), (1, .inl v1_15)]) (st' := [.inr (.inr (some 39)), .inr (.inr (some (t + 15))), .inl 0, .inr (.inr (some 41))]) (h' := gc_h sh I30 J31 A) (C := (True ∧ True)) rfl ⟨trivial, trivial⟩ ?_
    refine gv_get hD rfl rfl S_39 ⟨by decide, B_39⟩ (gc_h5 (t := t) S_39 rfl (by exact gz_m 26 (by omega))) ?_
    show gv_X _ _ (220, [(0, .inr (.inr (some 39))), (1, .inl v1_15)], [.inr (.inr (some t)), .inr (.inr (some (t + 15))), .inl 0, .inr (.inr (some 41))], sh, gc_h sh I30 J31 A)
    have f48 := (show 0 ≤ I30 t 11 ∧ I30 t 11 ≤ 64 from gc_in2 hI30 R_t rfl rfl rfl)
    refine gv_get hD rfl rfl S_t ⟨by decide, B_t⟩ (gc_hI S_t rfl) ?_
    show gv_X _ _ (223, [(0, .inr (.inr (some 39))), (1, .inl v1_15)], [.inl (I30 t 11), .inr (.inr (some (t + 15))), .inl 0, .inr (.inr (some 41))], sh, gc_h sh I30 J31 A)
    refine gv_run 3 true hD (pc' := 228) (lv' := [(0, .inr (.inr (some 39))), (1, .inl v1_15)]) (st' := [.inl 11, .inl ((I30 t 11) * 11), .inr (.inr (some (t + 15))), .inl 0, .inr (.inr (some 41))]) (h' := gc_h sh I30 J31 A) (C := (((True ∧ True) ∧ True) ∧ True)) rfl ⟨⟨⟨trivial, trivial⟩, trivial⟩, trivial⟩ ?_
    refine gv_copy hD rfl (gc_lC6_263 hws) (Nat.le_of_ble_eq_true rfl) ⟨B_41, B_t_15⟩ S_41 S_t_15 (by decide) ⟨by decide, by decide⟩ ⟨by exact gz_m 27 (by omega), by exact gz_m 28 (by omega), by exact gz_m 29 (by omega)⟩ (by exact gz_m 30 (by omega)) (by exact gz_m 31 (by omega)) (fun h => absurd h (gz_ne rfl)) ?_
    refine gc_cp hI30 S_41 S_t_15 (by decide) (fun j hj => gc_RW_cp KRW_I30 R_t_15 (by exact gz_m 32 (by omega)) (by decide) hj) (fun I50 hI50 p49 q49 => ?_)
    have FI50 := gc_frp (W := fun q j => (q = 39 ∧ j = 3) ∨ (q = 39 ∧ j = 4) ∨ (q = 23 ∧ j = 5) ∨ (q = 23 ∧ j = 6) ∨ (q = 23 ∧ j = 7) ∨ (q = 23 ∧ j = 8) ∨ (q = 1 ∧ j = 17) ∨ (q = 1 ∧ j = 18) ∨ q = 20 ∨ (q = 39 ∧ j = 6) ∨ (q = 39 ∧ j = 7) ∨ q = 41 ∨ (q = (t + 15) ∧ (11 * I t 11 ≤ (j : Int))) ∨ (q = t ∧ j = 11)) (V := fun q j => q = (t + 15) ∧ Int.toNat (((I30 t 11) * 11)) ≤ j ∧ j < Int.toNat (((I30 t 11) * 11)) + Int.toNat 11) FI30 (fun q j h => (Or.inr (Or.inr (Or.inr (Or.inr (Or.inr (Or.inr (Or.inr (Or.inr (Or.inr (Or.inr (Or.inr (Or.inr (Or.inl ⟨h.1, by have := h.2; exact gz_m 33 (by omega)⟩)))))))))))))) p49
    have KLT_I50 := gc_LT_fr KLT_I30 (p49 23 5 (fun h => absurd h.1 N_23__t_15)) (p49 23 6 (fun h => absurd h.1 N_23__t_15)) (p49 23 7 (fun h => absurd h.1 N_23__t_15)) (fun k => p49 24 k (fun h => absurd h.1 N_24__t_15))
    have KTK_I50 := gc_TK_fr KTK_I30 (p49 23 1 (fun h => absurd h.1 N_23__t_15)) (p49 23 5 (fun h => absurd h.1 N_23__t_15)) (p49 23 6 (fun h => absurd h.1 N_23__t_15)) (p49 23 7 (fun h => absurd h.1 N_23__t_15))
    have KRW_I50 := gc_row_fr KRW_I30 (fun k => p49 41 k (fun h => absurd h.1 N_41__t_15))
    have KPK_I50 := gc_PKs_fr KPK_I30 (p49 1 17 (fun h => absurd h.1 N_1__t_15)) (fun k => p49 20 k (fun h => absurd h.1 N_20__t_15))
    have t52 := p49 23 1 (fun h => absurd h.1 N_23__t_15)
    have t53 := p49 23 5 (fun h => absurd h.1 N_23__t_15)
    have t54 := p49 23 6 (fun h => absurd h.1 N_23__t_15)
    have t55 := p49 23 7 (fun h => absurd h.1 N_23__t_15)
    have t56 := p49 1 17 (fun h => absurd h.1 N_1__t_15)
    have t57 := p49 4 1 (fun h => absurd h.1 N_4__t_15)
    have t58 := p49 (t + 11) 1 (fun h => absurd h.1 N_t_11__t_15)
    have t59 := p49 t 11 (fun h => absurd h.1 N_t__t_15)
    have t60 := p49 39 5 (fun h => absurd h.1 N_39__t_15)
    have t61 := p49 1 18 (fun h => absurd h.1 N_1__t_15)
    have t62 := p49 39 2 (fun h => absurd h.1 N_39__t_15)
    have t63 := p49 41 0 (fun h => absurd h.1 N_41__t_15)
    have t64 := gc_TK_mo KTK_I50
    have f65 := (gc_b_3_1 hI50 R_23)
    have f66 := (gc_b_3_5 hI50 R_23)
    have f67 := (gc_b_3_6 hI50 R_23)
    have f68 := (gc_b_3_7 hI50 R_23)
    have f69 := (gc_b_22_17 hI50 R_1)
    have f70 := (gc_b_11_1 hI50 R_4)
    have f71 := (show 0 ≤ I50 (t + 11) 1 ∧ I50 (t + 11) 1 ≤ 24 from gc_in2 hI50 R_t_11 rfl rfl rfl)
    have f72 := (show 0 ≤ I50 t 11 ∧ I50 t 11 ≤ 64 from gc_in2 hI50 R_t rfl rfl rfl)
    have f73 := (gc_b_42_5 hI50 R_39)
    have f74 := (gc_b_22_18 hI50 R_1)
    have f75 := (gc_b_42_2 hI50 R_39)
    have A76 := gc_AT_I A46 (p49 23 1 (fun h => absurd h.1 N_23__t_15)) (p49 23 5 (fun h => absurd h.1 N_23__t_15)) (p49 23 6 (fun h => absurd h.1 N_23__t_15)) (p49 23 7 (fun h => absurd h.1 N_23__t_15)) (p49 23 8 (fun h => absurd h.1 N_23__t_15)) (fun k => p49 24 k (fun h => absurd h.1 N_24__t_15))
    show gv_X _ _ (231, [(0, .inr (.inr (some 39))), (1, .inl v1_15)], [], sh, gc_h sh I50 J31 A)
    refine gv_run 1 true hD (pc' := 232) (lv' := [(0, .inr (.inr (some 39))), (1, .inl v1_15)]) (st' := [.inr (.inr (some 39))]) (h' := gc_h sh I50 J31 A) (C := (True ∧ True)) rfl ⟨trivial, trivial⟩ ?_
    refine gv_get hD rfl rfl S_39 ⟨by decide, B_39⟩ (gc_h5 (t := t) S_39 rfl (by exact gz_m 34 (by omega))) ?_
    show gv_X _ _ (235, [(0, .inr (.inr (some 39))), (1, .inl v1_15)], [.inr (.inr (some t))], sh, gc_h sh I50 J31 A)
    refine gv_run 1 true hD (pc' := 236) (lv' := [(0, .inr (.inr (some 39))), (1, .inl v1_15)]) (st' := [.inr (.inr (some t)), .inr (.inr (some t))]) (h' := gc_h sh I50 J31 A) (C := (True ∧ True)) rfl ⟨trivial, trivial⟩ ?_
    have f77 := (show 0 ≤ I50 t 11 ∧ I50 t 11 ≤ 64 from gc_in2 hI50 R_t rfl rfl rfl)
    refine gv_get hD rfl rfl S_t ⟨by decide, B_t⟩ (gc_hI S_t rfl) ?_
    show gv_X _ _ (239, [(0, .inr (.inr (some 39))), (1, .inl v1_15)], [.inl (I50 t 11), .inr (.inr (some t))], sh, gc_h sh I50 J31 A)
    refine gv_run 2 true hD (pc' := 241) (lv' := [(0, .inr (.inr (some 39))), (1, .inl v1_15)]) (st' := [.inl ((I50 t 11) + 1), .inr (.inr (some t))]) (h' := gc_h sh I50 J31 A) (C := ((True ∧ True) ∧ True)) rfl ⟨⟨trivial, trivial⟩, trivial⟩ ?_
    refine gv_put hD rfl rfl S_t ⟨by decide, B_t⟩ rfl trivial ?_
    refine gc_st (k := 11) hI50 S_t rfl R_t (lo := 0) (hi := 64) rfl rfl (by exact gz_m 35 (by omega)) (by exact gz_m 36 (by omega)) (fun I78 hI78 q79 p79 => ?_)
    have FI78 := gc_frs (W := fun q j => (q = 39 ∧ j = 3) ∨ (q = 39 ∧ j = 4) ∨ (q = 23 ∧ j = 5) ∨ (q = 23 ∧ j = 6) ∨ (q = 23 ∧ j = 7) ∨ (q = 23 ∧ j = 8) ∨ (q = 1 ∧ j = 17) ∨ (q = 1 ∧ j = 18) ∨ q = 20 ∨ (q = 39 ∧ j = 6) ∨ (q = 39 ∧ j = 7) ∨ q = 41 ∨ (q = (t + 15) ∧ (11 * I t 11 ≤ (j : Int))) ∨ (q = t ∧ j = 11)) FI50 (Or.inr (Or.inr (Or.inr (Or.inr (Or.inr (Or.inr (Or.inr (Or.inr (Or.inr (Or.inr (Or.inr (Or.inr (Or.inr ⟨rfl, rfl⟩))))))))))))) p79
    have t80 := p79 23 1 (fun h => absurd h.2 (gz_ne rfl))
    have t81 := p79 23 5 (fun h => absurd h.2 (gz_ne rfl))
    have t82 := p79 23 6 (fun h => absurd h.2 (gz_ne rfl))
    have t83 := p79 23 7 (fun h => absurd h.2 (gz_ne rfl))
    have t84 := p79 1 17 (fun h => absurd h.2 (gz_ne rfl))
    have t85 := p79 4 1 (fun h => absurd h.2 (gz_ne rfl))
    have t86 := p79 (t + 11) 1 (fun h => absurd h.2 (gz_ne rfl))
    have t87 := p79 39 5 (fun h => absurd h.2 (gz_ne rfl))
    have t88 := p79 1 18 (fun h => absurd h.2 (gz_ne rfl))
    have t89 := p79 39 2 (fun h => absurd h.2 (gz_ne rfl))
    have t90 := p79 41 0 (fun h => absurd h.2 (gz_ne rfl))
    have f91 := (show 0 ≤ I78 t 11 ∧ I78 t 11 ≤ 64 from gc_in2 hI78 R_t rfl rfl rfl)
    have KLT_I78 := gc_LT_fr KLT_I50 (p79 23 5 (fun h => absurd h.2 (gz_ne rfl))) (p79 23 6 (fun h => absurd h.2 (gz_ne rfl))) (p79 23 7 (fun h => absurd h.2 (gz_ne rfl))) (fun k => p79 24 k (fun h => absurd h.1 N_24__t))
    have KTK_I78 := gc_TK_fr KTK_I50 (p79 23 1 (fun h => absurd h.2 (gz_ne rfl))) (p79 23 5 (fun h => absurd h.2 (gz_ne rfl))) (p79 23 6 (fun h => absurd h.2 (gz_ne rfl))) (p79 23 7 (fun h => absurd h.2 (gz_ne rfl)))
    have KRW_I78 := gc_row_fr KRW_I50 (fun k => p79 41 k (fun h => absurd h.1 N_41__t))
    have KPK_I78 := gc_PKs_fr KPK_I50 (p79 1 17 (fun h => absurd h.2 (gz_ne rfl))) (fun k => p79 20 k (fun h => absurd h.1 N_20__t))
    have A92 := gc_AT_I A76 (p79 23 1 (fun h => absurd h.2 (gz_ne rfl))) (p79 23 5 (fun h => absurd h.2 (gz_ne rfl))) (p79 23 6 (fun h => absurd h.2 (gz_ne rfl))) (p79 23 7 (fun h => absurd h.2 (gz_ne rfl))) (p79 23 8 (fun h => absurd h.2 (gz_ne rfl))) (fun k => p79 24 k (fun h => absurd h.1 N_24__t))
    show gv_X _ _ (244, [(0, .inr (.inr (some 39))), (1, .inl v1_15)], [], sh, gc_h sh I78 J31 A)
    refine gv_run 1 true hD (pc' := 245) (lv' := [(0, .inr (.inr (some 39))), (1, .inl v1_15)]) (st' := [.inl 1]) (h' := gc_h sh I78 J31 A) (C := (True ∧ True)) rfl ⟨trivial, trivial⟩ ?_
    exact gv_zret hD rfl (by exact gz_m 37 (by omega)) ⟨I78, J31, rfl, hI78, FI78, FJ31, KLT_I78, KTK_I78, ⟨_, rfl, by exact gz_m 38 (by omega), by exact gz_m 39 (by omega), by exact gz_m 40 (by omega), by exact gz_m 41 (by omega), by exact gz_m 42 (by omega), by exact gz_m 43 (by omega), by exact gz_m 44 (by omega), (Or.inr (by have e9 : I78 (t + 15) (Int.toNat (11 * I t 11)) = v1_15 := ((p79 (t + 15) (Int.toNat (11 * I t 11)) (fun h => absurd h.1 (by exact gz_m 45 (by omega))))).trans (by have h9 := q49 0 (by exact gz_m 46 (by omega)); rw [show Int.toNat (((I30 t 11) * 11)) + 0 = Int.toNat (11 * I t 11) from by exact gz_m 47 (by omega), show Int.toNat 0 + 0 = 0 from rfl] at h9; exact gz_m 48 (by omega)); rw [e9]; have h7 : 0 ≤ I 12 (Int.toNat v1_15) ∧ I 12 (Int.toNat v1_15) ≤ 4 := gc_in hI R_12 rfl rfl; exact gz_m 49 (by omega))), KPK_I78, (Or.inl ⟨by exact gz_m 50 (by omega), by rw [show (gs_wd β η Ir Jr (I 39 5) p9) = (gs_done β η (if Ir 18 (Int.toNat (Ir 0 6)) < 64 then 1 else 0) (I 39 5) p_15) from e7_15]; exact ⟨by exact gz_m 51 (by omega), A92, by exact gz_m 52 (by omega), ⟨gs_k7_kp (gs_k7_kp e8_15 (gc_PKs_fr gc_PKs_rf ((g29 1 17).resolve_left (by exact gz_m 53 (by omega))) (fun k => ((g29 20 k).resolve_left (by exact gz_m 54 (by omega))))) (fun j hj => ((g29 41 j).resolve_left (by exact gz_m 55 (by omega))))) (gc_PKs_fr (gc_PKs_fr gc_PKs_rf (p49 1 17 (fun h => absurd h.1 (by exact gz_m 56 (by omega)))) (fun k => (p49 20 k (fun h => absurd h.1 (by exact gz_m 57 (by omega)))))) (p79 1 17 (by exact gz_m 58 (by omega))) (fun k => (p79 20 k (by exact gz_m 59 (by omega))))) (fun j hj => ((p79 (t + 15) (Int.toNat (11 * I t 11) + j) (by exact gz_m 60 (by omega)))).trans ((congrArg (I50 (t + 15)) (show Int.toNat (11 * I t 11) + j = Int.toNat (I30 t 11 * 11) + j by exact gz_m 61 (by omega))).trans ((q49 j (by exact gz_m 62 (by omega))).trans (congrArg (I30 41) (show Int.toNat 0 + j = j by exact gz_m 63 (by omega)))))), (fun j hj => ((p79 (t + 15) j (by exact gz_m 64 (by omega)))).trans ((p49 (t + 15) j (fun h => hj (by have h9 := h.2; exact gz_m 65 (by omega)))).trans (((g29 (t + 15) j).resolve_left (by exact gz_m 66 (by omega))).trans (e9_15.2 j))))⟩⟩⟩)⟩⟩
  · show gv_X _ _ (202, [(0, .inr (.inr (some 39))), (1, .inl v1_15)], [], sh, gc_h sh I30 J31 A)
    have V93 := q29.2.2.2.2.2
    rw [show I13 39 5 = I 39 5 from by exact gz_m 67 (by omega)] at V93
    rw [show (if s1_15 = 0 then (1 : Int) else 0) = (if Ir 18 (Int.toNat (Ir 0 6)) < 64 then 1 else 0) from gs_rm (by exact gz_m 68 (by omega))] at V93
    obtain ⟨u93, u93_⟩ := gs_or0 V93 (by exact gz_m 69 (by omega))
    refine gv_run 1 true hD (pc' := 203) (lv' := [(0, .inr (.inr (some 39))), (1, .inl v1_15)]) (st' := [.inl 0]) (h' := gc_h sh I30 J31 A) (C := (True ∧ True)) rfl ⟨trivial, trivial⟩ ?_
    exact gv_zret hD rfl (by exact gz_m 70 (by omega)) ⟨I30, J31, rfl, hI30, FI30, FJ31, KLT_I30, KTK_I30, ⟨_, rfl, by exact gz_m 71 (by omega), by exact gz_m 72 (by omega), by exact gz_m 73 (by omega), by exact gz_m 74 (by omega), by exact gz_m 75 (by omega), by exact gz_m 76 (by omega), by exact gz_m 77 (by omega), (Or.inl (by exact gz_m 78 (by omega))), KPK_I30, (Or.inr ⟨by exact gz_m 79 (by omega), by rw [e7_15]; unfold gs_wd6; exact ⟨by exact gz_m 80 (by omega), by exact gz_m 81 (by omega), fun j => (((g29 (t + 15) j).resolve_left (by exact gz_m 82 (by omega))).trans (e9_15.2 j))⟩⟩)⟩⟩
set_option maxHeartbeats 8000000 in
set_option maxRecDepth 100000 in
theorem d_X6_readWord_a_p {ws0 : List Cond} {tb : String → gz_T} (hws : gc_Ws ws0) (htb : gc_tbs tb) (sh : gz_Sh) (ro : Nat → Nat) (I : gr_I) (J : gr_J) (A : gc_A) (hI : gc_Inv ro I) (t : Nat) (B : Int) (β : Int → Int) (η : Int) (p9 : Int) (Ir : gr_I) (Jr : gr_J)  (hb : gc_Base sh ro A) (h_t : gc_isTongue sh ro A t) (G_t : 144 ≤ t)  (x0 : B ≤ 1280 ∧ I 1 17 + I 23 1 ≤ B + I 23 5) (x1 : gc_AT β η p9 23 I J) (x2 : 0 ≤ p9) (x3 : I 1 18 = 0) (x4 : I t 11 = Ir 18 (Int.toNat (Ir 0 6))) (x5 : gs_AR Ir I) (x6 : I 4 1 = Ir 0 3) (x7 : gs_NA (I 4 1) (J 5) (Jr 3)) (x8 : I (t + 11) 1 = Ir 17 (Int.toNat (Ir 0 6))) (x9 : gs_NA (I (t + 11) 1) (J (t + 12)) (fun k => Jr 23 (Int.toNat (24 * Ir 0 6 + (k : Int))))) (x10 : I (t + 3) 1 = Ir 14 (Int.toNat (Ir 0 6))) (x11 : gs_NA (I (t + 3) 1) (J (t + 4)) (fun k => Jr 21 (Int.toNat (48 * Ir 0 6 + (k : Int))))) (x12 : gs_VR Ir I t) (x13 : I 39 2 = (t : Int)) (KLT_I : gc_LT I) (KTK_I : gc_TK I) : ∃ r h', gz_Ev ws0 tb 5 (yX6_readWord, cX6_readWord, 2, (some .boolean)) [.inr (.inr (some 39))] sh (gc_h sh I J A) r sh h' 0 0 ∧ (∃ (I' : gr_I) (J' : gr_J), h' = gc_h sh I' J' A ∧ gc_Inv ro I' ∧ (∀ q j : Nat, ((q = 39 ∧ j = 3) ∨ (q = 39 ∧ j = 4) ∨ (q = 23 ∧ j = 5) ∨ (q = 23 ∧ j = 6) ∨ (q = 23 ∧ j = 7) ∨ (q = 23 ∧ j = 8) ∨ (q = 1 ∧ j = 17) ∨ (q = 1 ∧ j = 18) ∨ q = 20 ∨ (q = 39 ∧ j = 6) ∨ (q = 39 ∧ j = 7) ∨ q = 41 ∨ (q = (t + 15) ∧ (11 * I t 11 ≤ (j : Int))) ∨ (q = t ∧ j = 11)) ∨ I' q j = I q j) ∧ (∀ q j : Nat, ((q = 23 ∧ j = 9)) ∨ J' q j = J q j) ∧ gc_LT I' ∧ gc_TK I' ∧ (∃ z : Int, r = some (.inl z) ∧ 0 ≤ z ∧ z ≤ 1 ∧ (I' 23 1 = I 23 1) ∧ (I 23 5 ≤ I' 23 5) ∧ (B ≤ 1280 ∧ I' 1 17 + I' 23 1 ≤ B + I' 23 5) ∧ (z = 0 ∨ I' t 11 = I t 11 + 1) ∧ (z = 1 ∨ I' t 11 = I t 11) ∧ (z = 0 ∨ (I 12 (Int.toNat (I' (t + 15) (Int.toNat (11 * I t 11)))) = 0 ∧ I' (t + 15) (Int.toNat (11 * I t 11)) < I 4 1)) ∧ (gc_PKs I I') ∧ (gs_Or z (0 ≤ (gs_wd β η Ir Jr (I 39 5) p9) ∧ gc_AT β η (gs_wd β η Ir Jr (I 39 5) p9) 23 I' J' ∧ I' 1 18 = 0 ∧ gs_Cwd β η Ir Jr I t p9 I') ((gs_wd β η Ir Jr (I 39 5) p9) < 0 ∧ I' 39 4 = -1 - (gs_wd β η Ir Jr (I 39 5) p9) ∧ ∀ j, I' (t + 15) j = I (t + 15) j)))) := by
  have FI : ∀ q j : Nat, ((q = 39 ∧ j = 3) ∨ (q = 39 ∧ j = 4) ∨ (q = 23 ∧ j = 5) ∨ (q = 23 ∧ j = 6) ∨ (q = 23 ∧ j = 7) ∨ (q = 23 ∧ j = 8) ∨ (q = 1 ∧ j = 17) ∨ (q = 1 ∧ j = 18) ∨ q = 20 ∨ (q = 39 ∧ j = 6) ∨ (q = 39 ∧ j = 7) ∨ q = 41 ∨ (q = (t + 15) ∧ (11 * I t 11 ≤ (j : Int))) ∨ (q = t ∧ j = 11)) ∨ I q j = I q j := fun _ _ => Or.inr rfl
  have FJ : ∀ q j : Nat, ((q = 23 ∧ j = 9)) ∨ J q j = J q j := fun _ _ => Or.inr rfl
  have A_1_1 : A 1 1 = some 4 := gc_bA_1_1 hb
  have A_1_7 : A 1 7 = some 12 := gc_bA_1_7 hb
  have A_39_0 : A 39 0 = some 1 := gc_bA_39_0 hb
  have A_39_1 : A 39 1 = some 23 := gc_bA_39_1 hb
  have A_39_10 : A 39 10 = some 41 := gc_bA_39_10 hb
  have B_1 : 1 < 1000000 := by decide
  have B_12 : 12 < 1000000 := by decide
  have B_23 : 23 < 1000000 := by decide
  have B_39 : 39 < 1000000 := by decide
  have B_4 : 4 < 1000000 := by decide
  have B_41 : 41 < 1000000 := by decide
  have R_1 : ro 1 = 22 := gc_bR_1 hb
  have R_12 : ro 12 = 26 := gc_bR_12 hb
  have R_23 : ro 23 = 3 := gc_bR_23 hb
  have R_39 : ro 39 = 42 := gc_bR_39 hb
  have R_4 : ro 4 = 11 := gc_bR_4 hb
  have R_41 : ro 41 = 0 := gc_bR_41 hb
  have S_1 : sh[1]? = some (false, 8, 21) := gc_bS_1 hb
  have S_12 : sh[12]? = some (true, 1, 96) := gc_bS_12 hb
  have S_23 : sh[23]? = some (false, 9, 10) := gc_bS_23 hb
  have S_39 : sh[39]? = some (false, 6, 19) := gc_bS_39 hb
  have S_4 : sh[4]? = some (false, 4, 2) := gc_bS_4 hb
  have S_41 : sh[41]? = some (true, 1, 25) := gc_bS_41 hb
  obtain ⟨S_t, R_t, B_t, A_t_0, h_t_1, A_t_1, h_t_3, A_t_2, S_t_5, R_t_5, B_t_5, A_t_3, S_t_6, R_t_6, B_t_6, A_t_4, h_t_7, A_t_5, S_t_9, R_t_9, B_t_9, A_t_7, S_t_10, R_t_10, B_t_10, A_t_8, h_t_11, A_t_9, S_t_13, R_t_13, B_t_13, A_t_10, S_t_14, R_t_14, B_t_14, A_t_12, S_t_15, R_t_15, B_t_15, A_t_14, S_t_16, R_t_16, B_t_16, A_t_15, h_t_17⟩ := id h_t
  obtain ⟨S_t_1, R_t_1, B_t_1, A_t_1_0, S_t_1_1, R_t_1_1, B_t_1_1, Q0_t_1, Q1_t_1, Q2_t_1⟩ := id h_t_1
  obtain ⟨S_t_3, R_t_3, B_t_3, A_t_3_0, S_t_3_1, R_t_3_1, B_t_3_1, Q0_t_3, Q1_t_3, Q2_t_3⟩ := id h_t_3
  obtain ⟨S_t_7, R_t_7, B_t_7, A_t_7_0, S_t_7_1, R_t_7_1, B_t_7_1, Q0_t_7, Q1_t_7, Q2_t_7⟩ := id h_t_7
  obtain ⟨S_t_11, R_t_11, B_t_11, A_t_11_0, S_t_11_1, R_t_11_1, B_t_11_1, Q0_t_11, Q1_t_11, Q2_t_11⟩ := id h_t_11
  obtain ⟨S_t_17, R_t_17, B_t_17, A_t_17_0, S_20, R_20, B_20, A_t_17_1, S_t_17_1, R_t_17_1, B_t_17_1, A_t_17_2, S_t_17_2, R_t_17_2, B_t_17_2, A_t_17_3, S_t_17_3, R_t_17_3, B_t_17_3, A_t_17_4, S_t_17_4, R_t_17_4, B_t_17_4, A_t_17_5, S_t_17_5, R_t_17_5, B_t_17_5, S_t_17_6, R_t_17_6, B_t_17_6, S_t_17_7, R_t_17_7, B_t_17_7⟩ := id h_t_17
  have hD : gv_D (gc_E6 ws0 tb 4 (yX6_readWord, cX6_readWord, 2, (some .boolean)) kX6_readWord) := gq_of oX6_readWord
  refine gc_ev6 (d := 4) (l := kX6_readWord) (Po := fun r h' => (∃ (I' : gr_I) (J' : gr_J), h' = gc_h sh I' J' A ∧ gc_Inv ro I' ∧ (∀ q j : Nat, ((q = 39 ∧ j = 3) ∨ (q = 39 ∧ j = 4) ∨ (q = 23 ∧ j = 5) ∨ (q = 23 ∧ j = 6) ∨ (q = 23 ∧ j = 7) ∨ (q = 23 ∧ j = 8) ∨ (q = 1 ∧ j = 17) ∨ (q = 1 ∧ j = 18) ∨ q = 20 ∨ (q = 39 ∧ j = 6) ∨ (q = 39 ∧ j = 7) ∨ q = 41 ∨ (q = (t + 15) ∧ (11 * I t 11 ≤ (j : Int))) ∨ (q = t ∧ j = 11)) ∨ I' q j = I q j) ∧ (∀ q j : Nat, ((q = 23 ∧ j = 9)) ∨ J' q j = J q j) ∧ gc_LT I' ∧ gc_TK I' ∧ (∃ z : Int, r = some (.inl z) ∧ 0 ≤ z ∧ z ≤ 1 ∧ (I' 23 1 = I 23 1) ∧ (I 23 5 ≤ I' 23 5) ∧ (B ≤ 1280 ∧ I' 1 17 + I' 23 1 ≤ B + I' 23 5) ∧ (z = 0 ∨ I' t 11 = I t 11 + 1) ∧ (z = 1 ∨ I' t 11 = I t 11) ∧ (z = 0 ∨ (I 12 (Int.toNat (I' (t + 15) (Int.toNat (11 * I t 11)))) = 0 ∧ I' (t + 15) (Int.toNat (11 * I t 11)) < I 4 1)) ∧ (gc_PKs I I') ∧ (gs_Or z (0 ≤ (gs_wd β η Ir Jr (I 39 5) p9) ∧ gc_AT β η (gs_wd β η Ir Jr (I 39 5) p9) 23 I' J' ∧ I' 1 18 = 0 ∧ gs_Cwd β η Ir Jr I t p9 I') ((gs_wd β η Ir Jr (I 39 5) p9) < 0 ∧ I' 39 4 = -1 - (gs_wd β η Ir Jr (I 39 5) p9) ∧ ∀ j, I' (t + 15) j = I (t + 15) j))))) htb rfl (Nat.le_of_ble_eq_true rfl) ?_
  have N_23__t_15 : ¬ (23 = (t + 15)) := by exact gz_m 0 (by omega)
  have N_24__t_15 : ¬ (24 = (t + 15)) := by exact gz_m 1 (by omega)
  have N_41__t_15 : ¬ (41 = (t + 15)) := by exact gz_m 2 (by omega)
  have N_1__t_15 : ¬ (1 = (t + 15)) := by exact gz_m 3 (by omega)
  have N_20__t_15 : ¬ (20 = (t + 15)) := by exact gz_m 4 (by omega)
  have N_4__t_15 : ¬ (4 = (t + 15)) := by exact gz_m 5 (by omega)
  have N_t_11__t_15 : ¬ ((t + 11) = (t + 15)) := by exact gz_m 6 (by omega)
  have N_t__t_15 : ¬ (t = (t + 15)) := by exact gz_m 7 (by omega)
  have N_39__t_15 : ¬ (39 = (t + 15)) := by exact gz_m 8 (by omega)
  have N_24__t : ¬ (24 = t) := by exact gz_m 9 (by omega)
  have N_41__t : ¬ (41 = t) := by exact gz_m 10 (by omega)
  have N_20__t : ¬ (20 = t) := by exact gz_m 11 (by omega)
  have N_t_11__41 : ¬ ((t + 11) = 41) := by exact gz_m 12 (by omega)
  have N_t__41 : ¬ (t = 41) := by exact gz_m 13 (by omega)
  have N_t_11__20 : ¬ ((t + 11) = 20) := by exact gz_m 14 (by omega)
  have N_t__20 : ¬ (t = 20) := by exact gz_m 15 (by omega)
  have KPK_I : gc_PKs I I := gc_PKs_rf
  have t1 := gc_TK_mo KTK_I
  have f2 := (gc_b_3_1 hI R_23)
  have f3 := (gc_b_3_5 hI R_23)
  have f4 := (gc_b_3_6 hI R_23)
  have f5 := (gc_b_3_7 hI R_23)
  have f6 := (gc_b_22_17 hI R_1)
  have f7 := (gc_b_11_1 hI R_4)
  have f8 := (show 0 ≤ I (t + 11) 1 ∧ I (t + 11) 1 ≤ 24 from gc_in2 hI R_t_11 rfl rfl rfl)
  have f9 := (show 0 ≤ I t 11 ∧ I t 11 ≤ 64 from gc_in2 hI R_t rfl rfl rfl)
  have f10 := (gc_b_42_5 hI R_39)
  have f11 := (gc_b_22_18 hI R_1)
  have f12 := (gc_b_42_2 hI R_39)
  have tAT := gc_AT_l x1
  have L196 : ∀ (I13 : gr_I) (J14 : gr_J) (v1_15 : Int) (s1_15 : Int) (p_15 : Int), gc_Inv ro I13 → (∀ q j : Nat, ((q = 39 ∧ j = 3) ∨ (q = 39 ∧ j = 4) ∨ (q = 23 ∧ j = 5) ∨ (q = 23 ∧ j = 6) ∨ (q = 23 ∧ j = 7) ∨ (q = 23 ∧ j = 8) ∨ (q = 1 ∧ j = 17) ∨ (q = 1 ∧ j = 18) ∨ q = 20 ∨ (q = 39 ∧ j = 6) ∨ (q = 39 ∧ j = 7) ∨ q = 41 ∨ (q = (t + 15) ∧ (11 * I t 11 ≤ (j : Int))) ∨ (q = t ∧ j = 11)) ∨ I13 q j = I q j) → (∀ q j : Nat, ((q = 23 ∧ j = 9)) ∨ J14 q j = J q j) → gc_LT I13 → gc_TK I13 → gc_row 41 11 gc_fW I13 → gc_PKs I I13 → ((0 ≤ v1_15 ∧ v1_15 ≤ 95) ∧ (0 ≤ s1_15 ∧ s1_15 ≤ 1) ∧ (s1_15 = 1 ∨ I13 t 11 < 64) ∧ (I13 t 11 = I t 11) ∧ (I13 41 0 = v1_15) ∧ (I 12 (Int.toNat v1_15) ≤ 0) ∧ (v1_15 < I 4 1) ∧ (0 ≤ p_15) ∧ (I13 t 11 = I t 11) ∧ ((s1_15 = 1 ∧ 64 ≤ I13 t 11) ∨ (s1_15 = 0 ∧ I13 t 11 < 64)) ∧ (I13 1 18 = 0) ∧ (I13 23 1 = I 23 1) ∧ (I 23 5 ≤ I13 23 5) ∧ (B ≤ 1280 ∧ I13 1 17 + I13 23 1 ≤ B + I13 23 5) ∧ (I13 39 2 = (t : Int))) → (gc_AT β η p_15 23 I13 J14) → ((gs_wd β η Ir Jr (I 39 5) p9) = gs_wd6 β η Ir (I 39 5) p_15) → (gs_k7 β η Ir Jr p9 I13 (I13 41)) → ((I13 39 5 = I 39 5) ∧ (∀ k, I13 (t + 15) k = I (t + 15) k)) → gv_X (gc_E6 ws0 tb 4 (yX6_readWord, cX6_readWord, 2, (some .boolean)) kX6_readWord) (gv_Q cX6_readWord (some .boolean) sh (fun r h' => (∃ (I' : gr_I) (J' : gr_J), h' = gc_h sh I' J' A ∧ gc_Inv ro I' ∧ (∀ q j : Nat, ((q = 39 ∧ j = 3) ∨ (q = 39 ∧ j = 4) ∨ (q = 23 ∧ j = 5) ∨ (q = 23 ∧ j = 6) ∨ (q = 23 ∧ j = 7) ∨ (q = 23 ∧ j = 8) ∨ (q = 1 ∧ j = 17) ∨ (q = 1 ∧ j = 18) ∨ q = 20 ∨ (q = 39 ∧ j = 6) ∨ (q = 39 ∧ j = 7) ∨ q = 41 ∨ (q = (t + 15) ∧ (11 * I t 11 ≤ (j : Int))) ∨ (q = t ∧ j = 11)) ∨ I' q j = I q j) ∧ (∀ q j : Nat, ((q = 23 ∧ j = 9)) ∨ J' q j = J q j) ∧ gc_LT I' ∧ gc_TK I' ∧ (∃ z : Int, r = some (.inl z) ∧ 0 ≤ z ∧ z ≤ 1 ∧ (I' 23 1 = I 23 1) ∧ (I 23 5 ≤ I' 23 5) ∧ (B ≤ 1280 ∧ I' 1 17 + I' 23 1 ≤ B + I' 23 5) ∧ (z = 0 ∨ I' t 11 = I t 11 + 1) ∧ (z = 1 ∨ I' t 11 = I t 11) ∧ (z = 0 ∨ (I 12 (Int.toNat (I' (t + 15) (Int.toNat (11 * I t 11)))) = 0 ∧ I' (t + 15) (Int.toNat (11 * I t 11)) < I 4 1)) ∧ (gc_PKs I I') ∧ (gs_Or z (0 ≤ (gs_wd β η Ir Jr (I 39 5) p9) ∧ gc_AT β η (gs_wd β η Ir Jr (I 39 5) p9) 23 I' J' ∧ I' 1 18 = 0 ∧ gs_Cwd β η Ir Jr I t p9 I') ((gs_wd β η Ir Jr (I 39 5) p9) < 0 ∧ I' 39 4 = -1 - (gs_wd β η Ir Jr (I 39 5) p9) ∧ ∀ j, I' (t + 15) j = I (t + 15) j)))))) (196, [(0, .inr (.inr (some 39))), (1, .inl v1_15)], [.inl s1_15, .inr (.inr (some 39))], sh, gc_h sh I13 J14 A) := d_X6_readWord_a_p_L196 (ws0 := ws0) (tb := tb) hws htb sh ro I J A hI t B β η p9 Ir Jr hb h_t G_t x0 x1 x2 x3 x4 x5 x6 x7 x8 x9 x10 x11 x12 x13 KLT_I KTK_I
  refine gv_run 2 true hD (pc' := 2) (lv' := [(0, .inr (.inr (some 39)))]) (st' := [.inr (.inr (some 39)), .inr (.inr (some 39))]) (h' := gc_h sh I J A) (C := ((True ∧ True) ∧ True)) rfl ⟨⟨trivial, trivial⟩, trivial⟩ ?_
  refine gv_get hD rfl rfl S_39 ⟨by decide, B_39⟩ (gc_hA S_39 rfl A_39_0) ?_
  show gv_X _ _ (5, [(0, .inr (.inr (some 39)))], [.inr (.inr (some 1)), .inr (.inr (some 39))], sh, gc_h sh I J A)
  refine gv_get hD rfl rfl S_1 ⟨by decide, B_1⟩ (gc_hA S_1 rfl A_1_1) ?_
  show gv_X _ _ (8, [(0, .inr (.inr (some 39)))], [.inr (.inr (some 4)), .inr (.inr (some 39))], sh, gc_h sh I J A)
  obtain ⟨r94, h94, E94, P94⟩ := d_X6_needKnown_p (ws0 := ws0) (tb := tb) hws htb sh ro I J A hI  96 11 β η p9 4 hb (gc_b4 hb)   x1 (by exact gz_m 83 (by omega)) 
  obtain ⟨I95, J96, rfl, hI95, g94, k94, ⟨z94, rfl, q94⟩⟩ := P94
  have FI95 := gc_frc (W := fun q j => (q = 39 ∧ j = 3) ∨ (q = 39 ∧ j = 4) ∨ (q = 23 ∧ j = 5) ∨ (q = 23 ∧ j = 6) ∨ (q = 23 ∧ j = 7) ∨ (q = 23 ∧ j = 8) ∨ (q = 1 ∧ j = 17) ∨ (q = 1 ∧ j = 18) ∨ q = 20 ∨ (q = 39 ∧ j = 6) ∨ (q = 39 ∧ j = 7) ∨ q = 41 ∨ (q = (t + 15) ∧ (11 * I t 11 ≤ (j : Int))) ∨ (q = t ∧ j = 11)) (V := fun q j => (q = 39 ∧ j = 3) ∨ (q = 39 ∧ j = 4)) FI (fun q j h => (h.elim (fun h => (Or.inl h)) (fun h => (Or.inr (Or.inl h))))) g94
  have t97 := (g94 23 1).resolve_left (fun h => h.elim (fun h => absurd h.2 (gz_ne rfl)) (fun h => absurd h.2 (gz_ne rfl)))
  have t98 := (g94 23 5).resolve_left (fun h => h.elim (fun h => absurd h.2 (gz_ne rfl)) (fun h => absurd h.2 (gz_ne rfl)))
  have t99 := (g94 23 6).resolve_left (fun h => h.elim (fun h => absurd h.2 (gz_ne rfl)) (fun h => absurd h.2 (gz_ne rfl)))
  have t100 := (g94 23 7).resolve_left (fun h => h.elim (fun h => absurd h.2 (gz_ne rfl)) (fun h => absurd h.2 (gz_ne rfl)))
  have t101 := (g94 1 17).resolve_left (fun h => h.elim (fun h => absurd h.2 (gz_ne rfl)) (fun h => absurd h.2 (gz_ne rfl)))
  have t102 := (g94 4 1).resolve_left (fun h => h.elim (fun h => absurd h.2 (gz_ne rfl)) (fun h => absurd h.2 (gz_ne rfl)))
  have t103 := (g94 (t + 11) 1).resolve_left (fun h => h.elim (fun h => absurd h.2 (gz_ne rfl)) (fun h => absurd h.2 (gz_ne rfl)))
  have t104 := (g94 t 11).resolve_left (fun h => h.elim (fun h => absurd h.2 (gz_ne rfl)) (fun h => absurd h.2 (gz_ne rfl)))
  have t105 := (g94 39 5).resolve_left (fun h => h.elim (fun h => absurd h.2 (gz_ne rfl)) (fun h => absurd h.2 (gz_ne rfl)))
  have t106 := (g94 1 18).resolve_left (fun h => h.elim (fun h => absurd h.2 (gz_ne rfl)) (fun h => absurd h.2 (gz_ne rfl)))
  have t107 := (g94 39 2).resolve_left (fun h => h.elim (fun h => absurd h.2 (gz_ne rfl)) (fun h => absurd h.2 (gz_ne rfl)))
  have t108 := (g94 41 0).resolve_left (fun h => h.elim (fun h => absurd h.2 (gz_ne rfl)) (fun h => absurd h.2 (gz_ne rfl)))
  obtain rfl : J = J96 := funext fun q => funext fun j => ((k94 q j).resolve_left id).symm
  have KLT_I95 := gc_LT_fr KLT_I ((g94 23 5).resolve_left (fun h => h.elim (fun h => absurd h.2 (gz_ne rfl)) (fun h => absurd h.2 (gz_ne rfl)))) ((g94 23 6).resolve_left (fun h => h.elim (fun h => absurd h.2 (gz_ne rfl)) (fun h => absurd h.2 (gz_ne rfl)))) ((g94 23 7).resolve_left (fun h => h.elim (fun h => absurd h.2 (gz_ne rfl)) (fun h => absurd h.2 (gz_ne rfl)))) (fun k => (g94 24 k).resolve_left (fun h => h.elim (fun h => absurd h.1 (gz_ne rfl)) (fun h => absurd h.1 (gz_ne rfl))))
  have KTK_I95 := gc_TK_fr KTK_I ((g94 23 1).resolve_left (fun h => h.elim (fun h => absurd h.2 (gz_ne rfl)) (fun h => absurd h.2 (gz_ne rfl)))) ((g94 23 5).resolve_left (fun h => h.elim (fun h => absurd h.2 (gz_ne rfl)) (fun h => absurd h.2 (gz_ne rfl)))) ((g94 23 6).resolve_left (fun h => h.elim (fun h => absurd h.2 (gz_ne rfl)) (fun h => absurd h.2 (gz_ne rfl)))) ((g94 23 7).resolve_left (fun h => h.elim (fun h => absurd h.2 (gz_ne rfl)) (fun h => absurd h.2 (gz_ne rfl))))
  have KPK_I95 := gc_PKs_fr KPK_I ((g94 1 17).resolve_left (fun h => h.elim (fun h => absurd h.2 (gz_ne rfl)) (fun h => absurd h.2 (gz_ne rfl)))) (fun k => (g94 20 k).resolve_left (fun h => h.elim (fun h => absurd h.1 (gz_ne rfl)) (fun h => absurd h.1 (gz_ne rfl))))
  have A109 := gc_AT_I x1 ((g94 23 1).resolve_left (fun h => h.elim (fun h => absurd h.2 (gz_ne rfl)) (fun h => absurd h.2 (gz_ne rfl)))) ((g94 23 5).resolve_left (fun h => h.elim (fun h => absurd h.2 (gz_ne rfl)) (fun h => absurd h.2 (gz_ne rfl)))) ((g94 23 6).resolve_left (fun h => h.elim (fun h => absurd h.2 (gz_ne rfl)) (fun h => absurd h.2 (gz_ne rfl)))) ((g94 23 7).resolve_left (fun h => h.elim (fun h => absurd h.2 (gz_ne rfl)) (fun h => absurd h.2 (gz_ne rfl)))) ((g94 23 8).resolve_left (fun h => h.elim (fun h => absurd h.2 (gz_ne rfl)) (fun h => absurd h.2 (gz_ne rfl)))) (fun k => (g94 24 k).resolve_left (fun h => h.elim (fun h => absurd h.1 (gz_ne rfl)) (fun h => absurd h.1 (gz_ne rfl))))
  have t110 := gc_AT_l A109
  refine gv_callV hD rfl (As := [.inr (.inr (some 4))]) (st := []) rfl B_39 S_39 rfl (gc_lV6 hws rfl) (Nat.le_of_ble_eq_true rfl) (gz_Ev_mono (d := 3) (by decide) E94) ?_
  show gv_X _ _ (11, [(0, .inr (.inr (some 39)))], [.inl z94], sh, gc_h sh I95 J A)
  refine gv_if_ne (t := 16) hD rfl rfl ⟨by exact gz_m 84 (by omega), by exact gz_m 85 (by omega)⟩ (fun c111 => ?_) (fun c111 => ?_)
  · show gv_X _ _ (16, [(0, .inr (.inr (some 39)))], [], sh, gc_h sh I95 J A)
    have u112 := gs_or1 q94.2.2.2 (by exact gz_m 86 (by omega))
    have L94 : gs_T β η p9 = 1 → gc_fd (J (4 + 1)) (gs_M β η p9) (Int.toNat (I 4 1)) = gs_lk Ir Jr 3 3 (gs_rn β η p9) := (fun h => by exact gs_NA_lk x7 x6 h)
    have t113 := L94 (by exact gz_m 87 (by omega))
    refine gv_run 1 true hD (pc' := 17) (lv' := [(0, .inr (.inr (some 39)))]) (st' := [.inr (.inr (some 39))]) (h' := gc_h sh I95 J A) (C := (True ∧ True)) rfl ⟨trivial, trivial⟩ ?_
    refine gv_get hD rfl rfl S_39 ⟨by decide, B_39⟩ (gc_hA S_39 rfl A_39_0) ?_
    show gv_X _ _ (20, [(0, .inr (.inr (some 39)))], [.inr (.inr (some 1))], sh, gc_h sh I95 J A)
    refine gv_get hD rfl rfl S_1 ⟨by decide, B_1⟩ (gc_hA S_1 rfl A_1_1) ?_
    show gv_X _ _ (23, [(0, .inr (.inr (some 39)))], [.inr (.inr (some 4))], sh, gc_h sh I95 J A)
    refine gv_run 1 true hD (pc' := 24) (lv' := [(0, .inr (.inr (some 39)))]) (st' := [.inr (.inr (some 39)), .inr (.inr (some 4))]) (h' := gc_h sh I95 J A) (C := (True ∧ True)) rfl ⟨trivial, trivial⟩ ?_
    refine gv_get hD rfl rfl S_39 ⟨by decide, B_39⟩ (gc_hA S_39 rfl A_39_1) ?_
    show gv_X _ _ (27, [(0, .inr (.inr (some 39)))], [.inr (.inr (some 23)), .inr (.inr (some 4))], sh, gc_h sh I95 J A)
    refine gv_get hD rfl rfl S_23 ⟨by decide, B_23⟩ (gc_hJ S_23 rfl) ?_
    show gv_X _ _ (30, [(0, .inr (.inr (some 39)))], [.inr (.inl (J 23 9)), .inr (.inr (some 4))], sh, gc_h sh I95 J A)
    obtain ⟨r114, h114, E114, P114⟩ := d_X4_find (ws0 := ws0) (tb := tb) hws htb sh ro I95 J A hI95 4 96 11 (J 23 9) (gc_b4 hb)     
    obtain ⟨rfl, ⟨z114, rfl, q114⟩⟩ := P114
    have t115 : z114 = gs_lk Ir Jr 3 3 (gs_rn β η p9) := q114.2.2.2.trans (by rw [gc_AT_m A109 (by exact gz_m 88 (by omega))]; exact (show gs_T β η p9 = 1 → gc_fd (J (4 + 1)) (gs_M β η p9) (Int.toNat (I95 4 1)) = gs_lk Ir Jr 3 3 (gs_rn β η p9) from (fun h => by rw [show I95 4 1 = I 4 1 from ((g94 4 1).resolve_left (by exact gz_m 89 (by omega)))]; exact gs_NA_lk x7 x6 h)) (by exact gz_m 90 (by omega)))
    have t116 : I95 12 (Int.toNat z114) = Ir 6 (Int.toNat (gs_lk Ir Jr 3 3 (gs_rn β η p9))) := by rw [← t115]; exact (((g94 12 (Int.toNat z114)).resolve_left (by exact gz_m 91 (by omega)))).trans (x5 z114 (by exact gz_m 92 (by omega)) (by exact gz_m 93 (by omega)))
    refine gv_callV hD rfl (As := [.inr (.inl (J 23 9))]) (st := []) rfl B_4 S_4 rfl (gc_lV6 hws rfl) (Nat.le_of_ble_eq_true rfl) (gz_Ev_mono (d := 1) (by decide) E114) ?_
    show gv_X _ _ (33, [(0, .inr (.inr (some 39)))], [.inl z114], sh, gc_h sh I95 J A)
    refine gv_run 2 true hD (pc' := 35) (lv' := [(1, .inl z114), (0, .inr (.inr (some 39)))]) (st' := [.inr (.inr (some 39))]) (h' := gc_h sh I95 J A) (C := ((True ∧ True) ∧ True)) rfl ⟨⟨trivial, trivial⟩, trivial⟩ ?_
    refine gv_get hD rfl rfl S_39 ⟨by decide, B_39⟩ (gc_hA S_39 rfl A_39_0) ?_
    show gv_X _ _ (38, [(1, .inl z114), (0, .inr (.inr (some 39)))], [.inr (.inr (some 1))], sh, gc_h sh I95 J A)
    refine gv_get hD rfl rfl S_1 ⟨by decide, B_1⟩ (gc_hA S_1 rfl A_1_7) ?_
    show gv_X _ _ (41, [(1, .inl z114), (0, .inr (.inr (some 39)))], [.inr (.inr (some 12))], sh, gc_h sh I95 J A)
    refine gv_run 1 true hD (pc' := 42) (lv' := [(1, .inl z114), (0, .inr (.inr (some 39)))]) (st' := [.inl z114, .inr (.inr (some 12))]) (h' := gc_h sh I95 J A) (C := (True ∧ True)) rfl ⟨trivial, trivial⟩ ?_
    have f117 := (gc_b_26 hI95 R_12 (Int.toNat z114))
    refine gv_iald hD rfl S_12 rfl ⟨by decide, B_12⟩ ⟨by exact gz_m 94 (by omega), by exact gz_m 95 (by omega)⟩ (gc_iI S_12 rfl) ?_
    show gv_X _ _ (43, [(1, .inl z114), (0, .inr (.inr (some 39)))], [.inl (I95 12 (Int.toNat z114))], sh, gc_h sh I95 J A)
    refine gv_if_le (t := 59) hD rfl rfl ⟨by exact gz_m 96 (by omega), by exact gz_m 97 (by omega)⟩ (fun c118 => ?_) (fun c118 => ?_)
    · show gv_X _ _ (59, [(1, .inl z114), (0, .inr (.inr (some 39)))], [], sh, gc_h sh I95 J A)
      have t119 := (FI95 12 (Int.toNat z114)).resolve_left (by exact gz_m 98 (by omega))
      refine gv_run 1 true hD (pc' := 60) (lv' := [(1, .inl z114), (0, .inr (.inr (some 39)))]) (st' := [.inr (.inr (some 39))]) (h' := gc_h sh I95 J A) (C := (True ∧ True)) rfl ⟨trivial, trivial⟩ ?_
      refine gv_get hD rfl rfl S_39 ⟨by decide, B_39⟩ (gc_hA S_39 rfl A_39_1) ?_
      show gv_X _ _ (63, [(1, .inl z114), (0, .inr (.inr (some 39)))], [.inr (.inr (some 23))], sh, gc_h sh I95 J A)
      have t121 := gc_TK_nx KTK_I95 (by exact gz_m 99 (by omega))
      have t122 := gc_TK_st KTK_I95 (by exact gz_m 100 (by omega))
      obtain ⟨r120, h120, E120, P120⟩ := d_X9_advance_p (ws0 := ws0) (tb := tb) hws htb sh ro I95 J A hI95 23 β η  (gc_b23 hb)    (by exact gz_m 101 (by omega)) A109.1.1 A109.1.2 
      obtain ⟨I123, J124, rfl, hI123, g120, k120, ⟨rfl, V120_0, V120_1, V120_2, V120_3, V120_4, q120⟩⟩ := P120
      have FI123 := gc_frc (W := fun q j => (q = 39 ∧ j = 3) ∨ (q = 39 ∧ j = 4) ∨ (q = 23 ∧ j = 5) ∨ (q = 23 ∧ j = 6) ∨ (q = 23 ∧ j = 7) ∨ (q = 23 ∧ j = 8) ∨ (q = 1 ∧ j = 17) ∨ (q = 1 ∧ j = 18) ∨ q = 20 ∨ (q = 39 ∧ j = 6) ∨ (q = 39 ∧ j = 7) ∨ q = 41 ∨ (q = (t + 15) ∧ (11 * I t 11 ≤ (j : Int))) ∨ (q = t ∧ j = 11)) (V := fun q j => (q = 23 ∧ j = 5) ∨ (q = 23 ∧ j = 6) ∨ (q = 23 ∧ j = 7) ∨ (q = 23 ∧ j = 8)) FI95 (fun q j h => (h.elim (fun h => (Or.inr (Or.inr (Or.inl h)))) (fun h => (h.elim (fun h => (Or.inr (Or.inr (Or.inr (Or.inl h))))) (fun h => (h.elim (fun h => (Or.inr (Or.inr (Or.inr (Or.inr (Or.inl h)))))) (fun h => (Or.inr (Or.inr (Or.inr (Or.inr (Or.inr (Or.inl h))))))))))))) g120
      have FJ124 := gc_frc (W := fun q j => (q = 23 ∧ j = 9)) (V := fun q j => (q = 23 ∧ j = 9)) FJ (fun q j h => h) k120
      have t125 := (g120 23 1).resolve_left (fun h => h.elim (fun h => absurd h.2 (gz_ne rfl)) (fun h => h.elim (fun h => absurd h.2 (gz_ne rfl)) (fun h => h.elim (fun h => absurd h.2 (gz_ne rfl)) (fun h => absurd h.2 (gz_ne rfl)))))
      have t126 := (g120 1 17).resolve_left (fun h => h.elim (fun h => absurd h.2 (gz_ne rfl)) (fun h => h.elim (fun h => absurd h.2 (gz_ne rfl)) (fun h => h.elim (fun h => absurd h.2 (gz_ne rfl)) (fun h => absurd h.2 (gz_ne rfl)))))
      have t127 := (g120 4 1).resolve_left (fun h => h.elim (fun h => absurd h.2 (gz_ne rfl)) (fun h => h.elim (fun h => absurd h.2 (gz_ne rfl)) (fun h => h.elim (fun h => absurd h.2 (gz_ne rfl)) (fun h => absurd h.2 (gz_ne rfl)))))
      have t128 := (g120 (t + 11) 1).resolve_left (fun h => h.elim (fun h => absurd h.2 (gz_ne rfl)) (fun h => h.elim (fun h => absurd h.2 (gz_ne rfl)) (fun h => h.elim (fun h => absurd h.2 (gz_ne rfl)) (fun h => absurd h.2 (gz_ne rfl)))))
      have t129 := (g120 t 11).resolve_left (fun h => h.elim (fun h => absurd h.2 (gz_ne rfl)) (fun h => h.elim (fun h => absurd h.2 (gz_ne rfl)) (fun h => h.elim (fun h => absurd h.2 (gz_ne rfl)) (fun h => absurd h.2 (gz_ne rfl)))))
      have t130 := (g120 39 5).resolve_left (fun h => h.elim (fun h => absurd h.1 (gz_ne rfl)) (fun h => h.elim (fun h => absurd h.2 (gz_ne rfl)) (fun h => h.elim (fun h => absurd h.2 (gz_ne rfl)) (fun h => absurd h.2 (gz_ne rfl)))))
      have t131 := (g120 1 18).resolve_left (fun h => h.elim (fun h => absurd h.2 (gz_ne rfl)) (fun h => h.elim (fun h => absurd h.2 (gz_ne rfl)) (fun h => h.elim (fun h => absurd h.2 (gz_ne rfl)) (fun h => absurd h.2 (gz_ne rfl)))))
      have t132 := (g120 39 2).resolve_left (fun h => h.elim (fun h => absurd h.2 (gz_ne rfl)) (fun h => h.elim (fun h => absurd h.2 (gz_ne rfl)) (fun h => h.elim (fun h => absurd h.2 (gz_ne rfl)) (fun h => absurd h.2 (gz_ne rfl)))))
      have t133 := (g120 41 0).resolve_left (fun h => h.elim (fun h => absurd h.2 (gz_ne rfl)) (fun h => h.elim (fun h => absurd h.2 (gz_ne rfl)) (fun h => h.elim (fun h => absurd h.2 (gz_ne rfl)) (fun h => absurd h.2 (gz_ne rfl)))))
      have f134 := (gc_b_3_5 hI123 R_23)
      have f135 := (gc_b_3_6 hI123 R_23)
      have f136 := (gc_b_3_7 hI123 R_23)
      have KLT_I123 : gc_LT I123 := q120.2.2.1
      have KPK_I123 := gc_PKs_fr KPK_I95 ((g120 1 17).resolve_left (fun h => h.elim (fun h => absurd h.2 (gz_ne rfl)) (fun h => h.elim (fun h => absurd h.2 (gz_ne rfl)) (fun h => h.elim (fun h => absurd h.2 (gz_ne rfl)) (fun h => absurd h.2 (gz_ne rfl)))))) (fun k => (g120 20 k).resolve_left (fun h => h.elim (fun h => absurd h.1 (gz_ne rfl)) (fun h => h.elim (fun h => absurd h.1 (gz_ne rfl)) (fun h => h.elim (fun h => absurd h.1 (gz_ne rfl)) (fun h => absurd h.1 (gz_ne rfl))))))
      have KTK_I123 : gc_TK I123 := And.intro V120_0 (And.intro V120_1 (And.intro V120_2 (And.intro V120_3 V120_4)))
      have t137 := gc_TK_mo KTK_I123
      clear V120_0 V120_1 V120_2 V120_3 V120_4
      have A138 := gc_AT_nx A109 q120.2.2.2
      have t139 := gc_AT_l A138
      refine gv_callV hD rfl (As := []) (st := []) rfl B_23 S_23 rfl (gc_lV6 hws rfl) (Nat.le_of_ble_eq_true rfl) (gz_Ev_mono (d := 2) (by decide) E120) ?_
      show gv_X _ _ (66, [(1, .inl z114), (0, .inr (.inr (some 39)))], [], sh, gc_h sh I123 J124 A)
      refine gv_run 2 true hD (pc' := 68) (lv' := [(1, .inl z114), (0, .inr (.inr (some 39)))]) (st' := [.inr (.inr (some 39)), .inr (.inr (some 39))]) (h' := gc_h sh I123 J124 A) (C := ((True ∧ True) ∧ True)) rfl ⟨⟨trivial, trivial⟩, trivial⟩ ?_
      refine gv_get hD rfl rfl S_39 ⟨by decide, B_39⟩ (gc_h5 (t := t) S_39 rfl (by exact gz_m 102 (by omega))) ?_
      show gv_X _ _ (71, [(1, .inl z114), (0, .inr (.inr (some 39)))], [.inr (.inr (some t)), .inr (.inr (some 39))], sh, gc_h sh I123 J124 A)
      refine gv_get hD rfl rfl S_t ⟨by decide, B_t⟩ (gc_hA S_t rfl A_t_8) ?_
      show gv_X _ _ (74, [(1, .inl z114), (0, .inr (.inr (some 39)))], [.inr (.inr (some (t + 11))), .inr (.inr (some 39))], sh, gc_h sh I123 J124 A)
      obtain ⟨r140, h140, E140, P140⟩ := d_X6_needKnown_p (ws0 := ws0) (tb := tb) hws htb sh ro I123 J124 A hI123  24 8 β η (gs_X β η p9) (t + 11) hb h_t_11   A138 (by exact gz_m 103 (by omega)) 
      obtain ⟨I141, J142, rfl, hI141, g140, k140, ⟨z140, rfl, q140⟩⟩ := P140
      have FI141 := gc_frc (W := fun q j => (q = 39 ∧ j = 3) ∨ (q = 39 ∧ j = 4) ∨ (q = 23 ∧ j = 5) ∨ (q = 23 ∧ j = 6) ∨ (q = 23 ∧ j = 7) ∨ (q = 23 ∧ j = 8) ∨ (q = 1 ∧ j = 17) ∨ (q = 1 ∧ j = 18) ∨ q = 20 ∨ (q = 39 ∧ j = 6) ∨ (q = 39 ∧ j = 7) ∨ q = 41 ∨ (q = (t + 15) ∧ (11 * I t 11 ≤ (j : Int))) ∨ (q = t ∧ j = 11)) (V := fun q j => (q = 39 ∧ j = 3) ∨ (q = 39 ∧ j = 4)) FI123 (fun q j h => (h.elim (fun h => (Or.inl h)) (fun h => (Or.inr (Or.inl h))))) g140
      have t143 := (g140 23 1).resolve_left (fun h => h.elim (fun h => absurd h.2 (gz_ne rfl)) (fun h => absurd h.2 (gz_ne rfl)))
      have t144 := (g140 23 5).resolve_left (fun h => h.elim (fun h => absurd h.2 (gz_ne rfl)) (fun h => absurd h.2 (gz_ne rfl)))
      have t145 := (g140 23 6).resolve_left (fun h => h.elim (fun h => absurd h.2 (gz_ne rfl)) (fun h => absurd h.2 (gz_ne rfl)))
      have t146 := (g140 23 7).resolve_left (fun h => h.elim (fun h => absurd h.2 (gz_ne rfl)) (fun h => absurd h.2 (gz_ne rfl)))
      have t147 := (g140 1 17).resolve_left (fun h => h.elim (fun h => absurd h.2 (gz_ne rfl)) (fun h => absurd h.2 (gz_ne rfl)))
      have t148 := (g140 4 1).resolve_left (fun h => h.elim (fun h => absurd h.2 (gz_ne rfl)) (fun h => absurd h.2 (gz_ne rfl)))
      have t149 := (g140 (t + 11) 1).resolve_left (fun h => h.elim (fun h => absurd h.2 (gz_ne rfl)) (fun h => absurd h.2 (gz_ne rfl)))
      have t150 := (g140 t 11).resolve_left (fun h => h.elim (fun h => absurd h.2 (gz_ne rfl)) (fun h => absurd h.2 (gz_ne rfl)))
      have t151 := (g140 39 5).resolve_left (fun h => h.elim (fun h => absurd h.2 (gz_ne rfl)) (fun h => absurd h.2 (gz_ne rfl)))
      have t152 := (g140 1 18).resolve_left (fun h => h.elim (fun h => absurd h.2 (gz_ne rfl)) (fun h => absurd h.2 (gz_ne rfl)))
      have t153 := (g140 39 2).resolve_left (fun h => h.elim (fun h => absurd h.2 (gz_ne rfl)) (fun h => absurd h.2 (gz_ne rfl)))
      have t154 := (g140 41 0).resolve_left (fun h => h.elim (fun h => absurd h.2 (gz_ne rfl)) (fun h => absurd h.2 (gz_ne rfl)))
      obtain rfl : J124 = J142 := funext fun q => funext fun j => ((k140 q j).resolve_left id).symm
      have KLT_I141 := gc_LT_fr KLT_I123 ((g140 23 5).resolve_left (fun h => h.elim (fun h => absurd h.2 (gz_ne rfl)) (fun h => absurd h.2 (gz_ne rfl)))) ((g140 23 6).resolve_left (fun h => h.elim (fun h => absurd h.2 (gz_ne rfl)) (fun h => absurd h.2 (gz_ne rfl)))) ((g140 23 7).resolve_left (fun h => h.elim (fun h => absurd h.2 (gz_ne rfl)) (fun h => absurd h.2 (gz_ne rfl)))) (fun k => (g140 24 k).resolve_left (fun h => h.elim (fun h => absurd h.1 (gz_ne rfl)) (fun h => absurd h.1 (gz_ne rfl))))
      have KTK_I141 := gc_TK_fr KTK_I123 ((g140 23 1).resolve_left (fun h => h.elim (fun h => absurd h.2 (gz_ne rfl)) (fun h => absurd h.2 (gz_ne rfl)))) ((g140 23 5).resolve_left (fun h => h.elim (fun h => absurd h.2 (gz_ne rfl)) (fun h => absurd h.2 (gz_ne rfl)))) ((g140 23 6).resolve_left (fun h => h.elim (fun h => absurd h.2 (gz_ne rfl)) (fun h => absurd h.2 (gz_ne rfl)))) ((g140 23 7).resolve_left (fun h => h.elim (fun h => absurd h.2 (gz_ne rfl)) (fun h => absurd h.2 (gz_ne rfl))))
      have KPK_I141 := gc_PKs_fr KPK_I123 ((g140 1 17).resolve_left (fun h => h.elim (fun h => absurd h.2 (gz_ne rfl)) (fun h => absurd h.2 (gz_ne rfl)))) (fun k => (g140 20 k).resolve_left (fun h => h.elim (fun h => absurd h.1 (gz_ne rfl)) (fun h => absurd h.1 (gz_ne rfl))))
      have A155 := gc_AT_I A138 ((g140 23 1).resolve_left (fun h => h.elim (fun h => absurd h.2 (gz_ne rfl)) (fun h => absurd h.2 (gz_ne rfl)))) ((g140 23 5).resolve_left (fun h => h.elim (fun h => absurd h.2 (gz_ne rfl)) (fun h => absurd h.2 (gz_ne rfl)))) ((g140 23 6).resolve_left (fun h => h.elim (fun h => absurd h.2 (gz_ne rfl)) (fun h => absurd h.2 (gz_ne rfl)))) ((g140 23 7).resolve_left (fun h => h.elim (fun h => absurd h.2 (gz_ne rfl)) (fun h => absurd h.2 (gz_ne rfl)))) ((g140 23 8).resolve_left (fun h => h.elim (fun h => absurd h.2 (gz_ne rfl)) (fun h => absurd h.2 (gz_ne rfl)))) (fun k => (g140 24 k).resolve_left (fun h => h.elim (fun h => absurd h.1 (gz_ne rfl)) (fun h => absurd h.1 (gz_ne rfl))))
      have t156 := gc_AT_l A155
      refine gv_callV hD rfl (As := [.inr (.inr (some (t + 11)))]) (st := []) rfl B_39 S_39 rfl (gc_lV6 hws rfl) (Nat.le_of_ble_eq_true rfl) (gz_Ev_mono (d := 3) (by decide) E140) ?_
      show gv_X _ _ (77, [(1, .inl z114), (0, .inr (.inr (some 39)))], [.inl z140], sh, gc_h sh I141 J124 A)
      refine gv_if_ne (t := 82) hD rfl rfl ⟨by exact gz_m 104 (by omega), by exact gz_m 105 (by omega)⟩ (fun c157 => ?_) (fun c157 => ?_)
      · show gv_X _ _ (82, [(1, .inl z114), (0, .inr (.inr (some 39)))], [], sh, gc_h sh I141 J124 A)
        have u158 := gs_or1 q140.2.2.2 (by exact gz_m 106 (by omega))
        have L140 : gs_T β η (gs_X β η p9) = 1 → gc_fd (J124 ((t + 11) + 1)) (gs_M β η (gs_X β η p9)) (Int.toNat (I123 (t + 11) 1)) = gs_lt Jr 23 (24 * Ir 0 6) (Ir 17 (Int.toNat (Ir 0 6))) (gs_rn β η (gs_X β η p9)) := (fun h => by rw [show I123 (t + 11) 1 = I (t + 11) 1 from (((g120 (t + 11) 1).resolve_left (by exact gz_m 107 (by omega))).trans ((g94 (t + 11) 1).resolve_left (by exact gz_m 108 (by omega)))), show J124 ((t + 11) + 1) = J ((t + 11) + 1) from funext fun j => ((k120 (t + 12) j).resolve_left (by exact gz_m 109 (by omega)))]; exact gs_NA_lt x9 x8 h)
        have t159 := L140 (by exact gz_m 110 (by omega))
        have t160 := (gc_b_26 hI R_12 (Int.toNat z114))
        refine gv_run 1 true hD (pc' := 83) (lv' := [(1, .inl z114), (0, .inr (.inr (some 39)))]) (st' := [.inr (.inr (some 39))]) (h' := gc_h sh I141 J124 A) (C := (True ∧ True)) rfl ⟨trivial, trivial⟩ ?_
        refine gv_get hD rfl rfl S_39 ⟨by decide, B_39⟩ (gc_hA S_39 rfl A_39_10) ?_
        show gv_X _ _ (86, [(1, .inl z114), (0, .inr (.inr (some 39)))], [.inr (.inr (some 41))], sh, gc_h sh I141 J124 A)
        refine gv_run 1 true hD (pc' := 87) (lv' := [(1, .inl z114), (0, .inr (.inr (some 39)))]) (st' := [.inl 0, .inr (.inr (some 41))]) (h' := gc_h sh I141 J124 A) (C := (True ∧ True)) rfl ⟨trivial, trivial⟩ ?_
        obtain ⟨I162, E161, hI162, g161, q161⟩ := gj_fill (ws0 := ws0) (tb := tb) sh ro I141 J124 A hI141 41 25 0 S_41 B_41 (by decide) ⟨by exact gz_m 111 (by omega), by exact gz_m 112 (by omega)⟩ (fun k => by rw [R_41]; exact ⟨by show (-2147483648) ≤ _; exact gz_m 113 (by omega), by show _ ≤ 2147483647; exact gz_m 114 (by omega)⟩)
        refine gv_callS hD rfl (As := [.inr (.inr (some 41)), .inl 0]) (st := []) rfl (gc_lS6 hws rfl) (Nat.le_of_ble_eq_true rfl) (gz_Ev_mono (d := 1) (by decide) E161) ?_
        have FI162 := gc_frc (W := fun q j => (q = 39 ∧ j = 3) ∨ (q = 39 ∧ j = 4) ∨ (q = 23 ∧ j = 5) ∨ (q = 23 ∧ j = 6) ∨ (q = 23 ∧ j = 7) ∨ (q = 23 ∧ j = 8) ∨ (q = 1 ∧ j = 17) ∨ (q = 1 ∧ j = 18) ∨ q = 20 ∨ (q = 39 ∧ j = 6) ∨ (q = 39 ∧ j = 7) ∨ q = 41 ∨ (q = (t + 15) ∧ (11 * I t 11 ≤ (j : Int))) ∨ (q = t ∧ j = 11)) (V := fun q j => q = 41) FI141 (fun q j h => (Or.inr (Or.inr (Or.inr (Or.inr (Or.inr (Or.inr (Or.inr (Or.inr (Or.inr (Or.inr (Or.inr (Or.inl h))))))))))))) g161
        have KLT_I162 := gc_LT_fr KLT_I141 ((g161 23 5).resolve_left (fun h => absurd h (gz_ne rfl))) ((g161 23 6).resolve_left (fun h => absurd h (gz_ne rfl))) ((g161 23 7).resolve_left (fun h => absurd h (gz_ne rfl))) (fun k => (g161 24 k).resolve_left (fun h => absurd h (gz_ne rfl)))
        have KTK_I162 := gc_TK_fr KTK_I141 ((g161 23 1).resolve_left (fun h => absurd h (gz_ne rfl))) ((g161 23 5).resolve_left (fun h => absurd h (gz_ne rfl))) ((g161 23 6).resolve_left (fun h => absurd h (gz_ne rfl))) ((g161 23 7).resolve_left (fun h => absurd h (gz_ne rfl)))
        have KPK_I162 := gc_PKs_fr KPK_I141 ((g161 1 17).resolve_left (fun h => absurd h (gz_ne rfl))) (fun k => (g161 20 k).resolve_left (fun h => absurd h (gz_ne rfl)))
        have KRW_I162 : gc_row 41 11 gc_fW I162 := gc_row_fill (z := 0) (fun j hj => q161 j (by exact gz_m 115 (by omega))) (fun j => by unfold gc_fW; exact gz_m 116 (by omega))
        have t164 := (g161 23 1).resolve_left (fun h => absurd h (gz_ne rfl))
        have t165 := (g161 23 5).resolve_left (fun h => absurd h (gz_ne rfl))
        have t166 := (g161 23 6).resolve_left (fun h => absurd h (gz_ne rfl))
        have t167 := (g161 23 7).resolve_left (fun h => absurd h (gz_ne rfl))
        have t168 := (g161 1 17).resolve_left (fun h => absurd h (gz_ne rfl))
        have t169 := (g161 4 1).resolve_left (fun h => absurd h (gz_ne rfl))
        have t170 := (g161 (t + 11) 1).resolve_left (fun h => absurd h N_t_11__41)
        have t171 := (g161 t 11).resolve_left (fun h => absurd h N_t__41)
        have t172 := (g161 39 5).resolve_left (fun h => absurd h (gz_ne rfl))
        have t173 := (g161 1 18).resolve_left (fun h => absurd h (gz_ne rfl))
        have t174 := (g161 39 2).resolve_left (fun h => absurd h (gz_ne rfl))
        have t175 := gc_TK_mo KTK_I162
        have f176 := (gc_b_3_1 hI162 R_23)
        have f177 := (gc_b_3_5 hI162 R_23)
        have f178 := (gc_b_3_6 hI162 R_23)
        have f179 := (gc_b_3_7 hI162 R_23)
        have f180 := (gc_b_22_17 hI162 R_1)
        have f181 := (gc_b_11_1 hI162 R_4)
        have f182 := (show 0 ≤ I162 (t + 11) 1 ∧ I162 (t + 11) 1 ≤ 24 from gc_in2 hI162 R_t_11 rfl rfl rfl)
        have f183 := (show 0 ≤ I162 t 11 ∧ I162 t 11 ≤ 64 from gc_in2 hI162 R_t rfl rfl rfl)
        have f184 := (gc_b_42_5 hI162 R_39)
        have f185 := (gc_b_22_18 hI162 R_1)
        have f186 := (gc_b_42_2 hI162 R_39)
        have A187 := gc_AT_I A155 ((g161 23 1).resolve_left (fun h => absurd h (gz_ne rfl))) ((g161 23 5).resolve_left (fun h => absurd h (gz_ne rfl))) ((g161 23 6).resolve_left (fun h => absurd h (gz_ne rfl))) ((g161 23 7).resolve_left (fun h => absurd h (gz_ne rfl))) ((g161 23 8).resolve_left (fun h => absurd h (gz_ne rfl))) (fun k => (g161 24 k).resolve_left (fun h => absurd h (gz_ne rfl)))
        show gv_X _ _ (90, [(1, .inl z114), (0, .inr (.inr (some 39)))], [], sh, gc_h sh I162 J124 A)
        refine gv_run 1 true hD (pc' := 91) (lv' := [(1, .inl z114), (0, .inr (.inr (some 39)))]) (st' := [.inr (.inr (some 39))]) (h' := gc_h sh I162 J124 A) (C := (True ∧ True)) rfl ⟨trivial, trivial⟩ ?_
        refine gv_get hD rfl rfl S_39 ⟨by decide, B_39⟩ (gc_hA S_39 rfl A_39_10) ?_
        show gv_X _ _ (94, [(1, .inl z114), (0, .inr (.inr (some 39)))], [.inr (.inr (some 41))], sh, gc_h sh I162 J124 A)
        refine gv_run 2 true hD (pc' := 96) (lv' := [(1, .inl z114), (0, .inr (.inr (some 39)))]) (st' := [.inl z114, .inl 0, .inr (.inr (some 41))]) (h' := gc_h sh I162 J124 A) (C := ((True ∧ True) ∧ True)) rfl ⟨⟨trivial, trivial⟩, trivial⟩ ?_
        refine gv_iast hD rfl S_41 ⟨by decide, B_41⟩ ⟨by exact gz_m 117 (by omega), by exact gz_m 118 (by omega)⟩ ?_
        refine gc_st (k := 0) hI162 S_41 rfl R_41 (lo := (-2147483648)) (hi := 2147483647) rfl rfl (by exact gz_m 119 (by omega)) (by exact gz_m 120 (by omega)) (fun I188 hI188 q189 p189 => ?_)
        have FI188 := gc_frs (W := fun q j => (q = 39 ∧ j = 3) ∨ (q = 39 ∧ j = 4) ∨ (q = 23 ∧ j = 5) ∨ (q = 23 ∧ j = 6) ∨ (q = 23 ∧ j = 7) ∨ (q = 23 ∧ j = 8) ∨ (q = 1 ∧ j = 17) ∨ (q = 1 ∧ j = 18) ∨ q = 20 ∨ (q = 39 ∧ j = 6) ∨ (q = 39 ∧ j = 7) ∨ q = 41 ∨ (q = (t + 15) ∧ (11 * I t 11 ≤ (j : Int))) ∨ (q = t ∧ j = 11)) FI162 (Or.inr (Or.inr (Or.inr (Or.inr (Or.inr (Or.inr (Or.inr (Or.inr (Or.inr (Or.inr (Or.inr (Or.inl rfl)))))))))))) p189
        have t190 := p189 23 1 (fun h => absurd h.2 (gz_ne rfl))
        have t191 := p189 23 5 (fun h => absurd h.2 (gz_ne rfl))
        have t192 := p189 23 6 (fun h => absurd h.2 (gz_ne rfl))
        have t193 := p189 23 7 (fun h => absurd h.2 (gz_ne rfl))
        have t194 := p189 1 17 (fun h => absurd h.2 (gz_ne rfl))
        have t195 := p189 4 1 (fun h => absurd h.2 (gz_ne rfl))
        have t196 := p189 (t + 11) 1 (fun h => absurd h.2 (gz_ne rfl))
        have t197 := p189 t 11 (fun h => absurd h.2 (gz_ne rfl))
        have t198 := p189 39 5 (fun h => absurd h.2 (gz_ne rfl))
        have t199 := p189 1 18 (fun h => absurd h.2 (gz_ne rfl))
        have t200 := p189 39 2 (fun h => absurd h.2 (gz_ne rfl))
        have KLT_I188 := gc_LT_fr KLT_I162 (p189 23 5 (fun h => absurd h.2 (gz_ne rfl))) (p189 23 6 (fun h => absurd h.2 (gz_ne rfl))) (p189 23 7 (fun h => absurd h.2 (gz_ne rfl))) (fun k => p189 24 k (fun h => absurd h.1 (gz_ne rfl)))
        have KTK_I188 := gc_TK_fr KTK_I162 (p189 23 1 (fun h => absurd h.2 (gz_ne rfl))) (p189 23 5 (fun h => absurd h.2 (gz_ne rfl))) (p189 23 6 (fun h => absurd h.2 (gz_ne rfl))) (p189 23 7 (fun h => absurd h.2 (gz_ne rfl)))
        have KRW_I188 := gc_row_st KRW_I162 p189 q189 (by unfold gc_fW; exact gz_m 121 (by omega))
        have KPK_I188 := gc_PKs_fr KPK_I162 (p189 1 17 (fun h => absurd h.2 (gz_ne rfl))) (fun k => p189 20 k (fun h => absurd h.1 (gz_ne rfl)))
        have A201 := gc_AT_I A187 (p189 23 1 (fun h => absurd h.2 (gz_ne rfl))) (p189 23 5 (fun h => absurd h.2 (gz_ne rfl))) (p189 23 6 (fun h => absurd h.2 (gz_ne rfl))) (p189 23 7 (fun h => absurd h.2 (gz_ne rfl))) (p189 23 8 (fun h => absurd h.2 (gz_ne rfl))) (fun k => p189 24 k (fun h => absurd h.1 (gz_ne rfl)))
        show gv_X _ _ (97, [(1, .inl z114), (0, .inr (.inr (some 39)))], [], sh, gc_h sh I188 J124 A)
        refine gv_run 1 true hD (pc' := 98) (lv' := [(1, .inl z114), (0, .inr (.inr (some 39)))]) (st' := [.inr (.inr (some 39))]) (h' := gc_h sh I188 J124 A) (C := (True ∧ True)) rfl ⟨trivial, trivial⟩ ?_
        refine gv_get hD rfl rfl S_39 ⟨by decide, B_39⟩ (gc_hA S_39 rfl A_39_10) ?_
        show gv_X _ _ (101, [(1, .inl z114), (0, .inr (.inr (some 39)))], [.inr (.inr (some 41))], sh, gc_h sh I188 J124 A)
        refine gv_run 2 true hD (pc' := 103) (lv' := [(1, .inl z114), (0, .inr (.inr (some 39)))]) (st' := [.inr (.inr (some 39)), .inl 1, .inr (.inr (some 41))]) (h' := gc_h sh I188 J124 A) (C := ((True ∧ True) ∧ True)) rfl ⟨⟨trivial, trivial⟩, trivial⟩ ?_
        refine gv_get hD rfl rfl S_39 ⟨by decide, B_39⟩ (gc_h5 (t := t) S_39 rfl (by exact gz_m 122 (by omega))) ?_
        show gv_X _ _ (106, [(1, .inl z114), (0, .inr (.inr (some 39)))], [.inr (.inr (some t)), .inl 1, .inr (.inr (some 41))], sh, gc_h sh I188 J124 A)
        refine gv_get hD rfl rfl S_t ⟨by decide, B_t⟩ (gc_hA S_t rfl A_t_8) ?_
        show gv_X _ _ (109, [(1, .inl z114), (0, .inr (.inr (some 39)))], [.inr (.inr (some (t + 11))), .inl 1, .inr (.inr (some 41))], sh, gc_h sh I188 J124 A)
        refine gv_run 1 true hD (pc' := 110) (lv' := [(1, .inl z114), (0, .inr (.inr (some 39)))]) (st' := [.inr (.inr (some 39)), .inr (.inr (some (t + 11))), .inl 1, .inr (.inr (some 41))]) (h' := gc_h sh I188 J124 A) (C := (True ∧ True)) rfl ⟨trivial, trivial⟩ ?_
        refine gv_get hD rfl rfl S_39 ⟨by decide, B_39⟩ (gc_hA S_39 rfl A_39_1) ?_
        show gv_X _ _ (113, [(1, .inl z114), (0, .inr (.inr (some 39)))], [.inr (.inr (some 23)), .inr (.inr (some (t + 11))), .inl 1, .inr (.inr (some 41))], sh, gc_h sh I188 J124 A)
        refine gv_get hD rfl rfl S_23 ⟨by decide, B_23⟩ (gc_hJ S_23 rfl) ?_
        show gv_X _ _ (116, [(1, .inl z114), (0, .inr (.inr (some 39)))], [.inr (.inl (J124 23 9)), .inr (.inr (some (t + 11))), .inl 1, .inr (.inr (some 41))], sh, gc_h sh I188 J124 A)
        have t202 := (show gc_fd (J124 ((t + 11) + 1)) (J124 23 9) (Int.toNat (I188 (t + 11) 1)) = gc_fd (J124 ((t + 11) + 1)) (J124 23 9) (Int.toNat (I141 (t + 11) 1)) from by rw [show I188 (t + 11) 1 = I141 (t + 11) 1 from by exact gz_m 123 (by omega)])
        obtain ⟨r203, h203, E203, P203⟩ := d_X4_find (ws0 := ws0) (tb := tb) hws htb sh ro I188 J124 A hI188 (t + 11) 24 8 (J124 23 9) h_t_11     
        obtain ⟨rfl, ⟨z203, rfl, q203⟩⟩ := P203
        have t204 : z203 = gs_lt Jr 23 (24 * Ir 0 6) (Ir 17 (Int.toNat (Ir 0 6))) (gs_rn β η (gs_X β η p9)) := q203.2.2.2.trans (by rw [gc_AT_m A201 (by exact gz_m 124 (by omega))]; exact (show gs_T β η (gs_X β η p9) = 1 → gc_fd (J124 ((t + 11) + 1)) (gs_M β η (gs_X β η p9)) (Int.toNat (I188 (t + 11) 1)) = gs_lt Jr 23 (24 * Ir 0 6) (Ir 17 (Int.toNat (Ir 0 6))) (gs_rn β η (gs_X β η p9)) from (fun h => by rw [show I188 (t + 11) 1 = I (t + 11) 1 from (((((p189 (t + 11) 1 (by exact gz_m 125 (by omega))).trans ((g161 (t + 11) 1).resolve_left (by exact gz_m 126 (by omega)))).trans ((g140 (t + 11) 1).resolve_left (by exact gz_m 127 (by omega)))).trans ((g120 (t + 11) 1).resolve_left (by exact gz_m 128 (by omega)))).trans ((g94 (t + 11) 1).resolve_left (by exact gz_m 129 (by omega)))), show J124 ((t + 11) + 1) = J ((t + 11) + 1) from funext fun j => ((k120 (t + 12) j).resolve_left (by exact gz_m 130 (by omega)))]; exact gs_NA_lt x9 x8 h)) (by exact gz_m 131 (by omega)))
        refine gv_callV hD rfl (As := [.inr (.inl (J124 23 9))]) (st := [.inl 1, .inr (.inr (some 41))]) rfl B_t_11 S_t_11 rfl (gc_lV6 hws rfl) (Nat.le_of_ble_eq_true rfl) (gz_Ev_mono (d := 1) (by decide) E203) ?_
        show gv_X _ _ (119, [(1, .inl z114), (0, .inr (.inr (some 39)))], [.inl z203, .inl 1, .inr (.inr (some 41))], sh, gc_h sh I188 J124 A)
        refine gv_iast hD rfl S_41 ⟨by decide, B_41⟩ ⟨by exact gz_m 132 (by omega), by exact gz_m 133 (by omega)⟩ ?_
        refine gc_st (k := 1) hI188 S_41 rfl R_41 (lo := (-2147483648)) (hi := 2147483647) rfl rfl (by exact gz_m 134 (by omega)) (by exact gz_m 135 (by omega)) (fun I205 hI205 q206 p206 => ?_)
        have FI205 := gc_frs (W := fun q j => (q = 39 ∧ j = 3) ∨ (q = 39 ∧ j = 4) ∨ (q = 23 ∧ j = 5) ∨ (q = 23 ∧ j = 6) ∨ (q = 23 ∧ j = 7) ∨ (q = 23 ∧ j = 8) ∨ (q = 1 ∧ j = 17) ∨ (q = 1 ∧ j = 18) ∨ q = 20 ∨ (q = 39 ∧ j = 6) ∨ (q = 39 ∧ j = 7) ∨ q = 41 ∨ (q = (t + 15) ∧ (11 * I t 11 ≤ (j : Int))) ∨ (q = t ∧ j = 11)) FI188 (Or.inr (Or.inr (Or.inr (Or.inr (Or.inr (Or.inr (Or.inr (Or.inr (Or.inr (Or.inr (Or.inr (Or.inl rfl)))))))))))) p206
        have t207 := p206 23 1 (fun h => absurd h.1 (gz_ne rfl))
        have t208 := p206 23 5 (fun h => absurd h.2 (gz_ne rfl))
        have t209 := p206 23 6 (fun h => absurd h.2 (gz_ne rfl))
        have t210 := p206 23 7 (fun h => absurd h.2 (gz_ne rfl))
        have t211 := p206 1 17 (fun h => absurd h.2 (gz_ne rfl))
        have t212 := p206 4 1 (fun h => absurd h.1 (gz_ne rfl))
        have t213 := p206 (t + 11) 1 (fun h => absurd h.1 N_t_11__41)
        have t214 := p206 t 11 (fun h => absurd h.2 (gz_ne rfl))
        have t215 := p206 39 5 (fun h => absurd h.2 (gz_ne rfl))
        have t216 := p206 1 18 (fun h => absurd h.2 (gz_ne rfl))
        have t217 := p206 39 2 (fun h => absurd h.2 (gz_ne rfl))
        have t218 := p206 41 0 (fun h => absurd h.2 (by exact gz_m 136 (by omega)))
        have KLT_I205 := gc_LT_fr KLT_I188 (p206 23 5 (fun h => absurd h.2 (gz_ne rfl))) (p206 23 6 (fun h => absurd h.2 (gz_ne rfl))) (p206 23 7 (fun h => absurd h.2 (gz_ne rfl))) (fun k => p206 24 k (fun h => absurd h.1 (gz_ne rfl)))
        have KTK_I205 := gc_TK_fr KTK_I188 (p206 23 1 (fun h => absurd h.1 (gz_ne rfl))) (p206 23 5 (fun h => absurd h.2 (gz_ne rfl))) (p206 23 6 (fun h => absurd h.2 (gz_ne rfl))) (p206 23 7 (fun h => absurd h.2 (gz_ne rfl)))
        have KRW_I205 := gc_row_st KRW_I188 p206 q206 (by unfold gc_fW; exact gz_m 137 (by omega))
        have KPK_I205 := gc_PKs_fr KPK_I188 (p206 1 17 (fun h => absurd h.2 (gz_ne rfl))) (fun k => p206 20 k (fun h => absurd h.1 (gz_ne rfl)))
        have A219 := gc_AT_I A201 (p206 23 1 (fun h => absurd h.1 (gz_ne rfl))) (p206 23 5 (fun h => absurd h.2 (gz_ne rfl))) (p206 23 6 (fun h => absurd h.2 (gz_ne rfl))) (p206 23 7 (fun h => absurd h.2 (gz_ne rfl))) (p206 23 8 (fun h => absurd h.2 (gz_ne rfl))) (fun k => p206 24 k (fun h => absurd h.1 (gz_ne rfl)))
        show gv_X _ _ (120, [(1, .inl z114), (0, .inr (.inr (some 39)))], [], sh, gc_h sh I205 J124 A)
        refine gv_run 1 true hD (pc' := 121) (lv' := [(1, .inl z114), (0, .inr (.inr (some 39)))]) (st' := [.inr (.inr (some 39))]) (h' := gc_h sh I205 J124 A) (C := (True ∧ True)) rfl ⟨trivial, trivial⟩ ?_
        refine gv_get hD rfl rfl S_39 ⟨by decide, B_39⟩ (gc_hA S_39 rfl A_39_1) ?_
        show gv_X _ _ (124, [(1, .inl z114), (0, .inr (.inr (some 39)))], [.inr (.inr (some 23))], sh, gc_h sh I205 J124 A)
        have t221 := gc_TK_nx KTK_I205 (by exact gz_m 138 (by omega))
        have t222 := gc_TK_st KTK_I205 (by exact gz_m 139 (by omega))
        obtain ⟨r220, h220, E220, P220⟩ := d_X9_advance_p (ws0 := ws0) (tb := tb) hws htb sh ro I205 J124 A hI205 23 β η  (gc_b23 hb)    (by exact gz_m 140 (by omega)) A219.1.1 A219.1.2 
        obtain ⟨I223, J224, rfl, hI223, g220, k220, ⟨rfl, V220_0, V220_1, V220_2, V220_3, V220_4, q220⟩⟩ := P220
        have FI223 := gc_frc (W := fun q j => (q = 39 ∧ j = 3) ∨ (q = 39 ∧ j = 4) ∨ (q = 23 ∧ j = 5) ∨ (q = 23 ∧ j = 6) ∨ (q = 23 ∧ j = 7) ∨ (q = 23 ∧ j = 8) ∨ (q = 1 ∧ j = 17) ∨ (q = 1 ∧ j = 18) ∨ q = 20 ∨ (q = 39 ∧ j = 6) ∨ (q = 39 ∧ j = 7) ∨ q = 41 ∨ (q = (t + 15) ∧ (11 * I t 11 ≤ (j : Int))) ∨ (q = t ∧ j = 11)) (V := fun q j => (q = 23 ∧ j = 5) ∨ (q = 23 ∧ j = 6) ∨ (q = 23 ∧ j = 7) ∨ (q = 23 ∧ j = 8)) FI205 (fun q j h => (h.elim (fun h => (Or.inr (Or.inr (Or.inl h)))) (fun h => (h.elim (fun h => (Or.inr (Or.inr (Or.inr (Or.inl h))))) (fun h => (h.elim (fun h => (Or.inr (Or.inr (Or.inr (Or.inr (Or.inl h)))))) (fun h => (Or.inr (Or.inr (Or.inr (Or.inr (Or.inr (Or.inl h))))))))))))) g220
        have FJ224 := gc_frc (W := fun q j => (q = 23 ∧ j = 9)) (V := fun q j => (q = 23 ∧ j = 9)) FJ124 (fun q j h => h) k220
        have t225 := (g220 23 1).resolve_left (fun h => h.elim (fun h => absurd h.2 (gz_ne rfl)) (fun h => h.elim (fun h => absurd h.2 (gz_ne rfl)) (fun h => h.elim (fun h => absurd h.2 (gz_ne rfl)) (fun h => absurd h.2 (gz_ne rfl)))))
        have t226 := (g220 1 17).resolve_left (fun h => h.elim (fun h => absurd h.2 (gz_ne rfl)) (fun h => h.elim (fun h => absurd h.2 (gz_ne rfl)) (fun h => h.elim (fun h => absurd h.2 (gz_ne rfl)) (fun h => absurd h.2 (gz_ne rfl)))))
        have t227 := (g220 4 1).resolve_left (fun h => h.elim (fun h => absurd h.2 (gz_ne rfl)) (fun h => h.elim (fun h => absurd h.2 (gz_ne rfl)) (fun h => h.elim (fun h => absurd h.2 (gz_ne rfl)) (fun h => absurd h.2 (gz_ne rfl)))))
        have t228 := (g220 (t + 11) 1).resolve_left (fun h => h.elim (fun h => absurd h.2 (gz_ne rfl)) (fun h => h.elim (fun h => absurd h.2 (gz_ne rfl)) (fun h => h.elim (fun h => absurd h.2 (gz_ne rfl)) (fun h => absurd h.2 (gz_ne rfl)))))
        have t229 := (g220 t 11).resolve_left (fun h => h.elim (fun h => absurd h.2 (gz_ne rfl)) (fun h => h.elim (fun h => absurd h.2 (gz_ne rfl)) (fun h => h.elim (fun h => absurd h.2 (gz_ne rfl)) (fun h => absurd h.2 (gz_ne rfl)))))
        have t230 := (g220 39 5).resolve_left (fun h => h.elim (fun h => absurd h.1 (gz_ne rfl)) (fun h => h.elim (fun h => absurd h.2 (gz_ne rfl)) (fun h => h.elim (fun h => absurd h.2 (gz_ne rfl)) (fun h => absurd h.2 (gz_ne rfl)))))
        have t231 := (g220 1 18).resolve_left (fun h => h.elim (fun h => absurd h.2 (gz_ne rfl)) (fun h => h.elim (fun h => absurd h.2 (gz_ne rfl)) (fun h => h.elim (fun h => absurd h.2 (gz_ne rfl)) (fun h => absurd h.2 (gz_ne rfl)))))
        have t232 := (g220 39 2).resolve_left (fun h => h.elim (fun h => absurd h.2 (gz_ne rfl)) (fun h => h.elim (fun h => absurd h.2 (gz_ne rfl)) (fun h => h.elim (fun h => absurd h.2 (gz_ne rfl)) (fun h => absurd h.2 (gz_ne rfl)))))
        have t233 := (g220 41 0).resolve_left (fun h => h.elim (fun h => absurd h.2 (gz_ne rfl)) (fun h => h.elim (fun h => absurd h.2 (gz_ne rfl)) (fun h => h.elim (fun h => absurd h.2 (gz_ne rfl)) (fun h => absurd h.2 (gz_ne rfl)))))
        have f234 := (gc_b_3_5 hI223 R_23)
        have f235 := (gc_b_3_6 hI223 R_23)
        have f236 := (gc_b_3_7 hI223 R_23)
        have KLT_I223 : gc_LT I223 := q220.2.2.1
        have KRW_I223 := gc_row_fr KRW_I205 (fun k => (g220 41 k).resolve_left (fun h => h.elim (fun h => absurd h.1 (gz_ne rfl)) (fun h => h.elim (fun h => absurd h.1 (gz_ne rfl)) (fun h => h.elim (fun h => absurd h.1 (gz_ne rfl)) (fun h => absurd h.1 (gz_ne rfl))))))
        have KPK_I223 := gc_PKs_fr KPK_I205 ((g220 1 17).resolve_left (fun h => h.elim (fun h => absurd h.2 (gz_ne rfl)) (fun h => h.elim (fun h => absurd h.2 (gz_ne rfl)) (fun h => h.elim (fun h => absurd h.2 (gz_ne rfl)) (fun h => absurd h.2 (gz_ne rfl)))))) (fun k => (g220 20 k).resolve_left (fun h => h.elim (fun h => absurd h.1 (gz_ne rfl)) (fun h => h.elim (fun h => absurd h.1 (gz_ne rfl)) (fun h => h.elim (fun h => absurd h.1 (gz_ne rfl)) (fun h => absurd h.1 (gz_ne rfl))))))
        have KTK_I223 : gc_TK I223 := And.intro V220_0 (And.intro V220_1 (And.intro V220_2 (And.intro V220_3 V220_4)))
        have t237 := gc_TK_mo KTK_I223
        clear V220_0 V220_1 V220_2 V220_3 V220_4
        have A238 := gc_AT_nx A219 q220.2.2.2
        have t239 := gc_AT_l A238
        refine gv_callV hD rfl (As := []) (st := []) rfl B_23 S_23 rfl (gc_lV6 hws rfl) (Nat.le_of_ble_eq_true rfl) (gz_Ev_mono (d := 2) (by decide) E220) ?_
        show gv_X _ _ (127, [(1, .inl z114), (0, .inr (.inr (some 39)))], [], sh, gc_h sh I223 J224 A)
        refine gv_run 2 true hD (pc' := 129) (lv' := [(1, .inl z114), (0, .inr (.inr (some 39)))]) (st' := [.inl 3, .inr (.inr (some 39))]) (h' := gc_h sh I223 J224 A) (C := ((True ∧ True) ∧ True)) rfl ⟨⟨trivial, trivial⟩, trivial⟩ ?_
        obtain ⟨r240, h240, E240, P240⟩ := d_X6_need_p (ws0 := ws0) (tb := tb) hws htb sh ro I223 J224 A hI223  β η ((gs_X β η (gs_X β η p9))) 3 hb   ⟨by exact gz_m 141 (by omega), by exact gz_m 142 (by omega)⟩ A238 (by exact gz_m 143 (by omega)) 
        obtain ⟨I241, J242, rfl, hI241, g240, k240, ⟨z240, rfl, q240⟩⟩ := P240
        have FI241 := gc_frc (W := fun q j => (q = 39 ∧ j = 3) ∨ (q = 39 ∧ j = 4) ∨ (q = 23 ∧ j = 5) ∨ (q = 23 ∧ j = 6) ∨ (q = 23 ∧ j = 7) ∨ (q = 23 ∧ j = 8) ∨ (q = 1 ∧ j = 17) ∨ (q = 1 ∧ j = 18) ∨ q = 20 ∨ (q = 39 ∧ j = 6) ∨ (q = 39 ∧ j = 7) ∨ q = 41 ∨ (q = (t + 15) ∧ (11 * I t 11 ≤ (j : Int))) ∨ (q = t ∧ j = 11)) (V := fun q j => (q = 39 ∧ j = 3) ∨ (q = 39 ∧ j = 4)) FI223 (fun q j h => (h.elim (fun h => (Or.inl h)) (fun h => (Or.inr (Or.inl h))))) g240
        have t243 := (g240 23 1).resolve_left (fun h => h.elim (fun h => absurd h.2 (gz_ne rfl)) (fun h => absurd h.2 (gz_ne rfl)))
        have t244 := (g240 23 5).resolve_left (fun h => h.elim (fun h => absurd h.2 (gz_ne rfl)) (fun h => absurd h.2 (gz_ne rfl)))
        have t245 := (g240 23 6).resolve_left (fun h => h.elim (fun h => absurd h.2 (gz_ne rfl)) (fun h => absurd h.2 (gz_ne rfl)))
        have t246 := (g240 23 7).resolve_left (fun h => h.elim (fun h => absurd h.2 (gz_ne rfl)) (fun h => absurd h.2 (gz_ne rfl)))
        have t247 := (g240 1 17).resolve_left (fun h => h.elim (fun h => absurd h.2 (gz_ne rfl)) (fun h => absurd h.2 (gz_ne rfl)))
        have t248 := (g240 4 1).resolve_left (fun h => h.elim (fun h => absurd h.2 (gz_ne rfl)) (fun h => absurd h.2 (gz_ne rfl)))
        have t249 := (g240 (t + 11) 1).resolve_left (fun h => h.elim (fun h => absurd h.2 (gz_ne rfl)) (fun h => absurd h.2 (gz_ne rfl)))
        have t250 := (g240 t 11).resolve_left (fun h => h.elim (fun h => absurd h.2 (gz_ne rfl)) (fun h => absurd h.2 (gz_ne rfl)))
        have t251 := (g240 39 5).resolve_left (fun h => h.elim (fun h => absurd h.2 (gz_ne rfl)) (fun h => absurd h.2 (gz_ne rfl)))
        have t252 := (g240 1 18).resolve_left (fun h => h.elim (fun h => absurd h.2 (gz_ne rfl)) (fun h => absurd h.2 (gz_ne rfl)))
        have t253 := (g240 39 2).resolve_left (fun h => h.elim (fun h => absurd h.2 (gz_ne rfl)) (fun h => absurd h.2 (gz_ne rfl)))
        have t254 := (g240 41 0).resolve_left (fun h => h.elim (fun h => absurd h.2 (gz_ne rfl)) (fun h => absurd h.2 (gz_ne rfl)))
        obtain rfl : J224 = J242 := funext fun q => funext fun j => ((k240 q j).resolve_left id).symm
        have KLT_I241 := gc_LT_fr KLT_I223 ((g240 23 5).resolve_left (fun h => h.elim (fun h => absurd h.2 (gz_ne rfl)) (fun h => absurd h.2 (gz_ne rfl)))) ((g240 23 6).resolve_left (fun h => h.elim (fun h => absurd h.2 (gz_ne rfl)) (fun h => absurd h.2 (gz_ne rfl)))) ((g240 23 7).resolve_left (fun h => h.elim (fun h => absurd h.2 (gz_ne rfl)) (fun h => absurd h.2 (gz_ne rfl)))) (fun k => (g240 24 k).resolve_left (fun h => h.elim (fun h => absurd h.1 (gz_ne rfl)) (fun h => absurd h.1 (gz_ne rfl))))
        have KTK_I241 := gc_TK_fr KTK_I223 ((g240 23 1).resolve_left (fun h => h.elim (fun h => absurd h.2 (gz_ne rfl)) (fun h => absurd h.2 (gz_ne rfl)))) ((g240 23 5).resolve_left (fun h => h.elim (fun h => absurd h.2 (gz_ne rfl)) (fun h => absurd h.2 (gz_ne rfl)))) ((g240 23 6).resolve_left (fun h => h.elim (fun h => absurd h.2 (gz_ne rfl)) (fun h => absurd h.2 (gz_ne rfl)))) ((g240 23 7).resolve_left (fun h => h.elim (fun h => absurd h.2 (gz_ne rfl)) (fun h => absurd h.2 (gz_ne rfl))))
        have KRW_I241 := gc_row_fr KRW_I223 (fun k => (g240 41 k).resolve_left (fun h => h.elim (fun h => absurd h.1 (gz_ne rfl)) (fun h => absurd h.1 (gz_ne rfl))))
        have KPK_I241 := gc_PKs_fr KPK_I223 ((g240 1 17).resolve_left (fun h => h.elim (fun h => absurd h.2 (gz_ne rfl)) (fun h => absurd h.2 (gz_ne rfl)))) (fun k => (g240 20 k).resolve_left (fun h => h.elim (fun h => absurd h.1 (gz_ne rfl)) (fun h => absurd h.1 (gz_ne rfl))))
        have A255 := gc_AT_I A238 ((g240 23 1).resolve_left (fun h => h.elim (fun h => absurd h.2 (gz_ne rfl)) (fun h => absurd h.2 (gz_ne rfl)))) ((g240 23 5).resolve_left (fun h => h.elim (fun h => absurd h.2 (gz_ne rfl)) (fun h => absurd h.2 (gz_ne rfl)))) ((g240 23 6).resolve_left (fun h => h.elim (fun h => absurd h.2 (gz_ne rfl)) (fun h => absurd h.2 (gz_ne rfl)))) ((g240 23 7).resolve_left (fun h => h.elim (fun h => absurd h.2 (gz_ne rfl)) (fun h => absurd h.2 (gz_ne rfl)))) ((g240 23 8).resolve_left (fun h => h.elim (fun h => absurd h.2 (gz_ne rfl)) (fun h => absurd h.2 (gz_ne rfl)))) (fun k => (g240 24 k).resolve_left (fun h => h.elim (fun h => absurd h.1 (gz_ne rfl)) (fun h => absurd h.1 (gz_ne rfl))))
        have t256 := gc_AT_l A255
        refine gv_callV hD rfl (As := [.inl 3]) (st := []) rfl B_39 S_39 rfl (gc_lV6 hws rfl) (Nat.le_of_ble_eq_true rfl) (gz_Ev_mono (d := 2) (by decide) E240) ?_
        show gv_X _ _ (132, [(1, .inl z114), (0, .inr (.inr (some 39)))], [.inl z240], sh, gc_h sh I241 J224 A)
        refine gv_if_eq (t := 156) hD rfl rfl ⟨by exact gz_m 144 (by omega), by exact gz_m 145 (by omega)⟩ (fun c257 => ?_) (fun c257 => ?_)
        · show gv_X _ _ (156, [(1, .inl z114), (0, .inr (.inr (some 39)))], [], sh, gc_h sh I241 J224 A)
          have u258 := gs_or0 q240.2.2.2 (by exact gz_m 146 (by omega))
          refine gv_run 1 true hD (pc' := 157) (lv' := [(1, .inl z114), (0, .inr (.inr (some 39)))]) (st' := [.inl 0]) (h' := gc_h sh I241 J224 A) (C := (True ∧ True)) rfl ⟨trivial, trivial⟩ ?_
          exact gv_zret hD rfl (by exact gz_m 147 (by omega)) ⟨I241, J224, rfl, hI241, FI241, FJ224, KLT_I241, KTK_I241, ⟨_, rfl, by exact gz_m 148 (by omega), by exact gz_m 149 (by omega), by exact gz_m 150 (by omega), by exact gz_m 151 (by omega), by exact gz_m 152 (by omega), by exact gz_m 153 (by omega), by exact gz_m 154 (by omega), (Or.inl (by exact gz_m 155 (by omega))), KPK_I241, (Or.inr ⟨by exact gz_m 156 (by omega), by first | (exfalso; exact gz_m 157 (by omega)) | (unfold gs_wd gs_wd0 gs_wd1 gs_wd2; (repeat first | rw [if_pos (by exact gz_m 158 (by omega))] | rw [if_neg (by exact gz_m 159 (by omega))]); exact ⟨by exact gz_m 160 (by omega), by exact gz_m 161 (by omega), fun j => (((((((((g240 (t + 15) j).resolve_left (by exact gz_m 162 (by omega))).trans ((g220 (t + 15) j).resolve_left (by exact gz_m 163 (by omega)))).trans (p206 (t + 15) j (by exact gz_m 164 (by omega)))).trans (p189 (t + 15) j (by exact gz_m 165 (by omega)))).trans ((g161 (t + 15) j).resolve_left (by exact gz_m 166 (by omega)))).trans ((g140 (t + 15) j).resolve_left (by exact gz_m 167 (by omega)))).trans ((g120 (t + 15) j).resolve_left (by exact gz_m 168 (by omega)))).trans ((g94 (t + 15) j).resolve_left (by exact gz_m 169 (by omega))))⟩)⟩)⟩⟩
        · show gv_X _ _ (135, [(1, .inl z114), (0, .inr (.inr (some 39)))], [], sh, gc_h sh I241 J224 A)
          have u259 := gs_or1 q240.2.2.2 (by exact gz_m 170 (by omega))
          refine gv_run 1 true hD (pc' := 136) (lv' := [(1, .inl z114), (0, .inr (.inr (some 39)))]) (st' := [.inr (.inr (some 39))]) (h' := gc_h sh I241 J224 A) (C := (True ∧ True)) rfl ⟨trivial, trivial⟩ ?_
          obtain ⟨r260, h260, E260, P260⟩ := d_X6_readStems_a_p (ws0 := ws0) (tb := tb) hws htb sh ro I241 J224 A hI241  B β η ((gs_X β η (gs_X β η p9)))  hb    (by exact gz_m 171 (by omega)) A255 (by exact gz_m 172 (by omega)) (by exact gz_m 173 (by omega)) (by exact gz_m 174 (by omega)) KLT_I241 KTK_I241 KRW_I241
          obtain ⟨I261, J262, rfl, hI261, g260, k260, KLT_I261, KTK_I261, KRW_I261, ⟨z260, rfl, q260⟩⟩ := P260
          have FI261 := gc_frc (W := fun q j => (q = 39 ∧ j = 3) ∨ (q = 39 ∧ j = 4) ∨ (q = 23 ∧ j = 5) ∨ (q = 23 ∧ j = 6) ∨ (q = 23 ∧ j = 7) ∨ (q = 23 ∧ j = 8) ∨ (q = 1 ∧ j = 17) ∨ (q = 1 ∧ j = 18) ∨ q = 20 ∨ (q = 39 ∧ j = 6) ∨ (q = 39 ∧ j = 7) ∨ q = 41 ∨ (q = (t + 15) ∧ (11 * I t 11 ≤ (j : Int))) ∨ (q = t ∧ j = 11)) (V := fun q j => (q = 39 ∧ j = 3) ∨ (q = 39 ∧ j = 4) ∨ (q = 23 ∧ j = 5) ∨ (q = 23 ∧ j = 6) ∨ (q = 23 ∧ j = 7) ∨ (q = 23 ∧ j = 8) ∨ (q = 1 ∧ j = 17) ∨ (q = 1 ∧ j = 18) ∨ q = 20 ∨ (q = 41 ∧ (4 ≤ j))) FI241 (fun q j h => (h.elim (fun h => (Or.inl h)) (fun h => (h.elim (fun h => (Or.inr (Or.inl h))) (fun h => (h.elim (fun h => (Or.inr (Or.inr (Or.inl h)))) (fun h => (h.elim (fun h => (Or.inr (Or.inr (Or.inr (Or.inl h))))) (fun h => (h.elim (fun h => (Or.inr (Or.inr (Or.inr (Or.inr (Or.inl h)))))) (fun h => (h.elim (fun h => (Or.inr (Or.inr (Or.inr (Or.inr (Or.inr (Or.inl h))))))) (fun h => (h.elim (fun h => (Or.inr (Or.inr (Or.inr (Or.inr (Or.inr (Or.inr (Or.inl h)))))))) (fun h => (h.elim (fun h => (Or.inr (Or.inr (Or.inr (Or.inr (Or.inr (Or.inr (Or.inr (Or.inl h))))))))) (fun h => (h.elim (fun h => (Or.inr (Or.inr (Or.inr (Or.inr (Or.inr (Or.inr (Or.inr (Or.inr (Or.inl h)))))))))) (fun h => (Or.inr (Or.inr (Or.inr (Or.inr (Or.inr (Or.inr (Or.inr (Or.inr (Or.inr (Or.inr (Or.inr (Or.inl h.1))))))))))))))))))))))))))))))) g260
          have FJ262 := gc_frc (W := fun q j => (q = 23 ∧ j = 9)) (V := fun q j => (q = 23 ∧ j = 9)) FJ224 (fun q j h => h) k260
          have t263 := (g260 23 1).resolve_left (fun h => h.elim (fun h => absurd h.2 (gz_ne rfl)) (fun h => h.elim (fun h => absurd h.2 (gz_ne rfl)) (fun h => h.elim (fun h => absurd h.2 (gz_ne rfl)) (fun h => h.elim (fun h => absurd h.2 (gz_ne rfl)) (fun h => h.elim (fun h => absurd h.2 (gz_ne rfl)) (fun h => h.elim (fun h => absurd h.2 (gz_ne rfl)) (fun h => h.elim (fun h => absurd h.2 (gz_ne rfl)) (fun h => h.elim (fun h => absurd h.2 (gz_ne rfl)) (fun h => h.elim (fun h => absurd h (gz_ne rfl)) (fun h => absurd h.1 (gz_ne rfl)))))))))))
          have t264 := (g260 4 1).resolve_left (fun h => h.elim (fun h => absurd h.2 (gz_ne rfl)) (fun h => h.elim (fun h => absurd h.2 (gz_ne rfl)) (fun h => h.elim (fun h => absurd h.2 (gz_ne rfl)) (fun h => h.elim (fun h => absurd h.2 (gz_ne rfl)) (fun h => h.elim (fun h => absurd h.2 (gz_ne rfl)) (fun h => h.elim (fun h => absurd h.2 (gz_ne rfl)) (fun h => h.elim (fun h => absurd h.2 (gz_ne rfl)) (fun h => h.elim (fun h => absurd h.2 (gz_ne rfl)) (fun h => h.elim (fun h => absurd h (gz_ne rfl)) (fun h => absurd h.1 (gz_ne rfl)))))))))))
          have t265 := (g260 (t + 11) 1).resolve_left (fun h => h.elim (fun h => absurd h.2 (gz_ne rfl)) (fun h => h.elim (fun h => absurd h.2 (gz_ne rfl)) (fun h => h.elim (fun h => absurd h.2 (gz_ne rfl)) (fun h => h.elim (fun h => absurd h.2 (gz_ne rfl)) (fun h => h.elim (fun h => absurd h.2 (gz_ne rfl)) (fun h => h.elim (fun h => absurd h.2 (gz_ne rfl)) (fun h => h.elim (fun h => absurd h.2 (gz_ne rfl)) (fun h => h.elim (fun h => absurd h.2 (gz_ne rfl)) (fun h => h.elim (fun h => absurd h N_t_11__20) (fun h => absurd h.1 N_t_11__41))))))))))
          have t266 := (g260 t 11).resolve_left (fun h => h.elim (fun h => absurd h.2 (gz_ne rfl)) (fun h => h.elim (fun h => absurd h.2 (gz_ne rfl)) (fun h => h.elim (fun h => absurd h.2 (gz_ne rfl)) (fun h => h.elim (fun h => absurd h.2 (gz_ne rfl)) (fun h => h.elim (fun h => absurd h.2 (gz_ne rfl)) (fun h => h.elim (fun h => absurd h.2 (gz_ne rfl)) (fun h => h.elim (fun h => absurd h.2 (gz_ne rfl)) (fun h => h.elim (fun h => absurd h.2 (gz_ne rfl)) (fun h => h.elim (fun h => absurd h N_t__20) (fun h => absurd h.1 N_t__41))))))))))
          have t267 := (g260 39 5).resolve_left (fun h => h.elim (fun h => absurd h.2 (gz_ne rfl)) (fun h => h.elim (fun h => absurd h.2 (gz_ne rfl)) (fun h => h.elim (fun h => absurd h.1 (gz_ne rfl)) (fun h => h.elim (fun h => absurd h.2 (gz_ne rfl)) (fun h => h.elim (fun h => absurd h.2 (gz_ne rfl)) (fun h => h.elim (fun h => absurd h.2 (gz_ne rfl)) (fun h => h.elim (fun h => absurd h.2 (gz_ne rfl)) (fun h => h.elim (fun h => absurd h.2 (gz_ne rfl)) (fun h => h.elim (fun h => absurd h (gz_ne rfl)) (fun h => absurd h.1 (gz_ne rfl)))))))))))
          have t268 := (g260 39 2).resolve_left (fun h => h.elim (fun h => absurd h.2 (gz_ne rfl)) (fun h => h.elim (fun h => absurd h.2 (gz_ne rfl)) (fun h => h.elim (fun h => absurd h.2 (gz_ne rfl)) (fun h => h.elim (fun h => absurd h.2 (gz_ne rfl)) (fun h => h.elim (fun h => absurd h.2 (gz_ne rfl)) (fun h => h.elim (fun h => absurd h.2 (gz_ne rfl)) (fun h => h.elim (fun h => absurd h.2 (gz_ne rfl)) (fun h => h.elim (fun h => absurd h.2 (gz_ne rfl)) (fun h => h.elim (fun h => absurd h (gz_ne rfl)) (fun h => absurd h.1 (gz_ne rfl)))))))))))
          have t269 := (g260 41 0).resolve_left (by exact gz_m 175 (by omega))
          have f270 := (gc_b_3_5 hI261 R_23)
          have f271 := (gc_b_3_6 hI261 R_23)
          have f272 := (gc_b_3_7 hI261 R_23)
          have f273 := (gc_b_22_17 hI261 R_1)
          have f274 := (gc_b_22_18 hI261 R_1)
          have t275 := gc_TK_mo KTK_I261
          have l260 := q260.2.2.2.2.2.1
          have KPK_I261 := gc_PKs_tr KPK_I241 l260
          refine gv_callV hD rfl (As := []) (st := []) rfl B_39 S_39 rfl (gc_lV6 hws rfl) (Nat.le_of_ble_eq_true rfl) (gz_Ev_mono (d := 3) (by decide) E260) ?_
          show gv_X _ _ (139, [(1, .inl z114), (0, .inr (.inr (some 39)))], [.inl z260], sh, gc_h sh I261 J262 A)
          refine gv_if_eq (t := 156) hD rfl rfl ⟨by exact gz_m 176 (by omega), by exact gz_m 177 (by omega)⟩ (fun c276 => ?_) (fun c276 => ?_)
          · show gv_X _ _ (156, [(1, .inl z114), (0, .inr (.inr (some 39)))], [], sh, gc_h sh I261 J262 A)
            obtain ⟨u277, u277_, U277⟩ := gs_or0 q260.2.2.2.2.2.2 (by exact gz_m 178 (by omega))
            refine gv_run 1 true hD (pc' := 157) (lv' := [(1, .inl z114), (0, .inr (.inr (some 39)))]) (st' := [.inl 0]) (h' := gc_h sh I261 J262 A) (C := (True ∧ True)) rfl ⟨trivial, trivial⟩ ?_
            exact gv_zret hD rfl (by exact gz_m 179 (by omega)) ⟨I261, J262, rfl, hI261, FI261, FJ262, KLT_I261, KTK_I261, ⟨_, rfl, by exact gz_m 180 (by omega), by exact gz_m 181 (by omega), by exact gz_m 182 (by omega), by exact gz_m 183 (by omega), by exact gz_m 184 (by omega), by exact gz_m 185 (by omega), by exact gz_m 186 (by omega), (Or.inl (by exact gz_m 187 (by omega))), KPK_I261, (Or.inr ⟨by exact gz_m 188 (by omega), by first | (exfalso; exact gz_m 189 (by omega)) | (unfold gs_wd gs_wd0 gs_wd1 gs_wd2; (repeat first | rw [if_pos (by exact gz_m 190 (by omega))] | rw [if_neg (by exact gz_m 191 (by omega))]); exact ⟨by exact gz_m 192 (by omega), by exact gz_m 193 (by omega), fun j => ((((((((((g260 (t + 15) j).resolve_left (by exact gz_m 194 (by omega))).trans ((g240 (t + 15) j).resolve_left (by exact gz_m 195 (by omega)))).trans ((g220 (t + 15) j).resolve_left (by exact gz_m 196 (by omega)))).trans (p206 (t + 15) j (by exact gz_m 197 (by omega)))).trans (p189 (t + 15) j (by exact gz_m 198 (by omega)))).trans ((g161 (t + 15) j).resolve_left (by exact gz_m 199 (by omega)))).trans ((g140 (t + 15) j).resolve_left (by exact gz_m 200 (by omega)))).trans ((g120 (t + 15) j).resolve_left (by exact gz_m 201 (by omega)))).trans ((g94 (t + 15) j).resolve_left (by exact gz_m 202 (by omega))))⟩)⟩)⟩⟩
          · show gv_X _ _ (142, [(1, .inl z114), (0, .inr (.inr (some 39)))], [], sh, gc_h sh I261 J262 A)
            obtain ⟨u278, A278, U278⟩ := gs_or1 q260.2.2.2.2.2.2 (by exact gz_m 203 (by omega))
            have t279 := gc_AT_l A278
            refine gv_run 1 true hD (pc' := 143) (lv' := [(1, .inl z114), (0, .inr (.inr (some 39)))]) (st' := [.inr (.inr (some 39))]) (h' := gc_h sh I261 J262 A) (C := (True ∧ True)) rfl ⟨trivial, trivial⟩ ?_
            obtain ⟨r280, h280, E280, P280⟩ := d_X6_readHas_p (ws0 := ws0) (tb := tb) hws htb sh ro I261 J262 A hI261  t β η ((gs_stm β η 3 (gs_X β η (gs_X β η p9)))) Ir Jr  hb  h_t G_t   A278 (by exact gz_m 204 (by omega)) (by have h9 := x10; have h8 := (show I261 (t + 3) 1 = I (t + 3) 1 from ((((((((((g260 (t + 3) 1).resolve_left (by exact gz_m 205 (by omega))).trans ((g240 (t + 3) 1).resolve_left (by exact gz_m 206 (by omega)))).trans ((g220 (t + 3) 1).resolve_left (by exact gz_m 207 (by omega)))).trans (p206 (t + 3) 1 (by exact gz_m 208 (by omega)))).trans (p189 (t + 3) 1 (by exact gz_m 209 (by omega)))).trans ((g161 (t + 3) 1).resolve_left (by exact gz_m 210 (by omega)))).trans ((g140 (t + 3) 1).resolve_left (by exact gz_m 211 (by omega)))).trans ((g120 (t + 3) 1).resolve_left (by exact gz_m 212 (by omega)))).trans ((g94 (t + 3) 1).resolve_left (by exact gz_m 213 (by omega))))); exact gz_m 214 (by omega)) (by rw [show I261 (t + 3) 1 = I (t + 3) 1 from ((((((((((g260 (t + 3) 1).resolve_left (by exact gz_m 215 (by omega))).trans ((g240 (t + 3) 1).resolve_left (by exact gz_m 216 (by omega)))).trans ((g220 (t + 3) 1).resolve_left (by exact gz_m 217 (by omega)))).trans (p206 (t + 3) 1 (by exact gz_m 218 (by omega)))).trans (p189 (t + 3) 1 (by exact gz_m 219 (by omega)))).trans ((g161 (t + 3) 1).resolve_left (by exact gz_m 220 (by omega)))).trans ((g140 (t + 3) 1).resolve_left (by exact gz_m 221 (by omega)))).trans ((g120 (t + 3) 1).resolve_left (by exact gz_m 222 (by omega)))).trans ((g94 (t + 3) 1).resolve_left (by exact gz_m 223 (by omega)))), show J262 (t + 4) = J (t + 4) from funext fun j => ((((k260 (t + 4) j).resolve_left (by exact gz_m 224 (by omega))).trans ((k220 (t + 4) j).resolve_left (by exact gz_m 225 (by omega)))).trans ((k120 (t + 4) j).resolve_left (by exact gz_m 226 (by omega))))]; exact x11) (gs_VR_fr x12 ((((((((((g260 (t + 3) 1).resolve_left (by exact gz_m 227 (by omega))).trans ((g240 (t + 3) 1).resolve_left (by exact gz_m 228 (by omega)))).trans ((g220 (t + 3) 1).resolve_left (by exact gz_m 229 (by omega)))).trans (p206 (t + 3) 1 (by exact gz_m 230 (by omega)))).trans (p189 (t + 3) 1 (by exact gz_m 231 (by omega)))).trans ((g161 (t + 3) 1).resolve_left (by exact gz_m 232 (by omega)))).trans ((g140 (t + 3) 1).resolve_left (by exact gz_m 233 (by omega)))).trans ((g120 (t + 3) 1).resolve_left (by exact gz_m 234 (by omega)))).trans ((g94 (t + 3) 1).resolve_left (by exact gz_m 235 (by omega)))) (fun k => ((((((((((g260 (t + 5) k).resolve_left (by exact gz_m 236 (by omega))).trans ((g240 (t + 5) k).resolve_left (by exact gz_m 237 (by omega)))).trans ((g220 (t + 5) k).resolve_left (by exact gz_m 238 (by omega)))).trans (p206 (t + 5) k (by exact gz_m 239 (by omega)))).trans (p189 (t + 5) k (by exact gz_m 240 (by omega)))).trans ((g161 (t + 5) k).resolve_left (by exact gz_m 241 (by omega)))).trans ((g140 (t + 5) k).resolve_left (by exact gz_m 242 (by omega)))).trans ((g120 (t + 5) k).resolve_left (by exact gz_m 243 (by omega)))).trans ((g94 (t + 5) k).resolve_left (by exact gz_m 244 (by omega))))) (fun k => ((((((((((g260 (t + 6) k).resolve_left (by exact gz_m 245 (by omega))).trans ((g240 (t + 6) k).resolve_left (by exact gz_m 246 (by omega)))).trans ((g220 (t + 6) k).resolve_left (by exact gz_m 247 (by omega)))).trans (p206 (t + 6) k (by exact gz_m 248 (by omega)))).trans (p189 (t + 6) k (by exact gz_m 249 (by omega)))).trans ((g161 (t + 6) k).resolve_left (by exact gz_m 250 (by omega)))).trans ((g140 (t + 6) k).resolve_left (by exact gz_m 251 (by omega)))).trans ((g120 (t + 6) k).resolve_left (by exact gz_m 252 (by omega)))).trans ((g94 (t + 6) k).resolve_left (by exact gz_m 253 (by omega)))))) (by exact gz_m 254 (by omega)) KLT_I261 KTK_I261
            obtain ⟨I281, J282, rfl, hI281, g280, k280, KLT_I281, KTK_I281, ⟨z280, rfl, q280⟩⟩ := P280
            have FI281 := gc_frc (W := fun q j => (q = 39 ∧ j = 3) ∨ (q = 39 ∧ j = 4) ∨ (q = 23 ∧ j = 5) ∨ (q = 23 ∧ j = 6) ∨ (q = 23 ∧ j = 7) ∨ (q = 23 ∧ j = 8) ∨ (q = 1 ∧ j = 17) ∨ (q = 1 ∧ j = 18) ∨ q = 20 ∨ (q = 39 ∧ j = 6) ∨ (q = 39 ∧ j = 7) ∨ q = 41 ∨ (q = (t + 15) ∧ (11 * I t 11 ≤ (j : Int))) ∨ (q = t ∧ j = 11)) (V := fun q j => (q = 39 ∧ j = 3) ∨ (q = 39 ∧ j = 4) ∨ (q = 23 ∧ j = 5) ∨ (q = 23 ∧ j = 6) ∨ (q = 23 ∧ j = 7) ∨ (q = 23 ∧ j = 8) ∨ (q = 39 ∧ j = 6)) FI261 (fun q j h => (h.elim (fun h => (Or.inl h)) (fun h => (h.elim (fun h => (Or.inr (Or.inl h))) (fun h => (h.elim (fun h => (Or.inr (Or.inr (Or.inl h)))) (fun h => (h.elim (fun h => (Or.inr (Or.inr (Or.inr (Or.inl h))))) (fun h => (h.elim (fun h => (Or.inr (Or.inr (Or.inr (Or.inr (Or.inl h)))))) (fun h => (h.elim (fun h => (Or.inr (Or.inr (Or.inr (Or.inr (Or.inr (Or.inl h))))))) (fun h => (Or.inr (Or.inr (Or.inr (Or.inr (Or.inr (Or.inr (Or.inr (Or.inr (Or.inr (Or.inl h))))))))))))))))))))))) g280
            have FJ282 := gc_frc (W := fun q j => (q = 23 ∧ j = 9)) (V := fun q j => (q = 23 ∧ j = 9)) FJ262 (fun q j h => h) k280
            have t283 := (g280 23 1).resolve_left (fun h => h.elim (fun h => absurd h.2 (gz_ne rfl)) (fun h => h.elim (fun h => absurd h.2 (gz_ne rfl)) (fun h => h.elim (fun h => absurd h.2 (gz_ne rfl)) (fun h => h.elim (fun h => absurd h.2 (gz_ne rfl)) (fun h => h.elim (fun h => absurd h.2 (gz_ne rfl)) (fun h => h.elim (fun h => absurd h.2 (gz_ne rfl)) (fun h => absurd h.2 (gz_ne rfl))))))))
            have t284 := (g280 1 17).resolve_left (fun h => h.elim (fun h => absurd h.2 (gz_ne rfl)) (fun h => h.elim (fun h => absurd h.2 (gz_ne rfl)) (fun h => h.elim (fun h => absurd h.2 (gz_ne rfl)) (fun h => h.elim (fun h => absurd h.2 (gz_ne rfl)) (fun h => h.elim (fun h => absurd h.2 (gz_ne rfl)) (fun h => h.elim (fun h => absurd h.2 (gz_ne rfl)) (fun h => absurd h.2 (gz_ne rfl))))))))
            have t285 := (g280 4 1).resolve_left (fun h => h.elim (fun h => absurd h.2 (gz_ne rfl)) (fun h => h.elim (fun h => absurd h.2 (gz_ne rfl)) (fun h => h.elim (fun h => absurd h.2 (gz_ne rfl)) (fun h => h.elim (fun h => absurd h.2 (gz_ne rfl)) (fun h => h.elim (fun h => absurd h.2 (gz_ne rfl)) (fun h => h.elim (fun h => absurd h.2 (gz_ne rfl)) (fun h => absurd h.2 (gz_ne rfl))))))))
            have t286 := (g280 (t + 11) 1).resolve_left (fun h => h.elim (fun h => absurd h.2 (gz_ne rfl)) (fun h => h.elim (fun h => absurd h.2 (gz_ne rfl)) (fun h => h.elim (fun h => absurd h.2 (gz_ne rfl)) (fun h => h.elim (fun h => absurd h.2 (gz_ne rfl)) (fun h => h.elim (fun h => absurd h.2 (gz_ne rfl)) (fun h => h.elim (fun h => absurd h.2 (gz_ne rfl)) (fun h => absurd h.2 (gz_ne rfl))))))))
            have t287 := (g280 t 11).resolve_left (fun h => h.elim (fun h => absurd h.2 (gz_ne rfl)) (fun h => h.elim (fun h => absurd h.2 (gz_ne rfl)) (fun h => h.elim (fun h => absurd h.2 (gz_ne rfl)) (fun h => h.elim (fun h => absurd h.2 (gz_ne rfl)) (fun h => h.elim (fun h => absurd h.2 (gz_ne rfl)) (fun h => h.elim (fun h => absurd h.2 (gz_ne rfl)) (fun h => absurd h.2 (gz_ne rfl))))))))
            have t288 := (g280 39 5).resolve_left (fun h => h.elim (fun h => absurd h.2 (gz_ne rfl)) (fun h => h.elim (fun h => absurd h.2 (gz_ne rfl)) (fun h => h.elim (fun h => absurd h.1 (gz_ne rfl)) (fun h => h.elim (fun h => absurd h.2 (gz_ne rfl)) (fun h => h.elim (fun h => absurd h.2 (gz_ne rfl)) (fun h => h.elim (fun h => absurd h.2 (gz_ne rfl)) (fun h => absurd h.2 (gz_ne rfl))))))))
            have t289 := (g280 1 18).resolve_left (fun h => h.elim (fun h => absurd h.2 (gz_ne rfl)) (fun h => h.elim (fun h => absurd h.2 (gz_ne rfl)) (fun h => h.elim (fun h => absurd h.2 (gz_ne rfl)) (fun h => h.elim (fun h => absurd h.2 (gz_ne rfl)) (fun h => h.elim (fun h => absurd h.2 (gz_ne rfl)) (fun h => h.elim (fun h => absurd h.2 (gz_ne rfl)) (fun h => absurd h.2 (gz_ne rfl))))))))
            have t290 := (g280 39 2).resolve_left (fun h => h.elim (fun h => absurd h.2 (gz_ne rfl)) (fun h => h.elim (fun h => absurd h.2 (gz_ne rfl)) (fun h => h.elim (fun h => absurd h.2 (gz_ne rfl)) (fun h => h.elim (fun h => absurd h.2 (gz_ne rfl)) (fun h => h.elim (fun h => absurd h.2 (gz_ne rfl)) (fun h => h.elim (fun h => absurd h.2 (gz_ne rfl)) (fun h => absurd h.2 (gz_ne rfl))))))))
            have t291 := (g280 41 0).resolve_left (fun h => h.elim (fun h => absurd h.2 (gz_ne rfl)) (fun h => h.elim (fun h => absurd h.2 (gz_ne rfl)) (fun h => h.elim (fun h => absurd h.2 (gz_ne rfl)) (fun h => h.elim (fun h => absurd h.2 (gz_ne rfl)) (fun h => h.elim (fun h => absurd h.2 (gz_ne rfl)) (fun h => h.elim (fun h => absurd h.2 (gz_ne rfl)) (fun h => absurd h.2 (gz_ne rfl))))))))
            have f292 := (gc_b_3_5 hI281 R_23)
            have f293 := (gc_b_3_6 hI281 R_23)
            have f294 := (gc_b_3_7 hI281 R_23)
            have t295 := gc_TK_mo KTK_I281
            have KRW_I281 := gc_row_fr KRW_I261 (fun k => (g280 41 k).resolve_left (fun h => h.elim (fun h => absurd h.1 (gz_ne rfl)) (fun h => h.elim (fun h => absurd h.1 (gz_ne rfl)) (fun h => h.elim (fun h => absurd h.1 (gz_ne rfl)) (fun h => h.elim (fun h => absurd h.1 (gz_ne rfl)) (fun h => h.elim (fun h => absurd h.1 (gz_ne rfl)) (fun h => h.elim (fun h => absurd h.1 (gz_ne rfl)) (fun h => absurd h.1 (gz_ne rfl)))))))))
            have KPK_I281 := gc_PKs_fr KPK_I261 ((g280 1 17).resolve_left (fun h => h.elim (fun h => absurd h.2 (gz_ne rfl)) (fun h => h.elim (fun h => absurd h.2 (gz_ne rfl)) (fun h => h.elim (fun h => absurd h.2 (gz_ne rfl)) (fun h => h.elim (fun h => absurd h.2 (gz_ne rfl)) (fun h => h.elim (fun h => absurd h.2 (gz_ne rfl)) (fun h => h.elim (fun h => absurd h.2 (gz_ne rfl)) (fun h => absurd h.2 (gz_ne rfl))))))))) (fun k => (g280 20 k).resolve_left (fun h => h.elim (fun h => absurd h.1 (gz_ne rfl)) (fun h => h.elim (fun h => absurd h.1 (gz_ne rfl)) (fun h => h.elim (fun h => absurd h.1 (gz_ne rfl)) (fun h => h.elim (fun h => absurd h.1 (gz_ne rfl)) (fun h => h.elim (fun h => absurd h.1 (gz_ne rfl)) (fun h => h.elim (fun h => absurd h.1 (gz_ne rfl)) (fun h => absurd h.1 (gz_ne rfl)))))))))
            refine gv_callV hD rfl (As := []) (st := []) rfl B_39 S_39 rfl (gc_lV6 hws rfl) (Nat.le_of_ble_eq_true rfl) (gz_Ev_mono (d := 4) (by decide) E280) ?_
            show gv_X _ _ (146, [(1, .inl z114), (0, .inr (.inr (some 39)))], [.inl z280], sh, gc_h sh I281 J282 A)
            refine gv_if_eq (t := 156) hD rfl rfl ⟨by exact gz_m 255 (by omega), by exact gz_m 256 (by omega)⟩ (fun c296 => ?_) (fun c296 => ?_)
            · show gv_X _ _ (156, [(1, .inl z114), (0, .inr (.inr (some 39)))], [], sh, gc_h sh I281 J282 A)
              obtain ⟨u297, u297_, U297⟩ := gs_or0 q280.2.2.2.2 (by exact gz_m 257 (by omega))
              refine gv_run 1 true hD (pc' := 157) (lv' := [(1, .inl z114), (0, .inr (.inr (some 39)))]) (st' := [.inl 0]) (h' := gc_h sh I281 J282 A) (C := (True ∧ True)) rfl ⟨trivial, trivial⟩ ?_
              exact gv_zret hD rfl (by exact gz_m 258 (by omega)) ⟨I281, J282, rfl, hI281, FI281, FJ282, KLT_I281, KTK_I281, ⟨_, rfl, by exact gz_m 259 (by omega), by exact gz_m 260 (by omega), by exact gz_m 261 (by omega), by exact gz_m 262 (by omega), by exact gz_m 263 (by omega), by exact gz_m 264 (by omega), by exact gz_m 265 (by omega), (Or.inl (by exact gz_m 266 (by omega))), KPK_I281, (Or.inr ⟨by exact gz_m 267 (by omega), by first | (exfalso; exact gz_m 268 (by omega)) | (unfold gs_wd gs_wd0 gs_wd1 gs_wd2; (repeat first | rw [if_pos (by exact gz_m 269 (by omega))] | rw [if_neg (by exact gz_m 270 (by omega))]); rw [U297]; unfold gs_wd5; (repeat first | rw [if_pos (by exact gz_m 271 (by omega))] | rw [if_neg (by exact gz_m 272 (by omega))]); exact ⟨by exact gz_m 273 (by omega), by exact gz_m 274 (by omega), fun j => (((((((((((g280 (t + 15) j).resolve_left (by exact gz_m 275 (by omega))).trans ((g260 (t + 15) j).resolve_left (by exact gz_m 276 (by omega)))).trans ((g240 (t + 15) j).resolve_left (by exact gz_m 277 (by omega)))).trans ((g220 (t + 15) j).resolve_left (by exact gz_m 278 (by omega)))).trans (p206 (t + 15) j (by exact gz_m 279 (by omega)))).trans (p189 (t + 15) j (by exact gz_m 280 (by omega)))).trans ((g161 (t + 15) j).resolve_left (by exact gz_m 281 (by omega)))).trans ((g140 (t + 15) j).resolve_left (by exact gz_m 282 (by omega)))).trans ((g120 (t + 15) j).resolve_left (by exact gz_m 283 (by omega)))).trans ((g94 (t + 15) j).resolve_left (by exact gz_m 284 (by omega))))⟩)⟩)⟩⟩
            · show gv_X _ _ (149, [(1, .inl z114), (0, .inr (.inr (some 39)))], [], sh, gc_h sh I281 J282 A)
              obtain ⟨u298, A298, U298⟩ := gs_or1 q280.2.2.2.2 (by exact gz_m 285 (by omega))
              have t299 := gc_AT_l A298
              refine gv_run 1 true hD (pc' := 150) (lv' := [(1, .inl z114), (0, .inr (.inr (some 39)))]) (st' := [.inr (.inr (some 39))]) (h' := gc_h sh I281 J282 A) (C := (True ∧ True)) rfl ⟨trivial, trivial⟩ ?_
              obtain ⟨r300, h300, E300, P300⟩ := d_X6_readCost_p (ws0 := ws0) (tb := tb) hws htb sh ro I281 J282 A hI281  β η ((gs_has β η Ir Jr (gs_stm β η 3 (gs_X β η (gs_X β η p9)))))  hb    A298 (by exact gz_m 286 (by omega)) KLT_I281 KTK_I281
              obtain ⟨I301, J302, rfl, hI301, g300, k300, KLT_I301, KTK_I301, ⟨z300, rfl, q300⟩⟩ := P300
              have FI301 := gc_frc (W := fun q j => (q = 39 ∧ j = 3) ∨ (q = 39 ∧ j = 4) ∨ (q = 23 ∧ j = 5) ∨ (q = 23 ∧ j = 6) ∨ (q = 23 ∧ j = 7) ∨ (q = 23 ∧ j = 8) ∨ (q = 1 ∧ j = 17) ∨ (q = 1 ∧ j = 18) ∨ q = 20 ∨ (q = 39 ∧ j = 6) ∨ (q = 39 ∧ j = 7) ∨ q = 41 ∨ (q = (t + 15) ∧ (11 * I t 11 ≤ (j : Int))) ∨ (q = t ∧ j = 11)) (V := fun q j => (q = 39 ∧ j = 3) ∨ (q = 39 ∧ j = 4) ∨ (q = 23 ∧ j = 5) ∨ (q = 23 ∧ j = 6) ∨ (q = 23 ∧ j = 7) ∨ (q = 23 ∧ j = 8) ∨ (q = 39 ∧ j = 7)) FI281 (fun q j h => (h.elim (fun h => (Or.inl h)) (fun h => (h.elim (fun h => (Or.inr (Or.inl h))) (fun h => (h.elim (fun h => (Or.inr (Or.inr (Or.inl h)))) (fun h => (h.elim (fun h => (Or.inr (Or.inr (Or.inr (Or.inl h))))) (fun h => (h.elim (fun h => (Or.inr (Or.inr (Or.inr (Or.inr (Or.inl h)))))) (fun h => (h.elim (fun h => (Or.inr (Or.inr (Or.inr (Or.inr (Or.inr (Or.inl h))))))) (fun h => (Or.inr (Or.inr (Or.inr (Or.inr (Or.inr (Or.inr (Or.inr (Or.inr (Or.inr (Or.inr (Or.inl h)))))))))))))))))))))))) g300
              have FJ302 := gc_frc (W := fun q j => (q = 23 ∧ j = 9)) (V := fun q j => (q = 23 ∧ j = 9)) FJ282 (fun q j h => h) k300
              have t303 := (g300 23 1).resolve_left (fun h => h.elim (fun h => absurd h.2 (gz_ne rfl)) (fun h => h.elim (fun h => absurd h.2 (gz_ne rfl)) (fun h => h.elim (fun h => absurd h.2 (gz_ne rfl)) (fun h => h.elim (fun h => absurd h.2 (gz_ne rfl)) (fun h => h.elim (fun h => absurd h.2 (gz_ne rfl)) (fun h => h.elim (fun h => absurd h.2 (gz_ne rfl)) (fun h => absurd h.2 (gz_ne rfl))))))))
              have t304 := (g300 1 17).resolve_left (fun h => h.elim (fun h => absurd h.2 (gz_ne rfl)) (fun h => h.elim (fun h => absurd h.2 (gz_ne rfl)) (fun h => h.elim (fun h => absurd h.2 (gz_ne rfl)) (fun h => h.elim (fun h => absurd h.2 (gz_ne rfl)) (fun h => h.elim (fun h => absurd h.2 (gz_ne rfl)) (fun h => h.elim (fun h => absurd h.2 (gz_ne rfl)) (fun h => absurd h.2 (gz_ne rfl))))))))
              have t305 := (g300 4 1).resolve_left (fun h => h.elim (fun h => absurd h.2 (gz_ne rfl)) (fun h => h.elim (fun h => absurd h.2 (gz_ne rfl)) (fun h => h.elim (fun h => absurd h.2 (gz_ne rfl)) (fun h => h.elim (fun h => absurd h.2 (gz_ne rfl)) (fun h => h.elim (fun h => absurd h.2 (gz_ne rfl)) (fun h => h.elim (fun h => absurd h.2 (gz_ne rfl)) (fun h => absurd h.2 (gz_ne rfl))))))))
              have t306 := (g300 (t + 11) 1).resolve_left (fun h => h.elim (fun h => absurd h.2 (gz_ne rfl)) (fun h => h.elim (fun h => absurd h.2 (gz_ne rfl)) (fun h => h.elim (fun h => absurd h.2 (gz_ne rfl)) (fun h => h.elim (fun h => absurd h.2 (gz_ne rfl)) (fun h => h.elim (fun h => absurd h.2 (gz_ne rfl)) (fun h => h.elim (fun h => absurd h.2 (gz_ne rfl)) (fun h => absurd h.2 (gz_ne rfl))))))))
              have t307 := (g300 t 11).resolve_left (fun h => h.elim (fun h => absurd h.2 (gz_ne rfl)) (fun h => h.elim (fun h => absurd h.2 (gz_ne rfl)) (fun h => h.elim (fun h => absurd h.2 (gz_ne rfl)) (fun h => h.elim (fun h => absurd h.2 (gz_ne rfl)) (fun h => h.elim (fun h => absurd h.2 (gz_ne rfl)) (fun h => h.elim (fun h => absurd h.2 (gz_ne rfl)) (fun h => absurd h.2 (gz_ne rfl))))))))
              have t308 := (g300 39 5).resolve_left (fun h => h.elim (fun h => absurd h.2 (gz_ne rfl)) (fun h => h.elim (fun h => absurd h.2 (gz_ne rfl)) (fun h => h.elim (fun h => absurd h.1 (gz_ne rfl)) (fun h => h.elim (fun h => absurd h.2 (gz_ne rfl)) (fun h => h.elim (fun h => absurd h.2 (gz_ne rfl)) (fun h => h.elim (fun h => absurd h.2 (gz_ne rfl)) (fun h => absurd h.2 (gz_ne rfl))))))))
              have t309 := (g300 1 18).resolve_left (fun h => h.elim (fun h => absurd h.2 (gz_ne rfl)) (fun h => h.elim (fun h => absurd h.2 (gz_ne rfl)) (fun h => h.elim (fun h => absurd h.2 (gz_ne rfl)) (fun h => h.elim (fun h => absurd h.2 (gz_ne rfl)) (fun h => h.elim (fun h => absurd h.2 (gz_ne rfl)) (fun h => h.elim (fun h => absurd h.2 (gz_ne rfl)) (fun h => absurd h.2 (gz_ne rfl))))))))
              have t310 := (g300 39 2).resolve_left (fun h => h.elim (fun h => absurd h.2 (gz_ne rfl)) (fun h => h.elim (fun h => absurd h.2 (gz_ne rfl)) (fun h => h.elim (fun h => absurd h.2 (gz_ne rfl)) (fun h => h.elim (fun h => absurd h.2 (gz_ne rfl)) (fun h => h.elim (fun h => absurd h.2 (gz_ne rfl)) (fun h => h.elim (fun h => absurd h.2 (gz_ne rfl)) (fun h => absurd h.2 (gz_ne rfl))))))))
              have t311 := (g300 41 0).resolve_left (fun h => h.elim (fun h => absurd h.2 (gz_ne rfl)) (fun h => h.elim (fun h => absurd h.2 (gz_ne rfl)) (fun h => h.elim (fun h => absurd h.2 (gz_ne rfl)) (fun h => h.elim (fun h => absurd h.2 (gz_ne rfl)) (fun h => h.elim (fun h => absurd h.2 (gz_ne rfl)) (fun h => h.elim (fun h => absurd h.2 (gz_ne rfl)) (fun h => absurd h.2 (gz_ne rfl))))))))
              have f312 := (gc_b_3_5 hI301 R_23)
              have f313 := (gc_b_3_6 hI301 R_23)
              have f314 := (gc_b_3_7 hI301 R_23)
              have t315 := gc_TK_mo KTK_I301
              have KRW_I301 := gc_row_fr KRW_I281 (fun k => (g300 41 k).resolve_left (fun h => h.elim (fun h => absurd h.1 (gz_ne rfl)) (fun h => h.elim (fun h => absurd h.1 (gz_ne rfl)) (fun h => h.elim (fun h => absurd h.1 (gz_ne rfl)) (fun h => h.elim (fun h => absurd h.1 (gz_ne rfl)) (fun h => h.elim (fun h => absurd h.1 (gz_ne rfl)) (fun h => h.elim (fun h => absurd h.1 (gz_ne rfl)) (fun h => absurd h.1 (gz_ne rfl)))))))))
              have KPK_I301 := gc_PKs_fr KPK_I281 ((g300 1 17).resolve_left (fun h => h.elim (fun h => absurd h.2 (gz_ne rfl)) (fun h => h.elim (fun h => absurd h.2 (gz_ne rfl)) (fun h => h.elim (fun h => absurd h.2 (gz_ne rfl)) (fun h => h.elim (fun h => absurd h.2 (gz_ne rfl)) (fun h => h.elim (fun h => absurd h.2 (gz_ne rfl)) (fun h => h.elim (fun h => absurd h.2 (gz_ne rfl)) (fun h => absurd h.2 (gz_ne rfl))))))))) (fun k => (g300 20 k).resolve_left (fun h => h.elim (fun h => absurd h.1 (gz_ne rfl)) (fun h => h.elim (fun h => absurd h.1 (gz_ne rfl)) (fun h => h.elim (fun h => absurd h.1 (gz_ne rfl)) (fun h => h.elim (fun h => absurd h.1 (gz_ne rfl)) (fun h => h.elim (fun h => absurd h.1 (gz_ne rfl)) (fun h => h.elim (fun h => absurd h.1 (gz_ne rfl)) (fun h => absurd h.1 (gz_ne rfl)))))))))
              refine gv_callV hD rfl (As := []) (st := []) rfl B_39 S_39 rfl (gc_lV6 hws rfl) (Nat.le_of_ble_eq_true rfl) (gz_Ev_mono (d := 3) (by decide) E300) ?_
              show gv_X _ _ (153, [(1, .inl z114), (0, .inr (.inr (some 39)))], [.inl z300], sh, gc_h sh I301 J302 A)
              refine gv_if_ne (t := 158) hD rfl rfl ⟨by exact gz_m 287 (by omega), by exact gz_m 288 (by omega)⟩ (fun c316 => ?_) (fun c316 => ?_)
              · show gv_X _ _ (158, [(1, .inl z114), (0, .inr (.inr (some 39)))], [], sh, gc_h sh I301 J302 A)
                obtain ⟨u317, A317, R317⟩ := gs_or1 q300.2.2.2.2 (by exact gz_m 289 (by omega))
                have t318 := gc_AT_l A317
                refine gv_run 1 true hD (pc' := 159) (lv' := [(1, .inl z114), (0, .inr (.inr (some 39)))]) (st' := [.inr (.inr (some 39))]) (h' := gc_h sh I301 J302 A) (C := (True ∧ True)) rfl ⟨trivial, trivial⟩ ?_
                refine gv_get hD rfl rfl S_39 ⟨by decide, B_39⟩ (gc_hA S_39 rfl A_39_10) ?_
                show gv_X _ _ (162, [(1, .inl z114), (0, .inr (.inr (some 39)))], [.inr (.inr (some 41))], sh, gc_h sh I301 J302 A)
                refine gv_run 2 true hD (pc' := 164) (lv' := [(1, .inl z114), (0, .inr (.inr (some 39)))]) (st' := [.inr (.inr (some 39)), .inl 2, .inr (.inr (some 41))]) (h' := gc_h sh I301 J302 A) (C := ((True ∧ True) ∧ True)) rfl ⟨⟨trivial, trivial⟩, trivial⟩ ?_
                have f319 := (gc_b_42_6 hI301 R_39)
                refine gv_get hD rfl rfl S_39 ⟨by decide, B_39⟩ (gc_hI S_39 rfl) ?_
                show gv_X _ _ (167, [(1, .inl z114), (0, .inr (.inr (some 39)))], [.inl (I301 39 6), .inl 2, .inr (.inr (some 41))], sh, gc_h sh I301 J302 A)
                refine gv_iast hD rfl S_41 ⟨by decide, B_41⟩ ⟨by exact gz_m 290 (by omega), by exact gz_m 291 (by omega)⟩ ?_
                refine gc_st (k := 2) hI301 S_41 rfl R_41 (lo := (-2147483648)) (hi := 2147483647) rfl rfl (by exact gz_m 292 (by omega)) (by exact gz_m 293 (by omega)) (fun I320 hI320 q321 p321 => ?_)
                have FI320 := gc_frs (W := fun q j => (q = 39 ∧ j = 3) ∨ (q = 39 ∧ j = 4) ∨ (q = 23 ∧ j = 5) ∨ (q = 23 ∧ j = 6) ∨ (q = 23 ∧ j = 7) ∨ (q = 23 ∧ j = 8) ∨ (q = 1 ∧ j = 17) ∨ (q = 1 ∧ j = 18) ∨ q = 20 ∨ (q = 39 ∧ j = 6) ∨ (q = 39 ∧ j = 7) ∨ q = 41 ∨ (q = (t + 15) ∧ (11 * I t 11 ≤ (j : Int))) ∨ (q = t ∧ j = 11)) FI301 (Or.inr (Or.inr (Or.inr (Or.inr (Or.inr (Or.inr (Or.inr (Or.inr (Or.inr (Or.inr (Or.inr (Or.inl rfl)))))))))))) p321
                have t322 := p321 23 1 (fun h => absurd h.2 (gz_ne rfl))
                have t323 := p321 23 5 (fun h => absurd h.2 (gz_ne rfl))
                have t324 := p321 23 6 (fun h => absurd h.2 (gz_ne rfl))
                have t325 := p321 23 7 (fun h => absurd h.2 (gz_ne rfl))
                have t326 := p321 1 17 (fun h => absurd h.2 (gz_ne rfl))
                have t327 := p321 4 1 (fun h => absurd h.2 (gz_ne rfl))
                have t328 := p321 (t + 11) 1 (fun h => absurd h.2 (gz_ne rfl))
                have t329 := p321 t 11 (fun h => absurd h.2 (gz_ne rfl))
                have t330 := p321 39 5 (fun h => absurd h.2 (gz_ne rfl))
                have t331 := p321 1 18 (fun h => absurd h.2 (gz_ne rfl))
                have t332 := p321 39 2 (fun h => absurd h.1 (gz_ne rfl))
                have t333 := p321 41 0 (fun h => absurd h.2 (by exact gz_m 294 (by omega)))
                have KLT_I320 := gc_LT_fr KLT_I301 (p321 23 5 (fun h => absurd h.2 (gz_ne rfl))) (p321 23 6 (fun h => absurd h.2 (gz_ne rfl))) (p321 23 7 (fun h => absurd h.2 (gz_ne rfl))) (fun k => p321 24 k (fun h => absurd h.1 (gz_ne rfl)))
                have KTK_I320 := gc_TK_fr KTK_I301 (p321 23 1 (fun h => absurd h.2 (gz_ne rfl))) (p321 23 5 (fun h => absurd h.2 (gz_ne rfl))) (p321 23 6 (fun h => absurd h.2 (gz_ne rfl))) (p321 23 7 (fun h => absurd h.2 (gz_ne rfl)))
                have KRW_I320 := gc_row_st KRW_I301 p321 q321 (by unfold gc_fW; exact gz_m 295 (by omega))
                have KPK_I320 := gc_PKs_fr KPK_I301 (p321 1 17 (fun h => absurd h.2 (gz_ne rfl))) (fun k => p321 20 k (fun h => absurd h.1 (gz_ne rfl)))
                have A334 := gc_AT_I A317 (p321 23 1 (fun h => absurd h.2 (gz_ne rfl))) (p321 23 5 (fun h => absurd h.2 (gz_ne rfl))) (p321 23 6 (fun h => absurd h.2 (gz_ne rfl))) (p321 23 7 (fun h => absurd h.2 (gz_ne rfl))) (p321 23 8 (fun h => absurd h.2 (gz_ne rfl))) (fun k => p321 24 k (fun h => absurd h.1 (gz_ne rfl)))
                show gv_X _ _ (168, [(1, .inl z114), (0, .inr (.inr (some 39)))], [], sh, gc_h sh I320 J302 A)
                refine gv_run 1 true hD (pc' := 169) (lv' := [(1, .inl z114), (0, .inr (.inr (some 39)))]) (st' := [.inr (.inr (some 39))]) (h' := gc_h sh I320 J302 A) (C := (True ∧ True)) rfl ⟨trivial, trivial⟩ ?_
                refine gv_get hD rfl rfl S_39 ⟨by decide, B_39⟩ (gc_hA S_39 rfl A_39_10) ?_
                show gv_X _ _ (172, [(1, .inl z114), (0, .inr (.inr (some 39)))], [.inr (.inr (some 41))], sh, gc_h sh I320 J302 A)
                refine gv_run 2 true hD (pc' := 174) (lv' := [(1, .inl z114), (0, .inr (.inr (some 39)))]) (st' := [.inr (.inr (some 39)), .inl 3, .inr (.inr (some 41))]) (h' := gc_h sh I320 J302 A) (C := ((True ∧ True) ∧ True)) rfl ⟨⟨trivial, trivial⟩, trivial⟩ ?_
                have f335 := (gc_b_42_7 hI320 R_39)
                refine gv_get hD rfl rfl S_39 ⟨by decide, B_39⟩ (gc_hI S_39 rfl) ?_
                show gv_X _ _ (177, [(1, .inl z114), (0, .inr (.inr (some 39)))], [.inl (I320 39 7), .inl 3, .inr (.inr (some 41))], sh, gc_h sh I320 J302 A)
                refine gv_iast hD rfl S_41 ⟨by decide, B_41⟩ ⟨by exact gz_m 296 (by omega), by exact gz_m 297 (by omega)⟩ ?_
                refine gc_st (k := 3) hI320 S_41 rfl R_41 (lo := (-2147483648)) (hi := 2147483647) rfl rfl (by exact gz_m 298 (by omega)) (by exact gz_m 299 (by omega)) (fun I336 hI336 q337 p337 => ?_)
                have FI336 := gc_frs (W := fun q j => (q = 39 ∧ j = 3) ∨ (q = 39 ∧ j = 4) ∨ (q = 23 ∧ j = 5) ∨ (q = 23 ∧ j = 6) ∨ (q = 23 ∧ j = 7) ∨ (q = 23 ∧ j = 8) ∨ (q = 1 ∧ j = 17) ∨ (q = 1 ∧ j = 18) ∨ q = 20 ∨ (q = 39 ∧ j = 6) ∨ (q = 39 ∧ j = 7) ∨ q = 41 ∨ (q = (t + 15) ∧ (11 * I t 11 ≤ (j : Int))) ∨ (q = t ∧ j = 11)) FI320 (Or.inr (Or.inr (Or.inr (Or.inr (Or.inr (Or.inr (Or.inr (Or.inr (Or.inr (Or.inr (Or.inr (Or.inl rfl)))))))))))) p337
                have t338 := p337 23 1 (fun h => absurd h.2 (gz_ne rfl))
                have t339 := p337 23 5 (fun h => absurd h.2 (gz_ne rfl))
                have t340 := p337 23 6 (fun h => absurd h.2 (gz_ne rfl))
                have t341 := p337 23 7 (fun h => absurd h.2 (gz_ne rfl))
                have t342 := p337 1 17 (fun h => absurd h.2 (gz_ne rfl))
                have t343 := p337 4 1 (fun h => absurd h.2 (gz_ne rfl))
                have t344 := p337 (t + 11) 1 (fun h => absurd h.2 (gz_ne rfl))
                have t345 := p337 t 11 (fun h => absurd h.2 (gz_ne rfl))
                have t346 := p337 39 5 (fun h => absurd h.2 (gz_ne rfl))
                have t347 := p337 1 18 (fun h => absurd h.2 (gz_ne rfl))
                have t348 := p337 39 2 (fun h => absurd h.2 (gz_ne rfl))
                have t349 := p337 41 0 (fun h => absurd h.2 (by exact gz_m 300 (by omega)))
                have KLT_I336 := gc_LT_fr KLT_I320 (p337 23 5 (fun h => absurd h.2 (gz_ne rfl))) (p337 23 6 (fun h => absurd h.2 (gz_ne rfl))) (p337 23 7 (fun h => absurd h.2 (gz_ne rfl))) (fun k => p337 24 k (fun h => absurd h.1 (gz_ne rfl)))
                have KTK_I336 := gc_TK_fr KTK_I320 (p337 23 1 (fun h => absurd h.2 (gz_ne rfl))) (p337 23 5 (fun h => absurd h.2 (gz_ne rfl))) (p337 23 6 (fun h => absurd h.2 (gz_ne rfl))) (p337 23 7 (fun h => absurd h.2 (gz_ne rfl)))
                have KRW_I336 := gc_row_st KRW_I320 p337 q337 (by unfold gc_fW; exact gz_m 301 (by omega))
                have KPK_I336 := gc_PKs_fr KPK_I320 (p337 1 17 (fun h => absurd h.2 (gz_ne rfl))) (fun k => p337 20 k (fun h => absurd h.1 (gz_ne rfl)))
                have A350 := gc_AT_I A334 (p337 23 1 (fun h => absurd h.2 (gz_ne rfl))) (p337 23 5 (fun h => absurd h.2 (gz_ne rfl))) (p337 23 6 (fun h => absurd h.2 (gz_ne rfl))) (p337 23 7 (fun h => absurd h.2 (gz_ne rfl))) (p337 23 8 (fun h => absurd h.2 (gz_ne rfl))) (fun k => p337 24 k (fun h => absurd h.1 (gz_ne rfl)))
                show gv_X _ _ (178, [(1, .inl z114), (0, .inr (.inr (some 39)))], [], sh, gc_h sh I336 J302 A)
                refine gv_run 2 true hD (pc' := 180) (lv' := [(1, .inl z114), (0, .inr (.inr (some 39)))]) (st' := [.inr (.inr (some 39)), .inr (.inr (some 39))]) (h' := gc_h sh I336 J302 A) (C := ((True ∧ True) ∧ True)) rfl ⟨⟨trivial, trivial⟩, trivial⟩ ?_
                refine gv_get hD rfl rfl S_39 ⟨by decide, B_39⟩ (gc_h5 (t := t) S_39 rfl (by exact gz_m 302 (by omega))) ?_
                show gv_X _ _ (183, [(1, .inl z114), (0, .inr (.inr (some 39)))], [.inr (.inr (some t)), .inr (.inr (some 39))], sh, gc_h sh I336 J302 A)
                have f351 := (show 0 ≤ I336 t 11 ∧ I336 t 11 ≤ 64 from gc_in2 hI336 R_t rfl rfl rfl)
                refine gv_get hD rfl rfl S_t ⟨by decide, B_t⟩ (gc_hI S_t rfl) ?_
                show gv_X _ _ (186, [(1, .inl z114), (0, .inr (.inr (some 39)))], [.inl (I336 t 11), .inr (.inr (some 39))], sh, gc_h sh I336 J302 A)
                refine gv_run 1 true hD (pc' := 188) (lv' := [(1, .inl z114), (0, .inr (.inr (some 39)))]) (st' := [.inl 64, .inl (I336 t 11), .inr (.inr (some 39))]) (h' := gc_h sh I336 J302 A) (C := (True ∧ True)) rfl ⟨trivial, trivial⟩ ?_
                refine gv_icmp_lt (t := 195) hD rfl rfl ⟨⟨by exact gz_m 303 (by omega), by exact gz_m 304 (by omega)⟩, ⟨by exact gz_m 305 (by omega), by exact gz_m 306 (by omega)⟩⟩ (fun c352 => ?_) (fun c352 => ?_)
                · show gv_X _ _ (195, [(1, .inl z114), (0, .inr (.inr (some 39)))], [.inr (.inr (some 39))], sh, gc_h sh I336 J302 A)
                  refine gv_run 1 true hD (pc' := 196) (lv' := [(1, .inl z114), (0, .inr (.inr (some 39)))]) (st' := [.inl 0, .inr (.inr (some 39))]) (h' := gc_h sh I336 J302 A) (C := (True ∧ True)) rfl ⟨trivial, trivial⟩ ?_
                  refine gv_pick [1, 0] rfl ?_
                  exact L196 I336 J302 z114 0 ((gs_cost β η (gs_has β η Ir Jr (gs_stm β η 3 (gs_X β η (gs_X β η p9)))))) hI336 FI336 FJ302 KLT_I336 KTK_I336 KRW_I336 KPK_I336 (by exact gz_m 307 (by omega)) A350 (by unfold gs_wd gs_wd0 gs_wd1 gs_wd2; (repeat first | rw [if_pos (by exact gz_m 308 (by omega))] | rw [if_neg (by exact gz_m 309 (by omega))]); rw [U298.1]; unfold gs_wd5; (repeat first | rw [if_pos (by exact gz_m 310 (by omega))] | rw [if_neg (by exact gz_m 311 (by omega))])) ⟨⟨((((((((((p337 41 0 (fun h => absurd h.2 (gz_ne rfl))).trans (p321 41 0 (fun h => absurd h.2 (gz_ne rfl)))).trans (((g300 41 0).resolve_left (by exact gz_m 312 (by omega))))).trans (((g280 41 0).resolve_left (by exact gz_m 313 (by omega))))).trans (U278.2.2 0 (by decide))).trans (((g240 41 0).resolve_left (by exact gz_m 314 (by omega))))).trans (((g220 41 0).resolve_left (by exact gz_m 315 (by omega))))).trans (p206 41 0 (fun h => absurd h.2 (gz_ne rfl))))).trans (q189.trans (show _ = gs_lk Ir Jr 3 3 (gs_rn β η p9) by exact gz_m 316 (by omega)))), (((((((((p337 41 1 (fun h => absurd h.2 (gz_ne rfl))).trans (p321 41 1 (fun h => absurd h.2 (gz_ne rfl)))).trans (((g300 41 1).resolve_left (by exact gz_m 317 (by omega))))).trans (((g280 41 1).resolve_left (by exact gz_m 318 (by omega))))).trans (U278.2.2 1 (by decide))).trans (((g240 41 1).resolve_left (by exact gz_m 319 (by omega))))).trans (((g220 41 1).resolve_left (by exact gz_m 320 (by omega)))))).trans (q206.trans (show _ = gs_wpt β η Ir Jr p9 by unfold gs_wpt; exact gz_m 321 (by omega)))), (by rw [show I336 41 2 = I281 39 6 from ((p337 41 2 (fun h => absurd h.2 (gz_ne rfl)))).trans (q321.trans ((g300 39 6).resolve_left (by exact gz_m 322 (by omega))))]; exact U298.2.1), ((rfl).trans (q337.trans (((p321 39 7 (by exact gz_m 323 (by omega)))).trans (R317.trans (by rw [U298.2.2])))))⟩, (gs_ws9_kp U278.2.1 (gc_PKs_fr (gc_PKs_fr (gc_PKs_fr (gc_PKs_fr gc_PKs_rf ((g280 1 17).resolve_left (by exact gz_m 324 (by omega))) (fun k => ((g280 20 k).resolve_left (by exact gz_m 325 (by omega))))) ((g300 1 17).resolve_left (by exact gz_m 326 (by omega))) (fun k => ((g300 20 k).resolve_left (by exact gz_m 327 (by omega))))) (p321 1 17 (by exact gz_m 328 (by omega))) (fun k => (p321 20 k (by exact gz_m 329 (by omega))))) (p337 1 17 (by exact gz_m 330 (by omega))) (fun k => (p337 20 k (by exact gz_m 331 (by omega))))) (fun j h1 h2 => ((((p337 41 j (fun h => by have h9 := h.2; exact gz_m 332 (by omega))).trans (p321 41 j (fun h => by have h9 := h.2; exact gz_m 333 (by omega)))).trans (((g300 41 j).resolve_left (by exact gz_m 334 (by omega))))).trans (((g280 41 j).resolve_left (by exact gz_m 335 (by omega)))))))⟩ ⟨((((((((((((((p337 39 5 (by exact gz_m 336 (by omega))).trans (p321 39 5 (by exact gz_m 337 (by omega)))).trans ((g300 39 5).resolve_left (by exact gz_m 338 (by omega)))).trans ((g280 39 5).resolve_left (by exact gz_m 339 (by omega)))).trans ((g260 39 5).resolve_left (by exact gz_m 340 (by omega)))).trans ((g240 39 5).resolve_left (by exact gz_m 341 (by omega)))).trans ((g220 39 5).resolve_left (by exact gz_m 342 (by omega)))).trans (p206 39 5 (by exact gz_m 343 (by omega)))).trans (p189 39 5 (by exact gz_m 344 (by omega)))).trans ((g161 39 5).resolve_left (by exact gz_m 345 (by omega)))).trans ((g140 39 5).resolve_left (by exact gz_m 346 (by omega)))).trans ((g120 39 5).resolve_left (by exact gz_m 347 (by omega)))).trans ((g94 39 5).resolve_left (by exact gz_m 348 (by omega))))), (fun k => (((((((((((((p337 (t + 15) k (by exact gz_m 349 (by omega))).trans (p321 (t + 15) k (by exact gz_m 350 (by omega)))).trans ((g300 (t + 15) k).resolve_left (by exact gz_m 351 (by omega)))).trans ((g280 (t + 15) k).resolve_left (by exact gz_m 352 (by omega)))).trans ((g260 (t + 15) k).resolve_left (by exact gz_m 353 (by omega)))).trans ((g240 (t + 15) k).resolve_left (by exact gz_m 354 (by omega)))).trans ((g220 (t + 15) k).resolve_left (by exact gz_m 355 (by omega)))).trans (p206 (t + 15) k (by exact gz_m 356 (by omega)))).trans (p189 (t + 15) k (by exact gz_m 357 (by omega)))).trans ((g161 (t + 15) k).resolve_left (by exact gz_m 358 (by omega)))).trans ((g140 (t + 15) k).resolve_left (by exact gz_m 359 (by omega)))).trans ((g120 (t + 15) k).resolve_left (by exact gz_m 360 (by omega)))).trans ((g94 (t + 15) k).resolve_left (by exact gz_m 361 (by omega)))))⟩
                · show gv_X _ _ (191, [(1, .inl z114), (0, .inr (.inr (some 39)))], [.inr (.inr (some 39))], sh, gc_h sh I336 J302 A)
                  refine gv_run 2 true hD (pc' := 196) (lv' := [(1, .inl z114), (0, .inr (.inr (some 39)))]) (st' := [.inl 1, .inr (.inr (some 39))]) (h' := gc_h sh I336 J302 A) (C := ((True ∧ True) ∧ True)) rfl ⟨⟨trivial, trivial⟩, trivial⟩ ?_
                  refine gv_pick [1, 0] rfl ?_
                  exact L196 I336 J302 z114 1 ((gs_cost β η (gs_has β η Ir Jr (gs_stm β η 3 (gs_X β η (gs_X β η p9)))))) hI336 FI336 FJ302 KLT_I336 KTK_I336 KRW_I336 KPK_I336 (by exact gz_m 362 (by omega)) A350 (by unfold gs_wd gs_wd0 gs_wd1 gs_wd2; (repeat first | rw [if_pos (by exact gz_m 363 (by omega))] | rw [if_neg (by exact gz_m 364 (by omega))]); rw [U298.1]; unfold gs_wd5; (repeat first | rw [if_pos (by exact gz_m 365 (by omega))] | rw [if_neg (by exact gz_m 366 (by omega))])) ⟨⟨((((((((((p337 41 0 (fun h => absurd h.2 (gz_ne rfl))).trans (p321 41 0 (fun h => absurd h.2 (gz_ne rfl)))).trans (((g300 41 0).resolve_left (by exact gz_m 367 (by omega))))).trans (((g280 41 0).resolve_left (by exact gz_m 368 (by omega))))).trans (U278.2.2 0 (by decide))).trans (((g240 41 0).resolve_left (by exact gz_m 369 (by omega))))).trans (((g220 41 0).resolve_left (by exact gz_m 370 (by omega))))).trans (p206 41 0 (fun h => absurd h.2 (gz_ne rfl))))).trans (q189.trans (show _ = gs_lk Ir Jr 3 3 (gs_rn β η p9) by exact gz_m 371 (by omega)))), (((((((((p337 41 1 (fun h => absurd h.2 (gz_ne rfl))).trans (p321 41 1 (fun h => absurd h.2 (gz_ne rfl)))).trans (((g300 41 1).resolve_left (by exact gz_m 372 (by omega))))).trans (((g280 41 1).resolve_left (by exact gz_m 373 (by omega))))).trans (U278.2.2 1 (by decide))).trans (((g240 41 1).resolve_left (by exact gz_m 374 (by omega))))).trans (((g220 41 1).resolve_left (by exact gz_m 375 (by omega)))))).trans (q206.trans (show _ = gs_wpt β η Ir Jr p9 by unfold gs_wpt; exact gz_m 376 (by omega)))), (by rw [show I336 41 2 = I281 39 6 from ((p337 41 2 (fun h => absurd h.2 (gz_ne rfl)))).trans (q321.trans ((g300 39 6).resolve_left (by exact gz_m 377 (by omega))))]; exact U298.2.1), ((rfl).trans (q337.trans (((p321 39 7 (by exact gz_m 378 (by omega)))).trans (R317.trans (by rw [U298.2.2])))))⟩, (gs_ws9_kp U278.2.1 (gc_PKs_fr (gc_PKs_fr (gc_PKs_fr (gc_PKs_fr gc_PKs_rf ((g280 1 17).resolve_left (by exact gz_m 379 (by omega))) (fun k => ((g280 20 k).resolve_left (by exact gz_m 380 (by omega))))) ((g300 1 17).resolve_left (by exact gz_m 381 (by omega))) (fun k => ((g300 20 k).resolve_left (by exact gz_m 382 (by omega))))) (p321 1 17 (by exact gz_m 383 (by omega))) (fun k => (p321 20 k (by exact gz_m 384 (by omega))))) (p337 1 17 (by exact gz_m 385 (by omega))) (fun k => (p337 20 k (by exact gz_m 386 (by omega))))) (fun j h1 h2 => ((((p337 41 j (fun h => by have h9 := h.2; exact gz_m 387 (by omega))).trans (p321 41 j (fun h => by have h9 := h.2; exact gz_m 388 (by omega)))).trans (((g300 41 j).resolve_left (by exact gz_m 389 (by omega))))).trans (((g280 41 j).resolve_left (by exact gz_m 390 (by omega)))))))⟩ ⟨((((((((((((((p337 39 5 (by exact gz_m 391 (by omega))).trans (p321 39 5 (by exact gz_m 392 (by omega)))).trans ((g300 39 5).resolve_left (by exact gz_m 393 (by omega)))).trans ((g280 39 5).resolve_left (by exact gz_m 394 (by omega)))).trans ((g260 39 5).resolve_left (by exact gz_m 395 (by omega)))).trans ((g240 39 5).resolve_left (by exact gz_m 396 (by omega)))).trans ((g220 39 5).resolve_left (by exact gz_m 397 (by omega)))).trans (p206 39 5 (by exact gz_m 398 (by omega)))).trans (p189 39 5 (by exact gz_m 399 (by omega)))).trans ((g161 39 5).resolve_left (by exact gz_m 400 (by omega)))).trans ((g140 39 5).resolve_left (by exact gz_m 401 (by omega)))).trans ((g120 39 5).resolve_left (by exact gz_m 402 (by omega)))).trans ((g94 39 5).resolve_left (by exact gz_m 403 (by omega))))), (fun k => (((((((((((((p337 (t + 15) k (by exact gz_m 404 (by omega))).trans (p321 (t + 15) k (by exact gz_m 405 (by omega)))).trans ((g300 (t + 15) k).resolve_left (by exact gz_m 406 (by omega)))).trans ((g280 (t + 15) k).resolve_left (by exact gz_m 407 (by omega)))).trans ((g260 (t + 15) k).resolve_left (by exact gz_m 408 (by omega)))).trans ((g240 (t + 15) k).resolve_left (by exact gz_m 409 (by omega)))).trans ((g220 (t + 15) k).resolve_left (by exact gz_m 410 (by omega)))).trans (p206 (t + 15) k (by exact gz_m 411 (by omega)))).trans (p189 (t + 15) k (by exact gz_m 412 (by omega)))).trans ((g161 (t + 15) k).resolve_left (by exact gz_m 413 (by omega)))).trans ((g140 (t + 15) k).resolve_left (by exact gz_m 414 (by omega)))).trans ((g120 (t + 15) k).resolve_left (by exact gz_m 415 (by omega)))).trans ((g94 (t + 15) k).resolve_left (by exact gz_m 416 (by omega)))))⟩
              · show gv_X _ _ (156, [(1, .inl z114), (0, .inr (.inr (some 39)))], [], sh, gc_h sh I301 J302 A)
                obtain ⟨u353, u353_⟩ := gs_or0 q300.2.2.2.2 (by exact gz_m 417 (by omega))
                refine gv_run 1 true hD (pc' := 157) (lv' := [(1, .inl z114), (0, .inr (.inr (some 39)))]) (st' := [.inl 0]) (h' := gc_h sh I301 J302 A) (C := (True ∧ True)) rfl ⟨trivial, trivial⟩ ?_
                exact gv_zret hD rfl (by exact gz_m 418 (by omega)) ⟨I301, J302, rfl, hI301, FI301, FJ302, KLT_I301, KTK_I301, ⟨_, rfl, by exact gz_m 419 (by omega), by exact gz_m 420 (by omega), by exact gz_m 421 (by omega), by exact gz_m 422 (by omega), by exact gz_m 423 (by omega), by exact gz_m 424 (by omega), by exact gz_m 425 (by omega), (Or.inl (by exact gz_m 426 (by omega))), KPK_I301, (Or.inr ⟨by exact gz_m 427 (by omega), by first | (exfalso; exact gz_m 428 (by omega)) | (unfold gs_wd gs_wd0 gs_wd1 gs_wd2; (repeat first | rw [if_pos (by exact gz_m 429 (by omega))] | rw [if_neg (by exact gz_m 430 (by omega))]); rw [U298.1]; unfold gs_wd5; (repeat first | rw [if_pos (by exact gz_m 431 (by omega))] | rw [if_neg (by exact gz_m 432 (by omega))]); exact ⟨by exact gz_m 433 (by omega), by exact gz_m 434 (by omega), fun j => ((((((((((((g300 (t + 15) j).resolve_left (by exact gz_m 435 (by omega))).trans ((g280 (t + 15) j).resolve_left (by exact gz_m 436 (by omega)))).trans ((g260 (t + 15) j).resolve_left (by exact gz_m 437 (by omega)))).trans ((g240 (t + 15) j).resolve_left (by exact gz_m 438 (by omega)))).trans ((g220 (t + 15) j).resolve_left (by exact gz_m 439 (by omega)))).trans (p206 (t + 15) j (by exact gz_m 440 (by omega)))).trans (p189 (t + 15) j (by exact gz_m 441 (by omega)))).trans ((g161 (t + 15) j).resolve_left (by exact gz_m 442 (by omega)))).trans ((g140 (t + 15) j).resolve_left (by exact gz_m 443 (by omega)))).trans ((g120 (t + 15) j).resolve_left (by exact gz_m 444 (by omega)))).trans ((g94 (t + 15) j).resolve_left (by exact gz_m 445 (by omega))))⟩)⟩)⟩⟩
      · show gv_X _ _ (80, [(1, .inl z114), (0, .inr (.inr (some 39)))], [], sh, gc_h sh I141 J124 A)
        have u354 := gs_or0 q140.2.2.2 (by exact gz_m 446 (by omega))
        have L140 : gs_T β η (gs_X β η p9) = 1 → gc_fd (J124 ((t + 11) + 1)) (gs_M β η (gs_X β η p9)) (Int.toNat (I123 (t + 11) 1)) = gs_lt Jr 23 (24 * Ir 0 6) (Ir 17 (Int.toNat (Ir 0 6))) (gs_rn β η (gs_X β η p9)) := (fun h => by rw [show I123 (t + 11) 1 = I (t + 11) 1 from (((g120 (t + 11) 1).resolve_left (by exact gz_m 447 (by omega))).trans ((g94 (t + 11) 1).resolve_left (by exact gz_m 448 (by omega)))), show J124 ((t + 11) + 1) = J ((t + 11) + 1) from funext fun j => ((k120 (t + 12) j).resolve_left (by exact gz_m 449 (by omega)))]; exact gs_NA_lt x9 x8 h)
        refine gv_run 1 true hD (pc' := 81) (lv' := [(1, .inl z114), (0, .inr (.inr (some 39)))]) (st' := [.inl 0]) (h' := gc_h sh I141 J124 A) (C := (True ∧ True)) rfl ⟨trivial, trivial⟩ ?_
        exact gv_zret hD rfl (by exact gz_m 450 (by omega)) ⟨I141, J124, rfl, hI141, FI141, FJ124, KLT_I141, KTK_I141, ⟨_, rfl, by exact gz_m 451 (by omega), by exact gz_m 452 (by omega), by exact gz_m 453 (by omega), by exact gz_m 454 (by omega), by exact gz_m 455 (by omega), by exact gz_m 456 (by omega), by exact gz_m 457 (by omega), (Or.inl (by exact gz_m 458 (by omega))), KPK_I141, (Or.inr ⟨by exact gz_m 459 (by omega), by first | (exfalso; exact gz_m 460 (by omega)) | (unfold gs_wd gs_wd0 gs_wd1 gs_wd2; by_cases c9 : gs_T β η (gs_X β η p9) = 1; (have h9 := L140 c9; (repeat first | rw [if_pos (by exact gz_m 461 (by omega))] | rw [if_neg (by exact gz_m 462 (by omega))]); exact ⟨by exact gz_m 463 (by omega), by exact gz_m 464 (by omega), fun j => ((((g140 (t + 15) j).resolve_left (by exact gz_m 465 (by omega))).trans ((g120 (t + 15) j).resolve_left (by exact gz_m 466 (by omega)))).trans ((g94 (t + 15) j).resolve_left (by exact gz_m 467 (by omega))))⟩); (repeat first | rw [if_pos (by exact gz_m 468 (by omega))] | rw [if_neg (by exact gz_m 469 (by omega))]); exact ⟨by exact gz_m 470 (by omega), by exact gz_m 471 (by omega), fun j => ((((g140 (t + 15) j).resolve_left (by exact gz_m 472 (by omega))).trans ((g120 (t + 15) j).resolve_left (by exact gz_m 473 (by omega)))).trans ((g94 (t + 15) j).resolve_left (by exact gz_m 474 (by omega))))⟩)⟩)⟩⟩
    · show gv_X _ _ (46, [(1, .inl z114), (0, .inr (.inr (some 39)))], [], sh, gc_h sh I95 J A)
      refine gv_run 3 true hD (pc' := 49) (lv' := [(1, .inl z114), (0, .inr (.inr (some 39)))]) (st' := [.inr (.inr (some 39)), .inl 5, .inr (.inr (some 39))]) (h' := gc_h sh I95 J A) (C := (((True ∧ True) ∧ True) ∧ True)) rfl ⟨⟨⟨trivial, trivial⟩, trivial⟩, trivial⟩ ?_
      refine gv_get hD rfl rfl S_39 ⟨by decide, B_39⟩ (gc_hA S_39 rfl A_39_1) ?_
      show gv_X _ _ (52, [(1, .inl z114), (0, .inr (.inr (some 39)))], [.inr (.inr (some 23)), .inl 5, .inr (.inr (some 39))], sh, gc_h sh I95 J A)
      have f355 := (gc_b_3_5 hI95 R_23)
      refine gv_get hD rfl rfl S_23 ⟨by decide, B_23⟩ (gc_hI S_23 rfl) ?_
      show gv_X _ _ (55, [(1, .inl z114), (0, .inr (.inr (some 39)))], [.inl (I95 23 5), .inl 5, .inr (.inr (some 39))], sh, gc_h sh I95 J A)
      obtain ⟨r356, h356, E356, P356⟩ := d_X6_wrong_p (ws0 := ws0) (tb := tb) hws htb sh ro I95 J A hI95  5 (I95 23 5) hb   ⟨by exact gz_m 475 (by omega), by exact gz_m 476 (by omega)⟩ ⟨by exact gz_m 477 (by omega), by exact gz_m 478 (by omega)⟩  
      obtain ⟨I357, J358, rfl, hI357, g356, k356, ⟨z356, rfl, q356⟩⟩ := P356
      have FI357 := gc_frc (W := fun q j => (q = 39 ∧ j = 3) ∨ (q = 39 ∧ j = 4) ∨ (q = 23 ∧ j = 5) ∨ (q = 23 ∧ j = 6) ∨ (q = 23 ∧ j = 7) ∨ (q = 23 ∧ j = 8) ∨ (q = 1 ∧ j = 17) ∨ (q = 1 ∧ j = 18) ∨ q = 20 ∨ (q = 39 ∧ j = 6) ∨ (q = 39 ∧ j = 7) ∨ q = 41 ∨ (q = (t + 15) ∧ (11 * I t 11 ≤ (j : Int))) ∨ (q = t ∧ j = 11)) (V := fun q j => (q = 39 ∧ j = 3) ∨ (q = 39 ∧ j = 4)) FI95 (fun q j h => (h.elim (fun h => (Or.inl h)) (fun h => (Or.inr (Or.inl h))))) g356
      have t359 := (g356 23 1).resolve_left (fun h => h.elim (fun h => absurd h.2 (gz_ne rfl)) (fun h => absurd h.2 (gz_ne rfl)))
      have t360 := (g356 23 5).resolve_left (fun h => h.elim (fun h => absurd h.2 (gz_ne rfl)) (fun h => absurd h.2 (gz_ne rfl)))
      have t361 := (g356 23 6).resolve_left (fun h => h.elim (fun h => absurd h.2 (gz_ne rfl)) (fun h => absurd h.2 (gz_ne rfl)))
      have t362 := (g356 23 7).resolve_left (fun h => h.elim (fun h => absurd h.2 (gz_ne rfl)) (fun h => absurd h.2 (gz_ne rfl)))
      have t363 := (g356 1 17).resolve_left (fun h => h.elim (fun h => absurd h.2 (gz_ne rfl)) (fun h => absurd h.2 (gz_ne rfl)))
      have t364 := (g356 4 1).resolve_left (fun h => h.elim (fun h => absurd h.2 (gz_ne rfl)) (fun h => absurd h.2 (gz_ne rfl)))
      have t365 := (g356 (t + 11) 1).resolve_left (fun h => h.elim (fun h => absurd h.2 (gz_ne rfl)) (fun h => absurd h.2 (gz_ne rfl)))
      have t366 := (g356 t 11).resolve_left (fun h => h.elim (fun h => absurd h.2 (gz_ne rfl)) (fun h => absurd h.2 (gz_ne rfl)))
      have t367 := (g356 39 5).resolve_left (fun h => h.elim (fun h => absurd h.2 (gz_ne rfl)) (fun h => absurd h.2 (gz_ne rfl)))
      have t368 := (g356 1 18).resolve_left (fun h => h.elim (fun h => absurd h.2 (gz_ne rfl)) (fun h => absurd h.2 (gz_ne rfl)))
      have t369 := (g356 39 2).resolve_left (fun h => h.elim (fun h => absurd h.2 (gz_ne rfl)) (fun h => absurd h.2 (gz_ne rfl)))
      have t370 := (g356 41 0).resolve_left (fun h => h.elim (fun h => absurd h.2 (gz_ne rfl)) (fun h => absurd h.2 (gz_ne rfl)))
      obtain rfl : J = J358 := funext fun q => funext fun j => ((k356 q j).resolve_left id).symm
      have KLT_I357 := gc_LT_fr KLT_I95 ((g356 23 5).resolve_left (fun h => h.elim (fun h => absurd h.2 (gz_ne rfl)) (fun h => absurd h.2 (gz_ne rfl)))) ((g356 23 6).resolve_left (fun h => h.elim (fun h => absurd h.2 (gz_ne rfl)) (fun h => absurd h.2 (gz_ne rfl)))) ((g356 23 7).resolve_left (fun h => h.elim (fun h => absurd h.2 (gz_ne rfl)) (fun h => absurd h.2 (gz_ne rfl)))) (fun k => (g356 24 k).resolve_left (fun h => h.elim (fun h => absurd h.1 (gz_ne rfl)) (fun h => absurd h.1 (gz_ne rfl))))
      have KTK_I357 := gc_TK_fr KTK_I95 ((g356 23 1).resolve_left (fun h => h.elim (fun h => absurd h.2 (gz_ne rfl)) (fun h => absurd h.2 (gz_ne rfl)))) ((g356 23 5).resolve_left (fun h => h.elim (fun h => absurd h.2 (gz_ne rfl)) (fun h => absurd h.2 (gz_ne rfl)))) ((g356 23 6).resolve_left (fun h => h.elim (fun h => absurd h.2 (gz_ne rfl)) (fun h => absurd h.2 (gz_ne rfl)))) ((g356 23 7).resolve_left (fun h => h.elim (fun h => absurd h.2 (gz_ne rfl)) (fun h => absurd h.2 (gz_ne rfl))))
      have KPK_I357 := gc_PKs_fr KPK_I95 ((g356 1 17).resolve_left (fun h => h.elim (fun h => absurd h.2 (gz_ne rfl)) (fun h => absurd h.2 (gz_ne rfl)))) (fun k => (g356 20 k).resolve_left (fun h => h.elim (fun h => absurd h.1 (gz_ne rfl)) (fun h => absurd h.1 (gz_ne rfl))))
      have A371 := gc_AT_I A109 ((g356 23 1).resolve_left (fun h => h.elim (fun h => absurd h.2 (gz_ne rfl)) (fun h => absurd h.2 (gz_ne rfl)))) ((g356 23 5).resolve_left (fun h => h.elim (fun h => absurd h.2 (gz_ne rfl)) (fun h => absurd h.2 (gz_ne rfl)))) ((g356 23 6).resolve_left (fun h => h.elim (fun h => absurd h.2 (gz_ne rfl)) (fun h => absurd h.2 (gz_ne rfl)))) ((g356 23 7).resolve_left (fun h => h.elim (fun h => absurd h.2 (gz_ne rfl)) (fun h => absurd h.2 (gz_ne rfl)))) ((g356 23 8).resolve_left (fun h => h.elim (fun h => absurd h.2 (gz_ne rfl)) (fun h => absurd h.2 (gz_ne rfl)))) (fun k => (g356 24 k).resolve_left (fun h => h.elim (fun h => absurd h.1 (gz_ne rfl)) (fun h => absurd h.1 (gz_ne rfl))))
      have t372 := gc_AT_l A371
      refine gv_callV hD rfl (As := [.inl 5, .inl (I95 23 5)]) (st := []) rfl B_39 S_39 rfl (gc_lV6 hws rfl) (Nat.le_of_ble_eq_true rfl) (gz_Ev_mono (d := 1) (by decide) E356) ?_
      show gv_X _ _ (58, [(1, .inl z114), (0, .inr (.inr (some 39)))], [.inl z356], sh, gc_h sh I357 J A)
      exact gv_zret hD rfl (by exact gz_m 479 (by omega)) ⟨I357, J, rfl, hI357, FI357, FJ, KLT_I357, KTK_I357, ⟨_, rfl, by exact gz_m 480 (by omega), by exact gz_m 481 (by omega), by exact gz_m 482 (by omega), by exact gz_m 483 (by omega), by exact gz_m 484 (by omega), by exact gz_m 485 (by omega), by exact gz_m 486 (by omega), (Or.inl (by exact gz_m 487 (by omega))), KPK_I357, (Or.inr ⟨by exact gz_m 488 (by omega), by first | (exfalso; exact gz_m 489 (by omega)) | (unfold gs_wd gs_wd0 gs_wd1 gs_wd2; (repeat first | rw [if_pos (by exact gz_m 490 (by omega))] | rw [if_neg (by exact gz_m 491 (by omega))]); exact ⟨by exact gz_m 492 (by omega), by exact gz_m 493 (by omega), fun j => (((g356 (t + 15) j).resolve_left (by exact gz_m 494 (by omega))).trans ((g94 (t + 15) j).resolve_left (by exact gz_m 495 (by omega))))⟩)⟩)⟩⟩
  · show gv_X _ _ (14, [(0, .inr (.inr (some 39)))], [], sh, gc_h sh I95 J A)
    have u373 := gs_or0 q94.2.2.2 (by exact gz_m 496 (by omega))
    have L94 : gs_T β η p9 = 1 → gc_fd (J (4 + 1)) (gs_M β η p9) (Int.toNat (I 4 1)) = gs_lk Ir Jr 3 3 (gs_rn β η p9) := (fun h => by exact gs_NA_lk x7 x6 h)
    refine gv_run 1 true hD (pc' := 15) (lv' := [(0, .inr (.inr (some 39)))]) (st' := [.inl 0]) (h' := gc_h sh I95 J A) (C := (True ∧ True)) rfl ⟨trivial, trivial⟩ ?_
    exact gv_zret hD rfl (by exact gz_m 497 (by omega)) ⟨I95, J, rfl, hI95, FI95, FJ, KLT_I95, KTK_I95, ⟨_, rfl, by exact gz_m 498 (by omega), by exact gz_m 499 (by omega), by exact gz_m 500 (by omega), by exact gz_m 501 (by omega), by exact gz_m 502 (by omega), by exact gz_m 503 (by omega), by exact gz_m 504 (by omega), (Or.inl (by exact gz_m 505 (by omega))), KPK_I95, (Or.inr ⟨by exact gz_m 506 (by omega), by first | (exfalso; exact gz_m 507 (by omega)) | (unfold gs_wd gs_wd0 gs_wd1 gs_wd2; by_cases c9 : gs_T β η p9 = 1; (have h9 := L94 c9; (repeat first | rw [if_pos (by exact gz_m 508 (by omega))] | rw [if_neg (by exact gz_m 509 (by omega))]); exact ⟨by exact gz_m 510 (by omega), by exact gz_m 511 (by omega), fun j => ((g94 (t + 15) j).resolve_left (by exact gz_m 512 (by omega)))⟩); (repeat first | rw [if_pos (by exact gz_m 513 (by omega))] | rw [if_neg (by exact gz_m 514 (by omega))]); exact ⟨by exact gz_m 515 (by omega), by exact gz_m 516 (by omega), fun j => ((g94 (t + 15) j).resolve_left (by exact gz_m 517 (by omega)))⟩)⟩)⟩⟩
