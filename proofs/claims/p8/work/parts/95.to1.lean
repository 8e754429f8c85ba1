def gc_ne (a b : Nat) : Prop := ¬ (a = b)
set_option maxHeartbeats 8000000 in
set_option maxRecDepth 100000 in
theorem d_X6_readItems_l_p_L23 {ws0 : List Cond} {tb : String → gz_T} (hws : gc_Ws ws0) (htb : gc_tbs tb) (sh : gz_Sh) (ro : Nat → Nat) (I : gr_I) (J : gr_J) (A : gc_A) (hI : gc_Inv ro I) (t : Nat) (B : Int) (β : Int → Int) (η : Int) (p9 : Int) (Ir : gr_I) (Jr : gr_J) (nf9 : Int) (a1 : Nat) (hb : gc_Base sh ro A) (h_a1 : gc_isLin sh ro A a1) (G_a1 : 144 ≤ a1) (h_t : gc_isTongue sh ro A t) (G_t : 144 ≤ t)  (x0 : B ≤ 1280 ∧ I 1 17 + I 23 1 ≤ B + I 23 5) (x1 : gc_LI a1 (I a1 4) I) (x2 : gc_AT β η p9 23 I J) (x3 : 0 ≤ p9) (x4 : I 1 18 = 0) (x5 : I a1 4 = 0) (x6 : gs_SO I a1 nf9 (fun _ => -1)) (x7 : nf9 ≤ 4) (x8 : nf9 = I 12 (Int.toNat (I a1 1))) (x9 : I (t + 3) 1 = Ir 14 (Int.toNat (Ir 0 6))) (x10 : gs_NA (I (t + 3) 1) (J (t + 4)) (fun k => Jr 21 (Int.toNat (48 * Ir 0 6 + (k : Int))))) (x11 : gs_VR Ir I t) (x12 : I 39 2 = (t : Int)) (KLT_I : gc_LT I) (KTK_I : gc_TK I) (KCT_I : gc_CT a1 I) : ∀ (n9 : Nat) (I11 : gr_I) (J12 : gr_J) (v2_13 : Int) (p_13 : Int), (8 - v2_13).toNat < n9 → gc_Inv ro I11 → (∀ q j : Nat, ((q = 39 ∧ j = 3) ∨ (q = 39 ∧ j = 4) ∨ (q = 23 ∧ j = 5) ∨ (q = 23 ∧ j = 6) ∨ (q = 23 ∧ j = 7) ∨ (q = 23 ∧ j = 8) ∨ (q = 1 ∧ j = 17) ∨ (q = 1 ∧ j = 18) ∨ q = 20 ∨ (q = 39 ∧ j = 6) ∨ q = (a1 + 1) ∨ q = (a1 + 6) ∨ q = (a1 + 4) ∨ q = (a1 + 5) ∨ (q = a1 ∧ j = 8) ∨ q = (a1 + 2) ∨ q = (a1 + 3) ∨ (q = a1 ∧ j = 4)) ∨ I11 q j = I q j) → (∀ q j : Nat, ((q = 23 ∧ j = 9)) ∨ J12 q j = J q j) → gc_LT I11 → gc_TK I11 → gc_CT a1 I11 → gc_PKs I I11 → ((0 ≤ v2_13 ∧ v2_13 ≤ 7) ∧ (v2_13 + I a1 4 ≤ I11 a1 4) ∧ (1 ≤ v2_13 ∨ I11 23 7 = 2 ∨ I11 23 7 = 3) ∧ (0 ≤ p_13) ∧ (I11 1 18 = 0) ∧ (I11 a1 4 = v2_13 ∧ v2_13 ≤ 6) ∧ (I11 23 1 = I 23 1) ∧ (I 23 5 ≤ I11 23 5) ∧ (B ≤ 1280 ∧ I11 1 17 + I11 23 1 ≤ B + I11 23 5) ∧ (I11 39 2 = (t : Int))) → (gc_LI a1 (I11 a1 4) I11) → (gc_AT β η p_13 23 I11 J12) → (∃ (i9 : Int) (a8 : Nat → Int), gs_li β η Ir Jr nf9 1002 0 0 (fun _ => -1) p9 = gs_li β η Ir Jr nf9 (Int.toNat (1002 - v2_13)) v2_13 i9 a8 p_13 ∧ gs_SO I11 a1 nf9 a8 ∧ gs_FF v2_13 i9 a8 (gs_A β η p9) a1 I11) → (v2_13 = 0 → p_13 = p9) → (gs_T β η p9 = 3 ∨ gs_T β η p9 = 2) → gv_X (gc_E6 ws0 tb 4 (yX6_readItems, cX6_readItems, 3, (some .boolean)) kX6_readItems) (gv_Q cX6_readItems (some .boolean) sh (fun r h' => (∃ (I' : gr_I) (J' : gr_J), h' = gc_h sh I' J' A ∧ gc_Inv ro I' ∧ (∀ q j : Nat, ((q = 39 ∧ j = 3) ∨ (q = 39 ∧ j = 4) ∨ (q = 23 ∧ j = 5) ∨ (q = 23 ∧ j = 6) ∨ (q = 23 ∧ j = 7) ∨ (q = 23 ∧ j = 8) ∨ (q = 1 ∧ j = 17) ∨ (q = 1 ∧ j = 18) ∨ q = 20 ∨ (q = 39 ∧ j = 6) ∨ q = (a1 + 1) ∨ q = (a1 + 6) ∨ q = (a1 + 4) ∨ q = (a1 + 5) ∨ (q = a1 ∧ j = 8) ∨ q = (a1 + 2) ∨ q = (a1 + 3) ∨ (q = a1 ∧ j = 4)) ∨ I' q j = I q j) ∧ (∀ q j : Nat, ((q = 23 ∧ j = 9)) ∨ J' q j = J q j) ∧ gc_LT I' ∧ gc_TK I' ∧ gc_CT a1 I' ∧ (∃ z : Int, r = some (.inl z) ∧ 0 ≤ z ∧ z ≤ 1 ∧ (I' 23 1 = I 23 1) ∧ (I 23 5 ≤ I' 23 5) ∧ (B ≤ 1280 ∧ I' 1 17 + I' 23 1 ≤ B + I' 23 5) ∧ (z = 0 ∨ I a1 4 < I' a1 4) ∧ (gc_LE z a1 (I' a1 4) I') ∧ (gc_PKs I I') ∧ (gs_Or z (0 ≤ (gs_itm β η Ir Jr nf9 p9) ∧ gc_AT β η (gs_itm β η Ir Jr nf9 p9) 23 I' J' ∧ I' 1 18 = 0 ∧ gs_LX (gs_li β η Ir Jr nf9 1002 0 0 (fun _ => -1) p9) nf9 (gs_A β η p9) a1 I') ((gs_itm β η Ir Jr nf9 p9) < 0 ∧ I' 39 4 = -1 - (gs_itm β η Ir Jr nf9 p9))))))) (23, [(0, .inr (.inr (some 39))), (1, .inr (.inr (some a1))), (2, .inl v2_13)], [], sh, gc_h sh I11 J12 A) := by
  have FI : ∀ q j : Nat, ((q = 39 ∧ j = 3) ∨ (q = 39 ∧ j = 4) ∨ (q = 23 ∧ j = 5) ∨ (q = 23 ∧ j = 6) ∨ (q = 23 ∧ j = 7) ∨ (q = 23 ∧ j = 8) ∨ (q = 1 ∧ j = 17) ∨ (q = 1 ∧ j = 18) ∨ q = 20 ∨ (q = 39 ∧ j = 6) ∨ q = (a1 + 1) ∨ q = (a1 + 6) ∨ q = (a1 + 4) ∨ q = (a1 + 5) ∨ (q = a1 ∧ j = 8) ∨ q = (a1 + 2) ∨ q = (a1 + 3) ∨ (q = a1 ∧ j = 4)) ∨ I q j = I q j := fun _ _ => Or.inr rfl
  have FJ : ∀ q j : Nat, ((q = 23 ∧ j = 9)) ∨ J q j = J q j := fun _ _ => Or.inr rfl
  have A_39_1 : A 39 1 = some 23 := gc_bA_39_1 hb
  have B_23 : 23 < 1000000 := by decide
  have B_39 : 39 < 1000000 := by decide
  have R_1 : ro 1 = 22 := gc_bR_1 hb
  have R_12 : ro 12 = 26 := gc_bR_12 hb
  have R_23 : ro 23 = 3 := gc_bR_23 hb
  have R_39 : ro 39 = 42 := gc_bR_39 hb
  have S_23 : sh[23]? = some (false, 9, 10) := gc_bS_23 hb
  have S_39 : sh[39]? = some (false, 6, 19) := gc_bS_39 hb
  obtain ⟨S_a1, R_a1, B_a1, A_a1_5, S_a1_1, R_a1_1, B_a1_1, A_a1_6, S_a1_2, R_a1_2, B_a1_2, A_a1_7, S_a1_3, R_a1_3, B_a1_3, A_a1_9, S_a1_4, R_a1_4, B_a1_4, A_a1_10, S_a1_5, R_a1_5, B_a1_5, A_a1_11, S_a1_6, R_a1_6, B_a1_6, A_a1_13, S_a1_7, R_a1_7, B_a1_7, A_a1_15, S_a1_8, R_a1_8, B_a1_8⟩ := id h_a1
  obtain ⟨S_t, R_t, B_t, A_t_0, h_t_1, A_t_1, h_t_3, A_t_2, S_t_5, R_t_5, B_t_5, A_t_3, S_t_6, R_t_6, B_t_6, A_t_4, h_t_7, A_t_5, S_t_9, R_t_9, B_t_9, A_t_7, S_t_10, R_t_10, B_t_10, A_t_8, h_t_11, A_t_9, S_t_13, R_t_13, B_t_13, A_t_10, S_t_14, R_t_14, B_t_14, A_t_12, S_t_15, R_t_15, B_t_15, A_t_14, S_t_16, R_t_16, B_t_16, A_t_15, h_t_17⟩ := id h_t
  obtain ⟨S_t_1, R_t_1, B_t_1, A_t_1_0, S_t_1_1, R_t_1_1, B_t_1_1, Q0_t_1, Q1_t_1, Q2_t_1⟩ := id h_t_1
  obtain ⟨S_t_3, R_t_3, B_t_3, A_t_3_0, S_t_3_1, R_t_3_1, B_t_3_1, Q0_t_3, Q1_t_3, Q2_t_3⟩ := id h_t_3
  obtain ⟨S_t_7, R_t_7, B_t_7, A_t_7_0, S_t_7_1, R_t_7_1, B_t_7_1, Q0_t_7, Q1_t_7, Q2_t_7⟩ := id h_t_7
  obtain ⟨S_t_11, R_t_11, B_t_11, A_t_11_0, S_t_11_1, R_t_11_1, B_t_11_1, Q0_t_11, Q1_t_11, Q2_t_11⟩ := id h_t_11
  obtain ⟨S_t_17, R_t_17, B_t_17, A_t_17_0, S_20, R_20, B_20, A_t_17_1, S_t_17_1, R_t_17_1, B_t_17_1, A_t_17_2, S_t_17_2, R_t_17_2, B_t_17_2, A_t_17_3, S_t_17_3, R_t_17_3, B_t_17_3, A_t_17_4, S_t_17_4, R_t_17_4, B_t_17_4, A_t_17_5, S_t_17_5, R_t_17_5, B_t_17_5, S_t_17_6, R_t_17_6, B_t_17_6, S_t_17_7, R_t_17_7, B_t_17_7⟩ := id h_t_17
  have N1 := gc_dj_LT h_a1 h_t
  have hD : gv_D (gc_E6 ws0 tb 4 (yX6_readItems, cX6_readItems, 3, (some .boolean)) kX6_readItems) := gq_of oX6_readItems
  have N_a1_4__23 : gc_ne (a1 + 4) 23 := (show ¬ ((a1 + 4) = 23) by exact gz_m 0 (by omega))
  have N_a1_4__a1_3 : gc_ne (a1 + 4) (a1 + 3) := (show ¬ ((a1 + 4) = (a1 + 3)) by exact gz_m 1 (by omega))
  have N_a1_4__a1_2 : gc_ne (a1 + 4) (a1 + 2) := (show ¬ ((a1 + 4) = (a1 + 2)) by exact gz_m 2 (by omega))
  have N_a1_4__1 : gc_ne (a1 + 4) 1 := (show ¬ ((a1 + 4) = 1) by exact gz_m 3 (by omega))
  have N_a1_4__20 : gc_ne (a1 + 4) 20 := (show ¬ ((a1 + 4) = 20) by exact gz_m 4 (by omega))
  have N_a1_4__a1_1 : gc_ne (a1 + 4) (a1 + 1) := (show ¬ ((a1 + 4) = (a1 + 1)) by exact gz_m 5 (by omega))
  have N_12__a1_3 : gc_ne 12 (a1 + 3) := (show ¬ (12 = (a1 + 3)) by exact gz_m 6 (by omega))
  have N_12__a1_2 : gc_ne 12 (a1 + 2) := (show ¬ (12 = (a1 + 2)) by exact gz_m 7 (by omega))
  have N_12__a1_1 : gc_ne 12 (a1 + 1) := (show ¬ (12 = (a1 + 1)) by exact gz_m 8 (by omega))
  have N_a1_4__a1 : gc_ne (a1 + 4) a1 := (show ¬ ((a1 + 4) = a1) by exact gz_m 9 (by omega))
  have N_12__a1 : gc_ne 12 a1 := (show ¬ (12 = a1) by exact gz_m 10 (by omega))
  have N_12__a1_6 : gc_ne 12 (a1 + 6) := (show ¬ (12 = (a1 + 6)) by exact gz_m 11 (by omega))
  have N_12__a1_4 : gc_ne 12 (a1 + 4) := (show ¬ (12 = (a1 + 4)) by exact gz_m 12 (by omega))
  have N_12__a1_5 : gc_ne 12 (a1 + 5) := (show ¬ (12 = (a1 + 5)) by exact gz_m 13 (by omega))
  have N_t_3__20 : gc_ne (t + 3) 20 := (show ¬ ((t + 3) = 20) by exact gz_m 14 (by omega))
  have N_t_3__a1_1 : gc_ne (t + 3) (a1 + 1) := (show ¬ ((t + 3) = (a1 + 1)) by exact gz_m 15 (by omega))
  have N_t_3__a1_6 : gc_ne (t + 3) (a1 + 6) := (show ¬ ((t + 3) = (a1 + 6)) by exact gz_m 16 (by omega))
  have N_t_3__a1_4 : gc_ne (t + 3) (a1 + 4) := (show ¬ ((t + 3) = (a1 + 4)) by exact gz_m 17 (by omega))
  have N_t_3__a1_5 : gc_ne (t + 3) (a1 + 5) := (show ¬ ((t + 3) = (a1 + 5)) by exact gz_m 18 (by omega))
  have N_t_3__a1_2 : gc_ne (t + 3) (a1 + 2) := (show ¬ ((t + 3) = (a1 + 2)) by exact gz_m 19 (by omega))
  have N_t_3__a1_3 : gc_ne (t + 3) (a1 + 3) := (show ¬ ((t + 3) = (a1 + 3)) by exact gz_m 20 (by omega))
  have N_t_4__23 : gc_ne (t + 4) 23 := (show ¬ ((t + 4) = 23) by exact gz_m 21 (by omega))
  have N_t_5__39 : gc_ne (t + 5) 39 := (show ¬ ((t + 5) = 39) by exact gz_m 22 (by omega))
  have N_t_5__23 : gc_ne (t + 5) 23 := (show ¬ ((t + 5) = 23) by exact gz_m 23 (by omega))
  have N_t_5__1 : gc_ne (t + 5) 1 := (show ¬ ((t + 5) = 1) by exact gz_m 24 (by omega))
  have N_t_5__20 : gc_ne (t + 5) 20 := (show ¬ ((t + 5) = 20) by exact gz_m 25 (by omega))
  have N_t_5__a1_1 : gc_ne (t + 5) (a1 + 1) := (show ¬ ((t + 5) = (a1 + 1)) by exact gz_m 26 (by omega))
  have N_t_5__a1_6 : gc_ne (t + 5) (a1 + 6) := (show ¬ ((t + 5) = (a1 + 6)) by exact gz_m 27 (by omega))
  have N_t_5__a1_4 : gc_ne (t + 5) (a1 + 4) := (show ¬ ((t + 5) = (a1 + 4)) by exact gz_m 28 (by omega))
  have N_t_5__a1_5 : gc_ne (t + 5) (a1 + 5) := (show ¬ ((t + 5) = (a1 + 5)) by exact gz_m 29 (by omega))
  have N_t_5__a1 : gc_ne (t + 5) a1 := (show ¬ ((t + 5) = a1) by exact gz_m 30 (by omega))
  have N_t_5__a1_2 : gc_ne (t + 5) (a1 + 2) := (show ¬ ((t + 5) = (a1 + 2)) by exact gz_m 31 (by omega))
  have N_t_5__a1_3 : gc_ne (t + 5) (a1 + 3) := (show ¬ ((t + 5) = (a1 + 3)) by exact gz_m 32 (by omega))
  have N_t_6__39 : gc_ne (t + 6) 39 := (show ¬ ((t + 6) = 39) by exact gz_m 33 (by omega))
  have N_t_6__23 : gc_ne (t + 6) 23 := (show ¬ ((t + 6) = 23) by exact gz_m 34 (by omega))
  have N_t_6__1 : gc_ne (t + 6) 1 := (show ¬ ((t + 6) = 1) by exact gz_m 35 (by omega))
  have N_t_6__20 : gc_ne (t + 6) 20 := (show ¬ ((t + 6) = 20) by exact gz_m 36 (by omega))
  have N_t_6__a1_1 : gc_ne (t + 6) (a1 + 1) := (show ¬ ((t + 6) = (a1 + 1)) by exact gz_m 37 (by omega))
  have N_t_6__a1_6 : gc_ne (t + 6) (a1 + 6) := (show ¬ ((t + 6) = (a1 + 6)) by exact gz_m 38 (by omega))
  have N_t_6__a1_4 : gc_ne (t + 6) (a1 + 4) := (show ¬ ((t + 6) = (a1 + 4)) by exact gz_m 39 (by omega))
  have N_t_6__a1_5 : gc_ne (t + 6) (a1 + 5) := (show ¬ ((t + 6) = (a1 + 5)) by exact gz_m 40 (by omega))
  have N_t_6__a1 : gc_ne (t + 6) a1 := (show ¬ ((t + 6) = a1) by exact gz_m 41 (by omega))
  have N_t_6__a1_2 : gc_ne (t + 6) (a1 + 2) := (show ¬ ((t + 6) = (a1 + 2)) by exact gz_m 42 (by omega))
  have N_t_6__a1_3 : gc_ne (t + 6) (a1 + 3) := (show ¬ ((t + 6) = (a1 + 3)) by exact gz_m 43 (by omega))
  have N_a1_1__39 : gc_ne (a1 + 1) 39 := (show ¬ ((a1 + 1) = 39) by exact gz_m 44 (by omega))
  have N_a1_4__39 : gc_ne (a1 + 4) 39 := (show ¬ ((a1 + 4) = 39) by exact gz_m 45 (by omega))
  have N_23__a1_1 : gc_ne 23 (a1 + 1) := (show ¬ (23 = (a1 + 1)) by exact gz_m 46 (by omega))
  have N_1__a1_1 : gc_ne 1 (a1 + 1) := (show ¬ (1 = (a1 + 1)) by exact gz_m 47 (by omega))
  have N_a1__a1_1 : gc_ne a1 (a1 + 1) := (show ¬ (a1 = (a1 + 1)) by exact gz_m 48 (by omega))
  have N_39__a1_1 : gc_ne 39 (a1 + 1) := (show ¬ (39 = (a1 + 1)) by exact gz_m 49 (by omega))
  have N_24__a1_1 : gc_ne 24 (a1 + 1) := (show ¬ (24 = (a1 + 1)) by exact gz_m 50 (by omega))
  have N_a1_6__a1_1 : gc_ne (a1 + 6) (a1 + 1) := (show ¬ ((a1 + 6) = (a1 + 1)) by exact gz_m 51 (by omega))
  have N_20__a1_1 : gc_ne 20 (a1 + 1) := (show ¬ (20 = (a1 + 1)) by exact gz_m 52 (by omega))
  have N_a1__20 : gc_ne a1 20 := (show ¬ (a1 = 20) by exact gz_m 53 (by omega))
  have N_a1_6__1 : gc_ne (a1 + 6) 1 := (show ¬ ((a1 + 6) = 1) by exact gz_m 54 (by omega))
  have N_a1_6__20 : gc_ne (a1 + 6) 20 := (show ¬ ((a1 + 6) = 20) by exact gz_m 55 (by omega))
  have N_23__a1_2 : gc_ne 23 (a1 + 2) := (show ¬ (23 = (a1 + 2)) by exact gz_m 56 (by omega))
  have N_1__a1_2 : gc_ne 1 (a1 + 2) := (show ¬ (1 = (a1 + 2)) by exact gz_m 57 (by omega))
  have N_a1__a1_2 : gc_ne a1 (a1 + 2) := (show ¬ (a1 = (a1 + 2)) by exact gz_m 58 (by omega))
  have N_39__a1_2 : gc_ne 39 (a1 + 2) := (show ¬ (39 = (a1 + 2)) by exact gz_m 59 (by omega))
  have N_24__a1_2 : gc_ne 24 (a1 + 2) := (show ¬ (24 = (a1 + 2)) by exact gz_m 60 (by omega))
  have N_a1_6__a1_2 : gc_ne (a1 + 6) (a1 + 2) := (show ¬ ((a1 + 6) = (a1 + 2)) by exact gz_m 61 (by omega))
  have N_20__a1_2 : gc_ne 20 (a1 + 2) := (show ¬ (20 = (a1 + 2)) by exact gz_m 62 (by omega))
  have N_23__a1_3 : gc_ne 23 (a1 + 3) := (show ¬ (23 = (a1 + 3)) by exact gz_m 63 (by omega))
  have N_1__a1_3 : gc_ne 1 (a1 + 3) := (show ¬ (1 = (a1 + 3)) by exact gz_m 64 (by omega))
  have N_a1__a1_3 : gc_ne a1 (a1 + 3) := (show ¬ (a1 = (a1 + 3)) by exact gz_m 65 (by omega))
  have N_39__a1_3 : gc_ne 39 (a1 + 3) := (show ¬ (39 = (a1 + 3)) by exact gz_m 66 (by omega))
  have N_24__a1_3 : gc_ne 24 (a1 + 3) := (show ¬ (24 = (a1 + 3)) by exact gz_m 67 (by omega))
  have N_a1_6__a1_3 : gc_ne (a1 + 6) (a1 + 3) := (show ¬ ((a1 + 6) = (a1 + 3)) by exact gz_m 68 (by omega))
  have N_20__a1_3 : gc_ne 20 (a1 + 3) := (show ¬ (20 = (a1 + 3)) by exact gz_m 69 (by omega))
  have N_a1__23 : gc_ne a1 23 := (show ¬ (a1 = 23) by exact gz_m 70 (by omega))
  have N_a1_6__23 : gc_ne (a1 + 6) 23 := (show ¬ ((a1 + 6) = 23) by exact gz_m 71 (by omega))
  have N_24__a1 : gc_ne 24 a1 := (show ¬ (24 = a1) by exact gz_m 72 (by omega))
  have N_a1_6__a1 : gc_ne (a1 + 6) a1 := (show ¬ ((a1 + 6) = a1) by exact gz_m 73 (by omega))
  have N_20__a1 : gc_ne 20 a1 := (show ¬ (20 = a1) by exact gz_m 74 (by omega))
  have N_a1_1__a1 : gc_ne (a1 + 1) a1 := (show ¬ ((a1 + 1) = a1) by exact gz_m 75 (by omega))
  have N_a1_1__23 : gc_ne (a1 + 1) 23 := (show ¬ ((a1 + 1) = 23) by exact gz_m 76 (by omega))
  have N_a1_1__a1_3 : gc_ne (a1 + 1) (a1 + 3) := (show ¬ ((a1 + 1) = (a1 + 3)) by exact gz_m 77 (by omega))
  have N_a1_1__a1_2 : gc_ne (a1 + 1) (a1 + 2) := (show ¬ ((a1 + 1) = (a1 + 2)) by exact gz_m 78 (by omega))
  have N_a1_1__1 : gc_ne (a1 + 1) 1 := (show ¬ ((a1 + 1) = 1) by exact gz_m 79 (by omega))
  have N_a1_1__20 : gc_ne (a1 + 1) 20 := (show ¬ ((a1 + 1) = 20) by exact gz_m 80 (by omega))
  have N_a1__39 : gc_ne a1 39 := (show ¬ (a1 = 39) by exact gz_m 81 (by omega))
  have N_a1_6__39 : gc_ne (a1 + 6) 39 := (show ¬ ((a1 + 6) = 39) by exact gz_m 82 (by omega))
  have N_23__a1_6 : gc_ne 23 (a1 + 6) := (show ¬ (23 = (a1 + 6)) by exact gz_m 83 (by omega))
  have N_23__a1_4 : gc_ne 23 (a1 + 4) := (show ¬ (23 = (a1 + 4)) by exact gz_m 84 (by omega))
  have N_23__a1_5 : gc_ne 23 (a1 + 5) := (show ¬ (23 = (a1 + 5)) by exact gz_m 85 (by omega))
  have N_1__a1_6 : gc_ne 1 (a1 + 6) := (show ¬ (1 = (a1 + 6)) by exact gz_m 86 (by omega))
  have N_1__a1_4 : gc_ne 1 (a1 + 4) := (show ¬ (1 = (a1 + 4)) by exact gz_m 87 (by omega))
  have N_1__a1_5 : gc_ne 1 (a1 + 5) := (show ¬ (1 = (a1 + 5)) by exact gz_m 88 (by omega))
  have N_a1__a1_6 : gc_ne a1 (a1 + 6) := (show ¬ (a1 = (a1 + 6)) by exact gz_m 89 (by omega))
  have N_a1__a1_4 : gc_ne a1 (a1 + 4) := (show ¬ (a1 = (a1 + 4)) by exact gz_m 90 (by omega))
  have N_a1__a1_5 : gc_ne a1 (a1 + 5) := (show ¬ (a1 = (a1 + 5)) by exact gz_m 91 (by omega))
  have N_39__a1_6 : gc_ne 39 (a1 + 6) := (show ¬ (39 = (a1 + 6)) by exact gz_m 92 (by omega))
  have N_39__a1_4 : gc_ne 39 (a1 + 4) := (show ¬ (39 = (a1 + 4)) by exact gz_m 93 (by omega))
  have N_39__a1_5 : gc_ne 39 (a1 + 5) := (show ¬ (39 = (a1 + 5)) by exact gz_m 94 (by omega))
  have N_20__a1_6 : gc_ne 20 (a1 + 6) := (show ¬ (20 = (a1 + 6)) by exact gz_m 95 (by omega))
  have N_20__a1_4 : gc_ne 20 (a1 + 4) := (show ¬ (20 = (a1 + 4)) by exact gz_m 96 (by omega))
  have N_20__a1_5 : gc_ne 20 (a1 + 5) := (show ¬ (20 = (a1 + 5)) by exact gz_m 97 (by omega))
  have KPK_I : gc_PKs I I := gc_PKs_rf
  have t1 := gc_TK_mo KTK_I
  have f2 := (gc_b_3_1 hI R_23)
  have f3 := (gc_b_3_5 hI R_23)
  have f4 := (gc_b_3_6 hI R_23)
  have f5 := (gc_b_3_7 hI R_23)
  have f6 := (gc_b_22_17 hI R_1)
  have f7 := (show 0 ≤ I a1 4 ∧ I a1 4 ≤ 6 from gc_in2 hI R_a1 rfl rfl rfl)
  have f8 := (show 0 ≤ I a1 8 ∧ I a1 8 ≤ 4 from gc_in2 hI R_a1 rfl rfl rfl)
  have f9 := (gc_b_22_18 hI R_1)
  have f10 := (gc_b_42_2 hI R_39)
  have tAT := gc_AT_l x2
  intro n9
  induction n9 with
  | zero => intro I11 J12 v2_13 p_13 hn; exact gz_m 98 (by omega)
  | succ n9 ih23 =>
    intro I11 J12 v2_13 p_13 hn hI11 FI11 FJ12 KLT_I11 KTK_I11 KCT_I11 KPK_I11 m_13 e0_13 e4_13 e5_13 e6_13 e7_13
    obtain ⟨hv2_13, e1_13, e2_13, e3_13, e8_13, e9_13, e10_13, e11_13, e12_13, e13_13⟩ := m_13
    have t14 := gc_TK_mo KTK_I11
    have f15 := (gc_b_3_1 hI11 R_23)
    have f16 := (gc_b_3_5 hI11 R_23)
    have f17 := (gc_b_3_6 hI11 R_23)
    have f18 := (gc_b_3_7 hI11 R_23)
    have f19 := (gc_b_22_17 hI11 R_1)
    have f20 := (show 0 ≤ I11 a1 4 ∧ I11 a1 4 ≤ 6 from gc_in2 hI11 R_a1 rfl rfl rfl)
    have f21 := (show 0 ≤ I11 a1 8 ∧ I11 a1 8 ≤ 4 from gc_in2 hI11 R_a1 rfl rfl rfl)
    have f22 := (gc_b_22_18 hI11 R_1)
    have f23 := (gc_b_42_2 hI11 R_39)
    have t24 := gc_AT_l e4_13
    have L51 : ((0 ≤ v2_13 ∧ v2_13 ≤ 6) ∧ (I11 23 7 = 2 ∨ I11 23 7 = 3) ∧ (v2_13 + I a1 4 ≤ I11 a1 4) ∧ (I11 23 1 = I 23 1) ∧ (I 23 5 ≤ I11 23 5) ∧ (B ≤ 1280 ∧ I11 1 17 + I11 23 1 ≤ B + I11 23 5) ∧ (I11 39 2 = (t : Int))) → (gc_LI a1 (I11 a1 4) I11) → gv_X (gc_E6 ws0 tb 4 (yX6_readItems, cX6_readItems, 3, (some .boolean)) kX6_readItems) (gv_Q cX6_readItems (some .boolean) sh (fun r h' => (∃ (I' : gr_I) (J' : gr_J), h' = gc_h sh I' J' A ∧ gc_Inv ro I' ∧ (∀ q j : Nat, ((q = 39 ∧ j = 3) ∨ (q = 39 ∧ j = 4) ∨ (q = 23 ∧ j = 5) ∨ (q = 23 ∧ j = 6) ∨ (q = 23 ∧ j = 7) ∨ (q = 23 ∧ j = 8) ∨ (q = 1 ∧ j = 17) ∨ (q = 1 ∧ j = 18) ∨ q = 20 ∨ (q = 39 ∧ j = 6) ∨ q = (a1 + 1) ∨ q = (a1 + 6) ∨ q = (a1 + 4) ∨ q = (a1 + 5) ∨ (q = a1 ∧ j = 8) ∨ q = (a1 + 2) ∨ q = (a1 + 3) ∨ (q = a1 ∧ j = 4)) ∨ I' q j = I q j) ∧ (∀ q j : Nat, ((q = 23 ∧ j = 9)) ∨ J' q j = J q j) ∧ gc_LT I' ∧ gc_TK I' ∧ gc_CT a1 I' ∧ (∃ z : Int, r = some (.inl z) ∧ 0 ≤ z ∧ z ≤ 1 ∧ (I' 23 1 = I 23 1) ∧ (I 23 5 ≤ I' 23 5) ∧ (B ≤ 1280 ∧ I' 1 17 + I' 23 1 ≤ B + I' 23 5) ∧ (z = 0 ∨ I a1 4 < I' a1 4) ∧ (gc_LE z a1 (I' a1 4) I') ∧ (gc_PKs I I') ∧ (gs_Or z (0 ≤ (gs_itm β η Ir Jr nf9 p9) ∧ gc_AT β η (gs_itm β η Ir Jr nf9 p9) 23 I' J' ∧ I' 1 18 = 0 ∧ gs_LX (gs_li β η Ir Jr nf9 1002 0 0 (fun _ => -1) p9) nf9 (gs_A β η p9) a1 I') ((gs_itm β η Ir Jr nf9 p9) < 0 ∧ I' 39 4 = -1 - (gs_itm β η Ir Jr nf9 p9))))))) (51, [(0, .inr (.inr (some 39))), (1, .inr (.inr (some a1))), (2, .inl v2_13)], [], sh, gc_h sh I11 J12 A) := by
      intro m_25 e0_25
      obtain ⟨hv2_13_25, e1_25, e2_25, e3_25, e4_25, e5_25, e6_25⟩ := m_25
      have t26 := gc_TK_mo KTK_I11
      have f27 := (gc_b_3_1 hI11 R_23)
      have f28 := (gc_b_3_5 hI11 R_23)
      have f29 := (gc_b_3_6 hI11 R_23)
      have f30 := (gc_b_3_7 hI11 R_23)
      have f31 := (gc_b_22_17 hI11 R_1)
      have f32 := (show 0 ≤ I11 a1 4 ∧ I11 a1 4 ≤ 6 from gc_in2 hI11 R_a1 rfl rfl rfl)
      have f33 := (show 0 ≤ I11 a1 8 ∧ I11 a1 8 ≤ 4 from gc_in2 hI11 R_a1 rfl rfl rfl)
      have f34 := (gc_b_22_18 hI11 R_1)
      have f35 := (gc_b_42_2 hI11 R_39)
      refine gv_run 1 true hD (pc' := 52) (lv' := [(0, .inr (.inr (some 39))), (1, .inr (.inr (some a1))), (2, .inl v2_13)]) (st' := [.inr (.inr (some a1))]) (h' := gc_h sh I11 J12 A) (C := (True ∧ True)) rfl ⟨trivial, trivial⟩ ?_
      have f36 := (show 0 ≤ I11 a1 4 ∧ I11 a1 4 ≤ 6 from gc_in2 hI11 R_a1 rfl rfl rfl)
      refine gv_get hD rfl rfl S_a1 ⟨by decide, B_a1⟩ (gc_hI S_a1 rfl) ?_
      show gv_X _ _ (55, [(0, .inr (.inr (some 39))), (1, .inr (.inr (some a1))), (2, .inl v2_13)], [.inl (I11 a1 4)], sh, gc_h sh I11 J12 A)
      refine gv_run 1 true hD (pc' := 57) (lv' := [(0, .inr (.inr (some 39))), (1, .inr (.inr (some a1))), (2, .inl v2_13)]) (st' := [.inl 6, .inl (I11 a1 4)]) (h' := gc_h sh I11 J12 A) (C := (True ∧ True)) rfl ⟨trivial, trivial⟩ ?_
      refine gv_icmp_ne (t := 73) hD rfl rfl ⟨⟨by exact gz_m 99 (by omega), by exact gz_m 100 (by omega)⟩, ⟨by exact gz_m 101 (by omega), by exact gz_m 102 (by omega)⟩⟩ (fun c37 => ?_) (fun c37 => ?_)
      · show gv_X _ _ (73, [(0, .inr (.inr (some 39))), (1, .inr (.inr (some a1))), (2, .inl v2_13)], [], sh, gc_h sh I11 J12 A)
        obtain ⟨i9, a8, h9l, h9s, h9f⟩ := id e5_13
        refine gv_run 1 true hD (pc' := 74) (lv' := [(0, .inr (.inr (some 39))), (1, .inr (.inr (some a1))), (2, .inl v2_13)]) (st' := [.inr (.inr (some 39))]) (h' := gc_h sh I11 J12 A) (C := (True ∧ True)) rfl ⟨trivial, trivial⟩ ?_
        refine gv_get hD rfl rfl S_39 ⟨by decide, B_39⟩ (gc_hA S_39 rfl A_39_1) ?_
        show gv_X _ _ (77, [(0, .inr (.inr (some 39))), (1, .inr (.inr (some a1))), (2, .inl v2_13)], [.inr (.inr (some 23))], sh, gc_h sh I11 J12 A)
        have f38 := (gc_b_3_7 hI11 R_23)
        refine gv_get hD rfl rfl S_23 ⟨by decide, B_23⟩ (gc_hI S_23 rfl) ?_
        show gv_X _ _ (80, [(0, .inr (.inr (some 39))), (1, .inr (.inr (some a1))), (2, .inl v2_13)], [.inl (I11 23 7)], sh, gc_h sh I11 J12 A)
        refine gv_run 1 true hD (pc' := 81) (lv' := [(0, .inr (.inr (some 39))), (1, .inr (.inr (some a1))), (2, .inl v2_13)]) (st' := [.inl 2, .inl (I11 23 7)]) (h' := gc_h sh I11 J12 A) (C := (True ∧ True)) rfl ⟨trivial, trivial⟩ ?_
        refine gv_icmp_ne (t := 94) hD rfl rfl ⟨⟨by exact gz_m 103 (by omega), by exact gz_m 104 (by omega)⟩, ⟨by exact gz_m 105 (by omega), by exact gz_m 106 (by omega)⟩⟩ (fun c39 => ?_) (fun c39 => ?_)
        · show gv_X _ _ (94, [(0, .inr (.inr (some 39))), (1, .inr (.inr (some a1))), (2, .inl v2_13)], [], sh, gc_h sh I11 J12 A)
          refine gv_run 1 true hD (pc' := 95) (lv' := [(0, .inr (.inr (some 39))), (1, .inr (.inr (some a1))), (2, .inl v2_13)]) (st' := [.inr (.inr (some 39))]) (h' := gc_h sh I11 J12 A) (C := (True ∧ True)) rfl ⟨trivial, trivial⟩ ?_
          refine gv_get hD rfl rfl S_39 ⟨by decide, B_39⟩ (gc_hA S_39 rfl A_39_1) ?_
          show gv_X _ _ (98, [(0, .inr (.inr (some 39))), (1, .inr (.inr (some a1))), (2, .inl v2_13)], [.inr (.inr (some 23))], sh, gc_h sh I11 J12 A)
          have t41 := gc_TK_l3 KTK_I11 (by exact gz_m 107 (by omega))
          obtain ⟨r40, h40, E40, P40⟩ := d_X9_lettersSize (ws0 := ws0) (tb := tb) hws htb sh ro I11 J12 A hI11 23  (gc_b23 hb)     
          obtain ⟨rfl, ⟨z40, rfl, q40⟩⟩ := P40
          refine gv_callV hD rfl (As := []) (st := []) rfl B_23 S_23 rfl (gc_lV6 hws rfl) (Nat.le_of_ble_eq_true rfl) (gz_Ev_mono (d := 1) (by decide) E40) ?_
          show gv_X _ _ (101, [(0, .inr (.inr (some 39))), (1, .inr (.inr (some a1))), (2, .inl v2_13)], [.inl z40], sh, gc_h sh I11 J12 A)
          refine gv_run 1 true hD (pc' := 102) (lv' := [(0, .inr (.inr (some 39))), (1, .inr (.inr (some a1))), (2, .inl v2_13)]) (st' := [.inl 1, .inl z40]) (h' := gc_h sh I11 J12 A) (C := (True ∧ True)) rfl ⟨trivial, trivial⟩ ?_
          refine gv_icmp_ge (t := 118) hD rfl rfl ⟨⟨by exact gz_m 108 (by omega), by exact gz_m 109 (by omega)⟩, ⟨by exact gz_m 110 (by omega), by exact gz_m 111 (by omega)⟩⟩ (fun c42 => ?_) (fun c42 => ?_)
          · show gv_X _ _ (118, [(0, .inr (.inr (some 39))), (1, .inr (.inr (some a1))), (2, .inl v2_13)], [], sh, gc_h sh I11 J12 A)
            refine gv_run 1 true hD (pc' := 119) (lv' := [(0, .inr (.inr (some 39))), (1, .inr (.inr (some a1))), (2, .inl v2_13)]) (st' := [.inr (.inr (some a1))]) (h' := gc_h sh I11 J12 A) (C := (True ∧ True)) rfl ⟨trivial, trivial⟩ ?_
            refine gv_get hD rfl rfl S_a1 ⟨by decide, B_a1⟩ (gc_hA S_a1 rfl A_a1_5) ?_
            show gv_X _ _ (122, [(0, .inr (.inr (some 39))), (1, .inr (.inr (some a1))), (2, .inl v2_13)], [.inr (.inr (some (a1 + 1)))], sh, gc_h sh I11 J12 A)
            refine gv_run 1 true hD (pc' := 123) (lv' := [(0, .inr (.inr (some 39))), (1, .inr (.inr (some a1))), (2, .inl v2_13)]) (st' := [.inr (.inr (some a1)), .inr (.inr (some (a1 + 1)))]) (h' := gc_h sh I11 J12 A) (C := (True ∧ True)) rfl ⟨trivial, trivial⟩ ?_
            have f43 := (show 0 ≤ I11 a1 4 ∧ I11 a1 4 ≤ 6 from gc_in2 hI11 R_a1 rfl rfl rfl)
            refine gv_get hD rfl rfl S_a1 ⟨by decide, B_a1⟩ (gc_hI S_a1 rfl) ?_
            show gv_X _ _ (126, [(0, .inr (.inr (some 39))), (1, .inr (.inr (some a1))), (2, .inl v2_13)], [.inl (I11 a1 4), .inr (.inr (some (a1 + 1)))], sh, gc_h sh I11 J12 A)
            refine gv_run 1 true hD (pc' := 127) (lv' := [(0, .inr (.inr (some 39))), (1, .inr (.inr (some a1))), (2, .inl v2_13)]) (st' := [.inl (-1), .inl (I11 a1 4), .inr (.inr (some (a1 + 1)))]) (h' := gc_h sh I11 J12 A) (C := (True ∧ True)) rfl ⟨trivial, trivial⟩ ?_
            refine gv_iast hD rfl S_a1_1 ⟨by decide, B_a1_1⟩ ⟨by exact gz_m 112 (by omega), by exact gz_m 113 (by omega)⟩ ?_
            refine gc_st hI11 S_a1_1 rfl R_a1_1 (lo := (-1)) (hi := 3) rfl rfl (by exact gz_m 114 (by omega)) (by exact gz_m 115 (by omega)) (fun I44 hI44 q45 p45 => ?_)
            have FI44 := gc_frs (W := fun q j => (q = 39 ∧ j = 3) ∨ (q = 39 ∧ j = 4) ∨ (q = 23 ∧ j = 5) ∨ (q = 23 ∧ j = 6) ∨ (q = 23 ∧ j = 7) ∨ (q = 23 ∧ j = 8) ∨ (q = 1 ∧ j = 17) ∨ (q = 1 ∧ j = 18) ∨ q = 20 ∨ (q = 39 ∧ j = 6) ∨ q = (a1 + 1) ∨ q = (a1 + 6) ∨ q = (a1 + 4) ∨ q = (a1 + 5) ∨ (q = a1 ∧ j = 8) ∨ q = (a1 + 2) ∨ q = (a1 + 3) ∨ (q = a1 ∧ j = 4)) FI11 (Or.inr (Or.inr (Or.inr (Or.inr (Or.inr (Or.inr (Or.inr (Or.inr (Or.inr (Or.inr (Or.inl rfl))))))))))) p45
            have t46 := p45 23 1 (fun h => absurd h.1 N_23__a1_1)
            have t47 := p45 23 5 (fun h => absurd h.1 N_23__a1_1)
            have t48 := p45 23 6 (fun h => absurd h.1 N_23__a1_1)
            have t49 := p45 23 7 (fun h => absurd h.1 N_23__a1_1)
            have t50 := p45 1 17 (fun h => absurd h.1 N_1__a1_1)
            have t51 := p45 a1 4 (fun h => absurd h.1 N_a1__a1_1)
            have t52 := p45 a1 8 (fun h => absurd h.1 N_a1__a1_1)
            have t53 := p45 1 18 (fun h => absurd h.1 N_1__a1_1)
            have t54 := p45 39 2 (fun h => absurd h.1 N_39__a1_1)
            have KLT_I44 := gc_LT_fr KLT_I11 (p45 23 5 (fun h => absurd h.1 N_23__a1_1)) (p45 23 6 (fun h => absurd h.1 N_23__a1_1)) (p45 23 7 (fun h => absurd h.1 N_23__a1_1)) (fun k => p45 24 k (fun h => absurd h.1 N_24__a1_1))
            have KTK_I44 := gc_TK_fr KTK_I11 (p45 23 1 (fun h => absurd h.1 N_23__a1_1)) (p45 23 5 (fun h => absurd h.1 N_23__a1_1)) (p45 23 6 (fun h => absurd h.1 N_23__a1_1)) (p45 23 7 (fun h => absurd h.1 N_23__a1_1))
            have KCT_I44 := gc_CT_fr KCT_I11 (p45 a1 8 (fun h => absurd h.1 N_a1__a1_1)) (fun k => p45 (a1 + 6) k (fun h => absurd h.1 N_a1_6__a1_1))
            have KPK_I44 := gc_PKs_fr KPK_I11 (p45 1 17 (fun h => absurd h.1 N_1__a1_1)) (fun k => p45 20 k (fun h => absurd h.1 N_20__a1_1))
            have A55 := gc_AT_I e4_13 (p45 23 1 (fun h => absurd h.1 N_23__a1_1)) (p45 23 5 (fun h => absurd h.1 N_23__a1_1)) (p45 23 6 (fun h => absurd h.1 N_23__a1_1)) (p45 23 7 (fun h => absurd h.1 N_23__a1_1)) (p45 23 8 (fun h => absurd h.1 N_23__a1_1)) (fun k => p45 24 k (fun h => absurd h.1 N_24__a1_1))
            show gv_X _ _ (128, [(0, .inr (.inr (some 39))), (1, .inr (.inr (some a1))), (2, .inl v2_13)], [], sh, gc_h sh I44 J12 A)
            refine gv_run 1 true hD (pc' := 129) (lv' := [(0, .inr (.inr (some 39))), (1, .inr (.inr (some a1))), (2, .inl v2_13)]) (st' := [.inr (.inr (some a1))]) (h' := gc_h sh I44 J12 A) (C := (True ∧ True)) rfl ⟨trivial, trivial⟩ ?_
            refine gv_get hD rfl rfl S_a1 ⟨by decide, B_a1⟩ (gc_hA S_a1 rfl A_a1_6) ?_
            show gv_X _ _ (132, [(0, .inr (.inr (some 39))), (1, .inr (.inr (some a1))), (2, .inl v2_13)], [.inr (.inr (some (a1 + 2)))], sh, gc_h sh I44 J12 A)
            refine gv_run 1 true hD (pc' := 133) (lv' := [(0, .inr (.inr (some 39))), (1, .inr (.inr (some a1))), (2, .inl v2_13)]) (st' := [.inr (.inr (some a1)), .inr (.inr (some (a1 + 2)))]) (h' := gc_h sh I44 J12 A) (C := (True ∧ True)) rfl ⟨trivial, trivial⟩ ?_
            have f56 := (show 0 ≤ I44 a1 4 ∧ I44 a1 4 ≤ 6 from gc_in2 hI44 R_a1 rfl rfl rfl)
            refine gv_get hD rfl rfl S_a1 ⟨by decide, B_a1⟩ (gc_hI S_a1 rfl) ?_
            show gv_X _ _ (136, [(0, .inr (.inr (some 39))), (1, .inr (.inr (some a1))), (2, .inl v2_13)], [.inl (I44 a1 4), .inr (.inr (some (a1 + 2)))], sh, gc_h sh I44 J12 A)
            refine gv_run 1 true hD (pc' := 137) (lv' := [(0, .inr (.inr (some 39))), (1, .inr (.inr (some a1))), (2, .inl v2_13)]) (st' := [.inr (.inr (some 39)), .inl (I44 a1 4), .inr (.inr (some (a1 + 2)))]) (h' := gc_h sh I44 J12 A) (C := (True ∧ True)) rfl ⟨trivial, trivial⟩ ?_
            obtain ⟨r57, h57, E57, P57⟩ := d_X6_keepLetters_p (ws0 := ws0) (tb := tb) hws htb sh ro I44 J12 A hI44   hb    (by exact gz_m 116 (by omega)) (by exact gz_m 117 (by omega)) KLT_I44 KTK_I44
            obtain ⟨I58, J59, rfl, hI58, g57, k57, KLT_I58, KTK_I58, ⟨z57, rfl, q57⟩⟩ := P57
            have FI58 := gc_frc (W := fun q j => (q = 39 ∧ j = 3) ∨ (q = 39 ∧ j = 4) ∨ (q = 23 ∧ j = 5) ∨ (q = 23 ∧ j = 6) ∨ (q = 23 ∧ j = 7) ∨ (q = 23 ∧ j = 8) ∨ (q = 1 ∧ j = 17) ∨ (q = 1 ∧ j = 18) ∨ q = 20 ∨ (q = 39 ∧ j = 6) ∨ q = (a1 + 1) ∨ q = (a1 + 6) ∨ q = (a1 + 4) ∨ q = (a1 + 5) ∨ (q = a1 ∧ j = 8) ∨ q = (a1 + 2) ∨ q = (a1 + 3) ∨ (q = a1 ∧ j = 4)) (V := fun q j => (q = 1 ∧ j = 17) ∨ (q = 1 ∧ j = 18) ∨ q = 20) FI44 (fun q j h => (h.elim (fun h => (Or.inr (Or.inr (Or.inr (Or.inr (Or.inr (Or.inr (Or.inl h)))))))) (fun h => (h.elim (fun h => (Or.inr (Or.inr (Or.inr (Or.inr (Or.inr (Or.inr (Or.inr (Or.inl h))))))))) (fun h => (Or.inr (Or.inr (Or.inr (Or.inr (Or.inr (Or.inr (Or.inr (Or.inr (Or.inl h)))))))))))))) g57
            have t60 := (g57 23 1).resolve_left (fun h => h.elim (fun h => absurd h.2 (gz_ne rfl)) (fun h => h.elim (fun h => absurd h.2 (gz_ne rfl)) (fun h => absurd h (gz_ne rfl))))
            have t61 := (g57 23 5).resolve_left (fun h => h.elim (fun h => absurd h.2 (gz_ne rfl)) (fun h => h.elim (fun h => absurd h.2 (gz_ne rfl)) (fun h => absurd h (gz_ne rfl))))
            have t62 := (g57 23 6).resolve_left (fun h => h.elim (fun h => absurd h.2 (gz_ne rfl)) (fun h => h.elim (fun h => absurd h.2 (gz_ne rfl)) (fun h => absurd h (gz_ne rfl))))
            have t63 := (g57 23 7).resolve_left (fun h => h.elim (fun h => absurd h.2 (gz_ne rfl)) (fun h => h.elim (fun h => absurd h.2 (gz_ne rfl)) (fun h => absurd h (gz_ne rfl))))
            have t64 := (g57 a1 4).resolve_left (fun h => h.elim (fun h => absurd h.2 (gz_ne rfl)) (fun h => h.elim (fun h => absurd h.2 (gz_ne rfl)) (fun h => absurd h N_a1__20)))
            have t65 := (g57 a1 8).resolve_left (fun h => h.elim (fun h => absurd h.2 (gz_ne rfl)) (fun h => h.elim (fun h => absurd h.2 (gz_ne rfl)) (fun h => absurd h N_a1__20)))
            have t66 := (g57 39 2).resolve_left (fun h => h.elim (fun h => absurd h.2 (gz_ne rfl)) (fun h => h.elim (fun h => absurd h.2 (gz_ne rfl)) (fun h => absurd h (gz_ne rfl))))
            have f67 := (gc_b_22_17 hI58 R_1)
            have f68 := (gc_b_22_18 hI58 R_1)
            obtain rfl : J12 = J59 := funext fun q => funext fun j => ((k57 q j).resolve_left id).symm
            have KCT_I58 := gc_CT_fr KCT_I44 ((g57 a1 8).resolve_left (fun h => h.elim (fun h => absurd h.2 (gz_ne rfl)) (fun h => h.elim (fun h => absurd h.2 (gz_ne rfl)) (fun h => absurd h N_a1__20)))) (fun k => (g57 (a1 + 6) k).resolve_left (fun h => h.elim (fun h => absurd h.1 N_a1_6__1) (fun h => h.elim (fun h => absurd h.1 N_a1_6__1) (fun h => absurd h N_a1_6__20))))
            have l57 := q57.2.2.2.2.2.2.2
            have KPK_I58 := gc_PKs_tr KPK_I44 l57
            have A69 := gc_AT_I A55 ((g57 23 1).resolve_left (fun h => h.elim (fun h => absurd h.2 (gz_ne rfl)) (fun h => h.elim (fun h => absurd h.2 (gz_ne rfl)) (fun h => absurd h (gz_ne rfl))))) ((g57 23 5).resolve_left (fun h => h.elim (fun h => absurd h.2 (gz_ne rfl)) (fun h => h.elim (fun h => absurd h.2 (gz_ne rfl)) (fun h => absurd h (gz_ne rfl))))) ((g57 23 6).resolve_left (fun h => h.elim (fun h => absurd h.2 (gz_ne rfl)) (fun h => h.elim (fun h => absurd h.2 (gz_ne rfl)) (fun h => absurd h (gz_ne rfl))))) ((g57 23 7).resolve_left (fun h => h.elim (fun h => absurd h.2 (gz_ne rfl)) (fun h => h.elim (fun h => absurd h.2 (gz_ne rfl)) (fun h => absurd h (gz_ne rfl))))) ((g57 23 8).resolve_left (fun h => h.elim (fun h => absurd h.2 (gz_ne rfl)) (fun h => h.elim (fun h => absurd h.2 (gz_ne rfl)) (fun h => absurd h (gz_ne rfl))))) (fun k => (g57 24 k).resolve_left (fun h => h.elim (fun h => absurd h.1 (gz_ne rfl)) (fun h => h.elim (fun h => absurd h.1 (gz_ne rfl)) (fun h => absurd h (gz_ne rfl)))))
            have t70 := gc_AT_l A69
            refine gv_callV hD rfl (As := []) (st := [.inl (I44 a1 4), .inr (.inr (some (a1 + 2)))]) rfl B_39 S_39 rfl (gc_lV6 hws rfl) (Nat.le_of_ble_eq_true rfl) (gz_Ev_mono (d := 2) (by decide) E57) ?_
            show gv_X _ _ (140, [(0, .inr (.inr (some 39))), (1, .inr (.inr (some a1))), (2, .inl v2_13)], [.inl z57, .inl (I44 a1 4), .inr (.inr (some (a1 + 2)))], sh, gc_h sh I58 J12 A)
            refine gv_iast hD rfl S_a1_2 ⟨by decide, B_a1_2⟩ ⟨by exact gz_m 118 (by omega), by exact gz_m 119 (by omega)⟩ ?_
            refine gc_st hI58 S_a1_2 rfl R_a1_2 (lo := 0) (hi := 2000) rfl rfl (by exact gz_m 120 (by omega)) (by exact gz_m 121 (by omega)) (fun I71 hI71 q72 p72 => ?_)
            have FI71 := gc_frs (W := fun q j => (q = 39 ∧ j = 3) ∨ (q = 39 ∧ j = 4) ∨ (q = 23 ∧ j = 5) ∨ (q = 23 ∧ j = 6) ∨ (q = 23 ∧ j = 7) ∨ (q = 23 ∧ j = 8) ∨ (q = 1 ∧ j = 17) ∨ (q = 1 ∧ j = 18) ∨ q = 20 ∨ (q = 39 ∧ j = 6) ∨ q = (a1 + 1) ∨ q = (a1 + 6) ∨ q = (a1 + 4) ∨ q = (a1 + 5) ∨ (q = a1 ∧ j = 8) ∨ q = (a1 + 2) ∨ q = (a1 + 3) ∨ (q = a1 ∧ j = 4)) FI58 (Or.inr (Or.inr (Or.inr (Or.inr (Or.inr (Or.inr (Or.inr (Or.inr (Or.inr (Or.inr (Or.inr (Or.inr (Or.inr (Or.inr (Or.inr (Or.inl rfl)))))))))))))))) p72
            have t73 := p72 23 1 (fun h => absurd h.1 N_23__a1_2)
            have t74 := p72 23 5 (fun h => absurd h.1 N_23__a1_2)
            have t75 := p72 23 6 (fun h => absurd h.1 N_23__a1_2)
            have t76 := p72 23 7 (fun h => absurd h.1 N_23__a1_2)
            have t77 := p72 1 17 (fun h => absurd h.1 N_1__a1_2)
            have t78 := p72 a1 4 (fun h => absurd h.1 N_a1__a1_2)
            have t79 := p72 a1 8 (fun h => absurd h.1 N_a1__a1_2)
            have t80 := p72 1 18 (fun h => absurd h.1 N_1__a1_2)
            have t81 := p72 39 2 (fun h => absurd h.1 N_39__a1_2)
            have KLT_I71 := gc_LT_fr KLT_I58 (p72 23 5 (fun h => absurd h.1 N_23__a1_2)) (p72 23 6 (fun h => absurd h.1 N_23__a1_2)) (p72 23 7 (fun h => absurd h.1 N_23__a1_2)) (fun k => p72 24 k (fun h => absurd h.1 N_24__a1_2))
            have KTK_I71 := gc_TK_fr KTK_I58 (p72 23 1 (fun h => absurd h.1 N_23__a1_2)) (p72 23 5 (fun h => absurd h.1 N_23__a1_2)) (p72 23 6 (fun h => absurd h.1 N_23__a1_2)) (p72 23 7 (fun h => absurd h.1 N_23__a1_2))
            have KCT_I71 := gc_CT_fr KCT_I58 (p72 a1 8 (fun h => absurd h.1 N_a1__a1_2)) (fun k => p72 (a1 + 6) k (fun h => absurd h.1 N_a1_6__a1_2))
            have KPK_I71 := gc_PKs_fr KPK_I58 (p72 1 17 (fun h => absurd h.1 N_1__a1_2)) (fun k => p72 20 k (fun h => absurd h.1 N_20__a1_2))
            have A82 := gc_AT_I A69 (p72 23 1 (fun h => absurd h.1 N_23__a1_2)) (p72 23 5 (fun h => absurd h.1 N_23__a1_2)) (p72 23 6 (fun h => absurd h.1 N_23__a1_2)) (p72 23 7 (fun h => absurd h.1 N_23__a1_2)) (p72 23 8 (fun h => absurd h.1 N_23__a1_2)) (fun k => p72 24 k (fun h => absurd h.1 N_24__a1_2))
            show gv_X _ _ (141, [(0, .inr (.inr (some 39))), (1, .inr (.inr (some a1))), (2, .inl v2_13)], [], sh, gc_h sh I71 J12 A)
            refine gv_run 1 true hD (pc' := 142) (lv' := [(0, .inr (.inr (some 39))), (1, .inr (.inr (some a1))), (2, .inl v2_13)]) (st' := [.inr (.inr (some a1))]) (h' := gc_h sh I71 J12 A) (C := (True ∧ True)) rfl ⟨trivial, trivial⟩ ?_
            refine gv_get hD rfl rfl S_a1 ⟨by decide, B_a1⟩ (gc_hA S_a1 rfl A_a1_7) ?_
            show gv_X _ _ (145, [(0, .inr (.inr (some 39))), (1, .inr (.inr (some a1))), (2, .inl v2_13)], [.inr (.inr (some (a1 + 3)))], sh, gc_h sh I71 J12 A)
            refine gv_run 1 true hD (pc' := 146) (lv' := [(0, .inr (.inr (some 39))), (1, .inr (.inr (some a1))), (2, .inl v2_13)]) (st' := [.inr (.inr (some a1)), .inr (.inr (some (a1 + 3)))]) (h' := gc_h sh I71 J12 A) (C := (True ∧ True)) rfl ⟨trivial, trivial⟩ ?_
            have f83 := (show 0 ≤ I71 a1 4 ∧ I71 a1 4 ≤ 6 from gc_in2 hI71 R_a1 rfl rfl rfl)
            refine gv_get hD rfl rfl S_a1 ⟨by decide, B_a1⟩ (gc_hI S_a1 rfl) ?_
            show gv_X _ _ (149, [(0, .inr (.inr (some 39))), (1, .inr (.inr (some a1))), (2, .inl v2_13)], [.inl (I71 a1 4), .inr (.inr (some (a1 + 3)))], sh, gc_h sh I71 J12 A)
            refine gv_run 1 true hD (pc' := 150) (lv' := [(0, .inr (.inr (some 39))), (1, .inr (.inr (some a1))), (2, .inl v2_13)]) (st' := [.inr (.inr (some 39)), .inl (I71 a1 4), .inr (.inr (some (a1 + 3)))]) (h' := gc_h sh I71 J12 A) (C := (True ∧ True)) rfl ⟨trivial, trivial⟩ ?_
            refine gv_get hD rfl rfl S_39 ⟨by decide, B_39⟩ (gc_hA S_39 rfl A_39_1) ?_
            show gv_X _ _ (153, [(0, .inr (.inr (some 39))), (1, .inr (.inr (some a1))), (2, .inl v2_13)], [.inr (.inr (some 23)), .inl (I71 a1 4), .inr (.inr (some (a1 + 3)))], sh, gc_h sh I71 J12 A)
            have t85 := gc_TK_l3 KTK_I71 (by exact gz_m 122 (by omega))
            obtain ⟨r84, h84, E84, P84⟩ := d_X9_lettersSize (ws0 := ws0) (tb := tb) hws htb sh ro I71 J12 A hI71 23  (gc_b23 hb)     
            obtain ⟨rfl, ⟨z84, rfl, q84⟩⟩ := P84
            refine gv_callV hD rfl (As := []) (st := [.inl (I71 a1 4), .inr (.inr (some (a1 + 3)))]) rfl B_23 S_23 rfl (gc_lV6 hws rfl) (Nat.le_of_ble_eq_true rfl) (gz_Ev_mono (d := 1) (by decide) E84) ?_
            show gv_X _ _ (156, [(0, .inr (.inr (some 39))), (1, .inr (.inr (some a1))), (2, .inl v2_13)], [.inl z84, .inl (I71 a1 4), .inr (.inr (some (a1 + 3)))], sh, gc_h sh I71 J12 A)
            refine gv_iast hD rfl S_a1_3 ⟨by decide, B_a1_3⟩ ⟨by exact gz_m 123 (by omega), by exact gz_m 124 (by omega)⟩ ?_
            refine gc_st hI71 S_a1_3 rfl R_a1_3 (lo := 0) (hi := 24) rfl rfl (by exact gz_m 125 (by omega)) (by exact gz_m 126 (by omega)) (fun I86 hI86 q87 p87 => ?_)
            have FI86 := gc_frs (W := fun q j => (q = 39 ∧ j = 3) ∨ (q = 39 ∧ j = 4) ∨ (q = 23 ∧ j = 5) ∨ (q = 23 ∧ j = 6) ∨ (q = 23 ∧ j = 7) ∨ (q = 23 ∧ j = 8) ∨ (q = 1 ∧ j = 17) ∨ (q = 1 ∧ j = 18) ∨ q = 20 ∨ (q = 39 ∧ j = 6) ∨ q = (a1 + 1) ∨ q = (a1 + 6) ∨ q = (a1 + 4) ∨ q = (a1 + 5) ∨ (q = a1 ∧ j = 8) ∨ q = (a1 + 2) ∨ q = (a1 + 3) ∨ (q = a1 ∧ j = 4)) FI71 (Or.inr (Or.inr (Or.inr (Or.inr (Or.inr (Or.inr (Or.inr (Or.inr (Or.inr (Or.inr (Or.inr (Or.inr (Or.inr (Or.inr (Or.inr (Or.inr (Or.inl rfl))))))))))))))))) p87
            have t88 := p87 23 1 (fun h => absurd h.1 N_23__a1_3)
            have t89 := p87 23 5 (fun h => absurd h.1 N_23__a1_3)
            have t90 := p87 23 6 (fun h => absurd h.1 N_23__a1_3)
            have t91 := p87 23 7 (fun h => absurd h.1 N_23__a1_3)
            have t92 := p87 1 17 (fun h => absurd h.1 N_1__a1_3)
            have t93 := p87 a1 4 (fun h => absurd h.1 N_a1__a1_3)
            have t94 := p87 a1 8 (fun h => absurd h.1 N_a1__a1_3)
            have t95 := p87 1 18 (fun h => absurd h.1 N_1__a1_3)
            have t96 := p87 39 2 (fun h => absurd h.1 N_39__a1_3)
            have KLT_I86 := gc_LT_fr KLT_I71 (p87 23 5 (fun h => absurd h.1 N_23__a1_3)) (p87 23 6 (fun h => absurd h.1 N_23__a1_3)) (p87 23 7 (fun h => absurd h.1 N_23__a1_3)) (fun k => p87 24 k (fun h => absurd h.1 N_24__a1_3))
            have KTK_I86 := gc_TK_fr KTK_I71 (p87 23 1 (fun h => absurd h.1 N_23__a1_3)) (p87 23 5 (fun h => absurd h.1 N_23__a1_3)) (p87 23 6 (fun h => absurd h.1 N_23__a1_3)) (p87 23 7 (fun h => absurd h.1 N_23__a1_3))
            have KCT_I86 := gc_CT_fr KCT_I71 (p87 a1 8 (fun h => absurd h.1 N_a1__a1_3)) (fun k => p87 (a1 + 6) k (fun h => absurd h.1 N_a1_6__a1_3))
            have KPK_I86 := gc_PKs_fr KPK_I71 (p87 1 17 (fun h => absurd h.1 N_1__a1_3)) (fun k => p87 20 k (fun h => absurd h.1 N_20__a1_3))
            have A97 := gc_AT_I A82 (p87 23 1 (fun h => absurd h.1 N_23__a1_3)) (p87 23 5 (fun h => absurd h.1 N_23__a1_3)) (p87 23 6 (fun h => absurd h.1 N_23__a1_3)) (p87 23 7 (fun h => absurd h.1 N_23__a1_3)) (p87 23 8 (fun h => absurd h.1 N_23__a1_3)) (fun k => p87 24 k (fun h => absurd h.1 N_24__a1_3))
            show gv_X _ _ (157, [(0, .inr (.inr (some 39))), (1, .inr (.inr (some a1))), (2, .inl v2_13)], [], sh, gc_h sh I86 J12 A)
            refine gv_run 1 true hD (pc' := 158) (lv' := [(0, .inr (.inr (some 39))), (1, .inr (.inr (some a1))), (2, .inl v2_13)]) (st' := [.inr (.inr (some 39))]) (h' := gc_h sh I86 J12 A) (C := (True ∧ True)) rfl ⟨trivial, trivial⟩ ?_
            refine gv_get hD rfl rfl S_39 ⟨by decide, B_39⟩ (gc_hA S_39 rfl A_39_1) ?_
            show gv_X _ _ (161, [(0, .inr (.inr (some 39))), (1, .inr (.inr (some a1))), (2, .inl v2_13)], [.inr (.inr (some 23))], sh, gc_h sh I86 J12 A)
            have t99 := gc_TK_nx KTK_I86 (by exact gz_m 127 (by omega))
            have t100 := gc_TK_st KTK_I86 (by exact gz_m 128 (by omega))
            obtain ⟨r98, h98, E98, P98⟩ := d_X9_advance_p (ws0 := ws0) (tb := tb) hws htb sh ro I86 J12 A hI86 23 β η  (gc_b23 hb)    (by exact gz_m 129 (by omega)) A97.1.1 A97.1.2 
            obtain ⟨I101, J102, rfl, hI101, g98, k98, ⟨rfl, V98_0, V98_1, V98_2, V98_3, V98_4, q98⟩⟩ := P98
            have FI101 := gc_frc (W := fun q j => (q = 39 ∧ j = 3) ∨ (q = 39 ∧ j = 4) ∨ (q = 23 ∧ j = 5) ∨ (q = 23 ∧ j = 6) ∨ (q = 23 ∧ j = 7) ∨ (q = 23 ∧ j = 8) ∨ (q = 1 ∧ j = 17) ∨ (q = 1 ∧ j = 18) ∨ q = 20 ∨ (q = 39 ∧ j = 6) ∨ q = (a1 + 1) ∨ q = (a1 + 6) ∨ q = (a1 + 4) ∨ q = (a1 + 5) ∨ (q = a1 ∧ j = 8) ∨ q = (a1 + 2) ∨ q = (a1 + 3) ∨ (q = a1 ∧ j = 4)) (V := fun q j => (q = 23 ∧ j = 5) ∨ (q = 23 ∧ j = 6) ∨ (q = 23 ∧ j = 7) ∨ (q = 23 ∧ j = 8)) FI86 (fun q j h => (h.elim (fun h => (Or.inr (Or.inr (Or.inl h)))) (fun h => (h.elim (fun h => (Or.inr (Or.inr (Or.inr (Or.inl h))))) (fun h => (h.elim (fun h => (Or.inr (Or.inr (Or.inr (Or.inr (Or.inl h)))))) (fun h => (Or.inr (Or.inr (Or.inr (Or.inr (Or.inr (Or.inl h))))))))))))) g98
            have FJ102 := gc_frc (W := fun q j => (q = 23 ∧ j = 9)) (V := fun q j => (q = 23 ∧ j = 9)) FJ12 (fun q j h => h) k98
            have t103 := (g98 23 1).resolve_left (fun h => h.elim (fun h => absurd h.2 (gz_ne rfl)) (fun h => h.elim (fun h => absurd h.2 (gz_ne rfl)) (fun h => h.elim (fun h => absurd h.2 (gz_ne rfl)) (fun h => absurd h.2 (gz_ne rfl)))))
            have t104 := (g98 1 17).resolve_left (fun h => h.elim (fun h => absurd h.2 (gz_ne rfl)) (fun h => h.elim (fun h => absurd h.2 (gz_ne rfl)) (fun h => h.elim (fun h => absurd h.2 (gz_ne rfl)) (fun h => absurd h.2 (gz_ne rfl)))))
            have t105 := (g98 a1 4).resolve_left (fun h => h.elim (fun h => absurd h.2 (gz_ne rfl)) (fun h => h.elim (fun h => absurd h.2 (gz_ne rfl)) (fun h => h.elim (fun h => absurd h.2 (gz_ne rfl)) (fun h => absurd h.2 (gz_ne rfl)))))
            have t106 := (g98 a1 8).resolve_left (fun h => h.elim (fun h => absurd h.2 (gz_ne rfl)) (fun h => h.elim (fun h => absurd h.2 (gz_ne rfl)) (fun h => h.elim (fun h => absurd h.2 (gz_ne rfl)) (fun h => absurd h.1 N_a1__23))))
            have t107 := (g98 1 18).resolve_left (fun h => h.elim (fun h => absurd h.2 (gz_ne rfl)) (fun h => h.elim (fun h => absurd h.2 (gz_ne rfl)) (fun h => h.elim (fun h => absurd h.2 (gz_ne rfl)) (fun h => absurd h.2 (gz_ne rfl)))))
            have t108 := (g98 39 2).resolve_left (fun h => h.elim (fun h => absurd h.2 (gz_ne rfl)) (fun h => h.elim (fun h => absurd h.2 (gz_ne rfl)) (fun h => h.elim (fun h => absurd h.2 (gz_ne rfl)) (fun h => absurd h.2 (gz_ne rfl)))))
            have f109 := (gc_b_3_5 hI101 R_23)
            have f110 := (gc_b_3_6 hI101 R_23)
            have f111 := (gc_b_3_7 hI101 R_23)
            have KLT_I101 : gc_LT I101 := q98.2.2.1
            have KCT_I101 := gc_CT_fr KCT_I86 ((g98 a1 8).resolve_left (fun h => h.elim (fun h => absurd h.2 (gz_ne rfl)) (fun h => h.elim (fun h => absurd h.2 (gz_ne rfl)) (fun h => h.elim (fun h => absurd h.2 (gz_ne rfl)) (fun h => absurd h.1 N_a1__23))))) (fun k => (g98 (a1 + 6) k).resolve_left (fun h => h.elim (fun h => absurd h.1 N_a1_6__23) (fun h => h.elim (fun h => absurd h.1 N_a1_6__23) (fun h => h.elim (fun h => absurd h.1 N_a1_6__23) (fun h => absurd h.1 N_a1_6__23)))))
            have KPK_I101 := gc_PKs_fr KPK_I86 ((g98 1 17).resolve_left (fun h => h.elim (fun h => absurd h.2 (gz_ne rfl)) (fun h => h.elim (fun h => absurd h.2 (gz_ne rfl)) (fun h => h.elim (fun h => absurd h.2 (gz_ne rfl)) (fun h => absurd h.2 (gz_ne rfl)))))) (fun k => (g98 20 k).resolve_left (fun h => h.elim (fun h => absurd h.1 (gz_ne rfl)) (fun h => h.elim (fun h => absurd h.1 (gz_ne rfl)) (fun h => h.elim (fun h => absurd h.1 (gz_ne rfl)) (fun h => absurd h.1 (gz_ne rfl))))))
            have KTK_I101 : gc_TK I101 := And.intro V98_0 (And.intro V98_1 (And.intro V98_2 (And.intro V98_3 V98_4)))
            have t112 := gc_TK_mo KTK_I101
            clear V98_0 V98_1 V98_2 V98_3 V98_4
            have A113 := gc_AT_nx A97 q98.2.2.2
            have t114 := gc_AT_l A113
            refine gv_callV hD rfl (As := []) (st := []) rfl B_23 S_23 rfl (gc_lV6 hws rfl) (Nat.le_of_ble_eq_true rfl) (gz_Ev_mono (d := 2) (by decide) E98) ?_
            show gv_X _ _ (164, [(0, .inr (.inr (some 39))), (1, .inr (.inr (some a1))), (2, .inl v2_13)], [], sh, gc_h sh I101 J102 A)
            refine gv_run 2 true hD (pc' := 166) (lv' := [(0, .inr (.inr (some 39))), (1, .inr (.inr (some a1))), (2, .inl v2_13)]) (st' := [.inr (.inr (some a1)), .inr (.inr (some a1))]) (h' := gc_h sh I101 J102 A) (C := ((True ∧ True) ∧ True)) rfl ⟨⟨trivial, trivial⟩, trivial⟩ ?_
            have f115 := (show 0 ≤ I101 a1 4 ∧ I101 a1 4 ≤ 6 from gc_in2 hI101 R_a1 rfl rfl rfl)
            refine gv_get hD rfl rfl S_a1 ⟨by decide, B_a1⟩ (gc_hI S_a1 rfl) ?_
            show gv_X _ _ (169, [(0, .inr (.inr (some 39))), (1, .inr (.inr (some a1))), (2, .inl v2_13)], [.inl (I101 a1 4), .inr (.inr (some a1))], sh, gc_h sh I101 J102 A)
            refine gv_run 2 true hD (pc' := 171) (lv' := [(0, .inr (.inr (some 39))), (1, .inr (.inr (some a1))), (2, .inl v2_13)]) (st' := [.inl ((I101 a1 4) + 1), .inr (.inr (some a1))]) (h' := gc_h sh I101 J102 A) (C := ((True ∧ True) ∧ True)) rfl ⟨⟨trivial, trivial⟩, trivial⟩ ?_
            refine gv_put hD rfl rfl S_a1 ⟨by decide, B_a1⟩ rfl trivial ?_
            refine gc_st (k := 4) hI101 S_a1 rfl R_a1 (lo := 0) (hi := 6) rfl rfl (by exact gz_m 130 (by omega)) (by exact gz_m 131 (by omega)) (fun I116 hI116 q117 p117 => ?_)
            have FI116 := gc_frs (W := fun q j => (q = 39 ∧ j = 3) ∨ (q = 39 ∧ j = 4) ∨ (q = 23 ∧ j = 5) ∨ (q = 23 ∧ j = 6) ∨ (q = 23 ∧ j = 7) ∨ (q = 23 ∧ j = 8) ∨ (q = 1 ∧ j = 17) ∨ (q = 1 ∧ j = 18) ∨ q = 20 ∨ (q = 39 ∧ j = 6) ∨ q = (a1 + 1) ∨ q = (a1 + 6) ∨ q = (a1 + 4) ∨ q = (a1 + 5) ∨ (q = a1 ∧ j = 8) ∨ q = (a1 + 2) ∨ q = (a1 + 3) ∨ (q = a1 ∧ j = 4)) FI101 (Or.inr (Or.inr (Or.inr (Or.inr (Or.inr (Or.inr (Or.inr (Or.inr (Or.inr (Or.inr (Or.inr (Or.inr (Or.inr (Or.inr (Or.inr (Or.inr (Or.inr ⟨rfl, rfl⟩))))))))))))))))) p117
            have t118 := p117 23 1 (fun h => absurd h.2 (gz_ne rfl))
            have t119 := p117 23 5 (fun h => absurd h.2 (gz_ne rfl))
            have t120 := p117 23 6 (fun h => absurd h.2 (gz_ne rfl))
            have t121 := p117 23 7 (fun h => absurd h.2 (gz_ne rfl))
            have t122 := p117 1 17 (fun h => absurd h.2 (gz_ne rfl))
            have t123 := p117 a1 8 (fun h => absurd h.2 (gz_ne rfl))
            have t124 := p117 1 18 (fun h => absurd h.2 (gz_ne rfl))
            have t125 := p117 39 2 (fun h => absurd h.2 (gz_ne rfl))
            have f126 := (show 0 ≤ I116 a1 4 ∧ I116 a1 4 ≤ 6 from gc_in2 hI116 R_a1 rfl rfl rfl)
            have KLT_I116 := gc_LT_fr KLT_I101 (p117 23 5 (fun h => absurd h.2 (gz_ne rfl))) (p117 23 6 (fun h => absurd h.2 (gz_ne rfl))) (p117 23 7 (fun h => absurd h.2 (gz_ne rfl))) (fun k => p117 24 k (fun h => absurd h.1 N_24__a1))
            have KTK_I116 := gc_TK_fr KTK_I101 (p117 23 1 (fun h => absurd h.2 (gz_ne rfl))) (p117 23 5 (fun h => absurd h.2 (gz_ne rfl))) (p117 23 6 (fun h => absurd h.2 (gz_ne rfl))) (p117 23 7 (fun h => absurd h.2 (gz_ne rfl)))
            have KCT_I116 := gc_CT_fr KCT_I101 (p117 a1 8 (fun h => absurd h.2 (gz_ne rfl))) (fun k => p117 (a1 + 6) k (fun h => absurd h.1 N_a1_6__a1))
            have KPK_I116 := gc_PKs_fr KPK_I101 (p117 1 17 (fun h => absurd h.2 (gz_ne rfl))) (fun k => p117 20 k (fun h => absurd h.1 N_20__a1))
            have A127 := gc_AT_I A113 (p117 23 1 (fun h => absurd h.2 (gz_ne rfl))) (p117 23 5 (fun h => absurd h.2 (gz_ne rfl))) (p117 23 6 (fun h => absurd h.2 (gz_ne rfl))) (p117 23 7 (fun h => absurd h.2 (gz_ne rfl))) (p117 23 8 (fun h => absurd h.2 (gz_ne rfl))) (fun k => p117 24 k (fun h => absurd h.1 N_24__a1))
            show gv_X _ _ (174, [(0, .inr (.inr (some 39))), (1, .inr (.inr (some a1))), (2, .inl v2_13)], [], sh, gc_h sh I116 J102 A)
            refine gv_run 2 true hD (pc' := 23) (lv' := [(2, .inl (v2_13 + 1)), (0, .inr (.inr (some 39))), (1, .inr (.inr (some a1)))]) (st' := []) (h' := gc_h sh I116 J102 A) (C := ((True ∧ True) ∧ True)) rfl ⟨⟨trivial, trivial⟩, trivial⟩ ?_
            refine gv_pick [1, 2, 0] rfl ?_
            exact ih23 I116 J102 (v2_13 + 1) (gs_X β η p_13) (by exact gz_m 132 (by omega)) hI116 FI116 FJ102 KLT_I116 KTK_I116 KCT_I116 KPK_I116 (by exact gz_m 133 (by omega)) (by rw [show I116 a1 4 = I101 a1 4 + 1 from by exact gz_m 134 (by omega)]; exact (gc_LI_fr (by rw [show I101 a1 4 = I11 a1 4 from by exact gz_m 135 (by omega)]; exact gc_LI_txt e0_25 (by exact gz_m 136 (by omega)) (gc_b_26 hI11 R_12 (Int.toNat (I11 a1 1))).1 (((((((g98 a1 1).resolve_left (fun h => h.elim (fun h => absurd h.2 (gz_ne rfl)) (fun h => h.elim (fun h => absurd h.2 (gz_ne rfl)) (fun h => h.elim (fun h => absurd h.2 (gz_ne rfl)) (fun h => absurd h.2 (gz_ne rfl)))))).trans (p87 a1 1 (fun h => absurd h.1 N_a1__a1_3))).trans (p72 a1 1 (fun h => absurd h.1 N_a1__a1_2))).trans ((g57 a1 1).resolve_left (fun h => h.elim (fun h => absurd h.2 (gz_ne rfl)) (fun h => h.elim (fun h => absurd h.2 (gz_ne rfl)) (fun h => absurd h N_a1__20))))).trans (p45 a1 1 (fun h => absurd h.1 N_a1__a1_1)))) (((((((g98 a1 8).resolve_left (fun h => h.elim (fun h => absurd h.2 (gz_ne rfl)) (fun h => h.elim (fun h => absurd h.2 (gz_ne rfl)) (fun h => h.elim (fun h => absurd h.2 (gz_ne rfl)) (fun h => absurd h.1 N_a1__23))))).trans (p87 a1 8 (fun h => absurd h.1 N_a1__a1_3))).trans (p72 a1 8 (fun h => absurd h.1 N_a1__a1_2))).trans ((g57 a1 8).resolve_left (fun h => h.elim (fun h => absurd h.2 (gz_ne rfl)) (fun h => h.elim (fun h => absurd h.2 (gz_ne rfl)) (fun h => absurd h N_a1__20))))).trans (p45 a1 8 (fun h => absurd h.1 N_a1__a1_1)))) (((((((g98 (a1 + 1) (Int.toNat (I11 a1 4))).resolve_left (fun h => h.elim (fun h => absurd h.1 N_a1_1__23) (fun h => h.elim (fun h => absurd h.1 N_a1_1__23) (fun h => h.elim (fun h => absurd h.1 N_a1_1__23) (fun h => absurd h.1 N_a1_1__23))))).trans (p87 (a1 + 1) (Int.toNat (I11 a1 4)) (fun h => absurd h.1 N_a1_1__a1_3))).trans (p72 (a1 + 1) (Int.toNat (I11 a1 4)) (fun h => absurd h.1 N_a1_1__a1_2))).trans ((g57 (a1 + 1) (Int.toNat (I11 a1 4))).resolve_left (fun h => h.elim (fun h => absurd h.1 N_a1_1__1) (fun h => h.elim (fun h => absurd h.1 N_a1_1__1) (fun h => absurd h N_a1_1__20)))))).trans q45) (fun k hk => ((((((g98 (a1 + 1) k).resolve_left (fun h => h.elim (fun h => absurd h.1 N_a1_1__23) (fun h => h.elim (fun h => absurd h.1 N_a1_1__23) (fun h => h.elim (fun h => absurd h.1 N_a1_1__23) (fun h => absurd h.1 N_a1_1__23))))).trans (p87 (a1 + 1) k (fun h => absurd h.1 N_a1_1__a1_3))).trans (p72 (a1 + 1) k (fun h => absurd h.1 N_a1_1__a1_2))).trans ((g57 (a1 + 1) k).resolve_left (fun h => h.elim (fun h => absurd h.1 N_a1_1__1) (fun h => h.elim (fun h => absurd h.1 N_a1_1__1) (fun h => absurd h N_a1_1__20))))).trans (p45 (a1 + 1) k (fun h => by have := h.2; exact gz_m 137 (by omega))))) (fun k => ((((((g98 (a1 + 4) k).resolve_left (fun h => h.elim (fun h => absurd h.1 N_a1_4__23) (fun h => h.elim (fun h => absurd h.1 N_a1_4__23) (fun h => h.elim (fun h => absurd h.1 N_a1_4__23) (fun h => absurd h.1 N_a1_4__23))))).trans (p87 (a1 + 4) k (fun h => absurd h.1 N_a1_4__a1_3))).trans (p72 (a1 + 4) k (fun h => absurd h.1 N_a1_4__a1_2))).trans ((g57 (a1 + 4) k).resolve_left (fun h => h.elim (fun h => absurd h.1 N_a1_4__1) (fun h => h.elim (fun h => absurd h.1 N_a1_4__1) (fun h => absurd h N_a1_4__20))))).trans (p45 (a1 + 4) k (fun h => absurd h.1 N_a1_4__a1_1)))) (fun k => ((((((g98 (a1 + 6) k).resolve_left (fun h => h.elim (fun h => absurd h.1 N_a1_6__23) (fun h => h.elim (fun h => absurd h.1 N_a1_6__23) (fun h => h.elim (fun h => absurd h.1 N_a1_6__23) (fun h => absurd h.1 N_a1_6__23))))).trans (p87 (a1 + 6) k (fun h => absurd h.1 N_a1_6__a1_3))).trans (p72 (a1 + 6) k (fun h => absurd h.1 N_a1_6__a1_2))).trans ((g57 (a1 + 6) k).resolve_left (fun h => h.elim (fun h => absurd h.1 N_a1_6__1) (fun h => h.elim (fun h => absurd h.1 N_a1_6__1) (fun h => absurd h N_a1_6__20))))).trans (p45 (a1 + 6) k (fun h => absurd h.1 N_a1_6__a1_1)))) (fun k => ((((((g98 12 k).resolve_left (fun h => h.elim (fun h => absurd h.1 (gz_ne rfl)) (fun h => h.elim (fun h => absurd h.1 (gz_ne rfl)) (fun h => h.elim (fun h => absurd h.1 (gz_ne rfl)) (fun h => absurd h.1 (gz_ne rfl)))))).trans (p87 12 k (fun h => absurd h.1 N_12__a1_3))).trans (p72 12 k (fun h => absurd h.1 N_12__a1_2))).trans ((g57 12 k).resolve_left (fun h => h.elim (fun h => absurd h.1 (gz_ne rfl)) (fun h => h.elim (fun h => absurd h.1 (gz_ne rfl)) (fun h => absurd h (gz_ne rfl)))))).trans (p45 12 k (fun h => absurd h.1 N_12__a1_1))))) ((p117 a1 1 (fun h => absurd h.2 (gz_ne rfl)))) ((p117 a1 8 (fun h => absurd h.2 (gz_ne rfl)))) (fun k => (p117 (a1 + 1) k (fun h => absurd h.1 N_a1_1__a1))) (fun k => (p117 (a1 + 4) k (fun h => absurd h.1 N_a1_4__a1))) (fun k => (p117 (a1 + 6) k (fun h => absurd h.1 N_a1_6__a1))) (fun k => (p117 12 k (fun h => absurd h.1 N_12__a1))))) A127 ⟨_, _, h9l.trans (by have e9 : gs_it β η Ir Jr nf9 v2_13 a8 p_13 = (gs_X β η p_13) := ((if_neg (by exact gz_m 138 (by omega))).trans ((if_pos (by exact gz_m 139 (by omega))).trans (if_neg (by exact gz_m 140 (by omega))))); rw [show Int.toNat (1002 - v2_13) = Int.toNat (1002 - (v2_13 + 1)) + 1 from by exact gz_m 141 (by omega), gs_li_c (by exact gz_m 142 (by omega)) (by rw [e9]; exact gz_m 143 (by omega)), e9]), gs_SO_ua (by exact gz_m 144 (by omega)) (gs_SO_fr h9s (fun k => ((((((p117 (a1 + 6) k (fun h => absurd h.1 N_a1_6__a1)).trans ((g98 (a1 + 6) k).resolve_left (fun h => h.elim (fun h => absurd h.1 N_a1_6__23) (fun h => h.elim (fun h => absurd h.1 N_a1_6__23) (fun h => h.elim (fun h => absurd h.1 N_a1_6__23) (fun h => absurd h.1 N_a1_6__23)))))).trans (p87 (a1 + 6) k (fun h => absurd h.1 N_a1_6__a1_3))).trans (p72 (a1 + 6) k (fun h => absurd h.1 N_a1_6__a1_2))).trans ((g57 (a1 + 6) k).resolve_left (fun h => h.elim (fun h => absurd h.1 N_a1_6__1) (fun h => h.elim (fun h => absurd h.1 N_a1_6__1) (fun h => absurd h N_a1_6__20))))).trans (p45 (a1 + 6) k (fun h => absurd h.1 N_a1_6__a1_1))))), gs_FF_t h9f (by exact gz_m 145 (by omega)) (by exact gz_m 146 (by omega)) (by rw [show Int.toNat v2_13 = Int.toNat (I11 a1 4) from by exact gz_m 147 (by omega)]; exact (((((((p117 (a1 + 1) (Int.toNat (I11 a1 4)) (fun h => absurd h.1 N_a1_1__a1)).trans ((g98 (a1 + 1) (Int.toNat (I11 a1 4))).resolve_left (fun h => h.elim (fun h => absurd h.1 N_a1_1__23) (fun h => h.elim (fun h => absurd h.1 N_a1_1__23) (fun h => h.elim (fun h => absurd h.1 N_a1_1__23) (fun h => absurd h.1 N_a1_1__23)))))).trans (p87 (a1 + 1) (Int.toNat (I11 a1 4)) (fun h => absurd h.1 N_a1_1__a1_3))).trans (p72 (a1 + 1) (Int.toNat (I11 a1 4)) (fun h => absurd h.1 N_a1_1__a1_2))).trans ((g57 (a1 + 1) (Int.toNat (I11 a1 4))).resolve_left (fun h => h.elim (fun h => absurd h.1 N_a1_1__1) (fun h => h.elim (fun h => absurd h.1 N_a1_1__1) (fun h => absurd h N_a1_1__20)))))).trans q45)) (fun k hk => ((((((p117 (a1 + 1) k (fun h => absurd h.1 N_a1_1__a1)).trans ((g98 (a1 + 1) k).resolve_left (fun h => h.elim (fun h => absurd h.1 N_a1_1__23) (fun h => h.elim (fun h => absurd h.1 N_a1_1__23) (fun h => h.elim (fun h => absurd h.1 N_a1_1__23) (fun h => absurd h.1 N_a1_1__23)))))).trans (p87 (a1 + 1) k (fun h => absurd h.1 N_a1_1__a1_3))).trans (p72 (a1 + 1) k (fun h => absurd h.1 N_a1_1__a1_2))).trans ((g57 (a1 + 1) k).resolve_left (fun h => h.elim (fun h => absurd h.1 N_a1_1__1) (fun h => h.elim (fun h => absurd h.1 N_a1_1__1) (fun h => absurd h N_a1_1__20))))).trans (p45 (a1 + 1) k (fun h => absurd h.2 (by exact gz_m 148 (by omega))))))⟩ (fun h => absurd h (by exact gz_m 149 (by omega))) e7_13
          · show gv_X _ _ (105, [(0, .inr (.inr (some 39))), (1, .inr (.inr (some a1))), (2, .inl v2_13)], [], sh, gc_h sh I11 J12 A)
            refine gv_run 3 true hD (pc' := 108) (lv' := [(0, .inr (.inr (some 39))), (1, .inr (.inr (some a1))), (2, .inl v2_13)]) (st' := [.inr (.inr (some 39)), .inl 5, .inr (.inr (some 39))]) (h' := gc_h sh I11 J12 A) (C := (((True ∧ True) ∧ True) ∧ True)) rfl ⟨⟨⟨trivial, trivial⟩, trivial⟩, trivial⟩ ?_
            refine gv_get hD rfl rfl S_39 ⟨by decide, B_39⟩ (gc_hA S_39 rfl A_39_1) ?_
            show gv_X _ _ (111, [(0, .inr (.inr (some 39))), (1, .inr (.inr (some a1))), (2, .inl v2_13)], [.inr (.inr (some 23)), .inl 5, .inr (.inr (some 39))], sh, gc_h sh I11 J12 A)
            have f128 := (gc_b_3_5 hI11 R_23)
            refine gv_get hD rfl rfl S_23 ⟨by decide, B_23⟩ (gc_hI S_23 rfl) ?_
            show gv_X _ _ (114, [(0, .inr (.inr (some 39))), (1, .inr (.inr (some a1))), (2, .inl v2_13)], [.inl (I11 23 5), .inl 5, .inr (.inr (some 39))], sh, gc_h sh I11 J12 A)
            obtain ⟨r129, h129, E129, P129⟩ := d_X6_wrong_p (ws0 := ws0) (tb := tb) hws htb sh ro I11 J12 A hI11  5 (I11 23 5) hb   ⟨by exact gz_m 150 (by omega), by exact gz_m 151 (by omega)⟩ ⟨by exact gz_m 152 (by omega), by exact gz_m 153 (by omega)⟩  
            obtain ⟨I130, J131, rfl, hI130, g129, k129, ⟨z129, rfl, q129⟩⟩ := P129
            have FI130 := gc_frc (W := fun q j => (q = 39 ∧ j = 3) ∨ (q = 39 ∧ j = 4) ∨ (q = 23 ∧ j = 5) ∨ (q = 23 ∧ j = 6) ∨ (q = 23 ∧ j = 7) ∨ (q = 23 ∧ j = 8) ∨ (q = 1 ∧ j = 17) ∨ (q = 1 ∧ j = 18) ∨ q = 20 ∨ (q = 39 ∧ j = 6) ∨ q = (a1 + 1) ∨ q = (a1 + 6) ∨ q = (a1 + 4) ∨ q = (a1 + 5) ∨ (q = a1 ∧ j = 8) ∨ q = (a1 + 2) ∨ q = (a1 + 3) ∨ (q = a1 ∧ j = 4)) (V := fun q j => (q = 39 ∧ j = 3) ∨ (q = 39 ∧ j = 4)) FI11 (fun q j h => (h.elim (fun h => (Or.inl h)) (fun h => (Or.inr (Or.inl h))))) g129
            have t132 := (g129 23 1).resolve_left (fun h => h.elim (fun h => absurd h.2 (gz_ne rfl)) (fun h => absurd h.2 (gz_ne rfl)))
            have t133 := (g129 23 5).resolve_left (fun h => h.elim (fun h => absurd h.2 (gz_ne rfl)) (fun h => absurd h.2 (gz_ne rfl)))
            have t134 := (g129 23 6).resolve_left (fun h => h.elim (fun h => absurd h.2 (gz_ne rfl)) (fun h => absurd h.2 (gz_ne rfl)))
            have t135 := (g129 23 7).resolve_left (fun h => h.elim (fun h => absurd h.2 (gz_ne rfl)) (fun h => absurd h.2 (gz_ne rfl)))
            have t136 := (g129 1 17).resolve_left (fun h => h.elim (fun h => absurd h.2 (gz_ne rfl)) (fun h => absurd h.2 (gz_ne rfl)))
            have t137 := (g129 a1 4).resolve_left (fun h => h.elim (fun h => absurd h.2 (gz_ne rfl)) (fun h => absurd h.1 N_a1__39))
            have t138 := (g129 a1 8).resolve_left (fun h => h.elim (fun h => absurd h.2 (gz_ne rfl)) (fun h => absurd h.2 (gz_ne rfl)))
            have t139 := (g129 1 18).resolve_left (fun h => h.elim (fun h => absurd h.2 (gz_ne rfl)) (fun h => absurd h.2 (gz_ne rfl)))
            have t140 := (g129 39 2).resolve_left (fun h => h.elim (fun h => absurd h.2 (gz_ne rfl)) (fun h => absurd h.2 (gz_ne rfl)))
            obtain rfl : J12 = J131 := funext fun q => funext fun j => ((k129 q j).resolve_left id).symm
            have KLT_I130 := gc_LT_fr KLT_I11 ((g129 23 5).resolve_left (fun h => h.elim (fun h => absurd h.2 (gz_ne rfl)) (fun h => absurd h.2 (gz_ne rfl)))) ((g129 23 6).resolve_left (fun h => h.elim (fun h => absurd h.2 (gz_ne rfl)) (fun h => absurd h.2 (gz_ne rfl)))) ((g129 23 7).resolve_left (fun h => h.elim (fun h => absurd h.2 (gz_ne rfl)) (fun h => absurd h.2 (gz_ne rfl)))) (fun k => (g129 24 k).resolve_left (fun h => h.elim (fun h => absurd h.1 (gz_ne rfl)) (fun h => absurd h.1 (gz_ne rfl))))
            have KTK_I130 := gc_TK_fr KTK_I11 ((g129 23 1).resolve_left (fun h => h.elim (fun h => absurd h.2 (gz_ne rfl)) (fun h => absurd h.2 (gz_ne rfl)))) ((g129 23 5).resolve_left (fun h => h.elim (fun h => absurd h.2 (gz_ne rfl)) (fun h => absurd h.2 (gz_ne rfl)))) ((g129 23 6).resolve_left (fun h => h.elim (fun h => absurd h.2 (gz_ne rfl)) (fun h => absurd h.2 (gz_ne rfl)))) ((g129 23 7).resolve_left (fun h => h.elim (fun h => absurd h.2 (gz_ne rfl)) (fun h => absurd h.2 (gz_ne rfl))))
            have KCT_I130 := gc_CT_fr KCT_I11 ((g129 a1 8).resolve_left (fun h => h.elim (fun h => absurd h.2 (gz_ne rfl)) (fun h => absurd h.2 (gz_ne rfl)))) (fun k => (g129 (a1 + 6) k).resolve_left (fun h => h.elim (fun h => absurd h.1 N_a1_6__39) (fun h => absurd h.1 N_a1_6__39)))
            have KPK_I130 := gc_PKs_fr KPK_I11 ((g129 1 17).resolve_left (fun h => h.elim (fun h => absurd h.2 (gz_ne rfl)) (fun h => absurd h.2 (gz_ne rfl)))) (fun k => (g129 20 k).resolve_left (fun h => h.elim (fun h => absurd h.1 (gz_ne rfl)) (fun h => absurd h.1 (gz_ne rfl))))
            have A141 := gc_AT_I e4_13 ((g129 23 1).resolve_left (fun h => h.elim (fun h => absurd h.2 (gz_ne rfl)) (fun h => absurd h.2 (gz_ne rfl)))) ((g129 23 5).resolve_left (fun h => h.elim (fun h => absurd h.2 (gz_ne rfl)) (fun h => absurd h.2 (gz_ne rfl)))) ((g129 23 6).resolve_left (fun h => h.elim (fun h => absurd h.2 (gz_ne rfl)) (fun h => absurd h.2 (gz_ne rfl)))) ((g129 23 7).resolve_left (fun h => h.elim (fun h => absurd h.2 (gz_ne rfl)) (fun h => absurd h.2 (gz_ne rfl)))) ((g129 23 8).resolve_left (fun h => h.elim (fun h => absurd h.2 (gz_ne rfl)) (fun h => absurd h.2 (gz_ne rfl)))) (fun k => (g129 24 k).resolve_left (fun h => h.elim (fun h => absurd h.1 (gz_ne rfl)) (fun h => absurd h.1 (gz_ne rfl))))
            have t142 := gc_AT_l A141
            refine gv_callV hD rfl (As := [.inl 5, .inl (I11 23 5)]) (st := []) rfl B_39 S_39 rfl (gc_lV6 hws rfl) (Nat.le_of_ble_eq_true rfl) (gz_Ev_mono (d := 1) (by decide) E129) ?_
            show gv_X _ _ (117, [(0, .inr (.inr (some 39))), (1, .inr (.inr (some a1))), (2, .inl v2_13)], [.inl z129], sh, gc_h sh I130 J12 A)
            exact gv_zret hD rfl (by exact gz_m 154 (by omega)) ⟨I130, J12, rfl, hI130, FI130, FJ12, KLT_I130, KTK_I130, KCT_I130, ⟨_, rfl, by exact gz_m 155 (by omega), by exact gz_m 156 (by omega), by exact gz_m 157 (by omega), by exact gz_m 158 (by omega), by exact gz_m 159 (by omega), by exact gz_m 160 (by omega), (Or.inl (by exact gz_m 161 (by omega))), KPK_I130, (Or.inr ⟨by exact gz_m 162 (by omega), by (have e9 : gs_it β η Ir Jr nf9 v2_13 a8 p_13 = -1 - gs_A β η p_13 := ((if_neg (by exact gz_m 163 (by omega))).trans ((if_pos (by exact gz_m 164 (by omega))).trans (if_pos (by exact gz_m 165 (by omega))))); have h8 : gs_li β η Ir Jr nf9 1002 0 0 (fun _ => -1) p9 = (gs_it β η Ir Jr nf9 v2_13 a8 p_13, v2_13, i9, a8) := h9l.trans (by rw [show Int.toNat (1002 - v2_13) = Int.toNat (1002 - (v2_13 + 1)) + 1 from by exact gz_m 166 (by omega), gs_li_f (by exact gz_m 167 (by omega)) (by rw [e9]; exact gz_m 168 (by omega))]); unfold gs_itm; rw [if_pos e7_13, h8]; show gs_it β η Ir Jr nf9 v2_13 a8 p_13 < 0 ∧ _ = -1 - gs_it β η Ir Jr nf9 v2_13 a8 p_13; rw [e9]; exact ⟨by exact gz_m 169 (by omega), by exact gz_m 170 (by omega)⟩)⟩)⟩⟩
        · show gv_X _ _ (84, [(0, .inr (.inr (some 39))), (1, .inr (.inr (some a1))), (2, .inl v2_13)], [], sh, gc_h sh I11 J12 A)
          refine gv_run 2 true hD (pc' := 86) (lv' := [(0, .inr (.inr (some 39))), (1, .inr (.inr (some a1))), (2, .inl v2_13)]) (st' := [.inr (.inr (some a1)), .inr (.inr (some 39))]) (h' := gc_h sh I11 J12 A) (C := ((True ∧ True) ∧ True)) rfl ⟨⟨trivial, trivial⟩, trivial⟩ ?_
          obtain ⟨r143, h143, E143, P143⟩ := d_X6_readArgument_l_p (ws0 := ws0) (tb := tb) hws htb sh ro I11 J12 A hI11  t β η p_13 Ir Jr nf9 a8 a1 hb h_a1 G_a1 h_t G_t   (by exact gz_m 171 (by omega)) (by exact gz_m 172 (by omega)) (by exact gz_m 173 (by omega)) e4_13 (by exact gz_m 174 (by omega)) (gs_SO_fr h9s (fun k => rfl)) (by exact gz_m 175 (by omega)) (by rw [show I11 a1 1 = I a1 1 from ((FI11 a1 1).resolve_left (fun h => h.elim (fun h => absurd h.2 (gz_ne rfl)) (fun h => h.elim (fun h => absurd h.2 (gz_ne rfl)) (fun h => h.elim (fun h => absurd h.2 (gz_ne rfl)) (fun h => h.elim (fun h => absurd h.2 (gz_ne rfl)) (fun h => h.elim (fun h => absurd h.2 (gz_ne rfl)) (fun h => h.elim (fun h => absurd h.2 (gz_ne rfl)) (fun h => h.elim (fun h => absurd h.2 (gz_ne rfl)) (fun h => h.elim (fun h => absurd h.2 (gz_ne rfl)) (fun h => h.elim (fun h => absurd h N_a1__20) (fun h => h.elim (fun h => absurd h.2 (gz_ne rfl)) (fun h => h.elim (fun h => absurd h N_a1__a1_1) (fun h => h.elim (fun h => absurd h N_a1__a1_6) (fun h => h.elim (fun h => absurd h N_a1__a1_4) (fun h => h.elim (fun h => absurd h N_a1__a1_5) (fun h => h.elim (fun h => absurd h.2 (gz_ne rfl)) (fun h => h.elim (fun h => absurd h N_a1__a1_2) (fun h => h.elim (fun h => absurd h N_a1__a1_3) (fun h => absurd h.2 (gz_ne rfl)))))))))))))))))))), show I11 12 (Int.toNat (I a1 1)) = I 12 (Int.toNat (I a1 1)) from ((FI11 12 (Int.toNat (I a1 1))).resolve_left (fun h => h.elim (fun h => absurd h.1 (gz_ne rfl)) (fun h => h.elim (fun h => absurd h.1 (gz_ne rfl)) (fun h => h.elim (fun h => absurd h.1 (gz_ne rfl)) (fun h => h.elim (fun h => absurd h.1 (gz_ne rfl)) (fun h => h.elim (fun h => absurd h.1 (gz_ne rfl)) (fun h => h.elim (fun h => absurd h.1 (gz_ne rfl)) (fun h => h.elim (fun h => absurd h.1 (gz_ne rfl)) (fun h => h.elim (fun h => absurd h.1 (gz_ne rfl)) (fun h => h.elim (fun h => absurd h (gz_ne rfl)) (fun h => h.elim (fun h => absurd h.1 (gz_ne rfl)) (fun h => h.elim (fun h => absurd h N_12__a1_1) (fun h => h.elim (fun h => absurd h N_12__a1_6) (fun h => h.elim (fun h => absurd h N_12__a1_4) (fun h => h.elim (fun h => absurd h N_12__a1_5) (fun h => h.elim (fun h => absurd h.1 N_12__a1) (fun h => h.elim (fun h => absurd h N_12__a1_2) (fun h => h.elim (fun h => absurd h N_12__a1_3) (fun h => absurd h.1 N_12__a1)))))))))))))))))))]; exact x8) (by have h9 := x9; have h8 := (show I11 (t + 3) 1 = I (t + 3) 1 from ((FI11 (t + 3) 1).resolve_left (fun h => h.elim (fun h => absurd h.2 (gz_ne rfl)) (fun h => h.elim (fun h => absurd h.2 (gz_ne rfl)) (fun h => h.elim (fun h => absurd h.2 (gz_ne rfl)) (fun h => h.elim (fun h => absurd h.2 (gz_ne rfl)) (fun h => h.elim (fun h => absurd h.2 (gz_ne rfl)) (fun h => h.elim (fun h => absurd h.2 (gz_ne rfl)) (fun h => h.elim (fun h => absurd h.2 (gz_ne rfl)) (fun h => h.elim (fun h => absurd h.2 (gz_ne rfl)) (fun h => h.elim (fun h => absurd h N_t_3__20) (fun h => h.elim (fun h => absurd h.2 (gz_ne rfl)) (fun h => h.elim (fun h => absurd h N_t_3__a1_1) (fun h => h.elim (fun h => absurd h N_t_3__a1_6) (fun h => h.elim (fun h => absurd h N_t_3__a1_4) (fun h => h.elim (fun h => absurd h N_t_3__a1_5) (fun h => h.elim (fun h => absurd h.2 (gz_ne rfl)) (fun h => h.elim (fun h => absurd h N_t_3__a1_2) (fun h => h.elim (fun h => absurd h N_t_3__a1_3) (fun h => absurd h.2 (gz_ne rfl))))))))))))))))))))); exact gz_m 176 (by omega)) (by rw [show I11 (t + 3) 1 = I (t + 3) 1 from ((FI11 (t + 3) 1).resolve_left (fun h => h.elim (fun h => absurd h.2 (gz_ne rfl)) (fun h => h.elim (fun h => absurd h.2 (gz_ne rfl)) (fun h => h.elim (fun h => absurd h.2 (gz_ne rfl)) (fun h => h.elim (fun h => absurd h.2 (gz_ne rfl)) (fun h => h.elim (fun h => absurd h.2 (gz_ne rfl)) (fun h => h.elim (fun h => absurd h.2 (gz_ne rfl)) (fun h => h.elim (fun h => absurd h.2 (gz_ne rfl)) (fun h => h.elim (fun h => absurd h.2 (gz_ne rfl)) (fun h => h.elim (fun h => absurd h N_t_3__20) (fun h => h.elim (fun h => absurd h.2 (gz_ne rfl)) (fun h => h.elim (fun h => absurd h N_t_3__a1_1) (fun h => h.elim (fun h => absurd h N_t_3__a1_6) (fun h => h.elim (fun h => absurd h N_t_3__a1_4) (fun h => h.elim (fun h => absurd h N_t_3__a1_5) (fun h => h.elim (fun h => absurd h.2 (gz_ne rfl)) (fun h => h.elim (fun h => absurd h N_t_3__a1_2) (fun h => h.elim (fun h => absurd h N_t_3__a1_3) (fun h => absurd h.2 (gz_ne rfl)))))))))))))))))))), show J12 (t + 4) = J (t + 4) from funext fun j => ((FJ12 (t + 4) j).resolve_left (fun h => absurd h.1 N_t_4__23))]; exact x10) (gs_VR_fr x11 ((FI11 (t + 3) 1).resolve_left (fun h => h.elim (fun h => absurd h.2 (gz_ne rfl)) (fun h => h.elim (fun h => absurd h.2 (gz_ne rfl)) (fun h => h.elim (fun h => absurd h.2 (gz_ne rfl)) (fun h => h.elim (fun h => absurd h.2 (gz_ne rfl)) (fun h => h.elim (fun h => absurd h.2 (gz_ne rfl)) (fun h => h.elim (fun h => absurd h.2 (gz_ne rfl)) (fun h => h.elim (fun h => absurd h.2 (gz_ne rfl)) (fun h => h.elim (fun h => absurd h.2 (gz_ne rfl)) (fun h => h.elim (fun h => absurd h N_t_3__20) (fun h => h.elim (fun h => absurd h.2 (gz_ne rfl)) (fun h => h.elim (fun h => absurd h N_t_3__a1_1) (fun h => h.elim (fun h => absurd h N_t_3__a1_6) (fun h => h.elim (fun h => absurd h N_t_3__a1_4) (fun h => h.elim (fun h => absurd h N_t_3__a1_5) (fun h => h.elim (fun h => absurd h.2 (gz_ne rfl)) (fun h => h.elim (fun h => absurd h N_t_3__a1_2) (fun h => h.elim (fun h => absurd h N_t_3__a1_3) (fun h => absurd h.2 (gz_ne rfl)))))))))))))))))))) (fun k => ((FI11 (t + 5) k).resolve_left (fun h => h.elim (fun h => absurd h.1 N_t_5__39) (fun h => h.elim (fun h => absurd h.1 N_t_5__39) (fun h => h.elim (fun h => absurd h.1 N_t_5__23) (fun h => h.elim (fun h => absurd h.1 N_t_5__23) (fun h => h.elim (fun h => absurd h.1 N_t_5__23) (fun h => h.elim (fun h => absurd h.1 N_t_5__23) (fun h => h.elim (fun h => absurd h.1 N_t_5__1) (fun h => h.elim (fun h => absurd h.1 N_t_5__1) (fun h => h.elim (fun h => absurd h N_t_5__20) (fun h => h.elim (fun h => absurd h.1 N_t_5__39) (fun h => h.elim (fun h => absurd h N_t_5__a1_1) (fun h => h.elim (fun h => absurd h N_t_5__a1_6) (fun h => h.elim (fun h => absurd h N_t_5__a1_4) (fun h => h.elim (fun h => absurd h N_t_5__a1_5) (fun h => h.elim (fun h => absurd h.1 N_t_5__a1) (fun h => h.elim (fun h => absurd h N_t_5__a1_2) (fun h => h.elim (fun h => absurd h N_t_5__a1_3) (fun h => absurd h.1 N_t_5__a1)))))))))))))))))))) (fun k => ((FI11 (t + 6) k).resolve_left (fun h => h.elim (fun h => absurd h.1 N_t_6__39) (fun h => h.elim (fun h => absurd h.1 N_t_6__39) (fun h => h.elim (fun h => absurd h.1 N_t_6__23) (fun h => h.elim (fun h => absurd h.1 N_t_6__23) (fun h => h.elim (fun h => absurd h.1 N_t_6__23) (fun h => h.elim (fun h => absurd h.1 N_t_6__23) (fun h => h.elim (fun h => absurd h.1 N_t_6__1) (fun h => h.elim (fun h => absurd h.1 N_t_6__1) (fun h => h.elim (fun h => absurd h N_t_6__20) (fun h => h.elim (fun h => absurd h.1 N_t_6__39) (fun h => h.elim (fun h => absurd h N_t_6__a1_1) (fun h => h.elim (fun h => absurd h N_t_6__a1_6) (fun h => h.elim (fun h => absurd h N_t_6__a1_4) (fun h => h.elim (fun h => absurd h N_t_6__a1_5) (fun h => h.elim (fun h => absurd h.1 N_t_6__a1) (fun h => h.elim (fun h => absurd h N_t_6__a1_2) (fun h => h.elim (fun h => absurd h N_t_6__a1_3) (fun h => absurd h.1 N_t_6__a1))))))))))))))))))))) (by exact gz_m 177 (by omega)) KLT_I11 KTK_I11 KCT_I11
          obtain ⟨I144, J145, rfl, hI144, g143, k143, KLT_I144, KTK_I144, KCT_I144, ⟨z143, rfl, q143⟩⟩ := P143
          have FI144 := gc_frc (W := fun q j => (q = 39 ∧ j = 3) ∨ (q = 39 ∧ j = 4) ∨ (q = 23 ∧ j = 5) ∨ (q = 23 ∧ j = 6) ∨ (q = 23 ∧ j = 7) ∨ (q = 23 ∧ j = 8) ∨ (q = 1 ∧ j = 17) ∨ (q = 1 ∧ j = 18) ∨ q = 20 ∨ (q = 39 ∧ j = 6) ∨ q = (a1 + 1) ∨ q = (a1 + 6) ∨ q = (a1 + 4) ∨ q = (a1 + 5) ∨ (q = a1 ∧ j = 8) ∨ q = (a1 + 2) ∨ q = (a1 + 3) ∨ (q = a1 ∧ j = 4)) (V := fun q j => (q = 39 ∧ j = 3) ∨ (q = 39 ∧ j = 4) ∨ (q = 23 ∧ j = 5) ∨ (q = 23 ∧ j = 6) ∨ (q = 23 ∧ j = 7) ∨ (q = 23 ∧ j = 8) ∨ (q = 39 ∧ j = 6) ∨ q = (a1 + 1) ∨ q = (a1 + 6) ∨ q = (a1 + 4) ∨ q = (a1 + 5) ∨ (q = a1 ∧ j = 8)) FI11 (fun q j h => (h.elim (fun h => (Or.inl h)) (fun h => (h.elim (fun h => (Or.inr (Or.inl h))) (fun h => (h.elim (fun h => (Or.inr (Or.inr (Or.inl h)))) (fun h => (h.elim (fun h => (Or.inr (Or.inr (Or.inr (Or.inl h))))) (fun h => (h.elim (fun h => (Or.inr (Or.inr (Or.inr (Or.inr (Or.inl h)))))) (fun h => (h.elim (fun h => (Or.inr (Or.inr (Or.inr (Or.inr (Or.inr (Or.inl h))))))) (fun h => (h.elim (fun h => (Or.inr (Or.inr (Or.inr (Or.inr (Or.inr (Or.inr (Or.inr (Or.inr (Or.inr (Or.inl h))))))))))) (fun h => (h.elim (fun h => (Or.inr (Or.inr (Or.inr (Or.inr (Or.inr (Or.inr (Or.inr (Or.inr (Or.inr (Or.inr (Or.inl h)))))))))))) (fun h => (h.elim (fun h => (Or.inr (Or.inr (Or.inr (Or.inr (Or.inr (Or.inr (Or.inr (Or.inr (Or.inr (Or.inr (Or.inr (Or.inl h))))))))))))) (fun h => (h.elim (fun h => (Or.inr (Or.inr (Or.inr (Or.inr (Or.inr (Or.inr (Or.inr (Or.inr (Or.inr (Or.inr (Or.inr (Or.inr (Or.inl h)))))))))))))) (fun h => (h.elim (fun h => (Or.inr (Or.inr (Or.inr (Or.inr (Or.inr (Or.inr (Or.inr (Or.inr (Or.inr (Or.inr (Or.inr (Or.inr (Or.inr (Or.inl h))))))))))))))) (fun h => (Or.inr (Or.inr (Or.inr (Or.inr (Or.inr (Or.inr (Or.inr (Or.inr (Or.inr (Or.inr (Or.inr (Or.inr (Or.inr (Or.inr (Or.inl h)))))))))))))))))))))))))))))))))))))) g143
          have FJ145 := gc_frc (W := fun q j => (q = 23 ∧ j = 9)) (V := fun q j => (q = 23 ∧ j = 9)) FJ12 (fun q j h => h) k143
          have t146 := (g143 23 1).resolve_left (fun h => h.elim (fun h => absurd h.2 (gz_ne rfl)) (fun h => h.elim (fun h => absurd h.2 (gz_ne rfl)) (fun h => h.elim (fun h => absurd h.2 (gz_ne rfl)) (fun h => h.elim (fun h => absurd h.2 (gz_ne rfl)) (fun h => h.elim (fun h => absurd h.2 (gz_ne rfl)) (fun h => h.elim (fun h => absurd h.2 (gz_ne rfl)) (fun h => h.elim (fun h => absurd h.2 (gz_ne rfl)) (fun h => h.elim (fun h => absurd h N_23__a1_1) (fun h => h.elim (fun h => absurd h N_23__a1_6) (fun h => h.elim (fun h => absurd h N_23__a1_4) (fun h => h.elim (fun h => absurd h N_23__a1_5) (fun h => absurd h.2 (gz_ne rfl)))))))))))))
          have t147 := (g143 1 17).resolve_left (fun h => h.elim (fun h => absurd h.2 (gz_ne rfl)) (fun h => h.elim (fun h => absurd h.2 (gz_ne rfl)) (fun h => h.elim (fun h => absurd h.2 (gz_ne rfl)) (fun h => h.elim (fun h => absurd h.2 (gz_ne rfl)) (fun h => h.elim (fun h => absurd h.2 (gz_ne rfl)) (fun h => h.elim (fun h => absurd h.2 (gz_ne rfl)) (fun h => h.elim (fun h => absurd h.2 (gz_ne rfl)) (fun h => h.elim (fun h => absurd h N_1__a1_1) (fun h => h.elim (fun h => absurd h N_1__a1_6) (fun h => h.elim (fun h => absurd h N_1__a1_4) (fun h => h.elim (fun h => absurd h N_1__a1_5) (fun h => absurd h.2 (gz_ne rfl)))))))))))))
          have t148 := (g143 a1 4).resolve_left (fun h => h.elim (fun h => absurd h.2 (gz_ne rfl)) (fun h => h.elim (fun h => absurd h.1 N_a1__39) (fun h => h.elim (fun h => absurd h.2 (gz_ne rfl)) (fun h => h.elim (fun h => absurd h.2 (gz_ne rfl)) (fun h => h.elim (fun h => absurd h.2 (gz_ne rfl)) (fun h => h.elim (fun h => absurd h.2 (gz_ne rfl)) (fun h => h.elim (fun h => absurd h.2 (gz_ne rfl)) (fun h => h.elim (fun h => absurd h N_a1__a1_1) (fun h => h.elim (fun h => absurd h N_a1__a1_6) (fun h => h.elim (fun h => absurd h N_a1__a1_4) (fun h => h.elim (fun h => absurd h N_a1__a1_5) (fun h => absurd h.2 (gz_ne rfl)))))))))))))
          have t149 := (g143 1 18).resolve_left (fun h => h.elim (fun h => absurd h.2 (gz_ne rfl)) (fun h => h.elim (fun h => absurd h.2 (gz_ne rfl)) (fun h => h.elim (fun h => absurd h.2 (gz_ne rfl)) (fun h => h.elim (fun h => absurd h.2 (gz_ne rfl)) (fun h => h.elim (fun h => absurd h.2 (gz_ne rfl)) (fun h => h.elim (fun h => absurd h.2 (gz_ne rfl)) (fun h => h.elim (fun h => absurd h.2 (gz_ne rfl)) (fun h => h.elim (fun h => absurd h N_1__a1_1) (fun h => h.elim (fun h => absurd h N_1__a1_6) (fun h => h.elim (fun h => absurd h N_1__a1_4) (fun h => h.elim (fun h => absurd h N_1__a1_5) (fun h => absurd h.2 (gz_ne rfl)))))))))))))
          have t150 := (g143 39 2).resolve_left (fun h => h.elim (fun h => absurd h.2 (gz_ne rfl)) (fun h => h.elim (fun h => absurd h.2 (gz_ne rfl)) (fun h => h.elim (fun h => absurd h.2 (gz_ne rfl)) (fun h => h.elim (fun h => absurd h.2 (gz_ne rfl)) (fun h => h.elim (fun h => absurd h.2 (gz_ne rfl)) (fun h => h.elim (fun h => absurd h.2 (gz_ne rfl)) (fun h => h.elim (fun h => absurd h.2 (gz_ne rfl)) (fun h => h.elim (fun h => absurd h N_39__a1_1) (fun h => h.elim (fun h => absurd h N_39__a1_6) (fun h => h.elim (fun h => absurd h N_39__a1_4) (fun h => h.elim (fun h => absurd h N_39__a1_5) (fun h => absurd h.2 (gz_ne rfl)))))))))))))
          have f151 := (gc_b_3_5 hI144 R_23)
          have f152 := (gc_b_3_6 hI144 R_23)
          have f153 := (gc_b_3_7 hI144 R_23)
          have f154 := (show 0 ≤ I144 a1 8 ∧ I144 a1 8 ≤ 4 from gc_in2 hI144 R_a1 rfl rfl rfl)
          have t155 := gc_TK_mo KTK_I144
          have KPK_I144 := gc_PKs_fr KPK_I11 ((g143 1 17).resolve_left (fun h => h.elim (fun h => absurd h.2 (gz_ne rfl)) (fun h => h.elim (fun h => absurd h.2 (gz_ne rfl)) (fun h => h.elim (fun h => absurd h.2 (gz_ne rfl)) (fun h => h.elim (fun h => absurd h.2 (gz_ne rfl)) (fun h => h.elim (fun h => absurd h.2 (gz_ne rfl)) (fun h => h.elim (fun h => absurd h.2 (gz_ne rfl)) (fun h => h.elim (fun h => absurd h.2 (gz_ne rfl)) (fun h => h.elim (fun h => absurd h N_1__a1_1) (fun h => h.elim (fun h => absurd h N_1__a1_6) (fun h => h.elim (fun h => absurd h N_1__a1_4) (fun h => h.elim (fun h => absurd h N_1__a1_5) (fun h => absurd h.2 (gz_ne rfl)))))))))))))) (fun k => (g143 20 k).resolve_left (fun h => h.elim (fun h => absurd h.1 (gz_ne rfl)) (fun h => h.elim (fun h => absurd h.1 (gz_ne rfl)) (fun h => h.elim (fun h => absurd h.1 (gz_ne rfl)) (fun h => h.elim (fun h => absurd h.1 (gz_ne rfl)) (fun h => h.elim (fun h => absurd h.1 (gz_ne rfl)) (fun h => h.elim (fun h => absurd h.1 (gz_ne rfl)) (fun h => h.elim (fun h => absurd h.1 (gz_ne rfl)) (fun h => h.elim (fun h => absurd h N_20__a1_1) (fun h => h.elim (fun h => absurd h N_20__a1_6) (fun h => h.elim (fun h => absurd h N_20__a1_4) (fun h => h.elim (fun h => absurd h N_20__a1_5) (fun h => absurd h.1 N_20__a1)))))))))))))
          refine gv_callV hD rfl (As := [.inr (.inr (some a1))]) (st := []) rfl B_39 S_39 rfl (gc_lV6 hws rfl) (Nat.le_of_ble_eq_true rfl) (gz_Ev_mono (d := 4) (by decide) E143) ?_
          show gv_X _ _ (89, [(0, .inr (.inr (some 39))), (1, .inr (.inr (some a1))), (2, .inl v2_13)], [.inl z143], sh, gc_h sh I144 J145 A)
          refine gv_if_ne (t := 164) hD rfl rfl ⟨by exact gz_m 178 (by omega), by exact gz_m 179 (by omega)⟩ (fun c156 => ?_) (fun c156 => ?_)
          · show gv_X _ _ (164, [(0, .inr (.inr (some 39))), (1, .inr (.inr (some a1))), (2, .inl v2_13)], [], sh, gc_h sh I144 J145 A)
            obtain ⟨u157, A157, U157⟩ := gs_or1 q143.2.2.2.2.2 (by exact gz_m 180 (by omega))
            have t158 := gc_AT_l A157
            refine gv_run 2 true hD (pc' := 166) (lv' := [(0, .inr (.inr (some 39))), (1, .inr (.inr (some a1))), (2, .inl v2_13)]) (st' := [.inr (.inr (some a1)), .inr (.inr (some a1))]) (h' := gc_h sh I144 J145 A) (C := ((True ∧ True) ∧ True)) rfl ⟨⟨trivial, trivial⟩, trivial⟩ ?_
            have f159 := (show 0 ≤ I144 a1 4 ∧ I144 a1 4 ≤ 6 from gc_in2 hI144 R_a1 rfl rfl rfl)
            refine gv_get hD rfl rfl S_a1 ⟨by decide, B_a1⟩ (gc_hI S_a1 rfl) ?_
            show gv_X _ _ (169, [(0, .inr (.inr (some 39))), (1, .inr (.inr (some a1))), (2, .inl v2_13)], [.inl (I144 a1 4), .inr (.inr (some a1))], sh, gc_h sh I144 J145 A)
            refine gv_run 2 true hD (pc' := 171) (lv' := [(0, .inr (.inr (some 39))), (1, .inr (.inr (some a1))), (2, .inl v2_13)]) (st' := [.inl ((I144 a1 4) + 1), .inr (.inr (some a1))]) (h' := gc_h sh I144 J145 A) (C := ((True ∧ True) ∧ True)) rfl ⟨⟨trivial, trivial⟩, trivial⟩ ?_
            refine gv_put hD rfl rfl S_a1 ⟨by decide, B_a1⟩ rfl trivial ?_
            refine gc_st (k := 4) hI144 S_a1 rfl R_a1 (lo := 0) (hi := 6) rfl rfl (by exact gz_m 181 (by omega)) (by exact gz_m 182 (by omega)) (fun I160 hI160 q161 p161 => ?_)
            have FI160 := gc_frs (W := fun q j => (q = 39 ∧ j = 3) ∨ (q = 39 ∧ j = 4) ∨ (q = 23 ∧ j = 5) ∨ (q = 23 ∧ j = 6) ∨ (q = 23 ∧ j = 7) ∨ (q = 23 ∧ j = 8) ∨ (q = 1 ∧ j = 17) ∨ (q = 1 ∧ j = 18) ∨ q = 20 ∨ (q = 39 ∧ j = 6) ∨ q = (a1 + 1) ∨ q = (a1 + 6) ∨ q = (a1 + 4) ∨ q = (a1 + 5) ∨ (q = a1 ∧ j = 8) ∨ q = (a1 + 2) ∨ q = (a1 + 3) ∨ (q = a1 ∧ j = 4)) FI144 (Or.inr (Or.inr (Or.inr (Or.inr (Or.inr (Or.inr (Or.inr (Or.inr (Or.inr (Or.inr (Or.inr (Or.inr (Or.inr (Or.inr (Or.inr (Or.inr (Or.inr ⟨rfl, rfl⟩))))))))))))))))) p161
            have t162 := p161 23 1 (fun h => absurd h.2 (gz_ne rfl))
            have t163 := p161 23 5 (fun h => absurd h.2 (gz_ne rfl))
            have t164 := p161 23 6 (fun h => absurd h.2 (gz_ne rfl))
            have t165 := p161 23 7 (fun h => absurd h.2 (gz_ne rfl))
            have t166 := p161 1 17 (fun h => absurd h.2 (gz_ne rfl))
            have t167 := p161 a1 8 (fun h => absurd h.2 (gz_ne rfl))
            have t168 := p161 1 18 (fun h => absurd h.2 (gz_ne rfl))
            have t169 := p161 39 2 (fun h => absurd h.2 (gz_ne rfl))
            have f170 := (show 0 ≤ I160 a1 4 ∧ I160 a1 4 ≤ 6 from gc_in2 hI160 R_a1 rfl rfl rfl)
            have KLT_I160 := gc_LT_fr KLT_I144 (p161 23 5 (fun h => absurd h.2 (gz_ne rfl))) (p161 23 6 (fun h => absurd h.2 (gz_ne rfl))) (p161 23 7 (fun h => absurd h.2 (gz_ne rfl))) (fun k => p161 24 k (fun h => absurd h.1 N_24__a1))
            have KTK_I160 := gc_TK_fr KTK_I144 (p161 23 1 (fun h => absurd h.2 (gz_ne rfl))) (p161 23 5 (fun h => absurd h.2 (gz_ne rfl))) (p161 23 6 (fun h => absurd h.2 (gz_ne rfl))) (p161 23 7 (fun h => absurd h.2 (gz_ne rfl)))
            have KCT_I160 := gc_CT_fr KCT_I144 (p161 a1 8 (fun h => absurd h.2 (gz_ne rfl))) (fun k => p161 (a1 + 6) k (fun h => absurd h.1 N_a1_6__a1))
            have KPK_I160 := gc_PKs_fr KPK_I144 (p161 1 17 (fun h => absurd h.2 (gz_ne rfl))) (fun k => p161 20 k (fun h => absurd h.1 N_20__a1))
            have A171 := gc_AT_I A157 (p161 23 1 (fun h => absurd h.2 (gz_ne rfl))) (p161 23 5 (fun h => absurd h.2 (gz_ne rfl))) (p161 23 6 (fun h => absurd h.2 (gz_ne rfl))) (p161 23 7 (fun h => absurd h.2 (gz_ne rfl))) (p161 23 8 (fun h => absurd h.2 (gz_ne rfl))) (fun k => p161 24 k (fun h => absurd h.1 N_24__a1))
            show gv_X _ _ (174, [(0, .inr (.inr (some 39))), (1, .inr (.inr (some a1))), (2, .inl v2_13)], [], sh, gc_h sh I160 J145 A)
            refine gv_run 2 true hD (pc' := 23) (lv' := [(2, .inl (v2_13 + 1)), (0, .inr (.inr (some 39))), (1, .inr (.inr (some a1)))]) (st' := []) (h' := gc_h sh I160 J145 A) (C := ((True ∧ True) ∧ True)) rfl ⟨⟨trivial, trivial⟩, trivial⟩ ?_
            refine gv_pick [1, 2, 0] rfl ?_
            exact ih23 I160 J145 (v2_13 + 1) (gs_it2 β η Ir Jr nf9 a8 p_13) (by exact gz_m 183 (by omega)) hI160 FI160 FJ145 KLT_I160 KTK_I160 KCT_I160 KPK_I160 (by exact gz_m 184 (by omega)) (by rw [show I160 a1 4 = I144 a1 4 + 1 from by exact gz_m 185 (by omega)]; exact (gc_LI_fr (by rw [show I144 a1 4 = I11 a1 4 from by exact gz_m 186 (by omega)]; exact (q143.2.2.2.2.1).resolve_left (by exact gz_m 187 (by omega))) ((p161 a1 1 (fun h => absurd h.2 (gz_ne rfl)))) ((p161 a1 8 (fun h => absurd h.2 (gz_ne rfl)))) (fun k => (p161 (a1 + 1) k (fun h => absurd h.1 N_a1_1__a1))) (fun k => (p161 (a1 + 4) k (fun h => absurd h.1 N_a1_4__a1))) (fun k => (p161 (a1 + 6) k (fun h => absurd h.1 N_a1_6__a1))) (fun k => (p161 12 k (fun h => absurd h.1 N_12__a1))))) A171 ⟨_, _, h9l.trans (by have e9 : gs_it β η Ir Jr nf9 v2_13 a8 p_13 = (gs_it2 β η Ir Jr nf9 a8 p_13) := ((if_neg (by exact gz_m 188 (by omega))).trans (if_neg (by exact gz_m 189 (by omega)))); rw [show Int.toNat (1002 - v2_13) = Int.toNat (1002 - (v2_13 + 1)) + 1 from by exact gz_m 190 (by omega), gs_li_c (by exact gz_m 191 (by omega)) (by rw [e9]; exact gz_m 192 (by omega)), e9]), gs_SO_fr U157.2.1 (fun k => (p161 (a1 + 6) k (fun h => absurd h.1 N_a1_6__a1))), gs_FF_a h9f (by exact gz_m 193 (by omega)) (by exact gz_m 194 (by omega)) U157.1 (((p161 (a1 + 1) (Int.toNat v2_13) (fun h => absurd h.1 N_a1_1__a1))).trans (by have h9 := U157.2.2.1; rw [show I11 a1 4 = v2_13 from by exact gz_m 195 (by omega)] at h9; exact h9)) (fun k hk => ((p161 (a1 + 1) k (fun h => absurd h.1 N_a1_1__a1))).trans (U157.2.2.2 k (by rw [show I11 a1 4 = v2_13 from by exact gz_m 196 (by omega)]; exact hk))) (fun h => by rw [e6_13 h])⟩ (fun h => absurd h (by exact gz_m 197 (by omega))) e7_13
          · show gv_X _ _ (92, [(0, .inr (.inr (some 39))), (1, .inr (.inr (some a1))), (2, .inl v2_13)], [], sh, gc_h sh I144 J145 A)
            obtain ⟨u172, u172_⟩ := gs_or0 q143.2.2.2.2.2 (by exact gz_m 198 (by omega))
            refine gv_run 1 true hD (pc' := 93) (lv' := [(0, .inr (.inr (some 39))), (1, .inr (.inr (some a1))), (2, .inl v2_13)]) (st' := [.inl 0]) (h' := gc_h sh I144 J145 A) (C := (True ∧ True)) rfl ⟨trivial, trivial⟩ ?_
            exact gv_zret hD rfl (by exact gz_m 199 (by omega)) ⟨I144, J145, rfl, hI144, FI144, FJ145, KLT_I144, KTK_I144, KCT_I144, ⟨_, rfl, by exact gz_m 200 (by omega), by exact gz_m 201 (by omega), by exact gz_m 202 (by omega), by exact gz_m 203 (by omega), by exact gz_m 204 (by omega), by exact gz_m 205 (by omega), (Or.inl (by exact gz_m 206 (by omega))), KPK_I144, (Or.inr ⟨by exact gz_m 207 (by omega), by (have e9 : gs_it β η Ir Jr nf9 v2_13 a8 p_13 = gs_it2 β η Ir Jr nf9 a8 p_13 := ((if_neg (by exact gz_m 208 (by omega))).trans (if_neg (by exact gz_m 209 (by omega)))); have h8 : gs_li β η Ir Jr nf9 1002 0 0 (fun _ => -1) p9 = (gs_it β η Ir Jr nf9 v2_13 a8 p_13, v2_13, i9, a8) := h9l.trans (by rw [show Int.toNat (1002 - v2_13) = Int.toNat (1002 - (v2_13 + 1)) + 1 from by exact gz_m 210 (by omega), gs_li_f (by exact gz_m 211 (by omega)) (by rw [e9]; exact gz_m 212 (by omega))]); unfold gs_itm; rw [if_pos e7_13, h8]; show gs_it β η Ir Jr nf9 v2_13 a8 p_13 < 0 ∧ _ = -1 - gs_it β η Ir Jr nf9 v2_13 a8 p_13; rw [e9]; exact ⟨by exact gz_m 213 (by omega), by exact gz_m 214 (by omega)⟩)⟩)⟩⟩
      · show gv_X _ _ (60, [(0, .inr (.inr (some 39))), (1, .inr (.inr (some a1))), (2, .inl v2_13)], [], sh, gc_h sh I11 J12 A)
        obtain ⟨i9, a8, h9l, h9s, h9f⟩ := id e5_13
        refine gv_run 3 true hD (pc' := 63) (lv' := [(0, .inr (.inr (some 39))), (1, .inr (.inr (some a1))), (2, .inl v2_13)]) (st' := [.inr (.inr (some 39)), .inl 5, .inr (.inr (some 39))]) (h' := gc_h sh I11 J12 A) (C := (((True ∧ True) ∧ True) ∧ True)) rfl ⟨⟨⟨trivial, trivial⟩, trivial⟩, trivial⟩ ?_
        refine gv_get hD rfl rfl S_39 ⟨by decide, B_39⟩ (gc_hA S_39 rfl A_39_1) ?_
        show gv_X _ _ (66, [(0, .inr (.inr (some 39))), (1, .inr (.inr (some a1))), (2, .inl v2_13)], [.inr (.inr (some 23)), .inl 5, .inr (.inr (some 39))], sh, gc_h sh I11 J12 A)
        have f173 := (gc_b_3_5 hI11 R_23)
        refine gv_get hD rfl rfl S_23 ⟨by decide, B_23⟩ (gc_hI S_23 rfl) ?_
        show gv_X _ _ (69, [(0, .inr (.inr (some 39))), (1, .inr (.inr (some a1))), (2, .inl v2_13)], [.inl (I11 23 5), .inl 5, .inr (.inr (some 39))], sh, gc_h sh I11 J12 A)
        obtain ⟨r174, h174, E174, P174⟩ := d_X6_wrong_p (ws0 := ws0) (tb := tb) hws htb sh ro I11 J12 A hI11  5 (I11 23 5) hb   ⟨by exact gz_m 215 (by omega), by exact gz_m 216 (by omega)⟩ ⟨by exact gz_m 217 (by omega), by exact gz_m 218 (by omega)⟩  
        obtain ⟨I175, J176, rfl, hI175, g174, k174, ⟨z174, rfl, q174⟩⟩ := P174
        have FI175 := gc_frc (W := fun q j => (q = 39 ∧ j = 3) ∨ (q = 39 ∧ j = 4) ∨ (q = 23 ∧ j = 5) ∨ (q = 23 ∧ j = 6) ∨ (q = 23 ∧ j = 7) ∨ (q = 23 ∧ j = 8) ∨ (q = 1 ∧ j = 17) ∨ (q = 1 ∧ j = 18) ∨ q = 20 ∨ (q = 39 ∧ j = 6) ∨ q = (a1 + 1) ∨ q = (a1 + 6) ∨ q = (a1 + 4) ∨ q = (a1 + 5) ∨ (q = a1 ∧ j = 8) ∨ q = (a1 + 2) ∨ q = (a1 + 3) ∨ (q = a1 ∧ j = 4)) (V := fun q j => (q = 39 ∧ j = 3) ∨ (q = 39 ∧ j = 4)) FI11 (fun q j h => (h.elim (fun h => (Or.inl h)) (fun h => (Or.inr (Or.inl h))))) g174
        have t177 := (g174 23 1).resolve_left (fun h => h.elim (fun h => absurd h.2 (gz_ne rfl)) (fun h => absurd h.2 (gz_ne rfl)))
        have t178 := (g174 23 5).resolve_left (fun h => h.elim (fun h => absurd h.2 (gz_ne rfl)) (fun h => absurd h.2 (gz_ne rfl)))
        have t179 := (g174 23 6).resolve_left (fun h => h.elim (fun h => absurd h.2 (gz_ne rfl)) (fun h => absurd h.2 (gz_ne rfl)))
        have t180 := (g174 23 7).resolve_left (fun h => h.elim (fun h => absurd h.2 (gz_ne rfl)) (fun h => absurd h.2 (gz_ne rfl)))
        have t181 := (g174 1 17).resolve_left (fun h => h.elim (fun h => absurd h.2 (gz_ne rfl)) (fun h => absurd h.2 (gz_ne rfl)))
        have t182 := (g174 a1 4).resolve_left (fun h => h.elim (fun h => absurd h.2 (gz_ne rfl)) (fun h => absurd h.1 N_a1__39))
        have t183 := (g174 a1 8).resolve_left (fun h => h.elim (fun h => absurd h.2 (gz_ne rfl)) (fun h => absurd h.2 (gz_ne rfl)))
        have t184 := (g174 1 18).resolve_left (fun h => h.elim (fun h => absurd h.2 (gz_ne rfl)) (fun h => absurd h.2 (gz_ne rfl)))
        have t185 := (g174 39 2).resolve_left (fun h => h.elim (fun h => absurd h.2 (gz_ne rfl)) (fun h => absurd h.2 (gz_ne rfl)))
        obtain rfl : J12 = J176 := funext fun q => funext fun j => ((k174 q j).resolve_left id).symm
        have KLT_I175 := gc_LT_fr KLT_I11 ((g174 23 5).resolve_left (fun h => h.elim (fun h => absurd h.2 (gz_ne rfl)) (fun h => absurd h.2 (gz_ne rfl)))) ((g174 23 6).resolve_left (fun h => h.elim (fun h => absurd h.2 (gz_ne rfl)) (fun h => absurd h.2 (gz_ne rfl)))) ((g174 23 7).resolve_left (fun h => h.elim (fun h => absurd h.2 (gz_ne rfl)) (fun h => absurd h.2 (gz_ne rfl)))) (fun k => (g174 24 k).resolve_left (fun h => h.elim (fun h => absurd h.1 (gz_ne rfl)) (fun h => absurd h.1 (gz_ne rfl))))
        have KTK_I175 := gc_TK_fr KTK_I11 ((g174 23 1).resolve_left (fun h => h.elim (fun h => absurd h.2 (gz_ne rfl)) (fun h => absurd h.2 (gz_ne rfl)))) ((g174 23 5).resolve_left (fun h => h.elim (fun h => absurd h.2 (gz_ne rfl)) (fun h => absurd h.2 (gz_ne rfl)))) ((g174 23 6).resolve_left (fun h => h.elim (fun h => absurd h.2 (gz_ne rfl)) (fun h => absurd h.2 (gz_ne rfl)))) ((g174 23 7).resolve_left (fun h => h.elim (fun h => absurd h.2 (gz_ne rfl)) (fun h => absurd h.2 (gz_ne rfl))))
        have KCT_I175 := gc_CT_fr KCT_I11 ((g174 a1 8).resolve_left (fun h => h.elim (fun h => absurd h.2 (gz_ne rfl)) (fun h => absurd h.2 (gz_ne rfl)))) (fun k => (g174 (a1 + 6) k).resolve_left (fun h => h.elim (fun h => absurd h.1 N_a1_6__39) (fun h => absurd h.1 N_a1_6__39)))
        have KPK_I175 := gc_PKs_fr KPK_I11 ((g174 1 17).resolve_left (fun h => h.elim (fun h => absurd h.2 (gz_ne rfl)) (fun h => absurd h.2 (gz_ne rfl)))) (fun k => (g174 20 k).resolve_left (fun h => h.elim (fun h => absurd h.1 (gz_ne rfl)) (fun h => absurd h.1 (gz_ne rfl))))
        have A186 := gc_AT_I e4_13 ((g174 23 1).resolve_left (fun h => h.elim (fun h => absurd h.2 (gz_ne rfl)) (fun h => absurd h.2 (gz_ne rfl)))) ((g174 23 5).resolve_left (fun h => h.elim (fun h => absurd h.2 (gz_ne rfl)) (fun h => absurd h.2 (gz_ne rfl)))) ((g174 23 6).resolve_left (fun h => h.elim (fun h => absurd h.2 (gz_ne rfl)) (fun h => absurd h.2 (gz_ne rfl)))) ((g174 23 7).resolve_left (fun h => h.elim (fun h => absurd h.2 (gz_ne rfl)) (fun h => absurd h.2 (gz_ne rfl)))) ((g174 23 8).resolve_left (fun h => h.elim (fun h => absurd h.2 (gz_ne rfl)) (fun h => absurd h.2 (gz_ne rfl)))) (fun k => (g174 24 k).resolve_left (fun h => h.elim (fun h => absurd h.1 (gz_ne rfl)) (fun h => absurd h.1 (gz_ne rfl))))
        have t187 := gc_AT_l A186
        refine gv_callV hD rfl (As := [.inl 5, .inl (I11 23 5)]) (st := []) rfl B_39 S_39 rfl (gc_lV6 hws rfl) (Nat.le_of_ble_eq_true rfl) (gz_Ev_mono (d := 1) (by decide) E174) ?_
        show gv_X _ _ (72, [(0, .inr (.inr (some 39))), (1, .inr (.inr (some a1))), (2, .inl v2_13)], [.inl z174], sh, gc_h sh I175 J12 A)
        exact gv_zret hD rfl (by exact gz_m 219 (by omega)) ⟨I175, J12, rfl, hI175, FI175, FJ12, KLT_I175, KTK_I175, KCT_I175, ⟨_, rfl, by exact gz_m 220 (by omega), by exact gz_m 221 (by omega), by exact gz_m 222 (by omega), by exact gz_m 223 (by omega), by exact gz_m 224 (by omega), by exact gz_m 225 (by omega), (Or.inl (by exact gz_m 226 (by omega))), KPK_I175, (Or.inr ⟨by exact gz_m 227 (by omega), by (have e9 : gs_it β η Ir Jr nf9 v2_13 a8 p_13 = -1 - gs_A β η p_13 := (if_pos (by exact gz_m 228 (by omega))); have h8 : gs_li β η Ir Jr nf9 1002 0 0 (fun _ => -1) p9 = (gs_it β η Ir Jr nf9 v2_13 a8 p_13, v2_13, i9, a8) := h9l.trans (by rw [show Int.toNat (1002 - v2_13) = Int.toNat (1002 - (v2_13 + 1)) + 1 from by exact gz_m 229 (by omega), gs_li_f (by exact gz_m 230 (by omega)) (by rw [e9]; exact gz_m 231 (by omega))]); unfold gs_itm; rw [if_pos e7_13, h8]; show gs_it β η Ir Jr nf9 v2_13 a8 p_13 < 0 ∧ _ = -1 - gs_it β η Ir Jr nf9 v2_13 a8 p_13; rw [e9]; exact ⟨by exact gz_m 232 (by omega), by exact gz_m 233 (by omega)⟩)⟩)⟩⟩
    have L180 : ((I a1 4 < I11 a1 4) ∧ (0 ≤ p_13) ∧ (I11 1 18 = 0) ∧ (I11 23 1 = I 23 1) ∧ (I 23 5 ≤ I11 23 5) ∧ (B ≤ 1280 ∧ I11 1 17 + I11 23 1 ≤ B + I11 23 5) ∧ (I11 39 2 = (t : Int))) → (gc_LI a1 (I11 a1 4) I11) → (gc_AT β η p_13 23 I11 J12) → (∃ (i9 : Int) (a8 : Nat → Int), gs_li β η Ir Jr nf9 1002 0 0 (fun _ => -1) p9 = (p_13, I11 a1 4, i9, a8) ∧ gs_SO I11 a1 nf9 a8 ∧ gs_FF (I11 a1 4) i9 a8 (gs_A β η p9) a1 I11) → (gs_T β η p9 = 3 ∨ gs_T β η p9 = 2) → gv_X (gc_E6 ws0 tb 4 (yX6_readItems, cX6_readItems, 3, (some .boolean)) kX6_readItems) (gv_Q cX6_readItems (some .boolean) sh (fun r h' => (∃ (I' : gr_I) (J' : gr_J), h' = gc_h sh I' J' A ∧ gc_Inv ro I' ∧ (∀ q j : Nat, ((q = 39 ∧ j = 3) ∨ (q = 39 ∧ j = 4) ∨ (q = 23 ∧ j = 5) ∨ (q = 23 ∧ j = 6) ∨ (q = 23 ∧ j = 7) ∨ (q = 23 ∧ j = 8) ∨ (q = 1 ∧ j = 17) ∨ (q = 1 ∧ j = 18) ∨ q = 20 ∨ (q = 39 ∧ j = 6) ∨ q = (a1 + 1) ∨ q = (a1 + 6) ∨ q = (a1 + 4) ∨ q = (a1 + 5) ∨ (q = a1 ∧ j = 8) ∨ q = (a1 + 2) ∨ q = (a1 + 3) ∨ (q = a1 ∧ j = 4)) ∨ I' q j = I q j) ∧ (∀ q j : Nat, ((q = 23 ∧ j = 9)) ∨ J' q j = J q j) ∧ gc_LT I' ∧ gc_TK I' ∧ gc_CT a1 I' ∧ (∃ z : Int, r = some (.inl z) ∧ 0 ≤ z ∧ z ≤ 1 ∧ (I' 23 1 = I 23 1) ∧ (I 23 5 ≤ I' 23 5) ∧ (B ≤ 1280 ∧ I' 1 17 + I' 23 1 ≤ B + I' 23 5) ∧ (z = 0 ∨ I a1 4 < I' a1 4) ∧ (gc_LE z a1 (I' a1 4) I') ∧ (gc_PKs I I') ∧ (gs_Or z (0 ≤ (gs_itm β η Ir Jr nf9 p9) ∧ gc_AT β η (gs_itm β η Ir Jr nf9 p9) 23 I' J' ∧ I' 1 18 = 0 ∧ gs_LX (gs_li β η Ir Jr nf9 1002 0 0 (fun _ => -1) p9) nf9 (gs_A β η p9) a1 I') ((gs_itm β η Ir Jr nf9 p9) < 0 ∧ I' 39 4 = -1 - (gs_itm β η Ir Jr nf9 p9))))))) (180, [], [], sh, gc_h sh I11 J12 A) := by
      intro m_188 e0_188 e3_188 e4_188 e5_188
      obtain ⟨e1_188, e2_188, e6_188, e7_188, e8_188, e9_188, e10_188⟩ := m_188
      have t189 := gc_TK_mo KTK_I11
      have f190 := (gc_b_3_1 hI11 R_23)
      have f191 := (gc_b_3_5 hI11 R_23)
      have f192 := (gc_b_3_6 hI11 R_23)
      have f193 := (gc_b_3_7 hI11 R_23)
      have f194 := (gc_b_22_17 hI11 R_1)
      have f195 := (show 0 ≤ I11 a1 4 ∧ I11 a1 4 ≤ 6 from gc_in2 hI11 R_a1 rfl rfl rfl)
      have f196 := (show 0 ≤ I11 a1 8 ∧ I11 a1 8 ≤ 4 from gc_in2 hI11 R_a1 rfl rfl rfl)
      have f197 := (gc_b_22_18 hI11 R_1)
      have f198 := (gc_b_42_2 hI11 R_39)
      have t199 := gc_AT_l e4_13
      refine gv_run 1 true hD (pc' := 181) (lv' := []) (st' := [.inl 1]) (h' := gc_h sh I11 J12 A) (C := (True ∧ True)) rfl ⟨trivial, trivial⟩ ?_
      exact gv_zret hD rfl (by exact gz_m 234 (by omega)) ⟨I11, J12, rfl, hI11, FI11, FJ12, KLT_I11, KTK_I11, KCT_I11, ⟨_, rfl, by exact gz_m 235 (by omega), by exact gz_m 236 (by omega), by exact gz_m 237 (by omega), by exact gz_m 238 (by omega), by exact gz_m 239 (by omega), by exact gz_m 240 (by omega), (Or.inr e0_188), KPK_I11, (Or.inl ⟨by exact gz_m 241 (by omega), by obtain ⟨i9, a8, h1, h2, h3⟩ := id e4_188; have e9 : (gs_itm β η Ir Jr nf9 p9) = p_13 := (by unfold gs_itm; rw [if_pos e5_188, h1]); rw [e9, h1]; exact ⟨by exact gz_m 242 (by omega), e4_13, by exact gz_m 243 (by omega), rfl, h2, h3⟩⟩)⟩⟩
    refine gv_run 2 true hD (pc' := 26) (lv' := [(0, .inr (.inr (some 39))), (1, .inr (.inr (some a1))), (2, .inl v2_13)]) (st' := [.inl 6, .inl v2_13]) (h' := gc_h sh I11 J12 A) (C := ((True ∧ True) ∧ True)) rfl ⟨⟨trivial, trivial⟩, trivial⟩ ?_
    refine gv_icmp_gt (t := 180) hD rfl rfl ⟨⟨by exact gz_m 244 (by omega), by exact gz_m 245 (by omega)⟩, ⟨by exact gz_m 246 (by omega), by exact gz_m 247 (by omega)⟩⟩ (fun c200 => ?_) (fun c200 => ?_)
    · show gv_X _ _ (180, [(0, .inr (.inr (some 39))), (1, .inr (.inr (some a1))), (2, .inl v2_13)], [], sh, gc_h sh I11 J12 A)
      refine gv_pick [] rfl ?_
      exact L180 (by exact gz_m 248 (by omega)) e0_13 e4_13 (by obtain ⟨i9, a8, h1, h2, h3⟩ := id e5_13; rw [show I11 a1 4 = v2_13 from by exact gz_m 249 (by omega)]; exact ⟨i9, a8, h1.trans (gs_li_e (by exact gz_m 250 (by omega))), h2, h3⟩) e7_13
    · show gv_X _ _ (29, [(0, .inr (.inr (some 39))), (1, .inr (.inr (some a1))), (2, .inl v2_13)], [], sh, gc_h sh I11 J12 A)
      refine gv_run 1 true hD (pc' := 30) (lv' := [(0, .inr (.inr (some 39))), (1, .inr (.inr (some a1))), (2, .inl v2_13)]) (st' := [.inr (.inr (some 39))]) (h' := gc_h sh I11 J12 A) (C := (True ∧ True)) rfl ⟨trivial, trivial⟩ ?_
      refine gv_get hD rfl rfl S_39 ⟨by decide, B_39⟩ (gc_hA S_39 rfl A_39_1) ?_
      show gv_X _ _ (33, [(0, .inr (.inr (some 39))), (1, .inr (.inr (some a1))), (2, .inl v2_13)], [.inr (.inr (some 23))], sh, gc_h sh I11 J12 A)
      have f201 := (gc_b_3_7 hI11 R_23)
      refine gv_get hD rfl rfl S_23 ⟨by decide, B_23⟩ (gc_hI S_23 rfl) ?_
      show gv_X _ _ (36, [(0, .inr (.inr (some 39))), (1, .inr (.inr (some a1))), (2, .inl v2_13)], [.inl (I11 23 7)], sh, gc_h sh I11 J12 A)
      refine gv_run 1 true hD (pc' := 37) (lv' := [(0, .inr (.inr (some 39))), (1, .inr (.inr (some a1))), (2, .inl v2_13)]) (st' := [.inl 3, .inl (I11 23 7)]) (h' := gc_h sh I11 J12 A) (C := (True ∧ True)) rfl ⟨trivial, trivial⟩ ?_
      refine gv_icmp_eq (t := 51) hD rfl rfl ⟨⟨by exact gz_m 251 (by omega), by exact gz_m 252 (by omega)⟩, ⟨by exact gz_m 253 (by omega), by exact gz_m 254 (by omega)⟩⟩ (fun c202 => ?_) (fun c202 => ?_)
      · show gv_X _ _ (51, [(0, .inr (.inr (some 39))), (1, .inr (.inr (some a1))), (2, .inl v2_13)], [], sh, gc_h sh I11 J12 A)
        exact L51 (by exact gz_m 255 (by omega)) e0_13
      · show gv_X _ _ (40, [(0, .inr (.inr (some 39))), (1, .inr (.inr (some a1))), (2, .inl v2_13)], [], sh, gc_h sh I11 J12 A)
        refine gv_run 1 true hD (pc' := 41) (lv' := [(0, .inr (.inr (some 39))), (1, .inr (.inr (some a1))), (2, .inl v2_13)]) (st' := [.inr (.inr (some 39))]) (h' := gc_h sh I11 J12 A) (C := (True ∧ True)) rfl ⟨trivial, trivial⟩ ?_
        refine gv_get hD rfl rfl S_39 ⟨by decide, B_39⟩ (gc_hA S_39 rfl A_39_1) ?_
        show gv_X _ _ (44, [(0, .inr (.inr (some 39))), (1, .inr (.inr (some a1))), (2, .inl v2_13)], [.inr (.inr (some 23))], sh, gc_h sh I11 J12 A)
        have f203 := (gc_b_3_7 hI11 R_23)
        refine gv_get hD rfl rfl S_23 ⟨by decide, B_23⟩ (gc_hI S_23 rfl) ?_
        show gv_X _ _ (47, [(0, .inr (.inr (some 39))), (1, .inr (.inr (some a1))), (2, .inl v2_13)], [.inl (I11 23 7)], sh, gc_h sh I11 J12 A)
        refine gv_run 1 true hD (pc' := 48) (lv' := [(0, .inr (.inr (some 39))), (1, .inr (.inr (some a1))), (2, .inl v2_13)]) (st' := [.inl 2, .inl (I11 23 7)]) (h' := gc_h sh I11 J12 A) (C := (True ∧ True)) rfl ⟨trivial, trivial⟩ ?_
        refine gv_icmp_ne (t := 180) hD rfl rfl ⟨⟨by exact gz_m 256 (by omega), by exact gz_m 257 (by omega)⟩, ⟨by exact gz_m 258 (by omega), by exact gz_m 259 (by omega)⟩⟩ (fun c204 => ?_) (fun c204 => ?_)
        · show gv_X _ _ (180, [(0, .inr (.inr (some 39))), (1, .inr (.inr (some a1))), (2, .inl v2_13)], [], sh, gc_h sh I11 J12 A)
          refine gv_pick [] rfl ?_
          exact L180 (by exact gz_m 260 (by omega)) e0_13 e4_13 (by obtain ⟨i9, a8, h1, h2, h3⟩ := id e5_13; rw [show I11 a1 4 = v2_13 from by exact gz_m 261 (by omega)]; exact ⟨i9, a8, h1.trans (gs_li_e (by exact gz_m 262 (by omega))), h2, h3⟩) e7_13
        · show gv_X _ _ (51, [(0, .inr (.inr (some 39))), (1, .inr (.inr (some a1))), (2, .inl v2_13)], [], sh, gc_h sh I11 J12 A)
          exact L51 (by exact gz_m 263 (by omega)) e0_13
set_option maxHeartbeats 8000000 in
set_option maxRecDepth 100000 in
theorem d_X6_readItems_l_p {ws0 : List Cond} {tb : String → gz_T} (hws : gc_Ws ws0) (htb : gc_tbs tb) (sh : gz_Sh) (ro : Nat → Nat) (I : gr_I) (J : gr_J) (A : gc_A) (hI : gc_Inv ro I) (t : Nat) (B : Int) (β : Int → Int) (η : Int) (p9 : Int) (Ir : gr_I) (Jr : gr_J) (nf9 : Int) (a1 : Nat) (hb : gc_Base sh ro A) (h_a1 : gc_isLin sh ro A a1) (G_a1 : 144 ≤ a1) (h_t : gc_isTongue sh ro A t) (G_t : 144 ≤ t)  (x0 : B ≤ 1280 ∧ I 1 17 + I 23 1 ≤ B + I 23 5) (x1 : gc_LI a1 (I a1 4) I) (x2 : gc_AT β η p9 23 I J) (x3 : 0 ≤ p9) (x4 : I 1 18 = 0) (x5 : I a1 4 = 0) (x6 : gs_SO I a1 nf9 (fun _ => -1)) (x7 : nf9 ≤ 4) (x8 : nf9 = I 12 (Int.toNat (I a1 1))) (x9 : I (t + 3) 1 = Ir 14 (Int.toNat (Ir 0 6))) (x10 : gs_NA (I (t + 3) 1) (J (t + 4)) (fun k => Jr 21 (Int.toNat (48 * Ir 0 6 + (k : Int))))) (x11 : gs_VR Ir I t) (x12 : I 39 2 = (t : Int)) (KLT_I : gc_LT I) (KTK_I : gc_TK I) (KCT_I : gc_CT a1 I) : ∃ r h', gz_Ev ws0 tb 5 (yX6_readItems, cX6_readItems, 3, (some .boolean)) [.inr (.inr (some 39)), .inr (.inr (some a1))] sh (gc_h sh I J A) r sh h' 0 0 ∧ (∃ (I' : gr_I) (J' : gr_J), h' = gc_h sh I' J' A ∧ gc_Inv ro I' ∧ (∀ q j : Nat, ((q = 39 ∧ j = 3) ∨ (q = 39 ∧ j = 4) ∨ (q = 23 ∧ j = 5) ∨ (q = 23 ∧ j = 6) ∨ (q = 23 ∧ j = 7) ∨ (q = 23 ∧ j = 8) ∨ (q = 1 ∧ j = 17) ∨ (q = 1 ∧ j = 18) ∨ q = 20 ∨ (q = 39 ∧ j = 6) ∨ q = (a1 + 1) ∨ q = (a1 + 6) ∨ q = (a1 + 4) ∨ q = (a1 + 5) ∨ (q = a1 ∧ j = 8) ∨ q = (a1 + 2) ∨ q = (a1 + 3) ∨ (q = a1 ∧ j = 4)) ∨ I' q j = I q j) ∧ (∀ q j : Nat, ((q = 23 ∧ j = 9)) ∨ J' q j = J q j) ∧ gc_LT I' ∧ gc_TK I' ∧ gc_CT a1 I' ∧ (∃ z : Int, r = some (.inl z) ∧ 0 ≤ z ∧ z ≤ 1 ∧ (I' 23 1 = I 23 1) ∧ (I 23 5 ≤ I' 23 5) ∧ (B ≤ 1280 ∧ I' 1 17 + I' 23 1 ≤ B + I' 23 5) ∧ (z = 0 ∨ I a1 4 < I' a1 4) ∧ (gc_LE z a1 (I' a1 4) I') ∧ (gc_PKs I I') ∧ (gs_Or z (0 ≤ (gs_itm β η Ir Jr nf9 p9) ∧ gc_AT β η (gs_itm β η Ir Jr nf9 p9) 23 I' J' ∧ I' 1 18 = 0 ∧ gs_LX (gs_li β η Ir Jr nf9 1002 0 0 (fun _ => -1) p9) nf9 (gs_A β η p9) a1 I') ((gs_itm β η Ir Jr nf9 p9) < 0 ∧ I' 39 4 = -1 - (gs_itm β η Ir Jr nf9 p9))))) := by
  have FI : ∀ q j : Nat, ((q = 39 ∧ j = 3) ∨ (q = 39 ∧ j = 4) ∨ (q = 23 ∧ j = 5) ∨ (q = 23 ∧ j = 6) ∨ (q = 23 ∧ j = 7) ∨ (q = 23 ∧ j = 8) ∨ (q = 1 ∧ j = 17) ∨ (q = 1 ∧ j = 18) ∨ q = 20 ∨ (q = 39 ∧ j = 6) ∨ q = (a1 + 1) ∨ q = (a1 + 6) ∨ q = (a1 + 4) ∨ q = (a1 + 5) ∨ (q = a1 ∧ j = 8) ∨ q = (a1 + 2) ∨ q = (a1 + 3) ∨ (q = a1 ∧ j = 4)) ∨ I q j = I q j := fun _ _ => Or.inr rfl
  have FJ : ∀ q j : Nat, ((q = 23 ∧ j = 9)) ∨ J q j = J q j := fun _ _ => Or.inr rfl
  have A_39_1 : A 39 1 = some 23 := gc_bA_39_1 hb
  have B_23 : 23 < 1000000 := by decide
  have B_39 : 39 < 1000000 := by decide
  have R_1 : ro 1 = 22 := gc_bR_1 hb
  have R_12 : ro 12 = 26 := gc_bR_12 hb
  have R_23 : ro 23 = 3 := gc_bR_23 hb
  have R_39 : ro 39 = 42 := gc_bR_39 hb
  have S_23 : sh[23]? = some (false, 9, 10) := gc_bS_23 hb
  have S_39 : sh[39]? = some (false, 6, 19) := gc_bS_39 hb
  obtain ⟨S_a1, R_a1, B_a1, A_a1_5, S_a1_1, R_a1_1, B_a1_1, A_a1_6, S_a1_2, R_a1_2, B_a1_2, A_a1_7, S_a1_3, R_a1_3, B_a1_3, A_a1_9, S_a1_4, R_a1_4, B_a1_4, A_a1_10, S_a1_5, R_a1_5, B_a1_5, A_a1_11, S_a1_6, R_a1_6, B_a1_6, A_a1_13, S_a1_7, R_a1_7, B_a1_7, A_a1_15, S_a1_8, R_a1_8, B_a1_8⟩ := id h_a1
  obtain ⟨S_t, R_t, B_t, A_t_0, h_t_1, A_t_1, h_t_3, A_t_2, S_t_5, R_t_5, B_t_5, A_t_3, S_t_6, R_t_6, B_t_6, A_t_4, h_t_7, A_t_5, S_t_9, R_t_9, B_t_9, A_t_7, S_t_10, R_t_10, B_t_10, A_t_8, h_t_11, A_t_9, S_t_13, R_t_13, B_t_13, A_t_10, S_t_14, R_t_14, B_t_14, A_t_12, S_t_15, R_t_15, B_t_15, A_t_14, S_t_16, R_t_16, B_t_16, A_t_15, h_t_17⟩ := id h_t
  obtain ⟨S_t_1, R_t_1, B_t_1, A_t_1_0, S_t_1_1, R_t_1_1, B_t_1_1, Q0_t_1, Q1_t_1, Q2_t_1⟩ := id h_t_1
  obtain ⟨S_t_3, R_t_3, B_t_3, A_t_3_0, S_t_3_1, R_t_3_1, B_t_3_1, Q0_t_3, Q1_t_3, Q2_t_3⟩ := id h_t_3
  obtain ⟨S_t_7, R_t_7, B_t_7, A_t_7_0, S_t_7_1, R_t_7_1, B_t_7_1, Q0_t_7, Q1_t_7, Q2_t_7⟩ := id h_t_7
  obtain ⟨S_t_11, R_t_11, B_t_11, A_t_11_0, S_t_11_1, R_t_11_1, B_t_11_1, Q0_t_11, Q1_t_11, Q2_t_11⟩ := id h_t_11
  obtain ⟨S_t_17, R_t_17, B_t_17, A_t_17_0, S_20, R_20, B_20, A_t_17_1, S_t_17_1, R_t_17_1, B_t_17_1, A_t_17_2, S_t_17_2, R_t_17_2, B_t_17_2, A_t_17_3, S_t_17_3, R_t_17_3, B_t_17_3, A_t_17_4, S_t_17_4, R_t_17_4, B_t_17_4, A_t_17_5, S_t_17_5, R_t_17_5, B_t_17_5, S_t_17_6, R_t_17_6, B_t_17_6, S_t_17_7, R_t_17_7, B_t_17_7⟩ := id h_t_17
  have N1 := gc_dj_LT h_a1 h_t
  have hD : gv_D (gc_E6 ws0 tb 4 (yX6_readItems, cX6_readItems, 3, (some .boolean)) kX6_readItems) := gq_of oX6_readItems
  refine gc_ev6 (d := 4) (l := kX6_readItems) (Po := fun r h' => (∃ (I' : gr_I) (J' : gr_J), h' = gc_h sh I' J' A ∧ gc_Inv ro I' ∧ (∀ q j : Nat, ((q = 39 ∧ j = 3) ∨ (q = 39 ∧ j = 4) ∨ (q = 23 ∧ j = 5) ∨ (q = 23 ∧ j = 6) ∨ (q = 23 ∧ j = 7) ∨ (q = 23 ∧ j = 8) ∨ (q = 1 ∧ j = 17) ∨ (q = 1 ∧ j = 18) ∨ q = 20 ∨ (q = 39 ∧ j = 6) ∨ q = (a1 + 1) ∨ q = (a1 + 6) ∨ q = (a1 + 4) ∨ q = (a1 + 5) ∨ (q = a1 ∧ j = 8) ∨ q = (a1 + 2) ∨ q = (a1 + 3) ∨ (q = a1 ∧ j = 4)) ∨ I' q j = I q j) ∧ (∀ q j : Nat, ((q = 23 ∧ j = 9)) ∨ J' q j = J q j) ∧ gc_LT I' ∧ gc_TK I' ∧ gc_CT a1 I' ∧ (∃ z : Int, r = some (.inl z) ∧ 0 ≤ z ∧ z ≤ 1 ∧ (I' 23 1 = I 23 1) ∧ (I 23 5 ≤ I' 23 5) ∧ (B ≤ 1280 ∧ I' 1 17 + I' 23 1 ≤ B + I' 23 5) ∧ (z = 0 ∨ I a1 4 < I' a1 4) ∧ (gc_LE z a1 (I' a1 4) I') ∧ (gc_PKs I I') ∧ (gs_Or z (0 ≤ (gs_itm β η Ir Jr nf9 p9) ∧ gc_AT β η (gs_itm β η Ir Jr nf9 p9) 23 I' J' ∧ I' 1 18 = 0 ∧ gs_LX (gs_li β η Ir Jr nf9 1002 0 0 (fun _ => -1) p9) nf9 (gs_A β η p9) a1 I') ((gs_itm β η Ir Jr nf9 p9) < 0 ∧ I' 39 4 = -1 - (gs_itm β η Ir Jr nf9 p9)))))) htb rfl (Nat.le_of_ble_eq_true rfl) ?_
  have N_a1_4__23 : gc_ne (a1 + 4) 23 := (show ¬ ((a1 + 4) = 23) by exact gz_m 0 (by omega))
  have N_a1_4__a1_3 : gc_ne (a1 + 4) (a1 + 3) := (show ¬ ((a1 + 4) = (a1 + 3)) by exact gz_m 1 (by omega))
  have N_a1_4__a1_2 : gc_ne (a1 + 4) (a1 + 2) := (show ¬ ((a1 + 4) = (a1 + 2)) by exact gz_m 2 (by omega))
  have N_a1_4__1 : gc_ne (a1 + 4) 1 := (show ¬ ((a1 + 4) = 1) by exact gz_m 3 (by omega))
  have N_a1_4__20 : gc_ne (a1 + 4) 20 := (show ¬ ((a1 + 4) = 20) by exact gz_m 4 (by omega))
  have N_a1_4__a1_1 : gc_ne (a1 + 4) (a1 + 1) := (show ¬ ((a1 + 4) = (a1 + 1)) by exact gz_m 5 (by omega))
  have N_12__a1_3 : gc_ne 12 (a1 + 3) := (show ¬ (12 = (a1 + 3)) by exact gz_m 6 (by omega))
  have N_12__a1_2 : gc_ne 12 (a1 + 2) := (show ¬ (12 = (a1 + 2)) by exact gz_m 7 (by omega))
  have N_12__a1_1 : gc_ne 12 (a1 + 1) := (show ¬ (12 = (a1 + 1)) by exact gz_m 8 (by omega))
  have N_a1_4__a1 : gc_ne (a1 + 4) a1 := (show ¬ ((a1 + 4) = a1) by exact gz_m 9 (by omega))
  have N_12__a1 : gc_ne 12 a1 := (show ¬ (12 = a1) by exact gz_m 10 (by omega))
  have N_12__a1_6 : gc_ne 12 (a1 + 6) := (show ¬ (12 = (a1 + 6)) by exact gz_m 11 (by omega))
  have N_12__a1_4 : gc_ne 12 (a1 + 4) := (show ¬ (12 = (a1 + 4)) by exact gz_m 12 (by omega))
  have N_12__a1_5 : gc_ne 12 (a1 + 5) := (show ¬ (12 = (a1 + 5)) by exact gz_m 13 (by omega))
  have N_t_3__20 : gc_ne (t + 3) 20 := (show ¬ ((t + 3) = 20) by exact gz_m 14 (by omega))
  have N_t_3__a1_1 : gc_ne (t + 3) (a1 + 1) := (show ¬ ((t + 3) = (a1 + 1)) by exact gz_m 15 (by omega))
  have N_t_3__a1_6 : gc_ne (t + 3) (a1 + 6) := (show ¬ ((t + 3) = (a1 + 6)) by exact gz_m 16 (by omega))
  have N_t_3__a1_4 : gc_ne (t + 3) (a1 + 4) := (show ¬ ((t + 3) = (a1 + 4)) by exact gz_m 17 (by omega))
  have N_t_3__a1_5 : gc_ne (t + 3) (a1 + 5) := (show ¬ ((t + 3) = (a1 + 5)) by exact gz_m 18 (by omega))
  have N_t_3__a1_2 : gc_ne (t + 3) (a1 + 2) := (show ¬ ((t + 3) = (a1 + 2)) by exact gz_m 19 (by omega))
  have N_t_3__a1_3 : gc_ne (t + 3) (a1 + 3) := (show ¬ ((t + 3) = (a1 + 3)) by exact gz_m 20 (by omega))
  have N_t_4__23 : gc_ne (t + 4) 23 := (show ¬ ((t + 4) = 23) by exact gz_m 21 (by omega))
  have N_t_5__39 : gc_ne (t + 5) 39 := (show ¬ ((t + 5) = 39) by exact gz_m 22 (by omega))
  have N_t_5__23 : gc_ne (t + 5) 23 := (show ¬ ((t + 5) = 23) by exact gz_m 23 (by omega))
  have N_t_5__1 : gc_ne (t + 5) 1 := (show ¬ ((t + 5) = 1) by exact gz_m 24 (by omega))
  have N_t_5__20 : gc_ne (t + 5) 20 := (show ¬ ((t + 5) = 20) by exact gz_m 25 (by omega))
  have N_t_5__a1_1 : gc_ne (t + 5) (a1 + 1) := (show ¬ ((t + 5) = (a1 + 1)) by exact gz_m 26 (by omega))
  have N_t_5__a1_6 : gc_ne (t + 5) (a1 + 6) := (show ¬ ((t + 5) = (a1 + 6)) by exact gz_m 27 (by omega))
  have N_t_5__a1_4 : gc_ne (t + 5) (a1 + 4) := (show ¬ ((t + 5) = (a1 + 4)) by exact gz_m 28 (by omega))
  have N_t_5__a1_5 : gc_ne (t + 5) (a1 + 5) := (show ¬ ((t + 5) = (a1 + 5)) by exact gz_m 29 (by omega))
  have N_t_5__a1 : gc_ne (t + 5) a1 := (show ¬ ((t + 5) = a1) by exact gz_m 30 (by omega))
  have N_t_5__a1_2 : gc_ne (t + 5) (a1 + 2) := (show ¬ ((t + 5) = (a1 + 2)) by exact gz_m 31 (by omega))
  have N_t_5__a1_3 : gc_ne (t + 5) (a1 + 3) := (show ¬ ((t + 5) = (a1 + 3)) by exact gz_m 32 (by omega))
  have N_t_6__39 : gc_ne (t + 6) 39 := (show ¬ ((t + 6) = 39) by exact gz_m 33 (by omega))
  have N_t_6__23 : gc_ne (t + 6) 23 := (show ¬ ((t + 6) = 23) by exact gz_m 34 (by omega))
  have N_t_6__1 : gc_ne (t + 6) 1 := (show ¬ ((t + 6) = 1) by exact gz_m 35 (by omega))
  have N_t_6__20 : gc_ne (t + 6) 20 := (show ¬ ((t + 6) = 20) by exact gz_m 36 (by omega))
  have N_t_6__a1_1 : gc_ne (t + 6) (a1 + 1) := (show ¬ ((t + 6) = (a1 + 1)) by exact gz_m 37 (by omega))
  have N_t_6__a1_6 : gc_ne (t + 6) (a1 + 6) := (show ¬ ((t + 6) = (a1 + 6)) by exact gz_m 38 (by omega))
  have N_t_6__a1_4 : gc_ne (t + 6) (a1 + 4) := (show ¬ ((t + 6) = (a1 + 4)) by exact gz_m 39 (by omega))
  have N_t_6__a1_5 : gc_ne (t + 6) (a1 + 5) := (show ¬ ((t + 6) = (a1 + 5)) by exact gz_m 40 (by omega))
  have N_t_6__a1 : gc_ne (t + 6) a1 := (show ¬ ((t + 6) = a1) by exact gz_m 41 (by omega))
  have N_t_6__a1_2 : gc_ne (t + 6) (a1 + 2) := (show ¬ ((t + 6) = (a1 + 2)) by exact gz_m 42 (by omega))
  have N_t_6__a1_3 : gc_ne (t + 6) (a1 + 3) := (show ¬ ((t + 6) = (a1 + 3)) by exact gz_m 43 (by omega))
  have N_a1_1__39 : gc_ne (a1 + 1) 39 := (show ¬ ((a1 + 1) = 39) by exact gz_m 44 (by omega))
  have N_a1_4__39 : gc_ne (a1 + 4) 39 := (show ¬ ((a1 + 4) = 39) by exact gz_m 45 (by omega))
  have N_23__a1_1 : gc_ne 23 (a1 + 1) := (show ¬ (23 = (a1 + 1)) by exact gz_m 46 (by omega))
  have N_1__a1_1 : gc_ne 1 (a1 + 1) := (show ¬ (1 = (a1 + 1)) by exact gz_m 47 (by omega))
  have N_a1__a1_1 : gc_ne a1 (a1 + 1) := (show ¬ (a1 = (a1 + 1)) by exact gz_m 48 (by omega))
  have N_39__a1_1 : gc_ne 39 (a1 + 1) := (show ¬ (39 = (a1 + 1)) by exact gz_m 49 (by omega))
  have N_24__a1_1 : gc_ne 24 (a1 + 1) := (show ¬ (24 = (a1 + 1)) by exact gz_m 50 (by omega))
  have N_a1_6__a1_1 : gc_ne (a1 + 6) (a1 + 1) := (show ¬ ((a1 + 6) = (a1 + 1)) by exact gz_m 51 (by omega))
  have N_20__a1_1 : gc_ne 20 (a1 + 1) := (show ¬ (20 = (a1 + 1)) by exact gz_m 52 (by omega))
  have N_a1__20 : gc_ne a1 20 := (show ¬ (a1 = 20) by exact gz_m 53 (by omega))
  have N_a1_6__1 : gc_ne (a1 + 6) 1 := (show ¬ ((a1 + 6) = 1) by exact gz_m 54 (by omega))
  have N_a1_6__20 : gc_ne (a1 + 6) 20 := (show ¬ ((a1 + 6) = 20) by exact gz_m 55 (by omega))
  have N_23__a1_2 : gc_ne 23 (a1 + 2) := (show ¬ (23 = (a1 + 2)) by exact gz_m 56 (by omega))
  have N_1__a1_2 : gc_ne 1 (a1 + 2) := (show ¬ (1 = (a1 + 2)) by exact gz_m 57 (by omega))
  have N_a1__a1_2 : gc_ne a1 (a1 + 2) := (show ¬ (a1 = (a1 + 2)) by exact gz_m 58 (by omega))
  have N_39__a1_2 : gc_ne 39 (a1 + 2) := (show ¬ (39 = (a1 + 2)) by exact gz_m 59 (by omega))
  have N_24__a1_2 : gc_ne 24 (a1 + 2) := (show ¬ (24 = (a1 + 2)) by exact gz_m 60 (by omega))
  have N_a1_6__a1_2 : gc_ne (a1 + 6) (a1 + 2) := (show ¬ ((a1 + 6) = (a1 + 2)) by exact gz_m 61 (by omega))
  have N_20__a1_2 : gc_ne 20 (a1 + 2) := (show ¬ (20 = (a1 + 2)) by exact gz_m 62 (by omega))
  have N_23__a1_3 : gc_ne 23 (a1 + 3) := (show ¬ (23 = (a1 + 3)) by exact gz_m 63 (by omega))
  have N_1__a1_3 : gc_ne 1 (a1 + 3) := (show ¬ (1 = (a1 + 3)) by exact gz_m 64 (by omega))
  have N_a1__a1_3 : gc_ne a1 (a1 + 3) := (show ¬ (a1 = (a1 + 3)) by exact gz_m 65 (by omega))
  have N_39__a1_3 : gc_ne 39 (a1 + 3) := (show ¬ (39 = (a1 + 3)) by exact gz_m 66 (by omega))
  have N_24__a1_3 : gc_ne 24 (a1 + 3) := (show ¬ (24 = (a1 + 3)) by exact gz_m 67 (by omega))
  have N_a1_6__a1_3 : gc_ne (a1 + 6) (a1 + 3) := (show ¬ ((a1 + 6) = (a1 + 3)) by exact gz_m 68 (by omega))
  have N_20__a1_3 : gc_ne 20 (a1 + 3) := (show ¬ (20 = (a1 + 3)) by exact gz_m 69 (by omega))
  have N_a1__23 : gc_ne a1 23 := (show ¬ (a1 = 23) by exact gz_m 70 (by omega))
  have N_a1_6__23 : gc_ne (a1 + 6) 23 := (show ¬ ((a1 + 6) = 23) by exact gz_m 71 (by omega))
  have N_24__a1 : gc_ne 24 a1 := (show ¬ (24 = a1) by exact gz_m 72 (by omega))
  have N_a1_6__a1 : gc_ne (a1 + 6) a1 := (show ¬ ((a1 + 6) = a1) by exact gz_m 73 (by omega))
  have N_20__a1 : gc_ne 20 a1 := (show ¬ (20 = a1) by exact gz_m 74 (by omega))
  have N_a1_1__a1 : gc_ne (a1 + 1) a1 := (show ¬ ((a1 + 1) = a1) by exact gz_m 75 (by omega))
  have N_a1_1__23 : gc_ne (a1 + 1) 23 := (show ¬ ((a1 + 1) = 23) by exact gz_m 76 (by omega))
  have N_a1_1__a1_3 : gc_ne (a1 + 1) (a1 + 3) := (show ¬ ((a1 + 1) = (a1 + 3)) by exact gz_m 77 (by omega))
  have N_a1_1__a1_2 : gc_ne (a1 + 1) (a1 + 2) := (show ¬ ((a1 + 1) = (a1 + 2)) by exact gz_m 78 (by omega))
  have N_a1_1__1 : gc_ne (a1 + 1) 1 := (show ¬ ((a1 + 1) = 1) by exact gz_m 79 (by omega))
  have N_a1_1__20 : gc_ne (a1 + 1) 20 := (show ¬ ((a1 + 1) = 20) by exact gz_m 80 (by omega))
  have N_a1__39 : gc_ne a1 39 := (show ¬ (a1 = 39) by exact gz_m 81 (by omega))
  have N_a1_6__39 : gc_ne (a1 + 6) 39 := (show ¬ ((a1 + 6) = 39) by exact gz_m 82 (by omega))
  have N_23__a1_6 : gc_ne 23 (a1 + 6) := (show ¬ (23 = (a1 + 6)) by exact gz_m 83 (by omega))
  have N_23__a1_4 : gc_ne 23 (a1 + 4) := (show ¬ (23 = (a1 + 4)) by exact gz_m 84 (by omega))
  have N_23__a1_5 : gc_ne 23 (a1 + 5) := (show ¬ (23 = (a1 + 5)) by exact gz_m 85 (by omega))
  have N_1__a1_6 : gc_ne 1 (a1 + 6) := (show ¬ (1 = (a1 + 6)) by exact gz_m 86 (by omega))
  have N_1__a1_4 : gc_ne 1 (a1 + 4) := (show ¬ (1 = (a1 + 4)) by exact gz_m 87 (by omega))
  have N_1__a1_5 : gc_ne 1 (a1 + 5) := (show ¬ (1 = (a1 + 5)) by exact gz_m 88 (by omega))
  have N_a1__a1_6 : gc_ne a1 (a1 + 6) := (show ¬ (a1 = (a1 + 6)) by exact gz_m 89 (by omega))
  have N_a1__a1_4 : gc_ne a1 (a1 + 4) := (show ¬ (a1 = (a1 + 4)) by exact gz_m 90 (by omega))
  have N_a1__a1_5 : gc_ne a1 (a1 + 5) := (show ¬ (a1 = (a1 + 5)) by exact gz_m 91 (by omega))
  have N_39__a1_6 : gc_ne 39 (a1 + 6) := (show ¬ (39 = (a1 + 6)) by exact gz_m 92 (by omega))
  have N_39__a1_4 : gc_ne 39 (a1 + 4) := (show ¬ (39 = (a1 + 4)) by exact gz_m 93 (by omega))
  have N_39__a1_5 : gc_ne 39 (a1 + 5) := (show ¬ (39 = (a1 + 5)) by exact gz_m 94 (by omega))
  have N_20__a1_6 : gc_ne 20 (a1 + 6) := (show ¬ (20 = (a1 + 6)) by exact gz_m 95 (by omega))
  have N_20__a1_4 : gc_ne 20 (a1 + 4) := (show ¬ (20 = (a1 + 4)) by exact gz_m 96 (by omega))
  have N_20__a1_5 : gc_ne 20 (a1 + 5) := (show ¬ (20 = (a1 + 5)) by exact gz_m 97 (by omega))
  have KPK_I : gc_PKs I I := gc_PKs_rf
  have t1 := gc_TK_mo KTK_I
  have f2 := (gc_b_3_1 hI R_23)
  have f3 := (gc_b_3_5 hI R_23)
  have f4 := (gc_b_3_6 hI R_23)
  have f5 := (gc_b_3_7 hI R_23)
  have f6 := (gc_b_22_17 hI R_1)
  have f7 := (show 0 ≤ I a1 4 ∧ I a1 4 ≤ 6 from gc_in2 hI R_a1 rfl rfl rfl)
  have f8 := (show 0 ≤ I a1 8 ∧ I a1 8 ≤ 4 from gc_in2 hI R_a1 rfl rfl rfl)
  have f9 := (gc_b_22_18 hI R_1)
  have f10 := (gc_b_42_2 hI R_39)
  have tAT := gc_AT_l x2
  have L23 : ∀ (n9 : Nat) (I11 : gr_I) (J12 : gr_J) (v2_13 : Int) (p_13 : Int), (8 - v2_13).toNat < n9 → gc_Inv ro I11 → (∀ q j : Nat, ((q = 39 ∧ j = 3) ∨ (q = 39 ∧ j = 4) ∨ (q = 23 ∧ j = 5) ∨ (q = 23 ∧ j = 6) ∨ (q = 23 ∧ j = 7) ∨ (q = 23 ∧ j = 8) ∨ (q = 1 ∧ j = 17) ∨ (q = 1 ∧ j = 18) ∨ q = 20 ∨ (q = 39 ∧ j = 6) ∨ q = (a1 + 1) ∨ q = (a1 + 6) ∨ q = (a1 + 4) ∨ q = (a1 + 5) ∨ (q = a1 ∧ j = 8) ∨ q = (a1 + 2) ∨ q = (a1 + 3) ∨ (q = a1 ∧ j = 4)) ∨ I11 q j = I q j) → (∀ q j : Nat, ((q = 23 ∧ j = 9)) ∨ J12 q j = J q j) → gc_LT I11 → gc_TK I11 → gc_CT a1 I11 → gc_PKs I I11 → ((0 ≤ v2_13 ∧ v2_13 ≤ 7) ∧ (v2_13 + I a1 4 ≤ I11 a1 4) ∧ (1 ≤ v2_13 ∨ I11 23 7 = 2 ∨ I11 23 7 = 3) ∧ (0 ≤ p_13) ∧ (I11 1 18 = 0) ∧ (I11 a1 4 = v2_13 ∧ v2_13 ≤ 6) ∧ (I11 23 1 = I 23 1) ∧ (I 23 5 ≤ I11 23 5) ∧ (B ≤ 1280 ∧ I11 1 17 + I11 23 1 ≤ B + I11 23 5) ∧ (I11 39 2 = (t : Int))) → (gc_LI a1 (I11 a1 4) I11) → (gc_AT β η p_13 23 I11 J12) → (∃ (i9 : Int) (a8 : Nat → Int), gs_li β η Ir Jr nf9 1002 0 0 (fun _ => -1) p9 = gs_li β η Ir Jr nf9 (Int.toNat (1002 - v2_13)) v2_13 i9 a8 p_13 ∧ gs_SO I11 a1 nf9 a8 ∧ gs_FF v2_13 i9 a8 (gs_A β η p9) a1 I11) → (v2_13 = 0 → p_13 = p9) → (gs_T β η p9 = 3 ∨ gs_T β η p9 = 2) → gv_X (gc_E6 ws0 tb 4 (yX6_readItems, cX6_readItems, 3, (some .boolean)) kX6_readItems) (gv_Q cX6_readItems (some .boolean) sh (fun r h' => (∃ (I' : gr_I) (J' : gr_J), h' = gc_h sh I' J' A ∧ gc_Inv ro I' ∧ (∀ q j : Nat, ((q = 39 ∧ j = 3) ∨ (q = 39 ∧ j = 4) ∨ (q = 23 ∧ j = 5) ∨ (q = 23 ∧ j = 6) ∨ (q = 23 ∧ j = 7) ∨ (q = 23 ∧ j = 8) ∨ (q = 1 ∧ j = 17) ∨ (q = 1 ∧ j = 18) ∨ q = 20 ∨ (q = 39 ∧ j = 6) ∨ q = (a1 + 1) ∨ q = (a1 + 6) ∨ q = (a1 + 4) ∨ q = (a1 + 5) ∨ (q = a1 ∧ j = 8) ∨ q = (a1 + 2) ∨ q = (a1 + 3) ∨ (q = a1 ∧ j = 4)) ∨ I' q j = I q j) ∧ (∀ q j : Nat, ((q = 23 ∧ j = 9)) ∨ J' q j = J q j) ∧ gc_LT I' ∧ gc_TK I' ∧ gc_CT a1 I' ∧ (∃ z : Int, r = some (.inl z) ∧ 0 ≤ z ∧ z ≤ 1 ∧ (I' 23 1 = I 23 1) ∧ (I 23 5 ≤ I' 23 5) ∧ (B ≤ 1280 ∧ I' 1 17 + I' 23 1 ≤ B + I' 23 5) ∧ (z = 0 ∨ I a1 4 < I' a1 4) ∧ (gc_LE z a1 (I' a1 4) I') ∧ (gc_PKs I I') ∧ (gs_Or z (0 ≤ (gs_itm β η Ir Jr nf9 p9) ∧ gc_AT β η (gs_itm β η Ir Jr nf9 p9) 23 I' J' ∧ I' 1 18 = 0 ∧ gs_LX (gs_li β η Ir Jr nf9 1002 0 0 (fun _ => -1) p9) nf9 (gs_A β η p9) a1 I') ((gs_itm β η Ir Jr nf9 p9) < 0 ∧ I' 39 4 = -1 - (gs_itm β η Ir Jr nf9 p9))))))) (23, [(0, .inr (.inr (some 39))), (1, .inr (.inr (some a1))), (2, .inl v2_13)], [], sh, gc_h sh I11 J12 A) := d_X6_readItems_l_p_L23 (ws0 := ws0) (tb := tb) hws htb sh ro I J A hI t B β η p9 Ir Jr nf9 a1 hb h_a1 G_a1 h_t G_t x0 x1 x2 x3 x4 x5 x6 x7 x8 x9 x10 x11 x12 KLT_I KTK_I KCT_I
  refine gv_run 1 true hD (pc' := 1) (lv' := [(0, .inr (.inr (some 39))), (1, .inr (.inr (some a1)))]) (st' := [.inr (.inr (some 39))]) (h' := gc_h sh I J A) (C := (True ∧ True)) rfl ⟨trivial, trivial⟩ ?_
  refine gv_get hD rfl rfl S_39 ⟨by decide, B_39⟩ (gc_hA S_39 rfl A_39_1) ?_
  show gv_X _ _ (4, [(0, .inr (.inr (some 39))), (1, .inr (.inr (some a1)))], [.inr (.inr (some 23))], sh, gc_h sh I J A)
  have f205 := (gc_b_3_7 hI R_23)
  refine gv_get hD rfl rfl S_23 ⟨by decide, B_23⟩ (gc_hI S_23 rfl) ?_
  show gv_X _ _ (7, [(0, .inr (.inr (some 39))), (1, .inr (.inr (some a1)))], [.inl (I 23 7)], sh, gc_h sh I J A)
  refine gv_run 1 true hD (pc' := 8) (lv' := [(0, .inr (.inr (some 39))), (1, .inr (.inr (some a1)))]) (st' := [.inl 3, .inl (I 23 7)]) (h' := gc_h sh I J A) (C := (True ∧ True)) rfl ⟨trivial, trivial⟩ ?_
  refine gv_icmp_eq (t := 21) hD rfl rfl ⟨⟨by exact gz_m 264 (by omega), by exact gz_m 265 (by omega)⟩, ⟨by exact gz_m 266 (by omega), by exact gz_m 267 (by omega)⟩⟩ (fun c206 => ?_) (fun c206 => ?_)
  · show gv_X _ _ (21, [(0, .inr (.inr (some 39))), (1, .inr (.inr (some a1)))], [], sh, gc_h sh I J A)
    refine gv_run 2 true hD (pc' := 23) (lv' := [(2, .inl 0), (0, .inr (.inr (some 39))), (1, .inr (.inr (some a1)))]) (st' := []) (h' := gc_h sh I J A) (C := ((True ∧ True) ∧ True)) rfl ⟨⟨trivial, trivial⟩, trivial⟩ ?_
    refine gv_pick [1, 2, 0] rfl ?_
    exact L23 _ I J 0 p9 (Nat.lt_succ_self _) hI FI FJ KLT_I KTK_I KCT_I KPK_I (by exact gz_m 268 (by omega)) x1 x2 ⟨0, fun _ => -1, rfl, gs_SO_fr x6 (fun k => rfl), Or.inl rfl⟩ (fun _ => rfl) (by exact gz_m 269 (by omega))
  · show gv_X _ _ (11, [(0, .inr (.inr (some 39))), (1, .inr (.inr (some a1)))], [], sh, gc_h sh I J A)
    refine gv_run 2 true hD (pc' := 13) (lv' := [(0, .inr (.inr (some 39))), (1, .inr (.inr (some a1)))]) (st' := [.inl 2, .inr (.inr (some 39))]) (h' := gc_h sh I J A) (C := ((True ∧ True) ∧ True)) rfl ⟨⟨trivial, trivial⟩, trivial⟩ ?_
    obtain ⟨r207, h207, E207, P207⟩ := d_X6_need_p (ws0 := ws0) (tb := tb) hws htb sh ro I J A hI  β η p9 2 hb   ⟨by exact gz_m 270 (by omega), by exact gz_m 271 (by omega)⟩ x2 (by exact gz_m 272 (by omega)) 
    obtain ⟨I208, J209, rfl, hI208, g207, k207, ⟨z207, rfl, q207⟩⟩ := P207
    have FI208 := gc_frc (W := fun q j => (q = 39 ∧ j = 3) ∨ (q = 39 ∧ j = 4) ∨ (q = 23 ∧ j = 5) ∨ (q = 23 ∧ j = 6) ∨ (q = 23 ∧ j = 7) ∨ (q = 23 ∧ j = 8) ∨ (q = 1 ∧ j = 17) ∨ (q = 1 ∧ j = 18) ∨ q = 20 ∨ (q = 39 ∧ j = 6) ∨ q = (a1 + 1) ∨ q = (a1 + 6) ∨ q = (a1 + 4) ∨ q = (a1 + 5) ∨ (q = a1 ∧ j = 8) ∨ q = (a1 + 2) ∨ q = (a1 + 3) ∨ (q = a1 ∧ j = 4)) (V := fun q j => (q = 39 ∧ j = 3) ∨ (q = 39 ∧ j = 4)) FI (fun q j h => (h.elim (fun h => (Or.inl h)) (fun h => (Or.inr (Or.inl h))))) g207
    have t210 := (g207 23 1).resolve_left (fun h => h.elim (fun h => absurd h.2 (gz_ne rfl)) (fun h => absurd h.2 (gz_ne rfl)))
    have t211 := (g207 23 5).resolve_left (fun h => h.elim (fun h => absurd h.2 (gz_ne rfl)) (fun h => absurd h.2 (gz_ne rfl)))
    have t212 := (g207 23 6).resolve_left (fun h => h.elim (fun h => absurd h.2 (gz_ne rfl)) (fun h => absurd h.2 (gz_ne rfl)))
    have t213 := (g207 23 7).resolve_left (fun h => h.elim (fun h => absurd h.2 (gz_ne rfl)) (fun h => absurd h.2 (gz_ne rfl)))
    have t214 := (g207 1 17).resolve_left (fun h => h.elim (fun h => absurd h.2 (gz_ne rfl)) (fun h => absurd h.2 (gz_ne rfl)))
    have t215 := (g207 a1 4).resolve_left (fun h => h.elim (fun h => absurd h.2 (gz_ne rfl)) (fun h => absurd h.1 N_a1__39))
    have t216 := (g207 a1 8).resolve_left (fun h => h.elim (fun h => absurd h.2 (gz_ne rfl)) (fun h => absurd h.2 (gz_ne rfl)))
    have t217 := (g207 1 18).resolve_left (fun h => h.elim (fun h => absurd h.2 (gz_ne rfl)) (fun h => absurd h.2 (gz_ne rfl)))
    have t218 := (g207 39 2).resolve_left (fun h => h.elim (fun h => absurd h.2 (gz_ne rfl)) (fun h => absurd h.2 (gz_ne rfl)))
    obtain rfl : J = J209 := funext fun q => funext fun j => ((k207 q j).resolve_left id).symm
    have KLT_I208 := gc_LT_fr KLT_I ((g207 23 5).resolve_left (fun h => h.elim (fun h => absurd h.2 (gz_ne rfl)) (fun h => absurd h.2 (gz_ne rfl)))) ((g207 23 6).resolve_left (fun h => h.elim (fun h => absurd h.2 (gz_ne rfl)) (fun h => absurd h.2 (gz_ne rfl)))) ((g207 23 7).resolve_left (fun h => h.elim (fun h => absurd h.2 (gz_ne rfl)) (fun h => absurd h.2 (gz_ne rfl)))) (fun k => (g207 24 k).resolve_left (fun h => h.elim (fun h => absurd h.1 (gz_ne rfl)) (fun h => absurd h.1 (gz_ne rfl))))
    have KTK_I208 := gc_TK_fr KTK_I ((g207 23 1).resolve_left (fun h => h.elim (fun h => absurd h.2 (gz_ne rfl)) (fun h => absurd h.2 (gz_ne rfl)))) ((g207 23 5).resolve_left (fun h => h.elim (fun h => absurd h.2 (gz_ne rfl)) (fun h => absurd h.2 (gz_ne rfl)))) ((g207 23 6).resolve_left (fun h => h.elim (fun h => absurd h.2 (gz_ne rfl)) (fun h => absurd h.2 (gz_ne rfl)))) ((g207 23 7).resolve_left (fun h => h.elim (fun h => absurd h.2 (gz_ne rfl)) (fun h => absurd h.2 (gz_ne rfl))))
    have KCT_I208 := gc_CT_fr KCT_I ((g207 a1 8).resolve_left (fun h => h.elim (fun h => absurd h.2 (gz_ne rfl)) (fun h => absurd h.2 (gz_ne rfl)))) (fun k => (g207 (a1 + 6) k).resolve_left (fun h => h.elim (fun h => absurd h.1 N_a1_6__39) (fun h => absurd h.1 N_a1_6__39)))
    have KPK_I208 := gc_PKs_fr KPK_I ((g207 1 17).resolve_left (fun h => h.elim (fun h => absurd h.2 (gz_ne rfl)) (fun h => absurd h.2 (gz_ne rfl)))) (fun k => (g207 20 k).resolve_left (fun h => h.elim (fun h => absurd h.1 (gz_ne rfl)) (fun h => absurd h.1 (gz_ne rfl))))
    have A219 := gc_AT_I x2 ((g207 23 1).resolve_left (fun h => h.elim (fun h => absurd h.2 (gz_ne rfl)) (fun h => absurd h.2 (gz_ne rfl)))) ((g207 23 5).resolve_left (fun h => h.elim (fun h => absurd h.2 (gz_ne rfl)) (fun h => absurd h.2 (gz_ne rfl)))) ((g207 23 6).resolve_left (fun h => h.elim (fun h => absurd h.2 (gz_ne rfl)) (fun h => absurd h.2 (gz_ne rfl)))) ((g207 23 7).resolve_left (fun h => h.elim (fun h => absurd h.2 (gz_ne rfl)) (fun h => absurd h.2 (gz_ne rfl)))) ((g207 23 8).resolve_left (fun h => h.elim (fun h => absurd h.2 (gz_ne rfl)) (fun h => absurd h.2 (gz_ne rfl)))) (fun k => (g207 24 k).resolve_left (fun h => h.elim (fun h => absurd h.1 (gz_ne rfl)) (fun h => absurd h.1 (gz_ne rfl))))
    have t220 := gc_AT_l A219
    refine gv_callV hD rfl (As := [.inl 2]) (st := []) rfl B_39 S_39 rfl (gc_lV6 hws rfl) (Nat.le_of_ble_eq_true rfl) (gz_Ev_mono (d := 2) (by decide) E207) ?_
    show gv_X _ _ (16, [(0, .inr (.inr (some 39))), (1, .inr (.inr (some a1)))], [.inl z207], sh, gc_h sh I208 J A)
    refine gv_if_ne (t := 21) hD rfl rfl ⟨by exact gz_m 273 (by omega), by exact gz_m 274 (by omega)⟩ (fun c221 => ?_) (fun c221 => ?_)
    · show gv_X _ _ (21, [(0, .inr (.inr (some 39))), (1, .inr (.inr (some a1)))], [], sh, gc_h sh I208 J A)
      have u222 := gs_or1 q207.2.2.2 (by exact gz_m 275 (by omega))
      refine gv_run 2 true hD (pc' := 23) (lv' := [(2, .inl 0), (0, .inr (.inr (some 39))), (1, .inr (.inr (some a1)))]) (st' := []) (h' := gc_h sh I208 J A) (C := ((True ∧ True) ∧ True)) rfl ⟨⟨trivial, trivial⟩, trivial⟩ ?_
      refine gv_pick [1, 2, 0] rfl ?_
      exact L23 _ I208 J 0 p9 (Nat.lt_succ_self _) hI208 FI208 FJ KLT_I208 KTK_I208 KCT_I208 KPK_I208 (by exact gz_m 276 (by omega)) (by rw [show I208 a1 4 = I a1 4 from by exact gz_m 277 (by omega)]; exact (gc_LI_fr x1 (((g207 a1 1).resolve_left (fun h => h.elim (fun h => absurd h.2 (gz_ne rfl)) (fun h => absurd h.2 (gz_ne rfl))))) (((g207 a1 8).resolve_left (fun h => h.elim (fun h => absurd h.2 (gz_ne rfl)) (fun h => absurd h.2 (gz_ne rfl))))) (fun k => ((g207 (a1 + 1) k).resolve_left (fun h => h.elim (fun h => absurd h.1 N_a1_1__39) (fun h => absurd h.1 N_a1_1__39)))) (fun k => ((g207 (a1 + 4) k).resolve_left (fun h => h.elim (fun h => absurd h.1 N_a1_4__39) (fun h => absurd h.1 N_a1_4__39)))) (fun k => ((g207 (a1 + 6) k).resolve_left (fun h => h.elim (fun h => absurd h.1 N_a1_6__39) (fun h => absurd h.1 N_a1_6__39)))) (fun k => ((g207 12 k).resolve_left (fun h => h.elim (fun h => absurd h.1 (gz_ne rfl)) (fun h => absurd h.1 (gz_ne rfl))))))) A219 ⟨0, fun _ => -1, rfl, gs_SO_fr x6 (fun k => ((g207 (a1 + 6) k).resolve_left (fun h => h.elim (fun h => absurd h.1 N_a1_6__39) (fun h => absurd h.1 N_a1_6__39)))), Or.inl rfl⟩ (fun _ => rfl) (by exact gz_m 278 (by omega))
    · show gv_X _ _ (19, [(0, .inr (.inr (some 39))), (1, .inr (.inr (some a1)))], [], sh, gc_h sh I208 J A)
      have u223 := gs_or0 q207.2.2.2 (by exact gz_m 279 (by omega))
      refine gv_run 1 true hD (pc' := 20) (lv' := [(0, .inr (.inr (some 39))), (1, .inr (.inr (some a1)))]) (st' := [.inl 0]) (h' := gc_h sh I208 J A) (C := (True ∧ True)) rfl ⟨trivial, trivial⟩ ?_
      exact gv_zret hD rfl (by exact gz_m 280 (by omega)) ⟨I208, J, rfl, hI208, FI208, FJ, KLT_I208, KTK_I208, KCT_I208, ⟨_, rfl, by exact gz_m 281 (by omega), by exact gz_m 282 (by omega), by exact gz_m 283 (by omega), by exact gz_m 284 (by omega), by exact gz_m 285 (by omega), by exact gz_m 286 (by omega), (Or.inl (by exact gz_m 287 (by omega))), KPK_I208, (Or.inr ⟨by exact gz_m 288 (by omega), by unfold gs_itm; (repeat first | rw [if_pos (by exact gz_m 289 (by omega))] | rw [if_neg (by exact gz_m 290 (by omega))]); exact ⟨by exact gz_m 291 (by omega), by exact gz_m 292 (by omega)⟩⟩)⟩⟩
