set_option maxHeartbeats 8000000 in
set_option maxRecDepth 100000 in
theorem d_X6_readSound_p {ws0 : List Cond} {tb : String → gz_T} (hws : gc_Ws ws0) (htb : gc_tbs tb) (sh : gz_Sh) (ro : Nat → Nat) (I : gr_I) (J : gr_J) (A : gc_A) (hI : gc_Inv ro I) (t : Nat) (B : Int) (β : Int → Int) (η : Int) (p9 : Int) (Ir : gr_I) (Jr : gr_J)  (hb : gc_Base sh ro A) (h_t : gc_isTongue sh ro A t) (G_t : 144 ≤ t)  (x0 : B ≤ 1280 ∧ I 1 17 + I 23 1 ≤ B + I 23 5) (x1 : gc_AT β η p9 23 I J) (x2 : 0 ≤ p9) (x3 : I 1 18 = 0) (x4 : I t 6 = Ir 16 (Int.toNat (Ir 0 6))) (x5 : I (t + 7) 1 = Ir 15 (Int.toNat (Ir 0 6))) (x6 : gs_NA (I (t + 7) 1) (J (t + 8)) (fun k => Jr 22 (Int.toNat (16 * Ir 0 6 + (k : Int))))) (x7 : gs_MA Ir I t) (x8 : I 39 2 = (t : Int)) (KLT_I : gc_LT I) (KTK_I : gc_TK I) (KSC_I : gc_sc (t + 10) I) : ∃ r h', gz_Ev ws0 tb 6 (yX6_readSound, cX6_readSound, 1, (some .boolean)) [.inr (.inr (some 39))] sh (gc_h sh I J A) r sh h' 0 0 ∧ (∃ (I' : gr_I) (J' : gr_J), h' = gc_h sh I' J' A ∧ gc_Inv ro I' ∧ (∀ q j : Nat, ((q = 39 ∧ j = 3) ∨ (q = 39 ∧ j = 4) ∨ (q = 23 ∧ j = 5) ∨ (q = 23 ∧ j = 6) ∨ (q = 23 ∧ j = 7) ∨ (q = 23 ∧ j = 8) ∨ (q = 1 ∧ j = 17) ∨ (q = 1 ∧ j = 18) ∨ q = 20 ∨ q = 41 ∨ q = (t + 10) ∨ (q = t ∧ j = 6)) ∨ I' q j = I q j) ∧ (∀ q j : Nat, ((q = 23 ∧ j = 9)) ∨ J' q j = J q j) ∧ gc_LT I' ∧ gc_TK I' ∧ gc_sc (t + 10) I' ∧ (∃ z : Int, r = some (.inl z) ∧ 0 ≤ z ∧ z ≤ 1 ∧ (I' 23 1 = I 23 1) ∧ (I 23 5 ≤ I' 23 5) ∧ (B ≤ 1280 ∧ I' 1 17 + I' 23 1 ≤ B + I' 23 5) ∧ (gc_PKs I I') ∧ (gs_Or z (0 ≤ (gs_snd β η Ir Jr (I 39 5) p9) ∧ gc_AT β η (gs_snd β η Ir Jr (I 39 5) p9) 23 I' J' ∧ I' t 6 = I t 6 + 1 ∧ I' 1 18 = 0 ∧ gs_Csn β η Ir Jr I t p9 I' (I t 6)) ((gs_snd β η Ir Jr (I 39 5) p9) < 0 ∧ I' 39 4 = -1 - (gs_snd β η Ir Jr (I 39 5) p9) ∧ I' t 6 = I t 6 ∧ ∀ j, I' (t + 10) j = I (t + 10) j)))) := by
  have FI : ∀ q j : Nat, ((q = 39 ∧ j = 3) ∨ (q = 39 ∧ j = 4) ∨ (q = 23 ∧ j = 5) ∨ (q = 23 ∧ j = 6) ∨ (q = 23 ∧ j = 7) ∨ (q = 23 ∧ j = 8) ∨ (q = 1 ∧ j = 17) ∨ (q = 1 ∧ j = 18) ∨ q = 20 ∨ q = 41 ∨ q = (t + 10) ∨ (q = t ∧ j = 6)) ∨ I q j = I q j := fun _ _ => Or.inr rfl
  have FJ : ∀ q j : Nat, ((q = 23 ∧ j = 9)) ∨ J q j = J q j := fun _ _ => Or.inr rfl
  have A_39_1 : A 39 1 = some 23 := gc_bA hb rfl
  have A_39_10 : A 39 10 = some 41 := gc_bA hb rfl
  have B_23 : 23 < 1000000 := by decide
  have B_39 : 39 < 1000000 := by decide
  have B_41 : 41 < 1000000 := by decide
  have R_1 : ro 1 = 22 := gc_bR hb (by decide) rfl
  have R_23 : ro 23 = 3 := gc_bR hb (by decide) rfl
  have R_39 : ro 39 = 42 := gc_bR hb (by decide) rfl
  have R_41 : ro 41 = 0 := gc_bR hb (by decide) rfl
  have S_23 : sh[23]? = some (false, 9, 10) := gc_bS hb rfl
  have S_39 : sh[39]? = some (false, 6, 19) := gc_bS hb rfl
  have S_41 : sh[41]? = some (true, 1, 25) := gc_bS hb rfl
  obtain ⟨S_t, R_t, B_t, A_t_0, h_t_1, A_t_1, h_t_3, A_t_2, S_t_5, R_t_5, B_t_5, A_t_3, S_t_6, R_t_6, B_t_6, A_t_4, h_t_7, A_t_5, S_t_9, R_t_9, B_t_9, A_t_7, S_t_10, R_t_10, B_t_10, A_t_8, h_t_11, A_t_9, S_t_13, R_t_13, B_t_13, A_t_10, S_t_14, R_t_14, B_t_14, A_t_12, S_t_15, R_t_15, B_t_15, A_t_14, S_t_16, R_t_16, B_t_16, A_t_15, h_t_17⟩ := id h_t
  obtain ⟨S_t_1, R_t_1, B_t_1, A_t_1_0, S_t_1_1, R_t_1_1, B_t_1_1, Q0_t_1, Q1_t_1, Q2_t_1⟩ := id h_t_1
  obtain ⟨S_t_3, R_t_3, B_t_3, A_t_3_0, S_t_3_1, R_t_3_1, B_t_3_1, Q0_t_3, Q1_t_3, Q2_t_3⟩ := id h_t_3
  obtain ⟨S_t_7, R_t_7, B_t_7, A_t_7_0, S_t_7_1, R_t_7_1, B_t_7_1, Q0_t_7, Q1_t_7, Q2_t_7⟩ := id h_t_7
  obtain ⟨S_t_11, R_t_11, B_t_11, A_t_11_0, S_t_11_1, R_t_11_1, B_t_11_1, Q0_t_11, Q1_t_11, Q2_t_11⟩ := id h_t_11
  obtain ⟨S_t_17, R_t_17, B_t_17, A_t_17_0, S_20, R_20, B_20, A_t_17_1, S_t_17_1, R_t_17_1, B_t_17_1, A_t_17_2, S_t_17_2, R_t_17_2, B_t_17_2, A_t_17_3, S_t_17_3, R_t_17_3, B_t_17_3, A_t_17_4, S_t_17_4, R_t_17_4, B_t_17_4, A_t_17_5, S_t_17_5, R_t_17_5, B_t_17_5, S_t_17_6, R_t_17_6, B_t_17_6, S_t_17_7, R_t_17_7, B_t_17_7⟩ := id h_t_17
  have hD : gv_D (gc_E6 ws0 tb 5 (yX6_readSound, cX6_readSound, 1, (some .boolean)) kX6_readSound) := gq_of oX6_readSound
  refine gc_ev6 (d := 5) (l := kX6_readSound) (Po := fun r h' => (∃ (I' : gr_I) (J' : gr_J), h' = gc_h sh I' J' A ∧ gc_Inv ro I' ∧ (∀ q j : Nat, ((q = 39 ∧ j = 3) ∨ (q = 39 ∧ j = 4) ∨ (q = 23 ∧ j = 5) ∨ (q = 23 ∧ j = 6) ∨ (q = 23 ∧ j = 7) ∨ (q = 23 ∧ j = 8) ∨ (q = 1 ∧ j = 17) ∨ (q = 1 ∧ j = 18) ∨ q = 20 ∨ q = 41 ∨ q = (t + 10) ∨ (q = t ∧ j = 6)) ∨ I' q j = I q j) ∧ (∀ q j : Nat, ((q = 23 ∧ j = 9)) ∨ J' q j = J q j) ∧ gc_LT I' ∧ gc_TK I' ∧ gc_sc (t + 10) I' ∧ (∃ z : Int, r = some (.inl z) ∧ 0 ≤ z ∧ z ≤ 1 ∧ (I' 23 1 = I 23 1) ∧ (I 23 5 ≤ I' 23 5) ∧ (B ≤ 1280 ∧ I' 1 17 + I' 23 1 ≤ B + I' 23 5) ∧ (gc_PKs I I') ∧ (gs_Or z (0 ≤ (gs_snd β η Ir Jr (I 39 5) p9) ∧ gc_AT β η (gs_snd β η Ir Jr (I 39 5) p9) 23 I' J' ∧ I' t 6 = I t 6 + 1 ∧ I' 1 18 = 0 ∧ gs_Csn β η Ir Jr I t p9 I' (I t 6)) ((gs_snd β η Ir Jr (I 39 5) p9) < 0 ∧ I' 39 4 = -1 - (gs_snd β η Ir Jr (I 39 5) p9) ∧ I' t 6 = I t 6 ∧ ∀ j, I' (t + 10) j = I (t + 10) j))))) htb rfl (Nat.le_of_ble_eq_true rfl) ?_
  have N_t__23 : ¬ (t = 23) := by omega
  have N_t_10__39 : ¬ ((t + 10) = 39) := by omega
  have N_t_10__23 : ¬ ((t + 10) = 23) := by omega
  have N_23__t_10 : ¬ (23 = (t + 10)) := by omega
  have N_24__t_10 : ¬ (24 = (t + 10)) := by omega
  have N_41__t_10 : ¬ (41 = (t + 10)) := by omega
  have N_1__t_10 : ¬ (1 = (t + 10)) := by omega
  have N_20__t_10 : ¬ (20 = (t + 10)) := by omega
  have N_t__t_10 : ¬ (t = (t + 10)) := by omega
  have N_39__t_10 : ¬ (39 = (t + 10)) := by omega
  have N_23__t : ¬ (23 = t) := by omega
  have N_41__t : ¬ (41 = t) := by omega
  have N_24__t : ¬ (24 = t) := by omega
  have N_t_10__t : ¬ ((t + 10) = t) := by omega
  have N_20__t : ¬ (20 = t) := by omega
  have N_t__20 : ¬ (t = 20) := by omega
  have N_t_10__1 : ¬ ((t + 10) = 1) := by omega
  have N_t_10__20 : ¬ ((t + 10) = 20) := by omega
  have N_t_10__41 : ¬ ((t + 10) = 41) := by omega
  have N_t__41 : ¬ (t = 41) := by omega
  have KPK_I : gc_PKs I I := gc_PKs_rf
  have t1 := gc_TK_mo KTK_I
  have f2 := (show 0 ≤ I 23 1 ∧ I 23 1 ≤ 1000 from gc_in hI R_23 rfl rfl)
  have f3 := (show 0 ≤ I 23 5 ∧ I 23 5 ≤ 1000 from gc_in hI R_23 rfl rfl)
  have f4 := (show 0 ≤ I 23 6 ∧ I 23 6 ≤ 1001 from gc_in hI R_23 rfl rfl)
  have f5 := (show 0 ≤ I 23 7 ∧ I 23 7 ≤ 125 from gc_in hI R_23 rfl rfl)
  have f6 := (show 0 ≤ I 1 17 ∧ I 1 17 ≤ 12000 from gc_in hI R_1 rfl rfl)
  have f7 := (show 0 ≤ I t 6 ∧ I t 6 ≤ 24 from gc_in hI R_t rfl rfl)
  have f8 := (show 0 ≤ I 1 18 ∧ I 1 18 ≤ 1 from gc_in hI R_1 rfl rfl)
  have f9 := (show 0 ≤ I 39 5 ∧ I 39 5 ≤ 1000 from gc_in hI R_39 rfl rfl)
  have f10 := (show (-1) ≤ I 39 2 ∧ I 39 2 ≤ 999999 from gc_in hI R_39 rfl rfl)
  have tAT := gc_AT_l x1
  have L29 : ∀ (I11 : gr_I) (J12 : gr_J) (p_13 : Int), gc_Inv ro I11 → (∀ q j : Nat, ((q = 39 ∧ j = 3) ∨ (q = 39 ∧ j = 4) ∨ (q = 23 ∧ j = 5) ∨ (q = 23 ∧ j = 6) ∨ (q = 23 ∧ j = 7) ∨ (q = 23 ∧ j = 8) ∨ (q = 1 ∧ j = 17) ∨ (q = 1 ∧ j = 18) ∨ q = 20 ∨ q = 41 ∨ q = (t + 10) ∨ (q = t ∧ j = 6)) ∨ I11 q j = I q j) → (∀ q j : Nat, ((q = 23 ∧ j = 9)) ∨ J12 q j = J q j) → gc_LT I11 → gc_TK I11 → gc_sc (t + 10) I11 → gc_row 41 25 gc_fS I11 → gc_RC I11 → gc_PKs I I11 → ((0 ≤ p_13) ∧ (I11 41 5 = 0) ∧ (I11 41 6 = 0) ∧ (I11 1 18 = 0) ∧ (I11 t 6 = I t 6) ∧ (I11 23 7 = 1 ∨ I11 23 7 = 3) ∧ (I11 23 1 = I 23 1) ∧ (I 23 5 ≤ I11 23 5) ∧ (B ≤ 1280 ∧ I11 1 17 + I11 23 1 ≤ B + I11 23 5) ∧ (I11 39 2 = (t : Int))) → (gc_AT β η p_13 23 I11 J12) → (p_13 = p9) → ((I11 39 5 = I 39 5) ∧ (∀ k, I11 (t + 10) k = I (t + 10) k)) → gv_X (gc_E6 ws0 tb 5 (yX6_readSound, cX6_readSound, 1, (some .boolean)) kX6_readSound) (gv_Q cX6_readSound (some .boolean) sh (fun r h' => (∃ (I' : gr_I) (J' : gr_J), h' = gc_h sh I' J' A ∧ gc_Inv ro I' ∧ (∀ q j : Nat, ((q = 39 ∧ j = 3) ∨ (q = 39 ∧ j = 4) ∨ (q = 23 ∧ j = 5) ∨ (q = 23 ∧ j = 6) ∨ (q = 23 ∧ j = 7) ∨ (q = 23 ∧ j = 8) ∨ (q = 1 ∧ j = 17) ∨ (q = 1 ∧ j = 18) ∨ q = 20 ∨ q = 41 ∨ q = (t + 10) ∨ (q = t ∧ j = 6)) ∨ I' q j = I q j) ∧ (∀ q j : Nat, ((q = 23 ∧ j = 9)) ∨ J' q j = J q j) ∧ gc_LT I' ∧ gc_TK I' ∧ gc_sc (t + 10) I' ∧ (∃ z : Int, r = some (.inl z) ∧ 0 ≤ z ∧ z ≤ 1 ∧ (I' 23 1 = I 23 1) ∧ (I 23 5 ≤ I' 23 5) ∧ (B ≤ 1280 ∧ I' 1 17 + I' 23 1 ≤ B + I' 23 5) ∧ (gc_PKs I I') ∧ (gs_Or z (0 ≤ (gs_snd β η Ir Jr (I 39 5) p9) ∧ gc_AT β η (gs_snd β η Ir Jr (I 39 5) p9) 23 I' J' ∧ I' t 6 = I t 6 + 1 ∧ I' 1 18 = 0 ∧ gs_Csn β η Ir Jr I t p9 I' (I t 6)) ((gs_snd β η Ir Jr (I 39 5) p9) < 0 ∧ I' 39 4 = -1 - (gs_snd β η Ir Jr (I 39 5) p9) ∧ I' t 6 = I t 6 ∧ ∀ j, I' (t + 10) j = I (t + 10) j)))))) (29, [(0, .inr (.inr (some 39)))], [], sh, gc_h sh I11 J12 A) := by
    intro I11 J12 p_13 hI11 FI11 FJ12 KLT_I11 KTK_I11 KSC_I11 KRS_I11 KRC_I11 KPK_I11 m_13 e1_13 e2_13 e3_13
    obtain ⟨e0_13, e4_13, e5_13, e6_13, e7_13, e8_13, e9_13, e10_13, e11_13, e12_13⟩ := m_13
    have t14 := gc_TK_mo KTK_I11
    have f15 := (show 0 ≤ I11 23 1 ∧ I11 23 1 ≤ 1000 from gc_in hI11 R_23 rfl rfl)
    have f16 := (show 0 ≤ I11 23 5 ∧ I11 23 5 ≤ 1000 from gc_in hI11 R_23 rfl rfl)
    have f17 := (show 0 ≤ I11 23 6 ∧ I11 23 6 ≤ 1001 from gc_in hI11 R_23 rfl rfl)
    have f18 := (show 0 ≤ I11 23 7 ∧ I11 23 7 ≤ 125 from gc_in hI11 R_23 rfl rfl)
    have f19 := (show 0 ≤ I11 1 17 ∧ I11 1 17 ≤ 12000 from gc_in hI11 R_1 rfl rfl)
    have f20 := (show 0 ≤ I11 t 6 ∧ I11 t 6 ≤ 24 from gc_in hI11 R_t rfl rfl)
    have f21 := (show 0 ≤ I11 1 18 ∧ I11 1 18 ≤ 1 from gc_in hI11 R_1 rfl rfl)
    have f22 := (show 0 ≤ I11 39 5 ∧ I11 39 5 ≤ 1000 from gc_in hI11 R_39 rfl rfl)
    have f23 := (show (-1) ≤ I11 39 2 ∧ I11 39 2 ≤ 999999 from gc_in hI11 R_39 rfl rfl)
    have t24 := gc_AT_l e1_13
    have L75 : ((0 ≤ p_13) ∧ (I11 41 5 = 0) ∧ (I11 41 6 = 0) ∧ (I11 1 18 = 0) ∧ (I11 t 6 = I t 6) ∧ (I11 23 7 = 1 ∨ I11 23 7 = 3) ∧ (I11 23 1 = I 23 1) ∧ (I 23 5 ≤ I11 23 5) ∧ (B ≤ 1280 ∧ I11 1 17 + I11 23 1 ≤ B + I11 23 5) ∧ (I11 39 2 = (t : Int))) → (gc_AT β η p_13 23 I11 J12) → ((gs_snd β η Ir Jr (I 39 5) p9) = gs_snd1 β η Ir Jr (I 39 5) (gs_ctx β η Ir Jr 0 p_13)) → (p_13 = p9) → ((I11 39 5 = I 39 5) ∧ (∀ k, I11 (t + 10) k = I (t + 10) k)) → gv_X (gc_E6 ws0 tb 5 (yX6_readSound, cX6_readSound, 1, (some .boolean)) kX6_readSound) (gv_Q cX6_readSound (some .boolean) sh (fun r h' => (∃ (I' : gr_I) (J' : gr_J), h' = gc_h sh I' J' A ∧ gc_Inv ro I' ∧ (∀ q j : Nat, ((q = 39 ∧ j = 3) ∨ (q = 39 ∧ j = 4) ∨ (q = 23 ∧ j = 5) ∨ (q = 23 ∧ j = 6) ∨ (q = 23 ∧ j = 7) ∨ (q = 23 ∧ j = 8) ∨ (q = 1 ∧ j = 17) ∨ (q = 1 ∧ j = 18) ∨ q = 20 ∨ q = 41 ∨ q = (t + 10) ∨ (q = t ∧ j = 6)) ∨ I' q j = I q j) ∧ (∀ q j : Nat, ((q = 23 ∧ j = 9)) ∨ J' q j = J q j) ∧ gc_LT I' ∧ gc_TK I' ∧ gc_sc (t + 10) I' ∧ (∃ z : Int, r = some (.inl z) ∧ 0 ≤ z ∧ z ≤ 1 ∧ (I' 23 1 = I 23 1) ∧ (I 23 5 ≤ I' 23 5) ∧ (B ≤ 1280 ∧ I' 1 17 + I' 23 1 ≤ B + I' 23 5) ∧ (gc_PKs I I') ∧ (gs_Or z (0 ≤ (gs_snd β η Ir Jr (I 39 5) p9) ∧ gc_AT β η (gs_snd β η Ir Jr (I 39 5) p9) 23 I' J' ∧ I' t 6 = I t 6 + 1 ∧ I' 1 18 = 0 ∧ gs_Csn β η Ir Jr I t p9 I' (I t 6)) ((gs_snd β η Ir Jr (I 39 5) p9) < 0 ∧ I' 39 4 = -1 - (gs_snd β η Ir Jr (I 39 5) p9) ∧ I' t 6 = I t 6 ∧ ∀ j, I' (t + 10) j = I (t + 10) j)))))) (75, [(0, .inr (.inr (some 39)))], [], sh, gc_h sh I11 J12 A) := by
      intro m_25 e1_25 e2_25 e3_25 e4_25
      obtain ⟨e0_25, e5_25, e6_25, e7_25, e8_25, e9_25, e10_25, e11_25, e12_25, e13_25⟩ := m_25
      have t26 := gc_TK_mo KTK_I11
      have f27 := (show 0 ≤ I11 23 1 ∧ I11 23 1 ≤ 1000 from gc_in hI11 R_23 rfl rfl)
      have f28 := (show 0 ≤ I11 23 5 ∧ I11 23 5 ≤ 1000 from gc_in hI11 R_23 rfl rfl)
      have f29 := (show 0 ≤ I11 23 6 ∧ I11 23 6 ≤ 1001 from gc_in hI11 R_23 rfl rfl)
      have f30 := (show 0 ≤ I11 23 7 ∧ I11 23 7 ≤ 125 from gc_in hI11 R_23 rfl rfl)
      have f31 := (show 0 ≤ I11 1 17 ∧ I11 1 17 ≤ 12000 from gc_in hI11 R_1 rfl rfl)
      have f32 := (show 0 ≤ I11 t 6 ∧ I11 t 6 ≤ 24 from gc_in hI11 R_t rfl rfl)
      have f33 := (show 0 ≤ I11 1 18 ∧ I11 1 18 ≤ 1 from gc_in hI11 R_1 rfl rfl)
      have f34 := (show 0 ≤ I11 39 5 ∧ I11 39 5 ≤ 1000 from gc_in hI11 R_39 rfl rfl)
      have f35 := (show (-1) ≤ I11 39 2 ∧ I11 39 2 ≤ 999999 from gc_in hI11 R_39 rfl rfl)
      have t36 := gc_AT_l e1_13
      have L102 : ∀ (I37 : gr_I) (J38 : gr_J) (p_39 : Int), gc_Inv ro I37 → (∀ q j : Nat, ((q = 39 ∧ j = 3) ∨ (q = 39 ∧ j = 4) ∨ (q = 23 ∧ j = 5) ∨ (q = 23 ∧ j = 6) ∨ (q = 23 ∧ j = 7) ∨ (q = 23 ∧ j = 8) ∨ (q = 1 ∧ j = 17) ∨ (q = 1 ∧ j = 18) ∨ q = 20 ∨ q = 41 ∨ q = (t + 10) ∨ (q = t ∧ j = 6)) ∨ I37 q j = I q j) → (∀ q j : Nat, ((q = 23 ∧ j = 9)) ∨ J38 q j = J q j) → gc_LT I37 → gc_TK I37 → gc_sc (t + 10) I37 → gc_row 41 25 gc_fS I37 → gc_RC I37 → gc_PKs I I37 → ((0 ≤ p_39) ∧ (I37 41 5 = 0) ∧ (I37 41 6 = 0) ∧ (I37 1 18 = 0) ∧ (I37 t 6 = I t 6) ∧ (I37 23 7 = 3) ∧ (I37 23 1 = I 23 1) ∧ (I 23 5 ≤ I37 23 5) ∧ (B ≤ 1280 ∧ I37 1 17 + I37 23 1 ≤ B + I37 23 5) ∧ (I37 39 2 = (t : Int))) → (gc_AT β η p_39 23 I37 J38) → ((gs_snd β η Ir Jr (I 39 5) p9) = gs_snd3 β η Ir Jr (I 39 5) (gs_X β η p_39)) → (gs_itc I I37 t (I37 41) 0 (gs_ti β η Ir Jr p9)) → (p_39 = (gs_X β η (gs_X β η p9))) → ((I37 39 5 = I 39 5) ∧ (∀ k, I37 (t + 10) k = I (t + 10) k)) → gv_X (gc_E6 ws0 tb 5 (yX6_readSound, cX6_readSound, 1, (some .boolean)) kX6_readSound) (gv_Q cX6_readSound (some .boolean) sh (fun r h' => (∃ (I' : gr_I) (J' : gr_J), h' = gc_h sh I' J' A ∧ gc_Inv ro I' ∧ (∀ q j : Nat, ((q = 39 ∧ j = 3) ∨ (q = 39 ∧ j = 4) ∨ (q = 23 ∧ j = 5) ∨ (q = 23 ∧ j = 6) ∨ (q = 23 ∧ j = 7) ∨ (q = 23 ∧ j = 8) ∨ (q = 1 ∧ j = 17) ∨ (q = 1 ∧ j = 18) ∨ q = 20 ∨ q = 41 ∨ q = (t + 10) ∨ (q = t ∧ j = 6)) ∨ I' q j = I q j) ∧ (∀ q j : Nat, ((q = 23 ∧ j = 9)) ∨ J' q j = J q j) ∧ gc_LT I' ∧ gc_TK I' ∧ gc_sc (t + 10) I' ∧ (∃ z : Int, r = some (.inl z) ∧ 0 ≤ z ∧ z ≤ 1 ∧ (I' 23 1 = I 23 1) ∧ (I 23 5 ≤ I' 23 5) ∧ (B ≤ 1280 ∧ I' 1 17 + I' 23 1 ≤ B + I' 23 5) ∧ (gc_PKs I I') ∧ (gs_Or z (0 ≤ (gs_snd β η Ir Jr (I 39 5) p9) ∧ gc_AT β η (gs_snd β η Ir Jr (I 39 5) p9) 23 I' J' ∧ I' t 6 = I t 6 + 1 ∧ I' 1 18 = 0 ∧ gs_Csn β η Ir Jr I t p9 I' (I t 6)) ((gs_snd β η Ir Jr (I 39 5) p9) < 0 ∧ I' 39 4 = -1 - (gs_snd β η Ir Jr (I 39 5) p9) ∧ I' t 6 = I t 6 ∧ ∀ j, I' (t + 10) j = I (t + 10) j)))))) (102, [(0, .inr (.inr (some 39)))], [], sh, gc_h sh I37 J38 A) := d_X6_readSound_p_L102 (ws0 := ws0) (tb := tb) hws htb sh ro I J A hI t B β η p9 Ir Jr hb h_t G_t x0 x1 x2 x3 x4 x5 x6 x7 x8 KLT_I KTK_I KSC_I
      refine gv_run 2 true hD (pc' := 77) (lv' := [(0, .inr (.inr (some 39)))]) (st' := [.inl 0, .inr (.inr (some 39))]) (h' := gc_h sh I11 J12 A) (C := ((True ∧ True) ∧ True)) rfl ⟨⟨trivial, trivial⟩, trivial⟩ ?_
      obtain ⟨r326, h326, E326, P326⟩ := d_X6_readContext_p (ws0 := ws0) (tb := tb) hws htb sh ro I11 J12 A hI11  t B β η p_13 Ir Jr 0 hb  h_t G_t  ⟨by omega, by omega⟩ (by omega) (by omega) e1_13 (by omega) (by omega) (by have h9 := x5; have h8 := (show I11 (t + 7) 1 = I (t + 7) 1 from ((FI11 (t + 7) 1).resolve_left (by omega))); omega) (by rw [show I11 (t + 7) 1 = I (t + 7) 1 from ((FI11 (t + 7) 1).resolve_left (by omega)), show J12 (t + 8) = J (t + 8) from funext fun j => ((FJ12 (t + 8) j).resolve_left (by omega))]; exact x6) (gs_MA_fr x7 ((FI11 (t + 7) 1).resolve_left (by omega)) (fun k => ((FI11 (t + 9) k).resolve_left (by omega)))) (by omega) KLT_I11 KTK_I11 KRS_I11 KRC_I11
      obtain ⟨I327, J328, rfl, hI327, g326, k326, KLT_I327, KTK_I327, KRS_I327, KRC_I327, ⟨z326, rfl, q326⟩⟩ := P326
      have FI327 := gc_frc (W := fun q j => (q = 39 ∧ j = 3) ∨ (q = 39 ∧ j = 4) ∨ (q = 23 ∧ j = 5) ∨ (q = 23 ∧ j = 6) ∨ (q = 23 ∧ j = 7) ∨ (q = 23 ∧ j = 8) ∨ (q = 1 ∧ j = 17) ∨ (q = 1 ∧ j = 18) ∨ q = 20 ∨ q = 41 ∨ q = (t + 10) ∨ (q = t ∧ j = 6)) (V := fun q j => (q = 39 ∧ j = 3) ∨ (q = 39 ∧ j = 4) ∨ (q = 23 ∧ j = 5) ∨ (q = 23 ∧ j = 6) ∨ (q = 23 ∧ j = 7) ∨ (q = 23 ∧ j = 8) ∨ (q = 1 ∧ j = 17) ∨ (q = 1 ∧ j = 18) ∨ q = 20 ∨ (q = 41 ∧ j = (Int.toNat 0)) ∨ (q = 41 ∧ j = (Int.toNat (0 + 1))) ∨ (q = 41 ∧ j = (Int.toNat (0 + 2)))) FI11 (fun q j h => (h.elim (fun h => (Or.inl h)) (fun h => (h.elim (fun h => (Or.inr (Or.inl h))) (fun h => (h.elim (fun h => (Or.inr (Or.inr (Or.inl h)))) (fun h => (h.elim (fun h => (Or.inr (Or.inr (Or.inr (Or.inl h))))) (fun h => (h.elim (fun h => (Or.inr (Or.inr (Or.inr (Or.inr (Or.inl h)))))) (fun h => (h.elim (fun h => (Or.inr (Or.inr (Or.inr (Or.inr (Or.inr (Or.inl h))))))) (fun h => (h.elim (fun h => (Or.inr (Or.inr (Or.inr (Or.inr (Or.inr (Or.inr (Or.inl h)))))))) (fun h => (h.elim (fun h => (Or.inr (Or.inr (Or.inr (Or.inr (Or.inr (Or.inr (Or.inr (Or.inl h))))))))) (fun h => (h.elim (fun h => (Or.inr (Or.inr (Or.inr (Or.inr (Or.inr (Or.inr (Or.inr (Or.inr (Or.inl h)))))))))) (fun h => (h.elim (fun h => (Or.inr (Or.inr (Or.inr (Or.inr (Or.inr (Or.inr (Or.inr (Or.inr (Or.inr (Or.inl h.1))))))))))) (fun h => (h.elim (fun h => (Or.inr (Or.inr (Or.inr (Or.inr (Or.inr (Or.inr (Or.inr (Or.inr (Or.inr (Or.inl h.1))))))))))) (fun h => (Or.inr (Or.inr (Or.inr (Or.inr (Or.inr (Or.inr (Or.inr (Or.inr (Or.inr (Or.inl h.1))))))))))))))))))))))))))))))))) g326
      have FJ328 := gc_frc (W := fun q j => (q = 23 ∧ j = 9)) (V := fun q j => (q = 23 ∧ j = 9)) FJ12 (fun q j h => h) k326
      have t329 := (g326 23 1).resolve_left (fun h => h.elim (fun h => absurd h.2 (by decide)) (fun h => h.elim (fun h => absurd h.2 (by decide)) (fun h => h.elim (fun h => absurd h.2 (by decide)) (fun h => h.elim (fun h => absurd h.2 (by decide)) (fun h => h.elim (fun h => absurd h.2 (by decide)) (fun h => h.elim (fun h => absurd h.2 (by decide)) (fun h => h.elim (fun h => absurd h.2 (by decide)) (fun h => h.elim (fun h => absurd h.2 (by decide)) (fun h => h.elim (fun h => absurd h (by decide)) (fun h => h.elim (fun h => absurd h.1 (by decide)) (fun h => h.elim (fun h => absurd h.1 (by decide)) (fun h => absurd h.1 (by decide)))))))))))))
      have t330 := (g326 t 6).resolve_left (fun h => h.elim (fun h => absurd h.2 (by decide)) (fun h => h.elim (fun h => absurd h.2 (by decide)) (fun h => h.elim (fun h => absurd h.2 (by decide)) (fun h => h.elim (fun h => absurd h.1 N_t__23) (fun h => h.elim (fun h => absurd h.2 (by decide)) (fun h => h.elim (fun h => absurd h.2 (by decide)) (fun h => h.elim (fun h => absurd h.2 (by decide)) (fun h => h.elim (fun h => absurd h.2 (by decide)) (fun h => h.elim (fun h => absurd h N_t__20) (fun h => h.elim (fun h => absurd h.1 N_t__41) (fun h => h.elim (fun h => absurd h.1 N_t__41) (fun h => absurd h.1 N_t__41))))))))))))
      have t331 := (g326 39 5).resolve_left (fun h => h.elim (fun h => absurd h.2 (by decide)) (fun h => h.elim (fun h => absurd h.2 (by decide)) (fun h => h.elim (fun h => absurd h.1 (by decide)) (fun h => h.elim (fun h => absurd h.2 (by decide)) (fun h => h.elim (fun h => absurd h.2 (by decide)) (fun h => h.elim (fun h => absurd h.2 (by decide)) (fun h => h.elim (fun h => absurd h.2 (by decide)) (fun h => h.elim (fun h => absurd h.2 (by decide)) (fun h => h.elim (fun h => absurd h (by decide)) (fun h => h.elim (fun h => absurd h.1 (by decide)) (fun h => h.elim (fun h => absurd h.1 (by decide)) (fun h => absurd h.1 (by decide)))))))))))))
      have t332 := (g326 39 2).resolve_left (fun h => h.elim (fun h => absurd h.2 (by decide)) (fun h => h.elim (fun h => absurd h.2 (by decide)) (fun h => h.elim (fun h => absurd h.2 (by decide)) (fun h => h.elim (fun h => absurd h.2 (by decide)) (fun h => h.elim (fun h => absurd h.2 (by decide)) (fun h => h.elim (fun h => absurd h.2 (by decide)) (fun h => h.elim (fun h => absurd h.2 (by decide)) (fun h => h.elim (fun h => absurd h.2 (by decide)) (fun h => h.elim (fun h => absurd h (by decide)) (fun h => h.elim (fun h => absurd h.1 (by decide)) (fun h => h.elim (fun h => absurd h.1 (by decide)) (fun h => absurd h.1 (by decide)))))))))))))
      have t333 := (g326 41 5).resolve_left (by omega)
      have t334 := (g326 41 6).resolve_left (by omega)
      have f335 := (show 0 ≤ I327 23 5 ∧ I327 23 5 ≤ 1000 from gc_in hI327 R_23 rfl rfl)
      have f336 := (show 0 ≤ I327 23 6 ∧ I327 23 6 ≤ 1001 from gc_in hI327 R_23 rfl rfl)
      have f337 := (show 0 ≤ I327 23 7 ∧ I327 23 7 ≤ 125 from gc_in hI327 R_23 rfl rfl)
      have f338 := (show 0 ≤ I327 1 17 ∧ I327 1 17 ≤ 12000 from gc_in hI327 R_1 rfl rfl)
      have f339 := (show 0 ≤ I327 1 18 ∧ I327 1 18 ≤ 1 from gc_in hI327 R_1 rfl rfl)
      have t340 := gc_TK_mo KTK_I327
      have KSC_I327 := gc_sc_fr KSC_I11 (fun k => (g326 (t + 10) k).resolve_left (fun h => h.elim (fun h => absurd h.1 N_t_10__39) (fun h => h.elim (fun h => absurd h.1 N_t_10__39) (fun h => h.elim (fun h => absurd h.1 N_t_10__23) (fun h => h.elim (fun h => absurd h.1 N_t_10__23) (fun h => h.elim (fun h => absurd h.1 N_t_10__23) (fun h => h.elim (fun h => absurd h.1 N_t_10__23) (fun h => h.elim (fun h => absurd h.1 N_t_10__1) (fun h => h.elim (fun h => absurd h.1 N_t_10__1) (fun h => h.elim (fun h => absurd h N_t_10__20) (fun h => h.elim (fun h => absurd h.1 N_t_10__41) (fun h => h.elim (fun h => absurd h.1 N_t_10__41) (fun h => absurd h.1 N_t_10__41)))))))))))))
      have l326 := q326.2.2.2.2.2.1
      have KPK_I327 := gc_PKs_tr KPK_I11 l326
      refine gv_callV hD rfl (As := [.inl 0]) (st := []) rfl B_39 S_39 rfl (gc_lV6 hws rfl) (Nat.le_of_ble_eq_true rfl) (gz_Ev_mono (d := 4) (by decide) E326) ?_
      show gv_X _ _ (80, [(0, .inr (.inr (some 39)))], [.inl z326], sh, gc_h sh I327 J328 A)
      refine gv_if_eq (t := 100) hD rfl rfl ⟨by omega, by omega⟩ (fun c341 => ?_) (fun c341 => ?_)
      · show gv_X _ _ (100, [(0, .inr (.inr (some 39)))], [], sh, gc_h sh I327 J328 A)
        obtain ⟨u342, u342_⟩ := gs_or0 q326.2.2.2.2.2.2 (by omega)
        refine gv_run 1 true hD (pc' := 101) (lv' := [(0, .inr (.inr (some 39)))]) (st' := [.inl 0]) (h' := gc_h sh I327 J328 A) (C := (True ∧ True)) rfl ⟨trivial, trivial⟩ ?_
        exact gv_zret hD rfl (by omega) ⟨I327, J328, rfl, hI327, FI327, FJ328, KLT_I327, KTK_I327, KSC_I327, ⟨_, rfl, by omega, by omega, by omega, by omega, by omega, KPK_I327, (Or.inr ⟨by omega, by first | (exfalso; omega) | (rw [e2_25, gs_ctx_01 (by omega)]; unfold gs_snd1 gs_snd2; (repeat first | rw [if_pos (by omega)] | rw [if_neg (by omega)]); exact ⟨by omega, by omega, by omega, fun j => (((g326 (t + 10) j).resolve_left (by omega)).trans (e4_25.2 j))⟩)⟩)⟩⟩
      · show gv_X _ _ (83, [(0, .inr (.inr (some 39)))], [], sh, gc_h sh I327 J328 A)
        obtain ⟨u343, A343, U343⟩ := gs_or1 q326.2.2.2.2.2.2 (by omega)
        have t344 := gc_AT_l A343
        refine gv_run 2 true hD (pc' := 86) (lv' := [(0, .inr (.inr (some 39)))]) (st' := [.inl 62, .inr (.inr (some 39))]) (h' := gc_h sh I327 J328 A) (C := ((True ∧ True) ∧ True)) rfl ⟨⟨trivial, trivial⟩, trivial⟩ ?_
        obtain ⟨r345, h345, E345, P345⟩ := d_X6_take_p (ws0 := ws0) (tb := tb) hws htb sh ro I327 J328 A hI327  β η (gs_ctx β η Ir Jr 1 p_13) 62 hb   ⟨by omega, by omega⟩ (by omega) A343 (by omega) KLT_I327 KTK_I327
        obtain ⟨I346, J347, rfl, hI346, g345, k345, KLT_I346, KTK_I346, ⟨z345, rfl, q345⟩⟩ := P345
        have FI346 := gc_frc (W := fun q j => (q = 39 ∧ j = 3) ∨ (q = 39 ∧ j = 4) ∨ (q = 23 ∧ j = 5) ∨ (q = 23 ∧ j = 6) ∨ (q = 23 ∧ j = 7) ∨ (q = 23 ∧ j = 8) ∨ (q = 1 ∧ j = 17) ∨ (q = 1 ∧ j = 18) ∨ q = 20 ∨ q = 41 ∨ q = (t + 10) ∨ (q = t ∧ j = 6)) (V := fun q j => (q = 39 ∧ j = 3) ∨ (q = 39 ∧ j = 4) ∨ (q = 23 ∧ j = 5) ∨ (q = 23 ∧ j = 6) ∨ (q = 23 ∧ j = 7) ∨ (q = 23 ∧ j = 8)) FI327 (fun q j h => (h.elim (fun h => (Or.inl h)) (fun h => (h.elim (fun h => (Or.inr (Or.inl h))) (fun h => (h.elim (fun h => (Or.inr (Or.inr (Or.inl h)))) (fun h => (h.elim (fun h => (Or.inr (Or.inr (Or.inr (Or.inl h))))) (fun h => (h.elim (fun h => (Or.inr (Or.inr (Or.inr (Or.inr (Or.inl h)))))) (fun h => (Or.inr (Or.inr (Or.inr (Or.inr (Or.inr (Or.inl h))))))))))))))))) g345
        have FJ347 := gc_frc (W := fun q j => (q = 23 ∧ j = 9)) (V := fun q j => (q = 23 ∧ j = 9)) FJ328 (fun q j h => h) k345
        have t348 := (g345 23 1).resolve_left (fun h => h.elim (fun h => absurd h.2 (by decide)) (fun h => h.elim (fun h => absurd h.2 (by decide)) (fun h => h.elim (fun h => absurd h.2 (by decide)) (fun h => h.elim (fun h => absurd h.2 (by decide)) (fun h => h.elim (fun h => absurd h.2 (by decide)) (fun h => absurd h.2 (by decide)))))))
        have t349 := (g345 1 17).resolve_left (fun h => h.elim (fun h => absurd h.2 (by decide)) (fun h => h.elim (fun h => absurd h.2 (by decide)) (fun h => h.elim (fun h => absurd h.2 (by decide)) (fun h => h.elim (fun h => absurd h.2 (by decide)) (fun h => h.elim (fun h => absurd h.2 (by decide)) (fun h => absurd h.2 (by decide)))))))
        have t350 := (g345 t 6).resolve_left (fun h => h.elim (fun h => absurd h.2 (by decide)) (fun h => h.elim (fun h => absurd h.2 (by decide)) (fun h => h.elim (fun h => absurd h.2 (by decide)) (fun h => h.elim (fun h => absurd h.1 N_t__23) (fun h => h.elim (fun h => absurd h.2 (by decide)) (fun h => absurd h.2 (by decide)))))))
        have t351 := (g345 1 18).resolve_left (fun h => h.elim (fun h => absurd h.2 (by decide)) (fun h => h.elim (fun h => absurd h.2 (by decide)) (fun h => h.elim (fun h => absurd h.2 (by decide)) (fun h => h.elim (fun h => absurd h.2 (by decide)) (fun h => h.elim (fun h => absurd h.2 (by decide)) (fun h => absurd h.2 (by decide)))))))
        have t352 := (g345 39 5).resolve_left (fun h => h.elim (fun h => absurd h.2 (by decide)) (fun h => h.elim (fun h => absurd h.2 (by decide)) (fun h => h.elim (fun h => absurd h.1 (by decide)) (fun h => h.elim (fun h => absurd h.2 (by decide)) (fun h => h.elim (fun h => absurd h.2 (by decide)) (fun h => absurd h.2 (by decide)))))))
        have t353 := (g345 39 2).resolve_left (fun h => h.elim (fun h => absurd h.2 (by decide)) (fun h => h.elim (fun h => absurd h.2 (by decide)) (fun h => h.elim (fun h => absurd h.2 (by decide)) (fun h => h.elim (fun h => absurd h.2 (by decide)) (fun h => h.elim (fun h => absurd h.2 (by decide)) (fun h => absurd h.2 (by decide)))))))
        have t354 := (g345 41 5).resolve_left (fun h => h.elim (fun h => absurd h.2 (by decide)) (fun h => h.elim (fun h => absurd h.2 (by decide)) (fun h => h.elim (fun h => absurd h.1 (by decide)) (fun h => h.elim (fun h => absurd h.2 (by decide)) (fun h => h.elim (fun h => absurd h.2 (by decide)) (fun h => absurd h.2 (by decide)))))))
        have t355 := (g345 41 6).resolve_left (fun h => h.elim (fun h => absurd h.2 (by decide)) (fun h => h.elim (fun h => absurd h.2 (by decide)) (fun h => h.elim (fun h => absurd h.2 (by decide)) (fun h => h.elim (fun h => absurd h.1 (by decide)) (fun h => h.elim (fun h => absurd h.2 (by decide)) (fun h => absurd h.2 (by decide)))))))
        have f356 := (show 0 ≤ I346 23 5 ∧ I346 23 5 ≤ 1000 from gc_in hI346 R_23 rfl rfl)
        have f357 := (show 0 ≤ I346 23 6 ∧ I346 23 6 ≤ 1001 from gc_in hI346 R_23 rfl rfl)
        have f358 := (show 0 ≤ I346 23 7 ∧ I346 23 7 ≤ 125 from gc_in hI346 R_23 rfl rfl)
        have t359 := gc_TK_mo KTK_I346
        have KSC_I346 := gc_sc_fr KSC_I327 (fun k => (g345 (t + 10) k).resolve_left (fun h => h.elim (fun h => absurd h.1 N_t_10__39) (fun h => h.elim (fun h => absurd h.1 N_t_10__39) (fun h => h.elim (fun h => absurd h.1 N_t_10__23) (fun h => h.elim (fun h => absurd h.1 N_t_10__23) (fun h => h.elim (fun h => absurd h.1 N_t_10__23) (fun h => absurd h.1 N_t_10__23)))))))
        have KRS_I346 := gc_row_fr KRS_I327 (fun k => (g345 41 k).resolve_left (fun h => h.elim (fun h => absurd h.1 (by decide)) (fun h => h.elim (fun h => absurd h.1 (by decide)) (fun h => h.elim (fun h => absurd h.1 (by decide)) (fun h => h.elim (fun h => absurd h.1 (by decide)) (fun h => h.elim (fun h => absurd h.1 (by decide)) (fun h => absurd h.1 (by decide))))))))
        have KRC_I346 := gc_RC_fr KRC_I327 (fun k => (g345 41 k).resolve_left (fun h => h.elim (fun h => absurd h.1 (by decide)) (fun h => h.elim (fun h => absurd h.1 (by decide)) (fun h => h.elim (fun h => absurd h.1 (by decide)) (fun h => h.elim (fun h => absurd h.1 (by decide)) (fun h => h.elim (fun h => absurd h.1 (by decide)) (fun h => absurd h.1 (by decide))))))))
        have KPK_I346 := gc_PKs_fr KPK_I327 ((g345 1 17).resolve_left (fun h => h.elim (fun h => absurd h.2 (by decide)) (fun h => h.elim (fun h => absurd h.2 (by decide)) (fun h => h.elim (fun h => absurd h.2 (by decide)) (fun h => h.elim (fun h => absurd h.2 (by decide)) (fun h => h.elim (fun h => absurd h.2 (by decide)) (fun h => absurd h.2 (by decide)))))))) (fun k => (g345 20 k).resolve_left (fun h => h.elim (fun h => absurd h.1 (by decide)) (fun h => h.elim (fun h => absurd h.1 (by decide)) (fun h => h.elim (fun h => absurd h.1 (by decide)) (fun h => h.elim (fun h => absurd h.1 (by decide)) (fun h => h.elim (fun h => absurd h.1 (by decide)) (fun h => absurd h.1 (by decide))))))))
        refine gv_callV hD rfl (As := [.inl 62]) (st := []) rfl B_39 S_39 rfl (gc_lV6 hws rfl) (Nat.le_of_ble_eq_true rfl) (gz_Ev_mono (d := 3) (by decide) E345) ?_
        show gv_X _ _ (89, [(0, .inr (.inr (some 39)))], [.inl z345], sh, gc_h sh I346 J347 A)
        refine gv_if_eq (t := 100) hD rfl rfl ⟨by omega, by omega⟩ (fun c360 => ?_) (fun c360 => ?_)
        · show gv_X _ _ (100, [(0, .inr (.inr (some 39)))], [], sh, gc_h sh I346 J347 A)
          obtain ⟨u361, u361_⟩ := gs_or0 q345.2.2.2.2.2 (by omega)
          refine gv_run 1 true hD (pc' := 101) (lv' := [(0, .inr (.inr (some 39)))]) (st' := [.inl 0]) (h' := gc_h sh I346 J347 A) (C := (True ∧ True)) rfl ⟨trivial, trivial⟩ ?_
          exact gv_zret hD rfl (by omega) ⟨I346, J347, rfl, hI346, FI346, FJ347, KLT_I346, KTK_I346, KSC_I346, ⟨_, rfl, by omega, by omega, by omega, by omega, by omega, KPK_I346, (Or.inr ⟨by omega, by first | (exfalso; omega) | (rw [e2_25, gs_ctx_01 (by omega)]; unfold gs_snd1 gs_snd2; (repeat first | rw [if_pos (by omega)] | rw [if_neg (by omega)]); exact ⟨by omega, by omega, by omega, fun j => ((((g345 (t + 10) j).resolve_left (by omega)).trans ((g326 (t + 10) j).resolve_left (by omega))).trans (e4_25.2 j))⟩)⟩)⟩⟩
        · show gv_X _ _ (92, [(0, .inr (.inr (some 39)))], [], sh, gc_h sh I346 J347 A)
          obtain ⟨u362, A362⟩ := gs_or1 q345.2.2.2.2.2 (by omega)
          have t363 := gc_AT_l A362
          refine gv_run 2 true hD (pc' := 94) (lv' := [(0, .inr (.inr (some 39)))]) (st' := [.inl 3, .inr (.inr (some 39))]) (h' := gc_h sh I346 J347 A) (C := ((True ∧ True) ∧ True)) rfl ⟨⟨trivial, trivial⟩, trivial⟩ ?_
          obtain ⟨r364, h364, E364, P364⟩ := d_X6_need_p (ws0 := ws0) (tb := tb) hws htb sh ro I346 J347 A hI346  β η ((gs_need β η 62 (gs_ctx β η Ir Jr 1 p_13))) 3 hb   ⟨by omega, by omega⟩ A362 (by omega) 
          obtain ⟨I365, J366, rfl, hI365, g364, k364, ⟨z364, rfl, q364⟩⟩ := P364
          have FI365 := gc_frc (W := fun q j => (q = 39 ∧ j = 3) ∨ (q = 39 ∧ j = 4) ∨ (q = 23 ∧ j = 5) ∨ (q = 23 ∧ j = 6) ∨ (q = 23 ∧ j = 7) ∨ (q = 23 ∧ j = 8) ∨ (q = 1 ∧ j = 17) ∨ (q = 1 ∧ j = 18) ∨ q = 20 ∨ q = 41 ∨ q = (t + 10) ∨ (q = t ∧ j = 6)) (V := fun q j => (q = 39 ∧ j = 3) ∨ (q = 39 ∧ j = 4)) FI346 (fun q j h => (h.elim (fun h => (Or.inl h)) (fun h => (Or.inr (Or.inl h))))) g364
          have t367 := (g364 23 1).resolve_left (fun h => h.elim (fun h => absurd h.2 (by decide)) (fun h => absurd h.2 (by decide)))
          have t368 := (g364 23 5).resolve_left (fun h => h.elim (fun h => absurd h.2 (by decide)) (fun h => absurd h.2 (by decide)))
          have t369 := (g364 23 6).resolve_left (fun h => h.elim (fun h => absurd h.2 (by decide)) (fun h => absurd h.2 (by decide)))
          have t370 := (g364 23 7).resolve_left (fun h => h.elim (fun h => absurd h.2 (by decide)) (fun h => absurd h.2 (by decide)))
          have t371 := (g364 1 17).resolve_left (fun h => h.elim (fun h => absurd h.2 (by decide)) (fun h => absurd h.2 (by decide)))
          have t372 := (g364 t 6).resolve_left (fun h => h.elim (fun h => absurd h.2 (by decide)) (fun h => absurd h.2 (by decide)))
          have t373 := (g364 1 18).resolve_left (fun h => h.elim (fun h => absurd h.2 (by decide)) (fun h => absurd h.2 (by decide)))
          have t374 := (g364 39 5).resolve_left (fun h => h.elim (fun h => absurd h.2 (by decide)) (fun h => absurd h.2 (by decide)))
          have t375 := (g364 39 2).resolve_left (fun h => h.elim (fun h => absurd h.2 (by decide)) (fun h => absurd h.2 (by decide)))
          have t376 := (g364 41 5).resolve_left (fun h => h.elim (fun h => absurd h.2 (by decide)) (fun h => absurd h.2 (by decide)))
          have t377 := (g364 41 6).resolve_left (fun h => h.elim (fun h => absurd h.2 (by decide)) (fun h => absurd h.2 (by decide)))
          obtain rfl : J347 = J366 := funext fun q => funext fun j => ((k364 q j).resolve_left id).symm
          have KLT_I365 := gc_LT_fr KLT_I346 ((g364 23 5).resolve_left (fun h => h.elim (fun h => absurd h.2 (by decide)) (fun h => absurd h.2 (by decide)))) ((g364 23 6).resolve_left (fun h => h.elim (fun h => absurd h.2 (by decide)) (fun h => absurd h.2 (by decide)))) ((g364 23 7).resolve_left (fun h => h.elim (fun h => absurd h.2 (by decide)) (fun h => absurd h.2 (by decide)))) (fun k => (g364 24 k).resolve_left (fun h => h.elim (fun h => absurd h.1 (by decide)) (fun h => absurd h.1 (by decide))))
          have KTK_I365 := gc_TK_fr KTK_I346 ((g364 23 1).resolve_left (fun h => h.elim (fun h => absurd h.2 (by decide)) (fun h => absurd h.2 (by decide)))) ((g364 23 5).resolve_left (fun h => h.elim (fun h => absurd h.2 (by decide)) (fun h => absurd h.2 (by decide)))) ((g364 23 6).resolve_left (fun h => h.elim (fun h => absurd h.2 (by decide)) (fun h => absurd h.2 (by decide)))) ((g364 23 7).resolve_left (fun h => h.elim (fun h => absurd h.2 (by decide)) (fun h => absurd h.2 (by decide))))
          have KSC_I365 := gc_sc_fr KSC_I346 (fun k => (g364 (t + 10) k).resolve_left (fun h => h.elim (fun h => absurd h.1 N_t_10__39) (fun h => absurd h.1 N_t_10__39)))
          have KRS_I365 := gc_row_fr KRS_I346 (fun k => (g364 41 k).resolve_left (fun h => h.elim (fun h => absurd h.1 (by decide)) (fun h => absurd h.1 (by decide))))
          have KRC_I365 := gc_RC_fr KRC_I346 (fun k => (g364 41 k).resolve_left (fun h => h.elim (fun h => absurd h.1 (by decide)) (fun h => absurd h.1 (by decide))))
          have KPK_I365 := gc_PKs_fr KPK_I346 ((g364 1 17).resolve_left (fun h => h.elim (fun h => absurd h.2 (by decide)) (fun h => absurd h.2 (by decide)))) (fun k => (g364 20 k).resolve_left (fun h => h.elim (fun h => absurd h.1 (by decide)) (fun h => absurd h.1 (by decide))))
          have A378 := gc_AT_I A362 ((g364 23 1).resolve_left (fun h => h.elim (fun h => absurd h.2 (by decide)) (fun h => absurd h.2 (by decide)))) ((g364 23 5).resolve_left (fun h => h.elim (fun h => absurd h.2 (by decide)) (fun h => absurd h.2 (by decide)))) ((g364 23 6).resolve_left (fun h => h.elim (fun h => absurd h.2 (by decide)) (fun h => absurd h.2 (by decide)))) ((g364 23 7).resolve_left (fun h => h.elim (fun h => absurd h.2 (by decide)) (fun h => absurd h.2 (by decide)))) ((g364 23 8).resolve_left (fun h => h.elim (fun h => absurd h.2 (by decide)) (fun h => absurd h.2 (by decide)))) (fun k => (g364 24 k).resolve_left (fun h => h.elim (fun h => absurd h.1 (by decide)) (fun h => absurd h.1 (by decide))))
          have t379 := gc_AT_l A378
          refine gv_callV hD rfl (As := [.inl 3]) (st := []) rfl B_39 S_39 rfl (gc_lV6 hws rfl) (Nat.le_of_ble_eq_true rfl) (gz_Ev_mono (d := 2) (by decide) E364) ?_
          show gv_X _ _ (97, [(0, .inr (.inr (some 39)))], [.inl z364], sh, gc_h sh I365 J347 A)
          refine gv_if_ne (t := 102) hD rfl rfl ⟨by omega, by omega⟩ (fun c380 => ?_) (fun c380 => ?_)
          · show gv_X _ _ (102, [(0, .inr (.inr (some 39)))], [], sh, gc_h sh I365 J347 A)
            have u381 := gs_or1 q364.2.2.2 (by omega)
            exact L102 I365 J347 ((gs_need β η 62 (gs_ctx β η Ir Jr 1 p_13))) hI365 FI365 FJ347 KLT_I365 KTK_I365 KSC_I365 KRS_I365 KRC_I365 KPK_I365 (by omega) A378 (by rw [e2_25, gs_ctx_01 (by omega)]; unfold gs_snd1 gs_snd2; (repeat first | rw [if_pos (by omega)] | rw [if_neg (by omega)])) (by rw [← e3_25]; exact gs_itc_eq (gs_itc_kp U343.2 (gc_PKs_fr (gc_PKs_fr gc_PKs_rf ((g345 1 17).resolve_left (by omega)) (fun k => ((g345 20 k).resolve_left (by omega)))) ((g364 1 17).resolve_left (by omega)) (fun k => ((g364 20 k).resolve_left (by omega)))) (((g364 41 0).resolve_left (by omega)).trans ((g345 41 0).resolve_left (by omega))) (((g364 41 1).resolve_left (by omega)).trans ((g345 41 1).resolve_left (by omega))) (((g364 41 2).resolve_left (by omega)).trans ((g345 41 2).resolve_left (by omega)))) (fun k => ((FI11 (t + 9) k).resolve_left (by omega))) ((FI11 (t + 7) 1).resolve_left (by omega))) (by rw [← e3_25]; exact (gs_need_x (by omega) (by omega)).trans (congrArg (gs_X β η) (gs_ctx_x (by omega) (by omega)))) ⟨((((((g364 39 5).resolve_left (by omega)).trans ((g345 39 5).resolve_left (by omega))).trans ((g326 39 5).resolve_left (by omega))).trans (e4_25.1))), (fun k => (((((g364 (t + 10) k).resolve_left (by omega)).trans ((g345 (t + 10) k).resolve_left (by omega))).trans ((g326 (t + 10) k).resolve_left (by omega))).trans (e4_25.2 k)))⟩
          · show gv_X _ _ (100, [(0, .inr (.inr (some 39)))], [], sh, gc_h sh I365 J347 A)
            have u382 := gs_or0 q364.2.2.2 (by omega)
            refine gv_run 1 true hD (pc' := 101) (lv' := [(0, .inr (.inr (some 39)))]) (st' := [.inl 0]) (h' := gc_h sh I365 J347 A) (C := (True ∧ True)) rfl ⟨trivial, trivial⟩ ?_
            exact gv_zret hD rfl (by omega) ⟨I365, J347, rfl, hI365, FI365, FJ347, KLT_I365, KTK_I365, KSC_I365, ⟨_, rfl, by omega, by omega, by omega, by omega, by omega, KPK_I365, (Or.inr ⟨by omega, by first | (exfalso; omega) | (rw [e2_25, gs_ctx_01 (by omega)]; unfold gs_snd1 gs_snd2; (repeat first | rw [if_pos (by omega)] | rw [if_neg (by omega)]); exact ⟨by omega, by omega, by omega, fun j => (((((g364 (t + 10) j).resolve_left (by omega)).trans ((g345 (t + 10) j).resolve_left (by omega))).trans ((g326 (t + 10) j).resolve_left (by omega))).trans (e4_25.2 j))⟩)⟩)⟩⟩
    refine gv_run 1 true hD (pc' := 30) (lv' := [(0, .inr (.inr (some 39)))]) (st' := [.inr (.inr (some 39))]) (h' := gc_h sh I11 J12 A) (C := (True ∧ True)) rfl ⟨trivial, trivial⟩ ?_
    refine gv_get hD rfl rfl S_39 ⟨by decide, B_39⟩ (gc_hA S_39 rfl A_39_1) ?_
    show gv_X _ _ (33, [(0, .inr (.inr (some 39)))], [.inr (.inr (some 23))], sh, gc_h sh I11 J12 A)
    have f383 := (show 0 ≤ I11 23 7 ∧ I11 23 7 ≤ 125 from gc_in hI11 R_23 rfl rfl)
    refine gv_get hD rfl rfl S_23 ⟨by decide, B_23⟩ (gc_hI S_23 rfl) ?_
    show gv_X _ _ (36, [(0, .inr (.inr (some 39)))], [.inl (I11 23 7)], sh, gc_h sh I11 J12 A)
    refine gv_run 1 true hD (pc' := 37) (lv' := [(0, .inr (.inr (some 39)))]) (st' := [.inl 3, .inl (I11 23 7)]) (h' := gc_h sh I11 J12 A) (C := (True ∧ True)) rfl ⟨trivial, trivial⟩ ?_
    refine gv_icmp_ne (t := 75) hD rfl rfl ⟨⟨by omega, by omega⟩, ⟨by omega, by omega⟩⟩ (fun c384 => ?_) (fun c384 => ?_)
    · show gv_X _ _ (75, [(0, .inr (.inr (some 39)))], [], sh, gc_h sh I11 J12 A)
      exact L75 (by omega) e1_13 (by have h8 := e2_13; rw [h8]; exact if_neg (by rw [← h8]; omega)) e2_13 ⟨((e3_13.1)), (fun k => (e3_13.2 k))⟩
    · show gv_X _ _ (40, [(0, .inr (.inr (some 39)))], [], sh, gc_h sh I11 J12 A)
      refine gv_run 1 true hD (pc' := 41) (lv' := [(0, .inr (.inr (some 39)))]) (st' := [.inr (.inr (some 39))]) (h' := gc_h sh I11 J12 A) (C := (True ∧ True)) rfl ⟨trivial, trivial⟩ ?_
      refine gv_get hD rfl rfl S_39 ⟨by decide, B_39⟩ (gc_hA S_39 rfl A_39_1) ?_
      show gv_X _ _ (44, [(0, .inr (.inr (some 39)))], [.inr (.inr (some 23))], sh, gc_h sh I11 J12 A)
      have t386 := gc_TK_l3 KTK_I11 (by omega)
      obtain ⟨r385, h385, E385, P385⟩ := d_X9_lettersSize (ws0 := ws0) (tb := tb) hws htb sh ro I11 J12 A hI11 23  (gc_b23 hb)     
      obtain ⟨rfl, ⟨z385, rfl, q385⟩⟩ := P385
      refine gv_callV hD rfl (As := []) (st := []) rfl B_23 S_23 rfl (gc_lV6 hws rfl) (Nat.le_of_ble_eq_true rfl) (gz_Ev_mono (d := 1) (by decide) E385) ?_
      show gv_X _ _ (47, [(0, .inr (.inr (some 39)))], [.inl z385], sh, gc_h sh I11 J12 A)
      refine gv_run 1 true hD (pc' := 48) (lv' := [(0, .inr (.inr (some 39)))]) (st' := [.inl 1, .inl z385]) (h' := gc_h sh I11 J12 A) (C := (True ∧ True)) rfl ⟨trivial, trivial⟩ ?_
      refine gv_icmp_lt (t := 62) hD rfl rfl ⟨⟨by omega, by omega⟩, ⟨by omega, by omega⟩⟩ (fun c387 => ?_) (fun c387 => ?_)
      · show gv_X _ _ (62, [(0, .inr (.inr (some 39)))], [], sh, gc_h sh I11 J12 A)
        refine gv_run 3 true hD (pc' := 65) (lv' := [(0, .inr (.inr (some 39)))]) (st' := [.inr (.inr (some 39)), .inl 5, .inr (.inr (some 39))]) (h' := gc_h sh I11 J12 A) (C := (((True ∧ True) ∧ True) ∧ True)) rfl ⟨⟨⟨trivial, trivial⟩, trivial⟩, trivial⟩ ?_
        refine gv_get hD rfl rfl S_39 ⟨by decide, B_39⟩ (gc_hA S_39 rfl A_39_1) ?_
        show gv_X _ _ (68, [(0, .inr (.inr (some 39)))], [.inr (.inr (some 23)), .inl 5, .inr (.inr (some 39))], sh, gc_h sh I11 J12 A)
        have f388 := (show 0 ≤ I11 23 5 ∧ I11 23 5 ≤ 1000 from gc_in hI11 R_23 rfl rfl)
        refine gv_get hD rfl rfl S_23 ⟨by decide, B_23⟩ (gc_hI S_23 rfl) ?_
        show gv_X _ _ (71, [(0, .inr (.inr (some 39)))], [.inl (I11 23 5), .inl 5, .inr (.inr (some 39))], sh, gc_h sh I11 J12 A)
        obtain ⟨r389, h389, E389, P389⟩ := d_X6_wrong_p (ws0 := ws0) (tb := tb) hws htb sh ro I11 J12 A hI11  5 (I11 23 5) hb   ⟨by omega, by omega⟩ ⟨by omega, by omega⟩  
        obtain ⟨I390, J391, rfl, hI390, g389, k389, ⟨z389, rfl, q389⟩⟩ := P389
        have FI390 := gc_frc (W := fun q j => (q = 39 ∧ j = 3) ∨ (q = 39 ∧ j = 4) ∨ (q = 23 ∧ j = 5) ∨ (q = 23 ∧ j = 6) ∨ (q = 23 ∧ j = 7) ∨ (q = 23 ∧ j = 8) ∨ (q = 1 ∧ j = 17) ∨ (q = 1 ∧ j = 18) ∨ q = 20 ∨ q = 41 ∨ q = (t + 10) ∨ (q = t ∧ j = 6)) (V := fun q j => (q = 39 ∧ j = 3) ∨ (q = 39 ∧ j = 4)) FI11 (fun q j h => (h.elim (fun h => (Or.inl h)) (fun h => (Or.inr (Or.inl h))))) g389
        have t392 := (g389 23 1).resolve_left (fun h => h.elim (fun h => absurd h.2 (by decide)) (fun h => absurd h.2 (by decide)))
        have t393 := (g389 23 5).resolve_left (fun h => h.elim (fun h => absurd h.2 (by decide)) (fun h => absurd h.2 (by decide)))
        have t394 := (g389 23 6).resolve_left (fun h => h.elim (fun h => absurd h.2 (by decide)) (fun h => absurd h.2 (by decide)))
        have t395 := (g389 23 7).resolve_left (fun h => h.elim (fun h => absurd h.2 (by decide)) (fun h => absurd h.2 (by decide)))
        have t396 := (g389 1 17).resolve_left (fun h => h.elim (fun h => absurd h.2 (by decide)) (fun h => absurd h.2 (by decide)))
        have t397 := (g389 t 6).resolve_left (fun h => h.elim (fun h => absurd h.2 (by decide)) (fun h => absurd h.2 (by decide)))
        have t398 := (g389 1 18).resolve_left (fun h => h.elim (fun h => absurd h.2 (by decide)) (fun h => absurd h.2 (by decide)))
        have t399 := (g389 39 5).resolve_left (fun h => h.elim (fun h => absurd h.2 (by decide)) (fun h => absurd h.2 (by decide)))
        have t400 := (g389 39 2).resolve_left (fun h => h.elim (fun h => absurd h.2 (by decide)) (fun h => absurd h.2 (by decide)))
        have t401 := (g389 41 5).resolve_left (fun h => h.elim (fun h => absurd h.2 (by decide)) (fun h => absurd h.2 (by decide)))
        have t402 := (g389 41 6).resolve_left (fun h => h.elim (fun h => absurd h.2 (by decide)) (fun h => absurd h.2 (by decide)))
        obtain rfl : J12 = J391 := funext fun q => funext fun j => ((k389 q j).resolve_left id).symm
        have KLT_I390 := gc_LT_fr KLT_I11 ((g389 23 5).resolve_left (fun h => h.elim (fun h => absurd h.2 (by decide)) (fun h => absurd h.2 (by decide)))) ((g389 23 6).resolve_left (fun h => h.elim (fun h => absurd h.2 (by decide)) (fun h => absurd h.2 (by decide)))) ((g389 23 7).resolve_left (fun h => h.elim (fun h => absurd h.2 (by decide)) (fun h => absurd h.2 (by decide)))) (fun k => (g389 24 k).resolve_left (fun h => h.elim (fun h => absurd h.1 (by decide)) (fun h => absurd h.1 (by decide))))
        have KTK_I390 := gc_TK_fr KTK_I11 ((g389 23 1).resolve_left (fun h => h.elim (fun h => absurd h.2 (by decide)) (fun h => absurd h.2 (by decide)))) ((g389 23 5).resolve_left (fun h => h.elim (fun h => absurd h.2 (by decide)) (fun h => absurd h.2 (by decide)))) ((g389 23 6).resolve_left (fun h => h.elim (fun h => absurd h.2 (by decide)) (fun h => absurd h.2 (by decide)))) ((g389 23 7).resolve_left (fun h => h.elim (fun h => absurd h.2 (by decide)) (fun h => absurd h.2 (by decide))))
        have KSC_I390 := gc_sc_fr KSC_I11 (fun k => (g389 (t + 10) k).resolve_left (fun h => h.elim (fun h => absurd h.1 N_t_10__39) (fun h => absurd h.1 N_t_10__39)))
        have KRS_I390 := gc_row_fr KRS_I11 (fun k => (g389 41 k).resolve_left (fun h => h.elim (fun h => absurd h.1 (by decide)) (fun h => absurd h.1 (by decide))))
        have KRC_I390 := gc_RC_fr KRC_I11 (fun k => (g389 41 k).resolve_left (fun h => h.elim (fun h => absurd h.1 (by decide)) (fun h => absurd h.1 (by decide))))
        have KPK_I390 := gc_PKs_fr KPK_I11 ((g389 1 17).resolve_left (fun h => h.elim (fun h => absurd h.2 (by decide)) (fun h => absurd h.2 (by decide)))) (fun k => (g389 20 k).resolve_left (fun h => h.elim (fun h => absurd h.1 (by decide)) (fun h => absurd h.1 (by decide))))
        have A403 := gc_AT_I e1_13 ((g389 23 1).resolve_left (fun h => h.elim (fun h => absurd h.2 (by decide)) (fun h => absurd h.2 (by decide)))) ((g389 23 5).resolve_left (fun h => h.elim (fun h => absurd h.2 (by decide)) (fun h => absurd h.2 (by decide)))) ((g389 23 6).resolve_left (fun h => h.elim (fun h => absurd h.2 (by decide)) (fun h => absurd h.2 (by decide)))) ((g389 23 7).resolve_left (fun h => h.elim (fun h => absurd h.2 (by decide)) (fun h => absurd h.2 (by decide)))) ((g389 23 8).resolve_left (fun h => h.elim (fun h => absurd h.2 (by decide)) (fun h => absurd h.2 (by decide)))) (fun k => (g389 24 k).resolve_left (fun h => h.elim (fun h => absurd h.1 (by decide)) (fun h => absurd h.1 (by decide))))
        have t404 := gc_AT_l A403
        refine gv_callV hD rfl (As := [.inl 5, .inl (I11 23 5)]) (st := []) rfl B_39 S_39 rfl (gc_lV6 hws rfl) (Nat.le_of_ble_eq_true rfl) (gz_Ev_mono (d := 1) (by decide) E389) ?_
        show gv_X _ _ (74, [(0, .inr (.inr (some 39)))], [.inl z389], sh, gc_h sh I390 J12 A)
        exact gv_zret hD rfl (by omega) ⟨I390, J12, rfl, hI390, FI390, FJ12, KLT_I390, KTK_I390, KSC_I390, ⟨_, rfl, by omega, by omega, by omega, by omega, by omega, KPK_I390, (Or.inr ⟨by omega, by have h8 := e2_13; rw [show (gs_snd β η Ir Jr (I 39 5) p9) = _ from if_pos (by rw [← h8]; omega)]; exact ⟨by rw [← h8]; omega, by rw [← h8]; omega, by omega, fun j => (((g389 (t + 10) j).resolve_left (by omega)).trans (e3_13.2 j))⟩⟩)⟩⟩
      · show gv_X _ _ (51, [(0, .inr (.inr (some 39)))], [], sh, gc_h sh I11 J12 A)
        refine gv_run 1 true hD (pc' := 52) (lv' := [(0, .inr (.inr (some 39)))]) (st' := [.inr (.inr (some 39))]) (h' := gc_h sh I11 J12 A) (C := (True ∧ True)) rfl ⟨trivial, trivial⟩ ?_
        refine gv_get hD rfl rfl S_39 ⟨by decide, B_39⟩ (gc_hA S_39 rfl A_39_1) ?_
        show gv_X _ _ (55, [(0, .inr (.inr (some 39)))], [.inr (.inr (some 23))], sh, gc_h sh I11 J12 A)
        have t406 := gc_TK_l3 KTK_I11 (by omega)
        obtain ⟨r405, h405, E405, P405⟩ := d_X9_lettersSize (ws0 := ws0) (tb := tb) hws htb sh ro I11 J12 A hI11 23  (gc_b23 hb)     
        obtain ⟨rfl, ⟨z405, rfl, q405⟩⟩ := P405
        refine gv_callV hD rfl (As := []) (st := []) rfl B_23 S_23 rfl (gc_lV6 hws rfl) (Nat.le_of_ble_eq_true rfl) (gz_Ev_mono (d := 1) (by decide) E405) ?_
        show gv_X _ _ (58, [(0, .inr (.inr (some 39)))], [.inl z405], sh, gc_h sh I11 J12 A)
        refine gv_run 1 true hD (pc' := 59) (lv' := [(0, .inr (.inr (some 39)))]) (st' := [.inl 3, .inl z405]) (h' := gc_h sh I11 J12 A) (C := (True ∧ True)) rfl ⟨trivial, trivial⟩ ?_
        refine gv_icmp_le (t := 75) hD rfl rfl ⟨⟨by omega, by omega⟩, ⟨by omega, by omega⟩⟩ (fun c407 => ?_) (fun c407 => ?_)
        · show gv_X _ _ (75, [(0, .inr (.inr (some 39)))], [], sh, gc_h sh I11 J12 A)
          exact L75 (by omega) e1_13 (by have h8 := e2_13; rw [h8]; exact if_neg (by rw [← h8]; omega)) e2_13 ⟨((e3_13.1)), (fun k => (e3_13.2 k))⟩
        · show gv_X _ _ (62, [(0, .inr (.inr (some 39)))], [], sh, gc_h sh I11 J12 A)
          refine gv_run 3 true hD (pc' := 65) (lv' := [(0, .inr (.inr (some 39)))]) (st' := [.inr (.inr (some 39)), .inl 5, .inr (.inr (some 39))]) (h' := gc_h sh I11 J12 A) (C := (((True ∧ True) ∧ True) ∧ True)) rfl ⟨⟨⟨trivial, trivial⟩, trivial⟩, trivial⟩ ?_
          refine gv_get hD rfl rfl S_39 ⟨by decide, B_39⟩ (gc_hA S_39 rfl A_39_1) ?_
          show gv_X _ _ (68, [(0, .inr (.inr (some 39)))], [.inr (.inr (some 23)), .inl 5, .inr (.inr (some 39))], sh, gc_h sh I11 J12 A)
          have f408 := (show 0 ≤ I11 23 5 ∧ I11 23 5 ≤ 1000 from gc_in hI11 R_23 rfl rfl)
          refine gv_get hD rfl rfl S_23 ⟨by decide, B_23⟩ (gc_hI S_23 rfl) ?_
          show gv_X _ _ (71, [(0, .inr (.inr (some 39)))], [.inl (I11 23 5), .inl 5, .inr (.inr (some 39))], sh, gc_h sh I11 J12 A)
          obtain ⟨r409, h409, E409, P409⟩ := d_X6_wrong_p (ws0 := ws0) (tb := tb) hws htb sh ro I11 J12 A hI11  5 (I11 23 5) hb   ⟨by omega, by omega⟩ ⟨by omega, by omega⟩  
          obtain ⟨I410, J411, rfl, hI410, g409, k409, ⟨z409, rfl, q409⟩⟩ := P409
          have FI410 := gc_frc (W := fun q j => (q = 39 ∧ j = 3) ∨ (q = 39 ∧ j = 4) ∨ (q = 23 ∧ j = 5) ∨ (q = 23 ∧ j = 6) ∨ (q = 23 ∧ j = 7) ∨ (q = 23 ∧ j = 8) ∨ (q = 1 ∧ j = 17) ∨ (q = 1 ∧ j = 18) ∨ q = 20 ∨ q = 41 ∨ q = (t + 10) ∨ (q = t ∧ j = 6)) (V := fun q j => (q = 39 ∧ j = 3) ∨ (q = 39 ∧ j = 4)) FI11 (fun q j h => (h.elim (fun h => (Or.inl h)) (fun h => (Or.inr (Or.inl h))))) g409
          have t412 := (g409 23 1).resolve_left (fun h => h.elim (fun h => absurd h.2 (by decide)) (fun h => absurd h.2 (by decide)))
          have t413 := (g409 23 5).resolve_left (fun h => h.elim (fun h => absurd h.2 (by decide)) (fun h => absurd h.2 (by decide)))
          have t414 := (g409 23 6).resolve_left (fun h => h.elim (fun h => absurd h.2 (by decide)) (fun h => absurd h.2 (by decide)))
          have t415 := (g409 23 7).resolve_left (fun h => h.elim (fun h => absurd h.2 (by decide)) (fun h => absurd h.2 (by decide)))
          have t416 := (g409 1 17).resolve_left (fun h => h.elim (fun h => absurd h.2 (by decide)) (fun h => absurd h.2 (by decide)))
          have t417 := (g409 t 6).resolve_left (fun h => h.elim (fun h => absurd h.2 (by decide)) (fun h => absurd h.2 (by decide)))
          have t418 := (g409 1 18).resolve_left (fun h => h.elim (fun h => absurd h.2 (by decide)) (fun h => absurd h.2 (by decide)))
          have t419 := (g409 39 5).resolve_left (fun h => h.elim (fun h => absurd h.2 (by decide)) (fun h => absurd h.2 (by decide)))
          have t420 := (g409 39 2).resolve_left (fun h => h.elim (fun h => absurd h.2 (by decide)) (fun h => absurd h.2 (by decide)))
          have t421 := (g409 41 5).resolve_left (fun h => h.elim (fun h => absurd h.2 (by decide)) (fun h => absurd h.2 (by decide)))
          have t422 := (g409 41 6).resolve_left (fun h => h.elim (fun h => absurd h.2 (by decide)) (fun h => absurd h.2 (by decide)))
          obtain rfl : J12 = J411 := funext fun q => funext fun j => ((k409 q j).resolve_left id).symm
          have KLT_I410 := gc_LT_fr KLT_I11 ((g409 23 5).resolve_left (fun h => h.elim (fun h => absurd h.2 (by decide)) (fun h => absurd h.2 (by decide)))) ((g409 23 6).resolve_left (fun h => h.elim (fun h => absurd h.2 (by decide)) (fun h => absurd h.2 (by decide)))) ((g409 23 7).resolve_left (fun h => h.elim (fun h => absurd h.2 (by decide)) (fun h => absurd h.2 (by decide)))) (fun k => (g409 24 k).resolve_left (fun h => h.elim (fun h => absurd h.1 (by decide)) (fun h => absurd h.1 (by decide))))
          have KTK_I410 := gc_TK_fr KTK_I11 ((g409 23 1).resolve_left (fun h => h.elim (fun h => absurd h.2 (by decide)) (fun h => absurd h.2 (by decide)))) ((g409 23 5).resolve_left (fun h => h.elim (fun h => absurd h.2 (by decide)) (fun h => absurd h.2 (by decide)))) ((g409 23 6).resolve_left (fun h => h.elim (fun h => absurd h.2 (by decide)) (fun h => absurd h.2 (by decide)))) ((g409 23 7).resolve_left (fun h => h.elim (fun h => absurd h.2 (by decide)) (fun h => absurd h.2 (by decide))))
          have KSC_I410 := gc_sc_fr KSC_I11 (fun k => (g409 (t + 10) k).resolve_left (fun h => h.elim (fun h => absurd h.1 N_t_10__39) (fun h => absurd h.1 N_t_10__39)))
          have KRS_I410 := gc_row_fr KRS_I11 (fun k => (g409 41 k).resolve_left (fun h => h.elim (fun h => absurd h.1 (by decide)) (fun h => absurd h.1 (by decide))))
          have KRC_I410 := gc_RC_fr KRC_I11 (fun k => (g409 41 k).resolve_left (fun h => h.elim (fun h => absurd h.1 (by decide)) (fun h => absurd h.1 (by decide))))
          have KPK_I410 := gc_PKs_fr KPK_I11 ((g409 1 17).resolve_left (fun h => h.elim (fun h => absurd h.2 (by decide)) (fun h => absurd h.2 (by decide)))) (fun k => (g409 20 k).resolve_left (fun h => h.elim (fun h => absurd h.1 (by decide)) (fun h => absurd h.1 (by decide))))
          have A423 := gc_AT_I e1_13 ((g409 23 1).resolve_left (fun h => h.elim (fun h => absurd h.2 (by decide)) (fun h => absurd h.2 (by decide)))) ((g409 23 5).resolve_left (fun h => h.elim (fun h => absurd h.2 (by decide)) (fun h => absurd h.2 (by decide)))) ((g409 23 6).resolve_left (fun h => h.elim (fun h => absurd h.2 (by decide)) (fun h => absurd h.2 (by decide)))) ((g409 23 7).resolve_left (fun h => h.elim (fun h => absurd h.2 (by decide)) (fun h => absurd h.2 (by decide)))) ((g409 23 8).resolve_left (fun h => h.elim (fun h => absurd h.2 (by decide)) (fun h => absurd h.2 (by decide)))) (fun k => (g409 24 k).resolve_left (fun h => h.elim (fun h => absurd h.1 (by decide)) (fun h => absurd h.1 (by decide))))
          have t424 := gc_AT_l A423
          refine gv_callV hD rfl (As := [.inl 5, .inl (I11 23 5)]) (st := []) rfl B_39 S_39 rfl (gc_lV6 hws rfl) (Nat.le_of_ble_eq_true rfl) (gz_Ev_mono (d := 1) (by decide) E409) ?_
          show gv_X _ _ (74, [(0, .inr (.inr (some 39)))], [.inl z409], sh, gc_h sh I410 J12 A)
          exact gv_zret hD rfl (by omega) ⟨I410, J12, rfl, hI410, FI410, FJ12, KLT_I410, KTK_I410, KSC_I410, ⟨_, rfl, by omega, by omega, by omega, by omega, by omega, KPK_I410, (Or.inr ⟨by omega, by have h8 := e2_13; rw [show (gs_snd β η Ir Jr (I 39 5) p9) = _ from if_pos (by rw [← h8]; omega)]; exact ⟨by rw [← h8]; omega, by rw [← h8]; omega, by omega, fun j => (((g409 (t + 10) j).resolve_left (by omega)).trans (e3_13.2 j))⟩⟩)⟩⟩
  refine gv_run 1 true hD (pc' := 1) (lv' := [(0, .inr (.inr (some 39)))]) (st' := [.inr (.inr (some 39))]) (h' := gc_h sh I J A) (C := (True ∧ True)) rfl ⟨trivial, trivial⟩ ?_
  refine gv_get hD rfl rfl S_39 ⟨by decide, B_39⟩ (gc_hA S_39 rfl A_39_10) ?_
  show gv_X _ _ (4, [(0, .inr (.inr (some 39)))], [.inr (.inr (some 41))], sh, gc_h sh I J A)
  refine gv_run 1 true hD (pc' := 5) (lv' := [(0, .inr (.inr (some 39)))]) (st' := [.inl 0, .inr (.inr (some 41))]) (h' := gc_h sh I J A) (C := (True ∧ True)) rfl ⟨trivial, trivial⟩ ?_
  obtain ⟨I426, E425, hI426, g425, q425⟩ := gj_fill (ws0 := ws0) (tb := tb) sh ro I J A hI 41 25 0 S_41 B_41 (by decide) ⟨by omega, by omega⟩ (fun k => by rw [R_41]; exact ⟨by show (-2147483648) ≤ _; omega, by show _ ≤ 2147483647; omega⟩)
  refine gv_callS hD rfl (As := [.inr (.inr (some 41)), .inl 0]) (st := []) rfl (gc_lS6 hws rfl) (Nat.le_of_ble_eq_true rfl) (gz_Ev_mono (d := 1) (by decide) E425) ?_
  have FI426 := gc_frc (W := fun q j => (q = 39 ∧ j = 3) ∨ (q = 39 ∧ j = 4) ∨ (q = 23 ∧ j = 5) ∨ (q = 23 ∧ j = 6) ∨ (q = 23 ∧ j = 7) ∨ (q = 23 ∧ j = 8) ∨ (q = 1 ∧ j = 17) ∨ (q = 1 ∧ j = 18) ∨ q = 20 ∨ q = 41 ∨ q = (t + 10) ∨ (q = t ∧ j = 6)) (V := fun q j => q = 41) FI (fun q j h => (Or.inr (Or.inr (Or.inr (Or.inr (Or.inr (Or.inr (Or.inr (Or.inr (Or.inr (Or.inl h))))))))))) g425
  have KLT_I426 := gc_LT_fr KLT_I ((g425 23 5).resolve_left (fun h => absurd h (by decide))) ((g425 23 6).resolve_left (fun h => absurd h (by decide))) ((g425 23 7).resolve_left (fun h => absurd h (by decide))) (fun k => (g425 24 k).resolve_left (fun h => absurd h (by decide)))
  have KTK_I426 := gc_TK_fr KTK_I ((g425 23 1).resolve_left (fun h => absurd h (by decide))) ((g425 23 5).resolve_left (fun h => absurd h (by decide))) ((g425 23 6).resolve_left (fun h => absurd h (by decide))) ((g425 23 7).resolve_left (fun h => absurd h (by decide)))
  have KSC_I426 := gc_sc_fr KSC_I (fun k => (g425 (t + 10) k).resolve_left (fun h => absurd h N_t_10__41))
  have KPK_I426 := gc_PKs_fr KPK_I ((g425 1 17).resolve_left (fun h => absurd h (by decide))) (fun k => (g425 20 k).resolve_left (fun h => absurd h (by decide)))
  have KRS_I426 : gc_row 41 25 gc_fS I426 := gc_row_fill q425 (fun j => by unfold gc_fS; omega)
  have KRC_I426 : gc_RC I426 := gc_RC_fill q425
  have t428 := (g425 23 1).resolve_left (fun h => absurd h (by decide))
  have t429 := (g425 23 5).resolve_left (fun h => absurd h (by decide))
  have t430 := (g425 23 6).resolve_left (fun h => absurd h (by decide))
  have t431 := (g425 23 7).resolve_left (fun h => absurd h (by decide))
  have t432 := (g425 1 17).resolve_left (fun h => absurd h (by decide))
  have t433 := (g425 t 6).resolve_left (fun h => absurd h N_t__41)
  have t434 := (g425 1 18).resolve_left (fun h => absurd h (by decide))
  have t435 := (g425 39 5).resolve_left (fun h => absurd h (by decide))
  have t436 := (g425 39 2).resolve_left (fun h => absurd h (by decide))
  have t437 := gc_TK_mo KTK_I426
  have f438 := (show 0 ≤ I426 23 1 ∧ I426 23 1 ≤ 1000 from gc_in hI426 R_23 rfl rfl)
  have f439 := (show 0 ≤ I426 23 5 ∧ I426 23 5 ≤ 1000 from gc_in hI426 R_23 rfl rfl)
  have f440 := (show 0 ≤ I426 23 6 ∧ I426 23 6 ≤ 1001 from gc_in hI426 R_23 rfl rfl)
  have f441 := (show 0 ≤ I426 23 7 ∧ I426 23 7 ≤ 125 from gc_in hI426 R_23 rfl rfl)
  have f442 := (show 0 ≤ I426 1 17 ∧ I426 1 17 ≤ 12000 from gc_in hI426 R_1 rfl rfl)
  have f443 := (show 0 ≤ I426 t 6 ∧ I426 t 6 ≤ 24 from gc_in hI426 R_t rfl rfl)
  have f444 := (show 0 ≤ I426 1 18 ∧ I426 1 18 ≤ 1 from gc_in hI426 R_1 rfl rfl)
  have f445 := (show 0 ≤ I426 39 5 ∧ I426 39 5 ≤ 1000 from gc_in hI426 R_39 rfl rfl)
  have f446 := (show (-1) ≤ I426 39 2 ∧ I426 39 2 ≤ 999999 from gc_in hI426 R_39 rfl rfl)
  have A447 := gc_AT_I x1 ((g425 23 1).resolve_left (fun h => absurd h (by decide))) ((g425 23 5).resolve_left (fun h => absurd h (by decide))) ((g425 23 6).resolve_left (fun h => absurd h (by decide))) ((g425 23 7).resolve_left (fun h => absurd h (by decide))) ((g425 23 8).resolve_left (fun h => absurd h (by decide))) (fun k => (g425 24 k).resolve_left (fun h => absurd h (by decide)))
  show gv_X _ _ (8, [(0, .inr (.inr (some 39)))], [], sh, gc_h sh I426 J A)
  have t448 := (q425 5 (by decide))
  have t449 := (q425 6 (by decide))
  refine gv_run 1 true hD (pc' := 9) (lv' := [(0, .inr (.inr (some 39)))]) (st' := [.inr (.inr (some 39))]) (h' := gc_h sh I426 J A) (C := (True ∧ True)) rfl ⟨trivial, trivial⟩ ?_
  refine gv_get hD rfl rfl S_39 ⟨by decide, B_39⟩ (gc_hA S_39 rfl A_39_1) ?_
  show gv_X _ _ (12, [(0, .inr (.inr (some 39)))], [.inr (.inr (some 23))], sh, gc_h sh I426 J A)
  have f450 := (show 0 ≤ I426 23 7 ∧ I426 23 7 ≤ 125 from gc_in hI426 R_23 rfl rfl)
  refine gv_get hD rfl rfl S_23 ⟨by decide, B_23⟩ (gc_hI S_23 rfl) ?_
  show gv_X _ _ (15, [(0, .inr (.inr (some 39)))], [.inl (I426 23 7)], sh, gc_h sh I426 J A)
  refine gv_run 1 true hD (pc' := 16) (lv' := [(0, .inr (.inr (some 39)))]) (st' := [.inl 1, .inl (I426 23 7)]) (h' := gc_h sh I426 J A) (C := (True ∧ True)) rfl ⟨trivial, trivial⟩ ?_
  refine gv_icmp_eq (t := 29) hD rfl rfl ⟨⟨by omega, by omega⟩, ⟨by omega, by omega⟩⟩ (fun c451 => ?_) (fun c451 => ?_)
  · show gv_X _ _ (29, [(0, .inr (.inr (some 39)))], [], sh, gc_h sh I426 J A)
    exact L29 I426 J p9 hI426 FI426 FJ KLT_I426 KTK_I426 KSC_I426 KRS_I426 KRC_I426 KPK_I426 (by omega) A447 rfl ⟨(((g425 39 5).resolve_left (by omega))), (fun k => ((g425 (t + 10) k).resolve_left (by omega)))⟩
  · show gv_X _ _ (19, [(0, .inr (.inr (some 39)))], [], sh, gc_h sh I426 J A)
    refine gv_run 2 true hD (pc' := 21) (lv' := [(0, .inr (.inr (some 39)))]) (st' := [.inl 3, .inr (.inr (some 39))]) (h' := gc_h sh I426 J A) (C := ((True ∧ True) ∧ True)) rfl ⟨⟨trivial, trivial⟩, trivial⟩ ?_
    obtain ⟨r452, h452, E452, P452⟩ := d_X6_need_p (ws0 := ws0) (tb := tb) hws htb sh ro I426 J A hI426  β η p9 3 hb   ⟨by omega, by omega⟩ A447 (by omega) 
    obtain ⟨I453, J454, rfl, hI453, g452, k452, ⟨z452, rfl, q452⟩⟩ := P452
    have FI453 := gc_frc (W := fun q j => (q = 39 ∧ j = 3) ∨ (q = 39 ∧ j = 4) ∨ (q = 23 ∧ j = 5) ∨ (q = 23 ∧ j = 6) ∨ (q = 23 ∧ j = 7) ∨ (q = 23 ∧ j = 8) ∨ (q = 1 ∧ j = 17) ∨ (q = 1 ∧ j = 18) ∨ q = 20 ∨ q = 41 ∨ q = (t + 10) ∨ (q = t ∧ j = 6)) (V := fun q j => (q = 39 ∧ j = 3) ∨ (q = 39 ∧ j = 4)) FI426 (fun q j h => (h.elim (fun h => (Or.inl h)) (fun h => (Or.inr (Or.inl h))))) g452
    have t455 := (g452 23 1).resolve_left (fun h => h.elim (fun h => absurd h.2 (by decide)) (fun h => absurd h.2 (by decide)))
    have t456 := (g452 23 5).resolve_left (fun h => h.elim (fun h => absurd h.2 (by decide)) (fun h => absurd h.2 (by decide)))
    have t457 := (g452 23 6).resolve_left (fun h => h.elim (fun h => absurd h.2 (by decide)) (fun h => absurd h.2 (by decide)))
    have t458 := (g452 23 7).resolve_left (fun h => h.elim (fun h => absurd h.2 (by decide)) (fun h => absurd h.2 (by decide)))
    have t459 := (g452 1 17).resolve_left (fun h => h.elim (fun h => absurd h.2 (by decide)) (fun h => absurd h.2 (by decide)))
    have t460 := (g452 t 6).resolve_left (fun h => h.elim (fun h => absurd h.2 (by decide)) (fun h => absurd h.2 (by decide)))
    have t461 := (g452 1 18).resolve_left (fun h => h.elim (fun h => absurd h.2 (by decide)) (fun h => absurd h.2 (by decide)))
    have t462 := (g452 39 5).resolve_left (fun h => h.elim (fun h => absurd h.2 (by decide)) (fun h => absurd h.2 (by decide)))
    have t463 := (g452 39 2).resolve_left (fun h => h.elim (fun h => absurd h.2 (by decide)) (fun h => absurd h.2 (by decide)))
    have t464 := (g452 41 5).resolve_left (fun h => h.elim (fun h => absurd h.2 (by decide)) (fun h => absurd h.2 (by decide)))
    have t465 := (g452 41 6).resolve_left (fun h => h.elim (fun h => absurd h.2 (by decide)) (fun h => absurd h.2 (by decide)))
    obtain rfl : J = J454 := funext fun q => funext fun j => ((k452 q j).resolve_left id).symm
    have KLT_I453 := gc_LT_fr KLT_I426 ((g452 23 5).resolve_left (fun h => h.elim (fun h => absurd h.2 (by decide)) (fun h => absurd h.2 (by decide)))) ((g452 23 6).resolve_left (fun h => h.elim (fun h => absurd h.2 (by decide)) (fun h => absurd h.2 (by decide)))) ((g452 23 7).resolve_left (fun h => h.elim (fun h => absurd h.2 (by decide)) (fun h => absurd h.2 (by decide)))) (fun k => (g452 24 k).resolve_left (fun h => h.elim (fun h => absurd h.1 (by decide)) (fun h => absurd h.1 (by decide))))
    have KTK_I453 := gc_TK_fr KTK_I426 ((g452 23 1).resolve_left (fun h => h.elim (fun h => absurd h.2 (by decide)) (fun h => absurd h.2 (by decide)))) ((g452 23 5).resolve_left (fun h => h.elim (fun h => absurd h.2 (by decide)) (fun h => absurd h.2 (by decide)))) ((g452 23 6).resolve_left (fun h => h.elim (fun h => absurd h.2 (by decide)) (fun h => absurd h.2 (by decide)))) ((g452 23 7).resolve_left (fun h => h.elim (fun h => absurd h.2 (by decide)) (fun h => absurd h.2 (by decide))))
    have KSC_I453 := gc_sc_fr KSC_I426 (fun k => (g452 (t + 10) k).resolve_left (fun h => h.elim (fun h => absurd h.1 N_t_10__39) (fun h => absurd h.1 N_t_10__39)))
    have KRS_I453 := gc_row_fr KRS_I426 (fun k => (g452 41 k).resolve_left (fun h => h.elim (fun h => absurd h.1 (by decide)) (fun h => absurd h.1 (by decide))))
    have KRC_I453 := gc_RC_fr KRC_I426 (fun k => (g452 41 k).resolve_left (fun h => h.elim (fun h => absurd h.1 (by decide)) (fun h => absurd h.1 (by decide))))
    have KPK_I453 := gc_PKs_fr KPK_I426 ((g452 1 17).resolve_left (fun h => h.elim (fun h => absurd h.2 (by decide)) (fun h => absurd h.2 (by decide)))) (fun k => (g452 20 k).resolve_left (fun h => h.elim (fun h => absurd h.1 (by decide)) (fun h => absurd h.1 (by decide))))
    have A466 := gc_AT_I A447 ((g452 23 1).resolve_left (fun h => h.elim (fun h => absurd h.2 (by decide)) (fun h => absurd h.2 (by decide)))) ((g452 23 5).resolve_left (fun h => h.elim (fun h => absurd h.2 (by decide)) (fun h => absurd h.2 (by decide)))) ((g452 23 6).resolve_left (fun h => h.elim (fun h => absurd h.2 (by decide)) (fun h => absurd h.2 (by decide)))) ((g452 23 7).resolve_left (fun h => h.elim (fun h => absurd h.2 (by decide)) (fun h => absurd h.2 (by decide)))) ((g452 23 8).resolve_left (fun h => h.elim (fun h => absurd h.2 (by decide)) (fun h => absurd h.2 (by decide)))) (fun k => (g452 24 k).resolve_left (fun h => h.elim (fun h => absurd h.1 (by decide)) (fun h => absurd h.1 (by decide))))
    have t467 := gc_AT_l A466
    refine gv_callV hD rfl (As := [.inl 3]) (st := []) rfl B_39 S_39 rfl (gc_lV6 hws rfl) (Nat.le_of_ble_eq_true rfl) (gz_Ev_mono (d := 2) (by decide) E452) ?_
    show gv_X _ _ (24, [(0, .inr (.inr (some 39)))], [.inl z452], sh, gc_h sh I453 J A)
    refine gv_if_ne (t := 29) hD rfl rfl ⟨by omega, by omega⟩ (fun c468 => ?_) (fun c468 => ?_)
    · show gv_X _ _ (29, [(0, .inr (.inr (some 39)))], [], sh, gc_h sh I453 J A)
      have u469 := gs_or1 q452.2.2.2 (by omega)
      exact L29 I453 J p9 hI453 FI453 FJ KLT_I453 KTK_I453 KSC_I453 KRS_I453 KRC_I453 KPK_I453 (by omega) A466 rfl ⟨((((g452 39 5).resolve_left (by omega)).trans ((g425 39 5).resolve_left (by omega)))), (fun k => (((g452 (t + 10) k).resolve_left (by omega)).trans ((g425 (t + 10) k).resolve_left (by omega))))⟩
    · show gv_X _ _ (27, [(0, .inr (.inr (some 39)))], [], sh, gc_h sh I453 J A)
      have u470 := gs_or0 q452.2.2.2 (by omega)
      refine gv_run 1 true hD (pc' := 28) (lv' := [(0, .inr (.inr (some 39)))]) (st' := [.inl 0]) (h' := gc_h sh I453 J A) (C := (True ∧ True)) rfl ⟨trivial, trivial⟩ ?_
      exact gv_zret hD rfl (by omega) ⟨I453, J, rfl, hI453, FI453, FJ, KLT_I453, KTK_I453, KSC_I453, ⟨_, rfl, by omega, by omega, by omega, by omega, by omega, KPK_I453, (Or.inr ⟨by omega, by rw [show (gs_snd β η Ir Jr (I 39 5) p9) = _ from if_neg (by omega)]; unfold gs_snd1 gs_ctx; (repeat first | rw [if_pos (by omega)] | rw [if_neg (by omega)]); exact ⟨by omega, by omega, by omega, fun j => (((g452 (t + 10) j).resolve_left (by omega)).trans ((g425 (t + 10) j).resolve_left (by omega)))⟩⟩)⟩⟩
