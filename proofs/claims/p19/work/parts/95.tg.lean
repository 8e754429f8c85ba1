set_option maxHeartbeats 4000000 in
set_option maxRecDepth 100000 in
theorem d_X6_readSound_p {ws0 : List Cond} {tb : String → gz_T} (hws : gc_Ws ws0) (htb : gc_tbs tb) (sh : gz_Sh) (ro : Nat → Nat) (I : gr_I) (J : gr_J) (A : gc_A) (hI : gc_Inv ro I) (t : Nat) (B : Int) (β : Int → Int) (η : Int) (p9 : Int) (Ir : gr_I) (Jr : gr_J)  (hb : gc_Base sh ro A) (h_t : gc_isTongue sh ro A t) (G_t : 144 ≤ t)  (x0 : B ≤ 1280 ∧ I 1 17 + I 23 1 ≤ B + I 23 5) (x1 : gc_AT β η p9 23 I J) (x2 : 0 ≤ p9) (x3 : I 1 18 = 0) (x4 : I t 6 = Ir 16 (Int.toNat (Ir 0 6))) (x5 : I (t + 7) 1 = Ir 15 (Int.toNat (Ir 0 6))) (x6 : gs_NA (I (t + 7) 1) (J (t + 8)) (fun k => Jr 22 (Int.toNat (16 * Ir 0 6 + (k : Int))))) (x7 : I 39 2 = (t : Int)) (KLT_I : gc_LT I) (KTK_I : gc_TK I) (KSC_I : gc_sc (t + 10) I) : ∃ r h', gz_Ev ws0 tb 6 (yX6_readSound, cX6_readSound, 1, (some .boolean)) [.inr (.inr (some 39))] sh (gc_h sh I J A) r sh h' 0 0 ∧ (∃ (I' : gr_I) (J' : gr_J), h' = gc_h sh I' J' A ∧ gc_Inv ro I' ∧ (∀ q j : Nat, ((q = 39 ∧ j = 3) ∨ (q = 39 ∧ j = 4) ∨ (q = 23 ∧ j = 5) ∨ (q = 23 ∧ j = 6) ∨ (q = 23 ∧ j = 7) ∨ (q = 23 ∧ j = 8) ∨ (q = 1 ∧ j = 17) ∨ (q = 1 ∧ j = 18) ∨ q = 20 ∨ q = 41 ∨ q = (t + 10) ∨ (q = t ∧ j = 6)) ∨ I' q j = I q j) ∧ (∀ q j : Nat, ((q = 23 ∧ j = 9)) ∨ J' q j = J q j) ∧ gc_LT I' ∧ gc_TK I' ∧ gc_sc (t + 10) I' ∧ (∃ z : Int, r = some (.inl z) ∧ 0 ≤ z ∧ z ≤ 1 ∧ (I' 23 1 = I 23 1) ∧ (I 23 5 ≤ I' 23 5) ∧ (B ≤ 1280 ∧ I' 1 17 + I' 23 1 ≤ B + I' 23 5) ∧ (gs_Or z (0 ≤ (gs_snd β η Ir Jr (I 39 5) p9) ∧ gc_AT β η (gs_snd β η Ir Jr (I 39 5) p9) 23 I' J' ∧ I' t 6 = I t 6 + 1 ∧ I' 1 18 = 0) ((gs_snd β η Ir Jr (I 39 5) p9) < 0 ∧ I' 39 4 = -1 - (gs_snd β η Ir Jr (I 39 5) p9) ∧ I' t 6 = I t 6)))) := by
  have FI : ∀ q j : Nat, ((q = 39 ∧ j = 3) ∨ (q = 39 ∧ j = 4) ∨ (q = 23 ∧ j = 5) ∨ (q = 23 ∧ j = 6) ∨ (q = 23 ∧ j = 7) ∨ (q = 23 ∧ j = 8) ∨ (q = 1 ∧ j = 17) ∨ (q = 1 ∧ j = 18) ∨ q = 20 ∨ q = 41 ∨ q = (t + 10) ∨ (q = t ∧ j = 6)) ∨ I q j = I q j := fun _ _ => Or.inr rfl
  have FJ : ∀ q j : Nat, ((q = 23 ∧ j = 9)) ∨ J q j = J q j := fun _ _ => Or.inr rfl
  have A_39_1 : A 39 1 = some 23 := gc_bA hb rfl
  have A_39_10 : A 39 10 = some 41 := gc_bA hb rfl
  have B_23 : 23 < 1000000 := by decide
  have B_39 : 39 < 1000000 := by decide
  have B_41 : 41 < 1000000 := by decide
  have R_1 : ro 1 = 22 := gc_bR hb (by decide) rfl
  have R_23 : ro 23 = 3 := gc_bR hb (by decide) rfl
  have R_39 : ro 39 = 42 := gc_bR hb (by decide) rfl
  have R_41 : ro 41 = 0 := gc_bR hb (by decide) rfl
  have S_23 : sh[23]? = some (false, 9, 10) := gc_bS hb rfl
  have S_39 : sh[39]? = some (false, 6, 19) := gc_bS hb rfl
  have S_41 : sh[41]? = some (true, 1, 25) := gc_bS hb rfl
  obtain ⟨S_t, R_t, B_t, A_t_0, h_t_1, A_t_1, h_t_3, A_t_2, S_t_5, R_t_5, B_t_5, A_t_3, S_t_6, R_t_6, B_t_6, A_t_4, h_t_7, A_t_5, S_t_9, R_t_9, B_t_9, A_t_7, S_t_10, R_t_10, B_t_10, A_t_8, h_t_11, A_t_9, S_t_13, R_t_13, B_t_13, A_t_10, S_t_14, R_t_14, B_t_14, A_t_12, S_t_15, R_t_15, B_t_15, A_t_14, S_t_16, R_t_16, B_t_16, A_t_15, h_t_17⟩ := id h_t
  obtain ⟨S_t_1, R_t_1, B_t_1, A_t_1_0, S_t_1_1, R_t_1_1, B_t_1_1, Q0_t_1, Q1_t_1, Q2_t_1⟩ := id h_t_1
  obtain ⟨S_t_3, R_t_3, B_t_3, A_t_3_0, S_t_3_1, R_t_3_1, B_t_3_1, Q0_t_3, Q1_t_3, Q2_t_3⟩ := id h_t_3
  obtain ⟨S_t_7, R_t_7, B_t_7, A_t_7_0, S_t_7_1, R_t_7_1, B_t_7_1, Q0_t_7, Q1_t_7, Q2_t_7⟩ := id h_t_7
  obtain ⟨S_t_11, R_t_11, B_t_11, A_t_11_0, S_t_11_1, R_t_11_1, B_t_11_1, Q0_t_11, Q1_t_11, Q2_t_11⟩ := id h_t_11
  obtain ⟨S_t_17, R_t_17, B_t_17, A_t_17_0, S_20, R_20, B_20, A_t_17_1, S_t_17_1, R_t_17_1, B_t_17_1, A_t_17_2, S_t_17_2, R_t_17_2, B_t_17_2, A_t_17_3, S_t_17_3, R_t_17_3, B_t_17_3, A_t_17_4, S_t_17_4, R_t_17_4, B_t_17_4, A_t_17_5, S_t_17_5, R_t_17_5, B_t_17_5, S_t_17_6, R_t_17_6, B_t_17_6, S_t_17_7, R_t_17_7, B_t_17_7⟩ := id h_t_17
  have hD : gv_D (gc_E6 ws0 tb 5 (yX6_readSound, cX6_readSound, 1, (some .boolean)) kX6_readSound) := gq_ok oX6_readSound
  refine gc_ev6 (d := 5) (l := kX6_readSound) (Po := fun r h' => (∃ (I' : gr_I) (J' : gr_J), h' = gc_h sh I' J' A ∧ gc_Inv ro I' ∧ (∀ q j : Nat, ((q = 39 ∧ j = 3) ∨ (q = 39 ∧ j = 4) ∨ (q = 23 ∧ j = 5) ∨ (q = 23 ∧ j = 6) ∨ (q = 23 ∧ j = 7) ∨ (q = 23 ∧ j = 8) ∨ (q = 1 ∧ j = 17) ∨ (q = 1 ∧ j = 18) ∨ q = 20 ∨ q = 41 ∨ q = (t + 10) ∨ (q = t ∧ j = 6)) ∨ I' q j = I q j) ∧ (∀ q j : Nat, ((q = 23 ∧ j = 9)) ∨ J' q j = J q j) ∧ gc_LT I' ∧ gc_TK I' ∧ gc_sc (t + 10) I' ∧ (∃ z : Int, r = some (.inl z) ∧ 0 ≤ z ∧ z ≤ 1 ∧ (I' 23 1 = I 23 1) ∧ (I 23 5 ≤ I' 23 5) ∧ (B ≤ 1280 ∧ I' 1 17 + I' 23 1 ≤ B + I' 23 5) ∧ (gs_Or z (0 ≤ (gs_snd β η Ir Jr (I 39 5) p9) ∧ gc_AT β η (gs_snd β η Ir Jr (I 39 5) p9) 23 I' J' ∧ I' t 6 = I t 6 + 1 ∧ I' 1 18 = 0) ((gs_snd β η Ir Jr (I 39 5) p9) < 0 ∧ I' 39 4 = -1 - (gs_snd β η Ir Jr (I 39 5) p9) ∧ I' t 6 = I t 6))))) htb rfl (Nat.le_of_ble_eq_true rfl) ?_
  have N_t__23 : ¬ (t = 23) := by omega
  have N_t_10__39 : ¬ ((t + 10) = 39) := by omega
  have N_t_10__23 : ¬ ((t + 10) = 23) := by omega
  have N_23__t_10 : ¬ (23 = (t + 10)) := by omega
  have N_24__t_10 : ¬ (24 = (t + 10)) := by omega
  have N_41__t_10 : ¬ (41 = (t + 10)) := by omega
  have N_1__t_10 : ¬ (1 = (t + 10)) := by omega
  have N_t__t_10 : ¬ (t = (t + 10)) := by omega
  have N_39__t_10 : ¬ (39 = (t + 10)) := by omega
  have N_23__t : ¬ (23 = t) := by omega
  have N_41__t : ¬ (41 = t) := by omega
  have N_24__t : ¬ (24 = t) := by omega
  have N_t_10__t : ¬ ((t + 10) = t) := by omega
  have N_t__20 : ¬ (t = 20) := by omega
  have N_t_10__1 : ¬ ((t + 10) = 1) := by omega
  have N_t_10__20 : ¬ ((t + 10) = 20) := by omega
  have N_t_10__41 : ¬ ((t + 10) = 41) := by omega
  have N_t__41 : ¬ (t = 41) := by omega
  have t1 := gc_TK_mo KTK_I
  have f2 := (show 0 ≤ I 23 1 ∧ I 23 1 ≤ 1000 from gc_in hI R_23 rfl rfl)
  have f3 := (show 0 ≤ I 23 5 ∧ I 23 5 ≤ 1000 from gc_in hI R_23 rfl rfl)
  have f4 := (show 0 ≤ I 23 6 ∧ I 23 6 ≤ 1001 from gc_in hI R_23 rfl rfl)
  have f5 := (show 0 ≤ I 23 7 ∧ I 23 7 ≤ 125 from gc_in hI R_23 rfl rfl)
  have f6 := (show 0 ≤ I 1 17 ∧ I 1 17 ≤ 12000 from gc_in hI R_1 rfl rfl)
  have f7 := (show 0 ≤ I t 6 ∧ I t 6 ≤ 24 from gc_in hI R_t rfl rfl)
  have f8 := (show 0 ≤ I 1 18 ∧ I 1 18 ≤ 1 from gc_in hI R_1 rfl rfl)
  have f9 := (show 0 ≤ I 39 5 ∧ I 39 5 ≤ 1000 from gc_in hI R_39 rfl rfl)
  have f10 := (show (-1) ≤ I 39 2 ∧ I 39 2 ≤ 999999 from gc_in hI R_39 rfl rfl)
  have tAT := gc_AT_l x1
  have L29 : ∀ (I11 : gr_I) (J12 : gr_J) (p_13 : Int), gc_Inv ro I11 → (∀ q j : Nat, ((q = 39 ∧ j = 3) ∨ (q = 39 ∧ j = 4) ∨ (q = 23 ∧ j = 5) ∨ (q = 23 ∧ j = 6) ∨ (q = 23 ∧ j = 7) ∨ (q = 23 ∧ j = 8) ∨ (q = 1 ∧ j = 17) ∨ (q = 1 ∧ j = 18) ∨ q = 20 ∨ q = 41 ∨ q = (t + 10) ∨ (q = t ∧ j = 6)) ∨ I11 q j = I q j) → (∀ q j : Nat, ((q = 23 ∧ j = 9)) ∨ J12 q j = J q j) → gc_LT I11 → gc_TK I11 → gc_sc (t + 10) I11 → gc_row 41 25 gc_fS I11 → gc_RC I11 → ((0 ≤ p_13) ∧ (I11 41 5 = 0) ∧ (I11 41 6 = 0) ∧ (I11 1 18 = 0) ∧ (I11 t 6 = I t 6) ∧ (I11 23 7 = 1 ∨ I11 23 7 = 3) ∧ (I11 23 1 = I 23 1) ∧ (I 23 5 ≤ I11 23 5) ∧ (B ≤ 1280 ∧ I11 1 17 + I11 23 1 ≤ B + I11 23 5) ∧ (I11 39 2 = (t : Int))) → (gc_AT β η p_13 23 I11 J12) → (p_13 = p9) → ((I11 39 5 = I 39 5)) → gv_X (gc_E6 ws0 tb 5 (yX6_readSound, cX6_readSound, 1, (some .boolean)) kX6_readSound) (gv_Q cX6_readSound (some .boolean) sh (fun r h' => (∃ (I' : gr_I) (J' : gr_J), h' = gc_h sh I' J' A ∧ gc_Inv ro I' ∧ (∀ q j : Nat, ((q = 39 ∧ j = 3) ∨ (q = 39 ∧ j = 4) ∨ (q = 23 ∧ j = 5) ∨ (q = 23 ∧ j = 6) ∨ (q = 23 ∧ j = 7) ∨ (q = 23 ∧ j = 8) ∨ (q = 1 ∧ j = 17) ∨ (q = 1 ∧ j = 18) ∨ q = 20 ∨ q = 41 ∨ q = (t + 10) ∨ (q = t ∧ j = 6)) ∨ I' q j = I q j) ∧ (∀ q j : Nat, ((q = 23 ∧ j = 9)) ∨ J' q j = J q j) ∧ gc_LT I' ∧ gc_TK I' ∧ gc_sc (t + 10) I' ∧ (∃ z : Int, r = some (.inl z) ∧ 0 ≤ z ∧ z ≤ 1 ∧ (I' 23 1 = I 23 1) ∧ (I 23 5 ≤ I' 23 5) ∧ (B ≤ 1280 ∧ I' 1 17 + I' 23 1 ≤ B + I' 23 5) ∧ (gs_Or z (0 ≤ (gs_snd β η Ir Jr (I 39 5) p9) ∧ gc_AT β η (gs_snd β η Ir Jr (I 39 5) p9) 23 I' J' ∧ I' t 6 = I t 6 + 1 ∧ I' 1 18 = 0) ((gs_snd β η Ir Jr (I 39 5) p9) < 0 ∧ I' 39 4 = -1 - (gs_snd β η Ir Jr (I 39 5) p9) ∧ I' t 6 = I t 6)))))) (29, [(0, .inr (.inr (some 39)))], [], sh, gc_h sh I11 J12 A) := by
    intro I11 J12 p_13 hI11 FI11 FJ12 KLT_I11 KTK_I11 KSC_I11 KRS_I11 KRC_I11 m_13 e1_13 e2_13 e3_13
    obtain ⟨e0_13, e4_13, e5_13, e6_13, e7_13, e8_13, e9_13, e10_13, e11_13, e12_13⟩ := m_13
    have t14 := gc_TK_mo KTK_I11
    have f15 := (show 0 ≤ I11 23 1 ∧ I11 23 1 ≤ 1000 from gc_in hI11 R_23 rfl rfl)
    have f16 := (show 0 ≤ I11 23 5 ∧ I11 23 5 ≤ 1000 from gc_in hI11 R_23 rfl rfl)
    have f17 := (show 0 ≤ I11 23 6 ∧ I11 23 6 ≤ 1001 from gc_in hI11 R_23 rfl rfl)
    have f18 := (show 0 ≤ I11 23 7 ∧ I11 23 7 ≤ 125 from gc_in hI11 R_23 rfl rfl)
    have f19 := (show 0 ≤ I11 1 17 ∧ I11 1 17 ≤ 12000 from gc_in hI11 R_1 rfl rfl)
    have f20 := (show 0 ≤ I11 t 6 ∧ I11 t 6 ≤ 24 from gc_in hI11 R_t rfl rfl)
    have f21 := (show 0 ≤ I11 1 18 ∧ I11 1 18 ≤ 1 from gc_in hI11 R_1 rfl rfl)
    have f22 := (show 0 ≤ I11 39 5 ∧ I11 39 5 ≤ 1000 from gc_in hI11 R_39 rfl rfl)
    have f23 := (show (-1) ≤ I11 39 2 ∧ I11 39 2 ≤ 999999 from gc_in hI11 R_39 rfl rfl)
    have t24 := gc_AT_l e1_13
    have L75 : ((0 ≤ p_13) ∧ (I11 41 5 = 0) ∧ (I11 41 6 = 0) ∧ (I11 1 18 = 0) ∧ (I11 t 6 = I t 6) ∧ (I11 23 7 = 1 ∨ I11 23 7 = 3) ∧ (I11 23 1 = I 23 1) ∧ (I 23 5 ≤ I11 23 5) ∧ (B ≤ 1280 ∧ I11 1 17 + I11 23 1 ≤ B + I11 23 5) ∧ (I11 39 2 = (t : Int))) → (gc_AT β η p_13 23 I11 J12) → ((gs_snd β η Ir Jr (I 39 5) p9) = gs_snd1 β η Ir Jr (I 39 5) (gs_ctx β η Ir Jr 0 p_13)) → ((I11 39 5 = I 39 5)) → gv_X (gc_E6 ws0 tb 5 (yX6_readSound, cX6_readSound, 1, (some .boolean)) kX6_readSound) (gv_Q cX6_readSound (some .boolean) sh (fun r h' => (∃ (I' : gr_I) (J' : gr_J), h' = gc_h sh I' J' A ∧ gc_Inv ro I' ∧ (∀ q j : Nat, ((q = 39 ∧ j = 3) ∨ (q = 39 ∧ j = 4) ∨ (q = 23 ∧ j = 5) ∨ (q = 23 ∧ j = 6) ∨ (q = 23 ∧ j = 7) ∨ (q = 23 ∧ j = 8) ∨ (q = 1 ∧ j = 17) ∨ (q = 1 ∧ j = 18) ∨ q = 20 ∨ q = 41 ∨ q = (t + 10) ∨ (q = t ∧ j = 6)) ∨ I' q j = I q j) ∧ (∀ q j : Nat, ((q = 23 ∧ j = 9)) ∨ J' q j = J q j) ∧ gc_LT I' ∧ gc_TK I' ∧ gc_sc (t + 10) I' ∧ (∃ z : Int, r = some (.inl z) ∧ 0 ≤ z ∧ z ≤ 1 ∧ (I' 23 1 = I 23 1) ∧ (I 23 5 ≤ I' 23 5) ∧ (B ≤ 1280 ∧ I' 1 17 + I' 23 1 ≤ B + I' 23 5) ∧ (gs_Or z (0 ≤ (gs_snd β η Ir Jr (I 39 5) p9) ∧ gc_AT β η (gs_snd β η Ir Jr (I 39 5) p9) 23 I' J' ∧ I' t 6 = I t 6 + 1 ∧ I' 1 18 = 0) ((gs_snd β η Ir Jr (I 39 5) p9) < 0 ∧ I' 39 4 = -1 - (gs_snd β η Ir Jr (I 39 5) p9) ∧ I' t 6 = I t 6)))))) (75, [(0, .inr (.inr (some 39)))], [], sh, gc_h sh I11 J12 A) := by
      intro m_25 e1_25 e2_25 e3_25
      obtain ⟨e0_25, e4_25, e5_25, e6_25, e7_25, e8_25, e9_25, e10_25, e11_25, e12_25⟩ := m_25
      have t26 := gc_TK_mo KTK_I11
      have f27 := (show 0 ≤ I11 23 1 ∧ I11 23 1 ≤ 1000 from gc_in hI11 R_23 rfl rfl)
      have f28 := (show 0 ≤ I11 23 5 ∧ I11 23 5 ≤ 1000 from gc_in hI11 R_23 rfl rfl)
      have f29 := (show 0 ≤ I11 23 6 ∧ I11 23 6 ≤ 1001 from gc_in hI11 R_23 rfl rfl)
      have f30 := (show 0 ≤ I11 23 7 ∧ I11 23 7 ≤ 125 from gc_in hI11 R_23 rfl rfl)
      have f31 := (show 0 ≤ I11 1 17 ∧ I11 1 17 ≤ 12000 from gc_in hI11 R_1 rfl rfl)
      have f32 := (show 0 ≤ I11 t 6 ∧ I11 t 6 ≤ 24 from gc_in hI11 R_t rfl rfl)
      have f33 := (show 0 ≤ I11 1 18 ∧ I11 1 18 ≤ 1 from gc_in hI11 R_1 rfl rfl)
      have f34 := (show 0 ≤ I11 39 5 ∧ I11 39 5 ≤ 1000 from gc_in hI11 R_39 rfl rfl)
      have f35 := (show (-1) ≤ I11 39 2 ∧ I11 39 2 ≤ 999999 from gc_in hI11 R_39 rfl rfl)
      have t36 := gc_AT_l e1_13
      have L102 : ∀ (I37 : gr_I) (J38 : gr_J) (p_39 : Int), gc_Inv ro I37 → (∀ q j : Nat, ((q = 39 ∧ j = 3) ∨ (q = 39 ∧ j = 4) ∨ (q = 23 ∧ j = 5) ∨ (q = 23 ∧ j = 6) ∨ (q = 23 ∧ j = 7) ∨ (q = 23 ∧ j = 8) ∨ (q = 1 ∧ j = 17) ∨ (q = 1 ∧ j = 18) ∨ q = 20 ∨ q = 41 ∨ q = (t + 10) ∨ (q = t ∧ j = 6)) ∨ I37 q j = I q j) → (∀ q j : Nat, ((q = 23 ∧ j = 9)) ∨ J38 q j = J q j) → gc_LT I37 → gc_TK I37 → gc_sc (t + 10) I37 → gc_row 41 25 gc_fS I37 → gc_RC I37 → ((0 ≤ p_39) ∧ (I37 41 5 = 0) ∧ (I37 41 6 = 0) ∧ (I37 1 18 = 0) ∧ (I37 t 6 = I t 6) ∧ (I37 23 7 = 3) ∧ (I37 23 1 = I 23 1) ∧ (I 23 5 ≤ I37 23 5) ∧ (B ≤ 1280 ∧ I37 1 17 + I37 23 1 ≤ B + I37 23 5) ∧ (I37 39 2 = (t : Int))) → (gc_AT β η p_39 23 I37 J38) → ((gs_snd β η Ir Jr (I 39 5) p9) = gs_snd3 β η Ir Jr (I 39 5) (gs_X β η p_39)) → ((I37 39 5 = I 39 5)) → gv_X (gc_E6 ws0 tb 5 (yX6_readSound, cX6_readSound, 1, (some .boolean)) kX6_readSound) (gv_Q cX6_readSound (some .boolean) sh (fun r h' => (∃ (I' : gr_I) (J' : gr_J), h' = gc_h sh I' J' A ∧ gc_Inv ro I' ∧ (∀ q j : Nat, ((q = 39 ∧ j = 3) ∨ (q = 39 ∧ j = 4) ∨ (q = 23 ∧ j = 5) ∨ (q = 23 ∧ j = 6) ∨ (q = 23 ∧ j = 7) ∨ (q = 23 ∧ j = 8) ∨ (q = 1 ∧ j = 17) ∨ (q = 1 ∧ j = 18) ∨ q = 20 ∨ q = 41 ∨ q = (t + 10) ∨ (q = t ∧ j = 6)) ∨ I' q j = I q j) ∧ (∀ q j : Nat, ((q = 23 ∧ j = 9)) ∨ J' q j = J q j) ∧ gc_LT I' ∧ gc_TK I' ∧ gc_sc (t + 10) I' ∧ (∃ z : Int, r = some (.inl z) ∧ 0 ≤ z ∧ z ≤ 1 ∧ (I' 23 1 = I 23 1) ∧ (I 23 5 ≤ I' 23 5) ∧ (B ≤ 1280 ∧ I' 1 17 + I' 23 1 ≤ B + I' 23 5) ∧ (gs_Or z (0 ≤ (gs_snd β η Ir Jr (I 39 5) p9) ∧ gc_AT β η (gs_snd β η Ir Jr (I 39 5) p9) 23 I' J' ∧ I' t 6 = I t 6 + 1 ∧ I' 1 18 = 0) ((gs_snd β η Ir Jr (I 39 5) p9) < 0 ∧ I' 39 4 = -1 - (gs_snd β η Ir Jr (I 39 5) p9) ∧ I' t 6 = I t 6)))))) (102, [(0, .inr (.inr (some 39)))], [], sh, gc_h sh I37 J38 A) := by
        intro I37 J38 p_39 hI37 FI37 FJ38 KLT_I37 KTK_I37 KSC_I37 KRS_I37 KRC_I37 m_39 e1_39 e2_39 e3_39
        clear e0_25 e4_25 e5_25 e6_25 e7_25 e8_25 e9_25 e10_25 e11_25 e12_25 t26 f27 f28 f29 f30 f31 f32 f33 f34 f35 t36 e0_13 e4_13 e5_13 e6_13 e7_13 e8_13 e9_13 e10_13 e11_13 e12_13 t14 f15 f16 f17 f18 f19 f20 f21 f22 f23 t24
        obtain ⟨e0_39, e4_39, e5_39, e6_39, e7_39, e8_39, e9_39, e10_39, e11_39, e12_39⟩ := m_39
        have t40 := gc_TK_mo KTK_I37
        have f41 := (show 0 ≤ I37 23 1 ∧ I37 23 1 ≤ 1000 from gc_in hI37 R_23 rfl rfl)
        have f42 := (show 0 ≤ I37 23 5 ∧ I37 23 5 ≤ 1000 from gc_in hI37 R_23 rfl rfl)
        have f43 := (show 0 ≤ I37 23 6 ∧ I37 23 6 ≤ 1001 from gc_in hI37 R_23 rfl rfl)
        have f44 := (show 0 ≤ I37 23 7 ∧ I37 23 7 ≤ 125 from gc_in hI37 R_23 rfl rfl)
        have f45 := (show 0 ≤ I37 1 17 ∧ I37 1 17 ≤ 12000 from gc_in hI37 R_1 rfl rfl)
        have f46 := (show 0 ≤ I37 t 6 ∧ I37 t 6 ≤ 24 from gc_in hI37 R_t rfl rfl)
        have f47 := (show 0 ≤ I37 1 18 ∧ I37 1 18 ≤ 1 from gc_in hI37 R_1 rfl rfl)
        have f48 := (show 0 ≤ I37 39 5 ∧ I37 39 5 ≤ 1000 from gc_in hI37 R_39 rfl rfl)
        have f49 := (show (-1) ≤ I37 39 2 ∧ I37 39 2 ≤ 999999 from gc_in hI37 R_39 rfl rfl)
        have t50 := gc_AT_l e1_39
        have L183 : ∀ (I51 : gr_I) (J52 : gr_J) (p_53 : Int), gc_Inv ro I51 → (∀ q j : Nat, ((q = 39 ∧ j = 3) ∨ (q = 39 ∧ j = 4) ∨ (q = 23 ∧ j = 5) ∨ (q = 23 ∧ j = 6) ∨ (q = 23 ∧ j = 7) ∨ (q = 23 ∧ j = 8) ∨ (q = 1 ∧ j = 17) ∨ (q = 1 ∧ j = 18) ∨ q = 20 ∨ q = 41 ∨ q = (t + 10) ∨ (q = t ∧ j = 6)) ∨ I51 q j = I q j) → (∀ q j : Nat, ((q = 23 ∧ j = 9)) ∨ J52 q j = J q j) → gc_LT I51 → gc_TK I51 → gc_sc (t + 10) I51 → gc_row 41 25 gc_fS I51 → gc_RC I51 → ((0 ≤ p_53) ∧ (I51 1 18 = 0) ∧ (I51 t 6 = I t 6) ∧ (I51 23 1 = I 23 1) ∧ (I 23 5 ≤ I51 23 5) ∧ (B ≤ 1280 ∧ I51 1 17 + I51 23 1 ≤ B + I51 23 5) ∧ (I51 39 2 = (t : Int))) → (gc_AT β η p_53 23 I51 J52) → ((gs_snd β η Ir Jr (I 39 5) p9) = gs_snd6 β η Ir (I 39 5) p_53) → ((I51 39 5 = I 39 5)) → gv_X (gc_E6 ws0 tb 5 (yX6_readSound, cX6_readSound, 1, (some .boolean)) kX6_readSound) (gv_Q cX6_readSound (some .boolean) sh (fun r h' => (∃ (I' : gr_I) (J' : gr_J), h' = gc_h sh I' J' A ∧ gc_Inv ro I' ∧ (∀ q j : Nat, ((q = 39 ∧ j = 3) ∨ (q = 39 ∧ j = 4) ∨ (q = 23 ∧ j = 5) ∨ (q = 23 ∧ j = 6) ∨ (q = 23 ∧ j = 7) ∨ (q = 23 ∧ j = 8) ∨ (q = 1 ∧ j = 17) ∨ (q = 1 ∧ j = 18) ∨ q = 20 ∨ q = 41 ∨ q = (t + 10) ∨ (q = t ∧ j = 6)) ∨ I' q j = I q j) ∧ (∀ q j : Nat, ((q = 23 ∧ j = 9)) ∨ J' q j = J q j) ∧ gc_LT I' ∧ gc_TK I' ∧ gc_sc (t + 10) I' ∧ (∃ z : Int, r = some (.inl z) ∧ 0 ≤ z ∧ z ≤ 1 ∧ (I' 23 1 = I 23 1) ∧ (I 23 5 ≤ I' 23 5) ∧ (B ≤ 1280 ∧ I' 1 17 + I' 23 1 ≤ B + I' 23 5) ∧ (gs_Or z (0 ≤ (gs_snd β η Ir Jr (I 39 5) p9) ∧ gc_AT β η (gs_snd β η Ir Jr (I 39 5) p9) 23 I' J' ∧ I' t 6 = I t 6 + 1 ∧ I' 1 18 = 0) ((gs_snd β η Ir Jr (I 39 5) p9) < 0 ∧ I' 39 4 = -1 - (gs_snd β η Ir Jr (I 39 5) p9) ∧ I' t 6 = I t 6)))))) (183, [(0, .inr (.inr (some 39)))], [], sh, gc_h sh I51 J52 A) := by
          intro I51 J52 p_53 hI51 FI51 FJ52 KLT_I51 KTK_I51 KSC_I51 KRS_I51 KRC_I51 m_53 e1_53 e2_53 e3_53
          clear e0_39 e4_39 e5_39 e6_39 e7_39 e8_39 e9_39 e10_39 e11_39 e12_39 t40 f41 f42 f43 f44 f45 f46 f47 f48 f49 t50
          obtain ⟨e0_53, e4_53, e5_53, e6_53, e7_53, e8_53, e9_53⟩ := m_53
          have t54 := gc_TK_mo KTK_I51
          have f55 := (show 0 ≤ I51 23 1 ∧ I51 23 1 ≤ 1000 from gc_in hI51 R_23 rfl rfl)
          have f56 := (show 0 ≤ I51 23 5 ∧ I51 23 5 ≤ 1000 from gc_in hI51 R_23 rfl rfl)
          have f57 := (show 0 ≤ I51 23 6 ∧ I51 23 6 ≤ 1001 from gc_in hI51 R_23 rfl rfl)
          have f58 := (show 0 ≤ I51 23 7 ∧ I51 23 7 ≤ 125 from gc_in hI51 R_23 rfl rfl)
          have f59 := (show 0 ≤ I51 1 17 ∧ I51 1 17 ≤ 12000 from gc_in hI51 R_1 rfl rfl)
          have f60 := (show 0 ≤ I51 t 6 ∧ I51 t 6 ≤ 24 from gc_in hI51 R_t rfl rfl)
          have f61 := (show 0 ≤ I51 1 18 ∧ I51 1 18 ≤ 1 from gc_in hI51 R_1 rfl rfl)
          have f62 := (show 0 ≤ I51 39 5 ∧ I51 39 5 ≤ 1000 from gc_in hI51 R_39 rfl rfl)
          have f63 := (show (-1) ≤ I51 39 2 ∧ I51 39 2 ≤ 999999 from gc_in hI51 R_39 rfl rfl)
          have t64 := gc_AT_l e1_53
          refine gv_run 2 true hD (pc' := 185) (lv' := [(0, .inr (.inr (some 39)))]) (st' := [.inr (.inr (some 39)), .inr (.inr (some 39))]) (h' := gc_h sh I51 J52 A) (C := ((True ∧ True) ∧ True)) rfl ⟨⟨trivial, trivial⟩, trivial⟩ ?_
          refine gv_get hD rfl rfl S_39 ⟨by decide, B_39⟩ (gc_h5 (t := t) S_39 rfl (by omega)) ?_
          show gv_X _ _ (188, [(0, .inr (.inr (some 39)))], [.inr (.inr (some t)), .inr (.inr (some 39))], sh, gc_h sh I51 J52 A)
          have f65 := (show 0 ≤ I51 t 6 ∧ I51 t 6 ≤ 24 from gc_in hI51 R_t rfl rfl)
          refine gv_get hD rfl rfl S_t ⟨by decide, B_t⟩ (gc_hI S_t rfl) ?_
          show gv_X _ _ (191, [(0, .inr (.inr (some 39)))], [.inl (I51 t 6), .inr (.inr (some 39))], sh, gc_h sh I51 J52 A)
          refine gv_run 1 true hD (pc' := 193) (lv' := [(0, .inr (.inr (some 39)))]) (st' := [.inl 24, .inl (I51 t 6), .inr (.inr (some 39))]) (h' := gc_h sh I51 J52 A) (C := (True ∧ True)) rfl ⟨trivial, trivial⟩ ?_
          refine gv_icmp_lt (t := 200) hD rfl rfl ⟨⟨by omega, by omega⟩, ⟨by omega, by omega⟩⟩ (fun c66 => ?_) (fun c66 => ?_)
          · show gv_X _ _ (200, [(0, .inr (.inr (some 39)))], [.inr (.inr (some 39))], sh, gc_h sh I51 J52 A)
            refine gv_run 1 true hD (pc' := 201) (lv' := [(0, .inr (.inr (some 39)))]) (st' := [.inl 0, .inr (.inr (some 39))]) (h' := gc_h sh I51 J52 A) (C := (True ∧ True)) rfl ⟨trivial, trivial⟩ ?_
            obtain ⟨r67, h67, E67, P67⟩ := d_X6_closes_p (ws0 := ws0) (tb := tb) hws htb sh ro I51 J52 A hI51  β η p_53 0 hb   ⟨by omega, by omega⟩ e1_53 (by omega) (by omega) KLT_I51 KTK_I51
            obtain ⟨I68, J69, rfl, hI68, g67, k67, KLT_I68, KTK_I68, ⟨z67, rfl, q67⟩⟩ := P67
            have FI68 := gc_frc (W := fun q j => (q = 39 ∧ j = 3) ∨ (q = 39 ∧ j = 4) ∨ (q = 23 ∧ j = 5) ∨ (q = 23 ∧ j = 6) ∨ (q = 23 ∧ j = 7) ∨ (q = 23 ∧ j = 8) ∨ (q = 1 ∧ j = 17) ∨ (q = 1 ∧ j = 18) ∨ q = 20 ∨ q = 41 ∨ q = (t + 10) ∨ (q = t ∧ j = 6)) (V := fun q j => (q = 39 ∧ j = 3) ∨ (q = 39 ∧ j = 4) ∨ (q = 23 ∧ j = 5) ∨ (q = 23 ∧ j = 6) ∨ (q = 23 ∧ j = 7) ∨ (q = 23 ∧ j = 8)) FI51 (fun q j h => (h.elim (fun h => (Or.inl h)) (fun h => (h.elim (fun h => (Or.inr (Or.inl h))) (fun h => (h.elim (fun h => (Or.inr (Or.inr (Or.inl h)))) (fun h => (h.elim (fun h => (Or.inr (Or.inr (Or.inr (Or.inl h))))) (fun h => (h.elim (fun h => (Or.inr (Or.inr (Or.inr (Or.inr (Or.inl h)))))) (fun h => (Or.inr (Or.inr (Or.inr (Or.inr (Or.inr (Or.inl h))))))))))))))))) g67
            have FJ69 := gc_frc (W := fun q j => (q = 23 ∧ j = 9)) (V := fun q j => (q = 23 ∧ j = 9)) FJ52 (fun q j h => h) k67
            have t70 := (g67 23 1).resolve_left (fun h => h.elim (fun h => absurd h.2 (by decide)) (fun h => h.elim (fun h => absurd h.2 (by decide)) (fun h => h.elim (fun h => absurd h.2 (by decide)) (fun h => h.elim (fun h => absurd h.2 (by decide)) (fun h => h.elim (fun h => absurd h.2 (by decide)) (fun h => absurd h.2 (by decide)))))))
            have t71 := (g67 1 17).resolve_left (fun h => h.elim (fun h => absurd h.2 (by decide)) (fun h => h.elim (fun h => absurd h.2 (by decide)) (fun h => h.elim (fun h => absurd h.2 (by decide)) (fun h => h.elim (fun h => absurd h.2 (by decide)) (fun h => h.elim (fun h => absurd h.2 (by decide)) (fun h => absurd h.2 (by decide)))))))
            have t72 := (g67 t 6).resolve_left (fun h => h.elim (fun h => absurd h.2 (by decide)) (fun h => h.elim (fun h => absurd h.2 (by decide)) (fun h => h.elim (fun h => absurd h.2 (by decide)) (fun h => h.elim (fun h => absurd h.1 N_t__23) (fun h => h.elim (fun h => absurd h.2 (by decide)) (fun h => absurd h.2 (by decide)))))))
            have t73 := (g67 1 18).resolve_left (fun h => h.elim (fun h => absurd h.2 (by decide)) (fun h => h.elim (fun h => absurd h.2 (by decide)) (fun h => h.elim (fun h => absurd h.2 (by decide)) (fun h => h.elim (fun h => absurd h.2 (by decide)) (fun h => h.elim (fun h => absurd h.2 (by decide)) (fun h => absurd h.2 (by decide)))))))
            have t74 := (g67 39 5).resolve_left (fun h => h.elim (fun h => absurd h.2 (by decide)) (fun h => h.elim (fun h => absurd h.2 (by decide)) (fun h => h.elim (fun h => absurd h.1 (by decide)) (fun h => h.elim (fun h => absurd h.2 (by decide)) (fun h => h.elim (fun h => absurd h.2 (by decide)) (fun h => absurd h.2 (by decide)))))))
            have t75 := (g67 39 2).resolve_left (fun h => h.elim (fun h => absurd h.2 (by decide)) (fun h => h.elim (fun h => absurd h.2 (by decide)) (fun h => h.elim (fun h => absurd h.2 (by decide)) (fun h => h.elim (fun h => absurd h.2 (by decide)) (fun h => h.elim (fun h => absurd h.2 (by decide)) (fun h => absurd h.2 (by decide)))))))
            have t76 := (g67 41 5).resolve_left (fun h => h.elim (fun h => absurd h.2 (by decide)) (fun h => h.elim (fun h => absurd h.2 (by decide)) (fun h => h.elim (fun h => absurd h.1 (by decide)) (fun h => h.elim (fun h => absurd h.2 (by decide)) (fun h => h.elim (fun h => absurd h.2 (by decide)) (fun h => absurd h.2 (by decide)))))))
            have t77 := (g67 41 6).resolve_left (fun h => h.elim (fun h => absurd h.2 (by decide)) (fun h => h.elim (fun h => absurd h.2 (by decide)) (fun h => h.elim (fun h => absurd h.2 (by decide)) (fun h => h.elim (fun h => absurd h.1 (by decide)) (fun h => h.elim (fun h => absurd h.2 (by decide)) (fun h => absurd h.2 (by decide)))))))
            have f78 := (show 0 ≤ I68 23 5 ∧ I68 23 5 ≤ 1000 from gc_in hI68 R_23 rfl rfl)
            have f79 := (show 0 ≤ I68 23 6 ∧ I68 23 6 ≤ 1001 from gc_in hI68 R_23 rfl rfl)
            have f80 := (show 0 ≤ I68 23 7 ∧ I68 23 7 ≤ 125 from gc_in hI68 R_23 rfl rfl)
            have t81 := gc_TK_mo KTK_I68
            have KSC_I68 := gc_sc_fr KSC_I51 (fun k => (g67 (t + 10) k).resolve_left (fun h => h.elim (fun h => absurd h.1 N_t_10__39) (fun h => h.elim (fun h => absurd h.1 N_t_10__39) (fun h => h.elim (fun h => absurd h.1 N_t_10__23) (fun h => h.elim (fun h => absurd h.1 N_t_10__23) (fun h => h.elim (fun h => absurd h.1 N_t_10__23) (fun h => absurd h.1 N_t_10__23)))))))
            have KRS_I68 := gc_row_fr KRS_I51 (fun k => (g67 41 k).resolve_left (fun h => h.elim (fun h => absurd h.1 (by decide)) (fun h => h.elim (fun h => absurd h.1 (by decide)) (fun h => h.elim (fun h => absurd h.1 (by decide)) (fun h => h.elim (fun h => absurd h.1 (by decide)) (fun h => h.elim (fun h => absurd h.1 (by decide)) (fun h => absurd h.1 (by decide))))))))
            have KRC_I68 := gc_RC_fr KRC_I51 (fun k => (g67 41 k).resolve_left (fun h => h.elim (fun h => absurd h.1 (by decide)) (fun h => h.elim (fun h => absurd h.1 (by decide)) (fun h => h.elim (fun h => absurd h.1 (by decide)) (fun h => h.elim (fun h => absurd h.1 (by decide)) (fun h => h.elim (fun h => absurd h.1 (by decide)) (fun h => absurd h.1 (by decide))))))))
            refine gv_callV hD rfl (As := [.inl 0]) (st := []) rfl B_39 S_39 rfl (gc_lV6 hws rfl) (Nat.le_of_ble_eq_true rfl) (gz_Ev_mono (d := 4) (by decide) E67) ?_
            show gv_X _ _ (204, [(0, .inr (.inr (some 39)))], [.inl z67], sh, gc_h sh I68 J69 A)
            refine gv_if_ne (t := 209) hD rfl rfl ⟨by omega, by omega⟩ (fun c82 => ?_) (fun c82 => ?_)
            · show gv_X _ _ (209, [(0, .inr (.inr (some 39)))], [], sh, gc_h sh I68 J69 A)
              have V83 := q67.2.2.2.2.2
              rw [show I51 39 5 = I 39 5 from by omega] at V83
              rw [show (if (0 : Int) = 0 then (1 : Int) else 0) = 1 from if_pos rfl] at V83
              obtain ⟨u83, A83⟩ := gs_or1 V83 (by omega)
              have t84 := gc_AT_l A83
              refine gv_run 1 true hD (pc' := 210) (lv' := [(0, .inr (.inr (some 39)))]) (st' := [.inr (.inr (some 39))]) (h' := gc_h sh I68 J69 A) (C := (True ∧ True)) rfl ⟨trivial, trivial⟩ ?_
              refine gv_get hD rfl rfl S_39 ⟨by decide, B_39⟩ (gc_hA S_39 rfl A_39_10) ?_
              show gv_X _ _ (213, [(0, .inr (.inr (some 39)))], [.inr (.inr (some 41))], sh, gc_h sh I68 J69 A)
              refine gv_run 2 true hD (pc' := 215) (lv' := [(0, .inr (.inr (some 39)))]) (st' := [.inr (.inr (some 39)), .inl 0, .inr (.inr (some 41))]) (h' := gc_h sh I68 J69 A) (C := ((True ∧ True) ∧ True)) rfl ⟨⟨trivial, trivial⟩, trivial⟩ ?_
              refine gv_get hD rfl rfl S_39 ⟨by decide, B_39⟩ (gc_h5 (t := t) S_39 rfl (by omega)) ?_
              show gv_X _ _ (218, [(0, .inr (.inr (some 39)))], [.inr (.inr (some t)), .inl 0, .inr (.inr (some 41))], sh, gc_h sh I68 J69 A)
              refine gv_get hD rfl rfl S_t ⟨by decide, B_t⟩ (gc_hA S_t rfl A_t_7) ?_
              show gv_X _ _ (221, [(0, .inr (.inr (some 39)))], [.inr (.inr (some (t + 10))), .inl 0, .inr (.inr (some 41))], sh, gc_h sh I68 J69 A)
              refine gv_run 1 true hD (pc' := 222) (lv' := [(0, .inr (.inr (some 39)))]) (st' := [.inr (.inr (some 39)), .inr (.inr (some (t + 10))), .inl 0, .inr (.inr (some 41))]) (h' := gc_h sh I68 J69 A) (C := (True ∧ True)) rfl ⟨trivial, trivial⟩ ?_
              refine gv_get hD rfl rfl S_39 ⟨by decide, B_39⟩ (gc_h5 (t := t) S_39 rfl (by omega)) ?_
              show gv_X _ _ (225, [(0, .inr (.inr (some 39)))], [.inr (.inr (some t)), .inr (.inr (some (t + 10))), .inl 0, .inr (.inr (some 41))], sh, gc_h sh I68 J69 A)
              have f85 := (show 0 ≤ I68 t 6 ∧ I68 t 6 ≤ 24 from gc_in hI68 R_t rfl rfl)
              refine gv_get hD rfl rfl S_t ⟨by decide, B_t⟩ (gc_hI S_t rfl) ?_
              show gv_X _ _ (228, [(0, .inr (.inr (some 39)))], [.inl (I68 t 6), .inr (.inr (some (t + 10))), .inl 0, .inr (.inr (some 41))], sh, gc_h sh I68 J69 A)
              refine gv_run 3 true hD (pc' := 233) (lv' := [(0, .inr (.inr (some 39)))]) (st' := [.inl 25, .inl ((I68 t 6) * 25), .inr (.inr (some (t + 10))), .inl 0, .inr (.inr (some 41))]) (h' := gc_h sh I68 J69 A) (C := (((True ∧ True) ∧ True) ∧ True)) rfl ⟨⟨⟨trivial, trivial⟩, trivial⟩, trivial⟩ ?_
              refine gv_copy hD rfl (gc_lC6_263 hws) (Nat.le_of_ble_eq_true rfl) ⟨B_41, B_t_10⟩ S_41 S_t_10 (by decide) ⟨by decide, by decide⟩ ⟨by omega, by omega, by omega⟩ (by omega) (by omega) (fun h => absurd h (by decide)) ?_
              refine gc_cp hI68 S_41 S_t_10 (by decide) (fun j hj => gc_RS_cp KRS_I68 R_t_10 (by omega) (by decide) hj) (fun I87 hI87 p86 q86 => ?_)
              have FI87 := gc_frp (W := fun q j => (q = 39 ∧ j = 3) ∨ (q = 39 ∧ j = 4) ∨ (q = 23 ∧ j = 5) ∨ (q = 23 ∧ j = 6) ∨ (q = 23 ∧ j = 7) ∨ (q = 23 ∧ j = 8) ∨ (q = 1 ∧ j = 17) ∨ (q = 1 ∧ j = 18) ∨ q = 20 ∨ q = 41 ∨ q = (t + 10) ∨ (q = t ∧ j = 6)) (V := fun q j => q = (t + 10) ∧ Int.toNat (((I68 t 6) * 25)) ≤ j ∧ j < Int.toNat (((I68 t 6) * 25)) + Int.toNat 25) FI68 (fun q j h => (Or.inr (Or.inr (Or.inr (Or.inr (Or.inr (Or.inr (Or.inr (Or.inr (Or.inr (Or.inr (Or.inl h.1)))))))))))) p86
              have KLT_I87 := gc_LT_fr KLT_I68 (p86 23 5 (fun h => absurd h.1 N_23__t_10)) (p86 23 6 (fun h => absurd h.1 N_23__t_10)) (p86 23 7 (fun h => absurd h.1 N_23__t_10)) (fun k => p86 24 k (fun h => absurd h.1 N_24__t_10))
              have KTK_I87 := gc_TK_fr KTK_I68 (p86 23 1 (fun h => absurd h.1 N_23__t_10)) (p86 23 5 (fun h => absurd h.1 N_23__t_10)) (p86 23 6 (fun h => absurd h.1 N_23__t_10)) (p86 23 7 (fun h => absurd h.1 N_23__t_10))
              have KRS_I87 := gc_row_fr KRS_I68 (fun k => p86 41 k (fun h => absurd h.1 N_41__t_10))
              have KRC_I87 := gc_RC_fr KRC_I68 (fun k => p86 41 k (fun h => absurd h.1 N_41__t_10))
              have KSC_I87 : gc_sc (t + 10) I87 := gc_sc_cp KSC_I68 KRC_I68 p86 q86 (by omega) (by decide) (by decide)
              have t89 := p86 23 1 (fun h => absurd h.1 N_23__t_10)
              have t90 := p86 23 5 (fun h => absurd h.1 N_23__t_10)
              have t91 := p86 23 6 (fun h => absurd h.1 N_23__t_10)
              have t92 := p86 23 7 (fun h => absurd h.1 N_23__t_10)
              have t93 := p86 1 17 (fun h => absurd h.1 N_1__t_10)
              have t94 := p86 t 6 (fun h => absurd h.1 N_t__t_10)
              have t95 := p86 1 18 (fun h => absurd h.1 N_1__t_10)
              have t96 := p86 39 5 (fun h => absurd h.1 N_39__t_10)
              have t97 := p86 39 2 (fun h => absurd h.1 N_39__t_10)
              have t98 := p86 41 5 (fun h => absurd h.1 N_41__t_10)
              have t99 := p86 41 6 (fun h => absurd h.1 N_41__t_10)
              have t100 := gc_TK_mo KTK_I87
              have f101 := (show 0 ≤ I87 23 1 ∧ I87 23 1 ≤ 1000 from gc_in hI87 R_23 rfl rfl)
              have f102 := (show 0 ≤ I87 23 5 ∧ I87 23 5 ≤ 1000 from gc_in hI87 R_23 rfl rfl)
              have f103 := (show 0 ≤ I87 23 6 ∧ I87 23 6 ≤ 1001 from gc_in hI87 R_23 rfl rfl)
              have f104 := (show 0 ≤ I87 23 7 ∧ I87 23 7 ≤ 125 from gc_in hI87 R_23 rfl rfl)
              have f105 := (show 0 ≤ I87 1 17 ∧ I87 1 17 ≤ 12000 from gc_in hI87 R_1 rfl rfl)
              have f106 := (show 0 ≤ I87 t 6 ∧ I87 t 6 ≤ 24 from gc_in hI87 R_t rfl rfl)
              have f107 := (show 0 ≤ I87 1 18 ∧ I87 1 18 ≤ 1 from gc_in hI87 R_1 rfl rfl)
              have f108 := (show 0 ≤ I87 39 5 ∧ I87 39 5 ≤ 1000 from gc_in hI87 R_39 rfl rfl)
              have f109 := (show (-1) ≤ I87 39 2 ∧ I87 39 2 ≤ 999999 from gc_in hI87 R_39 rfl rfl)
              have A110 := gc_AT_I A83 (p86 23 1 (fun h => absurd h.1 N_23__t_10)) (p86 23 5 (fun h => absurd h.1 N_23__t_10)) (p86 23 6 (fun h => absurd h.1 N_23__t_10)) (p86 23 7 (fun h => absurd h.1 N_23__t_10)) (p86 23 8 (fun h => absurd h.1 N_23__t_10)) (fun k => p86 24 k (fun h => absurd h.1 N_24__t_10))
              show gv_X _ _ (236, [(0, .inr (.inr (some 39)))], [], sh, gc_h sh I87 J69 A)
              refine gv_run 1 true hD (pc' := 237) (lv' := [(0, .inr (.inr (some 39)))]) (st' := [.inr (.inr (some 39))]) (h' := gc_h sh I87 J69 A) (C := (True ∧ True)) rfl ⟨trivial, trivial⟩ ?_
              refine gv_get hD rfl rfl S_39 ⟨by decide, B_39⟩ (gc_h5 (t := t) S_39 rfl (by omega)) ?_
              show gv_X _ _ (240, [(0, .inr (.inr (some 39)))], [.inr (.inr (some t))], sh, gc_h sh I87 J69 A)
              refine gv_run 1 true hD (pc' := 241) (lv' := [(0, .inr (.inr (some 39)))]) (st' := [.inr (.inr (some t)), .inr (.inr (some t))]) (h' := gc_h sh I87 J69 A) (C := (True ∧ True)) rfl ⟨trivial, trivial⟩ ?_
              have f111 := (show 0 ≤ I87 t 6 ∧ I87 t 6 ≤ 24 from gc_in hI87 R_t rfl rfl)
              refine gv_get hD rfl rfl S_t ⟨by decide, B_t⟩ (gc_hI S_t rfl) ?_
              show gv_X _ _ (244, [(0, .inr (.inr (some 39)))], [.inl (I87 t 6), .inr (.inr (some t))], sh, gc_h sh I87 J69 A)
              refine gv_run 2 true hD (pc' := 246) (lv' := [(0, .inr (.inr (some 39)))]) (st' := [.inl ((I87 t 6) + 1), .inr (.inr (some t))]) (h' := gc_h sh I87 J69 A) (C := ((True ∧ True) ∧ True)) rfl ⟨⟨trivial, trivial⟩, trivial⟩ ?_
              refine gv_put hD rfl rfl S_t ⟨by decide, B_t⟩ rfl trivial ?_
              refine gc_st (k := 6) hI87 S_t rfl R_t (lo := 0) (hi := 24) rfl rfl (by omega) (by omega) (fun I112 hI112 q113 p113 => ?_)
              have FI112 := gc_frs (W := fun q j => (q = 39 ∧ j = 3) ∨ (q = 39 ∧ j = 4) ∨ (q = 23 ∧ j = 5) ∨ (q = 23 ∧ j = 6) ∨ (q = 23 ∧ j = 7) ∨ (q = 23 ∧ j = 8) ∨ (q = 1 ∧ j = 17) ∨ (q = 1 ∧ j = 18) ∨ q = 20 ∨ q = 41 ∨ q = (t + 10) ∨ (q = t ∧ j = 6)) FI87 (Or.inr (Or.inr (Or.inr (Or.inr (Or.inr (Or.inr (Or.inr (Or.inr (Or.inr (Or.inr (Or.inr ⟨rfl, rfl⟩))))))))))) p113
              have t114 := p113 23 1 (fun h => absurd h.2 (by decide))
              have t115 := p113 23 5 (fun h => absurd h.2 (by decide))
              have t116 := p113 23 6 (fun h => absurd h.1 N_23__t)
              have t117 := p113 23 7 (fun h => absurd h.2 (by decide))
              have t118 := p113 1 17 (fun h => absurd h.2 (by decide))
              have t119 := p113 1 18 (fun h => absurd h.2 (by decide))
              have t120 := p113 39 5 (fun h => absurd h.2 (by decide))
              have t121 := p113 39 2 (fun h => absurd h.2 (by decide))
              have t122 := p113 41 5 (fun h => absurd h.2 (by decide))
              have t123 := p113 41 6 (fun h => absurd h.1 N_41__t)
              have f124 := (show 0 ≤ I112 t 6 ∧ I112 t 6 ≤ 24 from gc_in hI112 R_t rfl rfl)
              have KLT_I112 := gc_LT_fr KLT_I87 (p113 23 5 (fun h => absurd h.2 (by decide))) (p113 23 6 (fun h => absurd h.1 N_23__t)) (p113 23 7 (fun h => absurd h.2 (by decide))) (fun k => p113 24 k (fun h => absurd h.1 N_24__t))
              have KTK_I112 := gc_TK_fr KTK_I87 (p113 23 1 (fun h => absurd h.2 (by decide))) (p113 23 5 (fun h => absurd h.2 (by decide))) (p113 23 6 (fun h => absurd h.1 N_23__t)) (p113 23 7 (fun h => absurd h.2 (by decide)))
              have KSC_I112 := gc_sc_fr KSC_I87 (fun k => p113 (t + 10) k (fun h => absurd h.1 N_t_10__t))
              have KRS_I112 := gc_row_fr KRS_I87 (fun k => p113 41 k (fun h => absurd h.1 N_41__t))
              have KRC_I112 := gc_RC_fr KRC_I87 (fun k => p113 41 k (fun h => absurd h.1 N_41__t))
              have A125 := gc_AT_I A110 (p113 23 1 (fun h => absurd h.2 (by decide))) (p113 23 5 (fun h => absurd h.2 (by decide))) (p113 23 6 (fun h => absurd h.1 N_23__t)) (p113 23 7 (fun h => absurd h.2 (by decide))) (p113 23 8 (fun h => absurd h.2 (by decide))) (fun k => p113 24 k (fun h => absurd h.1 N_24__t))
              show gv_X _ _ (249, [(0, .inr (.inr (some 39)))], [], sh, gc_h sh I112 J69 A)
              refine gv_run 1 true hD (pc' := 250) (lv' := [(0, .inr (.inr (some 39)))]) (st' := [.inl 1]) (h' := gc_h sh I112 J69 A) (C := (True ∧ True)) rfl ⟨trivial, trivial⟩ ?_
              exact gv_zret hD rfl (by omega) ⟨I112, J69, rfl, hI112, FI112, FJ69, KLT_I112, KTK_I112, KSC_I112, ⟨_, rfl, by omega, by omega, by omega, by omega, by omega, (Or.inl ⟨by omega, by have e9 : (gs_snd β η Ir Jr (I 39 5) p9) = (gs_done β η 1 (I 39 5) p_53) := (by first | (exfalso; omega) | (rw [e2_53]; unfold gs_snd6; (repeat first | rw [if_pos (by omega)] | rw [if_neg (by omega)]))); rw [e9]; exact ⟨by omega, A125, by omega⟩⟩)⟩⟩
            · show gv_X _ _ (207, [(0, .inr (.inr (some 39)))], [], sh, gc_h sh I68 J69 A)
              have V126 := q67.2.2.2.2.2
              rw [show I51 39 5 = I 39 5 from by omega] at V126
              rw [show (if (0 : Int) = 0 then (1 : Int) else 0) = 1 from if_pos rfl] at V126
              obtain ⟨u126, u126_⟩ := gs_or0 V126 (by omega)
              refine gv_run 1 true hD (pc' := 208) (lv' := [(0, .inr (.inr (some 39)))]) (st' := [.inl 0]) (h' := gc_h sh I68 J69 A) (C := (True ∧ True)) rfl ⟨trivial, trivial⟩ ?_
              exact gv_zret hD rfl (by omega) ⟨I68, J69, rfl, hI68, FI68, FJ69, KLT_I68, KTK_I68, KSC_I68, ⟨_, rfl, by omega, by omega, by omega, by omega, by omega, (Or.inr ⟨by omega, by first | (exfalso; omega) | (rw [e2_53]; unfold gs_snd6; (repeat first | rw [if_pos (by omega)] | rw [if_neg (by omega)]); exact ⟨by omega, by omega, by omega⟩)⟩)⟩⟩
          · show gv_X _ _ (196, [(0, .inr (.inr (some 39)))], [.inr (.inr (some 39))], sh, gc_h sh I51 J52 A)
            refine gv_run 2 true hD (pc' := 201) (lv' := [(0, .inr (.inr (some 39)))]) (st' := [.inl 1, .inr (.inr (some 39))]) (h' := gc_h sh I51 J52 A) (C := ((True ∧ True) ∧ True)) rfl ⟨⟨trivial, trivial⟩, trivial⟩ ?_
            obtain ⟨r127, h127, E127, P127⟩ := d_X6_closes_p (ws0 := ws0) (tb := tb) hws htb sh ro I51 J52 A hI51  β η p_53 1 hb   ⟨by omega, by omega⟩ e1_53 (by omega) (by omega) KLT_I51 KTK_I51
            obtain ⟨I128, J129, rfl, hI128, g127, k127, KLT_I128, KTK_I128, ⟨z127, rfl, q127⟩⟩ := P127
            have FI128 := gc_frc (W := fun q j => (q = 39 ∧ j = 3) ∨ (q = 39 ∧ j = 4) ∨ (q = 23 ∧ j = 5) ∨ (q = 23 ∧ j = 6) ∨ (q = 23 ∧ j = 7) ∨ (q = 23 ∧ j = 8) ∨ (q = 1 ∧ j = 17) ∨ (q = 1 ∧ j = 18) ∨ q = 20 ∨ q = 41 ∨ q = (t + 10) ∨ (q = t ∧ j = 6)) (V := fun q j => (q = 39 ∧ j = 3) ∨ (q = 39 ∧ j = 4) ∨ (q = 23 ∧ j = 5) ∨ (q = 23 ∧ j = 6) ∨ (q = 23 ∧ j = 7) ∨ (q = 23 ∧ j = 8)) FI51 (fun q j h => (h.elim (fun h => (Or.inl h)) (fun h => (h.elim (fun h => (Or.inr (Or.inl h))) (fun h => (h.elim (fun h => (Or.inr (Or.inr (Or.inl h)))) (fun h => (h.elim (fun h => (Or.inr (Or.inr (Or.inr (Or.inl h))))) (fun h => (h.elim (fun h => (Or.inr (Or.inr (Or.inr (Or.inr (Or.inl h)))))) (fun h => (Or.inr (Or.inr (Or.inr (Or.inr (Or.inr (Or.inl h))))))))))))))))) g127
            have FJ129 := gc_frc (W := fun q j => (q = 23 ∧ j = 9)) (V := fun q j => (q = 23 ∧ j = 9)) FJ52 (fun q j h => h) k127
            have t130 := (g127 23 1).resolve_left (fun h => h.elim (fun h => absurd h.2 (by decide)) (fun h => h.elim (fun h => absurd h.2 (by decide)) (fun h => h.elim (fun h => absurd h.2 (by decide)) (fun h => h.elim (fun h => absurd h.2 (by decide)) (fun h => h.elim (fun h => absurd h.2 (by decide)) (fun h => absurd h.2 (by decide)))))))
            have t131 := (g127 1 17).resolve_left (fun h => h.elim (fun h => absurd h.2 (by decide)) (fun h => h.elim (fun h => absurd h.2 (by decide)) (fun h => h.elim (fun h => absurd h.2 (by decide)) (fun h => h.elim (fun h => absurd h.2 (by decide)) (fun h => h.elim (fun h => absurd h.2 (by decide)) (fun h => absurd h.2 (by decide)))))))
            have t132 := (g127 t 6).resolve_left (fun h => h.elim (fun h => absurd h.2 (by decide)) (fun h => h.elim (fun h => absurd h.2 (by decide)) (fun h => h.elim (fun h => absurd h.2 (by decide)) (fun h => h.elim (fun h => absurd h.1 N_t__23) (fun h => h.elim (fun h => absurd h.2 (by decide)) (fun h => absurd h.2 (by decide)))))))
            have t133 := (g127 1 18).resolve_left (fun h => h.elim (fun h => absurd h.2 (by decide)) (fun h => h.elim (fun h => absurd h.2 (by decide)) (fun h => h.elim (fun h => absurd h.2 (by decide)) (fun h => h.elim (fun h => absurd h.2 (by decide)) (fun h => h.elim (fun h => absurd h.2 (by decide)) (fun h => absurd h.2 (by decide)))))))
            have t134 := (g127 39 5).resolve_left (fun h => h.elim (fun h => absurd h.2 (by decide)) (fun h => h.elim (fun h => absurd h.2 (by decide)) (fun h => h.elim (fun h => absurd h.1 (by decide)) (fun h => h.elim (fun h => absurd h.2 (by decide)) (fun h => h.elim (fun h => absurd h.2 (by decide)) (fun h => absurd h.2 (by decide)))))))
            have t135 := (g127 39 2).resolve_left (fun h => h.elim (fun h => absurd h.2 (by decide)) (fun h => h.elim (fun h => absurd h.2 (by decide)) (fun h => h.elim (fun h => absurd h.2 (by decide)) (fun h => h.elim (fun h => absurd h.2 (by decide)) (fun h => h.elim (fun h => absurd h.2 (by decide)) (fun h => absurd h.2 (by decide)))))))
            have t136 := (g127 41 5).resolve_left (fun h => h.elim (fun h => absurd h.2 (by decide)) (fun h => h.elim (fun h => absurd h.2 (by decide)) (fun h => h.elim (fun h => absurd h.1 (by decide)) (fun h => h.elim (fun h => absurd h.2 (by decide)) (fun h => h.elim (fun h => absurd h.2 (by decide)) (fun h => absurd h.2 (by decide)))))))
            have t137 := (g127 41 6).resolve_left (fun h => h.elim (fun h => absurd h.2 (by decide)) (fun h => h.elim (fun h => absurd h.2 (by decide)) (fun h => h.elim (fun h => absurd h.2 (by decide)) (fun h => h.elim (fun h => absurd h.1 (by decide)) (fun h => h.elim (fun h => absurd h.2 (by decide)) (fun h => absurd h.2 (by decide)))))))
            have f138 := (show 0 ≤ I128 23 5 ∧ I128 23 5 ≤ 1000 from gc_in hI128 R_23 rfl rfl)
            have f139 := (show 0 ≤ I128 23 6 ∧ I128 23 6 ≤ 1001 from gc_in hI128 R_23 rfl rfl)
            have f140 := (show 0 ≤ I128 23 7 ∧ I128 23 7 ≤ 125 from gc_in hI128 R_23 rfl rfl)
            have t141 := gc_TK_mo KTK_I128
            have KSC_I128 := gc_sc_fr KSC_I51 (fun k => (g127 (t + 10) k).resolve_left (fun h => h.elim (fun h => absurd h.1 N_t_10__39) (fun h => h.elim (fun h => absurd h.1 N_t_10__39) (fun h => h.elim (fun h => absurd h.1 N_t_10__23) (fun h => h.elim (fun h => absurd h.1 N_t_10__23) (fun h => h.elim (fun h => absurd h.1 N_t_10__23) (fun h => absurd h.1 N_t_10__23)))))))
            have KRS_I128 := gc_row_fr KRS_I51 (fun k => (g127 41 k).resolve_left (fun h => h.elim (fun h => absurd h.1 (by decide)) (fun h => h.elim (fun h => absurd h.1 (by decide)) (fun h => h.elim (fun h => absurd h.1 (by decide)) (fun h => h.elim (fun h => absurd h.1 (by decide)) (fun h => h.elim (fun h => absurd h.1 (by decide)) (fun h => absurd h.1 (by decide))))))))
            have KRC_I128 := gc_RC_fr KRC_I51 (fun k => (g127 41 k).resolve_left (fun h => h.elim (fun h => absurd h.1 (by decide)) (fun h => h.elim (fun h => absurd h.1 (by decide)) (fun h => h.elim (fun h => absurd h.1 (by decide)) (fun h => h.elim (fun h => absurd h.1 (by decide)) (fun h => h.elim (fun h => absurd h.1 (by decide)) (fun h => absurd h.1 (by decide))))))))
            refine gv_callV hD rfl (As := [.inl 1]) (st := []) rfl B_39 S_39 rfl (gc_lV6 hws rfl) (Nat.le_of_ble_eq_true rfl) (gz_Ev_mono (d := 4) (by decide) E127) ?_
            show gv_X _ _ (204, [(0, .inr (.inr (some 39)))], [.inl z127], sh, gc_h sh I128 J129 A)
            refine gv_if_ne (t := 209) hD rfl rfl ⟨by omega, by omega⟩ (fun c142 => ?_) (fun c142 => ?_)
            · show gv_X _ _ (209, [(0, .inr (.inr (some 39)))], [], sh, gc_h sh I128 J129 A)
              have V143 := q127.2.2.2.2.2
              rw [show I51 39 5 = I 39 5 from by omega] at V143
              rw [show (if (1 : Int) = 0 then (1 : Int) else 0) = 0 from if_neg (by decide)] at V143
              obtain ⟨u143, A143⟩ := gs_or1 V143 (by omega)
              have t144 := gc_AT_l A143
              refine gv_run 1 true hD (pc' := 210) (lv' := [(0, .inr (.inr (some 39)))]) (st' := [.inr (.inr (some 39))]) (h' := gc_h sh I128 J129 A) (C := (True ∧ True)) rfl ⟨trivial, trivial⟩ ?_
              refine gv_get hD rfl rfl S_39 ⟨by decide, B_39⟩ (gc_hA S_39 rfl A_39_10) ?_
              show gv_X _ _ (213, [(0, .inr (.inr (some 39)))], [.inr (.inr (some 41))], sh, gc_h sh I128 J129 A)
              refine gv_run 2 true hD (pc' := 215) (lv' := [(0, .inr (.inr (some 39)))]) (st' := [.inr (.inr (some 39)), .inl 0, .inr (.inr (some 41))]) (h' := gc_h sh I128 J129 A) (C := ((True ∧ True) ∧ True)) rfl ⟨⟨trivial, trivial⟩, trivial⟩ ?_
              refine gv_get hD rfl rfl S_39 ⟨by decide, B_39⟩ (gc_h5 (t := t) S_39 rfl (by omega)) ?_
              show gv_X _ _ (218, [(0, .inr (.inr (some 39)))], [.inr (.inr (some t)), .inl 0, .inr (.inr (some 41))], sh, gc_h sh I128 J129 A)
              refine gv_get hD rfl rfl S_t ⟨by decide, B_t⟩ (gc_hA S_t rfl A_t_7) ?_
              show gv_X _ _ (221, [(0, .inr (.inr (some 39)))], [.inr (.inr (some (t + 10))), .inl 0, .inr (.inr (some 41))], sh, gc_h sh I128 J129 A)
              refine gv_run 1 true hD (pc' := 222) (lv' := [(0, .inr (.inr (some 39)))]) (st' := [.inr (.inr (some 39)), .inr (.inr (some (t + 10))), .inl 0, .inr (.inr (some 41))]) (h' := gc_h sh I128 J129 A) (C := (True ∧ True)) rfl ⟨trivial, trivial⟩ ?_
              refine gv_get hD rfl rfl S_39 ⟨by decide, B_39⟩ (gc_h5 (t := t) S_39 rfl (by omega)) ?_
              show gv_X _ _ (225, [(0, .inr (.inr (some 39)))], [.inr (.inr (some t)), .inr (.inr (some (t + 10))), .inl 0, .inr (.inr (some 41))], sh, gc_h sh I128 J129 A)
              have f145 := (show 0 ≤ I128 t 6 ∧ I128 t 6 ≤ 24 from gc_in hI128 R_t rfl rfl)
              refine gv_get hD rfl rfl S_t ⟨by decide, B_t⟩ (gc_hI S_t rfl) ?_
              show gv_X _ _ (228, [(0, .inr (.inr (some 39)))], [.inl (I128 t 6), .inr (.inr (some (t + 10))), .inl 0, .inr (.inr (some 41))], sh, gc_h sh I128 J129 A)
              refine gv_run 3 true hD (pc' := 233) (lv' := [(0, .inr (.inr (some 39)))]) (st' := [.inl 25, .inl ((I128 t 6) * 25), .inr (.inr (some (t + 10))), .inl 0, .inr (.inr (some 41))]) (h' := gc_h sh I128 J129 A) (C := (((True ∧ True) ∧ True) ∧ True)) rfl ⟨⟨⟨trivial, trivial⟩, trivial⟩, trivial⟩ ?_
              refine gv_copy hD rfl (gc_lC6_263 hws) (Nat.le_of_ble_eq_true rfl) ⟨B_41, B_t_10⟩ S_41 S_t_10 (by decide) ⟨by decide, by decide⟩ ⟨by omega, by omega, by omega⟩ (by omega) (by omega) (fun h => absurd h (by decide)) ?_
              refine gc_cp hI128 S_41 S_t_10 (by decide) (fun j hj => gc_RS_cp KRS_I128 R_t_10 (by omega) (by decide) hj) (fun I147 hI147 p146 q146 => ?_)
              have FI147 := gc_frp (W := fun q j => (q = 39 ∧ j = 3) ∨ (q = 39 ∧ j = 4) ∨ (q = 23 ∧ j = 5) ∨ (q = 23 ∧ j = 6) ∨ (q = 23 ∧ j = 7) ∨ (q = 23 ∧ j = 8) ∨ (q = 1 ∧ j = 17) ∨ (q = 1 ∧ j = 18) ∨ q = 20 ∨ q = 41 ∨ q = (t + 10) ∨ (q = t ∧ j = 6)) (V := fun q j => q = (t + 10) ∧ Int.toNat (((I128 t 6) * 25)) ≤ j ∧ j < Int.toNat (((I128 t 6) * 25)) + Int.toNat 25) FI128 (fun q j h => (Or.inr (Or.inr (Or.inr (Or.inr (Or.inr (Or.inr (Or.inr (Or.inr (Or.inr (Or.inr (Or.inl h.1)))))))))))) p146
              have KLT_I147 := gc_LT_fr KLT_I128 (p146 23 5 (fun h => absurd h.1 N_23__t_10)) (p146 23 6 (fun h => absurd h.1 N_23__t_10)) (p146 23 7 (fun h => absurd h.1 N_23__t_10)) (fun k => p146 24 k (fun h => absurd h.1 N_24__t_10))
              have KTK_I147 := gc_TK_fr KTK_I128 (p146 23 1 (fun h => absurd h.1 N_23__t_10)) (p146 23 5 (fun h => absurd h.1 N_23__t_10)) (p146 23 6 (fun h => absurd h.1 N_23__t_10)) (p146 23 7 (fun h => absurd h.1 N_23__t_10))
              have KRS_I147 := gc_row_fr KRS_I128 (fun k => p146 41 k (fun h => absurd h.1 N_41__t_10))
              have KRC_I147 := gc_RC_fr KRC_I128 (fun k => p146 41 k (fun h => absurd h.1 N_41__t_10))
              have KSC_I147 : gc_sc (t + 10) I147 := gc_sc_cp KSC_I128 KRC_I128 p146 q146 (by omega) (by decide) (by decide)
              have t149 := p146 23 1 (fun h => absurd h.1 N_23__t_10)
              have t150 := p146 23 5 (fun h => absurd h.1 N_23__t_10)
              have t151 := p146 23 6 (fun h => absurd h.1 N_23__t_10)
              have t152 := p146 23 7 (fun h => absurd h.1 N_23__t_10)
              have t153 := p146 1 17 (fun h => absurd h.1 N_1__t_10)
              have t154 := p146 t 6 (fun h => absurd h.1 N_t__t_10)
              have t155 := p146 1 18 (fun h => absurd h.1 N_1__t_10)
              have t156 := p146 39 5 (fun h => absurd h.1 N_39__t_10)
              have t157 := p146 39 2 (fun h => absurd h.1 N_39__t_10)
              have t158 := p146 41 5 (fun h => absurd h.1 N_41__t_10)
              have t159 := p146 41 6 (fun h => absurd h.1 N_41__t_10)
              have t160 := gc_TK_mo KTK_I147
              have f161 := (show 0 ≤ I147 23 1 ∧ I147 23 1 ≤ 1000 from gc_in hI147 R_23 rfl rfl)
              have f162 := (show 0 ≤ I147 23 5 ∧ I147 23 5 ≤ 1000 from gc_in hI147 R_23 rfl rfl)
              have f163 := (show 0 ≤ I147 23 6 ∧ I147 23 6 ≤ 1001 from gc_in hI147 R_23 rfl rfl)
              have f164 := (show 0 ≤ I147 23 7 ∧ I147 23 7 ≤ 125 from gc_in hI147 R_23 rfl rfl)
              have f165 := (show 0 ≤ I147 1 17 ∧ I147 1 17 ≤ 12000 from gc_in hI147 R_1 rfl rfl)
              have f166 := (show 0 ≤ I147 t 6 ∧ I147 t 6 ≤ 24 from gc_in hI147 R_t rfl rfl)
              have f167 := (show 0 ≤ I147 1 18 ∧ I147 1 18 ≤ 1 from gc_in hI147 R_1 rfl rfl)
              have f168 := (show 0 ≤ I147 39 5 ∧ I147 39 5 ≤ 1000 from gc_in hI147 R_39 rfl rfl)
              have f169 := (show (-1) ≤ I147 39 2 ∧ I147 39 2 ≤ 999999 from gc_in hI147 R_39 rfl rfl)
              have A170 := gc_AT_I A143 (p146 23 1 (fun h => absurd h.1 N_23__t_10)) (p146 23 5 (fun h => absurd h.1 N_23__t_10)) (p146 23 6 (fun h => absurd h.1 N_23__t_10)) (p146 23 7 (fun h => absurd h.1 N_23__t_10)) (p146 23 8 (fun h => absurd h.1 N_23__t_10)) (fun k => p146 24 k (fun h => absurd h.1 N_24__t_10))
              show gv_X _ _ (236, [(0, .inr (.inr (some 39)))], [], sh, gc_h sh I147 J129 A)
              refine gv_run 1 true hD (pc' := 237) (lv' := [(0, .inr (.inr (some 39)))]) (st' := [.inr (.inr (some 39))]) (h' := gc_h sh I147 J129 A) (C := (True ∧ True)) rfl ⟨trivial, trivial⟩ ?_
              refine gv_get hD rfl rfl S_39 ⟨by decide, B_39⟩ (gc_h5 (t := t) S_39 rfl (by omega)) ?_
              show gv_X _ _ (240, [(0, .inr (.inr (some 39)))], [.inr (.inr (some t))], sh, gc_h sh I147 J129 A)
              refine gv_run 1 true hD (pc' := 241) (lv' := [(0, .inr (.inr (some 39)))]) (st' := [.inr (.inr (some t)), .inr (.inr (some t))]) (h' := gc_h sh I147 J129 A) (C := (True ∧ True)) rfl ⟨trivial, trivial⟩ ?_
              have f171 := (show 0 ≤ I147 t 6 ∧ I147 t 6 ≤ 24 from gc_in hI147 R_t rfl rfl)
              refine gv_get hD rfl rfl S_t ⟨by decide, B_t⟩ (gc_hI S_t rfl) ?_
              show gv_X _ _ (244, [(0, .inr (.inr (some 39)))], [.inl (I147 t 6), .inr (.inr (some t))], sh, gc_h sh I147 J129 A)
              refine gv_run 2 true hD (pc' := 246) (lv' := [(0, .inr (.inr (some 39)))]) (st' := [.inl ((I147 t 6) + 1), .inr (.inr (some t))]) (h' := gc_h sh I147 J129 A) (C := ((True ∧ True) ∧ True)) rfl ⟨⟨trivial, trivial⟩, trivial⟩ ?_
              refine gv_put hD rfl rfl S_t ⟨by decide, B_t⟩ rfl trivial ?_
              refine gc_st (k := 6) hI147 S_t rfl R_t (lo := 0) (hi := 24) rfl rfl (by omega) (by omega) (fun I172 hI172 q173 p173 => ?_)
              have FI172 := gc_frs (W := fun q j => (q = 39 ∧ j = 3) ∨ (q = 39 ∧ j = 4) ∨ (q = 23 ∧ j = 5) ∨ (q = 23 ∧ j = 6) ∨ (q = 23 ∧ j = 7) ∨ (q = 23 ∧ j = 8) ∨ (q = 1 ∧ j = 17) ∨ (q = 1 ∧ j = 18) ∨ q = 20 ∨ q = 41 ∨ q = (t + 10) ∨ (q = t ∧ j = 6)) FI147 (Or.inr (Or.inr (Or.inr (Or.inr (Or.inr (Or.inr (Or.inr (Or.inr (Or.inr (Or.inr (Or.inr ⟨rfl, rfl⟩))))))))))) p173
              have t174 := p173 23 1 (fun h => absurd h.2 (by decide))
              have t175 := p173 23 5 (fun h => absurd h.2 (by decide))
              have t176 := p173 23 6 (fun h => absurd h.1 N_23__t)
              have t177 := p173 23 7 (fun h => absurd h.2 (by decide))
              have t178 := p173 1 17 (fun h => absurd h.2 (by decide))
              have t179 := p173 1 18 (fun h => absurd h.2 (by decide))
              have t180 := p173 39 5 (fun h => absurd h.2 (by decide))
              have t181 := p173 39 2 (fun h => absurd h.2 (by decide))
              have t182 := p173 41 5 (fun h => absurd h.2 (by decide))
              have t183 := p173 41 6 (fun h => absurd h.1 N_41__t)
              have f184 := (show 0 ≤ I172 t 6 ∧ I172 t 6 ≤ 24 from gc_in hI172 R_t rfl rfl)
              have KLT_I172 := gc_LT_fr KLT_I147 (p173 23 5 (fun h => absurd h.2 (by decide))) (p173 23 6 (fun h => absurd h.1 N_23__t)) (p173 23 7 (fun h => absurd h.2 (by decide))) (fun k => p173 24 k (fun h => absurd h.1 N_24__t))
              have KTK_I172 := gc_TK_fr KTK_I147 (p173 23 1 (fun h => absurd h.2 (by decide))) (p173 23 5 (fun h => absurd h.2 (by decide))) (p173 23 6 (fun h => absurd h.1 N_23__t)) (p173 23 7 (fun h => absurd h.2 (by decide)))
              have KSC_I172 := gc_sc_fr KSC_I147 (fun k => p173 (t + 10) k (fun h => absurd h.1 N_t_10__t))
              have KRS_I172 := gc_row_fr KRS_I147 (fun k => p173 41 k (fun h => absurd h.1 N_41__t))
              have KRC_I172 := gc_RC_fr KRC_I147 (fun k => p173 41 k (fun h => absurd h.1 N_41__t))
              have A185 := gc_AT_I A170 (p173 23 1 (fun h => absurd h.2 (by decide))) (p173 23 5 (fun h => absurd h.2 (by decide))) (p173 23 6 (fun h => absurd h.1 N_23__t)) (p173 23 7 (fun h => absurd h.2 (by decide))) (p173 23 8 (fun h => absurd h.2 (by decide))) (fun k => p173 24 k (fun h => absurd h.1 N_24__t))
              show gv_X _ _ (249, [(0, .inr (.inr (some 39)))], [], sh, gc_h sh I172 J129 A)
              refine gv_run 1 true hD (pc' := 250) (lv' := [(0, .inr (.inr (some 39)))]) (st' := [.inl 1]) (h' := gc_h sh I172 J129 A) (C := (True ∧ True)) rfl ⟨trivial, trivial⟩ ?_
              exact gv_zret hD rfl (by omega) ⟨I172, J129, rfl, hI172, FI172, FJ129, KLT_I172, KTK_I172, KSC_I172, ⟨_, rfl, by omega, by omega, by omega, by omega, by omega, (Or.inl ⟨by omega, by have e9 : (gs_snd β η Ir Jr (I 39 5) p9) = (gs_done β η 0 (I 39 5) p_53) := (by first | (exfalso; omega) | (rw [e2_53]; unfold gs_snd6; (repeat first | rw [if_pos (by omega)] | rw [if_neg (by omega)]))); rw [e9]; exact ⟨by omega, A185, by omega⟩⟩)⟩⟩
            · show gv_X _ _ (207, [(0, .inr (.inr (some 39)))], [], sh, gc_h sh I128 J129 A)
              have V186 := q127.2.2.2.2.2
              rw [show I51 39 5 = I 39 5 from by omega] at V186
              rw [show (if (1 : Int) = 0 then (1 : Int) else 0) = 0 from if_neg (by decide)] at V186
              obtain ⟨u186, u186_⟩ := gs_or0 V186 (by omega)
              refine gv_run 1 true hD (pc' := 208) (lv' := [(0, .inr (.inr (some 39)))]) (st' := [.inl 0]) (h' := gc_h sh I128 J129 A) (C := (True ∧ True)) rfl ⟨trivial, trivial⟩ ?_
              exact gv_zret hD rfl (by omega) ⟨I128, J129, rfl, hI128, FI128, FJ129, KLT_I128, KTK_I128, KSC_I128, ⟨_, rfl, by omega, by omega, by omega, by omega, by omega, (Or.inr ⟨by omega, by first | (exfalso; omega) | (rw [e2_53]; unfold gs_snd6; (repeat first | rw [if_pos (by omega)] | rw [if_neg (by omega)]); exact ⟨by omega, by omega, by omega⟩)⟩)⟩⟩
        refine gv_run 1 true hD (pc' := 103) (lv' := [(0, .inr (.inr (some 39)))]) (st' := [.inr (.inr (some 39))]) (h' := gc_h sh I37 J38 A) (C := (True ∧ True)) rfl ⟨trivial, trivial⟩ ?_
        refine gv_get hD rfl rfl S_39 ⟨by decide, B_39⟩ (gc_hA S_39 rfl A_39_10) ?_
        show gv_X _ _ (106, [(0, .inr (.inr (some 39)))], [.inr (.inr (some 41))], sh, gc_h sh I37 J38 A)
        refine gv_run 2 true hD (pc' := 108) (lv' := [(0, .inr (.inr (some 39)))]) (st' := [.inr (.inr (some 39)), .inl 3, .inr (.inr (some 41))]) (h' := gc_h sh I37 J38 A) (C := ((True ∧ True) ∧ True)) rfl ⟨⟨trivial, trivial⟩, trivial⟩ ?_
        obtain ⟨r187, h187, E187, P187⟩ := d_X6_keepLetters_p (ws0 := ws0) (tb := tb) hws htb sh ro I37 J38 A hI37   hb    (by omega) (by omega) KLT_I37 KTK_I37
        obtain ⟨I188, J189, rfl, hI188, g187, k187, KLT_I188, KTK_I188, ⟨z187, rfl, q187⟩⟩ := P187
        have FI188 := gc_frc (W := fun q j => (q = 39 ∧ j = 3) ∨ (q = 39 ∧ j = 4) ∨ (q = 23 ∧ j = 5) ∨ (q = 23 ∧ j = 6) ∨ (q = 23 ∧ j = 7) ∨ (q = 23 ∧ j = 8) ∨ (q = 1 ∧ j = 17) ∨ (q = 1 ∧ j = 18) ∨ q = 20 ∨ q = 41 ∨ q = (t + 10) ∨ (q = t ∧ j = 6)) (V := fun q j => (q = 1 ∧ j = 17) ∨ (q = 1 ∧ j = 18) ∨ q = 20) FI37 (fun q j h => (h.elim (fun h => (Or.inr (Or.inr (Or.inr (Or.inr (Or.inr (Or.inr (Or.inl h)))))))) (fun h => (h.elim (fun h => (Or.inr (Or.inr (Or.inr (Or.inr (Or.inr (Or.inr (Or.inr (Or.inl h))))))))) (fun h => (Or.inr (Or.inr (Or.inr (Or.inr (Or.inr (Or.inr (Or.inr (Or.inr (Or.inl h)))))))))))))) g187
        have t190 := (g187 23 1).resolve_left (fun h => h.elim (fun h => absurd h.2 (by decide)) (fun h => h.elim (fun h => absurd h.2 (by decide)) (fun h => absurd h (by decide))))
        have t191 := (g187 23 5).resolve_left (fun h => h.elim (fun h => absurd h.2 (by decide)) (fun h => h.elim (fun h => absurd h.2 (by decide)) (fun h => absurd h (by decide))))
        have t192 := (g187 23 6).resolve_left (fun h => h.elim (fun h => absurd h.2 (by decide)) (fun h => h.elim (fun h => absurd h.2 (by decide)) (fun h => absurd h (by decide))))
        have t193 := (g187 23 7).resolve_left (fun h => h.elim (fun h => absurd h.2 (by decide)) (fun h => h.elim (fun h => absurd h.2 (by decide)) (fun h => absurd h (by decide))))
        have t194 := (g187 t 6).resolve_left (fun h => h.elim (fun h => absurd h.2 (by decide)) (fun h => h.elim (fun h => absurd h.2 (by decide)) (fun h => absurd h N_t__20)))
        have t195 := (g187 39 5).resolve_left (fun h => h.elim (fun h => absurd h.2 (by decide)) (fun h => h.elim (fun h => absurd h.2 (by decide)) (fun h => absurd h (by decide))))
        have t196 := (g187 39 2).resolve_left (fun h => h.elim (fun h => absurd h.2 (by decide)) (fun h => h.elim (fun h => absurd h.2 (by decide)) (fun h => absurd h (by decide))))
        have t197 := (g187 41 5).resolve_left (fun h => h.elim (fun h => absurd h.2 (by decide)) (fun h => h.elim (fun h => absurd h.2 (by decide)) (fun h => absurd h (by decide))))
        have t198 := (g187 41 6).resolve_left (fun h => h.elim (fun h => absurd h.2 (by decide)) (fun h => h.elim (fun h => absurd h.2 (by decide)) (fun h => absurd h (by decide))))
        have f199 := (show 0 ≤ I188 1 17 ∧ I188 1 17 ≤ 12000 from gc_in hI188 R_1 rfl rfl)
        have f200 := (show 0 ≤ I188 1 18 ∧ I188 1 18 ≤ 1 from gc_in hI188 R_1 rfl rfl)
        obtain rfl : J38 = J189 := funext fun q => funext fun j => ((k187 q j).resolve_left id).symm
        have KSC_I188 := gc_sc_fr KSC_I37 (fun k => (g187 (t + 10) k).resolve_left (fun h => h.elim (fun h => absurd h.1 N_t_10__1) (fun h => h.elim (fun h => absurd h.1 N_t_10__1) (fun h => absurd h N_t_10__20))))
        have KRS_I188 := gc_row_fr KRS_I37 (fun k => (g187 41 k).resolve_left (fun h => h.elim (fun h => absurd h.1 (by decide)) (fun h => h.elim (fun h => absurd h.1 (by decide)) (fun h => absurd h (by decide)))))
        have KRC_I188 := gc_RC_fr KRC_I37 (fun k => (g187 41 k).resolve_left (fun h => h.elim (fun h => absurd h.1 (by decide)) (fun h => h.elim (fun h => absurd h.1 (by decide)) (fun h => absurd h (by decide)))))
        have A201 := gc_AT_I e1_39 ((g187 23 1).resolve_left (fun h => h.elim (fun h => absurd h.2 (by decide)) (fun h => h.elim (fun h => absurd h.2 (by decide)) (fun h => absurd h (by decide))))) ((g187 23 5).resolve_left (fun h => h.elim (fun h => absurd h.2 (by decide)) (fun h => h.elim (fun h => absurd h.2 (by decide)) (fun h => absurd h (by decide))))) ((g187 23 6).resolve_left (fun h => h.elim (fun h => absurd h.2 (by decide)) (fun h => h.elim (fun h => absurd h.2 (by decide)) (fun h => absurd h (by decide))))) ((g187 23 7).resolve_left (fun h => h.elim (fun h => absurd h.2 (by decide)) (fun h => h.elim (fun h => absurd h.2 (by decide)) (fun h => absurd h (by decide))))) ((g187 23 8).resolve_left (fun h => h.elim (fun h => absurd h.2 (by decide)) (fun h => h.elim (fun h => absurd h.2 (by decide)) (fun h => absurd h (by decide))))) (fun k => (g187 24 k).resolve_left (fun h => h.elim (fun h => absurd h.1 (by decide)) (fun h => h.elim (fun h => absurd h.1 (by decide)) (fun h => absurd h (by decide)))))
        have t202 := gc_AT_l A201
        refine gv_callV hD rfl (As := []) (st := [.inl 3, .inr (.inr (some 41))]) rfl B_39 S_39 rfl (gc_lV6 hws rfl) (Nat.le_of_ble_eq_true rfl) (gz_Ev_mono (d := 2) (by decide) E187) ?_
        show gv_X _ _ (111, [(0, .inr (.inr (some 39)))], [.inl z187, .inl 3, .inr (.inr (some 41))], sh, gc_h sh I188 J38 A)
        refine gv_iast hD rfl S_41 ⟨by decide, B_41⟩ ⟨by omega, by omega⟩ ?_
        refine gc_st (k := 3) hI188 S_41 rfl R_41 (lo := (-2147483648)) (hi := 2147483647) rfl rfl (by omega) (by omega) (fun I203 hI203 q204 p204 => ?_)
        have FI203 := gc_frs (W := fun q j => (q = 39 ∧ j = 3) ∨ (q = 39 ∧ j = 4) ∨ (q = 23 ∧ j = 5) ∨ (q = 23 ∧ j = 6) ∨ (q = 23 ∧ j = 7) ∨ (q = 23 ∧ j = 8) ∨ (q = 1 ∧ j = 17) ∨ (q = 1 ∧ j = 18) ∨ q = 20 ∨ q = 41 ∨ q = (t + 10) ∨ (q = t ∧ j = 6)) FI188 (Or.inr (Or.inr (Or.inr (Or.inr (Or.inr (Or.inr (Or.inr (Or.inr (Or.inr (Or.inl rfl)))))))))) p204
        have t205 := p204 23 1 (fun h => absurd h.2 (by decide))
        have t206 := p204 23 5 (fun h => absurd h.2 (by decide))
        have t207 := p204 23 6 (fun h => absurd h.2 (by decide))
        have t208 := p204 23 7 (fun h => absurd h.2 (by decide))
        have t209 := p204 1 17 (fun h => absurd h.2 (by decide))
        have t210 := p204 t 6 (fun h => absurd h.2 (by decide))
        have t211 := p204 1 18 (fun h => absurd h.2 (by decide))
        have t212 := p204 39 5 (fun h => absurd h.2 (by decide))
        have t213 := p204 39 2 (fun h => absurd h.2 (by decide))
        have t214 := p204 41 5 (fun h => absurd h.2 (by omega))
        have t215 := p204 41 6 (fun h => absurd h.2 (by omega))
        have KLT_I203 := gc_LT_fr KLT_I188 (p204 23 5 (fun h => absurd h.2 (by decide))) (p204 23 6 (fun h => absurd h.2 (by decide))) (p204 23 7 (fun h => absurd h.2 (by decide))) (fun k => p204 24 k (fun h => absurd h.1 (by decide)))
        have KTK_I203 := gc_TK_fr KTK_I188 (p204 23 1 (fun h => absurd h.2 (by decide))) (p204 23 5 (fun h => absurd h.2 (by decide))) (p204 23 6 (fun h => absurd h.2 (by decide))) (p204 23 7 (fun h => absurd h.2 (by decide)))
        have KSC_I203 := gc_sc_fr KSC_I188 (fun k => p204 (t + 10) k (fun h => absurd h.1 N_t_10__41))
        have KRS_I203 := gc_row_st KRS_I188 p204 q204 (by unfold gc_fS; omega)
        have KRC_I203 : gc_RC I203 := gc_RC_st KRC_I188 p204 (by omega)
        have A216 := gc_AT_I A201 (p204 23 1 (fun h => absurd h.2 (by decide))) (p204 23 5 (fun h => absurd h.2 (by decide))) (p204 23 6 (fun h => absurd h.2 (by decide))) (p204 23 7 (fun h => absurd h.2 (by decide))) (p204 23 8 (fun h => absurd h.2 (by decide))) (fun k => p204 24 k (fun h => absurd h.1 (by decide)))
        show gv_X _ _ (112, [(0, .inr (.inr (some 39)))], [], sh, gc_h sh I203 J38 A)
        refine gv_run 1 true hD (pc' := 113) (lv' := [(0, .inr (.inr (some 39)))]) (st' := [.inr (.inr (some 39))]) (h' := gc_h sh I203 J38 A) (C := (True ∧ True)) rfl ⟨trivial, trivial⟩ ?_
        refine gv_get hD rfl rfl S_39 ⟨by decide, B_39⟩ (gc_hA S_39 rfl A_39_10) ?_
        show gv_X _ _ (116, [(0, .inr (.inr (some 39)))], [.inr (.inr (some 41))], sh, gc_h sh I203 J38 A)
        refine gv_run 2 true hD (pc' := 118) (lv' := [(0, .inr (.inr (some 39)))]) (st' := [.inr (.inr (some 39)), .inl 4, .inr (.inr (some 41))]) (h' := gc_h sh I203 J38 A) (C := ((True ∧ True) ∧ True)) rfl ⟨⟨trivial, trivial⟩, trivial⟩ ?_
        refine gv_get hD rfl rfl S_39 ⟨by decide, B_39⟩ (gc_hA S_39 rfl A_39_1) ?_
        show gv_X _ _ (121, [(0, .inr (.inr (some 39)))], [.inr (.inr (some 23)), .inl 4, .inr (.inr (some 41))], sh, gc_h sh I203 J38 A)
        have t218 := gc_TK_l3 KTK_I203 (by omega)
        obtain ⟨r217, h217, E217, P217⟩ := d_X9_lettersSize (ws0 := ws0) (tb := tb) hws htb sh ro I203 J38 A hI203 23  (gc_b23 hb)     
        obtain ⟨rfl, ⟨z217, rfl, q217⟩⟩ := P217
        refine gv_callV hD rfl (As := []) (st := [.inl 4, .inr (.inr (some 41))]) rfl B_23 S_23 rfl (gc_lV6 hws rfl) (Nat.le_of_ble_eq_true rfl) (gz_Ev_mono (d := 1) (by decide) E217) ?_
        show gv_X _ _ (124, [(0, .inr (.inr (some 39)))], [.inl z217, .inl 4, .inr (.inr (some 41))], sh, gc_h sh I203 J38 A)
        refine gv_iast hD rfl S_41 ⟨by decide, B_41⟩ ⟨by omega, by omega⟩ ?_
        refine gc_st (k := 4) hI203 S_41 rfl R_41 (lo := (-2147483648)) (hi := 2147483647) rfl rfl (by omega) (by omega) (fun I219 hI219 q220 p220 => ?_)
        have FI219 := gc_frs (W := fun q j => (q = 39 ∧ j = 3) ∨ (q = 39 ∧ j = 4) ∨ (q = 23 ∧ j = 5) ∨ (q = 23 ∧ j = 6) ∨ (q = 23 ∧ j = 7) ∨ (q = 23 ∧ j = 8) ∨ (q = 1 ∧ j = 17) ∨ (q = 1 ∧ j = 18) ∨ q = 20 ∨ q = 41 ∨ q = (t + 10) ∨ (q = t ∧ j = 6)) FI203 (Or.inr (Or.inr (Or.inr (Or.inr (Or.inr (Or.inr (Or.inr (Or.inr (Or.inr (Or.inl rfl)))))))))) p220
        have t221 := p220 23 1 (fun h => absurd h.2 (by decide))
        have t222 := p220 23 5 (fun h => absurd h.2 (by decide))
        have t223 := p220 23 6 (fun h => absurd h.2 (by decide))
        have t224 := p220 23 7 (fun h => absurd h.2 (by decide))
        have t225 := p220 1 17 (fun h => absurd h.2 (by decide))
        have t226 := p220 t 6 (fun h => absurd h.2 (by decide))
        have t227 := p220 1 18 (fun h => absurd h.2 (by decide))
        have t228 := p220 39 5 (fun h => absurd h.2 (by decide))
        have t229 := p220 39 2 (fun h => absurd h.2 (by decide))
        have t230 := p220 41 5 (fun h => absurd h.2 (by omega))
        have t231 := p220 41 6 (fun h => absurd h.2 (by omega))
        have KLT_I219 := gc_LT_fr KLT_I203 (p220 23 5 (fun h => absurd h.2 (by decide))) (p220 23 6 (fun h => absurd h.2 (by decide))) (p220 23 7 (fun h => absurd h.2 (by decide))) (fun k => p220 24 k (fun h => absurd h.1 (by decide)))
        have KTK_I219 := gc_TK_fr KTK_I203 (p220 23 1 (fun h => absurd h.2 (by decide))) (p220 23 5 (fun h => absurd h.2 (by decide))) (p220 23 6 (fun h => absurd h.2 (by decide))) (p220 23 7 (fun h => absurd h.2 (by decide)))
        have KSC_I219 := gc_sc_fr KSC_I203 (fun k => p220 (t + 10) k (fun h => absurd h.1 N_t_10__41))
        have KRS_I219 := gc_row_st KRS_I203 p220 q220 (by unfold gc_fS; omega)
        have KRC_I219 : gc_RC I219 := gc_RC_st KRC_I203 p220 (by omega)
        have A232 := gc_AT_I A216 (p220 23 1 (fun h => absurd h.2 (by decide))) (p220 23 5 (fun h => absurd h.2 (by decide))) (p220 23 6 (fun h => absurd h.2 (by decide))) (p220 23 7 (fun h => absurd h.2 (by decide))) (p220 23 8 (fun h => absurd h.2 (by decide))) (fun k => p220 24 k (fun h => absurd h.1 (by decide)))
        show gv_X _ _ (125, [(0, .inr (.inr (some 39)))], [], sh, gc_h sh I219 J38 A)
        refine gv_run 1 true hD (pc' := 126) (lv' := [(0, .inr (.inr (some 39)))]) (st' := [.inr (.inr (some 39))]) (h' := gc_h sh I219 J38 A) (C := (True ∧ True)) rfl ⟨trivial, trivial⟩ ?_
        refine gv_get hD rfl rfl S_39 ⟨by decide, B_39⟩ (gc_hA S_39 rfl A_39_1) ?_
        show gv_X _ _ (129, [(0, .inr (.inr (some 39)))], [.inr (.inr (some 23))], sh, gc_h sh I219 J38 A)
        have t234 := gc_TK_nx KTK_I219 (by omega)
        have t235 := gc_TK_st KTK_I219 (by omega)
        obtain ⟨r233, h233, E233, P233⟩ := d_X9_advance_p (ws0 := ws0) (tb := tb) hws htb sh ro I219 J38 A hI219 23 β η  (gc_b23 hb)    (by omega) A232.1.1 A232.1.2 
        obtain ⟨I236, J237, rfl, hI236, g233, k233, ⟨rfl, V233_0, V233_1, V233_2, V233_3, V233_4, q233⟩⟩ := P233
        have FI236 := gc_frc (W := fun q j => (q = 39 ∧ j = 3) ∨ (q = 39 ∧ j = 4) ∨ (q = 23 ∧ j = 5) ∨ (q = 23 ∧ j = 6) ∨ (q = 23 ∧ j = 7) ∨ (q = 23 ∧ j = 8) ∨ (q = 1 ∧ j = 17) ∨ (q = 1 ∧ j = 18) ∨ q = 20 ∨ q = 41 ∨ q = (t + 10) ∨ (q = t ∧ j = 6)) (V := fun q j => (q = 23 ∧ j = 5) ∨ (q = 23 ∧ j = 6) ∨ (q = 23 ∧ j = 7) ∨ (q = 23 ∧ j = 8)) FI219 (fun q j h => (h.elim (fun h => (Or.inr (Or.inr (Or.inl h)))) (fun h => (h.elim (fun h => (Or.inr (Or.inr (Or.inr (Or.inl h))))) (fun h => (h.elim (fun h => (Or.inr (Or.inr (Or.inr (Or.inr (Or.inl h)))))) (fun h => (Or.inr (Or.inr (Or.inr (Or.inr (Or.inr (Or.inl h))))))))))))) g233
        have FJ237 := gc_frc (W := fun q j => (q = 23 ∧ j = 9)) (V := fun q j => (q = 23 ∧ j = 9)) FJ38 (fun q j h => h) k233
        have t238 := (g233 23 1).resolve_left (fun h => h.elim (fun h => absurd h.2 (by decide)) (fun h => h.elim (fun h => absurd h.2 (by decide)) (fun h => h.elim (fun h => absurd h.2 (by decide)) (fun h => absurd h.2 (by decide)))))
        have t239 := (g233 1 17).resolve_left (fun h => h.elim (fun h => absurd h.2 (by decide)) (fun h => h.elim (fun h => absurd h.2 (by decide)) (fun h => h.elim (fun h => absurd h.2 (by decide)) (fun h => absurd h.2 (by decide)))))
        have t240 := (g233 t 6).resolve_left (fun h => h.elim (fun h => absurd h.2 (by decide)) (fun h => h.elim (fun h => absurd h.1 N_t__23) (fun h => h.elim (fun h => absurd h.2 (by decide)) (fun h => absurd h.2 (by decide)))))
        have t241 := (g233 1 18).resolve_left (fun h => h.elim (fun h => absurd h.2 (by decide)) (fun h => h.elim (fun h => absurd h.2 (by decide)) (fun h => h.elim (fun h => absurd h.2 (by decide)) (fun h => absurd h.2 (by decide)))))
        have t242 := (g233 39 5).resolve_left (fun h => h.elim (fun h => absurd h.1 (by decide)) (fun h => h.elim (fun h => absurd h.2 (by decide)) (fun h => h.elim (fun h => absurd h.2 (by decide)) (fun h => absurd h.2 (by decide)))))
        have t243 := (g233 39 2).resolve_left (fun h => h.elim (fun h => absurd h.2 (by decide)) (fun h => h.elim (fun h => absurd h.2 (by decide)) (fun h => h.elim (fun h => absurd h.2 (by decide)) (fun h => absurd h.2 (by decide)))))
        have t244 := (g233 41 5).resolve_left (fun h => h.elim (fun h => absurd h.1 (by decide)) (fun h => h.elim (fun h => absurd h.2 (by decide)) (fun h => h.elim (fun h => absurd h.2 (by decide)) (fun h => absurd h.2 (by decide)))))
        have t245 := (g233 41 6).resolve_left (fun h => h.elim (fun h => absurd h.2 (by decide)) (fun h => h.elim (fun h => absurd h.1 (by decide)) (fun h => h.elim (fun h => absurd h.2 (by decide)) (fun h => absurd h.2 (by decide)))))
        have f246 := (show 0 ≤ I236 23 5 ∧ I236 23 5 ≤ 1000 from gc_in hI236 R_23 rfl rfl)
        have f247 := (show 0 ≤ I236 23 6 ∧ I236 23 6 ≤ 1001 from gc_in hI236 R_23 rfl rfl)
        have f248 := (show 0 ≤ I236 23 7 ∧ I236 23 7 ≤ 125 from gc_in hI236 R_23 rfl rfl)
        have KLT_I236 : gc_LT I236 := q233.2.2.1
        have KSC_I236 := gc_sc_fr KSC_I219 (fun k => (g233 (t + 10) k).resolve_left (fun h => h.elim (fun h => absurd h.1 N_t_10__23) (fun h => h.elim (fun h => absurd h.1 N_t_10__23) (fun h => h.elim (fun h => absurd h.1 N_t_10__23) (fun h => absurd h.1 N_t_10__23)))))
        have KRS_I236 := gc_row_fr KRS_I219 (fun k => (g233 41 k).resolve_left (fun h => h.elim (fun h => absurd h.1 (by decide)) (fun h => h.elim (fun h => absurd h.1 (by decide)) (fun h => h.elim (fun h => absurd h.1 (by decide)) (fun h => absurd h.1 (by decide))))))
        have KRC_I236 := gc_RC_fr KRC_I219 (fun k => (g233 41 k).resolve_left (fun h => h.elim (fun h => absurd h.1 (by decide)) (fun h => h.elim (fun h => absurd h.1 (by decide)) (fun h => h.elim (fun h => absurd h.1 (by decide)) (fun h => absurd h.1 (by decide))))))
        have KTK_I236 : gc_TK I236 := And.intro V233_0 (And.intro V233_1 (And.intro V233_2 (And.intro V233_3 V233_4)))
        have t249 := gc_TK_mo KTK_I236
        clear V233_0 V233_1 V233_2 V233_3 V233_4
        have A250 := gc_AT_nx A232 q233.2.2.2
        have t251 := gc_AT_l A250
        refine gv_callV hD rfl (As := []) (st := []) rfl B_23 S_23 rfl (gc_lV6 hws rfl) (Nat.le_of_ble_eq_true rfl) (gz_Ev_mono (d := 2) (by decide) E233) ?_
        show gv_X _ _ (132, [(0, .inr (.inr (some 39)))], [], sh, gc_h sh I236 J237 A)
        refine gv_run 1 true hD (pc' := 133) (lv' := [(0, .inr (.inr (some 39)))]) (st' := [.inr (.inr (some 39))]) (h' := gc_h sh I236 J237 A) (C := (True ∧ True)) rfl ⟨trivial, trivial⟩ ?_
        refine gv_get hD rfl rfl S_39 ⟨by decide, B_39⟩ (gc_hA S_39 rfl A_39_1) ?_
        show gv_X _ _ (136, [(0, .inr (.inr (some 39)))], [.inr (.inr (some 23))], sh, gc_h sh I236 J237 A)
        have f252 := (show 0 ≤ I236 23 7 ∧ I236 23 7 ≤ 125 from gc_in hI236 R_23 rfl rfl)
        refine gv_get hD rfl rfl S_23 ⟨by decide, B_23⟩ (gc_hI S_23 rfl) ?_
        show gv_X _ _ (139, [(0, .inr (.inr (some 39)))], [.inl (I236 23 7)], sh, gc_h sh I236 J237 A)
        refine gv_run 1 true hD (pc' := 141) (lv' := [(0, .inr (.inr (some 39)))]) (st' := [.inl 47, .inl (I236 23 7)]) (h' := gc_h sh I236 J237 A) (C := (True ∧ True)) rfl ⟨trivial, trivial⟩ ?_
        refine gv_icmp_ne (t := 183) hD rfl rfl ⟨⟨by omega, by omega⟩, ⟨by omega, by omega⟩⟩ (fun c253 => ?_) (fun c253 => ?_)
        · show gv_X _ _ (183, [(0, .inr (.inr (some 39)))], [], sh, gc_h sh I236 J237 A)
          exact L183 I236 J237 (gs_X β η p_39) hI236 FI236 FJ237 KLT_I236 KTK_I236 KSC_I236 KRS_I236 KRC_I236 (by omega) A250 (by rw [e2_39]; unfold gs_snd3 gs_snd4 gs_snd5; (repeat first | rw [if_pos (by omega)] | rw [if_neg (by omega)])) (((((((g233 39 5).resolve_left (by omega)).trans (p220 39 5 (by omega))).trans (p204 39 5 (by omega))).trans ((g187 39 5).resolve_left (by omega))).trans (e3_39)))
        · show gv_X _ _ (144, [(0, .inr (.inr (some 39)))], [], sh, gc_h sh I236 J237 A)
          refine gv_run 1 true hD (pc' := 145) (lv' := [(0, .inr (.inr (some 39)))]) (st' := [.inr (.inr (some 39))]) (h' := gc_h sh I236 J237 A) (C := (True ∧ True)) rfl ⟨trivial, trivial⟩ ?_
          refine gv_get hD rfl rfl S_39 ⟨by decide, B_39⟩ (gc_hA S_39 rfl A_39_1) ?_
          show gv_X _ _ (148, [(0, .inr (.inr (some 39)))], [.inr (.inr (some 23))], sh, gc_h sh I236 J237 A)
          have t255 := gc_TK_nx KTK_I236 (by omega)
          have t256 := gc_TK_st KTK_I236 (by omega)
          obtain ⟨r254, h254, E254, P254⟩ := d_X9_advance_p (ws0 := ws0) (tb := tb) hws htb sh ro I236 J237 A hI236 23 β η  (gc_b23 hb)    (by omega) A250.1.1 A250.1.2 
          obtain ⟨I257, J258, rfl, hI257, g254, k254, ⟨rfl, V254_0, V254_1, V254_2, V254_3, V254_4, q254⟩⟩ := P254
          have FI257 := gc_frc (W := fun q j => (q = 39 ∧ j = 3) ∨ (q = 39 ∧ j = 4) ∨ (q = 23 ∧ j = 5) ∨ (q = 23 ∧ j = 6) ∨ (q = 23 ∧ j = 7) ∨ (q = 23 ∧ j = 8) ∨ (q = 1 ∧ j = 17) ∨ (q = 1 ∧ j = 18) ∨ q = 20 ∨ q = 41 ∨ q = (t + 10) ∨ (q = t ∧ j = 6)) (V := fun q j => (q = 23 ∧ j = 5) ∨ (q = 23 ∧ j = 6) ∨ (q = 23 ∧ j = 7) ∨ (q = 23 ∧ j = 8)) FI236 (fun q j h => (h.elim (fun h => (Or.inr (Or.inr (Or.inl h)))) (fun h => (h.elim (fun h => (Or.inr (Or.inr (Or.inr (Or.inl h))))) (fun h => (h.elim (fun h => (Or.inr (Or.inr (Or.inr (Or.inr (Or.inl h)))))) (fun h => (Or.inr (Or.inr (Or.inr (Or.inr (Or.inr (Or.inl h))))))))))))) g254
          have FJ258 := gc_frc (W := fun q j => (q = 23 ∧ j = 9)) (V := fun q j => (q = 23 ∧ j = 9)) FJ237 (fun q j h => h) k254
          have t259 := (g254 23 1).resolve_left (fun h => h.elim (fun h => absurd h.2 (by decide)) (fun h => h.elim (fun h => absurd h.2 (by decide)) (fun h => h.elim (fun h => absurd h.2 (by decide)) (fun h => absurd h.2 (by decide)))))
          have t260 := (g254 1 17).resolve_left (fun h => h.elim (fun h => absurd h.2 (by decide)) (fun h => h.elim (fun h => absurd h.2 (by decide)) (fun h => h.elim (fun h => absurd h.2 (by decide)) (fun h => absurd h.2 (by decide)))))
          have t261 := (g254 t 6).resolve_left (fun h => h.elim (fun h => absurd h.2 (by decide)) (fun h => h.elim (fun h => absurd h.1 N_t__23) (fun h => h.elim (fun h => absurd h.2 (by decide)) (fun h => absurd h.2 (by decide)))))
          have t262 := (g254 1 18).resolve_left (fun h => h.elim (fun h => absurd h.2 (by decide)) (fun h => h.elim (fun h => absurd h.2 (by decide)) (fun h => h.elim (fun h => absurd h.2 (by decide)) (fun h => absurd h.2 (by decide)))))
          have t263 := (g254 39 5).resolve_left (fun h => h.elim (fun h => absurd h.1 (by decide)) (fun h => h.elim (fun h => absurd h.2 (by decide)) (fun h => h.elim (fun h => absurd h.2 (by decide)) (fun h => absurd h.2 (by decide)))))
          have t264 := (g254 39 2).resolve_left (fun h => h.elim (fun h => absurd h.2 (by decide)) (fun h => h.elim (fun h => absurd h.2 (by decide)) (fun h => h.elim (fun h => absurd h.2 (by decide)) (fun h => absurd h.2 (by decide)))))
          have t265 := (g254 41 5).resolve_left (fun h => h.elim (fun h => absurd h.1 (by decide)) (fun h => h.elim (fun h => absurd h.2 (by decide)) (fun h => h.elim (fun h => absurd h.2 (by decide)) (fun h => absurd h.2 (by decide)))))
          have t266 := (g254 41 6).resolve_left (fun h => h.elim (fun h => absurd h.2 (by decide)) (fun h => h.elim (fun h => absurd h.1 (by decide)) (fun h => h.elim (fun h => absurd h.2 (by decide)) (fun h => absurd h.2 (by decide)))))
          have f267 := (show 0 ≤ I257 23 5 ∧ I257 23 5 ≤ 1000 from gc_in hI257 R_23 rfl rfl)
          have f268 := (show 0 ≤ I257 23 6 ∧ I257 23 6 ≤ 1001 from gc_in hI257 R_23 rfl rfl)
          have f269 := (show 0 ≤ I257 23 7 ∧ I257 23 7 ≤ 125 from gc_in hI257 R_23 rfl rfl)
          have KLT_I257 : gc_LT I257 := q254.2.2.1
          have KSC_I257 := gc_sc_fr KSC_I236 (fun k => (g254 (t + 10) k).resolve_left (fun h => h.elim (fun h => absurd h.1 N_t_10__23) (fun h => h.elim (fun h => absurd h.1 N_t_10__23) (fun h => h.elim (fun h => absurd h.1 N_t_10__23) (fun h => absurd h.1 N_t_10__23)))))
          have KRS_I257 := gc_row_fr KRS_I236 (fun k => (g254 41 k).resolve_left (fun h => h.elim (fun h => absurd h.1 (by decide)) (fun h => h.elim (fun h => absurd h.1 (by decide)) (fun h => h.elim (fun h => absurd h.1 (by decide)) (fun h => absurd h.1 (by decide))))))
          have KRC_I257 := gc_RC_fr KRC_I236 (fun k => (g254 41 k).resolve_left (fun h => h.elim (fun h => absurd h.1 (by decide)) (fun h => h.elim (fun h => absurd h.1 (by decide)) (fun h => h.elim (fun h => absurd h.1 (by decide)) (fun h => absurd h.1 (by decide))))))
          have KTK_I257 : gc_TK I257 := And.intro V254_0 (And.intro V254_1 (And.intro V254_2 (And.intro V254_3 V254_4)))
          have t270 := gc_TK_mo KTK_I257
          clear V254_0 V254_1 V254_2 V254_3 V254_4
          have A271 := gc_AT_nx A250 q254.2.2.2
          have t272 := gc_AT_l A271
          refine gv_callV hD rfl (As := []) (st := []) rfl B_23 S_23 rfl (gc_lV6 hws rfl) (Nat.le_of_ble_eq_true rfl) (gz_Ev_mono (d := 2) (by decide) E254) ?_
          show gv_X _ _ (151, [(0, .inr (.inr (some 39)))], [], sh, gc_h sh I257 J258 A)
          refine gv_run 3 true hD (pc' := 155) (lv' := [(0, .inr (.inr (some 39)))]) (st' := [.inl 7, .inl 5, .inr (.inr (some 39))]) (h' := gc_h sh I257 J258 A) (C := (((True ∧ True) ∧ True) ∧ True)) rfl ⟨⟨⟨trivial, trivial⟩, trivial⟩, trivial⟩ ?_
          obtain ⟨r273, h273, E273, P273⟩ := d_X6_readSide_p (ws0 := ws0) (tb := tb) hws htb sh ro I257 J258 A hI257  t B β η ((gs_X β η (gs_X β η p_39))) Ir Jr 5 7 hb  h_t G_t  ⟨by omega, by omega⟩ ⟨by omega, by omega⟩ (by omega) (by omega) A271 (by omega) (by omega) (by first | (show I257 41 5 = 0; omega) | (show I257 41 6 = 0; omega)) (by have h9 := x5; have h8 := (show I257 (t + 7) 1 = I (t + 7) 1 from (((((((g254 (t + 7) 1).resolve_left (by omega)).trans ((g233 (t + 7) 1).resolve_left (by omega))).trans (p220 (t + 7) 1 (by omega))).trans (p204 (t + 7) 1 (by omega))).trans ((g187 (t + 7) 1).resolve_left (by omega))).trans ((FI37 (t + 7) 1).resolve_left (by omega)))); omega) (by rw [show I257 (t + 7) 1 = I (t + 7) 1 from (((((((g254 (t + 7) 1).resolve_left (by omega)).trans ((g233 (t + 7) 1).resolve_left (by omega))).trans (p220 (t + 7) 1 (by omega))).trans (p204 (t + 7) 1 (by omega))).trans ((g187 (t + 7) 1).resolve_left (by omega))).trans ((FI37 (t + 7) 1).resolve_left (by omega))), show J258 (t + 8) = J (t + 8) from funext fun j => ((((k254 (t + 8) j).resolve_left (by omega)).trans ((k233 (t + 8) j).resolve_left (by omega))).trans ((FJ38 (t + 8) j).resolve_left (by omega)))]; exact x6) (by omega) KLT_I257 KTK_I257 KRS_I257 KRC_I257
          obtain ⟨I274, J275, rfl, hI274, g273, k273, KLT_I274, KTK_I274, KRS_I274, KRC_I274, ⟨z273, rfl, q273⟩⟩ := P273
          have FI274 := gc_frc (W := fun q j => (q = 39 ∧ j = 3) ∨ (q = 39 ∧ j = 4) ∨ (q = 23 ∧ j = 5) ∨ (q = 23 ∧ j = 6) ∨ (q = 23 ∧ j = 7) ∨ (q = 23 ∧ j = 8) ∨ (q = 1 ∧ j = 17) ∨ (q = 1 ∧ j = 18) ∨ q = 20 ∨ q = 41 ∨ q = (t + 10) ∨ (q = t ∧ j = 6)) (V := fun q j => (q = 39 ∧ j = 3) ∨ (q = 39 ∧ j = 4) ∨ (q = 23 ∧ j = 5) ∨ (q = 23 ∧ j = 6) ∨ (q = 23 ∧ j = 7) ∨ (q = 23 ∧ j = 8) ∨ (q = 1 ∧ j = 17) ∨ (q = 1 ∧ j = 18) ∨ q = 20 ∨ q = 41) FI257 (fun q j h => (h.elim (fun h => (Or.inl h)) (fun h => (h.elim (fun h => (Or.inr (Or.inl h))) (fun h => (h.elim (fun h => (Or.inr (Or.inr (Or.inl h)))) (fun h => (h.elim (fun h => (Or.inr (Or.inr (Or.inr (Or.inl h))))) (fun h => (h.elim (fun h => (Or.inr (Or.inr (Or.inr (Or.inr (Or.inl h)))))) (fun h => (h.elim (fun h => (Or.inr (Or.inr (Or.inr (Or.inr (Or.inr (Or.inl h))))))) (fun h => (h.elim (fun h => (Or.inr (Or.inr (Or.inr (Or.inr (Or.inr (Or.inr (Or.inl h)))))))) (fun h => (h.elim (fun h => (Or.inr (Or.inr (Or.inr (Or.inr (Or.inr (Or.inr (Or.inr (Or.inl h))))))))) (fun h => (h.elim (fun h => (Or.inr (Or.inr (Or.inr (Or.inr (Or.inr (Or.inr (Or.inr (Or.inr (Or.inl h)))))))))) (fun h => (Or.inr (Or.inr (Or.inr (Or.inr (Or.inr (Or.inr (Or.inr (Or.inr (Or.inr (Or.inl h))))))))))))))))))))))))))))) g273
          have FJ275 := gc_frc (W := fun q j => (q = 23 ∧ j = 9)) (V := fun q j => (q = 23 ∧ j = 9)) FJ258 (fun q j h => h) k273
          have t276 := (g273 23 1).resolve_left (fun h => h.elim (fun h => absurd h.2 (by decide)) (fun h => h.elim (fun h => absurd h.2 (by decide)) (fun h => h.elim (fun h => absurd h.2 (by decide)) (fun h => h.elim (fun h => absurd h.2 (by decide)) (fun h => h.elim (fun h => absurd h.2 (by decide)) (fun h => h.elim (fun h => absurd h.2 (by decide)) (fun h => h.elim (fun h => absurd h.2 (by decide)) (fun h => h.elim (fun h => absurd h.2 (by decide)) (fun h => h.elim (fun h => absurd h (by decide)) (fun h => absurd h (by decide)))))))))))
          have t277 := (g273 t 6).resolve_left (fun h => h.elim (fun h => absurd h.2 (by decide)) (fun h => h.elim (fun h => absurd h.2 (by decide)) (fun h => h.elim (fun h => absurd h.2 (by decide)) (fun h => h.elim (fun h => absurd h.1 N_t__23) (fun h => h.elim (fun h => absurd h.2 (by decide)) (fun h => h.elim (fun h => absurd h.2 (by decide)) (fun h => h.elim (fun h => absurd h.2 (by decide)) (fun h => h.elim (fun h => absurd h.2 (by decide)) (fun h => h.elim (fun h => absurd h N_t__20) (fun h => absurd h N_t__41))))))))))
          have t278 := (g273 39 5).resolve_left (fun h => h.elim (fun h => absurd h.2 (by decide)) (fun h => h.elim (fun h => absurd h.2 (by decide)) (fun h => h.elim (fun h => absurd h.1 (by decide)) (fun h => h.elim (fun h => absurd h.2 (by decide)) (fun h => h.elim (fun h => absurd h.2 (by decide)) (fun h => h.elim (fun h => absurd h.2 (by decide)) (fun h => h.elim (fun h => absurd h.2 (by decide)) (fun h => h.elim (fun h => absurd h.2 (by decide)) (fun h => h.elim (fun h => absurd h (by decide)) (fun h => absurd h (by decide)))))))))))
          have t279 := (g273 39 2).resolve_left (fun h => h.elim (fun h => absurd h.2 (by decide)) (fun h => h.elim (fun h => absurd h.2 (by decide)) (fun h => h.elim (fun h => absurd h.2 (by decide)) (fun h => h.elim (fun h => absurd h.2 (by decide)) (fun h => h.elim (fun h => absurd h.2 (by decide)) (fun h => h.elim (fun h => absurd h.2 (by decide)) (fun h => h.elim (fun h => absurd h.2 (by decide)) (fun h => h.elim (fun h => absurd h.2 (by decide)) (fun h => h.elim (fun h => absurd h (by decide)) (fun h => absurd h (by decide)))))))))))
          have f280 := (show 0 ≤ I274 23 5 ∧ I274 23 5 ≤ 1000 from gc_in hI274 R_23 rfl rfl)
          have f281 := (show 0 ≤ I274 23 6 ∧ I274 23 6 ≤ 1001 from gc_in hI274 R_23 rfl rfl)
          have f282 := (show 0 ≤ I274 23 7 ∧ I274 23 7 ≤ 125 from gc_in hI274 R_23 rfl rfl)
          have f283 := (show 0 ≤ I274 1 17 ∧ I274 1 17 ≤ 12000 from gc_in hI274 R_1 rfl rfl)
          have f284 := (show 0 ≤ I274 1 18 ∧ I274 1 18 ≤ 1 from gc_in hI274 R_1 rfl rfl)
          have t285 := gc_TK_mo KTK_I274
          have KSC_I274 := gc_sc_fr KSC_I257 (fun k => (g273 (t + 10) k).resolve_left (fun h => h.elim (fun h => absurd h.1 N_t_10__39) (fun h => h.elim (fun h => absurd h.1 N_t_10__39) (fun h => h.elim (fun h => absurd h.1 N_t_10__23) (fun h => h.elim (fun h => absurd h.1 N_t_10__23) (fun h => h.elim (fun h => absurd h.1 N_t_10__23) (fun h => h.elim (fun h => absurd h.1 N_t_10__23) (fun h => h.elim (fun h => absurd h.1 N_t_10__1) (fun h => h.elim (fun h => absurd h.1 N_t_10__1) (fun h => h.elim (fun h => absurd h N_t_10__20) (fun h => absurd h N_t_10__41)))))))))))
          refine gv_callV hD rfl (As := [.inl 5, .inl 7]) (st := []) rfl B_39 S_39 rfl (gc_lV6 hws rfl) (Nat.le_of_ble_eq_true rfl) (gz_Ev_mono (d := 5) (by decide) E273) ?_
          show gv_X _ _ (158, [(0, .inr (.inr (some 39)))], [.inl z273], sh, gc_h sh I274 J275 A)
          refine gv_if_eq (t := 181) hD rfl rfl ⟨by omega, by omega⟩ (fun c286 => ?_) (fun c286 => ?_)
          · show gv_X _ _ (181, [(0, .inr (.inr (some 39)))], [], sh, gc_h sh I274 J275 A)
            obtain ⟨u287, u287_⟩ := gs_or0 q273.2.2.2.2.2.2 (by omega)
            refine gv_run 1 true hD (pc' := 182) (lv' := [(0, .inr (.inr (some 39)))]) (st' := [.inl 0]) (h' := gc_h sh I274 J275 A) (C := (True ∧ True)) rfl ⟨trivial, trivial⟩ ?_
            exact gv_zret hD rfl (by omega) ⟨I274, J275, rfl, hI274, FI274, FJ275, KLT_I274, KTK_I274, KSC_I274, ⟨_, rfl, by omega, by omega, by omega, by omega, by omega, (Or.inr ⟨by omega, by first | (exfalso; omega) | (rw [e2_39]; unfold gs_snd3 gs_snd4 gs_snd5 gs_snd6; (repeat first | rw [if_pos (by omega)] | rw [if_neg (by omega)]); exact ⟨by omega, by omega, by omega⟩)⟩)⟩⟩
          · show gv_X _ _ (161, [(0, .inr (.inr (some 39)))], [], sh, gc_h sh I274 J275 A)
            obtain ⟨u288, A288, U288⟩ := gs_or1 q273.2.2.2.2.2.2 (by omega)
            have t289 := gc_AT_l A288
            refine gv_run 2 true hD (pc' := 164) (lv' := [(0, .inr (.inr (some 39)))]) (st' := [.inl 95, .inr (.inr (some 39))]) (h' := gc_h sh I274 J275 A) (C := ((True ∧ True) ∧ True)) rfl ⟨⟨trivial, trivial⟩, trivial⟩ ?_
            obtain ⟨r290, h290, E290, P290⟩ := d_X6_take_p (ws0 := ws0) (tb := tb) hws htb sh ro I274 J275 A hI274  β η ((gs_sd β η Ir Jr 3 (gs_X β η (gs_X β η p_39)))) 95 hb   ⟨by omega, by omega⟩ (by omega) A288 (by omega) KLT_I274 KTK_I274
            obtain ⟨I291, J292, rfl, hI291, g290, k290, KLT_I291, KTK_I291, ⟨z290, rfl, q290⟩⟩ := P290
            have FI291 := gc_frc (W := fun q j => (q = 39 ∧ j = 3) ∨ (q = 39 ∧ j = 4) ∨ (q = 23 ∧ j = 5) ∨ (q = 23 ∧ j = 6) ∨ (q = 23 ∧ j = 7) ∨ (q = 23 ∧ j = 8) ∨ (q = 1 ∧ j = 17) ∨ (q = 1 ∧ j = 18) ∨ q = 20 ∨ q = 41 ∨ q = (t + 10) ∨ (q = t ∧ j = 6)) (V := fun q j => (q = 39 ∧ j = 3) ∨ (q = 39 ∧ j = 4) ∨ (q = 23 ∧ j = 5) ∨ (q = 23 ∧ j = 6) ∨ (q = 23 ∧ j = 7) ∨ (q = 23 ∧ j = 8)) FI274 (fun q j h => (h.elim (fun h => (Or.inl h)) (fun h => (h.elim (fun h => (Or.inr (Or.inl h))) (fun h => (h.elim (fun h => (Or.inr (Or.inr (Or.inl h)))) (fun h => (h.elim (fun h => (Or.inr (Or.inr (Or.inr (Or.inl h))))) (fun h => (h.elim (fun h => (Or.inr (Or.inr (Or.inr (Or.inr (Or.inl h)))))) (fun h => (Or.inr (Or.inr (Or.inr (Or.inr (Or.inr (Or.inl h))))))))))))))))) g290
            have FJ292 := gc_frc (W := fun q j => (q = 23 ∧ j = 9)) (V := fun q j => (q = 23 ∧ j = 9)) FJ275 (fun q j h => h) k290
            have t293 := (g290 23 1).resolve_left (fun h => h.elim (fun h => absurd h.2 (by decide)) (fun h => h.elim (fun h => absurd h.2 (by decide)) (fun h => h.elim (fun h => absurd h.2 (by decide)) (fun h => h.elim (fun h => absurd h.2 (by decide)) (fun h => h.elim (fun h => absurd h.2 (by decide)) (fun h => absurd h.2 (by decide)))))))
            have t294 := (g290 1 17).resolve_left (fun h => h.elim (fun h => absurd h.2 (by decide)) (fun h => h.elim (fun h => absurd h.2 (by decide)) (fun h => h.elim (fun h => absurd h.2 (by decide)) (fun h => h.elim (fun h => absurd h.2 (by decide)) (fun h => h.elim (fun h => absurd h.2 (by decide)) (fun h => absurd h.2 (by decide)))))))
            have t295 := (g290 t 6).resolve_left (fun h => h.elim (fun h => absurd h.2 (by decide)) (fun h => h.elim (fun h => absurd h.2 (by decide)) (fun h => h.elim (fun h => absurd h.2 (by decide)) (fun h => h.elim (fun h => absurd h.1 N_t__23) (fun h => h.elim (fun h => absurd h.2 (by decide)) (fun h => absurd h.2 (by decide)))))))
            have t296 := (g290 1 18).resolve_left (fun h => h.elim (fun h => absurd h.2 (by decide)) (fun h => h.elim (fun h => absurd h.2 (by decide)) (fun h => h.elim (fun h => absurd h.2 (by decide)) (fun h => h.elim (fun h => absurd h.2 (by decide)) (fun h => h.elim (fun h => absurd h.2 (by decide)) (fun h => absurd h.2 (by decide)))))))
            have t297 := (g290 39 5).resolve_left (fun h => h.elim (fun h => absurd h.2 (by decide)) (fun h => h.elim (fun h => absurd h.2 (by decide)) (fun h => h.elim (fun h => absurd h.1 (by decide)) (fun h => h.elim (fun h => absurd h.2 (by decide)) (fun h => h.elim (fun h => absurd h.2 (by decide)) (fun h => absurd h.2 (by decide)))))))
            have t298 := (g290 39 2).resolve_left (fun h => h.elim (fun h => absurd h.2 (by decide)) (fun h => h.elim (fun h => absurd h.2 (by decide)) (fun h => h.elim (fun h => absurd h.2 (by decide)) (fun h => h.elim (fun h => absurd h.2 (by decide)) (fun h => h.elim (fun h => absurd h.2 (by decide)) (fun h => absurd h.2 (by decide)))))))
            have t299 := (g290 41 5).resolve_left (fun h => h.elim (fun h => absurd h.2 (by decide)) (fun h => h.elim (fun h => absurd h.2 (by decide)) (fun h => h.elim (fun h => absurd h.1 (by decide)) (fun h => h.elim (fun h => absurd h.2 (by decide)) (fun h => h.elim (fun h => absurd h.2 (by decide)) (fun h => absurd h.2 (by decide)))))))
            have t300 := (g290 41 6).resolve_left (fun h => h.elim (fun h => absurd h.2 (by decide)) (fun h => h.elim (fun h => absurd h.2 (by decide)) (fun h => h.elim (fun h => absurd h.2 (by decide)) (fun h => h.elim (fun h => absurd h.1 (by decide)) (fun h => h.elim (fun h => absurd h.2 (by decide)) (fun h => absurd h.2 (by decide)))))))
            have f301 := (show 0 ≤ I291 23 5 ∧ I291 23 5 ≤ 1000 from gc_in hI291 R_23 rfl rfl)
            have f302 := (show 0 ≤ I291 23 6 ∧ I291 23 6 ≤ 1001 from gc_in hI291 R_23 rfl rfl)
            have f303 := (show 0 ≤ I291 23 7 ∧ I291 23 7 ≤ 125 from gc_in hI291 R_23 rfl rfl)
            have t304 := gc_TK_mo KTK_I291
            have KSC_I291 := gc_sc_fr KSC_I274 (fun k => (g290 (t + 10) k).resolve_left (fun h => h.elim (fun h => absurd h.1 N_t_10__39) (fun h => h.elim (fun h => absurd h.1 N_t_10__39) (fun h => h.elim (fun h => absurd h.1 N_t_10__23) (fun h => h.elim (fun h => absurd h.1 N_t_10__23) (fun h => h.elim (fun h => absurd h.1 N_t_10__23) (fun h => absurd h.1 N_t_10__23)))))))
            have KRS_I291 := gc_row_fr KRS_I274 (fun k => (g290 41 k).resolve_left (fun h => h.elim (fun h => absurd h.1 (by decide)) (fun h => h.elim (fun h => absurd h.1 (by decide)) (fun h => h.elim (fun h => absurd h.1 (by decide)) (fun h => h.elim (fun h => absurd h.1 (by decide)) (fun h => h.elim (fun h => absurd h.1 (by decide)) (fun h => absurd h.1 (by decide))))))))
            have KRC_I291 := gc_RC_fr KRC_I274 (fun k => (g290 41 k).resolve_left (fun h => h.elim (fun h => absurd h.1 (by decide)) (fun h => h.elim (fun h => absurd h.1 (by decide)) (fun h => h.elim (fun h => absurd h.1 (by decide)) (fun h => h.elim (fun h => absurd h.1 (by decide)) (fun h => h.elim (fun h => absurd h.1 (by decide)) (fun h => absurd h.1 (by decide))))))))
            refine gv_callV hD rfl (As := [.inl 95]) (st := []) rfl B_39 S_39 rfl (gc_lV6 hws rfl) (Nat.le_of_ble_eq_true rfl) (gz_Ev_mono (d := 3) (by decide) E290) ?_
            show gv_X _ _ (167, [(0, .inr (.inr (some 39)))], [.inl z290], sh, gc_h sh I291 J292 A)
            refine gv_if_eq (t := 181) hD rfl rfl ⟨by omega, by omega⟩ (fun c305 => ?_) (fun c305 => ?_)
            · show gv_X _ _ (181, [(0, .inr (.inr (some 39)))], [], sh, gc_h sh I291 J292 A)
              obtain ⟨u306, u306_⟩ := gs_or0 q290.2.2.2.2.2 (by omega)
              refine gv_run 1 true hD (pc' := 182) (lv' := [(0, .inr (.inr (some 39)))]) (st' := [.inl 0]) (h' := gc_h sh I291 J292 A) (C := (True ∧ True)) rfl ⟨trivial, trivial⟩ ?_
              exact gv_zret hD rfl (by omega) ⟨I291, J292, rfl, hI291, FI291, FJ292, KLT_I291, KTK_I291, KSC_I291, ⟨_, rfl, by omega, by omega, by omega, by omega, by omega, (Or.inr ⟨by omega, by first | (exfalso; omega) | (rw [e2_39]; unfold gs_snd3 gs_snd4 gs_snd5 gs_snd6; (repeat first | rw [if_pos (by omega)] | rw [if_neg (by omega)]); exact ⟨by omega, by omega, by omega⟩)⟩)⟩⟩
            · show gv_X _ _ (170, [(0, .inr (.inr (some 39)))], [], sh, gc_h sh I291 J292 A)
              obtain ⟨u307, A307⟩ := gs_or1 q290.2.2.2.2.2 (by omega)
              have t308 := gc_AT_l A307
              refine gv_run 3 true hD (pc' := 175) (lv' := [(0, .inr (.inr (some 39)))]) (st' := [.inl 16, .inl 6, .inr (.inr (some 39))]) (h' := gc_h sh I291 J292 A) (C := (((True ∧ True) ∧ True) ∧ True)) rfl ⟨⟨⟨trivial, trivial⟩, trivial⟩, trivial⟩ ?_
              obtain ⟨r309, h309, E309, P309⟩ := d_X6_readSide_p (ws0 := ws0) (tb := tb) hws htb sh ro I291 J292 A hI291  t B β η ((gs_need β η 95 (gs_sd β η Ir Jr 3 (gs_X β η (gs_X β η p_39))))) Ir Jr 6 16 hb  h_t G_t  ⟨by omega, by omega⟩ ⟨by omega, by omega⟩ (by omega) (by omega) A307 (by omega) (by omega) (by first | (show I291 41 5 = 0; omega) | (show I291 41 6 = 0; omega)) (by have h9 := x5; have h8 := (show I291 (t + 7) 1 = I (t + 7) 1 from (((((((((g290 (t + 7) 1).resolve_left (by omega)).trans ((g273 (t + 7) 1).resolve_left (by omega))).trans ((g254 (t + 7) 1).resolve_left (by omega))).trans ((g233 (t + 7) 1).resolve_left (by omega))).trans (p220 (t + 7) 1 (by omega))).trans (p204 (t + 7) 1 (by omega))).trans ((g187 (t + 7) 1).resolve_left (by omega))).trans ((FI37 (t + 7) 1).resolve_left (by omega)))); omega) (by rw [show I291 (t + 7) 1 = I (t + 7) 1 from (((((((((g290 (t + 7) 1).resolve_left (by omega)).trans ((g273 (t + 7) 1).resolve_left (by omega))).trans ((g254 (t + 7) 1).resolve_left (by omega))).trans ((g233 (t + 7) 1).resolve_left (by omega))).trans (p220 (t + 7) 1 (by omega))).trans (p204 (t + 7) 1 (by omega))).trans ((g187 (t + 7) 1).resolve_left (by omega))).trans ((FI37 (t + 7) 1).resolve_left (by omega))), show J292 (t + 8) = J (t + 8) from funext fun j => ((((((k290 (t + 8) j).resolve_left (by omega)).trans ((k273 (t + 8) j).resolve_left (by omega))).trans ((k254 (t + 8) j).resolve_left (by omega))).trans ((k233 (t + 8) j).resolve_left (by omega))).trans ((FJ38 (t + 8) j).resolve_left (by omega)))]; exact x6) (by omega) KLT_I291 KTK_I291 KRS_I291 KRC_I291
              obtain ⟨I310, J311, rfl, hI310, g309, k309, KLT_I310, KTK_I310, KRS_I310, KRC_I310, ⟨z309, rfl, q309⟩⟩ := P309
              have FI310 := gc_frc (W := fun q j => (q = 39 ∧ j = 3) ∨ (q = 39 ∧ j = 4) ∨ (q = 23 ∧ j = 5) ∨ (q = 23 ∧ j = 6) ∨ (q = 23 ∧ j = 7) ∨ (q = 23 ∧ j = 8) ∨ (q = 1 ∧ j = 17) ∨ (q = 1 ∧ j = 18) ∨ q = 20 ∨ q = 41 ∨ q = (t + 10) ∨ (q = t ∧ j = 6)) (V := fun q j => (q = 39 ∧ j = 3) ∨ (q = 39 ∧ j = 4) ∨ (q = 23 ∧ j = 5) ∨ (q = 23 ∧ j = 6) ∨ (q = 23 ∧ j = 7) ∨ (q = 23 ∧ j = 8) ∨ (q = 1 ∧ j = 17) ∨ (q = 1 ∧ j = 18) ∨ q = 20 ∨ q = 41) FI291 (fun q j h => (h.elim (fun h => (Or.inl h)) (fun h => (h.elim (fun h => (Or.inr (Or.inl h))) (fun h => (h.elim (fun h => (Or.inr (Or.inr (Or.inl h)))) (fun h => (h.elim (fun h => (Or.inr (Or.inr (Or.inr (Or.inl h))))) (fun h => (h.elim (fun h => (Or.inr (Or.inr (Or.inr (Or.inr (Or.inl h)))))) (fun h => (h.elim (fun h => (Or.inr (Or.inr (Or.inr (Or.inr (Or.inr (Or.inl h))))))) (fun h => (h.elim (fun h => (Or.inr (Or.inr (Or.inr (Or.inr (Or.inr (Or.inr (Or.inl h)))))))) (fun h => (h.elim (fun h => (Or.inr (Or.inr (Or.inr (Or.inr (Or.inr (Or.inr (Or.inr (Or.inl h))))))))) (fun h => (h.elim (fun h => (Or.inr (Or.inr (Or.inr (Or.inr (Or.inr (Or.inr (Or.inr (Or.inr (Or.inl h)))))))))) (fun h => (Or.inr (Or.inr (Or.inr (Or.inr (Or.inr (Or.inr (Or.inr (Or.inr (Or.inr (Or.inl h))))))))))))))))))))))))))))) g309
              have FJ311 := gc_frc (W := fun q j => (q = 23 ∧ j = 9)) (V := fun q j => (q = 23 ∧ j = 9)) FJ292 (fun q j h => h) k309
              have t312 := (g309 23 1).resolve_left (fun h => h.elim (fun h => absurd h.2 (by decide)) (fun h => h.elim (fun h => absurd h.2 (by decide)) (fun h => h.elim (fun h => absurd h.2 (by decide)) (fun h => h.elim (fun h => absurd h.2 (by decide)) (fun h => h.elim (fun h => absurd h.2 (by decide)) (fun h => h.elim (fun h => absurd h.2 (by decide)) (fun h => h.elim (fun h => absurd h.2 (by decide)) (fun h => h.elim (fun h => absurd h.2 (by decide)) (fun h => h.elim (fun h => absurd h (by decide)) (fun h => absurd h (by decide)))))))))))
              have t313 := (g309 t 6).resolve_left (fun h => h.elim (fun h => absurd h.2 (by decide)) (fun h => h.elim (fun h => absurd h.2 (by decide)) (fun h => h.elim (fun h => absurd h.2 (by decide)) (fun h => h.elim (fun h => absurd h.1 N_t__23) (fun h => h.elim (fun h => absurd h.2 (by decide)) (fun h => h.elim (fun h => absurd h.2 (by decide)) (fun h => h.elim (fun h => absurd h.2 (by decide)) (fun h => h.elim (fun h => absurd h.2 (by decide)) (fun h => h.elim (fun h => absurd h N_t__20) (fun h => absurd h N_t__41))))))))))
              have t314 := (g309 39 5).resolve_left (fun h => h.elim (fun h => absurd h.2 (by decide)) (fun h => h.elim (fun h => absurd h.2 (by decide)) (fun h => h.elim (fun h => absurd h.1 (by decide)) (fun h => h.elim (fun h => absurd h.2 (by decide)) (fun h => h.elim (fun h => absurd h.2 (by decide)) (fun h => h.elim (fun h => absurd h.2 (by decide)) (fun h => h.elim (fun h => absurd h.2 (by decide)) (fun h => h.elim (fun h => absurd h.2 (by decide)) (fun h => h.elim (fun h => absurd h (by decide)) (fun h => absurd h (by decide)))))))))))
              have t315 := (g309 39 2).resolve_left (fun h => h.elim (fun h => absurd h.2 (by decide)) (fun h => h.elim (fun h => absurd h.2 (by decide)) (fun h => h.elim (fun h => absurd h.2 (by decide)) (fun h => h.elim (fun h => absurd h.2 (by decide)) (fun h => h.elim (fun h => absurd h.2 (by decide)) (fun h => h.elim (fun h => absurd h.2 (by decide)) (fun h => h.elim (fun h => absurd h.2 (by decide)) (fun h => h.elim (fun h => absurd h.2 (by decide)) (fun h => h.elim (fun h => absurd h (by decide)) (fun h => absurd h (by decide)))))))))))
              have f316 := (show 0 ≤ I310 23 5 ∧ I310 23 5 ≤ 1000 from gc_in hI310 R_23 rfl rfl)
              have f317 := (show 0 ≤ I310 23 6 ∧ I310 23 6 ≤ 1001 from gc_in hI310 R_23 rfl rfl)
              have f318 := (show 0 ≤ I310 23 7 ∧ I310 23 7 ≤ 125 from gc_in hI310 R_23 rfl rfl)
              have f319 := (show 0 ≤ I310 1 17 ∧ I310 1 17 ≤ 12000 from gc_in hI310 R_1 rfl rfl)
              have f320 := (show 0 ≤ I310 1 18 ∧ I310 1 18 ≤ 1 from gc_in hI310 R_1 rfl rfl)
              have t321 := gc_TK_mo KTK_I310
              have KSC_I310 := gc_sc_fr KSC_I291 (fun k => (g309 (t + 10) k).resolve_left (fun h => h.elim (fun h => absurd h.1 N_t_10__39) (fun h => h.elim (fun h => absurd h.1 N_t_10__39) (fun h => h.elim (fun h => absurd h.1 N_t_10__23) (fun h => h.elim (fun h => absurd h.1 N_t_10__23) (fun h => h.elim (fun h => absurd h.1 N_t_10__23) (fun h => h.elim (fun h => absurd h.1 N_t_10__23) (fun h => h.elim (fun h => absurd h.1 N_t_10__1) (fun h => h.elim (fun h => absurd h.1 N_t_10__1) (fun h => h.elim (fun h => absurd h N_t_10__20) (fun h => absurd h N_t_10__41)))))))))))
              refine gv_callV hD rfl (As := [.inl 6, .inl 16]) (st := []) rfl B_39 S_39 rfl (gc_lV6 hws rfl) (Nat.le_of_ble_eq_true rfl) (gz_Ev_mono (d := 5) (by decide) E309) ?_
              show gv_X _ _ (178, [(0, .inr (.inr (some 39)))], [.inl z309], sh, gc_h sh I310 J311 A)
              refine gv_if_ne (t := 183) hD rfl rfl ⟨by omega, by omega⟩ (fun c322 => ?_) (fun c322 => ?_)
              · show gv_X _ _ (183, [(0, .inr (.inr (some 39)))], [], sh, gc_h sh I310 J311 A)
                obtain ⟨u323, A323, U323⟩ := gs_or1 q309.2.2.2.2.2.2 (by omega)
                have t324 := gc_AT_l A323
                exact L183 I310 J311 ((gs_sd β η Ir Jr 3 (gs_need β η 95 (gs_sd β η Ir Jr 3 (gs_X β η (gs_X β η p_39)))))) hI310 FI310 FJ311 KLT_I310 KTK_I310 KSC_I310 KRS_I310 KRC_I310 (by omega) A323 (by rw [e2_39]; unfold gs_snd3 gs_snd4 gs_snd5; (repeat first | rw [if_pos (by omega)] | rw [if_neg (by omega)])) (((((((((((g309 39 5).resolve_left (by omega)).trans ((g290 39 5).resolve_left (by omega))).trans ((g273 39 5).resolve_left (by omega))).trans ((g254 39 5).resolve_left (by omega))).trans ((g233 39 5).resolve_left (by omega))).trans (p220 39 5 (by omega))).trans (p204 39 5 (by omega))).trans ((g187 39 5).resolve_left (by omega))).trans (e3_39)))
              · show gv_X _ _ (181, [(0, .inr (.inr (some 39)))], [], sh, gc_h sh I310 J311 A)
                obtain ⟨u325, u325_⟩ := gs_or0 q309.2.2.2.2.2.2 (by omega)
                refine gv_run 1 true hD (pc' := 182) (lv' := [(0, .inr (.inr (some 39)))]) (st' := [.inl 0]) (h' := gc_h sh I310 J311 A) (C := (True ∧ True)) rfl ⟨trivial, trivial⟩ ?_
                exact gv_zret hD rfl (by omega) ⟨I310, J311, rfl, hI310, FI310, FJ311, KLT_I310, KTK_I310, KSC_I310, ⟨_, rfl, by omega, by omega, by omega, by omega, by omega, (Or.inr ⟨by omega, by first | (exfalso; omega) | (rw [e2_39]; unfold gs_snd3 gs_snd4 gs_snd5 gs_snd6; (repeat first | rw [if_pos (by omega)] | rw [if_neg (by omega)]); exact ⟨by omega, by omega, by omega⟩)⟩)⟩⟩
      refine gv_run 2 true hD (pc' := 77) (lv' := [(0, .inr (.inr (some 39)))]) (st' := [.inl 0, .inr (.inr (some 39))]) (h' := gc_h sh I11 J12 A) (C := ((True ∧ True) ∧ True)) rfl ⟨⟨trivial, trivial⟩, trivial⟩ ?_
      obtain ⟨r326, h326, E326, P326⟩ := d_X6_readContext_p (ws0 := ws0) (tb := tb) hws htb sh ro I11 J12 A hI11  t B β η p_13 Ir Jr 0 hb  h_t G_t  ⟨by omega, by omega⟩ (by omega) (by omega) e1_13 (by omega) (by omega) (by have h9 := x5; have h8 := (show I11 (t + 7) 1 = I (t + 7) 1 from ((FI11 (t + 7) 1).resolve_left (by omega))); omega) (by rw [show I11 (t + 7) 1 = I (t + 7) 1 from ((FI11 (t + 7) 1).resolve_left (by omega)), show J12 (t + 8) = J (t + 8) from funext fun j => ((FJ12 (t + 8) j).resolve_left (by omega))]; exact x6) (by omega) KLT_I11 KTK_I11 KRS_I11 KRC_I11
      obtain ⟨I327, J328, rfl, hI327, g326, k326, KLT_I327, KTK_I327, KRS_I327, KRC_I327, ⟨z326, rfl, q326⟩⟩ := P326
      have FI327 := gc_frc (W := fun q j => (q = 39 ∧ j = 3) ∨ (q = 39 ∧ j = 4) ∨ (q = 23 ∧ j = 5) ∨ (q = 23 ∧ j = 6) ∨ (q = 23 ∧ j = 7) ∨ (q = 23 ∧ j = 8) ∨ (q = 1 ∧ j = 17) ∨ (q = 1 ∧ j = 18) ∨ q = 20 ∨ q = 41 ∨ q = (t + 10) ∨ (q = t ∧ j = 6)) (V := fun q j => (q = 39 ∧ j = 3) ∨ (q = 39 ∧ j = 4) ∨ (q = 23 ∧ j = 5) ∨ (q = 23 ∧ j = 6) ∨ (q = 23 ∧ j = 7) ∨ (q = 23 ∧ j = 8) ∨ (q = 1 ∧ j = 17) ∨ (q = 1 ∧ j = 18) ∨ q = 20 ∨ (q = 41 ∧ j = (Int.toNat 0)) ∨ (q = 41 ∧ j = (Int.toNat (0 + 1))) ∨ (q = 41 ∧ j = (Int.toNat (0 + 2)))) FI11 (fun q j h => (h.elim (fun h => (Or.inl h)) (fun h => (h.elim (fun h => (Or.inr (Or.inl h))) (fun h => (h.elim (fun h => (Or.inr (Or.inr (Or.inl h)))) (fun h => (h.elim (fun h => (Or.inr (Or.inr (Or.inr (Or.inl h))))) (fun h => (h.elim (fun h => (Or.inr (Or.inr (Or.inr (Or.inr (Or.inl h)))))) (fun h => (h.elim (fun h => (Or.inr (Or.inr (Or.inr (Or.inr (Or.inr (Or.inl h))))))) (fun h => (h.elim (fun h => (Or.inr (Or.inr (Or.inr (Or.inr (Or.inr (Or.inr (Or.inl h)))))))) (fun h => (h.elim (fun h => (Or.inr (Or.inr (Or.inr (Or.inr (Or.inr (Or.inr (Or.inr (Or.inl h))))))))) (fun h => (h.elim (fun h => (Or.inr (Or.inr (Or.inr (Or.inr (Or.inr (Or.inr (Or.inr (Or.inr (Or.inl h)))))))))) (fun h => (h.elim (fun h => (Or.inr (Or.inr (Or.inr (Or.inr (Or.inr (Or.inr (Or.inr (Or.inr (Or.inr (Or.inl h.1))))))))))) (fun h => (h.elim (fun h => (Or.inr (Or.inr (Or.inr (Or.inr (Or.inr (Or.inr (Or.inr (Or.inr (Or.inr (Or.inl h.1))))))))))) (fun h => (Or.inr (Or.inr (Or.inr (Or.inr (Or.inr (Or.inr (Or.inr (Or.inr (Or.inr (Or.inl h.1))))))))))))))))))))))))))))))))) g326
      have FJ328 := gc_frc (W := fun q j => (q = 23 ∧ j = 9)) (V := fun q j => (q = 23 ∧ j = 9)) FJ12 (fun q j h => h) k326
      have t329 := (g326 23 1).resolve_left (fun h => h.elim (fun h => absurd h.2 (by decide)) (fun h => h.elim (fun h => absurd h.2 (by decide)) (fun h => h.elim (fun h => absurd h.2 (by decide)) (fun h => h.elim (fun h => absurd h.2 (by decide)) (fun h => h.elim (fun h => absurd h.2 (by decide)) (fun h => h.elim (fun h => absurd h.2 (by decide)) (fun h => h.elim (fun h => absurd h.2 (by decide)) (fun h => h.elim (fun h => absurd h.2 (by decide)) (fun h => h.elim (fun h => absurd h (by decide)) (fun h => h.elim (fun h => absurd h.1 (by decide)) (fun h => h.elim (fun h => absurd h.1 (by decide)) (fun h => absurd h.1 (by decide)))))))))))))
      have t330 := (g326 t 6).resolve_left (fun h => h.elim (fun h => absurd h.2 (by decide)) (fun h => h.elim (fun h => absurd h.2 (by decide)) (fun h => h.elim (fun h => absurd h.2 (by decide)) (fun h => h.elim (fun h => absurd h.1 N_t__23) (fun h => h.elim (fun h => absurd h.2 (by decide)) (fun h => h.elim (fun h => absurd h.2 (by decide)) (fun h => h.elim (fun h => absurd h.2 (by decide)) (fun h => h.elim (fun h => absurd h.2 (by decide)) (fun h => h.elim (fun h => absurd h N_t__20) (fun h => h.elim (fun h => absurd h.1 N_t__41) (fun h => h.elim (fun h => absurd h.1 N_t__41) (fun h => absurd h.1 N_t__41))))))))))))
      have t331 := (g326 39 5).resolve_left (fun h => h.elim (fun h => absurd h.2 (by decide)) (fun h => h.elim (fun h => absurd h.2 (by decide)) (fun h => h.elim (fun h => absurd h.1 (by decide)) (fun h => h.elim (fun h => absurd h.2 (by decide)) (fun h => h.elim (fun h => absurd h.2 (by decide)) (fun h => h.elim (fun h => absurd h.2 (by decide)) (fun h => h.elim (fun h => absurd h.2 (by decide)) (fun h => h.elim (fun h => absurd h.2 (by decide)) (fun h => h.elim (fun h => absurd h (by decide)) (fun h => h.elim (fun h => absurd h.1 (by decide)) (fun h => h.elim (fun h => absurd h.1 (by decide)) (fun h => absurd h.1 (by decide)))))))))))))
      have t332 := (g326 39 2).resolve_left (fun h => h.elim (fun h => absurd h.2 (by decide)) (fun h => h.elim (fun h => absurd h.2 (by decide)) (fun h => h.elim (fun h => absurd h.2 (by decide)) (fun h => h.elim (fun h => absurd h.2 (by decide)) (fun h => h.elim (fun h => absurd h.2 (by decide)) (fun h => h.elim (fun h => absurd h.2 (by decide)) (fun h => h.elim (fun h => absurd h.2 (by decide)) (fun h => h.elim (fun h => absurd h.2 (by decide)) (fun h => h.elim (fun h => absurd h (by decide)) (fun h => h.elim (fun h => absurd h.1 (by decide)) (fun h => h.elim (fun h => absurd h.1 (by decide)) (fun h => absurd h.1 (by decide)))))))))))))
      have t333 := (g326 41 5).resolve_left (by omega)
      have t334 := (g326 41 6).resolve_left (by omega)
      have f335 := (show 0 ≤ I327 23 5 ∧ I327 23 5 ≤ 1000 from gc_in hI327 R_23 rfl rfl)
      have f336 := (show 0 ≤ I327 23 6 ∧ I327 23 6 ≤ 1001 from gc_in hI327 R_23 rfl rfl)
      have f337 := (show 0 ≤ I327 23 7 ∧ I327 23 7 ≤ 125 from gc_in hI327 R_23 rfl rfl)
      have f338 := (show 0 ≤ I327 1 17 ∧ I327 1 17 ≤ 12000 from gc_in hI327 R_1 rfl rfl)
      have f339 := (show 0 ≤ I327 1 18 ∧ I327 1 18 ≤ 1 from gc_in hI327 R_1 rfl rfl)
      have t340 := gc_TK_mo KTK_I327
      have KSC_I327 := gc_sc_fr KSC_I11 (fun k => (g326 (t + 10) k).resolve_left (fun h => h.elim (fun h => absurd h.1 N_t_10__39) (fun h => h.elim (fun h => absurd h.1 N_t_10__39) (fun h => h.elim (fun h => absurd h.1 N_t_10__23) (fun h => h.elim (fun h => absurd h.1 N_t_10__23) (fun h => h.elim (fun h => absurd h.1 N_t_10__23) (fun h => h.elim (fun h => absurd h.1 N_t_10__23) (fun h => h.elim (fun h => absurd h.1 N_t_10__1) (fun h => h.elim (fun h => absurd h.1 N_t_10__1) (fun h => h.elim (fun h => absurd h N_t_10__20) (fun h => h.elim (fun h => absurd h.1 N_t_10__41) (fun h => h.elim (fun h => absurd h.1 N_t_10__41) (fun h => absurd h.1 N_t_10__41)))))))))))))
      refine gv_callV hD rfl (As := [.inl 0]) (st := []) rfl B_39 S_39 rfl (gc_lV6 hws rfl) (Nat.le_of_ble_eq_true rfl) (gz_Ev_mono (d := 4) (by decide) E326) ?_
      show gv_X _ _ (80, [(0, .inr (.inr (some 39)))], [.inl z326], sh, gc_h sh I327 J328 A)
      refine gv_if_eq (t := 100) hD rfl rfl ⟨by omega, by omega⟩ (fun c341 => ?_) (fun c341 => ?_)
      · show gv_X _ _ (100, [(0, .inr (.inr (some 39)))], [], sh, gc_h sh I327 J328 A)
        obtain ⟨u342, u342_⟩ := gs_or0 q326.2.2.2.2.2 (by omega)
        refine gv_run 1 true hD (pc' := 101) (lv' := [(0, .inr (.inr (some 39)))]) (st' := [.inl 0]) (h' := gc_h sh I327 J328 A) (C := (True ∧ True)) rfl ⟨trivial, trivial⟩ ?_
        exact gv_zret hD rfl (by omega) ⟨I327, J328, rfl, hI327, FI327, FJ328, KLT_I327, KTK_I327, KSC_I327, ⟨_, rfl, by omega, by omega, by omega, by omega, by omega, (Or.inr ⟨by omega, by first | (exfalso; omega) | (rw [e2_25, gs_ctx_01 (by omega)]; unfold gs_snd1 gs_snd2; (repeat first | rw [if_pos (by omega)] | rw [if_neg (by omega)]); exact ⟨by omega, by omega, by omega⟩)⟩)⟩⟩
      · show gv_X _ _ (83, [(0, .inr (.inr (some 39)))], [], sh, gc_h sh I327 J328 A)
        obtain ⟨u343, A343, U343⟩ := gs_or1 q326.2.2.2.2.2 (by omega)
        have t344 := gc_AT_l A343
        refine gv_run 2 true hD (pc' := 86) (lv' := [(0, .inr (.inr (some 39)))]) (st' := [.inl 62, .inr (.inr (some 39))]) (h' := gc_h sh I327 J328 A) (C := ((True ∧ True) ∧ True)) rfl ⟨⟨trivial, trivial⟩, trivial⟩ ?_
        obtain ⟨r345, h345, E345, P345⟩ := d_X6_take_p (ws0 := ws0) (tb := tb) hws htb sh ro I327 J328 A hI327  β η (gs_ctx β η Ir Jr 1 p_13) 62 hb   ⟨by omega, by omega⟩ (by omega) A343 (by omega) KLT_I327 KTK_I327
        obtain ⟨I346, J347, rfl, hI346, g345, k345, KLT_I346, KTK_I346, ⟨z345, rfl, q345⟩⟩ := P345
        have FI346 := gc_frc (W := fun q j => (q = 39 ∧ j = 3) ∨ (q = 39 ∧ j = 4) ∨ (q = 23 ∧ j = 5) ∨ (q = 23 ∧ j = 6) ∨ (q = 23 ∧ j = 7) ∨ (q = 23 ∧ j = 8) ∨ (q = 1 ∧ j = 17) ∨ (q = 1 ∧ j = 18) ∨ q = 20 ∨ q = 41 ∨ q = (t + 10) ∨ (q = t ∧ j = 6)) (V := fun q j => (q = 39 ∧ j = 3) ∨ (q = 39 ∧ j = 4) ∨ (q = 23 ∧ j = 5) ∨ (q = 23 ∧ j = 6) ∨ (q = 23 ∧ j = 7) ∨ (q = 23 ∧ j = 8)) FI327 (fun q j h => (h.elim (fun h => (Or.inl h)) (fun h => (h.elim (fun h => (Or.inr (Or.inl h))) (fun h => (h.elim (fun h => (Or.inr (Or.inr (Or.inl h)))) (fun h => (h.elim (fun h => (Or.inr (Or.inr (Or.inr (Or.inl h))))) (fun h => (h.elim (fun h => (Or.inr (Or.inr (Or.inr (Or.inr (Or.inl h)))))) (fun h => (Or.inr (Or.inr (Or.inr (Or.inr (Or.inr (Or.inl h))))))))))))))))) g345
        have FJ347 := gc_frc (W := fun q j => (q = 23 ∧ j = 9)) (V := fun q j => (q = 23 ∧ j = 9)) FJ328 (fun q j h => h) k345
        have t348 := (g345 23 1).resolve_left (fun h => h.elim (fun h => absurd h.2 (by decide)) (fun h => h.elim (fun h => absurd h.2 (by decide)) (fun h => h.elim (fun h => absurd h.2 (by decide)) (fun h => h.elim (fun h => absurd h.2 (by decide)) (fun h => h.elim (fun h => absurd h.2 (by decide)) (fun h => absurd h.2 (by decide)))))))
        have t349 := (g345 1 17).resolve_left (fun h => h.elim (fun h => absurd h.2 (by decide)) (fun h => h.elim (fun h => absurd h.2 (by decide)) (fun h => h.elim (fun h => absurd h.2 (by decide)) (fun h => h.elim (fun h => absurd h.2 (by decide)) (fun h => h.elim (fun h => absurd h.2 (by decide)) (fun h => absurd h.2 (by decide)))))))
        have t350 := (g345 t 6).resolve_left (fun h => h.elim (fun h => absurd h.2 (by decide)) (fun h => h.elim (fun h => absurd h.2 (by decide)) (fun h => h.elim (fun h => absurd h.2 (by decide)) (fun h => h.elim (fun h => absurd h.1 N_t__23) (fun h => h.elim (fun h => absurd h.2 (by decide)) (fun h => absurd h.2 (by decide)))))))
        have t351 := (g345 1 18).resolve_left (fun h => h.elim (fun h => absurd h.2 (by decide)) (fun h => h.elim (fun h => absurd h.2 (by decide)) (fun h => h.elim (fun h => absurd h.2 (by decide)) (fun h => h.elim (fun h => absurd h.2 (by decide)) (fun h => h.elim (fun h => absurd h.2 (by decide)) (fun h => absurd h.2 (by decide)))))))
        have t352 := (g345 39 5).resolve_left (fun h => h.elim (fun h => absurd h.2 (by decide)) (fun h => h.elim (fun h => absurd h.2 (by decide)) (fun h => h.elim (fun h => absurd h.1 (by decide)) (fun h => h.elim (fun h => absurd h.2 (by decide)) (fun h => h.elim (fun h => absurd h.2 (by decide)) (fun h => absurd h.2 (by decide)))))))
        have t353 := (g345 39 2).resolve_left (fun h => h.elim (fun h => absurd h.2 (by decide)) (fun h => h.elim (fun h => absurd h.2 (by decide)) (fun h => h.elim (fun h => absurd h.2 (by decide)) (fun h => h.elim (fun h => absurd h.2 (by decide)) (fun h => h.elim (fun h => absurd h.2 (by decide)) (fun h => absurd h.2 (by decide)))))))
        have t354 := (g345 41 5).resolve_left (fun h => h.elim (fun h => absurd h.2 (by decide)) (fun h => h.elim (fun h => absurd h.2 (by decide)) (fun h => h.elim (fun h => absurd h.1 (by decide)) (fun h => h.elim (fun h => absurd h.2 (by decide)) (fun h => h.elim (fun h => absurd h.2 (by decide)) (fun h => absurd h.2 (by decide)))))))
        have t355 := (g345 41 6).resolve_left (fun h => h.elim (fun h => absurd h.2 (by decide)) (fun h => h.elim (fun h => absurd h.2 (by decide)) (fun h => h.elim (fun h => absurd h.2 (by decide)) (fun h => h.elim (fun h => absurd h.1 (by decide)) (fun h => h.elim (fun h => absurd h.2 (by decide)) (fun h => absurd h.2 (by decide)))))))
        have f356 := (show 0 ≤ I346 23 5 ∧ I346 23 5 ≤ 1000 from gc_in hI346 R_23 rfl rfl)
        have f357 := (show 0 ≤ I346 23 6 ∧ I346 23 6 ≤ 1001 from gc_in hI346 R_23 rfl rfl)
        have f358 := (show 0 ≤ I346 23 7 ∧ I346 23 7 ≤ 125 from gc_in hI346 R_23 rfl rfl)
        have t359 := gc_TK_mo KTK_I346
        have KSC_I346 := gc_sc_fr KSC_I327 (fun k => (g345 (t + 10) k).resolve_left (fun h => h.elim (fun h => absurd h.1 N_t_10__39) (fun h => h.elim (fun h => absurd h.1 N_t_10__39) (fun h => h.elim (fun h => absurd h.1 N_t_10__23) (fun h => h.elim (fun h => absurd h.1 N_t_10__23) (fun h => h.elim (fun h => absurd h.1 N_t_10__23) (fun h => absurd h.1 N_t_10__23)))))))
        have KRS_I346 := gc_row_fr KRS_I327 (fun k => (g345 41 k).resolve_left (fun h => h.elim (fun h => absurd h.1 (by decide)) (fun h => h.elim (fun h => absurd h.1 (by decide)) (fun h => h.elim (fun h => absurd h.1 (by decide)) (fun h => h.elim (fun h => absurd h.1 (by decide)) (fun h => h.elim (fun h => absurd h.1 (by decide)) (fun h => absurd h.1 (by decide))))))))
        have KRC_I346 := gc_RC_fr KRC_I327 (fun k => (g345 41 k).resolve_left (fun h => h.elim (fun h => absurd h.1 (by decide)) (fun h => h.elim (fun h => absurd h.1 (by decide)) (fun h => h.elim (fun h => absurd h.1 (by decide)) (fun h => h.elim (fun h => absurd h.1 (by decide)) (fun h => h.elim (fun h => absurd h.1 (by decide)) (fun h => absurd h.1 (by decide))))))))
        refine gv_callV hD rfl (As := [.inl 62]) (st := []) rfl B_39 S_39 rfl (gc_lV6 hws rfl) (Nat.le_of_ble_eq_true rfl) (gz_Ev_mono (d := 3) (by decide) E345) ?_
        show gv_X _ _ (89, [(0, .inr (.inr (some 39)))], [.inl z345], sh, gc_h sh I346 J347 A)
        refine gv_if_eq (t := 100) hD rfl rfl ⟨by omega, by omega⟩ (fun c360 => ?_) (fun c360 => ?_)
        · show gv_X _ _ (100, [(0, .inr (.inr (some 39)))], [], sh, gc_h sh I346 J347 A)
          obtain ⟨u361, u361_⟩ := gs_or0 q345.2.2.2.2.2 (by omega)
          refine gv_run 1 true hD (pc' := 101) (lv' := [(0, .inr (.inr (some 39)))]) (st' := [.inl 0]) (h' := gc_h sh I346 J347 A) (C := (True ∧ True)) rfl ⟨trivial, trivial⟩ ?_
          exact gv_zret hD rfl (by omega) ⟨I346, J347, rfl, hI346, FI346, FJ347, KLT_I346, KTK_I346, KSC_I346, ⟨_, rfl, by omega, by omega, by omega, by omega, by omega, (Or.inr ⟨by omega, by first | (exfalso; omega) | (rw [e2_25, gs_ctx_01 (by omega)]; unfold gs_snd1 gs_snd2; (repeat first | rw [if_pos (by omega)] | rw [if_neg (by omega)]); exact ⟨by omega, by omega, by omega⟩)⟩)⟩⟩
        · show gv_X _ _ (92, [(0, .inr (.inr (some 39)))], [], sh, gc_h sh I346 J347 A)
          obtain ⟨u362, A362⟩ := gs_or1 q345.2.2.2.2.2 (by omega)
          have t363 := gc_AT_l A362
          refine gv_run 2 true hD (pc' := 94) (lv' := [(0, .inr (.inr (some 39)))]) (st' := [.inl 3, .inr (.inr (some 39))]) (h' := gc_h sh I346 J347 A) (C := ((True ∧ True) ∧ True)) rfl ⟨⟨trivial, trivial⟩, trivial⟩ ?_
          obtain ⟨r364, h364, E364, P364⟩ := d_X6_need_p (ws0 := ws0) (tb := tb) hws htb sh ro I346 J347 A hI346  β η ((gs_need β η 62 (gs_ctx β η Ir Jr 1 p_13))) 3 hb   ⟨by omega, by omega⟩ A362 (by omega) 
          obtain ⟨I365, J366, rfl, hI365, g364, k364, ⟨z364, rfl, q364⟩⟩ := P364
          have FI365 := gc_frc (W := fun q j => (q = 39 ∧ j = 3) ∨ (q = 39 ∧ j = 4) ∨ (q = 23 ∧ j = 5) ∨ (q = 23 ∧ j = 6) ∨ (q = 23 ∧ j = 7) ∨ (q = 23 ∧ j = 8) ∨ (q = 1 ∧ j = 17) ∨ (q = 1 ∧ j = 18) ∨ q = 20 ∨ q = 41 ∨ q = (t + 10) ∨ (q = t ∧ j = 6)) (V := fun q j => (q = 39 ∧ j = 3) ∨ (q = 39 ∧ j = 4)) FI346 (fun q j h => (h.elim (fun h => (Or.inl h)) (fun h => (Or.inr (Or.inl h))))) g364
          have t367 := (g364 23 1).resolve_left (fun h => h.elim (fun h => absurd h.2 (by decide)) (fun h => absurd h.2 (by decide)))
          have t368 := (g364 23 5).resolve_left (fun h => h.elim (fun h => absurd h.2 (by decide)) (fun h => absurd h.2 (by decide)))
          have t369 := (g364 23 6).resolve_left (fun h => h.elim (fun h => absurd h.2 (by decide)) (fun h => absurd h.2 (by decide)))
          have t370 := (g364 23 7).resolve_left (fun h => h.elim (fun h => absurd h.2 (by decide)) (fun h => absurd h.2 (by decide)))
          have t371 := (g364 1 17).resolve_left (fun h => h.elim (fun h => absurd h.2 (by decide)) (fun h => absurd h.2 (by decide)))
          have t372 := (g364 t 6).resolve_left (fun h => h.elim (fun h => absurd h.2 (by decide)) (fun h => absurd h.2 (by decide)))
          have t373 := (g364 1 18).resolve_left (fun h => h.elim (fun h => absurd h.2 (by decide)) (fun h => absurd h.2 (by decide)))
          have t374 := (g364 39 5).resolve_left (fun h => h.elim (fun h => absurd h.2 (by decide)) (fun h => absurd h.2 (by decide)))
          have t375 := (g364 39 2).resolve_left (fun h => h.elim (fun h => absurd h.2 (by decide)) (fun h => absurd h.2 (by decide)))
          have t376 := (g364 41 5).resolve_left (fun h => h.elim (fun h => absurd h.2 (by decide)) (fun h => absurd h.2 (by decide)))
          have t377 := (g364 41 6).resolve_left (fun h => h.elim (fun h => absurd h.2 (by decide)) (fun h => absurd h.2 (by decide)))
          obtain rfl : J347 = J366 := funext fun q => funext fun j => ((k364 q j).resolve_left id).symm
          have KLT_I365 := gc_LT_fr KLT_I346 ((g364 23 5).resolve_left (fun h => h.elim (fun h => absurd h.2 (by decide)) (fun h => absurd h.2 (by decide)))) ((g364 23 6).resolve_left (fun h => h.elim (fun h => absurd h.2 (by decide)) (fun h => absurd h.2 (by decide)))) ((g364 23 7).resolve_left (fun h => h.elim (fun h => absurd h.2 (by decide)) (fun h => absurd h.2 (by decide)))) (fun k => (g364 24 k).resolve_left (fun h => h.elim (fun h => absurd h.1 (by decide)) (fun h => absurd h.1 (by decide))))
          have KTK_I365 := gc_TK_fr KTK_I346 ((g364 23 1).resolve_left (fun h => h.elim (fun h => absurd h.2 (by decide)) (fun h => absurd h.2 (by decide)))) ((g364 23 5).resolve_left (fun h => h.elim (fun h => absurd h.2 (by decide)) (fun h => absurd h.2 (by decide)))) ((g364 23 6).resolve_left (fun h => h.elim (fun h => absurd h.2 (by decide)) (fun h => absurd h.2 (by decide)))) ((g364 23 7).resolve_left (fun h => h.elim (fun h => absurd h.2 (by decide)) (fun h => absurd h.2 (by decide))))
          have KSC_I365 := gc_sc_fr KSC_I346 (fun k => (g364 (t + 10) k).resolve_left (fun h => h.elim (fun h => absurd h.1 N_t_10__39) (fun h => absurd h.1 N_t_10__39)))
          have KRS_I365 := gc_row_fr KRS_I346 (fun k => (g364 41 k).resolve_left (fun h => h.elim (fun h => absurd h.1 (by decide)) (fun h => absurd h.1 (by decide))))
          have KRC_I365 := gc_RC_fr KRC_I346 (fun k => (g364 41 k).resolve_left (fun h => h.elim (fun h => absurd h.1 (by decide)) (fun h => absurd h.1 (by decide))))
          have A378 := gc_AT_I A362 ((g364 23 1).resolve_left (fun h => h.elim (fun h => absurd h.2 (by decide)) (fun h => absurd h.2 (by decide)))) ((g364 23 5).resolve_left (fun h => h.elim (fun h => absurd h.2 (by decide)) (fun h => absurd h.2 (by decide)))) ((g364 23 6).resolve_left (fun h => h.elim (fun h => absurd h.2 (by decide)) (fun h => absurd h.2 (by decide)))) ((g364 23 7).resolve_left (fun h => h.elim (fun h => absurd h.2 (by decide)) (fun h => absurd h.2 (by decide)))) ((g364 23 8).resolve_left (fun h => h.elim (fun h => absurd h.2 (by decide)) (fun h => absurd h.2 (by decide)))) (fun k => (g364 24 k).resolve_left (fun h => h.elim (fun h => absurd h.1 (by decide)) (fun h => absurd h.1 (by decide))))
          have t379 := gc_AT_l A378
          refine gv_callV hD rfl (As := [.inl 3]) (st := []) rfl B_39 S_39 rfl (gc_lV6 hws rfl) (Nat.le_of_ble_eq_true rfl) (gz_Ev_mono (d := 2) (by decide) E364) ?_
          show gv_X _ _ (97, [(0, .inr (.inr (some 39)))], [.inl z364], sh, gc_h sh I365 J347 A)
          refine gv_if_ne (t := 102) hD rfl rfl ⟨by omega, by omega⟩ (fun c380 => ?_) (fun c380 => ?_)
          · show gv_X _ _ (102, [(0, .inr (.inr (some 39)))], [], sh, gc_h sh I365 J347 A)
            have u381 := gs_or1 q364.2.2.2 (by omega)
            exact L102 I365 J347 ((gs_need β η 62 (gs_ctx β η Ir Jr 1 p_13))) hI365 FI365 FJ347 KLT_I365 KTK_I365 KSC_I365 KRS_I365 KRC_I365 (by omega) A378 (by rw [e2_25, gs_ctx_01 (by omega)]; unfold gs_snd1 gs_snd2; (repeat first | rw [if_pos (by omega)] | rw [if_neg (by omega)])) ((((((g364 39 5).resolve_left (by omega)).trans ((g345 39 5).resolve_left (by omega))).trans ((g326 39 5).resolve_left (by omega))).trans (e3_25)))
          · show gv_X _ _ (100, [(0, .inr (.inr (some 39)))], [], sh, gc_h sh I365 J347 A)
            have u382 := gs_or0 q364.2.2.2 (by omega)
            refine gv_run 1 true hD (pc' := 101) (lv' := [(0, .inr (.inr (some 39)))]) (st' := [.inl 0]) (h' := gc_h sh I365 J347 A) (C := (True ∧ True)) rfl ⟨trivial, trivial⟩ ?_
            exact gv_zret hD rfl (by omega) ⟨I365, J347, rfl, hI365, FI365, FJ347, KLT_I365, KTK_I365, KSC_I365, ⟨_, rfl, by omega, by omega, by omega, by omega, by omega, (Or.inr ⟨by omega, by first | (exfalso; omega) | (rw [e2_25, gs_ctx_01 (by omega)]; unfold gs_snd1 gs_snd2; (repeat first | rw [if_pos (by omega)] | rw [if_neg (by omega)]); exact ⟨by omega, by omega, by omega⟩)⟩)⟩⟩
    refine gv_run 1 true hD (pc' := 30) (lv' := [(0, .inr (.inr (some 39)))]) (st' := [.inr (.inr (some 39))]) (h' := gc_h sh I11 J12 A) (C := (True ∧ True)) rfl ⟨trivial, trivial⟩ ?_
    refine gv_get hD rfl rfl S_39 ⟨by decide, B_39⟩ (gc_hA S_39 rfl A_39_1) ?_
    show gv_X _ _ (33, [(0, .inr (.inr (some 39)))], [.inr (.inr (some 23))], sh, gc_h sh I11 J12 A)
    have f383 := (show 0 ≤ I11 23 7 ∧ I11 23 7 ≤ 125 from gc_in hI11 R_23 rfl rfl)
    refine gv_get hD rfl rfl S_23 ⟨by decide, B_23⟩ (gc_hI S_23 rfl) ?_
    show gv_X _ _ (36, [(0, .inr (.inr (some 39)))], [.inl (I11 23 7)], sh, gc_h sh I11 J12 A)
    refine gv_run 1 true hD (pc' := 37) (lv' := [(0, .inr (.inr (some 39)))]) (st' := [.inl 3, .inl (I11 23 7)]) (h' := gc_h sh I11 J12 A) (C := (True ∧ True)) rfl ⟨trivial, trivial⟩ ?_
    refine gv_icmp_ne (t := 75) hD rfl rfl ⟨⟨by omega, by omega⟩, ⟨by omega, by omega⟩⟩ (fun c384 => ?_) (fun c384 => ?_)
    · show gv_X _ _ (75, [(0, .inr (.inr (some 39)))], [], sh, gc_h sh I11 J12 A)
      exact L75 (by omega) e1_13 (by have h8 := e2_13; rw [h8]; exact if_neg (by rw [← h8]; omega)) ((e3_13))
    · show gv_X _ _ (40, [(0, .inr (.inr (some 39)))], [], sh, gc_h sh I11 J12 A)
      refine gv_run 1 true hD (pc' := 41) (lv' := [(0, .inr (.inr (some 39)))]) (st' := [.inr (.inr (some 39))]) (h' := gc_h sh I11 J12 A) (C := (True ∧ True)) rfl ⟨trivial, trivial⟩ ?_
      refine gv_get hD rfl rfl S_39 ⟨by decide, B_39⟩ (gc_hA S_39 rfl A_39_1) ?_
      show gv_X _ _ (44, [(0, .inr (.inr (some 39)))], [.inr (.inr (some 23))], sh, gc_h sh I11 J12 A)
      have t386 := gc_TK_l3 KTK_I11 (by omega)
      obtain ⟨r385, h385, E385, P385⟩ := d_X9_lettersSize (ws0 := ws0) (tb := tb) hws htb sh ro I11 J12 A hI11 23  (gc_b23 hb)     
      obtain ⟨rfl, ⟨z385, rfl, q385⟩⟩ := P385
      refine gv_callV hD rfl (As := []) (st := []) rfl B_23 S_23 rfl (gc_lV6 hws rfl) (Nat.le_of_ble_eq_true rfl) (gz_Ev_mono (d := 1) (by decide) E385) ?_
      show gv_X _ _ (47, [(0, .inr (.inr (some 39)))], [.inl z385], sh, gc_h sh I11 J12 A)
      refine gv_run 1 true hD (pc' := 48) (lv' := [(0, .inr (.inr (some 39)))]) (st' := [.inl 1, .inl z385]) (h' := gc_h sh I11 J12 A) (C := (True ∧ True)) rfl ⟨trivial, trivial⟩ ?_
      refine gv_icmp_lt (t := 62) hD rfl rfl ⟨⟨by omega, by omega⟩, ⟨by omega, by omega⟩⟩ (fun c387 => ?_) (fun c387 => ?_)
      · show gv_X _ _ (62, [(0, .inr (.inr (some 39)))], [], sh, gc_h sh I11 J12 A)
        refine gv_run 3 true hD (pc' := 65) (lv' := [(0, .inr (.inr (some 39)))]) (st' := [.inr (.inr (some 39)), .inl 5, .inr (.inr (some 39))]) (h' := gc_h sh I11 J12 A) (C := (((True ∧ True) ∧ True) ∧ True)) rfl ⟨⟨⟨trivial, trivial⟩, trivial⟩, trivial⟩ ?_
        refine gv_get hD rfl rfl S_39 ⟨by decide, B_39⟩ (gc_hA S_39 rfl A_39_1) ?_
        show gv_X _ _ (68, [(0, .inr (.inr (some 39)))], [.inr (.inr (some 23)), .inl 5, .inr (.inr (some 39))], sh, gc_h sh I11 J12 A)
        have f388 := (show 0 ≤ I11 23 5 ∧ I11 23 5 ≤ 1000 from gc_in hI11 R_23 rfl rfl)
        refine gv_get hD rfl rfl S_23 ⟨by decide, B_23⟩ (gc_hI S_23 rfl) ?_
        show gv_X _ _ (71, [(0, .inr (.inr (some 39)))], [.inl (I11 23 5), .inl 5, .inr (.inr (some 39))], sh, gc_h sh I11 J12 A)
        obtain ⟨r389, h389, E389, P389⟩ := d_X6_wrong_p (ws0 := ws0) (tb := tb) hws htb sh ro I11 J12 A hI11  5 (I11 23 5) hb   ⟨by omega, by omega⟩ ⟨by omega, by omega⟩  
        obtain ⟨I390, J391, rfl, hI390, g389, k389, ⟨z389, rfl, q389⟩⟩ := P389
        have FI390 := gc_frc (W := fun q j => (q = 39 ∧ j = 3) ∨ (q = 39 ∧ j = 4) ∨ (q = 23 ∧ j = 5) ∨ (q = 23 ∧ j = 6) ∨ (q = 23 ∧ j = 7) ∨ (q = 23 ∧ j = 8) ∨ (q = 1 ∧ j = 17) ∨ (q = 1 ∧ j = 18) ∨ q = 20 ∨ q = 41 ∨ q = (t + 10) ∨ (q = t ∧ j = 6)) (V := fun q j => (q = 39 ∧ j = 3) ∨ (q = 39 ∧ j = 4)) FI11 (fun q j h => (h.elim (fun h => (Or.inl h)) (fun h => (Or.inr (Or.inl h))))) g389
        have t392 := (g389 23 1).resolve_left (fun h => h.elim (fun h => absurd h.2 (by decide)) (fun h => absurd h.2 (by decide)))
        have t393 := (g389 23 5).resolve_left (fun h => h.elim (fun h => absurd h.2 (by decide)) (fun h => absurd h.2 (by decide)))
        have t394 := (g389 23 6).resolve_left (fun h => h.elim (fun h => absurd h.2 (by decide)) (fun h => absurd h.2 (by decide)))
        have t395 := (g389 23 7).resolve_left (fun h => h.elim (fun h => absurd h.2 (by decide)) (fun h => absurd h.2 (by decide)))
        have t396 := (g389 1 17).resolve_left (fun h => h.elim (fun h => absurd h.2 (by decide)) (fun h => absurd h.2 (by decide)))
        have t397 := (g389 t 6).resolve_left (fun h => h.elim (fun h => absurd h.2 (by decide)) (fun h => absurd h.2 (by decide)))
        have t398 := (g389 1 18).resolve_left (fun h => h.elim (fun h => absurd h.2 (by decide)) (fun h => absurd h.2 (by decide)))
        have t399 := (g389 39 5).resolve_left (fun h => h.elim (fun h => absurd h.2 (by decide)) (fun h => absurd h.2 (by decide)))
        have t400 := (g389 39 2).resolve_left (fun h => h.elim (fun h => absurd h.2 (by decide)) (fun h => absurd h.2 (by decide)))
        have t401 := (g389 41 5).resolve_left (fun h => h.elim (fun h => absurd h.2 (by decide)) (fun h => absurd h.2 (by decide)))
        have t402 := (g389 41 6).resolve_left (fun h => h.elim (fun h => absurd h.2 (by decide)) (fun h => absurd h.2 (by decide)))
        obtain rfl : J12 = J391 := funext fun q => funext fun j => ((k389 q j).resolve_left id).symm
        have KLT_I390 := gc_LT_fr KLT_I11 ((g389 23 5).resolve_left (fun h => h.elim (fun h => absurd h.2 (by decide)) (fun h => absurd h.2 (by decide)))) ((g389 23 6).resolve_left (fun h => h.elim (fun h => absurd h.2 (by decide)) (fun h => absurd h.2 (by decide)))) ((g389 23 7).resolve_left (fun h => h.elim (fun h => absurd h.2 (by decide)) (fun h => absurd h.2 (by decide)))) (fun k => (g389 24 k).resolve_left (fun h => h.elim (fun h => absurd h.1 (by decide)) (fun h => absurd h.1 (by decide))))
        have KTK_I390 := gc_TK_fr KTK_I11 ((g389 23 1).resolve_left (fun h => h.elim (fun h => absurd h.2 (by decide)) (fun h => absurd h.2 (by decide)))) ((g389 23 5).resolve_left (fun h => h.elim (fun h => absurd h.2 (by decide)) (fun h => absurd h.2 (by decide)))) ((g389 23 6).resolve_left (fun h => h.elim (fun h => absurd h.2 (by decide)) (fun h => absurd h.2 (by decide)))) ((g389 23 7).resolve_left (fun h => h.elim (fun h => absurd h.2 (by decide)) (fun h => absurd h.2 (by decide))))
        have KSC_I390 := gc_sc_fr KSC_I11 (fun k => (g389 (t + 10) k).resolve_left (fun h => h.elim (fun h => absurd h.1 N_t_10__39) (fun h => absurd h.1 N_t_10__39)))
        have KRS_I390 := gc_row_fr KRS_I11 (fun k => (g389 41 k).resolve_left (fun h => h.elim (fun h => absurd h.1 (by decide)) (fun h => absurd h.1 (by decide))))
        have KRC_I390 := gc_RC_fr KRC_I11 (fun k => (g389 41 k).resolve_left (fun h => h.elim (fun h => absurd h.1 (by decide)) (fun h => absurd h.1 (by decide))))
        have A403 := gc_AT_I e1_13 ((g389 23 1).resolve_left (fun h => h.elim (fun h => absurd h.2 (by decide)) (fun h => absurd h.2 (by decide)))) ((g389 23 5).resolve_left (fun h => h.elim (fun h => absurd h.2 (by decide)) (fun h => absurd h.2 (by decide)))) ((g389 23 6).resolve_left (fun h => h.elim (fun h => absurd h.2 (by decide)) (fun h => absurd h.2 (by decide)))) ((g389 23 7).resolve_left (fun h => h.elim (fun h => absurd h.2 (by decide)) (fun h => absurd h.2 (by decide)))) ((g389 23 8).resolve_left (fun h => h.elim (fun h => absurd h.2 (by decide)) (fun h => absurd h.2 (by decide)))) (fun k => (g389 24 k).resolve_left (fun h => h.elim (fun h => absurd h.1 (by decide)) (fun h => absurd h.1 (by decide))))
        have t404 := gc_AT_l A403
        refine gv_callV hD rfl (As := [.inl 5, .inl (I11 23 5)]) (st := []) rfl B_39 S_39 rfl (gc_lV6 hws rfl) (Nat.le_of_ble_eq_true rfl) (gz_Ev_mono (d := 1) (by decide) E389) ?_
        show gv_X _ _ (74, [(0, .inr (.inr (some 39)))], [.inl z389], sh, gc_h sh I390 J12 A)
        exact gv_zret hD rfl (by omega) ⟨I390, J12, rfl, hI390, FI390, FJ12, KLT_I390, KTK_I390, KSC_I390, ⟨_, rfl, by omega, by omega, by omega, by omega, by omega, (Or.inr ⟨by omega, by have h8 := e2_13; rw [show (gs_snd β η Ir Jr (I 39 5) p9) = _ from if_pos (by rw [← h8]; omega)]; exact ⟨by rw [← h8]; omega, by rw [← h8]; omega, by omega⟩⟩)⟩⟩
      · show gv_X _ _ (51, [(0, .inr (.inr (some 39)))], [], sh, gc_h sh I11 J12 A)
        refine gv_run 1 true hD (pc' := 52) (lv' := [(0, .inr (.inr (some 39)))]) (st' := [.inr (.inr (some 39))]) (h' := gc_h sh I11 J12 A) (C := (True ∧ True)) rfl ⟨trivial, trivial⟩ ?_
        refine gv_get hD rfl rfl S_39 ⟨by decide, B_39⟩ (gc_hA S_39 rfl A_39_1) ?_
        show gv_X _ _ (55, [(0, .inr (.inr (some 39)))], [.inr (.inr (some 23))], sh, gc_h sh I11 J12 A)
        have t406 := gc_TK_l3 KTK_I11 (by omega)
        obtain ⟨r405, h405, E405, P405⟩ := d_X9_lettersSize (ws0 := ws0) (tb := tb) hws htb sh ro I11 J12 A hI11 23  (gc_b23 hb)     
        obtain ⟨rfl, ⟨z405, rfl, q405⟩⟩ := P405
        refine gv_callV hD rfl (As := []) (st := []) rfl B_23 S_23 rfl (gc_lV6 hws rfl) (Nat.le_of_ble_eq_true rfl) (gz_Ev_mono (d := 1) (by decide) E405) ?_
        show gv_X _ _ (58, [(0, .inr (.inr (some 39)))], [.inl z405], sh, gc_h sh I11 J12 A)
        refine gv_run 1 true hD (pc' := 59) (lv' := [(0, .inr (.inr (some 39)))]) (st' := [.inl 3, .inl z405]) (h' := gc_h sh I11 J12 A) (C := (True ∧ True)) rfl ⟨trivial, trivial⟩ ?_
        refine gv_icmp_le (t := 75) hD rfl rfl ⟨⟨by omega, by omega⟩, ⟨by omega, by omega⟩⟩ (fun c407 => ?_) (fun c407 => ?_)
        · show gv_X _ _ (75, [(0, .inr (.inr (some 39)))], [], sh, gc_h sh I11 J12 A)
          exact L75 (by omega) e1_13 (by have h8 := e2_13; rw [h8]; exact if_neg (by rw [← h8]; omega)) ((e3_13))
        · show gv_X _ _ (62, [(0, .inr (.inr (some 39)))], [], sh, gc_h sh I11 J12 A)
          refine gv_run 3 true hD (pc' := 65) (lv' := [(0, .inr (.inr (some 39)))]) (st' := [.inr (.inr (some 39)), .inl 5, .inr (.inr (some 39))]) (h' := gc_h sh I11 J12 A) (C := (((True ∧ True) ∧ True) ∧ True)) rfl ⟨⟨⟨trivial, trivial⟩, trivial⟩, trivial⟩ ?_
          refine gv_get hD rfl rfl S_39 ⟨by decide, B_39⟩ (gc_hA S_39 rfl A_39_1) ?_
          show gv_X _ _ (68, [(0, .inr (.inr (some 39)))], [.inr (.inr (some 23)), .inl 5, .inr (.inr (some 39))], sh, gc_h sh I11 J12 A)
          have f408 := (show 0 ≤ I11 23 5 ∧ I11 23 5 ≤ 1000 from gc_in hI11 R_23 rfl rfl)
          refine gv_get hD rfl rfl S_23 ⟨by decide, B_23⟩ (gc_hI S_23 rfl) ?_
          show gv_X _ _ (71, [(0, .inr (.inr (some 39)))], [.inl (I11 23 5), .inl 5, .inr (.inr (some 39))], sh, gc_h sh I11 J12 A)
          obtain ⟨r409, h409, E409, P409⟩ := d_X6_wrong_p (ws0 := ws0) (tb := tb) hws htb sh ro I11 J12 A hI11  5 (I11 23 5) hb   ⟨by omega, by omega⟩ ⟨by omega, by omega⟩  
          obtain ⟨I410, J411, rfl, hI410, g409, k409, ⟨z409, rfl, q409⟩⟩ := P409
          have FI410 := gc_frc (W := fun q j => (q = 39 ∧ j = 3) ∨ (q = 39 ∧ j = 4) ∨ (q = 23 ∧ j = 5) ∨ (q = 23 ∧ j = 6) ∨ (q = 23 ∧ j = 7) ∨ (q = 23 ∧ j = 8) ∨ (q = 1 ∧ j = 17) ∨ (q = 1 ∧ j = 18) ∨ q = 20 ∨ q = 41 ∨ q = (t + 10) ∨ (q = t ∧ j = 6)) (V := fun q j => (q = 39 ∧ j = 3) ∨ (q = 39 ∧ j = 4)) FI11 (fun q j h => (h.elim (fun h => (Or.inl h)) (fun h => (Or.inr (Or.inl h))))) g409
          have t412 := (g409 23 1).resolve_left (fun h => h.elim (fun h => absurd h.2 (by decide)) (fun h => absurd h.2 (by decide)))
          have t413 := (g409 23 5).resolve_left (fun h => h.elim (fun h => absurd h.2 (by decide)) (fun h => absurd h.2 (by decide)))
          have t414 := (g409 23 6).resolve_left (fun h => h.elim (fun h => absurd h.2 (by decide)) (fun h => absurd h.2 (by decide)))
          have t415 := (g409 23 7).resolve_left (fun h => h.elim (fun h => absurd h.2 (by decide)) (fun h => absurd h.2 (by decide)))
          have t416 := (g409 1 17).resolve_left (fun h => h.elim (fun h => absurd h.2 (by decide)) (fun h => absurd h.2 (by decide)))
          have t417 := (g409 t 6).resolve_left (fun h => h.elim (fun h => absurd h.2 (by decide)) (fun h => absurd h.2 (by decide)))
          have t418 := (g409 1 18).resolve_left (fun h => h.elim (fun h => absurd h.2 (by decide)) (fun h => absurd h.2 (by decide)))
          have t419 := (g409 39 5).resolve_left (fun h => h.elim (fun h => absurd h.2 (by decide)) (fun h => absurd h.2 (by decide)))
          have t420 := (g409 39 2).resolve_left (fun h => h.elim (fun h => absurd h.2 (by decide)) (fun h => absurd h.2 (by decide)))
          have t421 := (g409 41 5).resolve_left (fun h => h.elim (fun h => absurd h.2 (by decide)) (fun h => absurd h.2 (by decide)))
          have t422 := (g409 41 6).resolve_left (fun h => h.elim (fun h => absurd h.2 (by decide)) (fun h => absurd h.2 (by decide)))
          obtain rfl : J12 = J411 := funext fun q => funext fun j => ((k409 q j).resolve_left id).symm
          have KLT_I410 := gc_LT_fr KLT_I11 ((g409 23 5).resolve_left (fun h => h.elim (fun h => absurd h.2 (by decide)) (fun h => absurd h.2 (by decide)))) ((g409 23 6).resolve_left (fun h => h.elim (fun h => absurd h.2 (by decide)) (fun h => absurd h.2 (by decide)))) ((g409 23 7).resolve_left (fun h => h.elim (fun h => absurd h.2 (by decide)) (fun h => absurd h.2 (by decide)))) (fun k => (g409 24 k).resolve_left (fun h => h.elim (fun h => absurd h.1 (by decide)) (fun h => absurd h.1 (by decide))))
          have KTK_I410 := gc_TK_fr KTK_I11 ((g409 23 1).resolve_left (fun h => h.elim (fun h => absurd h.2 (by decide)) (fun h => absurd h.2 (by decide)))) ((g409 23 5).resolve_left (fun h => h.elim (fun h => absurd h.2 (by decide)) (fun h => absurd h.2 (by decide)))) ((g409 23 6).resolve_left (fun h => h.elim (fun h => absurd h.2 (by decide)) (fun h => absurd h.2 (by decide)))) ((g409 23 7).resolve_left (fun h => h.elim (fun h => absurd h.2 (by decide)) (fun h => absurd h.2 (by decide))))
          have KSC_I410 := gc_sc_fr KSC_I11 (fun k => (g409 (t + 10) k).resolve_left (fun h => h.elim (fun h => absurd h.1 N_t_10__39) (fun h => absurd h.1 N_t_10__39)))
          have KRS_I410 := gc_row_fr KRS_I11 (fun k => (g409 41 k).resolve_left (fun h => h.elim (fun h => absurd h.1 (by decide)) (fun h => absurd h.1 (by decide))))
          have KRC_I410 := gc_RC_fr KRC_I11 (fun k => (g409 41 k).resolve_left (fun h => h.elim (fun h => absurd h.1 (by decide)) (fun h => absurd h.1 (by decide))))
          have A423 := gc_AT_I e1_13 ((g409 23 1).resolve_left (fun h => h.elim (fun h => absurd h.2 (by decide)) (fun h => absurd h.2 (by decide)))) ((g409 23 5).resolve_left (fun h => h.elim (fun h => absurd h.2 (by decide)) (fun h => absurd h.2 (by decide)))) ((g409 23 6).resolve_left (fun h => h.elim (fun h => absurd h.2 (by decide)) (fun h => absurd h.2 (by decide)))) ((g409 23 7).resolve_left (fun h => h.elim (fun h => absurd h.2 (by decide)) (fun h => absurd h.2 (by decide)))) ((g409 23 8).resolve_left (fun h => h.elim (fun h => absurd h.2 (by decide)) (fun h => absurd h.2 (by decide)))) (fun k => (g409 24 k).resolve_left (fun h => h.elim (fun h => absurd h.1 (by decide)) (fun h => absurd h.1 (by decide))))
          have t424 := gc_AT_l A423
          refine gv_callV hD rfl (As := [.inl 5, .inl (I11 23 5)]) (st := []) rfl B_39 S_39 rfl (gc_lV6 hws rfl) (Nat.le_of_ble_eq_true rfl) (gz_Ev_mono (d := 1) (by decide) E409) ?_
          show gv_X _ _ (74, [(0, .inr (.inr (some 39)))], [.inl z409], sh, gc_h sh I410 J12 A)
          exact gv_zret hD rfl (by omega) ⟨I410, J12, rfl, hI410, FI410, FJ12, KLT_I410, KTK_I410, KSC_I410, ⟨_, rfl, by omega, by omega, by omega, by omega, by omega, (Or.inr ⟨by omega, by have h8 := e2_13; rw [show (gs_snd β η Ir Jr (I 39 5) p9) = _ from if_pos (by rw [← h8]; omega)]; exact ⟨by rw [← h8]; omega, by rw [← h8]; omega, by omega⟩⟩)⟩⟩
  refine gv_run 1 true hD (pc' := 1) (lv' := [(0, .inr (.inr (some 39)))]) (st' := [.inr (.inr (some 39))]) (h' := gc_h sh I J A) (C := (True ∧ True)) rfl ⟨trivial, trivial⟩ ?_
  refine gv_get hD rfl rfl S_39 ⟨by decide, B_39⟩ (gc_hA S_39 rfl A_39_10) ?_
  show gv_X _ _ (4, [(0, .inr (.inr (some 39)))], [.inr (.inr (some 41))], sh, gc_h sh I J A)
  refine gv_run 1 true hD (pc' := 5) (lv' := [(0, .inr (.inr (some 39)))]) (st' := [.inl 0, .inr (.inr (some 41))]) (h' := gc_h sh I J A) (C := (True ∧ True)) rfl ⟨trivial, trivial⟩ ?_
  obtain ⟨I426, E425, hI426, g425, q425⟩ := gj_fill (ws0 := ws0) (tb := tb) sh ro I J A hI 41 25 0 S_41 B_41 (by decide) ⟨by omega, by omega⟩ (fun k => by rw [R_41]; exact ⟨by show (-2147483648) ≤ _; omega, by show _ ≤ 2147483647; omega⟩)
  refine gv_callS hD rfl (As := [.inr (.inr (some 41)), .inl 0]) (st := []) rfl (gc_lS6 hws rfl) (Nat.le_of_ble_eq_true rfl) (gz_Ev_mono (d := 1) (by decide) E425) ?_
  have FI426 := gc_frc (W := fun q j => (q = 39 ∧ j = 3) ∨ (q = 39 ∧ j = 4) ∨ (q = 23 ∧ j = 5) ∨ (q = 23 ∧ j = 6) ∨ (q = 23 ∧ j = 7) ∨ (q = 23 ∧ j = 8) ∨ (q = 1 ∧ j = 17) ∨ (q = 1 ∧ j = 18) ∨ q = 20 ∨ q = 41 ∨ q = (t + 10) ∨ (q = t ∧ j = 6)) (V := fun q j => q = 41) FI (fun q j h => (Or.inr (Or.inr (Or.inr (Or.inr (Or.inr (Or.inr (Or.inr (Or.inr (Or.inr (Or.inl h))))))))))) g425
  have KLT_I426 := gc_LT_fr KLT_I ((g425 23 5).resolve_left (fun h => absurd h (by decide))) ((g425 23 6).resolve_left (fun h => absurd h (by decide))) ((g425 23 7).resolve_left (fun h => absurd h (by decide))) (fun k => (g425 24 k).resolve_left (fun h => absurd h (by decide)))
  have KTK_I426 := gc_TK_fr KTK_I ((g425 23 1).resolve_left (fun h => absurd h (by decide))) ((g425 23 5).resolve_left (fun h => absurd h (by decide))) ((g425 23 6).resolve_left (fun h => absurd h (by decide))) ((g425 23 7).resolve_left (fun h => absurd h (by decide)))
  have KSC_I426 := gc_sc_fr KSC_I (fun k => (g425 (t + 10) k).resolve_left (fun h => absurd h N_t_10__41))
  have KRS_I426 : gc_row 41 25 gc_fS I426 := gc_row_fill q425 (fun j => by unfold gc_fS; omega)
  have KRC_I426 : gc_RC I426 := gc_RC_fill q425
  have t428 := (g425 23 1).resolve_left (fun h => absurd h (by decide))
  have t429 := (g425 23 5).resolve_left (fun h => absurd h (by decide))
  have t430 := (g425 23 6).resolve_left (fun h => absurd h (by decide))
  have t431 := (g425 23 7).resolve_left (fun h => absurd h (by decide))
  have t432 := (g425 1 17).resolve_left (fun h => absurd h (by decide))
  have t433 := (g425 t 6).resolve_left (fun h => absurd h N_t__41)
  have t434 := (g425 1 18).resolve_left (fun h => absurd h (by decide))
  have t435 := (g425 39 5).resolve_left (fun h => absurd h (by decide))
  have t436 := (g425 39 2).resolve_left (fun h => absurd h (by decide))
  have t437 := gc_TK_mo KTK_I426
  have f438 := (show 0 ≤ I426 23 1 ∧ I426 23 1 ≤ 1000 from gc_in hI426 R_23 rfl rfl)
  have f439 := (show 0 ≤ I426 23 5 ∧ I426 23 5 ≤ 1000 from gc_in hI426 R_23 rfl rfl)
  have f440 := (show 0 ≤ I426 23 6 ∧ I426 23 6 ≤ 1001 from gc_in hI426 R_23 rfl rfl)
  have f441 := (show 0 ≤ I426 23 7 ∧ I426 23 7 ≤ 125 from gc_in hI426 R_23 rfl rfl)
  have f442 := (show 0 ≤ I426 1 17 ∧ I426 1 17 ≤ 12000 from gc_in hI426 R_1 rfl rfl)
  have f443 := (show 0 ≤ I426 t 6 ∧ I426 t 6 ≤ 24 from gc_in hI426 R_t rfl rfl)
  have f444 := (show 0 ≤ I426 1 18 ∧ I426 1 18 ≤ 1 from gc_in hI426 R_1 rfl rfl)
  have f445 := (show 0 ≤ I426 39 5 ∧ I426 39 5 ≤ 1000 from gc_in hI426 R_39 rfl rfl)
  have f446 := (show (-1) ≤ I426 39 2 ∧ I426 39 2 ≤ 999999 from gc_in hI426 R_39 rfl rfl)
  have A447 := gc_AT_I x1 ((g425 23 1).resolve_left (fun h => absurd h (by decide))) ((g425 23 5).resolve_left (fun h => absurd h (by decide))) ((g425 23 6).resolve_left (fun h => absurd h (by decide))) ((g425 23 7).resolve_left (fun h => absurd h (by decide))) ((g425 23 8).resolve_left (fun h => absurd h (by decide))) (fun k => (g425 24 k).resolve_left (fun h => absurd h (by decide)))
  show gv_X _ _ (8, [(0, .inr (.inr (some 39)))], [], sh, gc_h sh I426 J A)
  have t448 := (q425 5 (by decide))
  have t449 := (q425 6 (by decide))
  refine gv_run 1 true hD (pc' := 9) (lv' := [(0, .inr (.inr (some 39)))]) (st' := [.inr (.inr (some 39))]) (h' := gc_h sh I426 J A) (C := (True ∧ True)) rfl ⟨trivial, trivial⟩ ?_
  refine gv_get hD rfl rfl S_39 ⟨by decide, B_39⟩ (gc_hA S_39 rfl A_39_1) ?_
  show gv_X _ _ (12, [(0, .inr (.inr (some 39)))], [.inr (.inr (some 23))], sh, gc_h sh I426 J A)
  have f450 := (show 0 ≤ I426 23 7 ∧ I426 23 7 ≤ 125 from gc_in hI426 R_23 rfl rfl)
  refine gv_get hD rfl rfl S_23 ⟨by decide, B_23⟩ (gc_hI S_23 rfl) ?_
  show gv_X _ _ (15, [(0, .inr (.inr (some 39)))], [.inl (I426 23 7)], sh, gc_h sh I426 J A)
  refine gv_run 1 true hD (pc' := 16) (lv' := [(0, .inr (.inr (some 39)))]) (st' := [.inl 1, .inl (I426 23 7)]) (h' := gc_h sh I426 J A) (C := (True ∧ True)) rfl ⟨trivial, trivial⟩ ?_
  refine gv_icmp_eq (t := 29) hD rfl rfl ⟨⟨by omega, by omega⟩, ⟨by omega, by omega⟩⟩ (fun c451 => ?_) (fun c451 => ?_)
  · show gv_X _ _ (29, [(0, .inr (.inr (some 39)))], [], sh, gc_h sh I426 J A)
    exact L29 I426 J p9 hI426 FI426 FJ KLT_I426 KTK_I426 KSC_I426 KRS_I426 KRC_I426 (by omega) A447 rfl (((g425 39 5).resolve_left (by omega)))
  · show gv_X _ _ (19, [(0, .inr (.inr (some 39)))], [], sh, gc_h sh I426 J A)
    refine gv_run 2 true hD (pc' := 21) (lv' := [(0, .inr (.inr (some 39)))]) (st' := [.inl 3, .inr (.inr (some 39))]) (h' := gc_h sh I426 J A) (C := ((True ∧ True) ∧ True)) rfl ⟨⟨trivial, trivial⟩, trivial⟩ ?_
    obtain ⟨r452, h452, E452, P452⟩ := d_X6_need_p (ws0 := ws0) (tb := tb) hws htb sh ro I426 J A hI426  β η p9 3 hb   ⟨by omega, by omega⟩ A447 (by omega) 
    obtain ⟨I453, J454, rfl, hI453, g452, k452, ⟨z452, rfl, q452⟩⟩ := P452
    have FI453 := gc_frc (W := fun q j => (q = 39 ∧ j = 3) ∨ (q = 39 ∧ j = 4) ∨ (q = 23 ∧ j = 5) ∨ (q = 23 ∧ j = 6) ∨ (q = 23 ∧ j = 7) ∨ (q = 23 ∧ j = 8) ∨ (q = 1 ∧ j = 17) ∨ (q = 1 ∧ j = 18) ∨ q = 20 ∨ q = 41 ∨ q = (t + 10) ∨ (q = t ∧ j = 6)) (V := fun q j => (q = 39 ∧ j = 3) ∨ (q = 39 ∧ j = 4)) FI426 (fun q j h => (h.elim (fun h => (Or.inl h)) (fun h => (Or.inr (Or.inl h))))) g452
    have t455 := (g452 23 1).resolve_left (fun h => h.elim (fun h => absurd h.2 (by decide)) (fun h => absurd h.2 (by decide)))
    have t456 := (g452 23 5).resolve_left (fun h => h.elim (fun h => absurd h.2 (by decide)) (fun h => absurd h.2 (by decide)))
    have t457 := (g452 23 6).resolve_left (fun h => h.elim (fun h => absurd h.2 (by decide)) (fun h => absurd h.2 (by decide)))
    have t458 := (g452 23 7).resolve_left (fun h => h.elim (fun h => absurd h.2 (by decide)) (fun h => absurd h.2 (by decide)))
    have t459 := (g452 1 17).resolve_left (fun h => h.elim (fun h => absurd h.2 (by decide)) (fun h => absurd h.2 (by decide)))
    have t460 := (g452 t 6).resolve_left (fun h => h.elim (fun h => absurd h.2 (by decide)) (fun h => absurd h.2 (by decide)))
    have t461 := (g452 1 18).resolve_left (fun h => h.elim (fun h => absurd h.2 (by decide)) (fun h => absurd h.2 (by decide)))
    have t462 := (g452 39 5).resolve_left (fun h => h.elim (fun h => absurd h.2 (by decide)) (fun h => absurd h.2 (by decide)))
    have t463 := (g452 39 2).resolve_left (fun h => h.elim (fun h => absurd h.2 (by decide)) (fun h => absurd h.2 (by decide)))
    have t464 := (g452 41 5).resolve_left (fun h => h.elim (fun h => absurd h.2 (by decide)) (fun h => absurd h.2 (by decide)))
    have t465 := (g452 41 6).resolve_left (fun h => h.elim (fun h => absurd h.2 (by decide)) (fun h => absurd h.2 (by decide)))
    obtain rfl : J = J454 := funext fun q => funext fun j => ((k452 q j).resolve_left id).symm
    have KLT_I453 := gc_LT_fr KLT_I426 ((g452 23 5).resolve_left (fun h => h.elim (fun h => absurd h.2 (by decide)) (fun h => absurd h.2 (by decide)))) ((g452 23 6).resolve_left (fun h => h.elim (fun h => absurd h.2 (by decide)) (fun h => absurd h.2 (by decide)))) ((g452 23 7).resolve_left (fun h => h.elim (fun h => absurd h.2 (by decide)) (fun h => absurd h.2 (by decide)))) (fun k => (g452 24 k).resolve_left (fun h => h.elim (fun h => absurd h.1 (by decide)) (fun h => absurd h.1 (by decide))))
    have KTK_I453 := gc_TK_fr KTK_I426 ((g452 23 1).resolve_left (fun h => h.elim (fun h => absurd h.2 (by decide)) (fun h => absurd h.2 (by decide)))) ((g452 23 5).resolve_left (fun h => h.elim (fun h => absurd h.2 (by decide)) (fun h => absurd h.2 (by decide)))) ((g452 23 6).resolve_left (fun h => h.elim (fun h => absurd h.2 (by decide)) (fun h => absurd h.2 (by decide)))) ((g452 23 7).resolve_left (fun h => h.elim (fun h => absurd h.2 (by decide)) (fun h => absurd h.2 (by decide))))
    have KSC_I453 := gc_sc_fr KSC_I426 (fun k => (g452 (t + 10) k).resolve_left (fun h => h.elim (fun h => absurd h.1 N_t_10__39) (fun h => absurd h.1 N_t_10__39)))
    have KRS_I453 := gc_row_fr KRS_I426 (fun k => (g452 41 k).resolve_left (fun h => h.elim (fun h => absurd h.1 (by decide)) (fun h => absurd h.1 (by decide))))
    have KRC_I453 := gc_RC_fr KRC_I426 (fun k => (g452 41 k).resolve_left (fun h => h.elim (fun h => absurd h.1 (by decide)) (fun h => absurd h.1 (by decide))))
    have A466 := gc_AT_I A447 ((g452 23 1).resolve_left (fun h => h.elim (fun h => absurd h.2 (by decide)) (fun h => absurd h.2 (by decide)))) ((g452 23 5).resolve_left (fun h => h.elim (fun h => absurd h.2 (by decide)) (fun h => absurd h.2 (by decide)))) ((g452 23 6).resolve_left (fun h => h.elim (fun h => absurd h.2 (by decide)) (fun h => absurd h.2 (by decide)))) ((g452 23 7).resolve_left (fun h => h.elim (fun h => absurd h.2 (by decide)) (fun h => absurd h.2 (by decide)))) ((g452 23 8).resolve_left (fun h => h.elim (fun h => absurd h.2 (by decide)) (fun h => absurd h.2 (by decide)))) (fun k => (g452 24 k).resolve_left (fun h => h.elim (fun h => absurd h.1 (by decide)) (fun h => absurd h.1 (by decide))))
    have t467 := gc_AT_l A466
    refine gv_callV hD rfl (As := [.inl 3]) (st := []) rfl B_39 S_39 rfl (gc_lV6 hws rfl) (Nat.le_of_ble_eq_true rfl) (gz_Ev_mono (d := 2) (by decide) E452) ?_
    show gv_X _ _ (24, [(0, .inr (.inr (some 39)))], [.inl z452], sh, gc_h sh I453 J A)
    refine gv_if_ne (t := 29) hD rfl rfl ⟨by omega, by omega⟩ (fun c468 => ?_) (fun c468 => ?_)
    · show gv_X _ _ (29, [(0, .inr (.inr (some 39)))], [], sh, gc_h sh I453 J A)
      have u469 := gs_or1 q452.2.2.2 (by omega)
      exact L29 I453 J p9 hI453 FI453 FJ KLT_I453 KTK_I453 KSC_I453 KRS_I453 KRC_I453 (by omega) A466 rfl ((((g452 39 5).resolve_left (by omega)).trans ((g425 39 5).resolve_left (by omega))))
    · show gv_X _ _ (27, [(0, .inr (.inr (some 39)))], [], sh, gc_h sh I453 J A)
      have u470 := gs_or0 q452.2.2.2 (by omega)
      refine gv_run 1 true hD (pc' := 28) (lv' := [(0, .inr (.inr (some 39)))]) (st' := [.inl 0]) (h' := gc_h sh I453 J A) (C := (True ∧ True)) rfl ⟨trivial, trivial⟩ ?_
      exact gv_zret hD rfl (by omega) ⟨I453, J, rfl, hI453, FI453, FJ, KLT_I453, KTK_I453, KSC_I453, ⟨_, rfl, by omega, by omega, by omega, by omega, by omega, (Or.inr ⟨by omega, by rw [show (gs_snd β η Ir Jr (I 39 5) p9) = _ from if_neg (by omega)]; unfold gs_snd1 gs_ctx; (repeat first | rw [if_pos (by omega)] | rw [if_neg (by omega)]); exact ⟨by omega, by omega, by omega⟩⟩)⟩⟩
