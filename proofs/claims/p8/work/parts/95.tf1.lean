set_option maxHeartbeats 8000000 in
set_option maxRecDepth 100000 in
theorem d_X6_readSide_p {ws0 : List Cond} {tb : String → gz_T} (hws : gc_Ws ws0) (htb : gc_tbs tb) (sh : gz_Sh) (ro : Nat → Nat) (I : gr_I) (J : gr_J) (A : gc_A) (hI : gc_Inv ro I) (t : Nat) (B : Int) (β : Int → Int) (η : Int) (p9 : Int) (Ir : gr_I) (Jr : gr_J) (a1 : Int) (a2 : Int) (hb : gc_Base sh ro A) (h_t : gc_isTongue sh ro A t) (G_t : 144 ≤ t) (ha1 : 5 ≤ a1 ∧ a1 ≤ 6) (ha2 : 7 ≤ a2 ∧ a2 ≤ 16) (x0 : B ≤ 1280 ∧ I 1 17 + I 23 1 ≤ B + I 23 5) (x1 : (a1 = 5 ∧ a2 = 7) ∨ (a1 = 6 ∧ a2 = 16)) (x2 : gc_AT β η p9 23 I J) (x3 : 0 ≤ p9) (x4 : I 1 18 = 0) (x5 : I 41 (Int.toNat a1) = 0) (x6 : I (t + 7) 1 = Ir 15 (Int.toNat (Ir 0 6))) (x7 : gs_NA (I (t + 7) 1) (J (t + 8)) (fun k => Jr 22 (Int.toNat (16 * Ir 0 6 + (k : Int))))) (x8 : gs_MA Ir I t) (x9 : I 39 2 = (t : Int)) (KLT_I : gc_LT I) (KTK_I : gc_TK I) (KRS_I : gc_row 41 25 gc_fS I) (KRC_I : gc_RC I) : ∃ r h', gz_Ev ws0 tb 5 (yX6_readSide, cX6_readSide, 4, (some .boolean)) [.inr (.inr (some 39)), .inl a1, .inl a2] sh (gc_h sh I J A) r sh h' 0 0 ∧ (∃ (I' : gr_I) (J' : gr_J), h' = gc_h sh I' J' A ∧ gc_Inv ro I' ∧ (∀ q j : Nat, ((q = 39 ∧ j = 3) ∨ (q = 39 ∧ j = 4) ∨ (q = 23 ∧ j = 5) ∨ (q = 23 ∧ j = 6) ∨ (q = 23 ∧ j = 7) ∨ (q = 23 ∧ j = 8) ∨ (q = 1 ∧ j = 17) ∨ (q = 1 ∧ j = 18) ∨ q = 20 ∨ q = 41) ∨ I' q j = I q j) ∧ (∀ q j : Nat, ((q = 23 ∧ j = 9)) ∨ J' q j = J q j) ∧ gc_LT I' ∧ gc_TK I' ∧ gc_row 41 25 gc_fS I' ∧ gc_RC I' ∧ (∃ z : Int, r = some (.inl z) ∧ 0 ≤ z ∧ z ≤ 1 ∧ (I' 23 1 = I 23 1) ∧ (I 23 5 ≤ I' 23 5) ∧ (B ≤ 1280 ∧ I' 1 17 + I' 23 1 ≤ B + I' 23 5) ∧ (gc_PKs I I') ∧ (a1 = 5 → I' 41 6 = I 41 6) ∧ (gs_Or z (0 ≤ (gs_sd β η Ir Jr 3 p9) ∧ gc_AT β η (gs_sd β η Ir Jr 3 p9) 23 I' J' ∧ I' 1 18 = 0 ∧ gs_ccs β η Ir Jr I t a1 a2 p9 I') ((gs_sd β η Ir Jr 3 p9) < 0 ∧ I' 39 4 = -1 - (gs_sd β η Ir Jr 3 p9))))) := by
  have FI : ∀ q j : Nat, ((q = 39 ∧ j = 3) ∨ (q = 39 ∧ j = 4) ∨ (q = 23 ∧ j = 5) ∨ (q = 23 ∧ j = 6) ∨ (q = 23 ∧ j = 7) ∨ (q = 23 ∧ j = 8) ∨ (q = 1 ∧ j = 17) ∨ (q = 1 ∧ j = 18) ∨ q = 20 ∨ q = 41) ∨ I q j = I q j := fun _ _ => Or.inr rfl
  have FJ : ∀ q j : Nat, ((q = 23 ∧ j = 9)) ∨ J q j = J q j := fun _ _ => Or.inr rfl
  have A_39_1 : A 39 1 = some 23 := gc_bA hb rfl
  have A_39_10 : A 39 10 = some 41 := gc_bA hb rfl
  have B_23 : 23 < 1000000 := by decide
  have B_39 : 39 < 1000000 := by decide
  have B_41 : 41 < 1000000 := by decide
  have R_1 : ro 1 = 22 := gc_bR hb (by decide) rfl
  have R_23 : ro 23 = 3 := gc_bR hb (by decide) rfl
  have R_39 : ro 39 = 42 := gc_bR hb (by decide) rfl
  have R_41 : ro 41 = 0 := gc_bR hb (by decide) rfl
  have S_23 : sh[23]? = some (false, 9, 10) := gc_bS hb rfl
  have S_39 : sh[39]? = some (false, 6, 19) := gc_bS hb rfl
  have S_41 : sh[41]? = some (true, 1, 25) := gc_bS hb rfl
  obtain ⟨S_t, R_t, B_t, A_t_0, h_t_1, A_t_1, h_t_3, A_t_2, S_t_5, R_t_5, B_t_5, A_t_3, S_t_6, R_t_6, B_t_6, A_t_4, h_t_7, A_t_5, S_t_9, R_t_9, B_t_9, A_t_7, S_t_10, R_t_10, B_t_10, A_t_8, h_t_11, A_t_9, S_t_13, R_t_13, B_t_13, A_t_10, S_t_14, R_t_14, B_t_14, A_t_12, S_t_15, R_t_15, B_t_15, A_t_14, S_t_16, R_t_16, B_t_16, A_t_15, h_t_17⟩ := id h_t
  obtain ⟨S_t_1, R_t_1, B_t_1, A_t_1_0, S_t_1_1, R_t_1_1, B_t_1_1, Q0_t_1, Q1_t_1, Q2_t_1⟩ := id h_t_1
  obtain ⟨S_t_3, R_t_3, B_t_3, A_t_3_0, S_t_3_1, R_t_3_1, B_t_3_1, Q0_t_3, Q1_t_3, Q2_t_3⟩ := id h_t_3
  obtain ⟨S_t_7, R_t_7, B_t_7, A_t_7_0, S_t_7_1, R_t_7_1, B_t_7_1, Q0_t_7, Q1_t_7, Q2_t_7⟩ := id h_t_7
  obtain ⟨S_t_11, R_t_11, B_t_11, A_t_11_0, S_t_11_1, R_t_11_1, B_t_11_1, Q0_t_11, Q1_t_11, Q2_t_11⟩ := id h_t_11
  obtain ⟨S_t_17, R_t_17, B_t_17, A_t_17_0, S_20, R_20, B_20, A_t_17_1, S_t_17_1, R_t_17_1, B_t_17_1, A_t_17_2, S_t_17_2, R_t_17_2, B_t_17_2, A_t_17_3, S_t_17_3, R_t_17_3, B_t_17_3, A_t_17_4, S_t_17_4, R_t_17_4, B_t_17_4, A_t_17_5, S_t_17_5, R_t_17_5, B_t_17_5, S_t_17_6, R_t_17_6, B_t_17_6, S_t_17_7, R_t_17_7, B_t_17_7⟩ := id h_t_17
  have hD : gv_D (gc_E6 ws0 tb 4 (yX6_readSide, cX6_readSide, 4, (some .boolean)) kX6_readSide) := gq_of oX6_readSide
  refine gc_ev6 (d := 4) (l := kX6_readSide) (Po := fun r h' => (∃ (I' : gr_I) (J' : gr_J), h' = gc_h sh I' J' A ∧ gc_Inv ro I' ∧ (∀ q j : Nat, ((q = 39 ∧ j = 3) ∨ (q = 39 ∧ j = 4) ∨ (q = 23 ∧ j = 5) ∨ (q = 23 ∧ j = 6) ∨ (q = 23 ∧ j = 7) ∨ (q = 23 ∧ j = 8) ∨ (q = 1 ∧ j = 17) ∨ (q = 1 ∧ j = 18) ∨ q = 20 ∨ q = 41) ∨ I' q j = I q j) ∧ (∀ q j : Nat, ((q = 23 ∧ j = 9)) ∨ J' q j = J q j) ∧ gc_LT I' ∧ gc_TK I' ∧ gc_row 41 25 gc_fS I' ∧ gc_RC I' ∧ (∃ z : Int, r = some (.inl z) ∧ 0 ≤ z ∧ z ≤ 1 ∧ (I' 23 1 = I 23 1) ∧ (I 23 5 ≤ I' 23 5) ∧ (B ≤ 1280 ∧ I' 1 17 + I' 23 1 ≤ B + I' 23 5) ∧ (gc_PKs I I') ∧ (a1 = 5 → I' 41 6 = I 41 6) ∧ (gs_Or z (0 ≤ (gs_sd β η Ir Jr 3 p9) ∧ gc_AT β η (gs_sd β η Ir Jr 3 p9) 23 I' J' ∧ I' 1 18 = 0 ∧ gs_ccs β η Ir Jr I t a1 a2 p9 I') ((gs_sd β η Ir Jr 3 p9) < 0 ∧ I' 39 4 = -1 - (gs_sd β η Ir Jr 3 p9)))))) htb rfl (Nat.le_of_ble_eq_true rfl) ?_
  have KPK_I : gc_PKs I I := gc_PKs_rf
  have t1 := gc_TK_mo KTK_I
  have f2 := (show 0 ≤ I 23 1 ∧ I 23 1 ≤ 1000 from gc_in hI R_23 rfl rfl)
  have f3 := (show 0 ≤ I 23 5 ∧ I 23 5 ≤ 1000 from gc_in hI R_23 rfl rfl)
  have f4 := (show 0 ≤ I 23 6 ∧ I 23 6 ≤ 1001 from gc_in hI R_23 rfl rfl)
  have f5 := (show 0 ≤ I 23 7 ∧ I 23 7 ≤ 125 from gc_in hI R_23 rfl rfl)
  have f6 := (show 0 ≤ I 1 17 ∧ I 1 17 ≤ 12000 from gc_in hI R_1 rfl rfl)
  have f7 := (show 0 ≤ I 1 18 ∧ I 1 18 ≤ 1 from gc_in hI R_1 rfl rfl)
  have f8 := (show (-1) ≤ I 39 2 ∧ I 39 2 ≤ 999999 from gc_in hI R_39 rfl rfl)
  have tAT := gc_AT_l x2
  have L2 : ∀ (n9 : Nat) (I9 : gr_I) (J10 : gr_J) (v3_11 : Int) (p_11 : Int), (5 - v3_11).toNat < n9 → gc_Inv ro I9 → (∀ q j : Nat, ((q = 39 ∧ j = 3) ∨ (q = 39 ∧ j = 4) ∨ (q = 23 ∧ j = 5) ∨ (q = 23 ∧ j = 6) ∨ (q = 23 ∧ j = 7) ∨ (q = 23 ∧ j = 8) ∨ (q = 1 ∧ j = 17) ∨ (q = 1 ∧ j = 18) ∨ q = 20 ∨ q = 41) ∨ I9 q j = I q j) → (∀ q j : Nat, ((q = 23 ∧ j = 9)) ∨ J10 q j = J q j) → gc_LT I9 → gc_TK I9 → gc_row 41 25 gc_fS I9 → gc_RC I9 → gc_PKs I I9 → ((5 ≤ a1 ∧ a1 ≤ 6) ∧ (7 ≤ a2 ∧ a2 ≤ 16) ∧ (0 ≤ v3_11 ∧ v3_11 ≤ 4) ∧ (0 ≤ p_11) ∧ (I9 1 18 = 0) ∧ (I9 41 (Int.toNat a1) = v3_11 ∧ v3_11 ≤ 3) ∧ (I9 23 1 = I 23 1) ∧ (I 23 5 ≤ I9 23 5) ∧ (B ≤ 1280 ∧ I9 1 17 + I9 23 1 ≤ B + I9 23 5) ∧ (I9 39 2 = (t : Int))) → (gc_AT β η p_11 23 I9 J10) → ((gs_sd β η Ir Jr 3 p9) = gs_sd β η Ir Jr (Int.toNat (3 - v3_11)) p_11) → (gs_c2 β η Ir Jr I t a1 a2 p9 I9 v3_11 p_11) → (a1 = 5 → I9 41 6 = I 41 6) → gv_X (gc_E6 ws0 tb 4 (yX6_readSide, cX6_readSide, 4, (some .boolean)) kX6_readSide) (gv_Q cX6_readSide (some .boolean) sh (fun r h' => (∃ (I' : gr_I) (J' : gr_J), h' = gc_h sh I' J' A ∧ gc_Inv ro I' ∧ (∀ q j : Nat, ((q = 39 ∧ j = 3) ∨ (q = 39 ∧ j = 4) ∨ (q = 23 ∧ j = 5) ∨ (q = 23 ∧ j = 6) ∨ (q = 23 ∧ j = 7) ∨ (q = 23 ∧ j = 8) ∨ (q = 1 ∧ j = 17) ∨ (q = 1 ∧ j = 18) ∨ q = 20 ∨ q = 41) ∨ I' q j = I q j) ∧ (∀ q j : Nat, ((q = 23 ∧ j = 9)) ∨ J' q j = J q j) ∧ gc_LT I' ∧ gc_TK I' ∧ gc_row 41 25 gc_fS I' ∧ gc_RC I' ∧ (∃ z : Int, r = some (.inl z) ∧ 0 ≤ z ∧ z ≤ 1 ∧ (I' 23 1 = I 23 1) ∧ (I 23 5 ≤ I' 23 5) ∧ (B ≤ 1280 ∧ I' 1 17 + I' 23 1 ≤ B + I' 23 5) ∧ (gc_PKs I I') ∧ (a1 = 5 → I' 41 6 = I 41 6) ∧ (gs_Or z (0 ≤ (gs_sd β η Ir Jr 3 p9) ∧ gc_AT β η (gs_sd β η Ir Jr 3 p9) 23 I' J' ∧ I' 1 18 = 0 ∧ gs_ccs β η Ir Jr I t a1 a2 p9 I') ((gs_sd β η Ir Jr 3 p9) < 0 ∧ I' 39 4 = -1 - (gs_sd β η Ir Jr 3 p9))))))) (2, [(0, .inr (.inr (some 39))), (1, .inl a1), (2, .inl a2), (3, .inl v3_11)], [], sh, gc_h sh I9 J10 A) := by
    intro n9
    induction n9 with
    | zero => intro I9 J10 v3_11 p_11 hn; exact gz_m 0 (by omega)
    | succ n9 ih2 =>
      intro I9 J10 v3_11 p_11 hn hI9 FI9 FJ10 KLT_I9 KTK_I9 KRS_I9 KRC_I9 KPK_I9 m_11 e1_11 e2_11 e3_11 e6_11
      obtain ⟨ha1_11, ha2_11, hv3_11, e0_11, e4_11, e5_11, e7_11, e8_11, e9_11, e10_11⟩ := m_11
      have t12 := gc_TK_mo KTK_I9
      have f13 := (show 0 ≤ I9 23 1 ∧ I9 23 1 ≤ 1000 from gc_in hI9 R_23 rfl rfl)
      have f14 := (show 0 ≤ I9 23 5 ∧ I9 23 5 ≤ 1000 from gc_in hI9 R_23 rfl rfl)
      have f15 := (show 0 ≤ I9 23 6 ∧ I9 23 6 ≤ 1001 from gc_in hI9 R_23 rfl rfl)
      have f16 := (show 0 ≤ I9 23 7 ∧ I9 23 7 ≤ 125 from gc_in hI9 R_23 rfl rfl)
      have f17 := (show 0 ≤ I9 1 17 ∧ I9 1 17 ≤ 12000 from gc_in hI9 R_1 rfl rfl)
      have f18 := (show 0 ≤ I9 1 18 ∧ I9 1 18 ≤ 1 from gc_in hI9 R_1 rfl rfl)
      have f19 := (show (-1) ≤ I9 39 2 ∧ I9 39 2 ≤ 999999 from gc_in hI9 R_39 rfl rfl)
      have t20 := gc_AT_l e1_11
      have L41 : ((5 ≤ a1 ∧ a1 ≤ 6) ∧ (7 ≤ a2 ∧ a2 ≤ 16) ∧ (0 ≤ v3_11 ∧ v3_11 ≤ 3) ∧ (I9 23 7 = 1 ∨ I9 23 7 = 3 ∨ I9 23 7 = 35) ∧ (I9 23 1 = I 23 1) ∧ (I 23 5 ≤ I9 23 5) ∧ (B ≤ 1280 ∧ I9 1 17 + I9 23 1 ≤ B + I9 23 5) ∧ (I9 39 2 = (t : Int))) → gv_X (gc_E6 ws0 tb 4 (yX6_readSide, cX6_readSide, 4, (some .boolean)) kX6_readSide) (gv_Q cX6_readSide (some .boolean) sh (fun r h' => (∃ (I' : gr_I) (J' : gr_J), h' = gc_h sh I' J' A ∧ gc_Inv ro I' ∧ (∀ q j : Nat, ((q = 39 ∧ j = 3) ∨ (q = 39 ∧ j = 4) ∨ (q = 23 ∧ j = 5) ∨ (q = 23 ∧ j = 6) ∨ (q = 23 ∧ j = 7) ∨ (q = 23 ∧ j = 8) ∨ (q = 1 ∧ j = 17) ∨ (q = 1 ∧ j = 18) ∨ q = 20 ∨ q = 41) ∨ I' q j = I q j) ∧ (∀ q j : Nat, ((q = 23 ∧ j = 9)) ∨ J' q j = J q j) ∧ gc_LT I' ∧ gc_TK I' ∧ gc_row 41 25 gc_fS I' ∧ gc_RC I' ∧ (∃ z : Int, r = some (.inl z) ∧ 0 ≤ z ∧ z ≤ 1 ∧ (I' 23 1 = I 23 1) ∧ (I 23 5 ≤ I' 23 5) ∧ (B ≤ 1280 ∧ I' 1 17 + I' 23 1 ≤ B + I' 23 5) ∧ (gc_PKs I I') ∧ (a1 = 5 → I' 41 6 = I 41 6) ∧ (gs_Or z (0 ≤ (gs_sd β η Ir Jr 3 p9) ∧ gc_AT β η (gs_sd β η Ir Jr 3 p9) 23 I' J' ∧ I' 1 18 = 0 ∧ gs_ccs β η Ir Jr I t a1 a2 p9 I') ((gs_sd β η Ir Jr 3 p9) < 0 ∧ I' 39 4 = -1 - (gs_sd β η Ir Jr 3 p9))))))) (41, [(0, .inr (.inr (some 39))), (1, .inl a1), (2, .inl a2), (3, .inl v3_11)], [], sh, gc_h sh I9 J10 A) := by
        intro m_21
        obtain ⟨ha1_21, ha2_21, hv3_11_21, e0_21, e1_21, e2_21, e3_21, e4_21⟩ := m_21
        have t22 := gc_TK_mo KTK_I9
        have f23 := (show 0 ≤ I9 23 1 ∧ I9 23 1 ≤ 1000 from gc_in hI9 R_23 rfl rfl)
        have f24 := (show 0 ≤ I9 23 5 ∧ I9 23 5 ≤ 1000 from gc_in hI9 R_23 rfl rfl)
        have f25 := (show 0 ≤ I9 23 6 ∧ I9 23 6 ≤ 1001 from gc_in hI9 R_23 rfl rfl)
        have f26 := (show 0 ≤ I9 23 7 ∧ I9 23 7 ≤ 125 from gc_in hI9 R_23 rfl rfl)
        have f27 := (show 0 ≤ I9 1 17 ∧ I9 1 17 ≤ 12000 from gc_in hI9 R_1 rfl rfl)
        have f28 := (show 0 ≤ I9 1 18 ∧ I9 1 18 ≤ 1 from gc_in hI9 R_1 rfl rfl)
        have f29 := (show (-1) ≤ I9 39 2 ∧ I9 39 2 ≤ 999999 from gc_in hI9 R_39 rfl rfl)
        refine gv_run 1 true hD (pc' := 42) (lv' := [(0, .inr (.inr (some 39))), (1, .inl a1), (2, .inl a2), (3, .inl v3_11)]) (st' := [.inr (.inr (some 39))]) (h' := gc_h sh I9 J10 A) (C := (True ∧ True)) rfl ⟨trivial, trivial⟩ ?_
        refine gv_get hD rfl rfl S_39 ⟨by decide, B_39⟩ (gc_hA S_39 rfl A_39_10) ?_
        show gv_X _ _ (45, [(0, .inr (.inr (some 39))), (1, .inl a1), (2, .inl a2), (3, .inl v3_11)], [.inr (.inr (some 41))], sh, gc_h sh I9 J10 A)
        refine gv_run 1 true hD (pc' := 46) (lv' := [(0, .inr (.inr (some 39))), (1, .inl a1), (2, .inl a2), (3, .inl v3_11)]) (st' := [.inl a1, .inr (.inr (some 41))]) (h' := gc_h sh I9 J10 A) (C := (True ∧ True)) rfl ⟨trivial, trivial⟩ ?_
        have t30 := gc_fS_ct (j := Int.toNat a1) KRS_I9 (by exact gz_m 1 (by omega))
        have f31 := (show (-2147483648) ≤ I9 41 (Int.toNat a1) ∧ I9 41 (Int.toNat a1) ≤ 2147483647 from gc_in hI9 R_41 rfl rfl)
        refine gv_iald hD rfl S_41 rfl ⟨by decide, B_41⟩ ⟨by exact gz_m 2 (by omega), by exact gz_m 3 (by omega)⟩ (gc_iI S_41 rfl) ?_
        show gv_X _ _ (47, [(0, .inr (.inr (some 39))), (1, .inl a1), (2, .inl a2), (3, .inl v3_11)], [.inl (I9 41 (Int.toNat a1))], sh, gc_h sh I9 J10 A)
        refine gv_run 1 true hD (pc' := 48) (lv' := [(0, .inr (.inr (some 39))), (1, .inl a1), (2, .inl a2), (3, .inl v3_11)]) (st' := [.inl 3, .inl (I9 41 (Int.toNat a1))]) (h' := gc_h sh I9 J10 A) (C := (True ∧ True)) rfl ⟨trivial, trivial⟩ ?_
        refine gv_icmp_ne (t := 64) hD rfl rfl ⟨⟨by exact gz_m 4 (by omega), by exact gz_m 5 (by omega)⟩, ⟨by exact gz_m 6 (by omega), by exact gz_m 7 (by omega)⟩⟩ (fun c32 => ?_) (fun c32 => ?_)
        · show gv_X _ _ (64, [(0, .inr (.inr (some 39))), (1, .inl a1), (2, .inl a2), (3, .inl v3_11)], [], sh, gc_h sh I9 J10 A)
          refine gv_run 4 true hD (pc' := 68) (lv' := [(0, .inr (.inr (some 39))), (1, .inl a1), (2, .inl a2), (3, .inl v3_11)]) (st' := [.inr (.inr (some 39)), .inl 3, .inl a2, .inr (.inr (some 39))]) (h' := gc_h sh I9 J10 A) (C := ((((True ∧ True) ∧ True) ∧ True) ∧ True)) rfl ⟨⟨⟨⟨trivial, trivial⟩, trivial⟩, trivial⟩, trivial⟩ ?_
          refine gv_get hD rfl rfl S_39 ⟨by decide, B_39⟩ (gc_hA S_39 rfl A_39_10) ?_
          show gv_X _ _ (71, [(0, .inr (.inr (some 39))), (1, .inl a1), (2, .inl a2), (3, .inl v3_11)], [.inr (.inr (some 41)), .inl 3, .inl a2, .inr (.inr (some 39))], sh, gc_h sh I9 J10 A)
          refine gv_run 1 true hD (pc' := 72) (lv' := [(0, .inr (.inr (some 39))), (1, .inl a1), (2, .inl a2), (3, .inl v3_11)]) (st' := [.inl a1, .inr (.inr (some 41)), .inl 3, .inl a2, .inr (.inr (some 39))]) (h' := gc_h sh I9 J10 A) (C := (True ∧ True)) rfl ⟨trivial, trivial⟩ ?_
          have t33 := gc_fS_ct (j := Int.toNat a1) KRS_I9 (by exact gz_m 8 (by omega))
          have f34 := (show (-2147483648) ≤ I9 41 (Int.toNat a1) ∧ I9 41 (Int.toNat a1) ≤ 2147483647 from gc_in hI9 R_41 rfl rfl)
          refine gv_iald hD rfl S_41 rfl ⟨by decide, B_41⟩ ⟨by exact gz_m 9 (by omega), by exact gz_m 10 (by omega)⟩ (gc_iI S_41 rfl) ?_
          show gv_X _ _ (73, [(0, .inr (.inr (some 39))), (1, .inl a1), (2, .inl a2), (3, .inl v3_11)], [.inl (I9 41 (Int.toNat a1)), .inl 3, .inl a2, .inr (.inr (some 39))], sh, gc_h sh I9 J10 A)
          refine gv_run 2 true hD (pc' := 75) (lv' := [(0, .inr (.inr (some 39))), (1, .inl a1), (2, .inl a2), (3, .inl v3_11)]) (st' := [.inl (a2 + (3 * (I9 41 (Int.toNat a1)))), .inr (.inr (some 39))]) (h' := gc_h sh I9 J10 A) (C := ((True ∧ True) ∧ True)) rfl ⟨⟨trivial, trivial⟩, trivial⟩ ?_
          obtain ⟨r35, h35, E35, P35⟩ := d_X6_readContext_p (ws0 := ws0) (tb := tb) hws htb sh ro I9 J10 A hI9  t B β η p_11 Ir Jr ((a2 + (3 * (I9 41 (Int.toNat a1))))) hb  h_t G_t  ⟨by exact gz_m 11 (by omega), by exact gz_m 12 (by omega)⟩ (by exact gz_m 13 (by omega)) (by exact gz_m 14 (by omega)) e1_11 (by exact gz_m 15 (by omega)) (by exact gz_m 16 (by omega)) (by have h9 := x6; have h8 := (show I9 (t + 7) 1 = I (t + 7) 1 from ((FI9 (t + 7) 1).resolve_left (by exact gz_m 17 (by omega)))); exact gz_m 18 (by omega)) (by rw [show I9 (t + 7) 1 = I (t + 7) 1 from ((FI9 (t + 7) 1).resolve_left (by exact gz_m 19 (by omega))), show J10 (t + 8) = J (t + 8) from funext fun j => ((FJ10 (t + 8) j).resolve_left (by exact gz_m 20 (by omega)))]; exact x7) (gs_MA_fr x8 ((FI9 (t + 7) 1).resolve_left (by exact gz_m 21 (by omega))) (fun k => ((FI9 (t + 9) k).resolve_left (by exact gz_m 22 (by omega))))) (by exact gz_m 23 (by omega)) KLT_I9 KTK_I9 KRS_I9 KRC_I9
          obtain ⟨I36, J37, rfl, hI36, g35, k35, KLT_I36, KTK_I36, KRS_I36, KRC_I36, ⟨z35, rfl, q35⟩⟩ := P35
          have FI36 := gc_frc (W := fun q j => (q = 39 ∧ j = 3) ∨ (q = 39 ∧ j = 4) ∨ (q = 23 ∧ j = 5) ∨ (q = 23 ∧ j = 6) ∨ (q = 23 ∧ j = 7) ∨ (q = 23 ∧ j = 8) ∨ (q = 1 ∧ j = 17) ∨ (q = 1 ∧ j = 18) ∨ q = 20 ∨ q = 41) (V := fun q j => (q = 39 ∧ j = 3) ∨ (q = 39 ∧ j = 4) ∨ (q = 23 ∧ j = 5) ∨ (q = 23 ∧ j = 6) ∨ (q = 23 ∧ j = 7) ∨ (q = 23 ∧ j = 8) ∨ (q = 1 ∧ j = 17) ∨ (q = 1 ∧ j = 18) ∨ q = 20 ∨ (q = 41 ∧ j = (Int.toNat ((a2 + (3 * (I9 41 (Int.toNat a1))))))) ∨ (q = 41 ∧ j = (Int.toNat (((a2 + (3 * (I9 41 (Int.toNat a1))))) + 1))) ∨ (q = 41 ∧ j = (Int.toNat (((a2 + (3 * (I9 41 (Int.toNat a1))))) + 2)))) FI9 (fun q j h => (h.elim (fun h => (Or.inl h)) (fun h => (h.elim (fun h => (Or.inr (Or.inl h))) (fun h => (h.elim (fun h => (Or.inr (Or.inr (Or.inl h)))) (fun h => (h.elim (fun h => (Or.inr (Or.inr (Or.inr (Or.inl h))))) (fun h => (h.elim (fun h => (Or.inr (Or.inr (Or.inr (Or.inr (Or.inl h)))))) (fun h => (h.elim (fun h => (Or.inr (Or.inr (Or.inr (Or.inr (Or.inr (Or.inl h))))))) (fun h => (h.elim (fun h => (Or.inr (Or.inr (Or.inr (Or.inr (Or.inr (Or.inr (Or.inl h)))))))) (fun h => (h.elim (fun h => (Or.inr (Or.inr (Or.inr (Or.inr (Or.inr (Or.inr (Or.inr (Or.inl h))))))))) (fun h => (h.elim (fun h => (Or.inr (Or.inr (Or.inr (Or.inr (Or.inr (Or.inr (Or.inr (Or.inr (Or.inl h)))))))))) (fun h => (h.elim (fun h => (Or.inr (Or.inr (Or.inr (Or.inr (Or.inr (Or.inr (Or.inr (Or.inr (Or.inr h.1)))))))))) (fun h => (h.elim (fun h => (Or.inr (Or.inr (Or.inr (Or.inr (Or.inr (Or.inr (Or.inr (Or.inr (Or.inr h.1)))))))))) (fun h => (Or.inr (Or.inr (Or.inr (Or.inr (Or.inr (Or.inr (Or.inr (Or.inr (Or.inr h.1)))))))))))))))))))))))))))))))) g35
          have FJ37 := gc_frc (W := fun q j => (q = 23 ∧ j = 9)) (V := fun q j => (q = 23 ∧ j = 9)) FJ10 (fun q j h => h) k35
          have t38 := (g35 23 1).resolve_left (fun h => h.elim (fun h => absurd h.2 (by decide)) (fun h => h.elim (fun h => absurd h.2 (by decide)) (fun h => h.elim (fun h => absurd h.2 (by decide)) (fun h => h.elim (fun h => absurd h.2 (by decide)) (fun h => h.elim (fun h => absurd h.2 (by decide)) (fun h => h.elim (fun h => absurd h.2 (by decide)) (fun h => h.elim (fun h => absurd h.2 (by decide)) (fun h => h.elim (fun h => absurd h.2 (by decide)) (fun h => h.elim (fun h => absurd h (by decide)) (fun h => h.elim (fun h => absurd h.1 (by decide)) (fun h => h.elim (fun h => absurd h.1 (by decide)) (fun h => absurd h.1 (by decide)))))))))))))
          have t39 := (g35 39 2).resolve_left (fun h => h.elim (fun h => absurd h.2 (by decide)) (fun h => h.elim (fun h => absurd h.2 (by decide)) (fun h => h.elim (fun h => absurd h.2 (by decide)) (fun h => h.elim (fun h => absurd h.2 (by decide)) (fun h => h.elim (fun h => absurd h.2 (by decide)) (fun h => h.elim (fun h => absurd h.2 (by decide)) (fun h => h.elim (fun h => absurd h.2 (by decide)) (fun h => h.elim (fun h => absurd h.2 (by decide)) (fun h => h.elim (fun h => absurd h (by decide)) (fun h => h.elim (fun h => absurd h.1 (by decide)) (fun h => h.elim (fun h => absurd h.1 (by decide)) (fun h => absurd h.1 (by decide)))))))))))))
          have t40 := (g35 41 (Int.toNat a1)).resolve_left (by exact gz_m 24 (by omega))
          have f41 := (show 0 ≤ I36 23 5 ∧ I36 23 5 ≤ 1000 from gc_in hI36 R_23 rfl rfl)
          have f42 := (show 0 ≤ I36 23 6 ∧ I36 23 6 ≤ 1001 from gc_in hI36 R_23 rfl rfl)
          have f43 := (show 0 ≤ I36 23 7 ∧ I36 23 7 ≤ 125 from gc_in hI36 R_23 rfl rfl)
          have f44 := (show 0 ≤ I36 1 17 ∧ I36 1 17 ≤ 12000 from gc_in hI36 R_1 rfl rfl)
          have f45 := (show 0 ≤ I36 1 18 ∧ I36 1 18 ≤ 1 from gc_in hI36 R_1 rfl rfl)
          have t46 := gc_TK_mo KTK_I36
          have l35 := q35.2.2.2.2.2.1
          have KPK_I36 := gc_PKs_tr KPK_I9 l35
          refine gv_callV hD rfl (As := [.inl (a2 + (3 * (I9 41 (Int.toNat a1))))]) (st := []) rfl B_39 S_39 rfl (gc_lV6 hws rfl) (Nat.le_of_ble_eq_true rfl) (gz_Ev_mono (d := 4) (by decide) E35) ?_
          show gv_X _ _ (78, [(0, .inr (.inr (some 39))), (1, .inl a1), (2, .inl a2), (3, .inl v3_11)], [.inl z35], sh, gc_h sh I36 J37 A)
          refine gv_if_ne (t := 83) hD rfl rfl ⟨by exact gz_m 25 (by omega), by exact gz_m 26 (by omega)⟩ (fun c47 => ?_) (fun c47 => ?_)
          · show gv_X _ _ (83, [(0, .inr (.inr (some 39))), (1, .inl a1), (2, .inl a2), (3, .inl v3_11)], [], sh, gc_h sh I36 J37 A)
            obtain ⟨u48, A48, U48⟩ := gs_or1 q35.2.2.2.2.2.2 (by exact gz_m 27 (by omega))
            have t49 := gc_AT_l A48
            refine gv_run 1 true hD (pc' := 84) (lv' := [(0, .inr (.inr (some 39))), (1, .inl a1), (2, .inl a2), (3, .inl v3_11)]) (st' := [.inr (.inr (some 39))]) (h' := gc_h sh I36 J37 A) (C := (True ∧ True)) rfl ⟨trivial, trivial⟩ ?_
            refine gv_get hD rfl rfl S_39 ⟨by decide, B_39⟩ (gc_hA S_39 rfl A_39_10) ?_
            show gv_X _ _ (87, [(0, .inr (.inr (some 39))), (1, .inl a1), (2, .inl a2), (3, .inl v3_11)], [.inr (.inr (some 41))], sh, gc_h sh I36 J37 A)
            refine gv_run 2 true hD (pc' := 89) (lv' := [(0, .inr (.inr (some 39))), (1, .inl a1), (2, .inl a2), (3, .inl v3_11)]) (st' := [.inl a1, .inr (.inr (some 41)), .inl a1, .inr (.inr (some 41))]) (h' := gc_h sh I36 J37 A) (C := ((True ∧ True) ∧ True)) rfl ⟨⟨trivial, trivial⟩, trivial⟩ ?_
            have t50 := gc_fS_ct (j := Int.toNat a1) KRS_I36 (by exact gz_m 28 (by omega))
            have f51 := (show (-2147483648) ≤ I36 41 (Int.toNat a1) ∧ I36 41 (Int.toNat a1) ≤ 2147483647 from gc_in hI36 R_41 rfl rfl)
            refine gv_iald hD rfl S_41 rfl ⟨by decide, B_41⟩ ⟨by exact gz_m 29 (by omega), by exact gz_m 30 (by omega)⟩ (gc_iI S_41 rfl) ?_
            show gv_X _ _ (90, [(0, .inr (.inr (some 39))), (1, .inl a1), (2, .inl a2), (3, .inl v3_11)], [.inl (I36 41 (Int.toNat a1)), .inl a1, .inr (.inr (some 41))], sh, gc_h sh I36 J37 A)
            refine gv_run 2 true hD (pc' := 92) (lv' := [(0, .inr (.inr (some 39))), (1, .inl a1), (2, .inl a2), (3, .inl v3_11)]) (st' := [.inl ((I36 41 (Int.toNat a1)) + 1), .inl a1, .inr (.inr (some 41))]) (h' := gc_h sh I36 J37 A) (C := ((True ∧ True) ∧ True)) rfl ⟨⟨trivial, trivial⟩, trivial⟩ ?_
            refine gv_iast hD rfl S_41 ⟨by decide, B_41⟩ ⟨by exact gz_m 31 (by omega), by exact gz_m 32 (by omega)⟩ ?_
            refine gc_st hI36 S_41 rfl R_41 (lo := (-2147483648)) (hi := 2147483647) rfl rfl (by exact gz_m 33 (by omega)) (by exact gz_m 34 (by omega)) (fun I52 hI52 q53 p53 => ?_)
            have FI52 := gc_frs (W := fun q j => (q = 39 ∧ j = 3) ∨ (q = 39 ∧ j = 4) ∨ (q = 23 ∧ j = 5) ∨ (q = 23 ∧ j = 6) ∨ (q = 23 ∧ j = 7) ∨ (q = 23 ∧ j = 8) ∨ (q = 1 ∧ j = 17) ∨ (q = 1 ∧ j = 18) ∨ q = 20 ∨ q = 41) FI36 (Or.inr (Or.inr (Or.inr (Or.inr (Or.inr (Or.inr (Or.inr (Or.inr (Or.inr rfl))))))))) p53
            have t54 := p53 23 1 (fun h => absurd h.1 (by decide))
            have t55 := p53 23 5 (fun h => absurd h.1 (by decide))
            have t56 := p53 23 6 (fun h => absurd h.1 (by decide))
            have t57 := p53 23 7 (fun h => absurd h.1 (by decide))
            have t58 := p53 1 17 (fun h => absurd h.1 (by decide))
            have t59 := p53 1 18 (fun h => absurd h.1 (by decide))
            have t60 := p53 39 2 (fun h => absurd h.1 (by decide))
            have KLT_I52 := gc_LT_fr KLT_I36 (p53 23 5 (fun h => absurd h.1 (by decide))) (p53 23 6 (fun h => absurd h.1 (by decide))) (p53 23 7 (fun h => absurd h.1 (by decide))) (fun k => p53 24 k (fun h => absurd h.1 (by decide)))
            have KTK_I52 := gc_TK_fr KTK_I36 (p53 23 1 (fun h => absurd h.1 (by decide))) (p53 23 5 (fun h => absurd h.1 (by decide))) (p53 23 6 (fun h => absurd h.1 (by decide))) (p53 23 7 (fun h => absurd h.1 (by decide)))
            have KRS_I52 := gc_row_st KRS_I36 p53 q53 (by unfold gc_fS; exact gz_m 35 (by omega))
            have KRC_I52 : gc_RC I52 := gc_RC_st KRC_I36 p53 (by exact gz_m 36 (by omega))
            have KPK_I52 := gc_PKs_fr KPK_I36 (p53 1 17 (fun h => absurd h.1 (by decide))) (fun k => p53 20 k (fun h => absurd h.1 (by decide)))
            have A61 := gc_AT_I A48 (p53 23 1 (fun h => absurd h.1 (by decide))) (p53 23 5 (fun h => absurd h.1 (by decide))) (p53 23 6 (fun h => absurd h.1 (by decide))) (p53 23 7 (fun h => absurd h.1 (by decide))) (p53 23 8 (fun h => absurd h.1 (by decide))) (fun k => p53 24 k (fun h => absurd h.1 (by decide)))
            show gv_X _ _ (93, [(0, .inr (.inr (some 39))), (1, .inl a1), (2, .inl a2), (3, .inl v3_11)], [], sh, gc_h sh I52 J37 A)
            refine gv_run 2 true hD (pc' := 2) (lv' := [(3, .inl (v3_11 + 1)), (0, .inr (.inr (some 39))), (1, .inl a1), (2, .inl a2)]) (st' := []) (h' := gc_h sh I52 J37 A) (C := ((True ∧ True) ∧ True)) rfl ⟨⟨trivial, trivial⟩, trivial⟩ ?_
            refine gv_pick [1, 2, 3, 0] rfl ?_
            exact ih2 I52 J37 (v3_11 + 1) (gs_ctx β η Ir Jr 1 p_11) (by exact gz_m 37 (by omega)) hI52 FI52 FJ37 KLT_I52 KTK_I52 KRS_I52 KRC_I52 KPK_I52 (by exact gz_m 38 (by omega)) A61 (e2_11.trans (gs_sd_s (by exact gz_m 39 (by omega)) (by exact gz_m 40 (by omega)) (by exact gz_m 41 (by omega)))) (gs_c2_s e3_11 ⟨by exact gz_m 42 (by omega), by exact gz_m 43 (by omega)⟩ x1 (by exact gz_m 44 (by omega)) l35 (fun j h1 h2 h3 => (g35 41 j).resolve_left (by exact gz_m 45 (by omega))) (gs_itc_ix U48.2 (by exact gz_m 46 (by omega))) (fun k => (FI9 (t + 9) k).resolve_left (by exact gz_m 47 (by omega))) ((FI9 (t + 7) 1).resolve_left (by exact gz_m 48 (by omega))) p53 (gs_ctx_x (by exact gz_m 49 (by omega)) (by exact gz_m 50 (by omega)))) (fun h9 => (((p53 41 6 (by exact gz_m 51 (by omega))).trans ((g35 41 6).resolve_left (by exact gz_m 52 (by omega))))).trans (e6_11 h9))
          · show gv_X _ _ (81, [(0, .inr (.inr (some 39))), (1, .inl a1), (2, .inl a2), (3, .inl v3_11)], [], sh, gc_h sh I36 J37 A)
            obtain ⟨u62, u62_⟩ := gs_or0 q35.2.2.2.2.2.2 (by exact gz_m 53 (by omega))
            refine gv_run 1 true hD (pc' := 82) (lv' := [(0, .inr (.inr (some 39))), (1, .inl a1), (2, .inl a2), (3, .inl v3_11)]) (st' := [.inl 0]) (h' := gc_h sh I36 J37 A) (C := (True ∧ True)) rfl ⟨trivial, trivial⟩ ?_
            exact gv_zret hD rfl (by exact gz_m 54 (by omega)) ⟨I36, J37, rfl, hI36, FI36, FJ37, KLT_I36, KTK_I36, KRS_I36, KRC_I36, ⟨_, rfl, by exact gz_m 55 (by omega), by exact gz_m 56 (by omega), by exact gz_m 57 (by omega), by exact gz_m 58 (by omega), by exact gz_m 59 (by omega), KPK_I36, (fun h9 => (((g35 41 6).resolve_left (by exact gz_m 60 (by omega)))).trans (e6_11 h9)), (Or.inr ⟨by exact gz_m 61 (by omega), by rw [e2_11, gs_sd_c (by exact gz_m 62 (by omega)) (by exact gz_m 63 (by omega)) (by exact gz_m 64 (by omega))]; exact ⟨by exact gz_m 65 (by omega), by exact gz_m 66 (by omega)⟩⟩)⟩⟩
        · show gv_X _ _ (51, [(0, .inr (.inr (some 39))), (1, .inl a1), (2, .inl a2), (3, .inl v3_11)], [], sh, gc_h sh I9 J10 A)
          refine gv_run 3 true hD (pc' := 54) (lv' := [(0, .inr (.inr (some 39))), (1, .inl a1), (2, .inl a2), (3, .inl v3_11)]) (st' := [.inr (.inr (some 39)), .inl 5, .inr (.inr (some 39))]) (h' := gc_h sh I9 J10 A) (C := (((True ∧ True) ∧ True) ∧ True)) rfl ⟨⟨⟨trivial, trivial⟩, trivial⟩, trivial⟩ ?_
          refine gv_get hD rfl rfl S_39 ⟨by decide, B_39⟩ (gc_hA S_39 rfl A_39_1) ?_
          show gv_X _ _ (57, [(0, .inr (.inr (some 39))), (1, .inl a1), (2, .inl a2), (3, .inl v3_11)], [.inr (.inr (some 23)), .inl 5, .inr (.inr (some 39))], sh, gc_h sh I9 J10 A)
          have f63 := (show 0 ≤ I9 23 5 ∧ I9 23 5 ≤ 1000 from gc_in hI9 R_23 rfl rfl)
          refine gv_get hD rfl rfl S_23 ⟨by decide, B_23⟩ (gc_hI S_23 rfl) ?_
          show gv_X _ _ (60, [(0, .inr (.inr (some 39))), (1, .inl a1), (2, .inl a2), (3, .inl v3_11)], [.inl (I9 23 5), .inl 5, .inr (.inr (some 39))], sh, gc_h sh I9 J10 A)
          obtain ⟨r64, h64, E64, P64⟩ := d_X6_wrong_p (ws0 := ws0) (tb := tb) hws htb sh ro I9 J10 A hI9  5 (I9 23 5) hb   ⟨by exact gz_m 67 (by omega), by exact gz_m 68 (by omega)⟩ ⟨by exact gz_m 69 (by omega), by exact gz_m 70 (by omega)⟩  
          obtain ⟨I65, J66, rfl, hI65, g64, k64, ⟨z64, rfl, q64⟩⟩ := P64
          have FI65 := gc_frc (W := fun q j => (q = 39 ∧ j = 3) ∨ (q = 39 ∧ j = 4) ∨ (q = 23 ∧ j = 5) ∨ (q = 23 ∧ j = 6) ∨ (q = 23 ∧ j = 7) ∨ (q = 23 ∧ j = 8) ∨ (q = 1 ∧ j = 17) ∨ (q = 1 ∧ j = 18) ∨ q = 20 ∨ q = 41) (V := fun q j => (q = 39 ∧ j = 3) ∨ (q = 39 ∧ j = 4)) FI9 (fun q j h => (h.elim (fun h => (Or.inl h)) (fun h => (Or.inr (Or.inl h))))) g64
          have t67 := (g64 23 1).resolve_left (fun h => h.elim (fun h => absurd h.2 (by decide)) (fun h => absurd h.2 (by decide)))
          have t68 := (g64 23 5).resolve_left (fun h => h.elim (fun h => absurd h.2 (by decide)) (fun h => absurd h.2 (by decide)))
          have t69 := (g64 23 6).resolve_left (fun h => h.elim (fun h => absurd h.2 (by decide)) (fun h => absurd h.2 (by decide)))
          have t70 := (g64 23 7).resolve_left (fun h => h.elim (fun h => absurd h.2 (by decide)) (fun h => absurd h.2 (by decide)))
          have t71 := (g64 1 17).resolve_left (fun h => h.elim (fun h => absurd h.2 (by decide)) (fun h => absurd h.2 (by decide)))
          have t72 := (g64 1 18).resolve_left (fun h => h.elim (fun h => absurd h.2 (by decide)) (fun h => absurd h.2 (by decide)))
          have t73 := (g64 39 2).resolve_left (fun h => h.elim (fun h => absurd h.2 (by decide)) (fun h => absurd h.2 (by decide)))
          have t74 := (g64 41 (Int.toNat a1)).resolve_left (fun h => h.elim (fun h => absurd h.1 (by decide)) (fun h => absurd h.1 (by decide)))
          obtain rfl : J10 = J66 := funext fun q => funext fun j => ((k64 q j).resolve_left id).symm
          have KLT_I65 := gc_LT_fr KLT_I9 ((g64 23 5).resolve_left (fun h => h.elim (fun h => absurd h.2 (by decide)) (fun h => absurd h.2 (by decide)))) ((g64 23 6).resolve_left (fun h => h.elim (fun h => absurd h.2 (by decide)) (fun h => absurd h.2 (by decide)))) ((g64 23 7).resolve_left (fun h => h.elim (fun h => absurd h.2 (by decide)) (fun h => absurd h.2 (by decide)))) (fun k => (g64 24 k).resolve_left (fun h => h.elim (fun h => absurd h.1 (by decide)) (fun h => absurd h.1 (by decide))))
          have KTK_I65 := gc_TK_fr KTK_I9 ((g64 23 1).resolve_left (fun h => h.elim (fun h => absurd h.2 (by decide)) (fun h => absurd h.2 (by decide)))) ((g64 23 5).resolve_left (fun h => h.elim (fun h => absurd h.2 (by decide)) (fun h => absurd h.2 (by decide)))) ((g64 23 6).resolve_left (fun h => h.elim (fun h => absurd h.2 (by decide)) (fun h => absurd h.2 (by decide)))) ((g64 23 7).resolve_left (fun h => h.elim (fun h => absurd h.2 (by decide)) (fun h => absurd h.2 (by decide))))
          have KRS_I65 := gc_row_fr KRS_I9 (fun k => (g64 41 k).resolve_left (fun h => h.elim (fun h => absurd h.1 (by decide)) (fun h => absurd h.1 (by decide))))
          have KRC_I65 := gc_RC_fr KRC_I9 (fun k => (g64 41 k).resolve_left (fun h => h.elim (fun h => absurd h.1 (by decide)) (fun h => absurd h.1 (by decide))))
          have KPK_I65 := gc_PKs_fr KPK_I9 ((g64 1 17).resolve_left (fun h => h.elim (fun h => absurd h.2 (by decide)) (fun h => absurd h.2 (by decide)))) (fun k => (g64 20 k).resolve_left (fun h => h.elim (fun h => absurd h.1 (by decide)) (fun h => absurd h.1 (by decide))))
          have A75 := gc_AT_I e1_11 ((g64 23 1).resolve_left (fun h => h.elim (fun h => absurd h.2 (by decide)) (fun h => absurd h.2 (by decide)))) ((g64 23 5).resolve_left (fun h => h.elim (fun h => absurd h.2 (by decide)) (fun h => absurd h.2 (by decide)))) ((g64 23 6).resolve_left (fun h => h.elim (fun h => absurd h.2 (by decide)) (fun h => absurd h.2 (by decide)))) ((g64 23 7).resolve_left (fun h => h.elim (fun h => absurd h.2 (by decide)) (fun h => absurd h.2 (by decide)))) ((g64 23 8).resolve_left (fun h => h.elim (fun h => absurd h.2 (by decide)) (fun h => absurd h.2 (by decide)))) (fun k => (g64 24 k).resolve_left (fun h => h.elim (fun h => absurd h.1 (by decide)) (fun h => absurd h.1 (by decide))))
          have t76 := gc_AT_l A75
          refine gv_callV hD rfl (As := [.inl 5, .inl (I9 23 5)]) (st := []) rfl B_39 S_39 rfl (gc_lV6 hws rfl) (Nat.le_of_ble_eq_true rfl) (gz_Ev_mono (d := 1) (by decide) E64) ?_
          show gv_X _ _ (63, [(0, .inr (.inr (some 39))), (1, .inl a1), (2, .inl a2), (3, .inl v3_11)], [.inl z64], sh, gc_h sh I65 J10 A)
          exact gv_zret hD rfl (by exact gz_m 71 (by omega)) ⟨I65, J10, rfl, hI65, FI65, FJ10, KLT_I65, KTK_I65, KRS_I65, KRC_I65, ⟨_, rfl, by exact gz_m 72 (by omega), by exact gz_m 73 (by omega), by exact gz_m 74 (by omega), by exact gz_m 75 (by omega), by exact gz_m 76 (by omega), KPK_I65, (fun h9 => (((g64 41 6).resolve_left (by exact gz_m 77 (by omega)))).trans (e6_11 h9)), (Or.inr ⟨by exact gz_m 78 (by omega), by rw [e2_11, gs_sd_x (by exact gz_m 79 (by omega)) (by exact gz_m 80 (by omega))]; exact ⟨by exact gz_m 81 (by omega), by exact gz_m 82 (by omega)⟩⟩)⟩⟩
      have L99 : ((0 ≤ p_11) ∧ (I9 1 18 = 0) ∧ (I9 23 1 = I 23 1) ∧ (I 23 5 ≤ I9 23 5) ∧ (B ≤ 1280 ∧ I9 1 17 + I9 23 1 ≤ B + I9 23 5) ∧ (I9 39 2 = (t : Int))) → (gc_AT β η p_11 23 I9 J10) → ((gs_sd β η Ir Jr 3 p9) = p_11) → (gs_ccs β η Ir Jr I t a1 a2 p9 I9) → (a1 = 5 → I9 41 6 = I 41 6) → gv_X (gc_E6 ws0 tb 4 (yX6_readSide, cX6_readSide, 4, (some .boolean)) kX6_readSide) (gv_Q cX6_readSide (some .boolean) sh (fun r h' => (∃ (I' : gr_I) (J' : gr_J), h' = gc_h sh I' J' A ∧ gc_Inv ro I' ∧ (∀ q j : Nat, ((q = 39 ∧ j = 3) ∨ (q = 39 ∧ j = 4) ∨ (q = 23 ∧ j = 5) ∨ (q = 23 ∧ j = 6) ∨ (q = 23 ∧ j = 7) ∨ (q = 23 ∧ j = 8) ∨ (q = 1 ∧ j = 17) ∨ (q = 1 ∧ j = 18) ∨ q = 20 ∨ q = 41) ∨ I' q j = I q j) ∧ (∀ q j : Nat, ((q = 23 ∧ j = 9)) ∨ J' q j = J q j) ∧ gc_LT I' ∧ gc_TK I' ∧ gc_row 41 25 gc_fS I' ∧ gc_RC I' ∧ (∃ z : Int, r = some (.inl z) ∧ 0 ≤ z ∧ z ≤ 1 ∧ (I' 23 1 = I 23 1) ∧ (I 23 5 ≤ I' 23 5) ∧ (B ≤ 1280 ∧ I' 1 17 + I' 23 1 ≤ B + I' 23 5) ∧ (gc_PKs I I') ∧ (a1 = 5 → I' 41 6 = I 41 6) ∧ (gs_Or z (0 ≤ (gs_sd β η Ir Jr 3 p9) ∧ gc_AT β η (gs_sd β η Ir Jr 3 p9) 23 I' J' ∧ I' 1 18 = 0 ∧ gs_ccs β η Ir Jr I t a1 a2 p9 I') ((gs_sd β η Ir Jr 3 p9) < 0 ∧ I' 39 4 = -1 - (gs_sd β η Ir Jr 3 p9))))))) (99, [], [], sh, gc_h sh I9 J10 A) := by
        intro m_77 e1_77 e2_77 e3_77 e5_77
        obtain ⟨e0_77, e4_77, e6_77, e7_77, e8_77, e9_77⟩ := m_77
        have t78 := gc_TK_mo KTK_I9
        have f79 := (show 0 ≤ I9 23 1 ∧ I9 23 1 ≤ 1000 from gc_in hI9 R_23 rfl rfl)
        have f80 := (show 0 ≤ I9 23 5 ∧ I9 23 5 ≤ 1000 from gc_in hI9 R_23 rfl rfl)
        have f81 := (show 0 ≤ I9 23 6 ∧ I9 23 6 ≤ 1001 from gc_in hI9 R_23 rfl rfl)
        have f82 := (show 0 ≤ I9 23 7 ∧ I9 23 7 ≤ 125 from gc_in hI9 R_23 rfl rfl)
        have f83 := (show 0 ≤ I9 1 17 ∧ I9 1 17 ≤ 12000 from gc_in hI9 R_1 rfl rfl)
        have f84 := (show 0 ≤ I9 1 18 ∧ I9 1 18 ≤ 1 from gc_in hI9 R_1 rfl rfl)
        have f85 := (show (-1) ≤ I9 39 2 ∧ I9 39 2 ≤ 999999 from gc_in hI9 R_39 rfl rfl)
        have t86 := gc_AT_l e1_11
        refine gv_run 1 true hD (pc' := 100) (lv' := []) (st' := [.inl 1]) (h' := gc_h sh I9 J10 A) (C := (True ∧ True)) rfl ⟨trivial, trivial⟩ ?_
        exact gv_zret hD rfl (by exact gz_m 83 (by omega)) ⟨I9, J10, rfl, hI9, FI9, FJ10, KLT_I9, KTK_I9, KRS_I9, KRC_I9, ⟨_, rfl, by exact gz_m 84 (by omega), by exact gz_m 85 (by omega), by exact gz_m 86 (by omega), by exact gz_m 87 (by omega), by exact gz_m 88 (by omega), KPK_I9, (fun h9 => (rfl).trans (e5_77 h9)), (Or.inl ⟨by exact gz_m 89 (by omega), by rw [e2_77]; exact ⟨by exact gz_m 90 (by omega), e1_11, by exact gz_m 91 (by omega), e3_77⟩⟩)⟩⟩
      refine gv_run 2 true hD (pc' := 4) (lv' := [(0, .inr (.inr (some 39))), (1, .inl a1), (2, .inl a2), (3, .inl v3_11)]) (st' := [.inl 3, .inl v3_11]) (h' := gc_h sh I9 J10 A) (C := ((True ∧ True) ∧ True)) rfl ⟨⟨trivial, trivial⟩, trivial⟩ ?_
      refine gv_icmp_gt (t := 99) hD rfl rfl ⟨⟨by exact gz_m 92 (by omega), by exact gz_m 93 (by omega)⟩, ⟨by exact gz_m 94 (by omega), by exact gz_m 95 (by omega)⟩⟩ (fun c87 => ?_) (fun c87 => ?_)
      · show gv_X _ _ (99, [(0, .inr (.inr (some 39))), (1, .inl a1), (2, .inl a2), (3, .inl v3_11)], [], sh, gc_h sh I9 J10 A)
        refine gv_pick [] rfl ?_
        exact L99 (by exact gz_m 96 (by omega)) e1_11 (by first | (exfalso; exact gz_m 97 (by omega)) | exact (e2_11.trans (gs_sd_e (by exact gz_m 98 (by omega))))) (by first | (exfalso; exact gz_m 99 (by omega)) | exact gs_ccs_mk e3_11 (by exact gz_m 100 (by omega)) (by exact gz_m 101 (by omega)) (by exact gz_m 102 (by omega))) (fun h9 => (rfl).trans (e6_11 h9))
      · show gv_X _ _ (7, [(0, .inr (.inr (some 39))), (1, .inl a1), (2, .inl a2), (3, .inl v3_11)], [], sh, gc_h sh I9 J10 A)
        refine gv_run 1 true hD (pc' := 8) (lv' := [(0, .inr (.inr (some 39))), (1, .inl a1), (2, .inl a2), (3, .inl v3_11)]) (st' := [.inr (.inr (some 39))]) (h' := gc_h sh I9 J10 A) (C := (True ∧ True)) rfl ⟨trivial, trivial⟩ ?_
        refine gv_get hD rfl rfl S_39 ⟨by decide, B_39⟩ (gc_hA S_39 rfl A_39_1) ?_
        show gv_X _ _ (11, [(0, .inr (.inr (some 39))), (1, .inl a1), (2, .inl a2), (3, .inl v3_11)], [.inr (.inr (some 23))], sh, gc_h sh I9 J10 A)
        have f88 := (show 0 ≤ I9 23 7 ∧ I9 23 7 ≤ 125 from gc_in hI9 R_23 rfl rfl)
        refine gv_get hD rfl rfl S_23 ⟨by decide, B_23⟩ (gc_hI S_23 rfl) ?_
        show gv_X _ _ (14, [(0, .inr (.inr (some 39))), (1, .inl a1), (2, .inl a2), (3, .inl v3_11)], [.inl (I9 23 7)], sh, gc_h sh I9 J10 A)
        refine gv_run 1 true hD (pc' := 15) (lv' := [(0, .inr (.inr (some 39))), (1, .inl a1), (2, .inl a2), (3, .inl v3_11)]) (st' := [.inl 1, .inl (I9 23 7)]) (h' := gc_h sh I9 J10 A) (C := (True ∧ True)) rfl ⟨trivial, trivial⟩ ?_
        refine gv_icmp_eq (t := 41) hD rfl rfl ⟨⟨by exact gz_m 103 (by omega), by exact gz_m 104 (by omega)⟩, ⟨by exact gz_m 105 (by omega), by exact gz_m 106 (by omega)⟩⟩ (fun c89 => ?_) (fun c89 => ?_)
        · show gv_X _ _ (41, [(0, .inr (.inr (some 39))), (1, .inl a1), (2, .inl a2), (3, .inl v3_11)], [], sh, gc_h sh I9 J10 A)
          exact L41 (by exact gz_m 107 (by omega))
        · show gv_X _ _ (18, [(0, .inr (.inr (some 39))), (1, .inl a1), (2, .inl a2), (3, .inl v3_11)], [], sh, gc_h sh I9 J10 A)
          refine gv_run 1 true hD (pc' := 19) (lv' := [(0, .inr (.inr (some 39))), (1, .inl a1), (2, .inl a2), (3, .inl v3_11)]) (st' := [.inr (.inr (some 39))]) (h' := gc_h sh I9 J10 A) (C := (True ∧ True)) rfl ⟨trivial, trivial⟩ ?_
          refine gv_get hD rfl rfl S_39 ⟨by decide, B_39⟩ (gc_hA S_39 rfl A_39_1) ?_
          show gv_X _ _ (22, [(0, .inr (.inr (some 39))), (1, .inl a1), (2, .inl a2), (3, .inl v3_11)], [.inr (.inr (some 23))], sh, gc_h sh I9 J10 A)
          have f90 := (show 0 ≤ I9 23 7 ∧ I9 23 7 ≤ 125 from gc_in hI9 R_23 rfl rfl)
          refine gv_get hD rfl rfl S_23 ⟨by decide, B_23⟩ (gc_hI S_23 rfl) ?_
          show gv_X _ _ (25, [(0, .inr (.inr (some 39))), (1, .inl a1), (2, .inl a2), (3, .inl v3_11)], [.inl (I9 23 7)], sh, gc_h sh I9 J10 A)
          refine gv_run 1 true hD (pc' := 26) (lv' := [(0, .inr (.inr (some 39))), (1, .inl a1), (2, .inl a2), (3, .inl v3_11)]) (st' := [.inl 3, .inl (I9 23 7)]) (h' := gc_h sh I9 J10 A) (C := (True ∧ True)) rfl ⟨trivial, trivial⟩ ?_
          refine gv_icmp_eq (t := 41) hD rfl rfl ⟨⟨by exact gz_m 108 (by omega), by exact gz_m 109 (by omega)⟩, ⟨by exact gz_m 110 (by omega), by exact gz_m 111 (by omega)⟩⟩ (fun c91 => ?_) (fun c91 => ?_)
          · show gv_X _ _ (41, [(0, .inr (.inr (some 39))), (1, .inl a1), (2, .inl a2), (3, .inl v3_11)], [], sh, gc_h sh I9 J10 A)
            exact L41 (by exact gz_m 112 (by omega))
          · show gv_X _ _ (29, [(0, .inr (.inr (some 39))), (1, .inl a1), (2, .inl a2), (3, .inl v3_11)], [], sh, gc_h sh I9 J10 A)
            refine gv_run 1 true hD (pc' := 30) (lv' := [(0, .inr (.inr (some 39))), (1, .inl a1), (2, .inl a2), (3, .inl v3_11)]) (st' := [.inr (.inr (some 39))]) (h' := gc_h sh I9 J10 A) (C := (True ∧ True)) rfl ⟨trivial, trivial⟩ ?_
            refine gv_get hD rfl rfl S_39 ⟨by decide, B_39⟩ (gc_hA S_39 rfl A_39_1) ?_
            show gv_X _ _ (33, [(0, .inr (.inr (some 39))), (1, .inl a1), (2, .inl a2), (3, .inl v3_11)], [.inr (.inr (some 23))], sh, gc_h sh I9 J10 A)
            have f92 := (show 0 ≤ I9 23 7 ∧ I9 23 7 ≤ 125 from gc_in hI9 R_23 rfl rfl)
            refine gv_get hD rfl rfl S_23 ⟨by decide, B_23⟩ (gc_hI S_23 rfl) ?_
            show gv_X _ _ (36, [(0, .inr (.inr (some 39))), (1, .inl a1), (2, .inl a2), (3, .inl v3_11)], [.inl (I9 23 7)], sh, gc_h sh I9 J10 A)
            refine gv_run 1 true hD (pc' := 38) (lv' := [(0, .inr (.inr (some 39))), (1, .inl a1), (2, .inl a2), (3, .inl v3_11)]) (st' := [.inl 35, .inl (I9 23 7)]) (h' := gc_h sh I9 J10 A) (C := (True ∧ True)) rfl ⟨trivial, trivial⟩ ?_
            refine gv_icmp_ne (t := 99) hD rfl rfl ⟨⟨by exact gz_m 113 (by omega), by exact gz_m 114 (by omega)⟩, ⟨by exact gz_m 115 (by omega), by exact gz_m 116 (by omega)⟩⟩ (fun c93 => ?_) (fun c93 => ?_)
            · show gv_X _ _ (99, [(0, .inr (.inr (some 39))), (1, .inl a1), (2, .inl a2), (3, .inl v3_11)], [], sh, gc_h sh I9 J10 A)
              refine gv_pick [] rfl ?_
              exact L99 (by exact gz_m 117 (by omega)) e1_11 (by first | (exfalso; exact gz_m 118 (by omega)) | exact (e2_11.trans (gs_sd_e (by exact gz_m 119 (by omega))))) (by first | (exfalso; exact gz_m 120 (by omega)) | exact gs_ccs_mk e3_11 (by exact gz_m 121 (by omega)) (by exact gz_m 122 (by omega)) (by exact gz_m 123 (by omega))) (fun h9 => (rfl).trans (e6_11 h9))
            · show gv_X _ _ (41, [(0, .inr (.inr (some 39))), (1, .inl a1), (2, .inl a2), (3, .inl v3_11)], [], sh, gc_h sh I9 J10 A)
              exact L41 (by exact gz_m 124 (by omega))
  refine gv_run 2 true hD (pc' := 2) (lv' := [(3, .inl 0), (0, .inr (.inr (some 39))), (1, .inl a1), (2, .inl a2)]) (st' := []) (h' := gc_h sh I J A) (C := ((True ∧ True) ∧ True)) rfl ⟨⟨trivial, trivial⟩, trivial⟩ ?_
  refine gv_pick [1, 2, 3, 0] rfl ?_
  exact L2 _ I J 0 p9 (Nat.lt_succ_self _) hI FI FJ KLT_I KTK_I KRS_I KRC_I KPK_I (by exact gz_m 125 (by omega)) x2 rfl gs_c2_0 (fun h9 => rfl)
