set_option maxHeartbeats 4000000 in
set_option maxRecDepth 100000 in
theorem d_X6_readWord_a {ws0 : List Cond} {tb : String → gz_T} (hws : gc_Ws ws0) (htb : gc_tbs tb) (sh : gz_Sh) (ro : Nat → Nat) (I : gr_I) (J : gr_J) (A : gc_A) (hI : gc_Inv ro I) (t : Nat) (B : Int)  (hb : gc_Base sh ro A) (h_t : gc_isTongue sh ro A t) (G_t : 144 ≤ t)  (x0 : B ≤ 1280 ∧ I 1 17 + I 23 1 ≤ B + I 23 5) (x1 : I 39 2 = (t : Int)) (KLT_I : gc_LT I) (KTK_I : gc_TK I) : ∃ r h', gz_Ev ws0 tb 5 (yX6_readWord, cX6_readWord, 2, (some .boolean)) [.inr (.inr (some 39))] sh (gc_h sh I J A) r sh h' 0 0 ∧ (∃ (I' : gr_I) (J' : gr_J), h' = gc_h sh I' J' A ∧ gc_Inv ro I' ∧ (∀ q j : Nat, ((q = 39 ∧ j = 3) ∨ (q = 39 ∧ j = 4) ∨ (q = 23 ∧ j = 5) ∨ (q = 23 ∧ j = 6) ∨ (q = 23 ∧ j = 7) ∨ (q = 23 ∧ j = 8) ∨ (q = 1 ∧ j = 17) ∨ (q = 1 ∧ j = 18) ∨ q = 20 ∨ (q = 39 ∧ j = 6) ∨ (q = 39 ∧ j = 7) ∨ q = 41 ∨ (q = (t + 15) ∧ (11 * I t 11 ≤ (j : Int))) ∨ (q = t ∧ j = 11)) ∨ I' q j = I q j) ∧ (∀ q j : Nat, ((q = 23 ∧ j = 9)) ∨ J' q j = J q j) ∧ gc_LT I' ∧ gc_TK I' ∧ (∃ z : Int, r = some (.inl z) ∧ 0 ≤ z ∧ z ≤ 1 ∧ (I' 23 1 = I 23 1) ∧ (I 23 5 ≤ I' 23 5) ∧ (B ≤ 1280 ∧ I' 1 17 + I' 23 1 ≤ B + I' 23 5) ∧ (z = 0 ∨ I' t 11 = I t 11 + 1) ∧ (z = 1 ∨ I' t 11 = I t 11) ∧ (z = 0 ∨ (I 12 (Int.toNat (I' (t + 15) (Int.toNat (11 * I t 11)))) = 0 ∧ I' (t + 15) (Int.toNat (11 * I t 11)) < I 4 1)))) := by
  have FI : ∀ q j : Nat, ((q = 39 ∧ j = 3) ∨ (q = 39 ∧ j = 4) ∨ (q = 23 ∧ j = 5) ∨ (q = 23 ∧ j = 6) ∨ (q = 23 ∧ j = 7) ∨ (q = 23 ∧ j = 8) ∨ (q = 1 ∧ j = 17) ∨ (q = 1 ∧ j = 18) ∨ q = 20 ∨ (q = 39 ∧ j = 6) ∨ (q = 39 ∧ j = 7) ∨ q = 41 ∨ (q = (t + 15) ∧ (11 * I t 11 ≤ (j : Int))) ∨ (q = t ∧ j = 11)) ∨ I q j = I q j := fun _ _ => Or.inr rfl
  have FJ : ∀ q j : Nat, ((q = 23 ∧ j = 9)) ∨ J q j = J q j := fun _ _ => Or.inr rfl
  have A_1_1 : A 1 1 = some 4 := gc_bA hb rfl
  have A_1_7 : A 1 7 = some 12 := gc_bA hb rfl
  have A_39_0 : A 39 0 = some 1 := gc_bA hb rfl
  have A_39_1 : A 39 1 = some 23 := gc_bA hb rfl
  have A_39_10 : A 39 10 = some 41 := gc_bA hb rfl
  have B_1 : 1 < 1000000 := by decide
  have B_12 : 12 < 1000000 := by decide
  have B_23 : 23 < 1000000 := by decide
  have B_39 : 39 < 1000000 := by decide
  have B_4 : 4 < 1000000 := by decide
  have B_41 : 41 < 1000000 := by decide
  have R_1 : ro 1 = 22 := gc_bR hb (by decide) rfl
  have R_12 : ro 12 = 26 := gc_bR hb (by decide) rfl
  have R_23 : ro 23 = 3 := gc_bR hb (by decide) rfl
  have R_39 : ro 39 = 42 := gc_bR hb (by decide) rfl
  have R_4 : ro 4 = 11 := gc_bR hb (by decide) rfl
  have R_41 : ro 41 = 0 := gc_bR hb (by decide) rfl
  have S_1 : sh[1]? = some (false, 8, 21) := gc_bS hb rfl
  have S_12 : sh[12]? = some (true, 1, 96) := gc_bS hb rfl
  have S_23 : sh[23]? = some (false, 9, 10) := gc_bS hb rfl
  have S_39 : sh[39]? = some (false, 6, 19) := gc_bS hb rfl
  have S_4 : sh[4]? = some (false, 4, 2) := gc_bS hb rfl
  have S_41 : sh[41]? = some (true, 1, 25) := gc_bS hb rfl
  obtain ⟨S_t, R_t, B_t, A_t_0, h_t_1, A_t_1, h_t_3, A_t_2, S_t_5, R_t_5, B_t_5, A_t_3, S_t_6, R_t_6, B_t_6, A_t_4, h_t_7, A_t_5, S_t_9, R_t_9, B_t_9, A_t_7, S_t_10, R_t_10, B_t_10, A_t_8, h_t_11, A_t_9, S_t_13, R_t_13, B_t_13, A_t_10, S_t_14, R_t_14, B_t_14, A_t_12, S_t_15, R_t_15, B_t_15, A_t_14, S_t_16, R_t_16, B_t_16, A_t_15, h_t_17⟩ := id h_t
  obtain ⟨S_t_1, R_t_1, B_t_1, A_t_1_0, S_t_1_1, R_t_1_1, B_t_1_1, Q0_t_1, Q1_t_1, Q2_t_1⟩ := id h_t_1
  obtain ⟨S_t_3, R_t_3, B_t_3, A_t_3_0, S_t_3_1, R_t_3_1, B_t_3_1, Q0_t_3, Q1_t_3, Q2_t_3⟩ := id h_t_3
  obtain ⟨S_t_7, R_t_7, B_t_7, A_t_7_0, S_t_7_1, R_t_7_1, B_t_7_1, Q0_t_7, Q1_t_7, Q2_t_7⟩ := id h_t_7
  obtain ⟨S_t_11, R_t_11, B_t_11, A_t_11_0, S_t_11_1, R_t_11_1, B_t_11_1, Q0_t_11, Q1_t_11, Q2_t_11⟩ := id h_t_11
  obtain ⟨S_t_17, R_t_17, B_t_17, A_t_17_0, S_20, R_20, B_20, A_t_17_1, S_t_17_1, R_t_17_1, B_t_17_1, A_t_17_2, S_t_17_2, R_t_17_2, B_t_17_2, A_t_17_3, S_t_17_3, R_t_17_3, B_t_17_3, A_t_17_4, S_t_17_4, R_t_17_4, B_t_17_4, A_t_17_5, S_t_17_5, R_t_17_5, B_t_17_5, S_t_17_6, R_t_17_6, B_t_17_6, S_t_17_7, R_t_17_7, B_t_17_7⟩ := id h_t_17
  have hD : gv_D (gc_E6 ws0 tb 4 (yX6_readWord, cX6_readWord, 2, (some .boolean)) kX6_readWord) := gq_ok oX6_readWord
  refine gc_ev6 (d := 4) (l := kX6_readWord) (Po := fun r h' => (∃ (I' : gr_I) (J' : gr_J), h' = gc_h sh I' J' A ∧ gc_Inv ro I' ∧ (∀ q j : Nat, ((q = 39 ∧ j = 3) ∨ (q = 39 ∧ j = 4) ∨ (q = 23 ∧ j = 5) ∨ (q = 23 ∧ j = 6) ∨ (q = 23 ∧ j = 7) ∨ (q = 23 ∧ j = 8) ∨ (q = 1 ∧ j = 17) ∨ (q = 1 ∧ j = 18) ∨ q = 20 ∨ (q = 39 ∧ j = 6) ∨ (q = 39 ∧ j = 7) ∨ q = 41 ∨ (q = (t + 15) ∧ (11 * I t 11 ≤ (j : Int))) ∨ (q = t ∧ j = 11)) ∨ I' q j = I q j) ∧ (∀ q j : Nat, ((q = 23 ∧ j = 9)) ∨ J' q j = J q j) ∧ gc_LT I' ∧ gc_TK I' ∧ (∃ z : Int, r = some (.inl z) ∧ 0 ≤ z ∧ z ≤ 1 ∧ (I' 23 1 = I 23 1) ∧ (I 23 5 ≤ I' 23 5) ∧ (B ≤ 1280 ∧ I' 1 17 + I' 23 1 ≤ B + I' 23 5) ∧ (z = 0 ∨ I' t 11 = I t 11 + 1) ∧ (z = 1 ∨ I' t 11 = I t 11) ∧ (z = 0 ∨ (I 12 (Int.toNat (I' (t + 15) (Int.toNat (11 * I t 11)))) = 0 ∧ I' (t + 15) (Int.toNat (11 * I t 11)) < I 4 1))))) htb rfl (Nat.le_of_ble_eq_true rfl) ?_
  have N_23__t_15 : ¬ (23 = (t + 15)) := by omega
  have N_24__t_15 : ¬ (24 = (t + 15)) := by omega
  have N_41__t_15 : ¬ (41 = (t + 15)) := by omega
  have N_1__t_15 : ¬ (1 = (t + 15)) := by omega
  have N_4__t_15 : ¬ (4 = (t + 15)) := by omega
  have N_t_11__t_15 : ¬ ((t + 11) = (t + 15)) := by omega
  have N_t__t_15 : ¬ (t = (t + 15)) := by omega
  have N_39__t_15 : ¬ (39 = (t + 15)) := by omega
  have N_24__t : ¬ (24 = t) := by omega
  have N_41__t : ¬ (41 = t) := by omega
  have N_t_11__41 : ¬ ((t + 11) = 41) := by omega
  have N_t__41 : ¬ (t = 41) := by omega
  have N_t_11__20 : ¬ ((t + 11) = 20) := by omega
  have N_t__20 : ¬ (t = 20) := by omega
  have t1 := gc_TK_mo KTK_I
  have f2 := (show 0 ≤ I 23 1 ∧ I 23 1 ≤ 1000 from gc_in hI R_23 rfl rfl)
  have f3 := (show 0 ≤ I 23 5 ∧ I 23 5 ≤ 1000 from gc_in hI R_23 rfl rfl)
  have f4 := (show 0 ≤ I 23 6 ∧ I 23 6 ≤ 1001 from gc_in hI R_23 rfl rfl)
  have f5 := (show 0 ≤ I 23 7 ∧ I 23 7 ≤ 125 from gc_in hI R_23 rfl rfl)
  have f6 := (show 0 ≤ I 1 17 ∧ I 1 17 ≤ 12000 from gc_in hI R_1 rfl rfl)
  have f7 := (show 0 ≤ I 4 1 ∧ I 4 1 ≤ 96 from gc_in hI R_4 rfl rfl)
  have f8 := (show 0 ≤ I (t + 11) 1 ∧ I (t + 11) 1 ≤ 24 from gc_in hI R_t_11 rfl rfl)
  have f9 := (show 0 ≤ I t 11 ∧ I t 11 ≤ 64 from gc_in hI R_t rfl rfl)
  have f10 := (show (-1) ≤ I 39 2 ∧ I 39 2 ≤ 999999 from gc_in hI R_39 rfl rfl)
  have L156 : ∀ (I11 : gr_I) (J12 : gr_J) , gc_Inv ro I11 → (∀ q j : Nat, ((q = 39 ∧ j = 3) ∨ (q = 39 ∧ j = 4) ∨ (q = 23 ∧ j = 5) ∨ (q = 23 ∧ j = 6) ∨ (q = 23 ∧ j = 7) ∨ (q = 23 ∧ j = 8) ∨ (q = 1 ∧ j = 17) ∨ (q = 1 ∧ j = 18) ∨ q = 20 ∨ (q = 39 ∧ j = 6) ∨ (q = 39 ∧ j = 7) ∨ q = 41 ∨ (q = (t + 15) ∧ (11 * I t 11 ≤ (j : Int))) ∨ (q = t ∧ j = 11)) ∨ I11 q j = I q j) → (∀ q j : Nat, ((q = 23 ∧ j = 9)) ∨ J12 q j = J q j) → gc_LT I11 → gc_TK I11 → ((I11 t 11 = I t 11) ∧ (I11 23 1 = I 23 1) ∧ (I 23 5 ≤ I11 23 5) ∧ (B ≤ 1280 ∧ I11 1 17 + I11 23 1 ≤ B + I11 23 5) ∧ (I11 39 2 = (t : Int))) → gv_X (gc_E6 ws0 tb 4 (yX6_readWord, cX6_readWord, 2, (some .boolean)) kX6_readWord) (gv_Q cX6_readWord (some .boolean) sh (fun r h' => (∃ (I' : gr_I) (J' : gr_J), h' = gc_h sh I' J' A ∧ gc_Inv ro I' ∧ (∀ q j : Nat, ((q = 39 ∧ j = 3) ∨ (q = 39 ∧ j = 4) ∨ (q = 23 ∧ j = 5) ∨ (q = 23 ∧ j = 6) ∨ (q = 23 ∧ j = 7) ∨ (q = 23 ∧ j = 8) ∨ (q = 1 ∧ j = 17) ∨ (q = 1 ∧ j = 18) ∨ q = 20 ∨ (q = 39 ∧ j = 6) ∨ (q = 39 ∧ j = 7) ∨ q = 41 ∨ (q = (t + 15) ∧ (11 * I t 11 ≤ (j : Int))) ∨ (q = t ∧ j = 11)) ∨ I' q j = I q j) ∧ (∀ q j : Nat, ((q = 23 ∧ j = 9)) ∨ J' q j = J q j) ∧ gc_LT I' ∧ gc_TK I' ∧ (∃ z : Int, r = some (.inl z) ∧ 0 ≤ z ∧ z ≤ 1 ∧ (I' 23 1 = I 23 1) ∧ (I 23 5 ≤ I' 23 5) ∧ (B ≤ 1280 ∧ I' 1 17 + I' 23 1 ≤ B + I' 23 5) ∧ (z = 0 ∨ I' t 11 = I t 11 + 1) ∧ (z = 1 ∨ I' t 11 = I t 11) ∧ (z = 0 ∨ (I 12 (Int.toNat (I' (t + 15) (Int.toNat (11 * I t 11)))) = 0 ∧ I' (t + 15) (Int.toNat (11 * I t 11)) < I 4 1)))))) (156, [], [], sh, gc_h sh I11 J12 A) := by
    intro I11 J12 hI11 FI11 FJ12 KLT_I11 KTK_I11 m_13
    obtain ⟨e0_13, e1_13, e2_13, e3_13, e4_13⟩ := m_13
    have t14 := gc_TK_mo KTK_I11
    have f15 := (show 0 ≤ I11 23 1 ∧ I11 23 1 ≤ 1000 from gc_in hI11 R_23 rfl rfl)
    have f16 := (show 0 ≤ I11 23 5 ∧ I11 23 5 ≤ 1000 from gc_in hI11 R_23 rfl rfl)
    have f17 := (show 0 ≤ I11 23 6 ∧ I11 23 6 ≤ 1001 from gc_in hI11 R_23 rfl rfl)
    have f18 := (show 0 ≤ I11 23 7 ∧ I11 23 7 ≤ 125 from gc_in hI11 R_23 rfl rfl)
    have f19 := (show 0 ≤ I11 1 17 ∧ I11 1 17 ≤ 12000 from gc_in hI11 R_1 rfl rfl)
    have f20 := (show 0 ≤ I11 4 1 ∧ I11 4 1 ≤ 96 from gc_in hI11 R_4 rfl rfl)
    have f21 := (show 0 ≤ I11 (t + 11) 1 ∧ I11 (t + 11) 1 ≤ 24 from gc_in hI11 R_t_11 rfl rfl)
    have f22 := (show 0 ≤ I11 t 11 ∧ I11 t 11 ≤ 64 from gc_in hI11 R_t rfl rfl)
    have f23 := (show (-1) ≤ I11 39 2 ∧ I11 39 2 ≤ 999999 from gc_in hI11 R_39 rfl rfl)
    refine gv_run 1 true hD (pc' := 157) (lv' := []) (st' := [.inl 0]) (h' := gc_h sh I11 J12 A) (C := (True ∧ True)) rfl ⟨trivial, trivial⟩ ?_
    exact gv_zret hD rfl (by omega) ⟨I11, J12, rfl, hI11, FI11, FJ12, KLT_I11, KTK_I11, ⟨_, rfl, by omega, by omega, by omega, by omega, by omega, by omega, by omega, (Or.inl (by omega))⟩⟩
  have L196 : ∀ (I24 : gr_I) (J25 : gr_J) (v1_26 : Int) (s1_26 : Int), gc_Inv ro I24 → (∀ q j : Nat, ((q = 39 ∧ j = 3) ∨ (q = 39 ∧ j = 4) ∨ (q = 23 ∧ j = 5) ∨ (q = 23 ∧ j = 6) ∨ (q = 23 ∧ j = 7) ∨ (q = 23 ∧ j = 8) ∨ (q = 1 ∧ j = 17) ∨ (q = 1 ∧ j = 18) ∨ q = 20 ∨ (q = 39 ∧ j = 6) ∨ (q = 39 ∧ j = 7) ∨ q = 41 ∨ (q = (t + 15) ∧ (11 * I t 11 ≤ (j : Int))) ∨ (q = t ∧ j = 11)) ∨ I24 q j = I q j) → (∀ q j : Nat, ((q = 23 ∧ j = 9)) ∨ J25 q j = J q j) → gc_LT I24 → gc_TK I24 → gc_row 41 11 gc_fW I24 → ((0 ≤ v1_26 ∧ v1_26 ≤ 95) ∧ (0 ≤ s1_26 ∧ s1_26 ≤ 1) ∧ (s1_26 = 1 ∨ I24 t 11 < 64) ∧ (I24 t 11 = I t 11) ∧ (I24 41 0 = v1_26) ∧ (I 12 (Int.toNat v1_26) ≤ 0) ∧ (v1_26 < I 4 1) ∧ (I24 23 1 = I 23 1) ∧ (I 23 5 ≤ I24 23 5) ∧ (B ≤ 1280 ∧ I24 1 17 + I24 23 1 ≤ B + I24 23 5) ∧ (I24 39 2 = (t : Int))) → gv_X (gc_E6 ws0 tb 4 (yX6_readWord, cX6_readWord, 2, (some .boolean)) kX6_readWord) (gv_Q cX6_readWord (some .boolean) sh (fun r h' => (∃ (I' : gr_I) (J' : gr_J), h' = gc_h sh I' J' A ∧ gc_Inv ro I' ∧ (∀ q j : Nat, ((q = 39 ∧ j = 3) ∨ (q = 39 ∧ j = 4) ∨ (q = 23 ∧ j = 5) ∨ (q = 23 ∧ j = 6) ∨ (q = 23 ∧ j = 7) ∨ (q = 23 ∧ j = 8) ∨ (q = 1 ∧ j = 17) ∨ (q = 1 ∧ j = 18) ∨ q = 20 ∨ (q = 39 ∧ j = 6) ∨ (q = 39 ∧ j = 7) ∨ q = 41 ∨ (q = (t + 15) ∧ (11 * I t 11 ≤ (j : Int))) ∨ (q = t ∧ j = 11)) ∨ I' q j = I q j) ∧ (∀ q j : Nat, ((q = 23 ∧ j = 9)) ∨ J' q j = J q j) ∧ gc_LT I' ∧ gc_TK I' ∧ (∃ z : Int, r = some (.inl z) ∧ 0 ≤ z ∧ z ≤ 1 ∧ (I' 23 1 = I 23 1) ∧ (I 23 5 ≤ I' 23 5) ∧ (B ≤ 1280 ∧ I' 1 17 + I' 23 1 ≤ B + I' 23 5) ∧ (z = 0 ∨ I' t 11 = I t 11 + 1) ∧ (z = 1 ∨ I' t 11 = I t 11) ∧ (z = 0 ∨ (I 12 (Int.toNat (I' (t + 15) (Int.toNat (11 * I t 11)))) = 0 ∧ I' (t + 15) (Int.toNat (11 * I t 11)) < I 4 1)))))) (196, [(0, .inr (.inr (some 39))), (1, .inl v1_26)], [.inl s1_26, .inr (.inr (some 39))], sh, gc_h sh I24 J25 A) := by
    intro I24 J25 v1_26 s1_26 hI24 FI24 FJ25 KLT_I24 KTK_I24 KRW_I24 m_26
    obtain ⟨hv1_26, hs1_26, e0_26, e1_26, e2_26, e3_26, e4_26, e5_26, e6_26, e7_26, e8_26⟩ := m_26
    have t27 := gc_TK_mo KTK_I24
    have f28 := (show 0 ≤ I24 23 1 ∧ I24 23 1 ≤ 1000 from gc_in hI24 R_23 rfl rfl)
    have f29 := (show 0 ≤ I24 23 5 ∧ I24 23 5 ≤ 1000 from gc_in hI24 R_23 rfl rfl)
    have f30 := (show 0 ≤ I24 23 6 ∧ I24 23 6 ≤ 1001 from gc_in hI24 R_23 rfl rfl)
    have f31 := (show 0 ≤ I24 23 7 ∧ I24 23 7 ≤ 125 from gc_in hI24 R_23 rfl rfl)
    have f32 := (show 0 ≤ I24 1 17 ∧ I24 1 17 ≤ 12000 from gc_in hI24 R_1 rfl rfl)
    have f33 := (show 0 ≤ I24 4 1 ∧ I24 4 1 ≤ 96 from gc_in hI24 R_4 rfl rfl)
    have f34 := (show 0 ≤ I24 (t + 11) 1 ∧ I24 (t + 11) 1 ≤ 24 from gc_in hI24 R_t_11 rfl rfl)
    have f35 := (show 0 ≤ I24 t 11 ∧ I24 t 11 ≤ 64 from gc_in hI24 R_t rfl rfl)
    have f36 := (show (-1) ≤ I24 39 2 ∧ I24 39 2 ≤ 999999 from gc_in hI24 R_39 rfl rfl)
    obtain ⟨r37, h37, E37, P37⟩ := d_X6_closes (ws0 := ws0) (tb := tb) hws htb sh ro I24 J25 A hI24  s1_26 hb   ⟨by omega, by omega⟩  KLT_I24 KTK_I24
    obtain ⟨I38, J39, rfl, hI38, g37, k37, KLT_I38, KTK_I38, ⟨z37, rfl, q37⟩⟩ := P37
    have FI38 := gc_frc (W := fun q j => (q = 39 ∧ j = 3) ∨ (q = 39 ∧ j = 4) ∨ (q = 23 ∧ j = 5) ∨ (q = 23 ∧ j = 6) ∨ (q = 23 ∧ j = 7) ∨ (q = 23 ∧ j = 8) ∨ (q = 1 ∧ j = 17) ∨ (q = 1 ∧ j = 18) ∨ q = 20 ∨ (q = 39 ∧ j = 6) ∨ (q = 39 ∧ j = 7) ∨ q = 41 ∨ (q = (t + 15) ∧ (11 * I t 11 ≤ (j : Int))) ∨ (q = t ∧ j = 11)) (V := fun q j => (q = 39 ∧ j = 3) ∨ (q = 39 ∧ j = 4) ∨ (q = 23 ∧ j = 5) ∨ (q = 23 ∧ j = 6) ∨ (q = 23 ∧ j = 7) ∨ (q = 23 ∧ j = 8)) FI24 (fun q j h => (h.elim (fun h => (Or.inl h)) (fun h => (h.elim (fun h => (Or.inr (Or.inl h))) (fun h => (h.elim (fun h => (Or.inr (Or.inr (Or.inl h)))) (fun h => (h.elim (fun h => (Or.inr (Or.inr (Or.inr (Or.inl h))))) (fun h => (h.elim (fun h => (Or.inr (Or.inr (Or.inr (Or.inr (Or.inl h)))))) (fun h => (Or.inr (Or.inr (Or.inr (Or.inr (Or.inr (Or.inl h))))))))))))))))) g37
    have FJ39 := gc_frc (W := fun q j => (q = 23 ∧ j = 9)) (V := fun q j => (q = 23 ∧ j = 9)) FJ25 (fun q j h => h) k37
    have t40 := (g37 23 1).resolve_left (fun h => h.elim (fun h => absurd h.2 (by decide)) (fun h => h.elim (fun h => absurd h.2 (by decide)) (fun h => h.elim (fun h => absurd h.2 (by decide)) (fun h => h.elim (fun h => absurd h.2 (by decide)) (fun h => h.elim (fun h => absurd h.2 (by decide)) (fun h => absurd h.2 (by decide)))))))
    have t41 := (g37 1 17).resolve_left (fun h => h.elim (fun h => absurd h.2 (by decide)) (fun h => h.elim (fun h => absurd h.2 (by decide)) (fun h => h.elim (fun h => absurd h.2 (by decide)) (fun h => h.elim (fun h => absurd h.2 (by decide)) (fun h => h.elim (fun h => absurd h.2 (by decide)) (fun h => absurd h.2 (by decide)))))))
    have t42 := (g37 4 1).resolve_left (fun h => h.elim (fun h => absurd h.2 (by decide)) (fun h => h.elim (fun h => absurd h.2 (by decide)) (fun h => h.elim (fun h => absurd h.2 (by decide)) (fun h => h.elim (fun h => absurd h.2 (by decide)) (fun h => h.elim (fun h => absurd h.2 (by decide)) (fun h => absurd h.2 (by decide)))))))
    have t43 := (g37 (t + 11) 1).resolve_left (fun h => h.elim (fun h => absurd h.2 (by decide)) (fun h => h.elim (fun h => absurd h.2 (by decide)) (fun h => h.elim (fun h => absurd h.2 (by decide)) (fun h => h.elim (fun h => absurd h.2 (by decide)) (fun h => h.elim (fun h => absurd h.2 (by decide)) (fun h => absurd h.2 (by decide)))))))
    have t44 := (g37 t 11).resolve_left (fun h => h.elim (fun h => absurd h.2 (by decide)) (fun h => h.elim (fun h => absurd h.2 (by decide)) (fun h => h.elim (fun h => absurd h.2 (by decide)) (fun h => h.elim (fun h => absurd h.2 (by decide)) (fun h => h.elim (fun h => absurd h.2 (by decide)) (fun h => absurd h.2 (by decide)))))))
    have t45 := (g37 39 2).resolve_left (fun h => h.elim (fun h => absurd h.2 (by decide)) (fun h => h.elim (fun h => absurd h.2 (by decide)) (fun h => h.elim (fun h => absurd h.2 (by decide)) (fun h => h.elim (fun h => absurd h.2 (by decide)) (fun h => h.elim (fun h => absurd h.2 (by decide)) (fun h => absurd h.2 (by decide)))))))
    have t46 := (g37 41 0).resolve_left (fun h => h.elim (fun h => absurd h.2 (by decide)) (fun h => h.elim (fun h => absurd h.2 (by decide)) (fun h => h.elim (fun h => absurd h.2 (by decide)) (fun h => h.elim (fun h => absurd h.2 (by decide)) (fun h => h.elim (fun h => absurd h.2 (by decide)) (fun h => absurd h.2 (by decide)))))))
    have f47 := (show 0 ≤ I38 23 5 ∧ I38 23 5 ≤ 1000 from gc_in hI38 R_23 rfl rfl)
    have f48 := (show 0 ≤ I38 23 6 ∧ I38 23 6 ≤ 1001 from gc_in hI38 R_23 rfl rfl)
    have f49 := (show 0 ≤ I38 23 7 ∧ I38 23 7 ≤ 125 from gc_in hI38 R_23 rfl rfl)
    have t50 := gc_TK_mo KTK_I38
    have KRW_I38 := gc_row_fr KRW_I24 (fun k => (g37 41 k).resolve_left (fun h => h.elim (fun h => absurd h.1 (by decide)) (fun h => h.elim (fun h => absurd h.1 (by decide)) (fun h => h.elim (fun h => absurd h.1 (by decide)) (fun h => h.elim (fun h => absurd h.1 (by decide)) (fun h => h.elim (fun h => absurd h.1 (by decide)) (fun h => absurd h.1 (by decide))))))))
    refine gv_callV hD rfl (As := [.inl s1_26]) (st := []) rfl B_39 S_39 rfl (gc_lV6 hws rfl) (Nat.le_of_ble_eq_true rfl) (gz_Ev_mono (d := 4) (by decide) E37) ?_
    show gv_X _ _ (199, [(0, .inr (.inr (some 39))), (1, .inl v1_26)], [.inl z37], sh, gc_h sh I38 J39 A)
    refine gv_if_ne (t := 204) hD rfl rfl ⟨by omega, by omega⟩ (fun c51 => ?_) (fun c51 => ?_)
    · show gv_X _ _ (204, [(0, .inr (.inr (some 39))), (1, .inl v1_26)], [], sh, gc_h sh I38 J39 A)
      refine gv_run 1 true hD (pc' := 205) (lv' := [(0, .inr (.inr (some 39))), (1, .inl v1_26)]) (st' := [.inr (.inr (some 39))]) (h' := gc_h sh I38 J39 A) (C := (True ∧ True)) rfl ⟨trivial, trivial⟩ ?_
      refine gv_get hD rfl rfl S_39 ⟨by decide, B_39⟩ (gc_hA S_39 rfl A_39_10) ?_
      show gv_X _ _ (208, [(0, .inr (.inr (some 39))), (1, .inl v1_26)], [.inr (.inr (some 41))], sh, gc_h sh I38 J39 A)
      refine gv_run 2 true hD (pc' := 210) (lv' := [(0, .inr (.inr (some 39))), (1, .inl v1_26)]) (st' := [.inr (.inr (some 39)), .inl 0, .inr (.inr (some 41))]) (h' := gc_h sh I38 J39 A) (C := ((True ∧ True) ∧ True)) rfl ⟨⟨trivial, trivial⟩, trivial⟩ ?_
      refine gv_get hD rfl rfl S_39 ⟨by decide, B_39⟩ (gc_h5 (t := t) S_39 rfl (by omega)) ?_
      show gv_X _ _ (213, [(0, .inr (.inr (some 39))), (1, .inl v1_26)], [.inr (.inr (some t)), .inl 0, .inr (.inr (some 41))], sh, gc_h sh I38 J39 A)
      refine gv_get hD rfl rfl S_t ⟨by decide, B_t⟩ (gc_hA S_t rfl A_t_12) ?_
      show gv_X _ _ (216, [(0, .inr (.inr (some 39))), (1, .inl v1_26)], [.inr (.inr (some (t + 15))), .inl 0, .inr (.inr (some 41))], sh, gc_h sh I38 J39 A)
      refine gv_run 1 true hD (pc' := 217) (lv' := [(0, .inr (.inr (some 39))), (1, .inl v1_26)]) (st' := [.inr (.inr (some 39)), .inr (.inr (some (t + 15))), .inl 0, .inr (.inr (some 41))]) (h' := gc_h sh I38 J39 A) (C := (True ∧ True)) rfl ⟨trivial, trivial⟩ ?_
      refine gv_get hD rfl rfl S_39 ⟨by decide, B_39⟩ (gc_h5 (t := t) S_39 rfl (by omega)) ?_
      show gv_X _ _ (220, [(0, .inr (.inr (some 39))), (1, .inl v1_26)], [.inr (.inr (some t)), .inr (.inr (some (t + 15))), .inl 0, .inr (.inr (some 41))], sh, gc_h sh I38 J39 A)
      have f52 := (show 0 ≤ I38 t 11 ∧ I38 t 11 ≤ 64 from gc_in hI38 R_t rfl rfl)
      refine gv_get hD rfl rfl S_t ⟨by decide, B_t⟩ (gc_hI S_t rfl) ?_
      show gv_X _ _ (223, [(0, .inr (.inr (some 39))), (1, .inl v1_26)], [.inl (I38 t 11), .inr (.inr (some (t + 15))), .inl 0, .inr (.inr (some 41))], sh, gc_h sh I38 J39 A)
      refine gv_run 3 true hD (pc' := 228) (lv' := [(0, .inr (.inr (some 39))), (1, .inl v1_26)]) (st' := [.inl 11, .inl ((I38 t 11) * 11), .inr (.inr (some (t + 15))), .inl 0, .inr (.inr (some 41))]) (h' := gc_h sh I38 J39 A) (C := (((True ∧ True) ∧ True) ∧ True)) rfl ⟨⟨⟨trivial, trivial⟩, trivial⟩, trivial⟩ ?_
      refine gv_copy hD rfl (gc_lC6_263 hws) (Nat.le_of_ble_eq_true rfl) ⟨B_41, B_t_15⟩ S_41 S_t_15 (by decide) ⟨by decide, by decide⟩ ⟨by omega, by omega, by omega⟩ (by omega) (by omega) (fun h => absurd h (by decide)) ?_
      refine gc_cp hI38 S_41 S_t_15 (by decide) (fun j hj => gc_RW_cp KRW_I38 R_t_15 (by omega) (by decide) hj) (fun I54 hI54 p53 q53 => ?_)
      have FI54 := gc_frp (W := fun q j => (q = 39 ∧ j = 3) ∨ (q = 39 ∧ j = 4) ∨ (q = 23 ∧ j = 5) ∨ (q = 23 ∧ j = 6) ∨ (q = 23 ∧ j = 7) ∨ (q = 23 ∧ j = 8) ∨ (q = 1 ∧ j = 17) ∨ (q = 1 ∧ j = 18) ∨ q = 20 ∨ (q = 39 ∧ j = 6) ∨ (q = 39 ∧ j = 7) ∨ q = 41 ∨ (q = (t + 15) ∧ (11 * I t 11 ≤ (j : Int))) ∨ (q = t ∧ j = 11)) (V := fun q j => q = (t + 15) ∧ Int.toNat (((I38 t 11) * 11)) ≤ j ∧ j < Int.toNat (((I38 t 11) * 11)) + Int.toNat 11) FI38 (fun q j h => (Or.inr (Or.inr (Or.inr (Or.inr (Or.inr (Or.inr (Or.inr (Or.inr (Or.inr (Or.inr (Or.inr (Or.inr (Or.inl ⟨h.1, by have := h.2; omega⟩)))))))))))))) p53
      have KLT_I54 := gc_LT_fr KLT_I38 (p53 23 5 (fun h => absurd h.1 N_23__t_15)) (p53 23 6 (fun h => absurd h.1 N_23__t_15)) (p53 23 7 (fun h => absurd h.1 N_23__t_15)) (fun k => p53 24 k (fun h => absurd h.1 N_24__t_15))
      have KTK_I54 := gc_TK_fr KTK_I38 (p53 23 1 (fun h => absurd h.1 N_23__t_15)) (p53 23 5 (fun h => absurd h.1 N_23__t_15)) (p53 23 6 (fun h => absurd h.1 N_23__t_15)) (p53 23 7 (fun h => absurd h.1 N_23__t_15))
      have KRW_I54 := gc_row_fr KRW_I38 (fun k => p53 41 k (fun h => absurd h.1 N_41__t_15))
      have t56 := p53 23 1 (fun h => absurd h.1 N_23__t_15)
      have t57 := p53 23 5 (fun h => absurd h.1 N_23__t_15)
      have t58 := p53 23 6 (fun h => absurd h.1 N_23__t_15)
      have t59 := p53 23 7 (fun h => absurd h.1 N_23__t_15)
      have t60 := p53 1 17 (fun h => absurd h.1 N_1__t_15)
      have t61 := p53 4 1 (fun h => absurd h.1 N_4__t_15)
      have t62 := p53 (t + 11) 1 (fun h => absurd h.1 N_t_11__t_15)
      have t63 := p53 t 11 (fun h => absurd h.1 N_t__t_15)
      have t64 := p53 39 2 (fun h => absurd h.1 N_39__t_15)
      have t65 := p53 41 0 (fun h => absurd h.1 N_41__t_15)
      have t66 := gc_TK_mo KTK_I54
      have f67 := (show 0 ≤ I54 23 1 ∧ I54 23 1 ≤ 1000 from gc_in hI54 R_23 rfl rfl)
      have f68 := (show 0 ≤ I54 23 5 ∧ I54 23 5 ≤ 1000 from gc_in hI54 R_23 rfl rfl)
      have f69 := (show 0 ≤ I54 23 6 ∧ I54 23 6 ≤ 1001 from gc_in hI54 R_23 rfl rfl)
      have f70 := (show 0 ≤ I54 23 7 ∧ I54 23 7 ≤ 125 from gc_in hI54 R_23 rfl rfl)
      have f71 := (show 0 ≤ I54 1 17 ∧ I54 1 17 ≤ 12000 from gc_in hI54 R_1 rfl rfl)
      have f72 := (show 0 ≤ I54 4 1 ∧ I54 4 1 ≤ 96 from gc_in hI54 R_4 rfl rfl)
      have f73 := (show 0 ≤ I54 (t + 11) 1 ∧ I54 (t + 11) 1 ≤ 24 from gc_in hI54 R_t_11 rfl rfl)
      have f74 := (show 0 ≤ I54 t 11 ∧ I54 t 11 ≤ 64 from gc_in hI54 R_t rfl rfl)
      have f75 := (show (-1) ≤ I54 39 2 ∧ I54 39 2 ≤ 999999 from gc_in hI54 R_39 rfl rfl)
      show gv_X _ _ (231, [(0, .inr (.inr (some 39))), (1, .inl v1_26)], [], sh, gc_h sh I54 J39 A)
      refine gv_run 1 true hD (pc' := 232) (lv' := [(0, .inr (.inr (some 39))), (1, .inl v1_26)]) (st' := [.inr (.inr (some 39))]) (h' := gc_h sh I54 J39 A) (C := (True ∧ True)) rfl ⟨trivial, trivial⟩ ?_
      refine gv_get hD rfl rfl S_39 ⟨by decide, B_39⟩ (gc_h5 (t := t) S_39 rfl (by omega)) ?_
      show gv_X _ _ (235, [(0, .inr (.inr (some 39))), (1, .inl v1_26)], [.inr (.inr (some t))], sh, gc_h sh I54 J39 A)
      refine gv_run 1 true hD (pc' := 236) (lv' := [(0, .inr (.inr (some 39))), (1, .inl v1_26)]) (st' := [.inr (.inr (some t)), .inr (.inr (some t))]) (h' := gc_h sh I54 J39 A) (C := (True ∧ True)) rfl ⟨trivial, trivial⟩ ?_
      have f76 := (show 0 ≤ I54 t 11 ∧ I54 t 11 ≤ 64 from gc_in hI54 R_t rfl rfl)
      refine gv_get hD rfl rfl S_t ⟨by decide, B_t⟩ (gc_hI S_t rfl) ?_
      show gv_X _ _ (239, [(0, .inr (.inr (some 39))), (1, .inl v1_26)], [.inl (I54 t 11), .inr (.inr (some t))], sh, gc_h sh I54 J39 A)
      refine gv_run 2 true hD (pc' := 241) (lv' := [(0, .inr (.inr (some 39))), (1, .inl v1_26)]) (st' := [.inl ((I54 t 11) + 1), .inr (.inr (some t))]) (h' := gc_h sh I54 J39 A) (C := ((True ∧ True) ∧ True)) rfl ⟨⟨trivial, trivial⟩, trivial⟩ ?_
      refine gv_put hD rfl rfl S_t ⟨by decide, B_t⟩ rfl trivial ?_
      refine gc_st (k := 11) hI54 S_t rfl R_t (lo := 0) (hi := 64) rfl rfl (by omega) (by omega) (fun I77 hI77 q78 p78 => ?_)
      have FI77 := gc_frs (W := fun q j => (q = 39 ∧ j = 3) ∨ (q = 39 ∧ j = 4) ∨ (q = 23 ∧ j = 5) ∨ (q = 23 ∧ j = 6) ∨ (q = 23 ∧ j = 7) ∨ (q = 23 ∧ j = 8) ∨ (q = 1 ∧ j = 17) ∨ (q = 1 ∧ j = 18) ∨ q = 20 ∨ (q = 39 ∧ j = 6) ∨ (q = 39 ∧ j = 7) ∨ q = 41 ∨ (q = (t + 15) ∧ (11 * I t 11 ≤ (j : Int))) ∨ (q = t ∧ j = 11)) FI54 (Or.inr (Or.inr (Or.inr (Or.inr (Or.inr (Or.inr (Or.inr (Or.inr (Or.inr (Or.inr (Or.inr (Or.inr (Or.inr ⟨rfl, rfl⟩))))))))))))) p78
      have t79 := p78 23 1 (fun h => absurd h.2 (by decide))
      have t80 := p78 23 5 (fun h => absurd h.2 (by decide))
      have t81 := p78 23 6 (fun h => absurd h.2 (by decide))
      have t82 := p78 23 7 (fun h => absurd h.2 (by decide))
      have t83 := p78 1 17 (fun h => absurd h.2 (by decide))
      have t84 := p78 4 1 (fun h => absurd h.2 (by decide))
      have t85 := p78 (t + 11) 1 (fun h => absurd h.2 (by decide))
      have t86 := p78 39 2 (fun h => absurd h.2 (by decide))
      have t87 := p78 41 0 (fun h => absurd h.2 (by decide))
      have f88 := (show 0 ≤ I77 t 11 ∧ I77 t 11 ≤ 64 from gc_in hI77 R_t rfl rfl)
      have KLT_I77 := gc_LT_fr KLT_I54 (p78 23 5 (fun h => absurd h.2 (by decide))) (p78 23 6 (fun h => absurd h.2 (by decide))) (p78 23 7 (fun h => absurd h.2 (by decide))) (fun k => p78 24 k (fun h => absurd h.1 N_24__t))
      have KTK_I77 := gc_TK_fr KTK_I54 (p78 23 1 (fun h => absurd h.2 (by decide))) (p78 23 5 (fun h => absurd h.2 (by decide))) (p78 23 6 (fun h => absurd h.2 (by decide))) (p78 23 7 (fun h => absurd h.2 (by decide)))
      have KRW_I77 := gc_row_fr KRW_I54 (fun k => p78 41 k (fun h => absurd h.1 N_41__t))
      show gv_X _ _ (244, [(0, .inr (.inr (some 39))), (1, .inl v1_26)], [], sh, gc_h sh I77 J39 A)
      refine gv_run 1 true hD (pc' := 245) (lv' := [(0, .inr (.inr (some 39))), (1, .inl v1_26)]) (st' := [.inl 1]) (h' := gc_h sh I77 J39 A) (C := (True ∧ True)) rfl ⟨trivial, trivial⟩ ?_
      exact gv_zret hD rfl (by omega) ⟨I77, J39, rfl, hI77, FI77, FJ39, KLT_I77, KTK_I77, ⟨_, rfl, by omega, by omega, by omega, by omega, by omega, by omega, by omega, (Or.inr (by have e9 : I77 (t + 15) (Int.toNat (11 * I t 11)) = v1_26 := ((p78 (t + 15) (Int.toNat (11 * I t 11)) (fun h => absurd h.1 (by omega)))).trans (by have h9 := q53 0 (by omega); rw [show Int.toNat (((I38 t 11) * 11)) + 0 = Int.toNat (11 * I t 11) from by omega, show Int.toNat 0 + 0 = 0 from rfl] at h9; omega); rw [e9]; have h7 : 0 ≤ I 12 (Int.toNat v1_26) ∧ I 12 (Int.toNat v1_26) ≤ 4 := gc_in hI R_12 rfl rfl; omega))⟩⟩
    · show gv_X _ _ (202, [(0, .inr (.inr (some 39))), (1, .inl v1_26)], [], sh, gc_h sh I38 J39 A)
      refine gv_run 1 true hD (pc' := 203) (lv' := [(0, .inr (.inr (some 39))), (1, .inl v1_26)]) (st' := [.inl 0]) (h' := gc_h sh I38 J39 A) (C := (True ∧ True)) rfl ⟨trivial, trivial⟩ ?_
      exact gv_zret hD rfl (by omega) ⟨I38, J39, rfl, hI38, FI38, FJ39, KLT_I38, KTK_I38, ⟨_, rfl, by omega, by omega, by omega, by omega, by omega, by omega, by omega, (Or.inl (by omega))⟩⟩
  refine gv_run 2 true hD (pc' := 2) (lv' := [(0, .inr (.inr (some 39)))]) (st' := [.inr (.inr (some 39)), .inr (.inr (some 39))]) (h' := gc_h sh I J A) (C := ((True ∧ True) ∧ True)) rfl ⟨⟨trivial, trivial⟩, trivial⟩ ?_
  refine gv_get hD rfl rfl S_39 ⟨by decide, B_39⟩ (gc_hA S_39 rfl A_39_0) ?_
  show gv_X _ _ (5, [(0, .inr (.inr (some 39)))], [.inr (.inr (some 1)), .inr (.inr (some 39))], sh, gc_h sh I J A)
  refine gv_get hD rfl rfl S_1 ⟨by decide, B_1⟩ (gc_hA S_1 rfl A_1_1) ?_
  show gv_X _ _ (8, [(0, .inr (.inr (some 39)))], [.inr (.inr (some 4)), .inr (.inr (some 39))], sh, gc_h sh I J A)
  obtain ⟨r89, h89, E89, P89⟩ := d_X6_needKnown (ws0 := ws0) (tb := tb) hws htb sh ro I J A hI  96 11 4 hb (gc_b4 hb)    
  obtain ⟨I90, J91, rfl, hI90, g89, k89, ⟨z89, rfl, q89⟩⟩ := P89
  have FI90 := gc_frc (W := fun q j => (q = 39 ∧ j = 3) ∨ (q = 39 ∧ j = 4) ∨ (q = 23 ∧ j = 5) ∨ (q = 23 ∧ j = 6) ∨ (q = 23 ∧ j = 7) ∨ (q = 23 ∧ j = 8) ∨ (q = 1 ∧ j = 17) ∨ (q = 1 ∧ j = 18) ∨ q = 20 ∨ (q = 39 ∧ j = 6) ∨ (q = 39 ∧ j = 7) ∨ q = 41 ∨ (q = (t + 15) ∧ (11 * I t 11 ≤ (j : Int))) ∨ (q = t ∧ j = 11)) (V := fun q j => (q = 39 ∧ j = 3) ∨ (q = 39 ∧ j = 4)) FI (fun q j h => (h.elim (fun h => (Or.inl h)) (fun h => (Or.inr (Or.inl h))))) g89
  have t92 := (g89 23 1).resolve_left (fun h => h.elim (fun h => absurd h.2 (by decide)) (fun h => absurd h.2 (by decide)))
  have t93 := (g89 23 5).resolve_left (fun h => h.elim (fun h => absurd h.2 (by decide)) (fun h => absurd h.2 (by decide)))
  have t94 := (g89 23 6).resolve_left (fun h => h.elim (fun h => absurd h.2 (by decide)) (fun h => absurd h.2 (by decide)))
  have t95 := (g89 23 7).resolve_left (fun h => h.elim (fun h => absurd h.2 (by decide)) (fun h => absurd h.2 (by decide)))
  have t96 := (g89 1 17).resolve_left (fun h => h.elim (fun h => absurd h.2 (by decide)) (fun h => absurd h.2 (by decide)))
  have t97 := (g89 4 1).resolve_left (fun h => h.elim (fun h => absurd h.2 (by decide)) (fun h => absurd h.2 (by decide)))
  have t98 := (g89 (t + 11) 1).resolve_left (fun h => h.elim (fun h => absurd h.2 (by decide)) (fun h => absurd h.2 (by decide)))
  have t99 := (g89 t 11).resolve_left (fun h => h.elim (fun h => absurd h.2 (by decide)) (fun h => absurd h.2 (by decide)))
  have t100 := (g89 39 2).resolve_left (fun h => h.elim (fun h => absurd h.2 (by decide)) (fun h => absurd h.2 (by decide)))
  have t101 := (g89 41 0).resolve_left (fun h => h.elim (fun h => absurd h.2 (by decide)) (fun h => absurd h.2 (by decide)))
  obtain rfl : J = J91 := funext fun q => funext fun j => ((k89 q j).resolve_left id).symm
  have KLT_I90 := gc_LT_fr KLT_I ((g89 23 5).resolve_left (fun h => h.elim (fun h => absurd h.2 (by decide)) (fun h => absurd h.2 (by decide)))) ((g89 23 6).resolve_left (fun h => h.elim (fun h => absurd h.2 (by decide)) (fun h => absurd h.2 (by decide)))) ((g89 23 7).resolve_left (fun h => h.elim (fun h => absurd h.2 (by decide)) (fun h => absurd h.2 (by decide)))) (fun k => (g89 24 k).resolve_left (fun h => h.elim (fun h => absurd h.1 (by decide)) (fun h => absurd h.1 (by decide))))
  have KTK_I90 := gc_TK_fr KTK_I ((g89 23 1).resolve_left (fun h => h.elim (fun h => absurd h.2 (by decide)) (fun h => absurd h.2 (by decide)))) ((g89 23 5).resolve_left (fun h => h.elim (fun h => absurd h.2 (by decide)) (fun h => absurd h.2 (by decide)))) ((g89 23 6).resolve_left (fun h => h.elim (fun h => absurd h.2 (by decide)) (fun h => absurd h.2 (by decide)))) ((g89 23 7).resolve_left (fun h => h.elim (fun h => absurd h.2 (by decide)) (fun h => absurd h.2 (by decide))))
  refine gv_callV hD rfl (As := [.inr (.inr (some 4))]) (st := []) rfl B_39 S_39 rfl (gc_lV6 hws rfl) (Nat.le_of_ble_eq_true rfl) (gz_Ev_mono (d := 3) (by decide) E89) ?_
  show gv_X _ _ (11, [(0, .inr (.inr (some 39)))], [.inl z89], sh, gc_h sh I90 J A)
  refine gv_if_ne (t := 16) hD rfl rfl ⟨by omega, by omega⟩ (fun c102 => ?_) (fun c102 => ?_)
  · show gv_X _ _ (16, [(0, .inr (.inr (some 39)))], [], sh, gc_h sh I90 J A)
    refine gv_run 1 true hD (pc' := 17) (lv' := [(0, .inr (.inr (some 39)))]) (st' := [.inr (.inr (some 39))]) (h' := gc_h sh I90 J A) (C := (True ∧ True)) rfl ⟨trivial, trivial⟩ ?_
    refine gv_get hD rfl rfl S_39 ⟨by decide, B_39⟩ (gc_hA S_39 rfl A_39_0) ?_
    show gv_X _ _ (20, [(0, .inr (.inr (some 39)))], [.inr (.inr (some 1))], sh, gc_h sh I90 J A)
    refine gv_get hD rfl rfl S_1 ⟨by decide, B_1⟩ (gc_hA S_1 rfl A_1_1) ?_
    show gv_X _ _ (23, [(0, .inr (.inr (some 39)))], [.inr (.inr (some 4))], sh, gc_h sh I90 J A)
    refine gv_run 1 true hD (pc' := 24) (lv' := [(0, .inr (.inr (some 39)))]) (st' := [.inr (.inr (some 39)), .inr (.inr (some 4))]) (h' := gc_h sh I90 J A) (C := (True ∧ True)) rfl ⟨trivial, trivial⟩ ?_
    refine gv_get hD rfl rfl S_39 ⟨by decide, B_39⟩ (gc_hA S_39 rfl A_39_1) ?_
    show gv_X _ _ (27, [(0, .inr (.inr (some 39)))], [.inr (.inr (some 23)), .inr (.inr (some 4))], sh, gc_h sh I90 J A)
    refine gv_get hD rfl rfl S_23 ⟨by decide, B_23⟩ (gc_hJ S_23 rfl) ?_
    show gv_X _ _ (30, [(0, .inr (.inr (some 39)))], [.inr (.inl (J 23 9)), .inr (.inr (some 4))], sh, gc_h sh I90 J A)
    obtain ⟨r103, h103, E103, P103⟩ := d_X4_find (ws0 := ws0) (tb := tb) hws htb sh ro I90 J A hI90 4 96 11 (J 23 9) (gc_b4 hb)     
    obtain ⟨rfl, ⟨z103, rfl, q103⟩⟩ := P103
    refine gv_callV hD rfl (As := [.inr (.inl (J 23 9))]) (st := []) rfl B_4 S_4 rfl (gc_lV6 hws rfl) (Nat.le_of_ble_eq_true rfl) (gz_Ev_mono (d := 1) (by decide) E103) ?_
    show gv_X _ _ (33, [(0, .inr (.inr (some 39)))], [.inl z103], sh, gc_h sh I90 J A)
    refine gv_run 2 true hD (pc' := 35) (lv' := [(1, .inl z103), (0, .inr (.inr (some 39)))]) (st' := [.inr (.inr (some 39))]) (h' := gc_h sh I90 J A) (C := ((True ∧ True) ∧ True)) rfl ⟨⟨trivial, trivial⟩, trivial⟩ ?_
    refine gv_get hD rfl rfl S_39 ⟨by decide, B_39⟩ (gc_hA S_39 rfl A_39_0) ?_
    show gv_X _ _ (38, [(1, .inl z103), (0, .inr (.inr (some 39)))], [.inr (.inr (some 1))], sh, gc_h sh I90 J A)
    refine gv_get hD rfl rfl S_1 ⟨by decide, B_1⟩ (gc_hA S_1 rfl A_1_7) ?_
    show gv_X _ _ (41, [(1, .inl z103), (0, .inr (.inr (some 39)))], [.inr (.inr (some 12))], sh, gc_h sh I90 J A)
    refine gv_run 1 true hD (pc' := 42) (lv' := [(1, .inl z103), (0, .inr (.inr (some 39)))]) (st' := [.inl z103, .inr (.inr (some 12))]) (h' := gc_h sh I90 J A) (C := (True ∧ True)) rfl ⟨trivial, trivial⟩ ?_
    have f104 := (show 0 ≤ I90 12 (Int.toNat z103) ∧ I90 12 (Int.toNat z103) ≤ 4 from gc_in hI90 R_12 rfl rfl)
    refine gv_iald hD rfl S_12 rfl ⟨by decide, B_12⟩ ⟨by omega, by omega⟩ (gc_iI S_12 rfl) ?_
    show gv_X _ _ (43, [(1, .inl z103), (0, .inr (.inr (some 39)))], [.inl (I90 12 (Int.toNat z103))], sh, gc_h sh I90 J A)
    refine gv_if_le (t := 59) hD rfl rfl ⟨by omega, by omega⟩ (fun c105 => ?_) (fun c105 => ?_)
    · show gv_X _ _ (59, [(1, .inl z103), (0, .inr (.inr (some 39)))], [], sh, gc_h sh I90 J A)
      have t106 := (FI90 12 (Int.toNat z103)).resolve_left (by omega)
      refine gv_run 1 true hD (pc' := 60) (lv' := [(1, .inl z103), (0, .inr (.inr (some 39)))]) (st' := [.inr (.inr (some 39))]) (h' := gc_h sh I90 J A) (C := (True ∧ True)) rfl ⟨trivial, trivial⟩ ?_
      refine gv_get hD rfl rfl S_39 ⟨by decide, B_39⟩ (gc_hA S_39 rfl A_39_1) ?_
      show gv_X _ _ (63, [(1, .inl z103), (0, .inr (.inr (some 39)))], [.inr (.inr (some 23))], sh, gc_h sh I90 J A)
      have t108 := gc_TK_nx KTK_I90 (by omega)
      have t109 := gc_TK_st KTK_I90 (by omega)
      obtain ⟨r107, h107, E107, P107⟩ := d_X9_advance (ws0 := ws0) (tb := tb) hws htb sh ro I90 J A hI90 23  (gc_b23 hb)    (by omega) 
      obtain ⟨I110, J111, rfl, hI110, g107, k107, ⟨rfl, V107_0, V107_1, V107_2, V107_3, V107_4, q107⟩⟩ := P107
      have FI110 := gc_frc (W := fun q j => (q = 39 ∧ j = 3) ∨ (q = 39 ∧ j = 4) ∨ (q = 23 ∧ j = 5) ∨ (q = 23 ∧ j = 6) ∨ (q = 23 ∧ j = 7) ∨ (q = 23 ∧ j = 8) ∨ (q = 1 ∧ j = 17) ∨ (q = 1 ∧ j = 18) ∨ q = 20 ∨ (q = 39 ∧ j = 6) ∨ (q = 39 ∧ j = 7) ∨ q = 41 ∨ (q = (t + 15) ∧ (11 * I t 11 ≤ (j : Int))) ∨ (q = t ∧ j = 11)) (V := fun q j => (q = 23 ∧ j = 5) ∨ (q = 23 ∧ j = 6) ∨ (q = 23 ∧ j = 7) ∨ (q = 23 ∧ j = 8)) FI90 (fun q j h => (h.elim (fun h => (Or.inr (Or.inr (Or.inl h)))) (fun h => (h.elim (fun h => (Or.inr (Or.inr (Or.inr (Or.inl h))))) (fun h => (h.elim (fun h => (Or.inr (Or.inr (Or.inr (Or.inr (Or.inl h)))))) (fun h => (Or.inr (Or.inr (Or.inr (Or.inr (Or.inr (Or.inl h))))))))))))) g107
      have FJ111 := gc_frc (W := fun q j => (q = 23 ∧ j = 9)) (V := fun q j => (q = 23 ∧ j = 9)) FJ (fun q j h => h) k107
      have t112 := (g107 23 1).resolve_left (fun h => h.elim (fun h => absurd h.2 (by decide)) (fun h => h.elim (fun h => absurd h.2 (by decide)) (fun h => h.elim (fun h => absurd h.2 (by decide)) (fun h => absurd h.2 (by decide)))))
      have t113 := (g107 1 17).resolve_left (fun h => h.elim (fun h => absurd h.2 (by decide)) (fun h => h.elim (fun h => absurd h.2 (by decide)) (fun h => h.elim (fun h => absurd h.2 (by decide)) (fun h => absurd h.2 (by decide)))))
      have t114 := (g107 4 1).resolve_left (fun h => h.elim (fun h => absurd h.2 (by decide)) (fun h => h.elim (fun h => absurd h.2 (by decide)) (fun h => h.elim (fun h => absurd h.2 (by decide)) (fun h => absurd h.2 (by decide)))))
      have t115 := (g107 (t + 11) 1).resolve_left (fun h => h.elim (fun h => absurd h.2 (by decide)) (fun h => h.elim (fun h => absurd h.2 (by decide)) (fun h => h.elim (fun h => absurd h.2 (by decide)) (fun h => absurd h.2 (by decide)))))
      have t116 := (g107 t 11).resolve_left (fun h => h.elim (fun h => absurd h.2 (by decide)) (fun h => h.elim (fun h => absurd h.2 (by decide)) (fun h => h.elim (fun h => absurd h.2 (by decide)) (fun h => absurd h.2 (by decide)))))
      have t117 := (g107 39 2).resolve_left (fun h => h.elim (fun h => absurd h.2 (by decide)) (fun h => h.elim (fun h => absurd h.2 (by decide)) (fun h => h.elim (fun h => absurd h.2 (by decide)) (fun h => absurd h.2 (by decide)))))
      have t118 := (g107 41 0).resolve_left (fun h => h.elim (fun h => absurd h.2 (by decide)) (fun h => h.elim (fun h => absurd h.2 (by decide)) (fun h => h.elim (fun h => absurd h.2 (by decide)) (fun h => absurd h.2 (by decide)))))
      have f119 := (show 0 ≤ I110 23 5 ∧ I110 23 5 ≤ 1000 from gc_in hI110 R_23 rfl rfl)
      have f120 := (show 0 ≤ I110 23 6 ∧ I110 23 6 ≤ 1001 from gc_in hI110 R_23 rfl rfl)
      have f121 := (show 0 ≤ I110 23 7 ∧ I110 23 7 ≤ 125 from gc_in hI110 R_23 rfl rfl)
      have KLT_I110 : gc_LT I110 := q107.2.2
      have KTK_I110 : gc_TK I110 := And.intro V107_0 (And.intro V107_1 (And.intro V107_2 (And.intro V107_3 V107_4)))
      have t122 := gc_TK_mo KTK_I110
      clear V107_0 V107_1 V107_2 V107_3 V107_4
      refine gv_callV hD rfl (As := []) (st := []) rfl B_23 S_23 rfl (gc_lV6 hws rfl) (Nat.le_of_ble_eq_true rfl) (gz_Ev_mono (d := 2) (by decide) E107) ?_
      show gv_X _ _ (66, [(1, .inl z103), (0, .inr (.inr (some 39)))], [], sh, gc_h sh I110 J111 A)
      refine gv_run 2 true hD (pc' := 68) (lv' := [(1, .inl z103), (0, .inr (.inr (some 39)))]) (st' := [.inr (.inr (some 39)), .inr (.inr (some 39))]) (h' := gc_h sh I110 J111 A) (C := ((True ∧ True) ∧ True)) rfl ⟨⟨trivial, trivial⟩, trivial⟩ ?_
      refine gv_get hD rfl rfl S_39 ⟨by decide, B_39⟩ (gc_h5 (t := t) S_39 rfl (by omega)) ?_
      show gv_X _ _ (71, [(1, .inl z103), (0, .inr (.inr (some 39)))], [.inr (.inr (some t)), .inr (.inr (some 39))], sh, gc_h sh I110 J111 A)
      refine gv_get hD rfl rfl S_t ⟨by decide, B_t⟩ (gc_hA S_t rfl A_t_8) ?_
      show gv_X _ _ (74, [(1, .inl z103), (0, .inr (.inr (some 39)))], [.inr (.inr (some (t + 11))), .inr (.inr (some 39))], sh, gc_h sh I110 J111 A)
      obtain ⟨r123, h123, E123, P123⟩ := d_X6_needKnown (ws0 := ws0) (tb := tb) hws htb sh ro I110 J111 A hI110  24 8 (t + 11) hb h_t_11    
      obtain ⟨I124, J125, rfl, hI124, g123, k123, ⟨z123, rfl, q123⟩⟩ := P123
      have FI124 := gc_frc (W := fun q j => (q = 39 ∧ j = 3) ∨ (q = 39 ∧ j = 4) ∨ (q = 23 ∧ j = 5) ∨ (q = 23 ∧ j = 6) ∨ (q = 23 ∧ j = 7) ∨ (q = 23 ∧ j = 8) ∨ (q = 1 ∧ j = 17) ∨ (q = 1 ∧ j = 18) ∨ q = 20 ∨ (q = 39 ∧ j = 6) ∨ (q = 39 ∧ j = 7) ∨ q = 41 ∨ (q = (t + 15) ∧ (11 * I t 11 ≤ (j : Int))) ∨ (q = t ∧ j = 11)) (V := fun q j => (q = 39 ∧ j = 3) ∨ (q = 39 ∧ j = 4)) FI110 (fun q j h => (h.elim (fun h => (Or.inl h)) (fun h => (Or.inr (Or.inl h))))) g123
      have t126 := (g123 23 1).resolve_left (fun h => h.elim (fun h => absurd h.2 (by decide)) (fun h => absurd h.2 (by decide)))
      have t127 := (g123 23 5).resolve_left (fun h => h.elim (fun h => absurd h.2 (by decide)) (fun h => absurd h.2 (by decide)))
      have t128 := (g123 23 6).resolve_left (fun h => h.elim (fun h => absurd h.2 (by decide)) (fun h => absurd h.2 (by decide)))
      have t129 := (g123 23 7).resolve_left (fun h => h.elim (fun h => absurd h.2 (by decide)) (fun h => absurd h.2 (by decide)))
      have t130 := (g123 1 17).resolve_left (fun h => h.elim (fun h => absurd h.2 (by decide)) (fun h => absurd h.2 (by decide)))
      have t131 := (g123 4 1).resolve_left (fun h => h.elim (fun h => absurd h.2 (by decide)) (fun h => absurd h.2 (by decide)))
      have t132 := (g123 (t + 11) 1).resolve_left (fun h => h.elim (fun h => absurd h.2 (by decide)) (fun h => absurd h.2 (by decide)))
      have t133 := (g123 t 11).resolve_left (fun h => h.elim (fun h => absurd h.2 (by decide)) (fun h => absurd h.2 (by decide)))
      have t134 := (g123 39 2).resolve_left (fun h => h.elim (fun h => absurd h.2 (by decide)) (fun h => absurd h.2 (by decide)))
      have t135 := (g123 41 0).resolve_left (fun h => h.elim (fun h => absurd h.2 (by decide)) (fun h => absurd h.2 (by decide)))
      obtain rfl : J111 = J125 := funext fun q => funext fun j => ((k123 q j).resolve_left id).symm
      have KLT_I124 := gc_LT_fr KLT_I110 ((g123 23 5).resolve_left (fun h => h.elim (fun h => absurd h.2 (by decide)) (fun h => absurd h.2 (by decide)))) ((g123 23 6).resolve_left (fun h => h.elim (fun h => absurd h.2 (by decide)) (fun h => absurd h.2 (by decide)))) ((g123 23 7).resolve_left (fun h => h.elim (fun h => absurd h.2 (by decide)) (fun h => absurd h.2 (by decide)))) (fun k => (g123 24 k).resolve_left (fun h => h.elim (fun h => absurd h.1 (by decide)) (fun h => absurd h.1 (by decide))))
      have KTK_I124 := gc_TK_fr KTK_I110 ((g123 23 1).resolve_left (fun h => h.elim (fun h => absurd h.2 (by decide)) (fun h => absurd h.2 (by decide)))) ((g123 23 5).resolve_left (fun h => h.elim (fun h => absurd h.2 (by decide)) (fun h => absurd h.2 (by decide)))) ((g123 23 6).resolve_left (fun h => h.elim (fun h => absurd h.2 (by decide)) (fun h => absurd h.2 (by decide)))) ((g123 23 7).resolve_left (fun h => h.elim (fun h => absurd h.2 (by decide)) (fun h => absurd h.2 (by decide))))
      refine gv_callV hD rfl (As := [.inr (.inr (some (t + 11)))]) (st := []) rfl B_39 S_39 rfl (gc_lV6 hws rfl) (Nat.le_of_ble_eq_true rfl) (gz_Ev_mono (d := 3) (by decide) E123) ?_
      show gv_X _ _ (77, [(1, .inl z103), (0, .inr (.inr (some 39)))], [.inl z123], sh, gc_h sh I124 J111 A)
      refine gv_if_ne (t := 82) hD rfl rfl ⟨by omega, by omega⟩ (fun c136 => ?_) (fun c136 => ?_)
      · show gv_X _ _ (82, [(1, .inl z103), (0, .inr (.inr (some 39)))], [], sh, gc_h sh I124 J111 A)
        have t137 := (show 0 ≤ I 12 (Int.toNat z103) ∧ I 12 (Int.toNat z103) ≤ 4 from gc_in hI R_12 rfl rfl)
        refine gv_run 1 true hD (pc' := 83) (lv' := [(1, .inl z103), (0, .inr (.inr (some 39)))]) (st' := [.inr (.inr (some 39))]) (h' := gc_h sh I124 J111 A) (C := (True ∧ True)) rfl ⟨trivial, trivial⟩ ?_
        refine gv_get hD rfl rfl S_39 ⟨by decide, B_39⟩ (gc_hA S_39 rfl A_39_10) ?_
        show gv_X _ _ (86, [(1, .inl z103), (0, .inr (.inr (some 39)))], [.inr (.inr (some 41))], sh, gc_h sh I124 J111 A)
        refine gv_run 1 true hD (pc' := 87) (lv' := [(1, .inl z103), (0, .inr (.inr (some 39)))]) (st' := [.inl 0, .inr (.inr (some 41))]) (h' := gc_h sh I124 J111 A) (C := (True ∧ True)) rfl ⟨trivial, trivial⟩ ?_
        obtain ⟨I139, E138, hI139, g138, q138⟩ := gj_fill (ws0 := ws0) (tb := tb) sh ro I124 J111 A hI124 41 25 0 S_41 B_41 (by decide) ⟨by omega, by omega⟩ (fun k => by rw [R_41]; exact ⟨by show (-2147483648) ≤ _; omega, by show _ ≤ 2147483647; omega⟩)
        refine gv_callS hD rfl (As := [.inr (.inr (some 41)), .inl 0]) (st := []) rfl (gc_lS6 hws rfl) (Nat.le_of_ble_eq_true rfl) (gz_Ev_mono (d := 1) (by decide) E138) ?_
        have FI139 := gc_frc (W := fun q j => (q = 39 ∧ j = 3) ∨ (q = 39 ∧ j = 4) ∨ (q = 23 ∧ j = 5) ∨ (q = 23 ∧ j = 6) ∨ (q = 23 ∧ j = 7) ∨ (q = 23 ∧ j = 8) ∨ (q = 1 ∧ j = 17) ∨ (q = 1 ∧ j = 18) ∨ q = 20 ∨ (q = 39 ∧ j = 6) ∨ (q = 39 ∧ j = 7) ∨ q = 41 ∨ (q = (t + 15) ∧ (11 * I t 11 ≤ (j : Int))) ∨ (q = t ∧ j = 11)) (V := fun q j => q = 41) FI124 (fun q j h => (Or.inr (Or.inr (Or.inr (Or.inr (Or.inr (Or.inr (Or.inr (Or.inr (Or.inr (Or.inr (Or.inr (Or.inl h))))))))))))) g138
        have KLT_I139 := gc_LT_fr KLT_I124 ((g138 23 5).resolve_left (fun h => absurd h (by decide))) ((g138 23 6).resolve_left (fun h => absurd h (by decide))) ((g138 23 7).resolve_left (fun h => absurd h (by decide))) (fun k => (g138 24 k).resolve_left (fun h => absurd h (by decide)))
        have KTK_I139 := gc_TK_fr KTK_I124 ((g138 23 1).resolve_left (fun h => absurd h (by decide))) ((g138 23 5).resolve_left (fun h => absurd h (by decide))) ((g138 23 6).resolve_left (fun h => absurd h (by decide))) ((g138 23 7).resolve_left (fun h => absurd h (by decide)))
        have KRW_I139 : gc_row 41 11 gc_fW I139 := gc_row_fill (z := 0) (fun j hj => q138 j (by omega)) (fun j => by unfold gc_fW; omega)
        have t141 := (g138 23 1).resolve_left (fun h => absurd h (by decide))
        have t142 := (g138 23 5).resolve_left (fun h => absurd h (by decide))
        have t143 := (g138 23 6).resolve_left (fun h => absurd h (by decide))
        have t144 := (g138 23 7).resolve_left (fun h => absurd h (by decide))
        have t145 := (g138 1 17).resolve_left (fun h => absurd h (by decide))
        have t146 := (g138 4 1).resolve_left (fun h => absurd h (by decide))
        have t147 := (g138 (t + 11) 1).resolve_left (fun h => absurd h N_t_11__41)
        have t148 := (g138 t 11).resolve_left (fun h => absurd h N_t__41)
        have t149 := (g138 39 2).resolve_left (fun h => absurd h (by decide))
        have t150 := gc_TK_mo KTK_I139
        have f151 := (show 0 ≤ I139 23 1 ∧ I139 23 1 ≤ 1000 from gc_in hI139 R_23 rfl rfl)
        have f152 := (show 0 ≤ I139 23 5 ∧ I139 23 5 ≤ 1000 from gc_in hI139 R_23 rfl rfl)
        have f153 := (show 0 ≤ I139 23 6 ∧ I139 23 6 ≤ 1001 from gc_in hI139 R_23 rfl rfl)
        have f154 := (show 0 ≤ I139 23 7 ∧ I139 23 7 ≤ 125 from gc_in hI139 R_23 rfl rfl)
        have f155 := (show 0 ≤ I139 1 17 ∧ I139 1 17 ≤ 12000 from gc_in hI139 R_1 rfl rfl)
        have f156 := (show 0 ≤ I139 4 1 ∧ I139 4 1 ≤ 96 from gc_in hI139 R_4 rfl rfl)
        have f157 := (show 0 ≤ I139 (t + 11) 1 ∧ I139 (t + 11) 1 ≤ 24 from gc_in hI139 R_t_11 rfl rfl)
        have f158 := (show 0 ≤ I139 t 11 ∧ I139 t 11 ≤ 64 from gc_in hI139 R_t rfl rfl)
        have f159 := (show (-1) ≤ I139 39 2 ∧ I139 39 2 ≤ 999999 from gc_in hI139 R_39 rfl rfl)
        show gv_X _ _ (90, [(1, .inl z103), (0, .inr (.inr (some 39)))], [], sh, gc_h sh I139 J111 A)
        refine gv_run 1 true hD (pc' := 91) (lv' := [(1, .inl z103), (0, .inr (.inr (some 39)))]) (st' := [.inr (.inr (some 39))]) (h' := gc_h sh I139 J111 A) (C := (True ∧ True)) rfl ⟨trivial, trivial⟩ ?_
        refine gv_get hD rfl rfl S_39 ⟨by decide, B_39⟩ (gc_hA S_39 rfl A_39_10) ?_
        show gv_X _ _ (94, [(1, .inl z103), (0, .inr (.inr (some 39)))], [.inr (.inr (some 41))], sh, gc_h sh I139 J111 A)
        refine gv_run 2 true hD (pc' := 96) (lv' := [(1, .inl z103), (0, .inr (.inr (some 39)))]) (st' := [.inl z103, .inl 0, .inr (.inr (some 41))]) (h' := gc_h sh I139 J111 A) (C := ((True ∧ True) ∧ True)) rfl ⟨⟨trivial, trivial⟩, trivial⟩ ?_
        refine gv_iast hD rfl S_41 ⟨by decide, B_41⟩ ⟨by omega, by omega⟩ ?_
        refine gc_st (k := 0) hI139 S_41 rfl R_41 (lo := (-2147483648)) (hi := 2147483647) rfl rfl (by omega) (by omega) (fun I160 hI160 q161 p161 => ?_)
        have FI160 := gc_frs (W := fun q j => (q = 39 ∧ j = 3) ∨ (q = 39 ∧ j = 4) ∨ (q = 23 ∧ j = 5) ∨ (q = 23 ∧ j = 6) ∨ (q = 23 ∧ j = 7) ∨ (q = 23 ∧ j = 8) ∨ (q = 1 ∧ j = 17) ∨ (q = 1 ∧ j = 18) ∨ q = 20 ∨ (q = 39 ∧ j = 6) ∨ (q = 39 ∧ j = 7) ∨ q = 41 ∨ (q = (t + 15) ∧ (11 * I t 11 ≤ (j : Int))) ∨ (q = t ∧ j = 11)) FI139 (Or.inr (Or.inr (Or.inr (Or.inr (Or.inr (Or.inr (Or.inr (Or.inr (Or.inr (Or.inr (Or.inr (Or.inl rfl)))))))))))) p161
        have t162 := p161 23 1 (fun h => absurd h.2 (by decide))
        have t163 := p161 23 5 (fun h => absurd h.2 (by decide))
        have t164 := p161 23 6 (fun h => absurd h.2 (by decide))
        have t165 := p161 23 7 (fun h => absurd h.2 (by decide))
        have t166 := p161 1 17 (fun h => absurd h.2 (by decide))
        have t167 := p161 4 1 (fun h => absurd h.2 (by decide))
        have t168 := p161 (t + 11) 1 (fun h => absurd h.2 (by decide))
        have t169 := p161 t 11 (fun h => absurd h.2 (by decide))
        have t170 := p161 39 2 (fun h => absurd h.2 (by decide))
        have KLT_I160 := gc_LT_fr KLT_I139 (p161 23 5 (fun h => absurd h.2 (by decide))) (p161 23 6 (fun h => absurd h.2 (by decide))) (p161 23 7 (fun h => absurd h.2 (by decide))) (fun k => p161 24 k (fun h => absurd h.1 (by decide)))
        have KTK_I160 := gc_TK_fr KTK_I139 (p161 23 1 (fun h => absurd h.2 (by decide))) (p161 23 5 (fun h => absurd h.2 (by decide))) (p161 23 6 (fun h => absurd h.2 (by decide))) (p161 23 7 (fun h => absurd h.2 (by decide)))
        have KRW_I160 := gc_row_st KRW_I139 p161 q161 (by unfold gc_fW; omega)
        show gv_X _ _ (97, [(1, .inl z103), (0, .inr (.inr (some 39)))], [], sh, gc_h sh I160 J111 A)
        refine gv_run 1 true hD (pc' := 98) (lv' := [(1, .inl z103), (0, .inr (.inr (some 39)))]) (st' := [.inr (.inr (some 39))]) (h' := gc_h sh I160 J111 A) (C := (True ∧ True)) rfl ⟨trivial, trivial⟩ ?_
        refine gv_get hD rfl rfl S_39 ⟨by decide, B_39⟩ (gc_hA S_39 rfl A_39_10) ?_
        show gv_X _ _ (101, [(1, .inl z103), (0, .inr (.inr (some 39)))], [.inr (.inr (some 41))], sh, gc_h sh I160 J111 A)
        refine gv_run 2 true hD (pc' := 103) (lv' := [(1, .inl z103), (0, .inr (.inr (some 39)))]) (st' := [.inr (.inr (some 39)), .inl 1, .inr (.inr (some 41))]) (h' := gc_h sh I160 J111 A) (C := ((True ∧ True) ∧ True)) rfl ⟨⟨trivial, trivial⟩, trivial⟩ ?_
        refine gv_get hD rfl rfl S_39 ⟨by decide, B_39⟩ (gc_h5 (t := t) S_39 rfl (by omega)) ?_
        show gv_X _ _ (106, [(1, .inl z103), (0, .inr (.inr (some 39)))], [.inr (.inr (some t)), .inl 1, .inr (.inr (some 41))], sh, gc_h sh I160 J111 A)
        refine gv_get hD rfl rfl S_t ⟨by decide, B_t⟩ (gc_hA S_t rfl A_t_8) ?_
        show gv_X _ _ (109, [(1, .inl z103), (0, .inr (.inr (some 39)))], [.inr (.inr (some (t + 11))), .inl 1, .inr (.inr (some 41))], sh, gc_h sh I160 J111 A)
        refine gv_run 1 true hD (pc' := 110) (lv' := [(1, .inl z103), (0, .inr (.inr (some 39)))]) (st' := [.inr (.inr (some 39)), .inr (.inr (some (t + 11))), .inl 1, .inr (.inr (some 41))]) (h' := gc_h sh I160 J111 A) (C := (True ∧ True)) rfl ⟨trivial, trivial⟩ ?_
        refine gv_get hD rfl rfl S_39 ⟨by decide, B_39⟩ (gc_hA S_39 rfl A_39_1) ?_
        show gv_X _ _ (113, [(1, .inl z103), (0, .inr (.inr (some 39)))], [.inr (.inr (some 23)), .inr (.inr (some (t + 11))), .inl 1, .inr (.inr (some 41))], sh, gc_h sh I160 J111 A)
        refine gv_get hD rfl rfl S_23 ⟨by decide, B_23⟩ (gc_hJ S_23 rfl) ?_
        show gv_X _ _ (116, [(1, .inl z103), (0, .inr (.inr (some 39)))], [.inr (.inl (J111 23 9)), .inr (.inr (some (t + 11))), .inl 1, .inr (.inr (some 41))], sh, gc_h sh I160 J111 A)
        have t171 := (show gc_fd (J111 ((t + 11) + 1)) (J111 23 9) (Int.toNat (I160 (t + 11) 1)) = gc_fd (J111 ((t + 11) + 1)) (J111 23 9) (Int.toNat (I124 (t + 11) 1)) from by rw [show I160 (t + 11) 1 = I124 (t + 11) 1 from by omega])
        obtain ⟨r172, h172, E172, P172⟩ := d_X4_find (ws0 := ws0) (tb := tb) hws htb sh ro I160 J111 A hI160 (t + 11) 24 8 (J111 23 9) h_t_11     
        obtain ⟨rfl, ⟨z172, rfl, q172⟩⟩ := P172
        refine gv_callV hD rfl (As := [.inr (.inl (J111 23 9))]) (st := [.inl 1, .inr (.inr (some 41))]) rfl B_t_11 S_t_11 rfl (gc_lV6 hws rfl) (Nat.le_of_ble_eq_true rfl) (gz_Ev_mono (d := 1) (by decide) E172) ?_
        show gv_X _ _ (119, [(1, .inl z103), (0, .inr (.inr (some 39)))], [.inl z172, .inl 1, .inr (.inr (some 41))], sh, gc_h sh I160 J111 A)
        refine gv_iast hD rfl S_41 ⟨by decide, B_41⟩ ⟨by omega, by omega⟩ ?_
        refine gc_st (k := 1) hI160 S_41 rfl R_41 (lo := (-2147483648)) (hi := 2147483647) rfl rfl (by omega) (by omega) (fun I173 hI173 q174 p174 => ?_)
        have FI173 := gc_frs (W := fun q j => (q = 39 ∧ j = 3) ∨ (q = 39 ∧ j = 4) ∨ (q = 23 ∧ j = 5) ∨ (q = 23 ∧ j = 6) ∨ (q = 23 ∧ j = 7) ∨ (q = 23 ∧ j = 8) ∨ (q = 1 ∧ j = 17) ∨ (q = 1 ∧ j = 18) ∨ q = 20 ∨ (q = 39 ∧ j = 6) ∨ (q = 39 ∧ j = 7) ∨ q = 41 ∨ (q = (t + 15) ∧ (11 * I t 11 ≤ (j : Int))) ∨ (q = t ∧ j = 11)) FI160 (Or.inr (Or.inr (Or.inr (Or.inr (Or.inr (Or.inr (Or.inr (Or.inr (Or.inr (Or.inr (Or.inr (Or.inl rfl)))))))))))) p174
        have t175 := p174 23 1 (fun h => absurd h.1 (by decide))
        have t176 := p174 23 5 (fun h => absurd h.2 (by decide))
        have t177 := p174 23 6 (fun h => absurd h.2 (by decide))
        have t178 := p174 23 7 (fun h => absurd h.2 (by decide))
        have t179 := p174 1 17 (fun h => absurd h.2 (by decide))
        have t180 := p174 4 1 (fun h => absurd h.1 (by decide))
        have t181 := p174 (t + 11) 1 (fun h => absurd h.1 N_t_11__41)
        have t182 := p174 t 11 (fun h => absurd h.2 (by decide))
        have t183 := p174 39 2 (fun h => absurd h.2 (by decide))
        have t184 := p174 41 0 (fun h => absurd h.2 (by omega))
        have KLT_I173 := gc_LT_fr KLT_I160 (p174 23 5 (fun h => absurd h.2 (by decide))) (p174 23 6 (fun h => absurd h.2 (by decide))) (p174 23 7 (fun h => absurd h.2 (by decide))) (fun k => p174 24 k (fun h => absurd h.1 (by decide)))
        have KTK_I173 := gc_TK_fr KTK_I160 (p174 23 1 (fun h => absurd h.1 (by decide))) (p174 23 5 (fun h => absurd h.2 (by decide))) (p174 23 6 (fun h => absurd h.2 (by decide))) (p174 23 7 (fun h => absurd h.2 (by decide)))
        have KRW_I173 := gc_row_st KRW_I160 p174 q174 (by unfold gc_fW; omega)
        show gv_X _ _ (120, [(1, .inl z103), (0, .inr (.inr (some 39)))], [], sh, gc_h sh I173 J111 A)
        refine gv_run 1 true hD (pc' := 121) (lv' := [(1, .inl z103), (0, .inr (.inr (some 39)))]) (st' := [.inr (.inr (some 39))]) (h' := gc_h sh I173 J111 A) (C := (True ∧ True)) rfl ⟨trivial, trivial⟩ ?_
        refine gv_get hD rfl rfl S_39 ⟨by decide, B_39⟩ (gc_hA S_39 rfl A_39_1) ?_
        show gv_X _ _ (124, [(1, .inl z103), (0, .inr (.inr (some 39)))], [.inr (.inr (some 23))], sh, gc_h sh I173 J111 A)
        have t186 := gc_TK_nx KTK_I173 (by omega)
        have t187 := gc_TK_st KTK_I173 (by omega)
        obtain ⟨r185, h185, E185, P185⟩ := d_X9_advance (ws0 := ws0) (tb := tb) hws htb sh ro I173 J111 A hI173 23  (gc_b23 hb)    (by omega) 
        obtain ⟨I188, J189, rfl, hI188, g185, k185, ⟨rfl, V185_0, V185_1, V185_2, V185_3, V185_4, q185⟩⟩ := P185
        have FI188 := gc_frc (W := fun q j => (q = 39 ∧ j = 3) ∨ (q = 39 ∧ j = 4) ∨ (q = 23 ∧ j = 5) ∨ (q = 23 ∧ j = 6) ∨ (q = 23 ∧ j = 7) ∨ (q = 23 ∧ j = 8) ∨ (q = 1 ∧ j = 17) ∨ (q = 1 ∧ j = 18) ∨ q = 20 ∨ (q = 39 ∧ j = 6) ∨ (q = 39 ∧ j = 7) ∨ q = 41 ∨ (q = (t + 15) ∧ (11 * I t 11 ≤ (j : Int))) ∨ (q = t ∧ j = 11)) (V := fun q j => (q = 23 ∧ j = 5) ∨ (q = 23 ∧ j = 6) ∨ (q = 23 ∧ j = 7) ∨ (q = 23 ∧ j = 8)) FI173 (fun q j h => (h.elim (fun h => (Or.inr (Or.inr (Or.inl h)))) (fun h => (h.elim (fun h => (Or.inr (Or.inr (Or.inr (Or.inl h))))) (fun h => (h.elim (fun h => (Or.inr (Or.inr (Or.inr (Or.inr (Or.inl h)))))) (fun h => (Or.inr (Or.inr (Or.inr (Or.inr (Or.inr (Or.inl h))))))))))))) g185
        have FJ189 := gc_frc (W := fun q j => (q = 23 ∧ j = 9)) (V := fun q j => (q = 23 ∧ j = 9)) FJ111 (fun q j h => h) k185
        have t190 := (g185 23 1).resolve_left (fun h => h.elim (fun h => absurd h.2 (by decide)) (fun h => h.elim (fun h => absurd h.2 (by decide)) (fun h => h.elim (fun h => absurd h.2 (by decide)) (fun h => absurd h.2 (by decide)))))
        have t191 := (g185 1 17).resolve_left (fun h => h.elim (fun h => absurd h.2 (by decide)) (fun h => h.elim (fun h => absurd h.2 (by decide)) (fun h => h.elim (fun h => absurd h.2 (by decide)) (fun h => absurd h.2 (by decide)))))
        have t192 := (g185 4 1).resolve_left (fun h => h.elim (fun h => absurd h.2 (by decide)) (fun h => h.elim (fun h => absurd h.2 (by decide)) (fun h => h.elim (fun h => absurd h.2 (by decide)) (fun h => absurd h.2 (by decide)))))
        have t193 := (g185 (t + 11) 1).resolve_left (fun h => h.elim (fun h => absurd h.2 (by decide)) (fun h => h.elim (fun h => absurd h.2 (by decide)) (fun h => h.elim (fun h => absurd h.2 (by decide)) (fun h => absurd h.2 (by decide)))))
        have t194 := (g185 t 11).resolve_left (fun h => h.elim (fun h => absurd h.2 (by decide)) (fun h => h.elim (fun h => absurd h.2 (by decide)) (fun h => h.elim (fun h => absurd h.2 (by decide)) (fun h => absurd h.2 (by decide)))))
        have t195 := (g185 39 2).resolve_left (fun h => h.elim (fun h => absurd h.2 (by decide)) (fun h => h.elim (fun h => absurd h.2 (by decide)) (fun h => h.elim (fun h => absurd h.2 (by decide)) (fun h => absurd h.2 (by decide)))))
        have t196 := (g185 41 0).resolve_left (fun h => h.elim (fun h => absurd h.2 (by decide)) (fun h => h.elim (fun h => absurd h.2 (by decide)) (fun h => h.elim (fun h => absurd h.2 (by decide)) (fun h => absurd h.2 (by decide)))))
        have f197 := (show 0 ≤ I188 23 5 ∧ I188 23 5 ≤ 1000 from gc_in hI188 R_23 rfl rfl)
        have f198 := (show 0 ≤ I188 23 6 ∧ I188 23 6 ≤ 1001 from gc_in hI188 R_23 rfl rfl)
        have f199 := (show 0 ≤ I188 23 7 ∧ I188 23 7 ≤ 125 from gc_in hI188 R_23 rfl rfl)
        have KLT_I188 : gc_LT I188 := q185.2.2
        have KRW_I188 := gc_row_fr KRW_I173 (fun k => (g185 41 k).resolve_left (fun h => h.elim (fun h => absurd h.1 (by decide)) (fun h => h.elim (fun h => absurd h.1 (by decide)) (fun h => h.elim (fun h => absurd h.1 (by decide)) (fun h => absurd h.1 (by decide))))))
        have KTK_I188 : gc_TK I188 := And.intro V185_0 (And.intro V185_1 (And.intro V185_2 (And.intro V185_3 V185_4)))
        have t200 := gc_TK_mo KTK_I188
        clear V185_0 V185_1 V185_2 V185_3 V185_4
        refine gv_callV hD rfl (As := []) (st := []) rfl B_23 S_23 rfl (gc_lV6 hws rfl) (Nat.le_of_ble_eq_true rfl) (gz_Ev_mono (d := 2) (by decide) E185) ?_
        show gv_X _ _ (127, [(1, .inl z103), (0, .inr (.inr (some 39)))], [], sh, gc_h sh I188 J189 A)
        refine gv_run 2 true hD (pc' := 129) (lv' := [(1, .inl z103), (0, .inr (.inr (some 39)))]) (st' := [.inl 3, .inr (.inr (some 39))]) (h' := gc_h sh I188 J189 A) (C := ((True ∧ True) ∧ True)) rfl ⟨⟨trivial, trivial⟩, trivial⟩ ?_
        obtain ⟨r201, h201, E201, P201⟩ := d_X6_need (ws0 := ws0) (tb := tb) hws htb sh ro I188 J189 A hI188  3 hb   ⟨by omega, by omega⟩  
        obtain ⟨I202, J203, rfl, hI202, g201, k201, ⟨z201, rfl, q201⟩⟩ := P201
        have FI202 := gc_frc (W := fun q j => (q = 39 ∧ j = 3) ∨ (q = 39 ∧ j = 4) ∨ (q = 23 ∧ j = 5) ∨ (q = 23 ∧ j = 6) ∨ (q = 23 ∧ j = 7) ∨ (q = 23 ∧ j = 8) ∨ (q = 1 ∧ j = 17) ∨ (q = 1 ∧ j = 18) ∨ q = 20 ∨ (q = 39 ∧ j = 6) ∨ (q = 39 ∧ j = 7) ∨ q = 41 ∨ (q = (t + 15) ∧ (11 * I t 11 ≤ (j : Int))) ∨ (q = t ∧ j = 11)) (V := fun q j => (q = 39 ∧ j = 3) ∨ (q = 39 ∧ j = 4)) FI188 (fun q j h => (h.elim (fun h => (Or.inl h)) (fun h => (Or.inr (Or.inl h))))) g201
        have t204 := (g201 23 1).resolve_left (fun h => h.elim (fun h => absurd h.2 (by decide)) (fun h => absurd h.2 (by decide)))
        have t205 := (g201 23 5).resolve_left (fun h => h.elim (fun h => absurd h.2 (by decide)) (fun h => absurd h.2 (by decide)))
        have t206 := (g201 23 6).resolve_left (fun h => h.elim (fun h => absurd h.2 (by decide)) (fun h => absurd h.2 (by decide)))
        have t207 := (g201 23 7).resolve_left (fun h => h.elim (fun h => absurd h.2 (by decide)) (fun h => absurd h.2 (by decide)))
        have t208 := (g201 1 17).resolve_left (fun h => h.elim (fun h => absurd h.2 (by decide)) (fun h => absurd h.2 (by decide)))
        have t209 := (g201 4 1).resolve_left (fun h => h.elim (fun h => absurd h.2 (by decide)) (fun h => absurd h.2 (by decide)))
        have t210 := (g201 (t + 11) 1).resolve_left (fun h => h.elim (fun h => absurd h.2 (by decide)) (fun h => absurd h.2 (by decide)))
        have t211 := (g201 t 11).resolve_left (fun h => h.elim (fun h => absurd h.2 (by decide)) (fun h => absurd h.2 (by decide)))
        have t212 := (g201 39 2).resolve_left (fun h => h.elim (fun h => absurd h.2 (by decide)) (fun h => absurd h.2 (by decide)))
        have t213 := (g201 41 0).resolve_left (fun h => h.elim (fun h => absurd h.2 (by decide)) (fun h => absurd h.2 (by decide)))
        obtain rfl : J189 = J203 := funext fun q => funext fun j => ((k201 q j).resolve_left id).symm
        have KLT_I202 := gc_LT_fr KLT_I188 ((g201 23 5).resolve_left (fun h => h.elim (fun h => absurd h.2 (by decide)) (fun h => absurd h.2 (by decide)))) ((g201 23 6).resolve_left (fun h => h.elim (fun h => absurd h.2 (by decide)) (fun h => absurd h.2 (by decide)))) ((g201 23 7).resolve_left (fun h => h.elim (fun h => absurd h.2 (by decide)) (fun h => absurd h.2 (by decide)))) (fun k => (g201 24 k).resolve_left (fun h => h.elim (fun h => absurd h.1 (by decide)) (fun h => absurd h.1 (by decide))))
        have KTK_I202 := gc_TK_fr KTK_I188 ((g201 23 1).resolve_left (fun h => h.elim (fun h => absurd h.2 (by decide)) (fun h => absurd h.2 (by decide)))) ((g201 23 5).resolve_left (fun h => h.elim (fun h => absurd h.2 (by decide)) (fun h => absurd h.2 (by decide)))) ((g201 23 6).resolve_left (fun h => h.elim (fun h => absurd h.2 (by decide)) (fun h => absurd h.2 (by decide)))) ((g201 23 7).resolve_left (fun h => h.elim (fun h => absurd h.2 (by decide)) (fun h => absurd h.2 (by decide))))
        have KRW_I202 := gc_row_fr KRW_I188 (fun k => (g201 41 k).resolve_left (fun h => h.elim (fun h => absurd h.1 (by decide)) (fun h => absurd h.1 (by decide))))
        refine gv_callV hD rfl (As := [.inl 3]) (st := []) rfl B_39 S_39 rfl (gc_lV6 hws rfl) (Nat.le_of_ble_eq_true rfl) (gz_Ev_mono (d := 2) (by decide) E201) ?_
        show gv_X _ _ (132, [(1, .inl z103), (0, .inr (.inr (some 39)))], [.inl z201], sh, gc_h sh I202 J189 A)
        refine gv_if_eq (t := 156) hD rfl rfl ⟨by omega, by omega⟩ (fun c214 => ?_) (fun c214 => ?_)
        · show gv_X _ _ (156, [(1, .inl z103), (0, .inr (.inr (some 39)))], [], sh, gc_h sh I202 J189 A)
          refine gv_pick [] rfl ?_
          exact L156 I202 J189 hI202 FI202 FJ189 KLT_I202 KTK_I202 (by omega)
        · show gv_X _ _ (135, [(1, .inl z103), (0, .inr (.inr (some 39)))], [], sh, gc_h sh I202 J189 A)
          refine gv_run 1 true hD (pc' := 136) (lv' := [(1, .inl z103), (0, .inr (.inr (some 39)))]) (st' := [.inr (.inr (some 39))]) (h' := gc_h sh I202 J189 A) (C := (True ∧ True)) rfl ⟨trivial, trivial⟩ ?_
          obtain ⟨r215, h215, E215, P215⟩ := d_X6_readStems_a (ws0 := ws0) (tb := tb) hws htb sh ro I202 J189 A hI202  B  hb    (by omega) KLT_I202 KTK_I202 KRW_I202
          obtain ⟨I216, J217, rfl, hI216, g215, k215, KLT_I216, KTK_I216, KRW_I216, ⟨z215, rfl, q215⟩⟩ := P215
          have FI216 := gc_frc (W := fun q j => (q = 39 ∧ j = 3) ∨ (q = 39 ∧ j = 4) ∨ (q = 23 ∧ j = 5) ∨ (q = 23 ∧ j = 6) ∨ (q = 23 ∧ j = 7) ∨ (q = 23 ∧ j = 8) ∨ (q = 1 ∧ j = 17) ∨ (q = 1 ∧ j = 18) ∨ q = 20 ∨ (q = 39 ∧ j = 6) ∨ (q = 39 ∧ j = 7) ∨ q = 41 ∨ (q = (t + 15) ∧ (11 * I t 11 ≤ (j : Int))) ∨ (q = t ∧ j = 11)) (V := fun q j => (q = 39 ∧ j = 3) ∨ (q = 39 ∧ j = 4) ∨ (q = 23 ∧ j = 5) ∨ (q = 23 ∧ j = 6) ∨ (q = 23 ∧ j = 7) ∨ (q = 23 ∧ j = 8) ∨ (q = 1 ∧ j = 17) ∨ (q = 1 ∧ j = 18) ∨ q = 20 ∨ (q = 41 ∧ (4 ≤ j))) FI202 (fun q j h => (h.elim (fun h => (Or.inl h)) (fun h => (h.elim (fun h => (Or.inr (Or.inl h))) (fun h => (h.elim (fun h => (Or.inr (Or.inr (Or.inl h)))) (fun h => (h.elim (fun h => (Or.inr (Or.inr (Or.inr (Or.inl h))))) (fun h => (h.elim (fun h => (Or.inr (Or.inr (Or.inr (Or.inr (Or.inl h)))))) (fun h => (h.elim (fun h => (Or.inr (Or.inr (Or.inr (Or.inr (Or.inr (Or.inl h))))))) (fun h => (h.elim (fun h => (Or.inr (Or.inr (Or.inr (Or.inr (Or.inr (Or.inr (Or.inl h)))))))) (fun h => (h.elim (fun h => (Or.inr (Or.inr (Or.inr (Or.inr (Or.inr (Or.inr (Or.inr (Or.inl h))))))))) (fun h => (h.elim (fun h => (Or.inr (Or.inr (Or.inr (Or.inr (Or.inr (Or.inr (Or.inr (Or.inr (Or.inl h)))))))))) (fun h => (Or.inr (Or.inr (Or.inr (Or.inr (Or.inr (Or.inr (Or.inr (Or.inr (Or.inr (Or.inr (Or.inr (Or.inl h.1))))))))))))))))))))))))))))))) g215
          have FJ217 := gc_frc (W := fun q j => (q = 23 ∧ j = 9)) (V := fun q j => (q = 23 ∧ j = 9)) FJ189 (fun q j h => h) k215
          have t218 := (g215 23 1).resolve_left (fun h => h.elim (fun h => absurd h.2 (by decide)) (fun h => h.elim (fun h => absurd h.2 (by decide)) (fun h => h.elim (fun h => absurd h.2 (by decide)) (fun h => h.elim (fun h => absurd h.2 (by decide)) (fun h => h.elim (fun h => absurd h.2 (by decide)) (fun h => h.elim (fun h => absurd h.2 (by decide)) (fun h => h.elim (fun h => absurd h.2 (by decide)) (fun h => h.elim (fun h => absurd h.2 (by decide)) (fun h => h.elim (fun h => absurd h (by decide)) (fun h => absurd h.1 (by decide)))))))))))
          have t219 := (g215 4 1).resolve_left (fun h => h.elim (fun h => absurd h.2 (by decide)) (fun h => h.elim (fun h => absurd h.2 (by decide)) (fun h => h.elim (fun h => absurd h.2 (by decide)) (fun h => h.elim (fun h => absurd h.2 (by decide)) (fun h => h.elim (fun h => absurd h.2 (by decide)) (fun h => h.elim (fun h => absurd h.2 (by decide)) (fun h => h.elim (fun h => absurd h.2 (by decide)) (fun h => h.elim (fun h => absurd h.2 (by decide)) (fun h => h.elim (fun h => absurd h (by decide)) (fun h => absurd h.1 (by decide)))))))))))
          have t220 := (g215 (t + 11) 1).resolve_left (fun h => h.elim (fun h => absurd h.2 (by decide)) (fun h => h.elim (fun h => absurd h.2 (by decide)) (fun h => h.elim (fun h => absurd h.2 (by decide)) (fun h => h.elim (fun h => absurd h.2 (by decide)) (fun h => h.elim (fun h => absurd h.2 (by decide)) (fun h => h.elim (fun h => absurd h.2 (by decide)) (fun h => h.elim (fun h => absurd h.2 (by decide)) (fun h => h.elim (fun h => absurd h.2 (by decide)) (fun h => h.elim (fun h => absurd h N_t_11__20) (fun h => absurd h.1 N_t_11__41))))))))))
          have t221 := (g215 t 11).resolve_left (fun h => h.elim (fun h => absurd h.2 (by decide)) (fun h => h.elim (fun h => absurd h.2 (by decide)) (fun h => h.elim (fun h => absurd h.2 (by decide)) (fun h => h.elim (fun h => absurd h.2 (by decide)) (fun h => h.elim (fun h => absurd h.2 (by decide)) (fun h => h.elim (fun h => absurd h.2 (by decide)) (fun h => h.elim (fun h => absurd h.2 (by decide)) (fun h => h.elim (fun h => absurd h.2 (by decide)) (fun h => h.elim (fun h => absurd h N_t__20) (fun h => absurd h.1 N_t__41))))))))))
          have t222 := (g215 39 2).resolve_left (fun h => h.elim (fun h => absurd h.2 (by decide)) (fun h => h.elim (fun h => absurd h.2 (by decide)) (fun h => h.elim (fun h => absurd h.2 (by decide)) (fun h => h.elim (fun h => absurd h.2 (by decide)) (fun h => h.elim (fun h => absurd h.2 (by decide)) (fun h => h.elim (fun h => absurd h.2 (by decide)) (fun h => h.elim (fun h => absurd h.2 (by decide)) (fun h => h.elim (fun h => absurd h.2 (by decide)) (fun h => h.elim (fun h => absurd h (by decide)) (fun h => absurd h.1 (by decide)))))))))))
          have t223 := (g215 41 0).resolve_left (by omega)
          have f224 := (show 0 ≤ I216 23 5 ∧ I216 23 5 ≤ 1000 from gc_in hI216 R_23 rfl rfl)
          have f225 := (show 0 ≤ I216 23 6 ∧ I216 23 6 ≤ 1001 from gc_in hI216 R_23 rfl rfl)
          have f226 := (show 0 ≤ I216 23 7 ∧ I216 23 7 ≤ 125 from gc_in hI216 R_23 rfl rfl)
          have f227 := (show 0 ≤ I216 1 17 ∧ I216 1 17 ≤ 12000 from gc_in hI216 R_1 rfl rfl)
          have t228 := gc_TK_mo KTK_I216
          refine gv_callV hD rfl (As := []) (st := []) rfl B_39 S_39 rfl (gc_lV6 hws rfl) (Nat.le_of_ble_eq_true rfl) (gz_Ev_mono (d := 3) (by decide) E215) ?_
          show gv_X _ _ (139, [(1, .inl z103), (0, .inr (.inr (some 39)))], [.inl z215], sh, gc_h sh I216 J217 A)
          refine gv_if_eq (t := 156) hD rfl rfl ⟨by omega, by omega⟩ (fun c229 => ?_) (fun c229 => ?_)
          · show gv_X _ _ (156, [(1, .inl z103), (0, .inr (.inr (some 39)))], [], sh, gc_h sh I216 J217 A)
            refine gv_pick [] rfl ?_
            exact L156 I216 J217 hI216 FI216 FJ217 KLT_I216 KTK_I216 (by omega)
          · show gv_X _ _ (142, [(1, .inl z103), (0, .inr (.inr (some 39)))], [], sh, gc_h sh I216 J217 A)
            refine gv_run 1 true hD (pc' := 143) (lv' := [(1, .inl z103), (0, .inr (.inr (some 39)))]) (st' := [.inr (.inr (some 39))]) (h' := gc_h sh I216 J217 A) (C := (True ∧ True)) rfl ⟨trivial, trivial⟩ ?_
            obtain ⟨r230, h230, E230, P230⟩ := d_X6_readHas (ws0 := ws0) (tb := tb) hws htb sh ro I216 J217 A hI216  t  hb  h_t G_t   (by omega) KLT_I216 KTK_I216
            obtain ⟨I231, J232, rfl, hI231, g230, k230, KLT_I231, KTK_I231, ⟨z230, rfl, q230⟩⟩ := P230
            have FI231 := gc_frc (W := fun q j => (q = 39 ∧ j = 3) ∨ (q = 39 ∧ j = 4) ∨ (q = 23 ∧ j = 5) ∨ (q = 23 ∧ j = 6) ∨ (q = 23 ∧ j = 7) ∨ (q = 23 ∧ j = 8) ∨ (q = 1 ∧ j = 17) ∨ (q = 1 ∧ j = 18) ∨ q = 20 ∨ (q = 39 ∧ j = 6) ∨ (q = 39 ∧ j = 7) ∨ q = 41 ∨ (q = (t + 15) ∧ (11 * I t 11 ≤ (j : Int))) ∨ (q = t ∧ j = 11)) (V := fun q j => (q = 39 ∧ j = 3) ∨ (q = 39 ∧ j = 4) ∨ (q = 23 ∧ j = 5) ∨ (q = 23 ∧ j = 6) ∨ (q = 23 ∧ j = 7) ∨ (q = 23 ∧ j = 8) ∨ (q = 39 ∧ j = 6)) FI216 (fun q j h => (h.elim (fun h => (Or.inl h)) (fun h => (h.elim (fun h => (Or.inr (Or.inl h))) (fun h => (h.elim (fun h => (Or.inr (Or.inr (Or.inl h)))) (fun h => (h.elim (fun h => (Or.inr (Or.inr (Or.inr (Or.inl h))))) (fun h => (h.elim (fun h => (Or.inr (Or.inr (Or.inr (Or.inr (Or.inl h)))))) (fun h => (h.elim (fun h => (Or.inr (Or.inr (Or.inr (Or.inr (Or.inr (Or.inl h))))))) (fun h => (Or.inr (Or.inr (Or.inr (Or.inr (Or.inr (Or.inr (Or.inr (Or.inr (Or.inr (Or.inl h))))))))))))))))))))))) g230
            have FJ232 := gc_frc (W := fun q j => (q = 23 ∧ j = 9)) (V := fun q j => (q = 23 ∧ j = 9)) FJ217 (fun q j h => h) k230
            have t233 := (g230 23 1).resolve_left (fun h => h.elim (fun h => absurd h.2 (by decide)) (fun h => h.elim (fun h => absurd h.2 (by decide)) (fun h => h.elim (fun h => absurd h.2 (by decide)) (fun h => h.elim (fun h => absurd h.2 (by decide)) (fun h => h.elim (fun h => absurd h.2 (by decide)) (fun h => h.elim (fun h => absurd h.2 (by decide)) (fun h => absurd h.2 (by decide))))))))
            have t234 := (g230 1 17).resolve_left (fun h => h.elim (fun h => absurd h.2 (by decide)) (fun h => h.elim (fun h => absurd h.2 (by decide)) (fun h => h.elim (fun h => absurd h.2 (by decide)) (fun h => h.elim (fun h => absurd h.2 (by decide)) (fun h => h.elim (fun h => absurd h.2 (by decide)) (fun h => h.elim (fun h => absurd h.2 (by decide)) (fun h => absurd h.2 (by decide))))))))
            have t235 := (g230 4 1).resolve_left (fun h => h.elim (fun h => absurd h.2 (by decide)) (fun h => h.elim (fun h => absurd h.2 (by decide)) (fun h => h.elim (fun h => absurd h.2 (by decide)) (fun h => h.elim (fun h => absurd h.2 (by decide)) (fun h => h.elim (fun h => absurd h.2 (by decide)) (fun h => h.elim (fun h => absurd h.2 (by decide)) (fun h => absurd h.2 (by decide))))))))
            have t236 := (g230 (t + 11) 1).resolve_left (fun h => h.elim (fun h => absurd h.2 (by decide)) (fun h => h.elim (fun h => absurd h.2 (by decide)) (fun h => h.elim (fun h => absurd h.2 (by decide)) (fun h => h.elim (fun h => absurd h.2 (by decide)) (fun h => h.elim (fun h => absurd h.2 (by decide)) (fun h => h.elim (fun h => absurd h.2 (by decide)) (fun h => absurd h.2 (by decide))))))))
            have t237 := (g230 t 11).resolve_left (fun h => h.elim (fun h => absurd h.2 (by decide)) (fun h => h.elim (fun h => absurd h.2 (by decide)) (fun h => h.elim (fun h => absurd h.2 (by decide)) (fun h => h.elim (fun h => absurd h.2 (by decide)) (fun h => h.elim (fun h => absurd h.2 (by decide)) (fun h => h.elim (fun h => absurd h.2 (by decide)) (fun h => absurd h.2 (by decide))))))))
            have t238 := (g230 39 2).resolve_left (fun h => h.elim (fun h => absurd h.2 (by decide)) (fun h => h.elim (fun h => absurd h.2 (by decide)) (fun h => h.elim (fun h => absurd h.2 (by decide)) (fun h => h.elim (fun h => absurd h.2 (by decide)) (fun h => h.elim (fun h => absurd h.2 (by decide)) (fun h => h.elim (fun h => absurd h.2 (by decide)) (fun h => absurd h.2 (by decide))))))))
            have t239 := (g230 41 0).resolve_left (fun h => h.elim (fun h => absurd h.2 (by decide)) (fun h => h.elim (fun h => absurd h.2 (by decide)) (fun h => h.elim (fun h => absurd h.2 (by decide)) (fun h => h.elim (fun h => absurd h.2 (by decide)) (fun h => h.elim (fun h => absurd h.2 (by decide)) (fun h => h.elim (fun h => absurd h.2 (by decide)) (fun h => absurd h.2 (by decide))))))))
            have f240 := (show 0 ≤ I231 23 5 ∧ I231 23 5 ≤ 1000 from gc_in hI231 R_23 rfl rfl)
            have f241 := (show 0 ≤ I231 23 6 ∧ I231 23 6 ≤ 1001 from gc_in hI231 R_23 rfl rfl)
            have f242 := (show 0 ≤ I231 23 7 ∧ I231 23 7 ≤ 125 from gc_in hI231 R_23 rfl rfl)
            have t243 := gc_TK_mo KTK_I231
            have KRW_I231 := gc_row_fr KRW_I216 (fun k => (g230 41 k).resolve_left (fun h => h.elim (fun h => absurd h.1 (by decide)) (fun h => h.elim (fun h => absurd h.1 (by decide)) (fun h => h.elim (fun h => absurd h.1 (by decide)) (fun h => h.elim (fun h => absurd h.1 (by decide)) (fun h => h.elim (fun h => absurd h.1 (by decide)) (fun h => h.elim (fun h => absurd h.1 (by decide)) (fun h => absurd h.1 (by decide)))))))))
            refine gv_callV hD rfl (As := []) (st := []) rfl B_39 S_39 rfl (gc_lV6 hws rfl) (Nat.le_of_ble_eq_true rfl) (gz_Ev_mono (d := 4) (by decide) E230) ?_
            show gv_X _ _ (146, [(1, .inl z103), (0, .inr (.inr (some 39)))], [.inl z230], sh, gc_h sh I231 J232 A)
            refine gv_if_eq (t := 156) hD rfl rfl ⟨by omega, by omega⟩ (fun c244 => ?_) (fun c244 => ?_)
            · show gv_X _ _ (156, [(1, .inl z103), (0, .inr (.inr (some 39)))], [], sh, gc_h sh I231 J232 A)
              refine gv_pick [] rfl ?_
              exact L156 I231 J232 hI231 FI231 FJ232 KLT_I231 KTK_I231 (by omega)
            · show gv_X _ _ (149, [(1, .inl z103), (0, .inr (.inr (some 39)))], [], sh, gc_h sh I231 J232 A)
              refine gv_run 1 true hD (pc' := 150) (lv' := [(1, .inl z103), (0, .inr (.inr (some 39)))]) (st' := [.inr (.inr (some 39))]) (h' := gc_h sh I231 J232 A) (C := (True ∧ True)) rfl ⟨trivial, trivial⟩ ?_
              obtain ⟨r245, h245, E245, P245⟩ := d_X6_readCost (ws0 := ws0) (tb := tb) hws htb sh ro I231 J232 A hI231   hb     KLT_I231 KTK_I231
              obtain ⟨I246, J247, rfl, hI246, g245, k245, KLT_I246, KTK_I246, ⟨z245, rfl, q245⟩⟩ := P245
              have FI246 := gc_frc (W := fun q j => (q = 39 ∧ j = 3) ∨ (q = 39 ∧ j = 4) ∨ (q = 23 ∧ j = 5) ∨ (q = 23 ∧ j = 6) ∨ (q = 23 ∧ j = 7) ∨ (q = 23 ∧ j = 8) ∨ (q = 1 ∧ j = 17) ∨ (q = 1 ∧ j = 18) ∨ q = 20 ∨ (q = 39 ∧ j = 6) ∨ (q = 39 ∧ j = 7) ∨ q = 41 ∨ (q = (t + 15) ∧ (11 * I t 11 ≤ (j : Int))) ∨ (q = t ∧ j = 11)) (V := fun q j => (q = 39 ∧ j = 3) ∨ (q = 39 ∧ j = 4) ∨ (q = 23 ∧ j = 5) ∨ (q = 23 ∧ j = 6) ∨ (q = 23 ∧ j = 7) ∨ (q = 23 ∧ j = 8) ∨ (q = 39 ∧ j = 7)) FI231 (fun q j h => (h.elim (fun h => (Or.inl h)) (fun h => (h.elim (fun h => (Or.inr (Or.inl h))) (fun h => (h.elim (fun h => (Or.inr (Or.inr (Or.inl h)))) (fun h => (h.elim (fun h => (Or.inr (Or.inr (Or.inr (Or.inl h))))) (fun h => (h.elim (fun h => (Or.inr (Or.inr (Or.inr (Or.inr (Or.inl h)))))) (fun h => (h.elim (fun h => (Or.inr (Or.inr (Or.inr (Or.inr (Or.inr (Or.inl h))))))) (fun h => (Or.inr (Or.inr (Or.inr (Or.inr (Or.inr (Or.inr (Or.inr (Or.inr (Or.inr (Or.inr (Or.inl h)))))))))))))))))))))))) g245
              have FJ247 := gc_frc (W := fun q j => (q = 23 ∧ j = 9)) (V := fun q j => (q = 23 ∧ j = 9)) FJ232 (fun q j h => h) k245
              have t248 := (g245 23 1).resolve_left (fun h => h.elim (fun h => absurd h.2 (by decide)) (fun h => h.elim (fun h => absurd h.2 (by decide)) (fun h => h.elim (fun h => absurd h.2 (by decide)) (fun h => h.elim (fun h => absurd h.2 (by decide)) (fun h => h.elim (fun h => absurd h.2 (by decide)) (fun h => h.elim (fun h => absurd h.2 (by decide)) (fun h => absurd h.2 (by decide))))))))
              have t249 := (g245 1 17).resolve_left (fun h => h.elim (fun h => absurd h.2 (by decide)) (fun h => h.elim (fun h => absurd h.2 (by decide)) (fun h => h.elim (fun h => absurd h.2 (by decide)) (fun h => h.elim (fun h => absurd h.2 (by decide)) (fun h => h.elim (fun h => absurd h.2 (by decide)) (fun h => h.elim (fun h => absurd h.2 (by decide)) (fun h => absurd h.2 (by decide))))))))
              have t250 := (g245 4 1).resolve_left (fun h => h.elim (fun h => absurd h.2 (by decide)) (fun h => h.elim (fun h => absurd h.2 (by decide)) (fun h => h.elim (fun h => absurd h.2 (by decide)) (fun h => h.elim (fun h => absurd h.2 (by decide)) (fun h => h.elim (fun h => absurd h.2 (by decide)) (fun h => h.elim (fun h => absurd h.2 (by decide)) (fun h => absurd h.2 (by decide))))))))
              have t251 := (g245 (t + 11) 1).resolve_left (fun h => h.elim (fun h => absurd h.2 (by decide)) (fun h => h.elim (fun h => absurd h.2 (by decide)) (fun h => h.elim (fun h => absurd h.2 (by decide)) (fun h => h.elim (fun h => absurd h.2 (by decide)) (fun h => h.elim (fun h => absurd h.2 (by decide)) (fun h => h.elim (fun h => absurd h.2 (by decide)) (fun h => absurd h.2 (by decide))))))))
              have t252 := (g245 t 11).resolve_left (fun h => h.elim (fun h => absurd h.2 (by decide)) (fun h => h.elim (fun h => absurd h.2 (by decide)) (fun h => h.elim (fun h => absurd h.2 (by decide)) (fun h => h.elim (fun h => absurd h.2 (by decide)) (fun h => h.elim (fun h => absurd h.2 (by decide)) (fun h => h.elim (fun h => absurd h.2 (by decide)) (fun h => absurd h.2 (by decide))))))))
              have t253 := (g245 39 2).resolve_left (fun h => h.elim (fun h => absurd h.2 (by decide)) (fun h => h.elim (fun h => absurd h.2 (by decide)) (fun h => h.elim (fun h => absurd h.2 (by decide)) (fun h => h.elim (fun h => absurd h.2 (by decide)) (fun h => h.elim (fun h => absurd h.2 (by decide)) (fun h => h.elim (fun h => absurd h.2 (by decide)) (fun h => absurd h.2 (by decide))))))))
              have t254 := (g245 41 0).resolve_left (fun h => h.elim (fun h => absurd h.2 (by decide)) (fun h => h.elim (fun h => absurd h.2 (by decide)) (fun h => h.elim (fun h => absurd h.2 (by decide)) (fun h => h.elim (fun h => absurd h.2 (by decide)) (fun h => h.elim (fun h => absurd h.2 (by decide)) (fun h => h.elim (fun h => absurd h.2 (by decide)) (fun h => absurd h.2 (by decide))))))))
              have f255 := (show 0 ≤ I246 23 5 ∧ I246 23 5 ≤ 1000 from gc_in hI246 R_23 rfl rfl)
              have f256 := (show 0 ≤ I246 23 6 ∧ I246 23 6 ≤ 1001 from gc_in hI246 R_23 rfl rfl)
              have f257 := (show 0 ≤ I246 23 7 ∧ I246 23 7 ≤ 125 from gc_in hI246 R_23 rfl rfl)
              have t258 := gc_TK_mo KTK_I246
              have KRW_I246 := gc_row_fr KRW_I231 (fun k => (g245 41 k).resolve_left (fun h => h.elim (fun h => absurd h.1 (by decide)) (fun h => h.elim (fun h => absurd h.1 (by decide)) (fun h => h.elim (fun h => absurd h.1 (by decide)) (fun h => h.elim (fun h => absurd h.1 (by decide)) (fun h => h.elim (fun h => absurd h.1 (by decide)) (fun h => h.elim (fun h => absurd h.1 (by decide)) (fun h => absurd h.1 (by decide)))))))))
              refine gv_callV hD rfl (As := []) (st := []) rfl B_39 S_39 rfl (gc_lV6 hws rfl) (Nat.le_of_ble_eq_true rfl) (gz_Ev_mono (d := 3) (by decide) E245) ?_
              show gv_X _ _ (153, [(1, .inl z103), (0, .inr (.inr (some 39)))], [.inl z245], sh, gc_h sh I246 J247 A)
              refine gv_if_ne (t := 158) hD rfl rfl ⟨by omega, by omega⟩ (fun c259 => ?_) (fun c259 => ?_)
              · show gv_X _ _ (158, [(1, .inl z103), (0, .inr (.inr (some 39)))], [], sh, gc_h sh I246 J247 A)
                refine gv_run 1 true hD (pc' := 159) (lv' := [(1, .inl z103), (0, .inr (.inr (some 39)))]) (st' := [.inr (.inr (some 39))]) (h' := gc_h sh I246 J247 A) (C := (True ∧ True)) rfl ⟨trivial, trivial⟩ ?_
                refine gv_get hD rfl rfl S_39 ⟨by decide, B_39⟩ (gc_hA S_39 rfl A_39_10) ?_
                show gv_X _ _ (162, [(1, .inl z103), (0, .inr (.inr (some 39)))], [.inr (.inr (some 41))], sh, gc_h sh I246 J247 A)
                refine gv_run 2 true hD (pc' := 164) (lv' := [(1, .inl z103), (0, .inr (.inr (some 39)))]) (st' := [.inr (.inr (some 39)), .inl 2, .inr (.inr (some 41))]) (h' := gc_h sh I246 J247 A) (C := ((True ∧ True) ∧ True)) rfl ⟨⟨trivial, trivial⟩, trivial⟩ ?_
                have f260 := (show 0 ≤ I246 39 6 ∧ I246 39 6 ≤ 16777215 from gc_in hI246 R_39 rfl rfl)
                refine gv_get hD rfl rfl S_39 ⟨by decide, B_39⟩ (gc_hI S_39 rfl) ?_
                show gv_X _ _ (167, [(1, .inl z103), (0, .inr (.inr (some 39)))], [.inl (I246 39 6), .inl 2, .inr (.inr (some 41))], sh, gc_h sh I246 J247 A)
                refine gv_iast hD rfl S_41 ⟨by decide, B_41⟩ ⟨by omega, by omega⟩ ?_
                refine gc_st (k := 2) hI246 S_41 rfl R_41 (lo := (-2147483648)) (hi := 2147483647) rfl rfl (by omega) (by omega) (fun I261 hI261 q262 p262 => ?_)
                have FI261 := gc_frs (W := fun q j => (q = 39 ∧ j = 3) ∨ (q = 39 ∧ j = 4) ∨ (q = 23 ∧ j = 5) ∨ (q = 23 ∧ j = 6) ∨ (q = 23 ∧ j = 7) ∨ (q = 23 ∧ j = 8) ∨ (q = 1 ∧ j = 17) ∨ (q = 1 ∧ j = 18) ∨ q = 20 ∨ (q = 39 ∧ j = 6) ∨ (q = 39 ∧ j = 7) ∨ q = 41 ∨ (q = (t + 15) ∧ (11 * I t 11 ≤ (j : Int))) ∨ (q = t ∧ j = 11)) FI246 (Or.inr (Or.inr (Or.inr (Or.inr (Or.inr (Or.inr (Or.inr (Or.inr (Or.inr (Or.inr (Or.inr (Or.inl rfl)))))))))))) p262
                have t263 := p262 23 1 (fun h => absurd h.2 (by decide))
                have t264 := p262 23 5 (fun h => absurd h.2 (by decide))
                have t265 := p262 23 6 (fun h => absurd h.2 (by decide))
                have t266 := p262 23 7 (fun h => absurd h.2 (by decide))
                have t267 := p262 1 17 (fun h => absurd h.2 (by decide))
                have t268 := p262 4 1 (fun h => absurd h.2 (by decide))
                have t269 := p262 (t + 11) 1 (fun h => absurd h.2 (by decide))
                have t270 := p262 t 11 (fun h => absurd h.2 (by decide))
                have t271 := p262 39 2 (fun h => absurd h.1 (by decide))
                have t272 := p262 41 0 (fun h => absurd h.2 (by omega))
                have KLT_I261 := gc_LT_fr KLT_I246 (p262 23 5 (fun h => absurd h.2 (by decide))) (p262 23 6 (fun h => absurd h.2 (by decide))) (p262 23 7 (fun h => absurd h.2 (by decide))) (fun k => p262 24 k (fun h => absurd h.1 (by decide)))
                have KTK_I261 := gc_TK_fr KTK_I246 (p262 23 1 (fun h => absurd h.2 (by decide))) (p262 23 5 (fun h => absurd h.2 (by decide))) (p262 23 6 (fun h => absurd h.2 (by decide))) (p262 23 7 (fun h => absurd h.2 (by decide)))
                have KRW_I261 := gc_row_st KRW_I246 p262 q262 (by unfold gc_fW; omega)
                show gv_X _ _ (168, [(1, .inl z103), (0, .inr (.inr (some 39)))], [], sh, gc_h sh I261 J247 A)
                refine gv_run 1 true hD (pc' := 169) (lv' := [(1, .inl z103), (0, .inr (.inr (some 39)))]) (st' := [.inr (.inr (some 39))]) (h' := gc_h sh I261 J247 A) (C := (True ∧ True)) rfl ⟨trivial, trivial⟩ ?_
                refine gv_get hD rfl rfl S_39 ⟨by decide, B_39⟩ (gc_hA S_39 rfl A_39_10) ?_
                show gv_X _ _ (172, [(1, .inl z103), (0, .inr (.inr (some 39)))], [.inr (.inr (some 41))], sh, gc_h sh I261 J247 A)
                refine gv_run 2 true hD (pc' := 174) (lv' := [(1, .inl z103), (0, .inr (.inr (some 39)))]) (st' := [.inr (.inr (some 39)), .inl 3, .inr (.inr (some 41))]) (h' := gc_h sh I261 J247 A) (C := ((True ∧ True) ∧ True)) rfl ⟨⟨trivial, trivial⟩, trivial⟩ ?_
                have f273 := (show 0 ≤ I261 39 7 ∧ I261 39 7 ≤ 10000 from gc_in hI261 R_39 rfl rfl)
                refine gv_get hD rfl rfl S_39 ⟨by decide, B_39⟩ (gc_hI S_39 rfl) ?_
                show gv_X _ _ (177, [(1, .inl z103), (0, .inr (.inr (some 39)))], [.inl (I261 39 7), .inl 3, .inr (.inr (some 41))], sh, gc_h sh I261 J247 A)
                refine gv_iast hD rfl S_41 ⟨by decide, B_41⟩ ⟨by omega, by omega⟩ ?_
                refine gc_st (k := 3) hI261 S_41 rfl R_41 (lo := (-2147483648)) (hi := 2147483647) rfl rfl (by omega) (by omega) (fun I274 hI274 q275 p275 => ?_)
                have FI274 := gc_frs (W := fun q j => (q = 39 ∧ j = 3) ∨ (q = 39 ∧ j = 4) ∨ (q = 23 ∧ j = 5) ∨ (q = 23 ∧ j = 6) ∨ (q = 23 ∧ j = 7) ∨ (q = 23 ∧ j = 8) ∨ (q = 1 ∧ j = 17) ∨ (q = 1 ∧ j = 18) ∨ q = 20 ∨ (q = 39 ∧ j = 6) ∨ (q = 39 ∧ j = 7) ∨ q = 41 ∨ (q = (t + 15) ∧ (11 * I t 11 ≤ (j : Int))) ∨ (q = t ∧ j = 11)) FI261 (Or.inr (Or.inr (Or.inr (Or.inr (Or.inr (Or.inr (Or.inr (Or.inr (Or.inr (Or.inr (Or.inr (Or.inl rfl)))))))))))) p275
                have t276 := p275 23 1 (fun h => absurd h.2 (by decide))
                have t277 := p275 23 5 (fun h => absurd h.2 (by decide))
                have t278 := p275 23 6 (fun h => absurd h.2 (by decide))
                have t279 := p275 23 7 (fun h => absurd h.2 (by decide))
                have t280 := p275 1 17 (fun h => absurd h.2 (by decide))
                have t281 := p275 4 1 (fun h => absurd h.2 (by decide))
                have t282 := p275 (t + 11) 1 (fun h => absurd h.2 (by decide))
                have t283 := p275 t 11 (fun h => absurd h.2 (by decide))
                have t284 := p275 39 2 (fun h => absurd h.2 (by decide))
                have t285 := p275 41 0 (fun h => absurd h.2 (by omega))
                have KLT_I274 := gc_LT_fr KLT_I261 (p275 23 5 (fun h => absurd h.2 (by decide))) (p275 23 6 (fun h => absurd h.2 (by decide))) (p275 23 7 (fun h => absurd h.2 (by decide))) (fun k => p275 24 k (fun h => absurd h.1 (by decide)))
                have KTK_I274 := gc_TK_fr KTK_I261 (p275 23 1 (fun h => absurd h.2 (by decide))) (p275 23 5 (fun h => absurd h.2 (by decide))) (p275 23 6 (fun h => absurd h.2 (by decide))) (p275 23 7 (fun h => absurd h.2 (by decide)))
                have KRW_I274 := gc_row_st KRW_I261 p275 q275 (by unfold gc_fW; omega)
                show gv_X _ _ (178, [(1, .inl z103), (0, .inr (.inr (some 39)))], [], sh, gc_h sh I274 J247 A)
                refine gv_run 2 true hD (pc' := 180) (lv' := [(1, .inl z103), (0, .inr (.inr (some 39)))]) (st' := [.inr (.inr (some 39)), .inr (.inr (some 39))]) (h' := gc_h sh I274 J247 A) (C := ((True ∧ True) ∧ True)) rfl ⟨⟨trivial, trivial⟩, trivial⟩ ?_
                refine gv_get hD rfl rfl S_39 ⟨by decide, B_39⟩ (gc_h5 (t := t) S_39 rfl (by omega)) ?_
                show gv_X _ _ (183, [(1, .inl z103), (0, .inr (.inr (some 39)))], [.inr (.inr (some t)), .inr (.inr (some 39))], sh, gc_h sh I274 J247 A)
                have f286 := (show 0 ≤ I274 t 11 ∧ I274 t 11 ≤ 64 from gc_in hI274 R_t rfl rfl)
                refine gv_get hD rfl rfl S_t ⟨by decide, B_t⟩ (gc_hI S_t rfl) ?_
                show gv_X _ _ (186, [(1, .inl z103), (0, .inr (.inr (some 39)))], [.inl (I274 t 11), .inr (.inr (some 39))], sh, gc_h sh I274 J247 A)
                refine gv_run 1 true hD (pc' := 188) (lv' := [(1, .inl z103), (0, .inr (.inr (some 39)))]) (st' := [.inl 64, .inl (I274 t 11), .inr (.inr (some 39))]) (h' := gc_h sh I274 J247 A) (C := (True ∧ True)) rfl ⟨trivial, trivial⟩ ?_
                refine gv_icmp_lt (t := 195) hD rfl rfl ⟨⟨by omega, by omega⟩, ⟨by omega, by omega⟩⟩ (fun c287 => ?_) (fun c287 => ?_)
                · show gv_X _ _ (195, [(1, .inl z103), (0, .inr (.inr (some 39)))], [.inr (.inr (some 39))], sh, gc_h sh I274 J247 A)
                  refine gv_run 1 true hD (pc' := 196) (lv' := [(1, .inl z103), (0, .inr (.inr (some 39)))]) (st' := [.inl 0, .inr (.inr (some 39))]) (h' := gc_h sh I274 J247 A) (C := (True ∧ True)) rfl ⟨trivial, trivial⟩ ?_
                  refine gv_pick [1, 0] rfl ?_
                  exact L196 I274 J247 z103 0 hI274 FI274 FJ247 KLT_I274 KTK_I274 KRW_I274 (by omega)
                · show gv_X _ _ (191, [(1, .inl z103), (0, .inr (.inr (some 39)))], [.inr (.inr (some 39))], sh, gc_h sh I274 J247 A)
                  refine gv_run 2 true hD (pc' := 196) (lv' := [(1, .inl z103), (0, .inr (.inr (some 39)))]) (st' := [.inl 1, .inr (.inr (some 39))]) (h' := gc_h sh I274 J247 A) (C := ((True ∧ True) ∧ True)) rfl ⟨⟨trivial, trivial⟩, trivial⟩ ?_
                  refine gv_pick [1, 0] rfl ?_
                  exact L196 I274 J247 z103 1 hI274 FI274 FJ247 KLT_I274 KTK_I274 KRW_I274 (by omega)
              · show gv_X _ _ (156, [(1, .inl z103), (0, .inr (.inr (some 39)))], [], sh, gc_h sh I246 J247 A)
                refine gv_pick [] rfl ?_
                exact L156 I246 J247 hI246 FI246 FJ247 KLT_I246 KTK_I246 (by omega)
      · show gv_X _ _ (80, [(1, .inl z103), (0, .inr (.inr (some 39)))], [], sh, gc_h sh I124 J111 A)
        refine gv_run 1 true hD (pc' := 81) (lv' := [(1, .inl z103), (0, .inr (.inr (some 39)))]) (st' := [.inl 0]) (h' := gc_h sh I124 J111 A) (C := (True ∧ True)) rfl ⟨trivial, trivial⟩ ?_
        exact gv_zret hD rfl (by omega) ⟨I124, J111, rfl, hI124, FI124, FJ111, KLT_I124, KTK_I124, ⟨_, rfl, by omega, by omega, by omega, by omega, by omega, by omega, by omega, (Or.inl (by omega))⟩⟩
    · show gv_X _ _ (46, [(1, .inl z103), (0, .inr (.inr (some 39)))], [], sh, gc_h sh I90 J A)
      refine gv_run 3 true hD (pc' := 49) (lv' := [(1, .inl z103), (0, .inr (.inr (some 39)))]) (st' := [.inr (.inr (some 39)), .inl 5, .inr (.inr (some 39))]) (h' := gc_h sh I90 J A) (C := (((True ∧ True) ∧ True) ∧ True)) rfl ⟨⟨⟨trivial, trivial⟩, trivial⟩, trivial⟩ ?_
      refine gv_get hD rfl rfl S_39 ⟨by decide, B_39⟩ (gc_hA S_39 rfl A_39_1) ?_
      show gv_X _ _ (52, [(1, .inl z103), (0, .inr (.inr (some 39)))], [.inr (.inr (some 23)), .inl 5, .inr (.inr (some 39))], sh, gc_h sh I90 J A)
      have f288 := (show 0 ≤ I90 23 5 ∧ I90 23 5 ≤ 1000 from gc_in hI90 R_23 rfl rfl)
      refine gv_get hD rfl rfl S_23 ⟨by decide, B_23⟩ (gc_hI S_23 rfl) ?_
      show gv_X _ _ (55, [(1, .inl z103), (0, .inr (.inr (some 39)))], [.inl (I90 23 5), .inl 5, .inr (.inr (some 39))], sh, gc_h sh I90 J A)
      obtain ⟨r289, h289, E289, P289⟩ := d_X6_wrong (ws0 := ws0) (tb := tb) hws htb sh ro I90 J A hI90  5 (I90 23 5) hb   ⟨by omega, by omega⟩ ⟨by omega, by omega⟩  
      obtain ⟨I290, J291, rfl, hI290, g289, k289, ⟨z289, rfl, q289⟩⟩ := P289
      have FI290 := gc_frc (W := fun q j => (q = 39 ∧ j = 3) ∨ (q = 39 ∧ j = 4) ∨ (q = 23 ∧ j = 5) ∨ (q = 23 ∧ j = 6) ∨ (q = 23 ∧ j = 7) ∨ (q = 23 ∧ j = 8) ∨ (q = 1 ∧ j = 17) ∨ (q = 1 ∧ j = 18) ∨ q = 20 ∨ (q = 39 ∧ j = 6) ∨ (q = 39 ∧ j = 7) ∨ q = 41 ∨ (q = (t + 15) ∧ (11 * I t 11 ≤ (j : Int))) ∨ (q = t ∧ j = 11)) (V := fun q j => (q = 39 ∧ j = 3) ∨ (q = 39 ∧ j = 4)) FI90 (fun q j h => (h.elim (fun h => (Or.inl h)) (fun h => (Or.inr (Or.inl h))))) g289
      have t292 := (g289 23 1).resolve_left (fun h => h.elim (fun h => absurd h.2 (by decide)) (fun h => absurd h.2 (by decide)))
      have t293 := (g289 23 5).resolve_left (fun h => h.elim (fun h => absurd h.2 (by decide)) (fun h => absurd h.2 (by decide)))
      have t294 := (g289 23 6).resolve_left (fun h => h.elim (fun h => absurd h.2 (by decide)) (fun h => absurd h.2 (by decide)))
      have t295 := (g289 23 7).resolve_left (fun h => h.elim (fun h => absurd h.2 (by decide)) (fun h => absurd h.2 (by decide)))
      have t296 := (g289 1 17).resolve_left (fun h => h.elim (fun h => absurd h.2 (by decide)) (fun h => absurd h.2 (by decide)))
      have t297 := (g289 4 1).resolve_left (fun h => h.elim (fun h => absurd h.2 (by decide)) (fun h => absurd h.2 (by decide)))
      have t298 := (g289 (t + 11) 1).resolve_left (fun h => h.elim (fun h => absurd h.2 (by decide)) (fun h => absurd h.2 (by decide)))
      have t299 := (g289 t 11).resolve_left (fun h => h.elim (fun h => absurd h.2 (by decide)) (fun h => absurd h.2 (by decide)))
      have t300 := (g289 39 2).resolve_left (fun h => h.elim (fun h => absurd h.2 (by decide)) (fun h => absurd h.2 (by decide)))
      have t301 := (g289 41 0).resolve_left (fun h => h.elim (fun h => absurd h.2 (by decide)) (fun h => absurd h.2 (by decide)))
      obtain rfl : J = J291 := funext fun q => funext fun j => ((k289 q j).resolve_left id).symm
      have KLT_I290 := gc_LT_fr KLT_I90 ((g289 23 5).resolve_left (fun h => h.elim (fun h => absurd h.2 (by decide)) (fun h => absurd h.2 (by decide)))) ((g289 23 6).resolve_left (fun h => h.elim (fun h => absurd h.2 (by decide)) (fun h => absurd h.2 (by decide)))) ((g289 23 7).resolve_left (fun h => h.elim (fun h => absurd h.2 (by decide)) (fun h => absurd h.2 (by decide)))) (fun k => (g289 24 k).resolve_left (fun h => h.elim (fun h => absurd h.1 (by decide)) (fun h => absurd h.1 (by decide))))
      have KTK_I290 := gc_TK_fr KTK_I90 ((g289 23 1).resolve_left (fun h => h.elim (fun h => absurd h.2 (by decide)) (fun h => absurd h.2 (by decide)))) ((g289 23 5).resolve_left (fun h => h.elim (fun h => absurd h.2 (by decide)) (fun h => absurd h.2 (by decide)))) ((g289 23 6).resolve_left (fun h => h.elim (fun h => absurd h.2 (by decide)) (fun h => absurd h.2 (by decide)))) ((g289 23 7).resolve_left (fun h => h.elim (fun h => absurd h.2 (by decide)) (fun h => absurd h.2 (by decide))))
      refine gv_callV hD rfl (As := [.inl 5, .inl (I90 23 5)]) (st := []) rfl B_39 S_39 rfl (gc_lV6 hws rfl) (Nat.le_of_ble_eq_true rfl) (gz_Ev_mono (d := 1) (by decide) E289) ?_
      show gv_X _ _ (58, [(1, .inl z103), (0, .inr (.inr (some 39)))], [.inl z289], sh, gc_h sh I290 J A)
      exact gv_zret hD rfl (by omega) ⟨I290, J, rfl, hI290, FI290, FJ, KLT_I290, KTK_I290, ⟨_, rfl, by omega, by omega, by omega, by omega, by omega, by omega, by omega, (Or.inl (by omega))⟩⟩
  · show gv_X _ _ (14, [(0, .inr (.inr (some 39)))], [], sh, gc_h sh I90 J A)
    refine gv_run 1 true hD (pc' := 15) (lv' := [(0, .inr (.inr (some 39)))]) (st' := [.inl 0]) (h' := gc_h sh I90 J A) (C := (True ∧ True)) rfl ⟨trivial, trivial⟩ ?_
    exact gv_zret hD rfl (by omega) ⟨I90, J, rfl, hI90, FI90, FJ, KLT_I90, KTK_I90, ⟨_, rfl, by omega, by omega, by omega, by omega, by omega, by omega, by omega, (Or.inl (by omega))⟩⟩
