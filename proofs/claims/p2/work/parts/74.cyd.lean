set_option maxHeartbeats 4000000 in
set_option maxRecDepth 100000 in
theorem d_X6_readSaids {ws0 : List Cond} {tb : String → gz_T} (hws : gc_Ws ws0) (htb : gc_tbs tb) (sh : gz_Sh) (ro : Nat → Nat) (I : gr_I) (J : gr_J) (A : gc_A) (hI : gc_Inv ro I) (t : Nat) (a1 : Nat) (hb : gc_Base sh ro A) (h_a1 : gc_isLin sh ro A a1) (G_a1 : 144 ≤ a1) (h_t : gc_isTongue sh ro A t) (G_t : 144 ≤ t)  (x0 : I 23 5 ≤ I 23 6) (x1 : I 23 7 = 5 ∨ I 23 6 ≤ I 23 1) (x2 : I 23 5 ≤ I 23 1) (x3 : I 23 7 = 4 ∨ (I 23 5 < I 23 6 ∧ I 23 5 < I 23 1)) (x4 : I 23 7 = 3 → 2 ≤ I 23 6 - I 23 5 ∧ I 23 6 - I 23 5 ≤ 14) (x5 : I a1 12 + I a1 14 ≤ 6) (x6 : I 39 2 = (t : Int)) (KLT_I : gc_LT I) : ∃ r h', gz_Ev ws0 tb 5 (yX6_readSaids, cX6_readSaids, 4, (some .boolean)) [.inr (.inr (some 39)), .inr (.inr (some a1))] sh (gc_h sh I J A) r sh h' 0 0 ∧ (∃ (I' : gr_I) (J' : gr_J), h' = gc_h sh I' J' A ∧ gc_Inv ro I' ∧ (∀ q j : Nat, ((q = 39 ∧ j = 3) ∨ (q = 39 ∧ j = 4) ∨ (q = 23 ∧ j = 5) ∨ (q = 23 ∧ j = 6) ∨ (q = 23 ∧ j = 7) ∨ (q = 23 ∧ j = 8) ∨ q = (a1 + 7) ∨ (q = a1 ∧ j = 12) ∨ q = (a1 + 8) ∨ (q = a1 ∧ j = 14)) ∨ I' q j = I q j) ∧ (∀ q j : Nat, ((q = 23 ∧ j = 9)) ∨ J' q j = J q j) ∧ gc_LT I' ∧ (∃ z : Int, r = some (.inl z) ∧ 0 ≤ z ∧ z ≤ 1 ∧ (I' 23 5 ≤ I' 23 6) ∧ (I' 23 7 = 5 ∨ I' 23 6 ≤ I' 23 1) ∧ (I' 23 5 ≤ I' 23 1) ∧ (I' 23 7 = 4 ∨ (I' 23 5 < I' 23 6 ∧ I' 23 5 < I' 23 1)) ∧ (I' 23 7 = 3 → 2 ≤ I' 23 6 - I' 23 5 ∧ I' 23 6 - I' 23 5 ≤ 14) ∧ (I' 23 1 = I 23 1) ∧ (I 23 5 ≤ I' 23 5))) := by
  have FI : ∀ q j : Nat, ((q = 39 ∧ j = 3) ∨ (q = 39 ∧ j = 4) ∨ (q = 23 ∧ j = 5) ∨ (q = 23 ∧ j = 6) ∨ (q = 23 ∧ j = 7) ∨ (q = 23 ∧ j = 8) ∨ q = (a1 + 7) ∨ (q = a1 ∧ j = 12) ∨ q = (a1 + 8) ∨ (q = a1 ∧ j = 14)) ∨ I q j = I q j := fun _ _ => Or.inr rfl
  have FJ : ∀ q j : Nat, ((q = 23 ∧ j = 9)) ∨ J q j = J q j := fun _ _ => Or.inr rfl
  have A_39_1 : A 39 1 = some 23 := gc_bA hb rfl
  have B_23 : 23 < 1000000 := by decide
  have B_39 : 39 < 1000000 := by decide
  have R_23 : ro 23 = 3 := gc_bR hb (by decide) rfl
  have R_39 : ro 39 = 42 := gc_bR hb (by decide) rfl
  have S_23 : sh[23]? = some (false, 9, 10) := gc_bS hb rfl
  have S_39 : sh[39]? = some (false, 6, 19) := gc_bS hb rfl
  obtain ⟨S_a1, R_a1, B_a1, A_a1_5, S_a1_1, R_a1_1, B_a1_1, A_a1_6, S_a1_2, R_a1_2, B_a1_2, A_a1_7, S_a1_3, R_a1_3, B_a1_3, A_a1_9, S_a1_4, R_a1_4, B_a1_4, A_a1_10, S_a1_5, R_a1_5, B_a1_5, A_a1_11, S_a1_6, R_a1_6, B_a1_6, A_a1_13, S_a1_7, R_a1_7, B_a1_7, A_a1_15, S_a1_8, R_a1_8, B_a1_8⟩ := id h_a1
  obtain ⟨S_t, R_t, B_t, A_t_0, h_t_1, A_t_1, h_t_3, A_t_2, S_t_5, R_t_5, B_t_5, A_t_3, S_t_6, R_t_6, B_t_6, A_t_4, h_t_7, A_t_5, S_t_9, R_t_9, B_t_9, A_t_7, S_t_10, R_t_10, B_t_10, A_t_8, h_t_11, A_t_9, S_t_13, R_t_13, B_t_13, A_t_10, S_t_14, R_t_14, B_t_14, A_t_12, S_t_15, R_t_15, B_t_15, A_t_14, S_t_16, R_t_16, B_t_16, A_t_15, h_t_17⟩ := id h_t
  obtain ⟨S_t_1, R_t_1, B_t_1, A_t_1_0, S_t_1_1, R_t_1_1, B_t_1_1, Q0_t_1, Q1_t_1, Q2_t_1⟩ := id h_t_1
  obtain ⟨S_t_3, R_t_3, B_t_3, A_t_3_0, S_t_3_1, R_t_3_1, B_t_3_1, Q0_t_3, Q1_t_3, Q2_t_3⟩ := id h_t_3
  obtain ⟨S_t_7, R_t_7, B_t_7, A_t_7_0, S_t_7_1, R_t_7_1, B_t_7_1, Q0_t_7, Q1_t_7, Q2_t_7⟩ := id h_t_7
  obtain ⟨S_t_11, R_t_11, B_t_11, A_t_11_0, S_t_11_1, R_t_11_1, B_t_11_1, Q0_t_11, Q1_t_11, Q2_t_11⟩ := id h_t_11
  obtain ⟨S_t_17, R_t_17, B_t_17, A_t_17_0, S_20, R_20, B_20, A_t_17_1, S_t_17_1, R_t_17_1, B_t_17_1, A_t_17_2, S_t_17_2, R_t_17_2, B_t_17_2, A_t_17_3, S_t_17_3, R_t_17_3, B_t_17_3, A_t_17_4, S_t_17_4, R_t_17_4, B_t_17_4, A_t_17_5, S_t_17_5, R_t_17_5, B_t_17_5, S_t_17_6, R_t_17_6, B_t_17_6, S_t_17_7, R_t_17_7, B_t_17_7⟩ := id h_t_17
  have N1 := gc_dj_LT h_a1 h_t
  have hD : gv_D (gc_E6 ws0 tb 4 (yX6_readSaids, cX6_readSaids, 4, (some .boolean)) kX6_readSaids) := gq_ok oX6_readSaids
  refine gc_ev6 (d := 4) (l := kX6_readSaids) (Po := fun r h' => (∃ (I' : gr_I) (J' : gr_J), h' = gc_h sh I' J' A ∧ gc_Inv ro I' ∧ (∀ q j : Nat, ((q = 39 ∧ j = 3) ∨ (q = 39 ∧ j = 4) ∨ (q = 23 ∧ j = 5) ∨ (q = 23 ∧ j = 6) ∨ (q = 23 ∧ j = 7) ∨ (q = 23 ∧ j = 8) ∨ q = (a1 + 7) ∨ (q = a1 ∧ j = 12) ∨ q = (a1 + 8) ∨ (q = a1 ∧ j = 14)) ∨ I' q j = I q j) ∧ (∀ q j : Nat, ((q = 23 ∧ j = 9)) ∨ J' q j = J q j) ∧ gc_LT I' ∧ (∃ z : Int, r = some (.inl z) ∧ 0 ≤ z ∧ z ≤ 1 ∧ (I' 23 5 ≤ I' 23 6) ∧ (I' 23 7 = 5 ∨ I' 23 6 ≤ I' 23 1) ∧ (I' 23 5 ≤ I' 23 1) ∧ (I' 23 7 = 4 ∨ (I' 23 5 < I' 23 6 ∧ I' 23 5 < I' 23 1)) ∧ (I' 23 7 = 3 → 2 ≤ I' 23 6 - I' 23 5 ∧ I' 23 6 - I' 23 5 ≤ 14) ∧ (I' 23 1 = I 23 1) ∧ (I 23 5 ≤ I' 23 5)))) htb rfl (Nat.le_of_ble_eq_true rfl) ?_
  have f1 := (show 0 ≤ I 23 1 ∧ I 23 1 ≤ 1000 from gc_in hI R_23 rfl rfl)
  have f2 := (show 0 ≤ I 23 5 ∧ I 23 5 ≤ 1000 from gc_in hI R_23 rfl rfl)
  have f3 := (show 0 ≤ I 23 6 ∧ I 23 6 ≤ 1001 from gc_in hI R_23 rfl rfl)
  have f4 := (show 0 ≤ I 23 7 ∧ I 23 7 ≤ 125 from gc_in hI R_23 rfl rfl)
  have f5 := (show 0 ≤ I a1 12 ∧ I a1 12 ≤ 6 from gc_in hI R_a1 rfl rfl)
  have f6 := (show 0 ≤ I a1 14 ∧ I a1 14 ≤ 6 from gc_in hI R_a1 rfl rfl)
  have f7 := (show (-1) ≤ I 39 2 ∧ I 39 2 ≤ 999999 from gc_in hI R_39 rfl rfl)
  have L2 : ∀ (n9 : Nat) (I8 : gr_I) (J9 : gr_J) (v2_10 : Int), (8 - v2_10).toNat < n9 → gc_Inv ro I8 → (∀ q j : Nat, ((q = 39 ∧ j = 3) ∨ (q = 39 ∧ j = 4) ∨ (q = 23 ∧ j = 5) ∨ (q = 23 ∧ j = 6) ∨ (q = 23 ∧ j = 7) ∨ (q = 23 ∧ j = 8) ∨ q = (a1 + 7) ∨ (q = a1 ∧ j = 12) ∨ q = (a1 + 8) ∨ (q = a1 ∧ j = 14)) ∨ I8 q j = I q j) → (∀ q j : Nat, ((q = 23 ∧ j = 9)) ∨ J9 q j = J q j) → gc_LT I8 → ((0 ≤ v2_10 ∧ v2_10 ≤ 7) ∧ (I8 23 5 ≤ I8 23 6) ∧ (I8 23 7 = 5 ∨ I8 23 6 ≤ I8 23 1) ∧ (I8 23 5 ≤ I8 23 1) ∧ (I8 23 7 = 4 ∨ (I8 23 5 < I8 23 6 ∧ I8 23 5 < I8 23 1)) ∧ (I8 23 7 = 3 → 2 ≤ I8 23 6 - I8 23 5 ∧ I8 23 6 - I8 23 5 ≤ 14) ∧ (I8 23 1 = I 23 1) ∧ (I 23 5 ≤ I8 23 5) ∧ (I8 a1 12 + I8 a1 14 ≤ 6) ∧ (I8 39 2 = (t : Int))) → gv_X (gc_E6 ws0 tb 4 (yX6_readSaids, cX6_readSaids, 4, (some .boolean)) kX6_readSaids) (gv_Q cX6_readSaids (some .boolean) sh (fun r h' => (∃ (I' : gr_I) (J' : gr_J), h' = gc_h sh I' J' A ∧ gc_Inv ro I' ∧ (∀ q j : Nat, ((q = 39 ∧ j = 3) ∨ (q = 39 ∧ j = 4) ∨ (q = 23 ∧ j = 5) ∨ (q = 23 ∧ j = 6) ∨ (q = 23 ∧ j = 7) ∨ (q = 23 ∧ j = 8) ∨ q = (a1 + 7) ∨ (q = a1 ∧ j = 12) ∨ q = (a1 + 8) ∨ (q = a1 ∧ j = 14)) ∨ I' q j = I q j) ∧ (∀ q j : Nat, ((q = 23 ∧ j = 9)) ∨ J' q j = J q j) ∧ gc_LT I' ∧ (∃ z : Int, r = some (.inl z) ∧ 0 ≤ z ∧ z ≤ 1 ∧ (I' 23 5 ≤ I' 23 6) ∧ (I' 23 7 = 5 ∨ I' 23 6 ≤ I' 23 1) ∧ (I' 23 5 ≤ I' 23 1) ∧ (I' 23 7 = 4 ∨ (I' 23 5 < I' 23 6 ∧ I' 23 5 < I' 23 1)) ∧ (I' 23 7 = 3 → 2 ≤ I' 23 6 - I' 23 5 ∧ I' 23 6 - I' 23 5 ≤ 14) ∧ (I' 23 1 = I 23 1) ∧ (I 23 5 ≤ I' 23 5))))) (2, [(0, .inr (.inr (some 39))), (1, .inr (.inr (some a1))), (2, .inl v2_10)], [], sh, gc_h sh I8 J9 A) := by
    intro n9
    induction n9 with
    | zero => intro I8 J9 v2_10 hn; omega
    | succ n9 ih2 =>
      intro I8 J9 v2_10 hn hI8 FI8 FJ9 KLT_I8 m_10
      clear x0 x1 x2 x3 x4
      obtain ⟨hv2_10, e0_10, e1_10, e2_10, e3_10, e4_10, e5_10, e6_10, e7_10, e8_10⟩ := m_10
      have f11 := (show 0 ≤ I8 23 1 ∧ I8 23 1 ≤ 1000 from gc_in hI8 R_23 rfl rfl)
      have f12 := (show 0 ≤ I8 23 5 ∧ I8 23 5 ≤ 1000 from gc_in hI8 R_23 rfl rfl)
      have f13 := (show 0 ≤ I8 23 6 ∧ I8 23 6 ≤ 1001 from gc_in hI8 R_23 rfl rfl)
      have f14 := (show 0 ≤ I8 23 7 ∧ I8 23 7 ≤ 125 from gc_in hI8 R_23 rfl rfl)
      have f15 := (show 0 ≤ I8 a1 12 ∧ I8 a1 12 ≤ 6 from gc_in hI8 R_a1 rfl rfl)
      have f16 := (show 0 ≤ I8 a1 14 ∧ I8 a1 14 ≤ 6 from gc_in hI8 R_a1 rfl rfl)
      have f17 := (show (-1) ≤ I8 39 2 ∧ I8 39 2 ≤ 999999 from gc_in hI8 R_39 rfl rfl)
      have L62 : ∀ (I18 : gr_I) (J19 : gr_J) (v3_20 : Int), gc_Inv ro I18 → (∀ q j : Nat, ((q = 39 ∧ j = 3) ∨ (q = 39 ∧ j = 4) ∨ (q = 23 ∧ j = 5) ∨ (q = 23 ∧ j = 6) ∨ (q = 23 ∧ j = 7) ∨ (q = 23 ∧ j = 8) ∨ q = (a1 + 7) ∨ (q = a1 ∧ j = 12) ∨ q = (a1 + 8) ∨ (q = a1 ∧ j = 14)) ∨ I18 q j = I q j) → (∀ q j : Nat, ((q = 23 ∧ j = 9)) ∨ J19 q j = J q j) → gc_LT I18 → ((0 ≤ v2_10 ∧ v2_10 ≤ 6) ∧ (0 ≤ v3_20 ∧ v3_20 ≤ 1) ∧ (I18 23 7 = 1) ∧ (I18 23 5 ≤ I18 23 6) ∧ (I18 23 7 = 5 ∨ I18 23 6 ≤ I18 23 1) ∧ (I18 23 5 ≤ I18 23 1) ∧ (I18 23 7 = 4 ∨ (I18 23 5 < I18 23 6 ∧ I18 23 5 < I18 23 1)) ∧ (I18 23 7 = 3 → 2 ≤ I18 23 6 - I18 23 5 ∧ I18 23 6 - I18 23 5 ≤ 14) ∧ (I18 23 1 = I 23 1) ∧ (I 23 5 ≤ I18 23 5) ∧ (I18 a1 12 + I18 a1 14 ≤ 6) ∧ (I18 39 2 = (t : Int))) → gv_X (gc_E6 ws0 tb 4 (yX6_readSaids, cX6_readSaids, 4, (some .boolean)) kX6_readSaids) (gv_Q cX6_readSaids (some .boolean) sh (fun r h' => (∃ (I' : gr_I) (J' : gr_J), h' = gc_h sh I' J' A ∧ gc_Inv ro I' ∧ (∀ q j : Nat, ((q = 39 ∧ j = 3) ∨ (q = 39 ∧ j = 4) ∨ (q = 23 ∧ j = 5) ∨ (q = 23 ∧ j = 6) ∨ (q = 23 ∧ j = 7) ∨ (q = 23 ∧ j = 8) ∨ q = (a1 + 7) ∨ (q = a1 ∧ j = 12) ∨ q = (a1 + 8) ∨ (q = a1 ∧ j = 14)) ∨ I' q j = I q j) ∧ (∀ q j : Nat, ((q = 23 ∧ j = 9)) ∨ J' q j = J q j) ∧ gc_LT I' ∧ (∃ z : Int, r = some (.inl z) ∧ 0 ≤ z ∧ z ≤ 1 ∧ (I' 23 5 ≤ I' 23 6) ∧ (I' 23 7 = 5 ∨ I' 23 6 ≤ I' 23 1) ∧ (I' 23 5 ≤ I' 23 1) ∧ (I' 23 7 = 4 ∨ (I' 23 5 < I' 23 6 ∧ I' 23 5 < I' 23 1)) ∧ (I' 23 7 = 3 → 2 ≤ I' 23 6 - I' 23 5 ∧ I' 23 6 - I' 23 5 ≤ 14) ∧ (I' 23 1 = I 23 1) ∧ (I 23 5 ≤ I' 23 5))))) (62, [(0, .inr (.inr (some 39))), (1, .inr (.inr (some a1))), (2, .inl v2_10), (3, .inl v3_20)], [], sh, gc_h sh I18 J19 A) := by
        intro I18 J19 v3_20 hI18 FI18 FJ19 KLT_I18 m_20
        clear hv2_10 e0_10 e1_10 e2_10 e3_10 e4_10 e5_10 e6_10 e7_10 e8_10 f11 f12 f13 f14 f15 f16 f17
        obtain ⟨hv2_10_20, hv3_20, e0_20, e1_20, e2_20, e3_20, e4_20, e5_20, e6_20, e7_20, e8_20, e9_20⟩ := m_20
        have f21 := (show 0 ≤ I18 23 1 ∧ I18 23 1 ≤ 1000 from gc_in hI18 R_23 rfl rfl)
        have f22 := (show 0 ≤ I18 23 5 ∧ I18 23 5 ≤ 1000 from gc_in hI18 R_23 rfl rfl)
        have f23 := (show 0 ≤ I18 23 6 ∧ I18 23 6 ≤ 1001 from gc_in hI18 R_23 rfl rfl)
        have f24 := (show 0 ≤ I18 23 7 ∧ I18 23 7 ≤ 125 from gc_in hI18 R_23 rfl rfl)
        have f25 := (show 0 ≤ I18 a1 12 ∧ I18 a1 12 ≤ 6 from gc_in hI18 R_a1 rfl rfl)
        have f26 := (show 0 ≤ I18 a1 14 ∧ I18 a1 14 ≤ 6 from gc_in hI18 R_a1 rfl rfl)
        have f27 := (show (-1) ≤ I18 39 2 ∧ I18 39 2 ≤ 999999 from gc_in hI18 R_39 rfl rfl)
        have L121 : ∀ (I28 : gr_I) (J29 : gr_J) , gc_Inv ro I28 → (∀ q j : Nat, ((q = 39 ∧ j = 3) ∨ (q = 39 ∧ j = 4) ∨ (q = 23 ∧ j = 5) ∨ (q = 23 ∧ j = 6) ∨ (q = 23 ∧ j = 7) ∨ (q = 23 ∧ j = 8) ∨ q = (a1 + 7) ∨ (q = a1 ∧ j = 12) ∨ q = (a1 + 8) ∨ (q = a1 ∧ j = 14)) ∨ I28 q j = I q j) → (∀ q j : Nat, ((q = 23 ∧ j = 9)) ∨ J29 q j = J q j) → gc_LT I28 → ((0 ≤ v2_10 ∧ v2_10 ≤ 6) ∧ (I28 23 5 ≤ I28 23 6) ∧ (I28 23 7 = 5 ∨ I28 23 6 ≤ I28 23 1) ∧ (I28 23 5 ≤ I28 23 1) ∧ (I28 23 7 = 4 ∨ (I28 23 5 < I28 23 6 ∧ I28 23 5 < I28 23 1)) ∧ (I28 23 7 = 3 → 2 ≤ I28 23 6 - I28 23 5 ∧ I28 23 6 - I28 23 5 ≤ 14) ∧ (I28 23 1 = I 23 1) ∧ (I 23 5 ≤ I28 23 5) ∧ (I28 a1 12 + I28 a1 14 ≤ 6) ∧ (I28 39 2 = (t : Int))) → gv_X (gc_E6 ws0 tb 4 (yX6_readSaids, cX6_readSaids, 4, (some .boolean)) kX6_readSaids) (gv_Q cX6_readSaids (some .boolean) sh (fun r h' => (∃ (I' : gr_I) (J' : gr_J), h' = gc_h sh I' J' A ∧ gc_Inv ro I' ∧ (∀ q j : Nat, ((q = 39 ∧ j = 3) ∨ (q = 39 ∧ j = 4) ∨ (q = 23 ∧ j = 5) ∨ (q = 23 ∧ j = 6) ∨ (q = 23 ∧ j = 7) ∨ (q = 23 ∧ j = 8) ∨ q = (a1 + 7) ∨ (q = a1 ∧ j = 12) ∨ q = (a1 + 8) ∨ (q = a1 ∧ j = 14)) ∨ I' q j = I q j) ∧ (∀ q j : Nat, ((q = 23 ∧ j = 9)) ∨ J' q j = J q j) ∧ gc_LT I' ∧ (∃ z : Int, r = some (.inl z) ∧ 0 ≤ z ∧ z ≤ 1 ∧ (I' 23 5 ≤ I' 23 6) ∧ (I' 23 7 = 5 ∨ I' 23 6 ≤ I' 23 1) ∧ (I' 23 5 ≤ I' 23 1) ∧ (I' 23 7 = 4 ∨ (I' 23 5 < I' 23 6 ∧ I' 23 5 < I' 23 1)) ∧ (I' 23 7 = 3 → 2 ≤ I' 23 6 - I' 23 5 ∧ I' 23 6 - I' 23 5 ≤ 14) ∧ (I' 23 1 = I 23 1) ∧ (I 23 5 ≤ I' 23 5))))) (121, [(0, .inr (.inr (some 39))), (1, .inr (.inr (some a1))), (2, .inl v2_10)], [], sh, gc_h sh I28 J29 A) := by
          intro I28 J29 hI28 FI28 FJ29 KLT_I28 m_30
          clear hv2_10_20 hv3_20 e0_20 e1_20 e2_20 e3_20 e4_20 e5_20 e6_20 e7_20 e8_20 e9_20 f21 f22 f23 f24 f25 f26 f27
          obtain ⟨hv2_10_30, e0_30, e1_30, e2_30, e3_30, e4_30, e5_30, e6_30, e7_30, e8_30⟩ := m_30
          have f31 := (show 0 ≤ I28 23 1 ∧ I28 23 1 ≤ 1000 from gc_in hI28 R_23 rfl rfl)
          have f32 := (show 0 ≤ I28 23 5 ∧ I28 23 5 ≤ 1000 from gc_in hI28 R_23 rfl rfl)
          have f33 := (show 0 ≤ I28 23 6 ∧ I28 23 6 ≤ 1001 from gc_in hI28 R_23 rfl rfl)
          have f34 := (show 0 ≤ I28 23 7 ∧ I28 23 7 ≤ 125 from gc_in hI28 R_23 rfl rfl)
          have f35 := (show 0 ≤ I28 a1 12 ∧ I28 a1 12 ≤ 6 from gc_in hI28 R_a1 rfl rfl)
          have f36 := (show 0 ≤ I28 a1 14 ∧ I28 a1 14 ≤ 6 from gc_in hI28 R_a1 rfl rfl)
          have f37 := (show (-1) ≤ I28 39 2 ∧ I28 39 2 ≤ 999999 from gc_in hI28 R_39 rfl rfl)
          refine gv_run 2 true hD (pc' := 2) (lv' := [(2, .inl (v2_10 + 1)), (0, .inr (.inr (some 39))), (1, .inr (.inr (some a1)))]) (st' := []) (h' := gc_h sh I28 J29 A) (C := ((True ∧ True) ∧ True)) rfl ⟨⟨trivial, trivial⟩, trivial⟩ ?_
          refine gv_pick [1, 2, 0] rfl ?_
          exact ih2 I28 J29 (v2_10 + 1) (by omega) hI28 FI28 FJ29 KLT_I28 (by omega)
        have L119 : ∀ (I38 : gr_I) (J39 : gr_J) , gc_Inv ro I38 → (∀ q j : Nat, ((q = 39 ∧ j = 3) ∨ (q = 39 ∧ j = 4) ∨ (q = 23 ∧ j = 5) ∨ (q = 23 ∧ j = 6) ∨ (q = 23 ∧ j = 7) ∨ (q = 23 ∧ j = 8) ∨ q = (a1 + 7) ∨ (q = a1 ∧ j = 12) ∨ q = (a1 + 8) ∨ (q = a1 ∧ j = 14)) ∨ I38 q j = I q j) → (∀ q j : Nat, ((q = 23 ∧ j = 9)) ∨ J39 q j = J q j) → gc_LT I38 → ((I38 23 5 ≤ I38 23 6) ∧ (I38 23 7 = 5 ∨ I38 23 6 ≤ I38 23 1) ∧ (I38 23 5 ≤ I38 23 1) ∧ (I38 23 7 = 4 ∨ (I38 23 5 < I38 23 6 ∧ I38 23 5 < I38 23 1)) ∧ (I38 23 7 = 3 → 2 ≤ I38 23 6 - I38 23 5 ∧ I38 23 6 - I38 23 5 ≤ 14) ∧ (I38 23 1 = I 23 1) ∧ (I 23 5 ≤ I38 23 5) ∧ (I38 a1 12 + I38 a1 14 ≤ 6) ∧ (I38 39 2 = (t : Int))) → gv_X (gc_E6 ws0 tb 4 (yX6_readSaids, cX6_readSaids, 4, (some .boolean)) kX6_readSaids) (gv_Q cX6_readSaids (some .boolean) sh (fun r h' => (∃ (I' : gr_I) (J' : gr_J), h' = gc_h sh I' J' A ∧ gc_Inv ro I' ∧ (∀ q j : Nat, ((q = 39 ∧ j = 3) ∨ (q = 39 ∧ j = 4) ∨ (q = 23 ∧ j = 5) ∨ (q = 23 ∧ j = 6) ∨ (q = 23 ∧ j = 7) ∨ (q = 23 ∧ j = 8) ∨ q = (a1 + 7) ∨ (q = a1 ∧ j = 12) ∨ q = (a1 + 8) ∨ (q = a1 ∧ j = 14)) ∨ I' q j = I q j) ∧ (∀ q j : Nat, ((q = 23 ∧ j = 9)) ∨ J' q j = J q j) ∧ gc_LT I' ∧ (∃ z : Int, r = some (.inl z) ∧ 0 ≤ z ∧ z ≤ 1 ∧ (I' 23 5 ≤ I' 23 6) ∧ (I' 23 7 = 5 ∨ I' 23 6 ≤ I' 23 1) ∧ (I' 23 5 ≤ I' 23 1) ∧ (I' 23 7 = 4 ∨ (I' 23 5 < I' 23 6 ∧ I' 23 5 < I' 23 1)) ∧ (I' 23 7 = 3 → 2 ≤ I' 23 6 - I' 23 5 ∧ I' 23 6 - I' 23 5 ≤ 14) ∧ (I' 23 1 = I 23 1) ∧ (I 23 5 ≤ I' 23 5))))) (119, [], [], sh, gc_h sh I38 J39 A) := by
          intro I38 J39 hI38 FI38 FJ39 KLT_I38 m_40
          clear hv2_10_20 hv3_20 e0_20 e1_20 e2_20 e3_20 e4_20 e5_20 e6_20 e7_20 e8_20 e9_20 f21 f22 f23 f24 f25 f26 f27
          obtain ⟨e0_40, e1_40, e2_40, e3_40, e4_40, e5_40, e6_40, e7_40, e8_40⟩ := m_40
          have f41 := (show 0 ≤ I38 23 1 ∧ I38 23 1 ≤ 1000 from gc_in hI38 R_23 rfl rfl)
          have f42 := (show 0 ≤ I38 23 5 ∧ I38 23 5 ≤ 1000 from gc_in hI38 R_23 rfl rfl)
          have f43 := (show 0 ≤ I38 23 6 ∧ I38 23 6 ≤ 1001 from gc_in hI38 R_23 rfl rfl)
          have f44 := (show 0 ≤ I38 23 7 ∧ I38 23 7 ≤ 125 from gc_in hI38 R_23 rfl rfl)
          have f45 := (show 0 ≤ I38 a1 12 ∧ I38 a1 12 ≤ 6 from gc_in hI38 R_a1 rfl rfl)
          have f46 := (show 0 ≤ I38 a1 14 ∧ I38 a1 14 ≤ 6 from gc_in hI38 R_a1 rfl rfl)
          have f47 := (show (-1) ≤ I38 39 2 ∧ I38 39 2 ≤ 999999 from gc_in hI38 R_39 rfl rfl)
          refine gv_run 1 true hD (pc' := 120) (lv' := []) (st' := [.inl 0]) (h' := gc_h sh I38 J39 A) (C := (True ∧ True)) rfl ⟨trivial, trivial⟩ ?_
          exact gv_zret hD rfl (by omega) ⟨I38, J39, rfl, hI38, FI38, FJ39, KLT_I38, ⟨_, rfl, by omega⟩⟩
        refine gv_run 1 true hD (pc' := 63) (lv' := [(0, .inr (.inr (some 39))), (1, .inr (.inr (some a1))), (2, .inl v2_10), (3, .inl v3_20)]) (st' := [.inr (.inr (some a1))]) (h' := gc_h sh I18 J19 A) (C := (True ∧ True)) rfl ⟨trivial, trivial⟩ ?_
        have f48 := (show 0 ≤ I18 a1 12 ∧ I18 a1 12 ≤ 6 from gc_in hI18 R_a1 rfl rfl)
        refine gv_get hD rfl rfl S_a1 ⟨by decide, B_a1⟩ (gc_hI S_a1 rfl) ?_
        show gv_X _ _ (66, [(0, .inr (.inr (some 39))), (1, .inr (.inr (some a1))), (2, .inl v2_10), (3, .inl v3_20)], [.inl (I18 a1 12)], sh, gc_h sh I18 J19 A)
        refine gv_run 1 true hD (pc' := 67) (lv' := [(0, .inr (.inr (some 39))), (1, .inr (.inr (some a1))), (2, .inl v2_10), (3, .inl v3_20)]) (st' := [.inr (.inr (some a1)), .inl (I18 a1 12)]) (h' := gc_h sh I18 J19 A) (C := (True ∧ True)) rfl ⟨trivial, trivial⟩ ?_
        have f49 := (show 0 ≤ I18 a1 14 ∧ I18 a1 14 ≤ 6 from gc_in hI18 R_a1 rfl rfl)
        refine gv_get hD rfl rfl S_a1 ⟨by decide, B_a1⟩ (gc_hI S_a1 rfl) ?_
        show gv_X _ _ (70, [(0, .inr (.inr (some 39))), (1, .inr (.inr (some a1))), (2, .inl v2_10), (3, .inl v3_20)], [.inl (I18 a1 14), .inl (I18 a1 12)], sh, gc_h sh I18 J19 A)
        refine gv_run 2 true hD (pc' := 73) (lv' := [(0, .inr (.inr (some 39))), (1, .inr (.inr (some a1))), (2, .inl v2_10), (3, .inl v3_20)]) (st' := [.inl 6, .inl ((I18 a1 12) + (I18 a1 14))]) (h' := gc_h sh I18 J19 A) (C := ((True ∧ True) ∧ True)) rfl ⟨⟨trivial, trivial⟩, trivial⟩ ?_
        refine gv_icmp_ne (t := 89) hD rfl rfl ⟨⟨by omega, by omega⟩, ⟨by omega, by omega⟩⟩ (fun c50 => ?_) (fun c50 => ?_)
        · show gv_X _ _ (89, [(0, .inr (.inr (some 39))), (1, .inr (.inr (some a1))), (2, .inl v2_10), (3, .inl v3_20)], [], sh, gc_h sh I18 J19 A)
          refine gv_run 1 true hD (pc' := 90) (lv' := [(0, .inr (.inr (some 39))), (1, .inr (.inr (some a1))), (2, .inl v2_10), (3, .inl v3_20)]) (st' := [.inr (.inr (some 39))]) (h' := gc_h sh I18 J19 A) (C := (True ∧ True)) rfl ⟨trivial, trivial⟩ ?_
          refine gv_get hD rfl rfl S_39 ⟨by decide, B_39⟩ (gc_hA S_39 rfl A_39_1) ?_
          show gv_X _ _ (93, [(0, .inr (.inr (some 39))), (1, .inr (.inr (some a1))), (2, .inl v2_10), (3, .inl v3_20)], [.inr (.inr (some 23))], sh, gc_h sh I18 J19 A)
          obtain ⟨r51, h51, E51, P51⟩ := d_X9_advance (ws0 := ws0) (tb := tb) hws htb sh ro I18 J19 A hI18 23  (gc_b23 hb)    (by omega) 
          obtain ⟨I52, J53, rfl, hI52, g51, k51, ⟨rfl, q51⟩⟩ := P51
          have FI52 := gc_frc (W := fun q j => (q = 39 ∧ j = 3) ∨ (q = 39 ∧ j = 4) ∨ (q = 23 ∧ j = 5) ∨ (q = 23 ∧ j = 6) ∨ (q = 23 ∧ j = 7) ∨ (q = 23 ∧ j = 8) ∨ q = (a1 + 7) ∨ (q = a1 ∧ j = 12) ∨ q = (a1 + 8) ∨ (q = a1 ∧ j = 14)) (V := fun q j => (q = 23 ∧ j = 5) ∨ (q = 23 ∧ j = 6) ∨ (q = 23 ∧ j = 7) ∨ (q = 23 ∧ j = 8)) FI18 (fun q j h => (h.elim (fun h => (Or.inr (Or.inr (Or.inl h)))) (fun h => (h.elim (fun h => (Or.inr (Or.inr (Or.inr (Or.inl h))))) (fun h => (h.elim (fun h => (Or.inr (Or.inr (Or.inr (Or.inr (Or.inl h)))))) (fun h => (Or.inr (Or.inr (Or.inr (Or.inr (Or.inr (Or.inl h))))))))))))) g51
          have FJ53 := gc_frc (W := fun q j => (q = 23 ∧ j = 9)) (V := fun q j => (q = 23 ∧ j = 9)) FJ19 (fun q j h => h) k51
          have t54 := (g51 23 1).resolve_left (by omega)
          have t55 := (g51 a1 12).resolve_left (by omega)
          have t56 := (g51 a1 14).resolve_left (by omega)
          have t57 := (g51 39 2).resolve_left (by omega)
          have f58 := (show 0 ≤ I52 23 1 ∧ I52 23 1 ≤ 1000 from gc_in hI52 R_23 rfl rfl)
          have f59 := (show 0 ≤ I52 23 5 ∧ I52 23 5 ≤ 1000 from gc_in hI52 R_23 rfl rfl)
          have f60 := (show 0 ≤ I52 23 6 ∧ I52 23 6 ≤ 1001 from gc_in hI52 R_23 rfl rfl)
          have f61 := (show 0 ≤ I52 23 7 ∧ I52 23 7 ≤ 125 from gc_in hI52 R_23 rfl rfl)
          have f62 := (show 0 ≤ I52 a1 12 ∧ I52 a1 12 ≤ 6 from gc_in hI52 R_a1 rfl rfl)
          have f63 := (show 0 ≤ I52 a1 14 ∧ I52 a1 14 ≤ 6 from gc_in hI52 R_a1 rfl rfl)
          have f64 := (show (-1) ≤ I52 39 2 ∧ I52 39 2 ≤ 999999 from gc_in hI52 R_39 rfl rfl)
          have KLT_I52 : gc_LT I52 := q51.2.2.2.2.2.2.2
          refine gv_callV hD rfl (As := []) (st := []) rfl B_23 S_23 rfl (gc_lV6 hws rfl) (Nat.le_of_ble_eq_true rfl) (gz_Ev_mono (d := 2) (by decide) E51) ?_
          show gv_X _ _ (96, [(0, .inr (.inr (some 39))), (1, .inr (.inr (some a1))), (2, .inl v2_10), (3, .inl v3_20)], [], sh, gc_h sh I52 J53 A)
          refine gv_run 1 true hD (pc' := 97) (lv' := [(0, .inr (.inr (some 39))), (1, .inr (.inr (some a1))), (2, .inl v2_10), (3, .inl v3_20)]) (st' := [.inl v3_20]) (h' := gc_h sh I52 J53 A) (C := (True ∧ True)) rfl ⟨trivial, trivial⟩ ?_
          refine gv_if_eq (t := 111) hD rfl rfl ⟨by omega, by omega⟩ (fun c65 => ?_) (fun c65 => ?_)
          · show gv_X _ _ (111, [(0, .inr (.inr (some 39))), (1, .inr (.inr (some a1))), (2, .inl v2_10), (3, .inl v3_20)], [], sh, gc_h sh I52 J53 A)
            refine gv_run 2 true hD (pc' := 113) (lv' := [(0, .inr (.inr (some 39))), (1, .inr (.inr (some a1))), (2, .inl v2_10), (3, .inl v3_20)]) (st' := [.inr (.inr (some a1)), .inr (.inr (some 39))]) (h' := gc_h sh I52 J53 A) (C := ((True ∧ True) ∧ True)) rfl ⟨⟨trivial, trivial⟩, trivial⟩ ?_
            obtain ⟨r66, h66, E66, P66⟩ := d_X6_readGive (ws0 := ws0) (tb := tb) hws htb sh ro I52 J53 A hI52  t a1 hb h_a1 G_a1 h_t G_t   (by omega) (by omega) (by omega) (by omega) (by omega) (by omega) (by omega) KLT_I52
            obtain ⟨I67, J68, rfl, hI67, g66, k66, KLT_I67, ⟨z66, rfl, q66⟩⟩ := P66
            have FI67 := gc_frc (W := fun q j => (q = 39 ∧ j = 3) ∨ (q = 39 ∧ j = 4) ∨ (q = 23 ∧ j = 5) ∨ (q = 23 ∧ j = 6) ∨ (q = 23 ∧ j = 7) ∨ (q = 23 ∧ j = 8) ∨ q = (a1 + 7) ∨ (q = a1 ∧ j = 12) ∨ q = (a1 + 8) ∨ (q = a1 ∧ j = 14)) (V := fun q j => (q = 39 ∧ j = 3) ∨ (q = 39 ∧ j = 4) ∨ (q = 23 ∧ j = 5) ∨ (q = 23 ∧ j = 6) ∨ (q = 23 ∧ j = 7) ∨ (q = 23 ∧ j = 8) ∨ q = (a1 + 8) ∨ (q = a1 ∧ j = 14)) FI52 (fun q j h => (h.elim (fun h => (Or.inl h)) (fun h => (h.elim (fun h => (Or.inr (Or.inl h))) (fun h => (h.elim (fun h => (Or.inr (Or.inr (Or.inl h)))) (fun h => (h.elim (fun h => (Or.inr (Or.inr (Or.inr (Or.inl h))))) (fun h => (h.elim (fun h => (Or.inr (Or.inr (Or.inr (Or.inr (Or.inl h)))))) (fun h => (h.elim (fun h => (Or.inr (Or.inr (Or.inr (Or.inr (Or.inr (Or.inl h))))))) (fun h => (h.elim (fun h => (Or.inr (Or.inr (Or.inr (Or.inr (Or.inr (Or.inr (Or.inr (Or.inr (Or.inl h)))))))))) (fun h => (Or.inr (Or.inr (Or.inr (Or.inr (Or.inr (Or.inr (Or.inr (Or.inr (Or.inr h)))))))))))))))))))))))) g66
            have FJ68 := gc_frc (W := fun q j => (q = 23 ∧ j = 9)) (V := fun q j => (q = 23 ∧ j = 9)) FJ53 (fun q j h => h) k66
            have t69 := (g66 23 1).resolve_left (by omega)
            have t70 := (g66 a1 12).resolve_left (by omega)
            have t71 := (g66 39 2).resolve_left (by omega)
            have f72 := (show 0 ≤ I67 23 1 ∧ I67 23 1 ≤ 1000 from gc_in hI67 R_23 rfl rfl)
            have f73 := (show 0 ≤ I67 23 5 ∧ I67 23 5 ≤ 1000 from gc_in hI67 R_23 rfl rfl)
            have f74 := (show 0 ≤ I67 23 6 ∧ I67 23 6 ≤ 1001 from gc_in hI67 R_23 rfl rfl)
            have f75 := (show 0 ≤ I67 23 7 ∧ I67 23 7 ≤ 125 from gc_in hI67 R_23 rfl rfl)
            have f76 := (show 0 ≤ I67 a1 12 ∧ I67 a1 12 ≤ 6 from gc_in hI67 R_a1 rfl rfl)
            have f77 := (show 0 ≤ I67 a1 14 ∧ I67 a1 14 ≤ 6 from gc_in hI67 R_a1 rfl rfl)
            have f78 := (show (-1) ≤ I67 39 2 ∧ I67 39 2 ≤ 999999 from gc_in hI67 R_39 rfl rfl)
            refine gv_callV hD rfl (As := [.inr (.inr (some a1))]) (st := []) rfl B_39 S_39 rfl (gc_lV6 hws rfl) (Nat.le_of_ble_eq_true rfl) (gz_Ev_mono (d := 4) (by decide) E66) ?_
            show gv_X _ _ (116, [(0, .inr (.inr (some 39))), (1, .inr (.inr (some a1))), (2, .inl v2_10), (3, .inl v3_20)], [.inl z66], sh, gc_h sh I67 J68 A)
            refine gv_if_ne (t := 121) hD rfl rfl ⟨by omega, by omega⟩ (fun c79 => ?_) (fun c79 => ?_)
            · show gv_X _ _ (121, [(0, .inr (.inr (some 39))), (1, .inr (.inr (some a1))), (2, .inl v2_10), (3, .inl v3_20)], [], sh, gc_h sh I67 J68 A)
              refine gv_pick [0, 1, 2] rfl ?_
              exact L121 I67 J68 hI67 FI67 FJ68 KLT_I67 (by omega)
            · show gv_X _ _ (119, [(0, .inr (.inr (some 39))), (1, .inr (.inr (some a1))), (2, .inl v2_10), (3, .inl v3_20)], [], sh, gc_h sh I67 J68 A)
              refine gv_pick [] rfl ?_
              exact L119 I67 J68 hI67 FI67 FJ68 KLT_I67 (by omega)
          · show gv_X _ _ (100, [(0, .inr (.inr (some 39))), (1, .inr (.inr (some a1))), (2, .inl v2_10), (3, .inl v3_20)], [], sh, gc_h sh I52 J53 A)
            refine gv_run 2 true hD (pc' := 102) (lv' := [(0, .inr (.inr (some 39))), (1, .inr (.inr (some a1))), (2, .inl v2_10), (3, .inl v3_20)]) (st' := [.inr (.inr (some a1)), .inr (.inr (some 39))]) (h' := gc_h sh I52 J53 A) (C := ((True ∧ True) ∧ True)) rfl ⟨⟨trivial, trivial⟩, trivial⟩ ?_
            obtain ⟨r80, h80, E80, P80⟩ := d_X6_readAgree (ws0 := ws0) (tb := tb) hws htb sh ro I52 J53 A hI52  t a1 hb h_a1 G_a1 h_t G_t   (by omega) (by omega) (by omega) (by omega) (by omega) (by omega) (by omega) KLT_I52
            obtain ⟨I81, J82, rfl, hI81, g80, k80, KLT_I81, ⟨z80, rfl, q80⟩⟩ := P80
            have FI81 := gc_frc (W := fun q j => (q = 39 ∧ j = 3) ∨ (q = 39 ∧ j = 4) ∨ (q = 23 ∧ j = 5) ∨ (q = 23 ∧ j = 6) ∨ (q = 23 ∧ j = 7) ∨ (q = 23 ∧ j = 8) ∨ q = (a1 + 7) ∨ (q = a1 ∧ j = 12) ∨ q = (a1 + 8) ∨ (q = a1 ∧ j = 14)) (V := fun q j => (q = 39 ∧ j = 3) ∨ (q = 39 ∧ j = 4) ∨ (q = 23 ∧ j = 5) ∨ (q = 23 ∧ j = 6) ∨ (q = 23 ∧ j = 7) ∨ (q = 23 ∧ j = 8) ∨ q = (a1 + 7) ∨ (q = a1 ∧ j = 12)) FI52 (fun q j h => (h.elim (fun h => (Or.inl h)) (fun h => (h.elim (fun h => (Or.inr (Or.inl h))) (fun h => (h.elim (fun h => (Or.inr (Or.inr (Or.inl h)))) (fun h => (h.elim (fun h => (Or.inr (Or.inr (Or.inr (Or.inl h))))) (fun h => (h.elim (fun h => (Or.inr (Or.inr (Or.inr (Or.inr (Or.inl h)))))) (fun h => (h.elim (fun h => (Or.inr (Or.inr (Or.inr (Or.inr (Or.inr (Or.inl h))))))) (fun h => (h.elim (fun h => (Or.inr (Or.inr (Or.inr (Or.inr (Or.inr (Or.inr (Or.inl h)))))))) (fun h => (Or.inr (Or.inr (Or.inr (Or.inr (Or.inr (Or.inr (Or.inr (Or.inl h))))))))))))))))))))))) g80
            have FJ82 := gc_frc (W := fun q j => (q = 23 ∧ j = 9)) (V := fun q j => (q = 23 ∧ j = 9)) FJ53 (fun q j h => h) k80
            have t83 := (g80 23 1).resolve_left (by omega)
            have t84 := (g80 a1 14).resolve_left (by omega)
            have t85 := (g80 39 2).resolve_left (by omega)
            have f86 := (show 0 ≤ I81 23 1 ∧ I81 23 1 ≤ 1000 from gc_in hI81 R_23 rfl rfl)
            have f87 := (show 0 ≤ I81 23 5 ∧ I81 23 5 ≤ 1000 from gc_in hI81 R_23 rfl rfl)
            have f88 := (show 0 ≤ I81 23 6 ∧ I81 23 6 ≤ 1001 from gc_in hI81 R_23 rfl rfl)
            have f89 := (show 0 ≤ I81 23 7 ∧ I81 23 7 ≤ 125 from gc_in hI81 R_23 rfl rfl)
            have f90 := (show 0 ≤ I81 a1 12 ∧ I81 a1 12 ≤ 6 from gc_in hI81 R_a1 rfl rfl)
            have f91 := (show 0 ≤ I81 a1 14 ∧ I81 a1 14 ≤ 6 from gc_in hI81 R_a1 rfl rfl)
            have f92 := (show (-1) ≤ I81 39 2 ∧ I81 39 2 ≤ 999999 from gc_in hI81 R_39 rfl rfl)
            refine gv_callV hD rfl (As := [.inr (.inr (some a1))]) (st := []) rfl B_39 S_39 rfl (gc_lV6 hws rfl) (Nat.le_of_ble_eq_true rfl) (gz_Ev_mono (d := 4) (by decide) E80) ?_
            show gv_X _ _ (105, [(0, .inr (.inr (some 39))), (1, .inr (.inr (some a1))), (2, .inl v2_10), (3, .inl v3_20)], [.inl z80], sh, gc_h sh I81 J82 A)
            refine gv_if_eq (t := 119) hD rfl rfl ⟨by omega, by omega⟩ (fun c93 => ?_) (fun c93 => ?_)
            · show gv_X _ _ (119, [(0, .inr (.inr (some 39))), (1, .inr (.inr (some a1))), (2, .inl v2_10), (3, .inl v3_20)], [], sh, gc_h sh I81 J82 A)
              refine gv_pick [] rfl ?_
              exact L119 I81 J82 hI81 FI81 FJ82 KLT_I81 (by omega)
            · show gv_X _ _ (108, [(0, .inr (.inr (some 39))), (1, .inr (.inr (some a1))), (2, .inl v2_10), (3, .inl v3_20)], [], sh, gc_h sh I81 J82 A)
              refine gv_run 1 true hD (pc' := 121) (lv' := [(0, .inr (.inr (some 39))), (1, .inr (.inr (some a1))), (2, .inl v2_10), (3, .inl v3_20)]) (st' := []) (h' := gc_h sh I81 J82 A) (C := (True ∧ True)) rfl ⟨trivial, trivial⟩ ?_
              refine gv_pick [0, 1, 2] rfl ?_
              exact L121 I81 J82 hI81 FI81 FJ82 KLT_I81 (by omega)
        · show gv_X _ _ (76, [(0, .inr (.inr (some 39))), (1, .inr (.inr (some a1))), (2, .inl v2_10), (3, .inl v3_20)], [], sh, gc_h sh I18 J19 A)
          refine gv_run 3 true hD (pc' := 79) (lv' := [(0, .inr (.inr (some 39))), (1, .inr (.inr (some a1))), (2, .inl v2_10), (3, .inl v3_20)]) (st' := [.inr (.inr (some 39)), .inl 5, .inr (.inr (some 39))]) (h' := gc_h sh I18 J19 A) (C := (((True ∧ True) ∧ True) ∧ True)) rfl ⟨⟨⟨trivial, trivial⟩, trivial⟩, trivial⟩ ?_
          refine gv_get hD rfl rfl S_39 ⟨by decide, B_39⟩ (gc_hA S_39 rfl A_39_1) ?_
          show gv_X _ _ (82, [(0, .inr (.inr (some 39))), (1, .inr (.inr (some a1))), (2, .inl v2_10), (3, .inl v3_20)], [.inr (.inr (some 23)), .inl 5, .inr (.inr (some 39))], sh, gc_h sh I18 J19 A)
          have f94 := (show 0 ≤ I18 23 5 ∧ I18 23 5 ≤ 1000 from gc_in hI18 R_23 rfl rfl)
          refine gv_get hD rfl rfl S_23 ⟨by decide, B_23⟩ (gc_hI S_23 rfl) ?_
          show gv_X _ _ (85, [(0, .inr (.inr (some 39))), (1, .inr (.inr (some a1))), (2, .inl v2_10), (3, .inl v3_20)], [.inl (I18 23 5), .inl 5, .inr (.inr (some 39))], sh, gc_h sh I18 J19 A)
          obtain ⟨r95, h95, E95, P95⟩ := d_X6_wrong (ws0 := ws0) (tb := tb) hws htb sh ro I18 J19 A hI18  5 (I18 23 5) hb   ⟨by omega, by omega⟩ ⟨by omega, by omega⟩  
          obtain ⟨I96, J97, rfl, hI96, g95, k95, ⟨z95, rfl, q95⟩⟩ := P95
          have FI96 := gc_frc (W := fun q j => (q = 39 ∧ j = 3) ∨ (q = 39 ∧ j = 4) ∨ (q = 23 ∧ j = 5) ∨ (q = 23 ∧ j = 6) ∨ (q = 23 ∧ j = 7) ∨ (q = 23 ∧ j = 8) ∨ q = (a1 + 7) ∨ (q = a1 ∧ j = 12) ∨ q = (a1 + 8) ∨ (q = a1 ∧ j = 14)) (V := fun q j => (q = 39 ∧ j = 3) ∨ (q = 39 ∧ j = 4)) FI18 (fun q j h => (h.elim (fun h => (Or.inl h)) (fun h => (Or.inr (Or.inl h))))) g95
          have t98 := (g95 23 1).resolve_left (by omega)
          have t99 := (g95 23 5).resolve_left (by omega)
          have t100 := (g95 23 6).resolve_left (by omega)
          have t101 := (g95 23 7).resolve_left (by omega)
          have t102 := (g95 a1 12).resolve_left (by omega)
          have t103 := (g95 a1 14).resolve_left (by omega)
          have t104 := (g95 39 2).resolve_left (by omega)
          have f105 := (show 0 ≤ I96 23 1 ∧ I96 23 1 ≤ 1000 from gc_in hI96 R_23 rfl rfl)
          have f106 := (show 0 ≤ I96 23 5 ∧ I96 23 5 ≤ 1000 from gc_in hI96 R_23 rfl rfl)
          have f107 := (show 0 ≤ I96 23 6 ∧ I96 23 6 ≤ 1001 from gc_in hI96 R_23 rfl rfl)
          have f108 := (show 0 ≤ I96 23 7 ∧ I96 23 7 ≤ 125 from gc_in hI96 R_23 rfl rfl)
          have f109 := (show 0 ≤ I96 a1 12 ∧ I96 a1 12 ≤ 6 from gc_in hI96 R_a1 rfl rfl)
          have f110 := (show 0 ≤ I96 a1 14 ∧ I96 a1 14 ≤ 6 from gc_in hI96 R_a1 rfl rfl)
          have f111 := (show (-1) ≤ I96 39 2 ∧ I96 39 2 ≤ 999999 from gc_in hI96 R_39 rfl rfl)
          obtain rfl : J19 = J97 := funext fun q => funext fun j => ((k95 q j).resolve_left id).symm
          have KLT_I96 := gc_LT_fr KLT_I18 ((g95 23 5).resolve_left (by omega)) ((g95 23 6).resolve_left (by omega)) ((g95 23 7).resolve_left (by omega)) (fun k => (g95 24 k).resolve_left (by omega))
          refine gv_callV hD rfl (As := [.inl 5, .inl (I18 23 5)]) (st := []) rfl B_39 S_39 rfl (gc_lV6 hws rfl) (Nat.le_of_ble_eq_true rfl) (gz_Ev_mono (d := 1) (by decide) E95) ?_
          show gv_X _ _ (88, [(0, .inr (.inr (some 39))), (1, .inr (.inr (some a1))), (2, .inl v2_10), (3, .inl v3_20)], [.inl z95], sh, gc_h sh I96 J19 A)
          exact gv_zret hD rfl (by omega) ⟨I96, J19, rfl, hI96, FI96, FJ19, KLT_I96, ⟨_, rfl, by omega⟩⟩
      have L127 : ((I8 23 5 ≤ I8 23 6) ∧ (I8 23 7 = 5 ∨ I8 23 6 ≤ I8 23 1) ∧ (I8 23 5 ≤ I8 23 1) ∧ (I8 23 7 = 4 ∨ (I8 23 5 < I8 23 6 ∧ I8 23 5 < I8 23 1)) ∧ (I8 23 7 = 3 → 2 ≤ I8 23 6 - I8 23 5 ∧ I8 23 6 - I8 23 5 ≤ 14) ∧ (I8 23 1 = I 23 1) ∧ (I 23 5 ≤ I8 23 5) ∧ (I8 a1 12 + I8 a1 14 ≤ 6) ∧ (I8 39 2 = (t : Int))) → gv_X (gc_E6 ws0 tb 4 (yX6_readSaids, cX6_readSaids, 4, (some .boolean)) kX6_readSaids) (gv_Q cX6_readSaids (some .boolean) sh (fun r h' => (∃ (I' : gr_I) (J' : gr_J), h' = gc_h sh I' J' A ∧ gc_Inv ro I' ∧ (∀ q j : Nat, ((q = 39 ∧ j = 3) ∨ (q = 39 ∧ j = 4) ∨ (q = 23 ∧ j = 5) ∨ (q = 23 ∧ j = 6) ∨ (q = 23 ∧ j = 7) ∨ (q = 23 ∧ j = 8) ∨ q = (a1 + 7) ∨ (q = a1 ∧ j = 12) ∨ q = (a1 + 8) ∨ (q = a1 ∧ j = 14)) ∨ I' q j = I q j) ∧ (∀ q j : Nat, ((q = 23 ∧ j = 9)) ∨ J' q j = J q j) ∧ gc_LT I' ∧ (∃ z : Int, r = some (.inl z) ∧ 0 ≤ z ∧ z ≤ 1 ∧ (I' 23 5 ≤ I' 23 6) ∧ (I' 23 7 = 5 ∨ I' 23 6 ≤ I' 23 1) ∧ (I' 23 5 ≤ I' 23 1) ∧ (I' 23 7 = 4 ∨ (I' 23 5 < I' 23 6 ∧ I' 23 5 < I' 23 1)) ∧ (I' 23 7 = 3 → 2 ≤ I' 23 6 - I' 23 5 ∧ I' 23 6 - I' 23 5 ≤ 14) ∧ (I' 23 1 = I 23 1) ∧ (I 23 5 ≤ I' 23 5))))) (127, [], [], sh, gc_h sh I8 J9 A) := by
        intro m_112
        obtain ⟨e0_112, e1_112, e2_112, e3_112, e4_112, e5_112, e6_112, e7_112, e8_112⟩ := m_112
        have f113 := (show 0 ≤ I8 23 1 ∧ I8 23 1 ≤ 1000 from gc_in hI8 R_23 rfl rfl)
        have f114 := (show 0 ≤ I8 23 5 ∧ I8 23 5 ≤ 1000 from gc_in hI8 R_23 rfl rfl)
        have f115 := (show 0 ≤ I8 23 6 ∧ I8 23 6 ≤ 1001 from gc_in hI8 R_23 rfl rfl)
        have f116 := (show 0 ≤ I8 23 7 ∧ I8 23 7 ≤ 125 from gc_in hI8 R_23 rfl rfl)
        have f117 := (show 0 ≤ I8 a1 12 ∧ I8 a1 12 ≤ 6 from gc_in hI8 R_a1 rfl rfl)
        have f118 := (show 0 ≤ I8 a1 14 ∧ I8 a1 14 ≤ 6 from gc_in hI8 R_a1 rfl rfl)
        have f119 := (show (-1) ≤ I8 39 2 ∧ I8 39 2 ≤ 999999 from gc_in hI8 R_39 rfl rfl)
        refine gv_run 1 true hD (pc' := 128) (lv' := []) (st' := [.inl 1]) (h' := gc_h sh I8 J9 A) (C := (True ∧ True)) rfl ⟨trivial, trivial⟩ ?_
        exact gv_zret hD rfl (by omega) ⟨I8, J9, rfl, hI8, FI8, FJ9, KLT_I8, ⟨_, rfl, by omega⟩⟩
      refine gv_run 2 true hD (pc' := 5) (lv' := [(0, .inr (.inr (some 39))), (1, .inr (.inr (some a1))), (2, .inl v2_10)]) (st' := [.inl 6, .inl v2_10]) (h' := gc_h sh I8 J9 A) (C := ((True ∧ True) ∧ True)) rfl ⟨⟨trivial, trivial⟩, trivial⟩ ?_
      refine gv_icmp_gt (t := 127) hD rfl rfl ⟨⟨by omega, by omega⟩, ⟨by omega, by omega⟩⟩ (fun c120 => ?_) (fun c120 => ?_)
      · show gv_X _ _ (127, [(0, .inr (.inr (some 39))), (1, .inr (.inr (some a1))), (2, .inl v2_10)], [], sh, gc_h sh I8 J9 A)
        refine gv_pick [] rfl ?_
        exact L127 (by omega)
      · show gv_X _ _ (8, [(0, .inr (.inr (some 39))), (1, .inr (.inr (some a1))), (2, .inl v2_10)], [], sh, gc_h sh I8 J9 A)
        refine gv_run 1 true hD (pc' := 9) (lv' := [(0, .inr (.inr (some 39))), (1, .inr (.inr (some a1))), (2, .inl v2_10)]) (st' := [.inr (.inr (some 39))]) (h' := gc_h sh I8 J9 A) (C := (True ∧ True)) rfl ⟨trivial, trivial⟩ ?_
        refine gv_get hD rfl rfl S_39 ⟨by decide, B_39⟩ (gc_hA S_39 rfl A_39_1) ?_
        show gv_X _ _ (12, [(0, .inr (.inr (some 39))), (1, .inr (.inr (some a1))), (2, .inl v2_10)], [.inr (.inr (some 23))], sh, gc_h sh I8 J9 A)
        have f121 := (show 0 ≤ I8 23 7 ∧ I8 23 7 ≤ 125 from gc_in hI8 R_23 rfl rfl)
        refine gv_get hD rfl rfl S_23 ⟨by decide, B_23⟩ (gc_hI S_23 rfl) ?_
        show gv_X _ _ (15, [(0, .inr (.inr (some 39))), (1, .inr (.inr (some a1))), (2, .inl v2_10)], [.inl (I8 23 7)], sh, gc_h sh I8 J9 A)
        refine gv_run 1 true hD (pc' := 17) (lv' := [(0, .inr (.inr (some 39))), (1, .inr (.inr (some a1))), (2, .inl v2_10)]) (st' := [.inl 44, .inl (I8 23 7)]) (h' := gc_h sh I8 J9 A) (C := (True ∧ True)) rfl ⟨trivial, trivial⟩ ?_
        refine gv_icmp_ne (t := 127) hD rfl rfl ⟨⟨by omega, by omega⟩, ⟨by omega, by omega⟩⟩ (fun c122 => ?_) (fun c122 => ?_)
        · show gv_X _ _ (127, [(0, .inr (.inr (some 39))), (1, .inr (.inr (some a1))), (2, .inl v2_10)], [], sh, gc_h sh I8 J9 A)
          refine gv_pick [] rfl ?_
          exact L127 (by omega)
        · show gv_X _ _ (20, [(0, .inr (.inr (some 39))), (1, .inr (.inr (some a1))), (2, .inl v2_10)], [], sh, gc_h sh I8 J9 A)
          refine gv_run 1 true hD (pc' := 21) (lv' := [(0, .inr (.inr (some 39))), (1, .inr (.inr (some a1))), (2, .inl v2_10)]) (st' := [.inr (.inr (some 39))]) (h' := gc_h sh I8 J9 A) (C := (True ∧ True)) rfl ⟨trivial, trivial⟩ ?_
          refine gv_get hD rfl rfl S_39 ⟨by decide, B_39⟩ (gc_hA S_39 rfl A_39_1) ?_
          show gv_X _ _ (24, [(0, .inr (.inr (some 39))), (1, .inr (.inr (some a1))), (2, .inl v2_10)], [.inr (.inr (some 23))], sh, gc_h sh I8 J9 A)
          obtain ⟨r123, h123, E123, P123⟩ := d_X9_advance (ws0 := ws0) (tb := tb) hws htb sh ro I8 J9 A hI8 23  (gc_b23 hb)    (by omega) 
          obtain ⟨I124, J125, rfl, hI124, g123, k123, ⟨rfl, q123⟩⟩ := P123
          have FI124 := gc_frc (W := fun q j => (q = 39 ∧ j = 3) ∨ (q = 39 ∧ j = 4) ∨ (q = 23 ∧ j = 5) ∨ (q = 23 ∧ j = 6) ∨ (q = 23 ∧ j = 7) ∨ (q = 23 ∧ j = 8) ∨ q = (a1 + 7) ∨ (q = a1 ∧ j = 12) ∨ q = (a1 + 8) ∨ (q = a1 ∧ j = 14)) (V := fun q j => (q = 23 ∧ j = 5) ∨ (q = 23 ∧ j = 6) ∨ (q = 23 ∧ j = 7) ∨ (q = 23 ∧ j = 8)) FI8 (fun q j h => (h.elim (fun h => (Or.inr (Or.inr (Or.inl h)))) (fun h => (h.elim (fun h => (Or.inr (Or.inr (Or.inr (Or.inl h))))) (fun h => (h.elim (fun h => (Or.inr (Or.inr (Or.inr (Or.inr (Or.inl h)))))) (fun h => (Or.inr (Or.inr (Or.inr (Or.inr (Or.inr (Or.inl h))))))))))))) g123
          have FJ125 := gc_frc (W := fun q j => (q = 23 ∧ j = 9)) (V := fun q j => (q = 23 ∧ j = 9)) FJ9 (fun q j h => h) k123
          have t126 := (g123 23 1).resolve_left (by omega)
          have t127 := (g123 a1 12).resolve_left (by omega)
          have t128 := (g123 a1 14).resolve_left (by omega)
          have t129 := (g123 39 2).resolve_left (by omega)
          have f130 := (show 0 ≤ I124 23 1 ∧ I124 23 1 ≤ 1000 from gc_in hI124 R_23 rfl rfl)
          have f131 := (show 0 ≤ I124 23 5 ∧ I124 23 5 ≤ 1000 from gc_in hI124 R_23 rfl rfl)
          have f132 := (show 0 ≤ I124 23 6 ∧ I124 23 6 ≤ 1001 from gc_in hI124 R_23 rfl rfl)
          have f133 := (show 0 ≤ I124 23 7 ∧ I124 23 7 ≤ 125 from gc_in hI124 R_23 rfl rfl)
          have f134 := (show 0 ≤ I124 a1 12 ∧ I124 a1 12 ≤ 6 from gc_in hI124 R_a1 rfl rfl)
          have f135 := (show 0 ≤ I124 a1 14 ∧ I124 a1 14 ≤ 6 from gc_in hI124 R_a1 rfl rfl)
          have f136 := (show (-1) ≤ I124 39 2 ∧ I124 39 2 ≤ 999999 from gc_in hI124 R_39 rfl rfl)
          have KLT_I124 : gc_LT I124 := q123.2.2.2.2.2.2.2
          refine gv_callV hD rfl (As := []) (st := []) rfl B_23 S_23 rfl (gc_lV6 hws rfl) (Nat.le_of_ble_eq_true rfl) (gz_Ev_mono (d := 2) (by decide) E123) ?_
          show gv_X _ _ (27, [(0, .inr (.inr (some 39))), (1, .inr (.inr (some a1))), (2, .inl v2_10)], [], sh, gc_h sh I124 J125 A)
          refine gv_run 2 true hD (pc' := 31) (lv' := [(0, .inr (.inr (some 39))), (1, .inr (.inr (some a1))), (2, .inl v2_10)]) (st' := [.inr (.inl (418347378021)), .inr (.inr (some 39))]) (h' := gc_h sh I124 J125 A) (C := ((True ∧ True) ∧ True)) rfl ⟨⟨trivial, trivial⟩, trivial⟩ ?_
          obtain ⟨r137, h137, E137, P137⟩ := d_X6_isWord (ws0 := ws0) (tb := tb) hws htb sh ro I124 J125 A hI124  (418347378021) hb     
          obtain ⟨rfl, ⟨z137, rfl, q137⟩⟩ := P137
          refine gv_callV hD rfl (As := [.inr (.inl (418347378021))]) (st := []) rfl B_39 S_39 rfl (gc_lV6 hws rfl) (Nat.le_of_ble_eq_true rfl) (gz_Ev_mono (d := 1) (by decide) E137) ?_
          show gv_X _ _ (34, [(0, .inr (.inr (some 39))), (1, .inr (.inr (some a1))), (2, .inl v2_10)], [.inl z137], sh, gc_h sh I124 J125 A)
          refine gv_run 2 true hD (pc' := 36) (lv' := [(3, .inl z137), (0, .inr (.inr (some 39))), (1, .inr (.inr (some a1))), (2, .inl v2_10)]) (st' := [.inl z137]) (h' := gc_h sh I124 J125 A) (C := ((True ∧ True) ∧ True)) rfl ⟨⟨trivial, trivial⟩, trivial⟩ ?_
          refine gv_if_ne (t := 62) hD rfl rfl ⟨by omega, by omega⟩ (fun c138 => ?_) (fun c138 => ?_)
          · show gv_X _ _ (62, [(3, .inl z137), (0, .inr (.inr (some 39))), (1, .inr (.inr (some a1))), (2, .inl v2_10)], [], sh, gc_h sh I124 J125 A)
            refine gv_pick [1, 2, 3, 0] rfl ?_
            exact L62 I124 J125 z137 hI124 FI124 FJ125 KLT_I124 (by omega)
          · show gv_X _ _ (39, [(3, .inl z137), (0, .inr (.inr (some 39))), (1, .inr (.inr (some a1))), (2, .inl v2_10)], [], sh, gc_h sh I124 J125 A)
            refine gv_run 2 true hD (pc' := 43) (lv' := [(3, .inl z137), (0, .inr (.inr (some 39))), (1, .inr (.inr (some a1))), (2, .inl v2_10)]) (st' := [.inr (.inl (1734964837)), .inr (.inr (some 39))]) (h' := gc_h sh I124 J125 A) (C := ((True ∧ True) ∧ True)) rfl ⟨⟨trivial, trivial⟩, trivial⟩ ?_
            obtain ⟨r139, h139, E139, P139⟩ := d_X6_isWord (ws0 := ws0) (tb := tb) hws htb sh ro I124 J125 A hI124  (1734964837) hb     
            obtain ⟨rfl, ⟨z139, rfl, q139⟩⟩ := P139
            refine gv_callV hD rfl (As := [.inr (.inl (1734964837))]) (st := []) rfl B_39 S_39 rfl (gc_lV6 hws rfl) (Nat.le_of_ble_eq_true rfl) (gz_Ev_mono (d := 1) (by decide) E139) ?_
            show gv_X _ _ (46, [(3, .inl z137), (0, .inr (.inr (some 39))), (1, .inr (.inr (some a1))), (2, .inl v2_10)], [.inl z139], sh, gc_h sh I124 J125 A)
            refine gv_if_ne (t := 62) hD rfl rfl ⟨by omega, by omega⟩ (fun c140 => ?_) (fun c140 => ?_)
            · show gv_X _ _ (62, [(3, .inl z137), (0, .inr (.inr (some 39))), (1, .inr (.inr (some a1))), (2, .inl v2_10)], [], sh, gc_h sh I124 J125 A)
              refine gv_pick [1, 2, 3, 0] rfl ?_
              exact L62 I124 J125 z137 hI124 FI124 FJ125 KLT_I124 (by omega)
            · show gv_X _ _ (49, [(3, .inl z137), (0, .inr (.inr (some 39))), (1, .inr (.inr (some a1))), (2, .inl v2_10)], [], sh, gc_h sh I124 J125 A)
              refine gv_run 3 true hD (pc' := 52) (lv' := [(3, .inl z137), (0, .inr (.inr (some 39))), (1, .inr (.inr (some a1))), (2, .inl v2_10)]) (st' := [.inr (.inr (some 39)), .inl 1, .inr (.inr (some 39))]) (h' := gc_h sh I124 J125 A) (C := (((True ∧ True) ∧ True) ∧ True)) rfl ⟨⟨⟨trivial, trivial⟩, trivial⟩, trivial⟩ ?_
              refine gv_get hD rfl rfl S_39 ⟨by decide, B_39⟩ (gc_hA S_39 rfl A_39_1) ?_
              show gv_X _ _ (55, [(3, .inl z137), (0, .inr (.inr (some 39))), (1, .inr (.inr (some a1))), (2, .inl v2_10)], [.inr (.inr (some 23)), .inl 1, .inr (.inr (some 39))], sh, gc_h sh I124 J125 A)
              have f141 := (show 0 ≤ I124 23 5 ∧ I124 23 5 ≤ 1000 from gc_in hI124 R_23 rfl rfl)
              refine gv_get hD rfl rfl S_23 ⟨by decide, B_23⟩ (gc_hI S_23 rfl) ?_
              show gv_X _ _ (58, [(3, .inl z137), (0, .inr (.inr (some 39))), (1, .inr (.inr (some a1))), (2, .inl v2_10)], [.inl (I124 23 5), .inl 1, .inr (.inr (some 39))], sh, gc_h sh I124 J125 A)
              obtain ⟨r142, h142, E142, P142⟩ := d_X6_wrong (ws0 := ws0) (tb := tb) hws htb sh ro I124 J125 A hI124  1 (I124 23 5) hb   ⟨by omega, by omega⟩ ⟨by omega, by omega⟩  
              obtain ⟨I143, J144, rfl, hI143, g142, k142, ⟨z142, rfl, q142⟩⟩ := P142
              have FI143 := gc_frc (W := fun q j => (q = 39 ∧ j = 3) ∨ (q = 39 ∧ j = 4) ∨ (q = 23 ∧ j = 5) ∨ (q = 23 ∧ j = 6) ∨ (q = 23 ∧ j = 7) ∨ (q = 23 ∧ j = 8) ∨ q = (a1 + 7) ∨ (q = a1 ∧ j = 12) ∨ q = (a1 + 8) ∨ (q = a1 ∧ j = 14)) (V := fun q j => (q = 39 ∧ j = 3) ∨ (q = 39 ∧ j = 4)) FI124 (fun q j h => (h.elim (fun h => (Or.inl h)) (fun h => (Or.inr (Or.inl h))))) g142
              have t145 := (g142 23 1).resolve_left (by omega)
              have t146 := (g142 23 5).resolve_left (by omega)
              have t147 := (g142 23 6).resolve_left (by omega)
              have t148 := (g142 23 7).resolve_left (by omega)
              have t149 := (g142 a1 12).resolve_left (by omega)
              have t150 := (g142 a1 14).resolve_left (by omega)
              have t151 := (g142 39 2).resolve_left (by omega)
              have f152 := (show 0 ≤ I143 23 1 ∧ I143 23 1 ≤ 1000 from gc_in hI143 R_23 rfl rfl)
              have f153 := (show 0 ≤ I143 23 5 ∧ I143 23 5 ≤ 1000 from gc_in hI143 R_23 rfl rfl)
              have f154 := (show 0 ≤ I143 23 6 ∧ I143 23 6 ≤ 1001 from gc_in hI143 R_23 rfl rfl)
              have f155 := (show 0 ≤ I143 23 7 ∧ I143 23 7 ≤ 125 from gc_in hI143 R_23 rfl rfl)
              have f156 := (show 0 ≤ I143 a1 12 ∧ I143 a1 12 ≤ 6 from gc_in hI143 R_a1 rfl rfl)
              have f157 := (show 0 ≤ I143 a1 14 ∧ I143 a1 14 ≤ 6 from gc_in hI143 R_a1 rfl rfl)
              have f158 := (show (-1) ≤ I143 39 2 ∧ I143 39 2 ≤ 999999 from gc_in hI143 R_39 rfl rfl)
              obtain rfl : J125 = J144 := funext fun q => funext fun j => ((k142 q j).resolve_left id).symm
              have KLT_I143 := gc_LT_fr KLT_I124 ((g142 23 5).resolve_left (by omega)) ((g142 23 6).resolve_left (by omega)) ((g142 23 7).resolve_left (by omega)) (fun k => (g142 24 k).resolve_left (by omega))
              refine gv_callV hD rfl (As := [.inl 1, .inl (I124 23 5)]) (st := []) rfl B_39 S_39 rfl (gc_lV6 hws rfl) (Nat.le_of_ble_eq_true rfl) (gz_Ev_mono (d := 1) (by decide) E142) ?_
              show gv_X _ _ (61, [(3, .inl z137), (0, .inr (.inr (some 39))), (1, .inr (.inr (some a1))), (2, .inl v2_10)], [.inl z142], sh, gc_h sh I143 J125 A)
              exact gv_zret hD rfl (by omega) ⟨I143, J125, rfl, hI143, FI143, FJ125, KLT_I143, ⟨_, rfl, by omega⟩⟩
  refine gv_run 2 true hD (pc' := 2) (lv' := [(2, .inl 0), (0, .inr (.inr (some 39))), (1, .inr (.inr (some a1)))]) (st' := []) (h' := gc_h sh I J A) (C := ((True ∧ True) ∧ True)) rfl ⟨⟨trivial, trivial⟩, trivial⟩ ?_
  refine gv_pick [1, 2, 0] rfl ?_
  exact L2 _ I J 0 (Nat.lt_succ_self _) hI FI FJ KLT_I (by omega)
