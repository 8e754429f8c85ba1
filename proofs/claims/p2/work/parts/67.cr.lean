set_option maxHeartbeats 4000000 in
set_option maxRecDepth 100000 in
theorem d_X6_readFeature {ws0 : List Cond} {tb : String → gz_T} (hws : gc_Ws ws0) (htb : gc_tbs tb) (sh : gz_Sh) (ro : Nat → Nat) (I : gr_I) (J : gr_J) (A : gc_A) (hI : gc_Inv ro I) (t : Nat)  (hb : gc_Base sh ro A) (h_t : gc_isTongue sh ro A t) (G_t : 144 ≤ t)  (x0 : I 23 5 ≤ I 23 6) (x1 : I 23 7 = 5 ∨ I 23 6 ≤ I 23 1) (x2 : I 23 5 ≤ I 23 1) (x3 : I 23 7 = 4 ∨ (I 23 5 < I 23 6 ∧ I 23 5 < I 23 1)) (x4 : I 23 7 = 3 → 2 ≤ I 23 6 - I 23 5 ∧ I 23 6 - I 23 5 ≤ 14) (x5 : I (t + 3) 1 ≤ 6 * I (t + 1) 1) (x6 : I 39 2 = (t : Int)) (KLT_I : gc_LT I) : ∃ r h', gz_Ev ws0 tb 5 (yX6_readFeature, cX6_readFeature, 7, (some .boolean)) [.inr (.inr (some 39))] sh (gc_h sh I J A) r sh h' 0 0 ∧ (∃ (I' : gr_I) (J' : gr_J), h' = gc_h sh I' J' A ∧ gc_Inv ro I' ∧ (∀ q j : Nat, ((q = 39 ∧ j = 3) ∨ (q = 39 ∧ j = 4) ∨ (q = 23 ∧ j = 5) ∨ (q = 23 ∧ j = 6) ∨ (q = 23 ∧ j = 7) ∨ (q = 23 ∧ j = 8) ∨ q = (t + 5) ∨ q = (t + 6) ∨ (q = (t + 3) ∧ j = 1) ∨ (q = (t + 1) ∧ j = 1)) ∨ I' q j = I q j) ∧ (∀ q j : Nat, ((q = 23 ∧ j = 9) ∨ q = 42 ∨ q = (t + 4) ∨ q = (t + 2)) ∨ J' q j = J q j) ∧ gc_LT I' ∧ (∃ z : Int, r = some (.inl z) ∧ 0 ≤ z ∧ z ≤ 1 ∧ (I' 23 5 ≤ I' 23 6) ∧ (I' 23 7 = 5 ∨ I' 23 6 ≤ I' 23 1) ∧ (I' 23 5 ≤ I' 23 1) ∧ (I' 23 7 = 4 ∨ (I' 23 5 < I' 23 6 ∧ I' 23 5 < I' 23 1)) ∧ (I' 23 7 = 3 → 2 ≤ I' 23 6 - I' 23 5 ∧ I' 23 6 - I' 23 5 ≤ 14) ∧ (I' 23 1 = I 23 1) ∧ (I 23 5 ≤ I' 23 5) ∧ (I' (t + 3) 1 ≤ 6 * I' (t + 1) 1))) := by
  have FI : ∀ q j : Nat, ((q = 39 ∧ j = 3) ∨ (q = 39 ∧ j = 4) ∨ (q = 23 ∧ j = 5) ∨ (q = 23 ∧ j = 6) ∨ (q = 23 ∧ j = 7) ∨ (q = 23 ∧ j = 8) ∨ q = (t + 5) ∨ q = (t + 6) ∨ (q = (t + 3) ∧ j = 1) ∨ (q = (t + 1) ∧ j = 1)) ∨ I q j = I q j := fun _ _ => Or.inr rfl
  have FJ : ∀ q j : Nat, ((q = 23 ∧ j = 9) ∨ q = 42 ∨ q = (t + 4) ∨ q = (t + 2)) ∨ J q j = J q j := fun _ _ => Or.inr rfl
  have A_39_1 : A 39 1 = some 23 := gc_bA hb rfl
  have A_39_11 : A 39 11 = some 42 := gc_bA hb rfl
  have B_23 : 23 < 1000000 := by decide
  have B_39 : 39 < 1000000 := by decide
  have B_42 : 42 < 1000000 := by decide
  have R_23 : ro 23 = 3 := gc_bR hb (by decide) rfl
  have R_39 : ro 39 = 42 := gc_bR hb (by decide) rfl
  have S_23 : sh[23]? = some (false, 9, 10) := gc_bS hb rfl
  have S_39 : sh[39]? = some (false, 6, 19) := gc_bS hb rfl
  have S_42 : sh[42]? = some (true, 2, 6) := gc_bS hb rfl
  obtain ⟨S_t, R_t, B_t, A_t_0, h_t_1, A_t_1, h_t_3, A_t_2, S_t_5, R_t_5, B_t_5, A_t_3, S_t_6, R_t_6, B_t_6, A_t_4, h_t_7, A_t_5, S_t_9, R_t_9, B_t_9, A_t_7, S_t_10, R_t_10, B_t_10, A_t_8, h_t_11, A_t_9, S_t_13, R_t_13, B_t_13, A_t_10, S_t_14, R_t_14, B_t_14, A_t_12, S_t_15, R_t_15, B_t_15, A_t_14, S_t_16, R_t_16, B_t_16, A_t_15, h_t_17⟩ := id h_t
  obtain ⟨S_t_1, R_t_1, B_t_1, A_t_1_0, S_t_1_1, R_t_1_1, B_t_1_1, Q0_t_1, Q1_t_1, Q2_t_1⟩ := id h_t_1
  obtain ⟨S_t_3, R_t_3, B_t_3, A_t_3_0, S_t_3_1, R_t_3_1, B_t_3_1, Q0_t_3, Q1_t_3, Q2_t_3⟩ := id h_t_3
  obtain ⟨S_t_7, R_t_7, B_t_7, A_t_7_0, S_t_7_1, R_t_7_1, B_t_7_1, Q0_t_7, Q1_t_7, Q2_t_7⟩ := id h_t_7
  obtain ⟨S_t_11, R_t_11, B_t_11, A_t_11_0, S_t_11_1, R_t_11_1, B_t_11_1, Q0_t_11, Q1_t_11, Q2_t_11⟩ := id h_t_11
  obtain ⟨S_t_17, R_t_17, B_t_17, A_t_17_0, S_20, R_20, B_20, A_t_17_1, S_t_17_1, R_t_17_1, B_t_17_1, A_t_17_2, S_t_17_2, R_t_17_2, B_t_17_2, A_t_17_3, S_t_17_3, R_t_17_3, B_t_17_3, A_t_17_4, S_t_17_4, R_t_17_4, B_t_17_4, A_t_17_5, S_t_17_5, R_t_17_5, B_t_17_5, S_t_17_6, R_t_17_6, B_t_17_6, S_t_17_7, R_t_17_7, B_t_17_7⟩ := id h_t_17
  have hD : gv_D (gc_E6 ws0 tb 4 (yX6_readFeature, cX6_readFeature, 7, (some .boolean)) kX6_readFeature) := gq_ok oX6_readFeature
  refine gc_ev6 (d := 4) (l := kX6_readFeature) (Po := fun r h' => (∃ (I' : gr_I) (J' : gr_J), h' = gc_h sh I' J' A ∧ gc_Inv ro I' ∧ (∀ q j : Nat, ((q = 39 ∧ j = 3) ∨ (q = 39 ∧ j = 4) ∨ (q = 23 ∧ j = 5) ∨ (q = 23 ∧ j = 6) ∨ (q = 23 ∧ j = 7) ∨ (q = 23 ∧ j = 8) ∨ q = (t + 5) ∨ q = (t + 6) ∨ (q = (t + 3) ∧ j = 1) ∨ (q = (t + 1) ∧ j = 1)) ∨ I' q j = I q j) ∧ (∀ q j : Nat, ((q = 23 ∧ j = 9) ∨ q = 42 ∨ q = (t + 4) ∨ q = (t + 2)) ∨ J' q j = J q j) ∧ gc_LT I' ∧ (∃ z : Int, r = some (.inl z) ∧ 0 ≤ z ∧ z ≤ 1 ∧ (I' 23 5 ≤ I' 23 6) ∧ (I' 23 7 = 5 ∨ I' 23 6 ≤ I' 23 1) ∧ (I' 23 5 ≤ I' 23 1) ∧ (I' 23 7 = 4 ∨ (I' 23 5 < I' 23 6 ∧ I' 23 5 < I' 23 1)) ∧ (I' 23 7 = 3 → 2 ≤ I' 23 6 - I' 23 5 ∧ I' 23 6 - I' 23 5 ≤ 14) ∧ (I' 23 1 = I 23 1) ∧ (I 23 5 ≤ I' 23 5) ∧ (I' (t + 3) 1 ≤ 6 * I' (t + 1) 1)))) htb rfl (Nat.le_of_ble_eq_true rfl) ?_
  have f1 := (show 0 ≤ I 23 1 ∧ I 23 1 ≤ 1000 from gc_in hI R_23 rfl rfl)
  have f2 := (show 0 ≤ I 23 5 ∧ I 23 5 ≤ 1000 from gc_in hI R_23 rfl rfl)
  have f3 := (show 0 ≤ I 23 6 ∧ I 23 6 ≤ 1001 from gc_in hI R_23 rfl rfl)
  have f4 := (show 0 ≤ I 23 7 ∧ I 23 7 ≤ 125 from gc_in hI R_23 rfl rfl)
  have f5 := (show 0 ≤ I (t + 3) 1 ∧ I (t + 3) 1 ≤ 48 from gc_in hI R_t_3 rfl rfl)
  have f6 := (show 0 ≤ I (t + 1) 1 ∧ I (t + 1) 1 ≤ 8 from gc_in hI R_t_1 rfl rfl)
  have f7 := (show (-1) ≤ I 39 2 ∧ I 39 2 ≤ 999999 from gc_in hI R_39 rfl rfl)
  have L48 : ∀ (I8 : gr_I) (J9 : gr_J) , gc_Inv ro I8 → (∀ q j : Nat, ((q = 39 ∧ j = 3) ∨ (q = 39 ∧ j = 4) ∨ (q = 23 ∧ j = 5) ∨ (q = 23 ∧ j = 6) ∨ (q = 23 ∧ j = 7) ∨ (q = 23 ∧ j = 8) ∨ q = (t + 5) ∨ q = (t + 6) ∨ (q = (t + 3) ∧ j = 1) ∨ (q = (t + 1) ∧ j = 1)) ∨ I8 q j = I q j) → (∀ q j : Nat, ((q = 23 ∧ j = 9) ∨ q = 42 ∨ q = (t + 4) ∨ q = (t + 2)) ∨ J9 q j = J q j) → gc_LT I8 → ((I8 23 5 ≤ I8 23 6) ∧ (I8 23 7 = 5 ∨ I8 23 6 ≤ I8 23 1) ∧ (I8 23 5 ≤ I8 23 1) ∧ (I8 23 7 = 4 ∨ (I8 23 5 < I8 23 6 ∧ I8 23 5 < I8 23 1)) ∧ (I8 23 7 = 3 → 2 ≤ I8 23 6 - I8 23 5 ∧ I8 23 6 - I8 23 5 ≤ 14) ∧ (I8 23 1 = I 23 1) ∧ (I 23 5 ≤ I8 23 5) ∧ (I8 (t + 3) 1 ≤ 6 * I8 (t + 1) 1) ∧ (I8 39 2 = (t : Int))) → gv_X (gc_E6 ws0 tb 4 (yX6_readFeature, cX6_readFeature, 7, (some .boolean)) kX6_readFeature) (gv_Q cX6_readFeature (some .boolean) sh (fun r h' => (∃ (I' : gr_I) (J' : gr_J), h' = gc_h sh I' J' A ∧ gc_Inv ro I' ∧ (∀ q j : Nat, ((q = 39 ∧ j = 3) ∨ (q = 39 ∧ j = 4) ∨ (q = 23 ∧ j = 5) ∨ (q = 23 ∧ j = 6) ∨ (q = 23 ∧ j = 7) ∨ (q = 23 ∧ j = 8) ∨ q = (t + 5) ∨ q = (t + 6) ∨ (q = (t + 3) ∧ j = 1) ∨ (q = (t + 1) ∧ j = 1)) ∨ I' q j = I q j) ∧ (∀ q j : Nat, ((q = 23 ∧ j = 9) ∨ q = 42 ∨ q = (t + 4) ∨ q = (t + 2)) ∨ J' q j = J q j) ∧ gc_LT I' ∧ (∃ z : Int, r = some (.inl z) ∧ 0 ≤ z ∧ z ≤ 1 ∧ (I' 23 5 ≤ I' 23 6) ∧ (I' 23 7 = 5 ∨ I' 23 6 ≤ I' 23 1) ∧ (I' 23 5 ≤ I' 23 1) ∧ (I' 23 7 = 4 ∨ (I' 23 5 < I' 23 6 ∧ I' 23 5 < I' 23 1)) ∧ (I' 23 7 = 3 → 2 ≤ I' 23 6 - I' 23 5 ∧ I' 23 6 - I' 23 5 ≤ 14) ∧ (I' 23 1 = I 23 1) ∧ (I 23 5 ≤ I' 23 5) ∧ (I' (t + 3) 1 ≤ 6 * I' (t + 1) 1))))) (48, [], [], sh, gc_h sh I8 J9 A) := by
    intro I8 J9 hI8 FI8 FJ9 KLT_I8 m_10
    clear x0 x1 x2 x3 x4
    obtain ⟨e0_10, e1_10, e2_10, e3_10, e4_10, e5_10, e6_10, e7_10, e8_10⟩ := m_10
    have f11 := (show 0 ≤ I8 23 1 ∧ I8 23 1 ≤ 1000 from gc_in hI8 R_23 rfl rfl)
    have f12 := (show 0 ≤ I8 23 5 ∧ I8 23 5 ≤ 1000 from gc_in hI8 R_23 rfl rfl)
    have f13 := (show 0 ≤ I8 23 6 ∧ I8 23 6 ≤ 1001 from gc_in hI8 R_23 rfl rfl)
    have f14 := (show 0 ≤ I8 23 7 ∧ I8 23 7 ≤ 125 from gc_in hI8 R_23 rfl rfl)
    have f15 := (show 0 ≤ I8 (t + 3) 1 ∧ I8 (t + 3) 1 ≤ 48 from gc_in hI8 R_t_3 rfl rfl)
    have f16 := (show 0 ≤ I8 (t + 1) 1 ∧ I8 (t + 1) 1 ≤ 8 from gc_in hI8 R_t_1 rfl rfl)
    have f17 := (show (-1) ≤ I8 39 2 ∧ I8 39 2 ≤ 999999 from gc_in hI8 R_39 rfl rfl)
    refine gv_run 1 true hD (pc' := 49) (lv' := []) (st' := [.inl 0]) (h' := gc_h sh I8 J9 A) (C := (True ∧ True)) rfl ⟨trivial, trivial⟩ ?_
    exact gv_zret hD rfl (by omega) ⟨I8, J9, rfl, hI8, FI8, FJ9, KLT_I8, ⟨_, rfl, by omega⟩⟩
  have L64 : ∀ (n9 : Nat) (I18 : gr_I) (J19 : gr_J) (v1_20 : Int64) (v3_20 : Int) (v4_20 : Int) (v5_20 : Int), (7 - v4_20).toNat < n9 → gc_Inv ro I18 → (∀ q j : Nat, ((q = 39 ∧ j = 3) ∨ (q = 39 ∧ j = 4) ∨ (q = 23 ∧ j = 5) ∨ (q = 23 ∧ j = 6) ∨ (q = 23 ∧ j = 7) ∨ (q = 23 ∧ j = 8) ∨ q = (t + 5) ∨ q = (t + 6) ∨ (q = (t + 3) ∧ j = 1) ∨ (q = (t + 1) ∧ j = 1)) ∨ I18 q j = I q j) → (∀ q j : Nat, ((q = 23 ∧ j = 9) ∨ q = 42 ∨ q = (t + 4) ∨ q = (t + 2)) ∨ J19 q j = J q j) → gc_LT I18 → ((0 ≤ v3_20 ∧ v3_20 ≤ 1000) ∧ (0 ≤ v4_20 ∧ v4_20 ≤ 6) ∧ (0 ≤ v5_20 ∧ v5_20 ≤ 7) ∧ (I18 23 5 ≤ I18 23 6) ∧ (I18 23 7 = 5 ∨ I18 23 6 ≤ I18 23 1) ∧ (I18 23 5 ≤ I18 23 1) ∧ (I18 23 7 = 4 ∨ (I18 23 5 < I18 23 6 ∧ I18 23 5 < I18 23 1)) ∧ (I18 23 7 = 3 → 2 ≤ I18 23 6 - I18 23 5 ∧ I18 23 6 - I18 23 5 ≤ 14) ∧ (I18 23 1 = I 23 1) ∧ (I 23 5 ≤ I18 23 5) ∧ (I18 (t + 3) 1 ≤ 6 * I18 (t + 1) 1) ∧ (I18 39 2 = (t : Int))) → gv_X (gc_E6 ws0 tb 4 (yX6_readFeature, cX6_readFeature, 7, (some .boolean)) kX6_readFeature) (gv_Q cX6_readFeature (some .boolean) sh (fun r h' => (∃ (I' : gr_I) (J' : gr_J), h' = gc_h sh I' J' A ∧ gc_Inv ro I' ∧ (∀ q j : Nat, ((q = 39 ∧ j = 3) ∨ (q = 39 ∧ j = 4) ∨ (q = 23 ∧ j = 5) ∨ (q = 23 ∧ j = 6) ∨ (q = 23 ∧ j = 7) ∨ (q = 23 ∧ j = 8) ∨ q = (t + 5) ∨ q = (t + 6) ∨ (q = (t + 3) ∧ j = 1) ∨ (q = (t + 1) ∧ j = 1)) ∨ I' q j = I q j) ∧ (∀ q j : Nat, ((q = 23 ∧ j = 9) ∨ q = 42 ∨ q = (t + 4) ∨ q = (t + 2)) ∨ J' q j = J q j) ∧ gc_LT I' ∧ (∃ z : Int, r = some (.inl z) ∧ 0 ≤ z ∧ z ≤ 1 ∧ (I' 23 5 ≤ I' 23 6) ∧ (I' 23 7 = 5 ∨ I' 23 6 ≤ I' 23 1) ∧ (I' 23 5 ≤ I' 23 1) ∧ (I' 23 7 = 4 ∨ (I' 23 5 < I' 23 6 ∧ I' 23 5 < I' 23 1)) ∧ (I' 23 7 = 3 → 2 ≤ I' 23 6 - I' 23 5 ∧ I' 23 6 - I' 23 5 ≤ 14) ∧ (I' 23 1 = I 23 1) ∧ (I 23 5 ≤ I' 23 5) ∧ (I' (t + 3) 1 ≤ 6 * I' (t + 1) 1))))) (64, [(0, .inr (.inr (some 39))), (1, .inr (.inl v1_20)), (3, .inl v3_20), (4, .inl v4_20), (5, .inl v5_20)], [], sh, gc_h sh I18 J19 A) := by
    intro n9
    induction n9 with
    | zero => intro I18 J19 v1_20 v3_20 v4_20 v5_20 hn; omega
    | succ n9 ih64 =>
      intro I18 J19 v1_20 v3_20 v4_20 v5_20 hn hI18 FI18 FJ19 KLT_I18 m_20
      clear x0 x1 x2 x3 x4
      obtain ⟨hv3_20, hv4_20, hv5_20, e0_20, e1_20, e2_20, e3_20, e4_20, e5_20, e6_20, e7_20, e8_20⟩ := m_20
      have f21 := (show 0 ≤ I18 23 1 ∧ I18 23 1 ≤ 1000 from gc_in hI18 R_23 rfl rfl)
      have f22 := (show 0 ≤ I18 23 5 ∧ I18 23 5 ≤ 1000 from gc_in hI18 R_23 rfl rfl)
      have f23 := (show 0 ≤ I18 23 6 ∧ I18 23 6 ≤ 1001 from gc_in hI18 R_23 rfl rfl)
      have f24 := (show 0 ≤ I18 23 7 ∧ I18 23 7 ≤ 125 from gc_in hI18 R_23 rfl rfl)
      have f25 := (show 0 ≤ I18 (t + 3) 1 ∧ I18 (t + 3) 1 ≤ 48 from gc_in hI18 R_t_3 rfl rfl)
      have f26 := (show 0 ≤ I18 (t + 1) 1 ∧ I18 (t + 1) 1 ≤ 8 from gc_in hI18 R_t_1 rfl rfl)
      have f27 := (show (-1) ≤ I18 39 2 ∧ I18 39 2 ≤ 999999 from gc_in hI18 R_39 rfl rfl)
      have L121 : ∀ (n9 : Nat) (I28 : gr_I) (J29 : gr_J) (v6_30 : Int), (6 - v6_30).toNat < n9 → gc_Inv ro I28 → (∀ q j : Nat, ((q = 39 ∧ j = 3) ∨ (q = 39 ∧ j = 4) ∨ (q = 23 ∧ j = 5) ∨ (q = 23 ∧ j = 6) ∨ (q = 23 ∧ j = 7) ∨ (q = 23 ∧ j = 8) ∨ q = (t + 5) ∨ q = (t + 6) ∨ (q = (t + 3) ∧ j = 1) ∨ (q = (t + 1) ∧ j = 1)) ∨ I28 q j = I q j) → (∀ q j : Nat, ((q = 23 ∧ j = 9) ∨ q = 42 ∨ q = (t + 4) ∨ q = (t + 2)) ∨ J29 q j = J q j) → gc_LT I28 → ((0 ≤ v3_20 ∧ v3_20 ≤ 1000) ∧ (0 ≤ v4_20 ∧ v4_20 ≤ 5) ∧ (0 ≤ v5_20 ∧ v5_20 ≤ 6) ∧ (0 ≤ v6_30 ∧ v6_30 ≤ 5) ∧ (v4_20 ≤ 5) ∧ (I28 23 7 = 1) ∧ (I28 23 5 ≤ I28 23 6) ∧ (I28 23 7 = 5 ∨ I28 23 6 ≤ I28 23 1) ∧ (I28 23 5 ≤ I28 23 1) ∧ (I28 23 7 = 4 ∨ (I28 23 5 < I28 23 6 ∧ I28 23 5 < I28 23 1)) ∧ (I28 23 7 = 3 → 2 ≤ I28 23 6 - I28 23 5 ∧ I28 23 6 - I28 23 5 ≤ 14) ∧ (I28 23 1 = I 23 1) ∧ (I 23 5 ≤ I28 23 5) ∧ (I28 (t + 3) 1 ≤ 6 * I28 (t + 1) 1) ∧ (I28 39 2 = (t : Int))) → gv_X (gc_E6 ws0 tb 4 (yX6_readFeature, cX6_readFeature, 7, (some .boolean)) kX6_readFeature) (gv_Q cX6_readFeature (some .boolean) sh (fun r h' => (∃ (I' : gr_I) (J' : gr_J), h' = gc_h sh I' J' A ∧ gc_Inv ro I' ∧ (∀ q j : Nat, ((q = 39 ∧ j = 3) ∨ (q = 39 ∧ j = 4) ∨ (q = 23 ∧ j = 5) ∨ (q = 23 ∧ j = 6) ∨ (q = 23 ∧ j = 7) ∨ (q = 23 ∧ j = 8) ∨ q = (t + 5) ∨ q = (t + 6) ∨ (q = (t + 3) ∧ j = 1) ∨ (q = (t + 1) ∧ j = 1)) ∨ I' q j = I q j) ∧ (∀ q j : Nat, ((q = 23 ∧ j = 9) ∨ q = 42 ∨ q = (t + 4) ∨ q = (t + 2)) ∨ J' q j = J q j) ∧ gc_LT I' ∧ (∃ z : Int, r = some (.inl z) ∧ 0 ≤ z ∧ z ≤ 1 ∧ (I' 23 5 ≤ I' 23 6) ∧ (I' 23 7 = 5 ∨ I' 23 6 ≤ I' 23 1) ∧ (I' 23 5 ≤ I' 23 1) ∧ (I' 23 7 = 4 ∨ (I' 23 5 < I' 23 6 ∧ I' 23 5 < I' 23 1)) ∧ (I' 23 7 = 3 → 2 ≤ I' 23 6 - I' 23 5 ∧ I' 23 6 - I' 23 5 ≤ 14) ∧ (I' 23 1 = I 23 1) ∧ (I 23 5 ≤ I' 23 5) ∧ (I' (t + 3) 1 ≤ 6 * I' (t + 1) 1))))) (121, [(0, .inr (.inr (some 39))), (1, .inr (.inl v1_20)), (3, .inl v3_20), (4, .inl v4_20), (5, .inl v5_20), (6, .inl v6_30)], [], sh, gc_h sh I28 J29 A) := by
        intro n9
        induction n9 with
        | zero => intro I28 J29 v6_30 hn; omega
        | succ n9 ih121 =>
          intro I28 J29 v6_30 hn hI28 FI28 FJ29 KLT_I28 m_30
          clear hv3_20 hv4_20 hv5_20 e0_20 e1_20 e2_20 e3_20 e4_20 e5_20 e6_20 e7_20 e8_20 f21 f22 f23 f24 f25 f26 f27
          obtain ⟨hv3_20_30, hv4_20_30, hv5_20_30, hv6_30, e0_30, e1_30, e2_30, e3_30, e4_30, e5_30, e6_30, e7_30, e8_30, e9_30, e10_30⟩ := m_30
          have f31 := (show 0 ≤ I28 23 1 ∧ I28 23 1 ≤ 1000 from gc_in hI28 R_23 rfl rfl)
          have f32 := (show 0 ≤ I28 23 5 ∧ I28 23 5 ≤ 1000 from gc_in hI28 R_23 rfl rfl)
          have f33 := (show 0 ≤ I28 23 6 ∧ I28 23 6 ≤ 1001 from gc_in hI28 R_23 rfl rfl)
          have f34 := (show 0 ≤ I28 23 7 ∧ I28 23 7 ≤ 125 from gc_in hI28 R_23 rfl rfl)
          have f35 := (show 0 ≤ I28 (t + 3) 1 ∧ I28 (t + 3) 1 ≤ 48 from gc_in hI28 R_t_3 rfl rfl)
          have f36 := (show 0 ≤ I28 (t + 1) 1 ∧ I28 (t + 1) 1 ≤ 8 from gc_in hI28 R_t_1 rfl rfl)
          have f37 := (show (-1) ≤ I28 39 2 ∧ I28 39 2 ≤ 999999 from gc_in hI28 R_39 rfl rfl)
          refine gv_run 2 true hD (pc' := 125) (lv' := [(0, .inr (.inr (some 39))), (1, .inr (.inl v1_20)), (3, .inl v3_20), (4, .inl v4_20), (5, .inl v5_20), (6, .inl v6_30)]) (st' := [.inl v4_20, .inl v6_30]) (h' := gc_h sh I28 J29 A) (C := ((True ∧ True) ∧ True)) rfl ⟨⟨trivial, trivial⟩, trivial⟩ ?_
          refine gv_icmp_ge (t := 165) hD rfl rfl ⟨⟨by omega, by omega⟩, ⟨by omega, by omega⟩⟩ (fun c38 => ?_) (fun c38 => ?_)
          · show gv_X _ _ (165, [(0, .inr (.inr (some 39))), (1, .inr (.inl v1_20)), (3, .inl v3_20), (4, .inl v4_20), (5, .inl v5_20), (6, .inl v6_30)], [], sh, gc_h sh I28 J29 A)
            refine gv_run 1 true hD (pc' := 166) (lv' := [(0, .inr (.inr (some 39))), (1, .inr (.inl v1_20)), (3, .inl v3_20), (4, .inl v4_20), (5, .inl v5_20), (6, .inl v6_30)]) (st' := [.inr (.inr (some 39))]) (h' := gc_h sh I28 J29 A) (C := (True ∧ True)) rfl ⟨trivial, trivial⟩ ?_
            refine gv_get hD rfl rfl S_39 ⟨by decide, B_39⟩ (gc_hA S_39 rfl A_39_11) ?_
            show gv_X _ _ (169, [(0, .inr (.inr (some 39))), (1, .inr (.inl v1_20)), (3, .inl v3_20), (4, .inl v4_20), (5, .inl v5_20), (6, .inl v6_30)], [.inr (.inr (some 42))], sh, gc_h sh I28 J29 A)
            refine gv_run 3 true hD (pc' := 175) (lv' := [(4, .inl (v4_20 + 1)), (0, .inr (.inr (some 39))), (1, .inr (.inl v1_20)), (3, .inl v3_20), (5, .inl v5_20), (6, .inl v6_30)]) (st' := [.inr (.inr (some 39)), .inl v4_20, .inr (.inr (some 42))]) (h' := gc_h sh I28 J29 A) (C := (((True ∧ True) ∧ True) ∧ True)) rfl ⟨⟨⟨trivial, trivial⟩, trivial⟩, trivial⟩ ?_
            refine gv_get hD rfl rfl S_39 ⟨by decide, B_39⟩ (gc_hA S_39 rfl A_39_1) ?_
            show gv_X _ _ (178, [(4, .inl (v4_20 + 1)), (0, .inr (.inr (some 39))), (1, .inr (.inl v1_20)), (3, .inl v3_20), (5, .inl v5_20), (6, .inl v6_30)], [.inr (.inr (some 23)), .inl v4_20, .inr (.inr (some 42))], sh, gc_h sh I28 J29 A)
            refine gv_get hD rfl rfl S_23 ⟨by decide, B_23⟩ (gc_hJ S_23 rfl) ?_
            show gv_X _ _ (181, [(4, .inl (v4_20 + 1)), (0, .inr (.inr (some 39))), (1, .inr (.inl v1_20)), (3, .inl v3_20), (5, .inl v5_20), (6, .inl v6_30)], [.inr (.inl (J29 23 9)), .inl v4_20, .inr (.inr (some 42))], sh, gc_h sh I28 J29 A)
            refine gv_last hD rfl S_42 ⟨by decide, B_42⟩ ⟨by omega, by omega⟩ ?_
            refine gc_stJ S_42 rfl (fun J39 q40 p40 => ?_)
            have FJ39 := gc_frs (W := fun q j => (q = 23 ∧ j = 9) ∨ q = 42 ∨ q = (t + 4) ∨ q = (t + 2)) FJ29 (Or.inr (Or.inl rfl)) p40
            show gv_X _ _ (182, [(4, .inl (v4_20 + 1)), (0, .inr (.inr (some 39))), (1, .inr (.inl v1_20)), (3, .inl v3_20), (5, .inl v5_20), (6, .inl v6_30)], [], sh, gc_h sh I28 J39 A)
            refine gv_run 1 true hD (pc' := 183) (lv' := [(4, .inl (v4_20 + 1)), (0, .inr (.inr (some 39))), (1, .inr (.inl v1_20)), (3, .inl v3_20), (5, .inl v5_20), (6, .inl v6_30)]) (st' := [.inr (.inr (some 39))]) (h' := gc_h sh I28 J39 A) (C := (True ∧ True)) rfl ⟨trivial, trivial⟩ ?_
            refine gv_get hD rfl rfl S_39 ⟨by decide, B_39⟩ (gc_hA S_39 rfl A_39_1) ?_
            show gv_X _ _ (186, [(4, .inl (v4_20 + 1)), (0, .inr (.inr (some 39))), (1, .inr (.inl v1_20)), (3, .inl v3_20), (5, .inl v5_20), (6, .inl v6_30)], [.inr (.inr (some 23))], sh, gc_h sh I28 J39 A)
            obtain ⟨r41, h41, E41, P41⟩ := d_X9_advance (ws0 := ws0) (tb := tb) hws htb sh ro I28 J39 A hI28 23  (gc_b23 hb)    (by omega) 
            obtain ⟨I42, J43, rfl, hI42, g41, k41, ⟨rfl, q41⟩⟩ := P41
            have FI42 := gc_frc (W := fun q j => (q = 39 ∧ j = 3) ∨ (q = 39 ∧ j = 4) ∨ (q = 23 ∧ j = 5) ∨ (q = 23 ∧ j = 6) ∨ (q = 23 ∧ j = 7) ∨ (q = 23 ∧ j = 8) ∨ q = (t + 5) ∨ q = (t + 6) ∨ (q = (t + 3) ∧ j = 1) ∨ (q = (t + 1) ∧ j = 1)) (V := fun q j => (q = 23 ∧ j = 5) ∨ (q = 23 ∧ j = 6) ∨ (q = 23 ∧ j = 7) ∨ (q = 23 ∧ j = 8)) FI28 (fun q j h => (h.elim (fun h => (Or.inr (Or.inr (Or.inl h)))) (fun h => (h.elim (fun h => (Or.inr (Or.inr (Or.inr (Or.inl h))))) (fun h => (h.elim (fun h => (Or.inr (Or.inr (Or.inr (Or.inr (Or.inl h)))))) (fun h => (Or.inr (Or.inr (Or.inr (Or.inr (Or.inr (Or.inl h))))))))))))) g41
            have FJ43 := gc_frc (W := fun q j => (q = 23 ∧ j = 9) ∨ q = 42 ∨ q = (t + 4) ∨ q = (t + 2)) (V := fun q j => (q = 23 ∧ j = 9)) FJ39 (fun q j h => (Or.inl h)) k41
            have t44 := (g41 23 1).resolve_left (by omega)
            have t45 := (g41 (t + 3) 1).resolve_left (by omega)
            have t46 := (g41 (t + 1) 1).resolve_left (by omega)
            have t47 := (g41 39 2).resolve_left (by omega)
            have f48 := (show 0 ≤ I42 23 1 ∧ I42 23 1 ≤ 1000 from gc_in hI42 R_23 rfl rfl)
            have f49 := (show 0 ≤ I42 23 5 ∧ I42 23 5 ≤ 1000 from gc_in hI42 R_23 rfl rfl)
            have f50 := (show 0 ≤ I42 23 6 ∧ I42 23 6 ≤ 1001 from gc_in hI42 R_23 rfl rfl)
            have f51 := (show 0 ≤ I42 23 7 ∧ I42 23 7 ≤ 125 from gc_in hI42 R_23 rfl rfl)
            have f52 := (show 0 ≤ I42 (t + 3) 1 ∧ I42 (t + 3) 1 ≤ 48 from gc_in hI42 R_t_3 rfl rfl)
            have f53 := (show 0 ≤ I42 (t + 1) 1 ∧ I42 (t + 1) 1 ≤ 8 from gc_in hI42 R_t_1 rfl rfl)
            have f54 := (show (-1) ≤ I42 39 2 ∧ I42 39 2 ≤ 999999 from gc_in hI42 R_39 rfl rfl)
            have KLT_I42 : gc_LT I42 := q41.2.2.2.2.2.2.2
            refine gv_callV hD rfl (As := []) (st := []) rfl B_23 S_23 rfl (gc_lV6 hws rfl) (Nat.le_of_ble_eq_true rfl) (gz_Ev_mono (d := 2) (by decide) E41) ?_
            show gv_X _ _ (189, [(4, .inl (v4_20 + 1)), (0, .inr (.inr (some 39))), (1, .inr (.inl v1_20)), (3, .inl v3_20), (5, .inl v5_20), (6, .inl v6_30)], [], sh, gc_h sh I42 J43 A)
            refine gv_run 2 true hD (pc' := 64) (lv' := [(5, .inl (v5_20 + 1)), (4, .inl (v4_20 + 1)), (0, .inr (.inr (some 39))), (1, .inr (.inl v1_20)), (3, .inl v3_20), (6, .inl v6_30)]) (st' := []) (h' := gc_h sh I42 J43 A) (C := ((True ∧ True) ∧ True)) rfl ⟨⟨trivial, trivial⟩, trivial⟩ ?_
            refine gv_pick [2, 3, 4, 1, 0] rfl ?_
            exact ih64 I42 J43 v1_20 v3_20 (v4_20 + 1) (v5_20 + 1) (by omega) hI42 FI42 FJ43 KLT_I42 (by omega)
          · show gv_X _ _ (128, [(0, .inr (.inr (some 39))), (1, .inr (.inl v1_20)), (3, .inl v3_20), (4, .inl v4_20), (5, .inl v5_20), (6, .inl v6_30)], [], sh, gc_h sh I28 J29 A)
            refine gv_run 1 true hD (pc' := 129) (lv' := [(0, .inr (.inr (some 39))), (1, .inr (.inl v1_20)), (3, .inl v3_20), (4, .inl v4_20), (5, .inl v5_20), (6, .inl v6_30)]) (st' := [.inr (.inr (some 39))]) (h' := gc_h sh I28 J29 A) (C := (True ∧ True)) rfl ⟨trivial, trivial⟩ ?_
            refine gv_get hD rfl rfl S_39 ⟨by decide, B_39⟩ (gc_hA S_39 rfl A_39_11) ?_
            show gv_X _ _ (132, [(0, .inr (.inr (some 39))), (1, .inr (.inl v1_20)), (3, .inl v3_20), (4, .inl v4_20), (5, .inl v5_20), (6, .inl v6_30)], [.inr (.inr (some 42))], sh, gc_h sh I28 J29 A)
            refine gv_run 1 true hD (pc' := 134) (lv' := [(0, .inr (.inr (some 39))), (1, .inr (.inl v1_20)), (3, .inl v3_20), (4, .inl v4_20), (5, .inl v5_20), (6, .inl v6_30)]) (st' := [.inl v6_30, .inr (.inr (some 42))]) (h' := gc_h sh I28 J29 A) (C := (True ∧ True)) rfl ⟨trivial, trivial⟩ ?_
            refine gv_lald hD rfl S_42 rfl ⟨by decide, B_42⟩ ⟨by omega, by omega⟩ (gc_jJ S_42 rfl) ?_
            show gv_X _ _ (135, [(0, .inr (.inr (some 39))), (1, .inr (.inl v1_20)), (3, .inl v3_20), (4, .inl v4_20), (5, .inl v5_20), (6, .inl v6_30)], [.inr (.inl (J29 42 (Int.toNat v6_30)))], sh, gc_h sh I28 J29 A)
            refine gv_run 1 true hD (pc' := 136) (lv' := [(0, .inr (.inr (some 39))), (1, .inr (.inl v1_20)), (3, .inl v3_20), (4, .inl v4_20), (5, .inl v5_20), (6, .inl v6_30)]) (st' := [.inr (.inr (some 39)), .inr (.inl (J29 42 (Int.toNat v6_30)))]) (h' := gc_h sh I28 J29 A) (C := (True ∧ True)) rfl ⟨trivial, trivial⟩ ?_
            refine gv_get hD rfl rfl S_39 ⟨by decide, B_39⟩ (gc_hA S_39 rfl A_39_1) ?_
            show gv_X _ _ (139, [(0, .inr (.inr (some 39))), (1, .inr (.inl v1_20)), (3, .inl v3_20), (4, .inl v4_20), (5, .inl v5_20), (6, .inl v6_30)], [.inr (.inr (some 23)), .inr (.inl (J29 42 (Int.toNat v6_30)))], sh, gc_h sh I28 J29 A)
            refine gv_get hD rfl rfl S_23 ⟨by decide, B_23⟩ (gc_hJ S_23 rfl) ?_
            show gv_X _ _ (142, [(0, .inr (.inr (some 39))), (1, .inr (.inl v1_20)), (3, .inl v3_20), (4, .inl v4_20), (5, .inl v5_20), (6, .inl v6_30)], [.inr (.inl (J29 23 9)), .inr (.inl (J29 42 (Int.toNat v6_30)))], sh, gc_h sh I28 J29 A)
            have f55 := gw_cmp ((J29 42 (Int.toNat v6_30))) ((J29 23 9))
            refine gv_run 1 true hD (pc' := 143) (lv' := [(0, .inr (.inr (some 39))), (1, .inr (.inl v1_20)), (3, .inl v3_20), (4, .inl v4_20), (5, .inl v5_20), (6, .inl v6_30)]) (st' := [.inl ((lg_cmp ((J29 42 (Int.toNat v6_30))) ((J29 23 9))).toInt)]) (h' := gc_h sh I28 J29 A) (C := (True ∧ True)) rfl ⟨trivial, trivial⟩ ?_
            refine gv_if_ne (t := 159) hD rfl rfl ⟨by omega, by omega⟩ (fun c56 => ?_) (fun c56 => ?_)
            · show gv_X _ _ (159, [(0, .inr (.inr (some 39))), (1, .inr (.inl v1_20)), (3, .inl v3_20), (4, .inl v4_20), (5, .inl v5_20), (6, .inl v6_30)], [], sh, gc_h sh I28 J29 A)
              refine gv_run 2 true hD (pc' := 121) (lv' := [(6, .inl (v6_30 + 1)), (0, .inr (.inr (some 39))), (1, .inr (.inl v1_20)), (3, .inl v3_20), (4, .inl v4_20), (5, .inl v5_20)]) (st' := []) (h' := gc_h sh I28 J29 A) (C := ((True ∧ True) ∧ True)) rfl ⟨⟨trivial, trivial⟩, trivial⟩ ?_
              refine gv_pick [1, 2, 3, 4, 5, 0] rfl ?_
              exact ih121 I28 J29 (v6_30 + 1) (by omega) hI28 FI28 FJ29 KLT_I28 (by omega)
            · show gv_X _ _ (146, [(0, .inr (.inr (some 39))), (1, .inr (.inl v1_20)), (3, .inl v3_20), (4, .inl v4_20), (5, .inl v5_20), (6, .inl v6_30)], [], sh, gc_h sh I28 J29 A)
              refine gv_run 3 true hD (pc' := 149) (lv' := [(0, .inr (.inr (some 39))), (1, .inr (.inl v1_20)), (3, .inl v3_20), (4, .inl v4_20), (5, .inl v5_20), (6, .inl v6_30)]) (st' := [.inr (.inr (some 39)), .inl 4, .inr (.inr (some 39))]) (h' := gc_h sh I28 J29 A) (C := (((True ∧ True) ∧ True) ∧ True)) rfl ⟨⟨⟨trivial, trivial⟩, trivial⟩, trivial⟩ ?_
              refine gv_get hD rfl rfl S_39 ⟨by decide, B_39⟩ (gc_hA S_39 rfl A_39_1) ?_
              show gv_X _ _ (152, [(0, .inr (.inr (some 39))), (1, .inr (.inl v1_20)), (3, .inl v3_20), (4, .inl v4_20), (5, .inl v5_20), (6, .inl v6_30)], [.inr (.inr (some 23)), .inl 4, .inr (.inr (some 39))], sh, gc_h sh I28 J29 A)
              have f57 := (show 0 ≤ I28 23 5 ∧ I28 23 5 ≤ 1000 from gc_in hI28 R_23 rfl rfl)
              refine gv_get hD rfl rfl S_23 ⟨by decide, B_23⟩ (gc_hI S_23 rfl) ?_
              show gv_X _ _ (155, [(0, .inr (.inr (some 39))), (1, .inr (.inl v1_20)), (3, .inl v3_20), (4, .inl v4_20), (5, .inl v5_20), (6, .inl v6_30)], [.inl (I28 23 5), .inl 4, .inr (.inr (some 39))], sh, gc_h sh I28 J29 A)
              obtain ⟨r58, h58, E58, P58⟩ := d_X6_wrong (ws0 := ws0) (tb := tb) hws htb sh ro I28 J29 A hI28  4 (I28 23 5) hb   ⟨by omega, by omega⟩ ⟨by omega, by omega⟩  
              obtain ⟨I59, J60, rfl, hI59, g58, k58, ⟨z58, rfl, q58⟩⟩ := P58
              have FI59 := gc_frc (W := fun q j => (q = 39 ∧ j = 3) ∨ (q = 39 ∧ j = 4) ∨ (q = 23 ∧ j = 5) ∨ (q = 23 ∧ j = 6) ∨ (q = 23 ∧ j = 7) ∨ (q = 23 ∧ j = 8) ∨ q = (t + 5) ∨ q = (t + 6) ∨ (q = (t + 3) ∧ j = 1) ∨ (q = (t + 1) ∧ j = 1)) (V := fun q j => (q = 39 ∧ j = 3) ∨ (q = 39 ∧ j = 4)) FI28 (fun q j h => (h.elim (fun h => (Or.inl h)) (fun h => (Or.inr (Or.inl h))))) g58
              have t61 := (g58 23 1).resolve_left (by omega)
              have t62 := (g58 23 5).resolve_left (by omega)
              have t63 := (g58 23 6).resolve_left (by omega)
              have t64 := (g58 23 7).resolve_left (by omega)
              have t65 := (g58 (t + 3) 1).resolve_left (by omega)
              have t66 := (g58 (t + 1) 1).resolve_left (by omega)
              have t67 := (g58 39 2).resolve_left (by omega)
              have f68 := (show 0 ≤ I59 23 1 ∧ I59 23 1 ≤ 1000 from gc_in hI59 R_23 rfl rfl)
              have f69 := (show 0 ≤ I59 23 5 ∧ I59 23 5 ≤ 1000 from gc_in hI59 R_23 rfl rfl)
              have f70 := (show 0 ≤ I59 23 6 ∧ I59 23 6 ≤ 1001 from gc_in hI59 R_23 rfl rfl)
              have f71 := (show 0 ≤ I59 23 7 ∧ I59 23 7 ≤ 125 from gc_in hI59 R_23 rfl rfl)
              have f72 := (show 0 ≤ I59 (t + 3) 1 ∧ I59 (t + 3) 1 ≤ 48 from gc_in hI59 R_t_3 rfl rfl)
              have f73 := (show 0 ≤ I59 (t + 1) 1 ∧ I59 (t + 1) 1 ≤ 8 from gc_in hI59 R_t_1 rfl rfl)
              have f74 := (show (-1) ≤ I59 39 2 ∧ I59 39 2 ≤ 999999 from gc_in hI59 R_39 rfl rfl)
              obtain rfl : J29 = J60 := funext fun q => funext fun j => ((k58 q j).resolve_left id).symm
              have KLT_I59 := gc_LT_fr KLT_I28 ((g58 23 5).resolve_left (by omega)) ((g58 23 6).resolve_left (by omega)) ((g58 23 7).resolve_left (by omega)) (fun k => (g58 24 k).resolve_left (by omega))
              refine gv_callV hD rfl (As := [.inl 4, .inl (I28 23 5)]) (st := []) rfl B_39 S_39 rfl (gc_lV6 hws rfl) (Nat.le_of_ble_eq_true rfl) (gz_Ev_mono (d := 1) (by decide) E58) ?_
              show gv_X _ _ (158, [(0, .inr (.inr (some 39))), (1, .inr (.inl v1_20)), (3, .inl v3_20), (4, .inl v4_20), (5, .inl v5_20), (6, .inl v6_30)], [.inl z58], sh, gc_h sh I59 J29 A)
              exact gv_zret hD rfl (by omega) ⟨I59, J29, rfl, hI59, FI59, FJ29, KLT_I59, ⟨_, rfl, by omega⟩⟩
      have L195 : ((0 ≤ v3_20 ∧ v3_20 ≤ 1000) ∧ (0 ≤ v4_20 ∧ v4_20 ≤ 6) ∧ (I18 23 5 ≤ I18 23 6) ∧ (I18 23 7 = 5 ∨ I18 23 6 ≤ I18 23 1) ∧ (I18 23 5 ≤ I18 23 1) ∧ (I18 23 7 = 4 ∨ (I18 23 5 < I18 23 6 ∧ I18 23 5 < I18 23 1)) ∧ (I18 23 7 = 3 → 2 ≤ I18 23 6 - I18 23 5 ∧ I18 23 6 - I18 23 5 ≤ 14) ∧ (I18 23 1 = I 23 1) ∧ (I 23 5 ≤ I18 23 5) ∧ (I18 (t + 3) 1 ≤ 6 * I18 (t + 1) 1) ∧ (I18 39 2 = (t : Int))) → gv_X (gc_E6 ws0 tb 4 (yX6_readFeature, cX6_readFeature, 7, (some .boolean)) kX6_readFeature) (gv_Q cX6_readFeature (some .boolean) sh (fun r h' => (∃ (I' : gr_I) (J' : gr_J), h' = gc_h sh I' J' A ∧ gc_Inv ro I' ∧ (∀ q j : Nat, ((q = 39 ∧ j = 3) ∨ (q = 39 ∧ j = 4) ∨ (q = 23 ∧ j = 5) ∨ (q = 23 ∧ j = 6) ∨ (q = 23 ∧ j = 7) ∨ (q = 23 ∧ j = 8) ∨ q = (t + 5) ∨ q = (t + 6) ∨ (q = (t + 3) ∧ j = 1) ∨ (q = (t + 1) ∧ j = 1)) ∨ I' q j = I q j) ∧ (∀ q j : Nat, ((q = 23 ∧ j = 9) ∨ q = 42 ∨ q = (t + 4) ∨ q = (t + 2)) ∨ J' q j = J q j) ∧ gc_LT I' ∧ (∃ z : Int, r = some (.inl z) ∧ 0 ≤ z ∧ z ≤ 1 ∧ (I' 23 5 ≤ I' 23 6) ∧ (I' 23 7 = 5 ∨ I' 23 6 ≤ I' 23 1) ∧ (I' 23 5 ≤ I' 23 1) ∧ (I' 23 7 = 4 ∨ (I' 23 5 < I' 23 6 ∧ I' 23 5 < I' 23 1)) ∧ (I' 23 7 = 3 → 2 ≤ I' 23 6 - I' 23 5 ∧ I' 23 6 - I' 23 5 ≤ 14) ∧ (I' 23 1 = I 23 1) ∧ (I 23 5 ≤ I' 23 5) ∧ (I' (t + 3) 1 ≤ 6 * I' (t + 1) 1))))) (195, [(0, .inr (.inr (some 39))), (1, .inr (.inl v1_20)), (3, .inl v3_20), (4, .inl v4_20)], [], sh, gc_h sh I18 J19 A) := by
        intro m_75
        obtain ⟨hv3_20_75, hv4_20_75, e0_75, e1_75, e2_75, e3_75, e4_75, e5_75, e6_75, e7_75, e8_75⟩ := m_75
        have f76 := (show 0 ≤ I18 23 1 ∧ I18 23 1 ≤ 1000 from gc_in hI18 R_23 rfl rfl)
        have f77 := (show 0 ≤ I18 23 5 ∧ I18 23 5 ≤ 1000 from gc_in hI18 R_23 rfl rfl)
        have f78 := (show 0 ≤ I18 23 6 ∧ I18 23 6 ≤ 1001 from gc_in hI18 R_23 rfl rfl)
        have f79 := (show 0 ≤ I18 23 7 ∧ I18 23 7 ≤ 125 from gc_in hI18 R_23 rfl rfl)
        have f80 := (show 0 ≤ I18 (t + 3) 1 ∧ I18 (t + 3) 1 ≤ 48 from gc_in hI18 R_t_3 rfl rfl)
        have f81 := (show 0 ≤ I18 (t + 1) 1 ∧ I18 (t + 1) 1 ≤ 8 from gc_in hI18 R_t_1 rfl rfl)
        have f82 := (show (-1) ≤ I18 39 2 ∧ I18 39 2 ≤ 999999 from gc_in hI18 R_39 rfl rfl)
        have L220 : ((0 ≤ v4_20 ∧ v4_20 ≤ 6) ∧ (I18 23 5 ≤ I18 23 6) ∧ (I18 23 7 = 5 ∨ I18 23 6 ≤ I18 23 1) ∧ (I18 23 5 ≤ I18 23 1) ∧ (I18 23 7 = 4 ∨ (I18 23 5 < I18 23 6 ∧ I18 23 5 < I18 23 1)) ∧ (I18 23 7 = 3 → 2 ≤ I18 23 6 - I18 23 5 ∧ I18 23 6 - I18 23 5 ≤ 14) ∧ (I18 23 1 = I 23 1) ∧ (I 23 5 ≤ I18 23 5) ∧ (I18 (t + 3) 1 ≤ 6 * I18 (t + 1) 1) ∧ (I18 39 2 = (t : Int))) → gv_X (gc_E6 ws0 tb 4 (yX6_readFeature, cX6_readFeature, 7, (some .boolean)) kX6_readFeature) (gv_Q cX6_readFeature (some .boolean) sh (fun r h' => (∃ (I' : gr_I) (J' : gr_J), h' = gc_h sh I' J' A ∧ gc_Inv ro I' ∧ (∀ q j : Nat, ((q = 39 ∧ j = 3) ∨ (q = 39 ∧ j = 4) ∨ (q = 23 ∧ j = 5) ∨ (q = 23 ∧ j = 6) ∨ (q = 23 ∧ j = 7) ∨ (q = 23 ∧ j = 8) ∨ q = (t + 5) ∨ q = (t + 6) ∨ (q = (t + 3) ∧ j = 1) ∨ (q = (t + 1) ∧ j = 1)) ∨ I' q j = I q j) ∧ (∀ q j : Nat, ((q = 23 ∧ j = 9) ∨ q = 42 ∨ q = (t + 4) ∨ q = (t + 2)) ∨ J' q j = J q j) ∧ gc_LT I' ∧ (∃ z : Int, r = some (.inl z) ∧ 0 ≤ z ∧ z ≤ 1 ∧ (I' 23 5 ≤ I' 23 6) ∧ (I' 23 7 = 5 ∨ I' 23 6 ≤ I' 23 1) ∧ (I' 23 5 ≤ I' 23 1) ∧ (I' 23 7 = 4 ∨ (I' 23 5 < I' 23 6 ∧ I' 23 5 < I' 23 1)) ∧ (I' 23 7 = 3 → 2 ≤ I' 23 6 - I' 23 5 ∧ I' 23 6 - I' 23 5 ≤ 14) ∧ (I' 23 1 = I 23 1) ∧ (I 23 5 ≤ I' 23 5) ∧ (I' (t + 3) 1 ≤ 6 * I' (t + 1) 1))))) (220, [(0, .inr (.inr (some 39))), (1, .inr (.inl v1_20)), (4, .inl v4_20)], [], sh, gc_h sh I18 J19 A) := by
          intro m_83
          obtain ⟨hv4_20_83, e0_83, e1_83, e2_83, e3_83, e4_83, e5_83, e6_83, e7_83, e8_83⟩ := m_83
          have f84 := (show 0 ≤ I18 23 1 ∧ I18 23 1 ≤ 1000 from gc_in hI18 R_23 rfl rfl)
          have f85 := (show 0 ≤ I18 23 5 ∧ I18 23 5 ≤ 1000 from gc_in hI18 R_23 rfl rfl)
          have f86 := (show 0 ≤ I18 23 6 ∧ I18 23 6 ≤ 1001 from gc_in hI18 R_23 rfl rfl)
          have f87 := (show 0 ≤ I18 23 7 ∧ I18 23 7 ≤ 125 from gc_in hI18 R_23 rfl rfl)
          have f88 := (show 0 ≤ I18 (t + 3) 1 ∧ I18 (t + 3) 1 ≤ 48 from gc_in hI18 R_t_3 rfl rfl)
          have f89 := (show 0 ≤ I18 (t + 1) 1 ∧ I18 (t + 1) 1 ≤ 8 from gc_in hI18 R_t_1 rfl rfl)
          have f90 := (show (-1) ≤ I18 39 2 ∧ I18 39 2 ≤ 999999 from gc_in hI18 R_39 rfl rfl)
          have L242 : ∀ (n9 : Nat) (I91 : gr_I) (J92 : gr_J) (v5_93 : Int), (7 - v5_93).toNat < n9 → gc_Inv ro I91 → (∀ q j : Nat, ((q = 39 ∧ j = 3) ∨ (q = 39 ∧ j = 4) ∨ (q = 23 ∧ j = 5) ∨ (q = 23 ∧ j = 6) ∨ (q = 23 ∧ j = 7) ∨ (q = 23 ∧ j = 8) ∨ q = (t + 5) ∨ q = (t + 6) ∨ (q = (t + 3) ∧ j = 1) ∨ (q = (t + 1) ∧ j = 1)) ∨ I91 q j = I q j) → (∀ q j : Nat, ((q = 23 ∧ j = 9) ∨ q = 42 ∨ q = (t + 4) ∨ q = (t + 2)) ∨ J92 q j = J q j) → gc_LT I91 → ((0 ≤ v4_20 ∧ v4_20 ≤ 6) ∧ (0 ≤ v5_93 ∧ v5_93 ≤ 6) ∧ (I91 (t + 3) 1 ≤ 6 * I91 (t + 1) 1 + v5_93) ∧ (I91 (t + 1) 1 < 8) ∧ (I91 23 5 ≤ I91 23 6) ∧ (I91 23 7 = 5 ∨ I91 23 6 ≤ I91 23 1) ∧ (I91 23 5 ≤ I91 23 1) ∧ (I91 23 7 = 4 ∨ (I91 23 5 < I91 23 6 ∧ I91 23 5 < I91 23 1)) ∧ (I91 23 7 = 3 → 2 ≤ I91 23 6 - I91 23 5 ∧ I91 23 6 - I91 23 5 ≤ 14) ∧ (I91 23 1 = I 23 1) ∧ (I 23 5 ≤ I91 23 5) ∧ (I91 39 2 = (t : Int))) → gv_X (gc_E6 ws0 tb 4 (yX6_readFeature, cX6_readFeature, 7, (some .boolean)) kX6_readFeature) (gv_Q cX6_readFeature (some .boolean) sh (fun r h' => (∃ (I' : gr_I) (J' : gr_J), h' = gc_h sh I' J' A ∧ gc_Inv ro I' ∧ (∀ q j : Nat, ((q = 39 ∧ j = 3) ∨ (q = 39 ∧ j = 4) ∨ (q = 23 ∧ j = 5) ∨ (q = 23 ∧ j = 6) ∨ (q = 23 ∧ j = 7) ∨ (q = 23 ∧ j = 8) ∨ q = (t + 5) ∨ q = (t + 6) ∨ (q = (t + 3) ∧ j = 1) ∨ (q = (t + 1) ∧ j = 1)) ∨ I' q j = I q j) ∧ (∀ q j : Nat, ((q = 23 ∧ j = 9) ∨ q = 42 ∨ q = (t + 4) ∨ q = (t + 2)) ∨ J' q j = J q j) ∧ gc_LT I' ∧ (∃ z : Int, r = some (.inl z) ∧ 0 ≤ z ∧ z ≤ 1 ∧ (I' 23 5 ≤ I' 23 6) ∧ (I' 23 7 = 5 ∨ I' 23 6 ≤ I' 23 1) ∧ (I' 23 5 ≤ I' 23 1) ∧ (I' 23 7 = 4 ∨ (I' 23 5 < I' 23 6 ∧ I' 23 5 < I' 23 1)) ∧ (I' 23 7 = 3 → 2 ≤ I' 23 6 - I' 23 5 ∧ I' 23 6 - I' 23 5 ≤ 14) ∧ (I' 23 1 = I 23 1) ∧ (I 23 5 ≤ I' 23 5) ∧ (I' (t + 3) 1 ≤ 6 * I' (t + 1) 1))))) (242, [(0, .inr (.inr (some 39))), (1, .inr (.inl v1_20)), (4, .inl v4_20), (5, .inl v5_93)], [], sh, gc_h sh I91 J92 A) := by
            intro n9
            induction n9 with
            | zero => intro I91 J92 v5_93 hn; omega
            | succ n9 ih242 =>
              intro I91 J92 v5_93 hn hI91 FI91 FJ92 KLT_I91 m_93
              clear hv4_20_83 e0_83 e1_83 e2_83 e3_83 e4_83 e5_83 e6_83 e7_83 e8_83 f84 f85 f86 f87 f88 f89 f90 hv3_20_75 hv4_20_75 e0_75 e1_75 e2_75 e3_75 e4_75 e5_75 e6_75 e7_75 e8_75 f76 f77 f78 f79 f80 f81 f82 hv3_20 hv4_20 hv5_20 e0_20 e1_20 e2_20 e3_20 e4_20 e5_20 e6_20 e7_20 e8_20 f21 f22 f23 f24 f25 f26 f27
              obtain ⟨hv4_20_93, hv5_93, e0_93, e1_93, e2_93, e3_93, e4_93, e5_93, e6_93, e7_93, e8_93, e9_93⟩ := m_93
              have f94 := (show 0 ≤ I91 23 1 ∧ I91 23 1 ≤ 1000 from gc_in hI91 R_23 rfl rfl)
              have f95 := (show 0 ≤ I91 23 5 ∧ I91 23 5 ≤ 1000 from gc_in hI91 R_23 rfl rfl)
              have f96 := (show 0 ≤ I91 23 6 ∧ I91 23 6 ≤ 1001 from gc_in hI91 R_23 rfl rfl)
              have f97 := (show 0 ≤ I91 23 7 ∧ I91 23 7 ≤ 125 from gc_in hI91 R_23 rfl rfl)
              have f98 := (show 0 ≤ I91 (t + 3) 1 ∧ I91 (t + 3) 1 ≤ 48 from gc_in hI91 R_t_3 rfl rfl)
              have f99 := (show 0 ≤ I91 (t + 1) 1 ∧ I91 (t + 1) 1 ≤ 8 from gc_in hI91 R_t_1 rfl rfl)
              have f100 := (show (-1) ≤ I91 39 2 ∧ I91 39 2 ≤ 999999 from gc_in hI91 R_39 rfl rfl)
              refine gv_run 2 true hD (pc' := 246) (lv' := [(0, .inr (.inr (some 39))), (1, .inr (.inl v1_20)), (4, .inl v4_20), (5, .inl v5_93)]) (st' := [.inl v4_20, .inl v5_93]) (h' := gc_h sh I91 J92 A) (C := ((True ∧ True) ∧ True)) rfl ⟨⟨trivial, trivial⟩, trivial⟩ ?_
              refine gv_icmp_ge (t := 322) hD rfl rfl ⟨⟨by omega, by omega⟩, ⟨by omega, by omega⟩⟩ (fun c101 => ?_) (fun c101 => ?_)
              · show gv_X _ _ (322, [(0, .inr (.inr (some 39))), (1, .inr (.inl v1_20)), (4, .inl v4_20), (5, .inl v5_93)], [], sh, gc_h sh I91 J92 A)
                refine gv_run 1 true hD (pc' := 323) (lv' := [(0, .inr (.inr (some 39))), (1, .inr (.inl v1_20)), (4, .inl v4_20), (5, .inl v5_93)]) (st' := [.inr (.inr (some 39))]) (h' := gc_h sh I91 J92 A) (C := (True ∧ True)) rfl ⟨trivial, trivial⟩ ?_
                refine gv_get hD rfl rfl S_39 ⟨by decide, B_39⟩ (gc_h5 (t := t) S_39 rfl (by omega)) ?_
                show gv_X _ _ (326, [(0, .inr (.inr (some 39))), (1, .inr (.inl v1_20)), (4, .inl v4_20), (5, .inl v5_93)], [.inr (.inr (some t))], sh, gc_h sh I91 J92 A)
                refine gv_get hD rfl rfl S_t ⟨by decide, B_t⟩ (gc_hA S_t rfl A_t_0) ?_
                show gv_X _ _ (329, [(0, .inr (.inr (some 39))), (1, .inr (.inl v1_20)), (4, .inl v4_20), (5, .inl v5_93)], [.inr (.inr (some (t + 1)))], sh, gc_h sh I91 J92 A)
                refine gv_run 1 true hD (pc' := 330) (lv' := [(0, .inr (.inr (some 39))), (1, .inr (.inl v1_20)), (4, .inl v4_20), (5, .inl v5_93)]) (st' := [.inr (.inl v1_20), .inr (.inr (some (t + 1)))]) (h' := gc_h sh I91 J92 A) (C := (True ∧ True)) rfl ⟨trivial, trivial⟩ ?_
                obtain ⟨r102, h102, E102, P102⟩ := d_X4_put (ws0 := ws0) (tb := tb) hws htb sh ro I91 J92 A hI91 (t + 1) 8 6 v1_20 h_t_1     
                obtain ⟨I103, J104, rfl, hI103, g102, k102, ⟨rfl, q102⟩⟩ := P102
                have FI103 := gc_frc (W := fun q j => (q = 39 ∧ j = 3) ∨ (q = 39 ∧ j = 4) ∨ (q = 23 ∧ j = 5) ∨ (q = 23 ∧ j = 6) ∨ (q = 23 ∧ j = 7) ∨ (q = 23 ∧ j = 8) ∨ q = (t + 5) ∨ q = (t + 6) ∨ (q = (t + 3) ∧ j = 1) ∨ (q = (t + 1) ∧ j = 1)) (V := fun q j => (q = (t + 1) ∧ j = 1)) FI91 (fun q j h => (Or.inr (Or.inr (Or.inr (Or.inr (Or.inr (Or.inr (Or.inr (Or.inr (Or.inr h)))))))))) g102
                have FJ104 := gc_frc (W := fun q j => (q = 23 ∧ j = 9) ∨ q = 42 ∨ q = (t + 4) ∨ q = (t + 2)) (V := fun q j => q = (t + 2)) FJ92 (fun q j h => (Or.inr (Or.inr (Or.inr h)))) k102
                have t105 := (g102 23 1).resolve_left (by omega)
                have t106 := (g102 23 5).resolve_left (by omega)
                have t107 := (g102 23 6).resolve_left (by omega)
                have t108 := (g102 23 7).resolve_left (by omega)
                have t109 := (g102 (t + 3) 1).resolve_left (by omega)
                have t110 := (g102 39 2).resolve_left (by omega)
                have f111 := (show 0 ≤ I103 23 1 ∧ I103 23 1 ≤ 1000 from gc_in hI103 R_23 rfl rfl)
                have f112 := (show 0 ≤ I103 23 5 ∧ I103 23 5 ≤ 1000 from gc_in hI103 R_23 rfl rfl)
                have f113 := (show 0 ≤ I103 23 6 ∧ I103 23 6 ≤ 1001 from gc_in hI103 R_23 rfl rfl)
                have f114 := (show 0 ≤ I103 23 7 ∧ I103 23 7 ≤ 125 from gc_in hI103 R_23 rfl rfl)
                have f115 := (show 0 ≤ I103 (t + 3) 1 ∧ I103 (t + 3) 1 ≤ 48 from gc_in hI103 R_t_3 rfl rfl)
                have f116 := (show 0 ≤ I103 (t + 1) 1 ∧ I103 (t + 1) 1 ≤ 8 from gc_in hI103 R_t_1 rfl rfl)
                have f117 := (show (-1) ≤ I103 39 2 ∧ I103 39 2 ≤ 999999 from gc_in hI103 R_39 rfl rfl)
                have KLT_I103 := gc_LT_fr KLT_I91 ((g102 23 5).resolve_left (by omega)) ((g102 23 6).resolve_left (by omega)) ((g102 23 7).resolve_left (by omega)) (fun k => (g102 24 k).resolve_left (by omega))
                refine gv_callV hD rfl (As := [.inr (.inl v1_20)]) (st := []) rfl B_t_1 S_t_1 rfl (gc_lV6 hws rfl) (Nat.le_of_ble_eq_true rfl) (gz_Ev_mono (d := 1) (by decide) E102) ?_
                show gv_X _ _ (333, [(0, .inr (.inr (some 39))), (1, .inr (.inl v1_20)), (4, .inl v4_20), (5, .inl v5_93)], [], sh, gc_h sh I103 J104 A)
                refine gv_run 1 true hD (pc' := 334) (lv' := [(0, .inr (.inr (some 39))), (1, .inr (.inl v1_20)), (4, .inl v4_20), (5, .inl v5_93)]) (st' := [.inl 1]) (h' := gc_h sh I103 J104 A) (C := (True ∧ True)) rfl ⟨trivial, trivial⟩ ?_
                exact gv_zret hD rfl (by omega) ⟨I103, J104, rfl, hI103, FI103, FJ104, KLT_I103, ⟨_, rfl, by omega⟩⟩
              · show gv_X _ _ (249, [(0, .inr (.inr (some 39))), (1, .inr (.inl v1_20)), (4, .inl v4_20), (5, .inl v5_93)], [], sh, gc_h sh I91 J92 A)
                refine gv_run 1 true hD (pc' := 250) (lv' := [(0, .inr (.inr (some 39))), (1, .inr (.inl v1_20)), (4, .inl v4_20), (5, .inl v5_93)]) (st' := [.inr (.inr (some 39))]) (h' := gc_h sh I91 J92 A) (C := (True ∧ True)) rfl ⟨trivial, trivial⟩ ?_
                refine gv_get hD rfl rfl S_39 ⟨by decide, B_39⟩ (gc_h5 (t := t) S_39 rfl (by omega)) ?_
                show gv_X _ _ (253, [(0, .inr (.inr (some 39))), (1, .inr (.inl v1_20)), (4, .inl v4_20), (5, .inl v5_93)], [.inr (.inr (some t))], sh, gc_h sh I91 J92 A)
                refine gv_get hD rfl rfl S_t ⟨by decide, B_t⟩ (gc_hA S_t rfl A_t_2) ?_
                show gv_X _ _ (256, [(0, .inr (.inr (some 39))), (1, .inr (.inl v1_20)), (4, .inl v4_20), (5, .inl v5_93)], [.inr (.inr (some (t + 5)))], sh, gc_h sh I91 J92 A)
                refine gv_run 1 true hD (pc' := 257) (lv' := [(0, .inr (.inr (some 39))), (1, .inr (.inl v1_20)), (4, .inl v4_20), (5, .inl v5_93)]) (st' := [.inr (.inr (some 39)), .inr (.inr (some (t + 5)))]) (h' := gc_h sh I91 J92 A) (C := (True ∧ True)) rfl ⟨trivial, trivial⟩ ?_
                refine gv_get hD rfl rfl S_39 ⟨by decide, B_39⟩ (gc_h5 (t := t) S_39 rfl (by omega)) ?_
                show gv_X _ _ (260, [(0, .inr (.inr (some 39))), (1, .inr (.inl v1_20)), (4, .inl v4_20), (5, .inl v5_93)], [.inr (.inr (some t)), .inr (.inr (some (t + 5)))], sh, gc_h sh I91 J92 A)
                refine gv_get hD rfl rfl S_t ⟨by decide, B_t⟩ (gc_hA S_t rfl A_t_1) ?_
                show gv_X _ _ (263, [(0, .inr (.inr (some 39))), (1, .inr (.inl v1_20)), (4, .inl v4_20), (5, .inl v5_93)], [.inr (.inr (some (t + 3))), .inr (.inr (some (t + 5)))], sh, gc_h sh I91 J92 A)
                have f118 := (show 0 ≤ I91 (t + 3) 1 ∧ I91 (t + 3) 1 ≤ 48 from gc_in hI91 R_t_3 rfl rfl)
                refine gv_get hD rfl rfl S_t_3 ⟨by decide, B_t_3⟩ (gc_hI S_t_3 rfl) ?_
                show gv_X _ _ (266, [(0, .inr (.inr (some 39))), (1, .inr (.inl v1_20)), (4, .inl v4_20), (5, .inl v5_93)], [.inl (I91 (t + 3) 1), .inr (.inr (some (t + 5)))], sh, gc_h sh I91 J92 A)
                refine gv_run 1 true hD (pc' := 267) (lv' := [(0, .inr (.inr (some 39))), (1, .inr (.inl v1_20)), (4, .inl v4_20), (5, .inl v5_93)]) (st' := [.inr (.inr (some 39)), .inl (I91 (t + 3) 1), .inr (.inr (some (t + 5)))]) (h' := gc_h sh I91 J92 A) (C := (True ∧ True)) rfl ⟨trivial, trivial⟩ ?_
                refine gv_get hD rfl rfl S_39 ⟨by decide, B_39⟩ (gc_h5 (t := t) S_39 rfl (by omega)) ?_
                show gv_X _ _ (270, [(0, .inr (.inr (some 39))), (1, .inr (.inl v1_20)), (4, .inl v4_20), (5, .inl v5_93)], [.inr (.inr (some t)), .inl (I91 (t + 3) 1), .inr (.inr (some (t + 5)))], sh, gc_h sh I91 J92 A)
                refine gv_get hD rfl rfl S_t ⟨by decide, B_t⟩ (gc_hA S_t rfl A_t_0) ?_
                show gv_X _ _ (273, [(0, .inr (.inr (some 39))), (1, .inr (.inl v1_20)), (4, .inl v4_20), (5, .inl v5_93)], [.inr (.inr (some (t + 1))), .inl (I91 (t + 3) 1), .inr (.inr (some (t + 5)))], sh, gc_h sh I91 J92 A)
                have f119 := (show 0 ≤ I91 (t + 1) 1 ∧ I91 (t + 1) 1 ≤ 8 from gc_in hI91 R_t_1 rfl rfl)
                refine gv_get hD rfl rfl S_t_1 ⟨by decide, B_t_1⟩ (gc_hI S_t_1 rfl) ?_
                show gv_X _ _ (276, [(0, .inr (.inr (some 39))), (1, .inr (.inl v1_20)), (4, .inl v4_20), (5, .inl v5_93)], [.inl (I91 (t + 1) 1), .inl (I91 (t + 3) 1), .inr (.inr (some (t + 5)))], sh, gc_h sh I91 J92 A)
                refine gv_iast hD rfl S_t_5 ⟨by decide, B_t_5⟩ ⟨by omega, by omega⟩ ?_
                refine gc_st hI91 S_t_5 rfl R_t_5 (lo := 0) (hi := 7) rfl rfl (by omega) (by omega) (fun I120 hI120 q121 p121 => ?_)
                have FI120 := gc_frs (W := fun q j => (q = 39 ∧ j = 3) ∨ (q = 39 ∧ j = 4) ∨ (q = 23 ∧ j = 5) ∨ (q = 23 ∧ j = 6) ∨ (q = 23 ∧ j = 7) ∨ (q = 23 ∧ j = 8) ∨ q = (t + 5) ∨ q = (t + 6) ∨ (q = (t + 3) ∧ j = 1) ∨ (q = (t + 1) ∧ j = 1)) FI91 (Or.inr (Or.inr (Or.inr (Or.inr (Or.inr (Or.inr (Or.inl rfl))))))) p121
                have t122 := p121 23 1 (fun h => absurd h.1 (by omega))
                have t123 := p121 23 5 (fun h => absurd h.1 (by omega))
                have t124 := p121 23 6 (fun h => absurd h.1 (by omega))
                have t125 := p121 23 7 (fun h => absurd h.1 (by omega))
                have t126 := p121 (t + 3) 1 (fun h => absurd h.1 (by omega))
                have t127 := p121 (t + 1) 1 (fun h => absurd h.1 (by omega))
                have t128 := p121 39 2 (fun h => absurd h.1 (by omega))
                have f129 := (show 0 ≤ I120 23 1 ∧ I120 23 1 ≤ 1000 from gc_in hI120 R_23 rfl rfl)
                have f130 := (show 0 ≤ I120 23 5 ∧ I120 23 5 ≤ 1000 from gc_in hI120 R_23 rfl rfl)
                have f131 := (show 0 ≤ I120 23 6 ∧ I120 23 6 ≤ 1001 from gc_in hI120 R_23 rfl rfl)
                have f132 := (show 0 ≤ I120 23 7 ∧ I120 23 7 ≤ 125 from gc_in hI120 R_23 rfl rfl)
                have f133 := (show 0 ≤ I120 (t + 3) 1 ∧ I120 (t + 3) 1 ≤ 48 from gc_in hI120 R_t_3 rfl rfl)
                have f134 := (show 0 ≤ I120 (t + 1) 1 ∧ I120 (t + 1) 1 ≤ 8 from gc_in hI120 R_t_1 rfl rfl)
                have f135 := (show (-1) ≤ I120 39 2 ∧ I120 39 2 ≤ 999999 from gc_in hI120 R_39 rfl rfl)
                have KLT_I120 := gc_LT_fr KLT_I91 (p121 23 5 (fun h => absurd h.1 (by omega))) (p121 23 6 (fun h => absurd h.1 (by omega))) (p121 23 7 (fun h => absurd h.1 (by omega))) (fun k => p121 24 k (fun h => absurd h.1 (by omega)))
                show gv_X _ _ (277, [(0, .inr (.inr (some 39))), (1, .inr (.inl v1_20)), (4, .inl v4_20), (5, .inl v5_93)], [], sh, gc_h sh I120 J92 A)
                refine gv_run 1 true hD (pc' := 278) (lv' := [(0, .inr (.inr (some 39))), (1, .inr (.inl v1_20)), (4, .inl v4_20), (5, .inl v5_93)]) (st' := [.inr (.inr (some 39))]) (h' := gc_h sh I120 J92 A) (C := (True ∧ True)) rfl ⟨trivial, trivial⟩ ?_
                refine gv_get hD rfl rfl S_39 ⟨by decide, B_39⟩ (gc_h5 (t := t) S_39 rfl (by omega)) ?_
                show gv_X _ _ (281, [(0, .inr (.inr (some 39))), (1, .inr (.inl v1_20)), (4, .inl v4_20), (5, .inl v5_93)], [.inr (.inr (some t))], sh, gc_h sh I120 J92 A)
                refine gv_get hD rfl rfl S_t ⟨by decide, B_t⟩ (gc_hA S_t rfl A_t_3) ?_
                show gv_X _ _ (284, [(0, .inr (.inr (some 39))), (1, .inr (.inl v1_20)), (4, .inl v4_20), (5, .inl v5_93)], [.inr (.inr (some (t + 6)))], sh, gc_h sh I120 J92 A)
                refine gv_run 1 true hD (pc' := 285) (lv' := [(0, .inr (.inr (some 39))), (1, .inr (.inl v1_20)), (4, .inl v4_20), (5, .inl v5_93)]) (st' := [.inr (.inr (some 39)), .inr (.inr (some (t + 6)))]) (h' := gc_h sh I120 J92 A) (C := (True ∧ True)) rfl ⟨trivial, trivial⟩ ?_
                refine gv_get hD rfl rfl S_39 ⟨by decide, B_39⟩ (gc_h5 (t := t) S_39 rfl (by omega)) ?_
                show gv_X _ _ (288, [(0, .inr (.inr (some 39))), (1, .inr (.inl v1_20)), (4, .inl v4_20), (5, .inl v5_93)], [.inr (.inr (some t)), .inr (.inr (some (t + 6)))], sh, gc_h sh I120 J92 A)
                refine gv_get hD rfl rfl S_t ⟨by decide, B_t⟩ (gc_hA S_t rfl A_t_1) ?_
                show gv_X _ _ (291, [(0, .inr (.inr (some 39))), (1, .inr (.inl v1_20)), (4, .inl v4_20), (5, .inl v5_93)], [.inr (.inr (some (t + 3))), .inr (.inr (some (t + 6)))], sh, gc_h sh I120 J92 A)
                have f136 := (show 0 ≤ I120 (t + 3) 1 ∧ I120 (t + 3) 1 ≤ 48 from gc_in hI120 R_t_3 rfl rfl)
                refine gv_get hD rfl rfl S_t_3 ⟨by decide, B_t_3⟩ (gc_hI S_t_3 rfl) ?_
                show gv_X _ _ (294, [(0, .inr (.inr (some 39))), (1, .inr (.inl v1_20)), (4, .inl v4_20), (5, .inl v5_93)], [.inl (I120 (t + 3) 1), .inr (.inr (some (t + 6)))], sh, gc_h sh I120 J92 A)
                refine gv_run 3 true hD (pc' := 298) (lv' := [(0, .inr (.inr (some 39))), (1, .inr (.inl v1_20)), (4, .inl v4_20), (5, .inl v5_93)]) (st' := [.inl (v5_93 + 1), .inl (I120 (t + 3) 1), .inr (.inr (some (t + 6)))]) (h' := gc_h sh I120 J92 A) (C := (((True ∧ True) ∧ True) ∧ True)) rfl ⟨⟨⟨trivial, trivial⟩, trivial⟩, trivial⟩ ?_
                refine gv_iast hD rfl S_t_6 ⟨by decide, B_t_6⟩ ⟨by omega, by omega⟩ ?_
                refine gc_st hI120 S_t_6 rfl R_t_6 (lo := 0) (hi := 6) rfl rfl (by omega) (by omega) (fun I137 hI137 q138 p138 => ?_)
                have FI137 := gc_frs (W := fun q j => (q = 39 ∧ j = 3) ∨ (q = 39 ∧ j = 4) ∨ (q = 23 ∧ j = 5) ∨ (q = 23 ∧ j = 6) ∨ (q = 23 ∧ j = 7) ∨ (q = 23 ∧ j = 8) ∨ q = (t + 5) ∨ q = (t + 6) ∨ (q = (t + 3) ∧ j = 1) ∨ (q = (t + 1) ∧ j = 1)) FI120 (Or.inr (Or.inr (Or.inr (Or.inr (Or.inr (Or.inr (Or.inr (Or.inl rfl)))))))) p138
                have t139 := p138 23 1 (fun h => absurd h.1 (by omega))
                have t140 := p138 23 5 (fun h => absurd h.1 (by omega))
                have t141 := p138 23 6 (fun h => absurd h.1 (by omega))
                have t142 := p138 23 7 (fun h => absurd h.1 (by omega))
                have t143 := p138 (t + 3) 1 (fun h => absurd h.1 (by omega))
                have t144 := p138 (t + 1) 1 (fun h => absurd h.1 (by omega))
                have t145 := p138 39 2 (fun h => absurd h.1 (by omega))
                have f146 := (show 0 ≤ I137 23 1 ∧ I137 23 1 ≤ 1000 from gc_in hI137 R_23 rfl rfl)
                have f147 := (show 0 ≤ I137 23 5 ∧ I137 23 5 ≤ 1000 from gc_in hI137 R_23 rfl rfl)
                have f148 := (show 0 ≤ I137 23 6 ∧ I137 23 6 ≤ 1001 from gc_in hI137 R_23 rfl rfl)
                have f149 := (show 0 ≤ I137 23 7 ∧ I137 23 7 ≤ 125 from gc_in hI137 R_23 rfl rfl)
                have f150 := (show 0 ≤ I137 (t + 3) 1 ∧ I137 (t + 3) 1 ≤ 48 from gc_in hI137 R_t_3 rfl rfl)
                have f151 := (show 0 ≤ I137 (t + 1) 1 ∧ I137 (t + 1) 1 ≤ 8 from gc_in hI137 R_t_1 rfl rfl)
                have f152 := (show (-1) ≤ I137 39 2 ∧ I137 39 2 ≤ 999999 from gc_in hI137 R_39 rfl rfl)
                have KLT_I137 := gc_LT_fr KLT_I120 (p138 23 5 (fun h => absurd h.1 (by omega))) (p138 23 6 (fun h => absurd h.1 (by omega))) (p138 23 7 (fun h => absurd h.1 (by omega))) (fun k => p138 24 k (fun h => absurd h.1 (by omega)))
                show gv_X _ _ (299, [(0, .inr (.inr (some 39))), (1, .inr (.inl v1_20)), (4, .inl v4_20), (5, .inl v5_93)], [], sh, gc_h sh I137 J92 A)
                refine gv_run 1 true hD (pc' := 300) (lv' := [(0, .inr (.inr (some 39))), (1, .inr (.inl v1_20)), (4, .inl v4_20), (5, .inl v5_93)]) (st' := [.inr (.inr (some 39))]) (h' := gc_h sh I137 J92 A) (C := (True ∧ True)) rfl ⟨trivial, trivial⟩ ?_
                refine gv_get hD rfl rfl S_39 ⟨by decide, B_39⟩ (gc_h5 (t := t) S_39 rfl (by omega)) ?_
                show gv_X _ _ (303, [(0, .inr (.inr (some 39))), (1, .inr (.inl v1_20)), (4, .inl v4_20), (5, .inl v5_93)], [.inr (.inr (some t))], sh, gc_h sh I137 J92 A)
                refine gv_get hD rfl rfl S_t ⟨by decide, B_t⟩ (gc_hA S_t rfl A_t_1) ?_
                show gv_X _ _ (306, [(0, .inr (.inr (some 39))), (1, .inr (.inl v1_20)), (4, .inl v4_20), (5, .inl v5_93)], [.inr (.inr (some (t + 3)))], sh, gc_h sh I137 J92 A)
                refine gv_run 1 true hD (pc' := 307) (lv' := [(0, .inr (.inr (some 39))), (1, .inr (.inl v1_20)), (4, .inl v4_20), (5, .inl v5_93)]) (st' := [.inr (.inr (some 39)), .inr (.inr (some (t + 3)))]) (h' := gc_h sh I137 J92 A) (C := (True ∧ True)) rfl ⟨trivial, trivial⟩ ?_
                refine gv_get hD rfl rfl S_39 ⟨by decide, B_39⟩ (gc_hA S_39 rfl A_39_11) ?_
                show gv_X _ _ (310, [(0, .inr (.inr (some 39))), (1, .inr (.inl v1_20)), (4, .inl v4_20), (5, .inl v5_93)], [.inr (.inr (some 42)), .inr (.inr (some (t + 3)))], sh, gc_h sh I137 J92 A)
                refine gv_run 1 true hD (pc' := 312) (lv' := [(0, .inr (.inr (some 39))), (1, .inr (.inl v1_20)), (4, .inl v4_20), (5, .inl v5_93)]) (st' := [.inl v5_93, .inr (.inr (some 42)), .inr (.inr (some (t + 3)))]) (h' := gc_h sh I137 J92 A) (C := (True ∧ True)) rfl ⟨trivial, trivial⟩ ?_
                refine gv_lald hD rfl S_42 rfl ⟨by decide, B_42⟩ ⟨by omega, by omega⟩ (gc_jJ S_42 rfl) ?_
                show gv_X _ _ (313, [(0, .inr (.inr (some 39))), (1, .inr (.inl v1_20)), (4, .inl v4_20), (5, .inl v5_93)], [.inr (.inl (J92 42 (Int.toNat v5_93))), .inr (.inr (some (t + 3)))], sh, gc_h sh I137 J92 A)
                obtain ⟨r153, h153, E153, P153⟩ := d_X4_put (ws0 := ws0) (tb := tb) hws htb sh ro I137 J92 A hI137 (t + 3) 48 10 ((J92 42 (Int.toNat v5_93))) h_t_3     
                obtain ⟨I154, J155, rfl, hI154, g153, k153, ⟨rfl, q153⟩⟩ := P153
                have FI154 := gc_frc (W := fun q j => (q = 39 ∧ j = 3) ∨ (q = 39 ∧ j = 4) ∨ (q = 23 ∧ j = 5) ∨ (q = 23 ∧ j = 6) ∨ (q = 23 ∧ j = 7) ∨ (q = 23 ∧ j = 8) ∨ q = (t + 5) ∨ q = (t + 6) ∨ (q = (t + 3) ∧ j = 1) ∨ (q = (t + 1) ∧ j = 1)) (V := fun q j => (q = (t + 3) ∧ j = 1)) FI137 (fun q j h => (Or.inr (Or.inr (Or.inr (Or.inr (Or.inr (Or.inr (Or.inr (Or.inr (Or.inl h)))))))))) g153
                have FJ155 := gc_frc (W := fun q j => (q = 23 ∧ j = 9) ∨ q = 42 ∨ q = (t + 4) ∨ q = (t + 2)) (V := fun q j => q = (t + 4)) FJ92 (fun q j h => (Or.inr (Or.inr (Or.inl h)))) k153
                have t156 := (g153 23 1).resolve_left (by omega)
                have t157 := (g153 23 5).resolve_left (by omega)
                have t158 := (g153 23 6).resolve_left (by omega)
                have t159 := (g153 23 7).resolve_left (by omega)
                have t160 := (g153 (t + 1) 1).resolve_left (by omega)
                have t161 := (g153 39 2).resolve_left (by omega)
                have f162 := (show 0 ≤ I154 23 1 ∧ I154 23 1 ≤ 1000 from gc_in hI154 R_23 rfl rfl)
                have f163 := (show 0 ≤ I154 23 5 ∧ I154 23 5 ≤ 1000 from gc_in hI154 R_23 rfl rfl)
                have f164 := (show 0 ≤ I154 23 6 ∧ I154 23 6 ≤ 1001 from gc_in hI154 R_23 rfl rfl)
                have f165 := (show 0 ≤ I154 23 7 ∧ I154 23 7 ≤ 125 from gc_in hI154 R_23 rfl rfl)
                have f166 := (show 0 ≤ I154 (t + 3) 1 ∧ I154 (t + 3) 1 ≤ 48 from gc_in hI154 R_t_3 rfl rfl)
                have f167 := (show 0 ≤ I154 (t + 1) 1 ∧ I154 (t + 1) 1 ≤ 8 from gc_in hI154 R_t_1 rfl rfl)
                have f168 := (show (-1) ≤ I154 39 2 ∧ I154 39 2 ≤ 999999 from gc_in hI154 R_39 rfl rfl)
                have KLT_I154 := gc_LT_fr KLT_I137 ((g153 23 5).resolve_left (by omega)) ((g153 23 6).resolve_left (by omega)) ((g153 23 7).resolve_left (by omega)) (fun k => (g153 24 k).resolve_left (by omega))
                refine gv_callV hD rfl (As := [.inr (.inl (J92 42 (Int.toNat v5_93)))]) (st := []) rfl B_t_3 S_t_3 rfl (gc_lV6 hws rfl) (Nat.le_of_ble_eq_true rfl) (gz_Ev_mono (d := 1) (by decide) E153) ?_
                show gv_X _ _ (316, [(0, .inr (.inr (some 39))), (1, .inr (.inl v1_20)), (4, .inl v4_20), (5, .inl v5_93)], [], sh, gc_h sh I154 J155 A)
                refine gv_run 2 true hD (pc' := 242) (lv' := [(5, .inl (v5_93 + 1)), (0, .inr (.inr (some 39))), (1, .inr (.inl v1_20)), (4, .inl v4_20)]) (st' := []) (h' := gc_h sh I154 J155 A) (C := ((True ∧ True) ∧ True)) rfl ⟨⟨trivial, trivial⟩, trivial⟩ ?_
                refine gv_pick [1, 2, 3, 0] rfl ?_
                exact ih242 I154 J155 (v5_93 + 1) (by omega) hI154 FI154 FJ155 KLT_I154 (by omega)
          refine gv_run 2 true hD (pc' := 222) (lv' := [(0, .inr (.inr (some 39))), (1, .inr (.inl v1_20)), (4, .inl v4_20)]) (st' := [.inr (.inr (some 39)), .inr (.inr (some 39))]) (h' := gc_h sh I18 J19 A) (C := ((True ∧ True) ∧ True)) rfl ⟨⟨trivial, trivial⟩, trivial⟩ ?_
          refine gv_get hD rfl rfl S_39 ⟨by decide, B_39⟩ (gc_h5 (t := t) S_39 rfl (by omega)) ?_
          show gv_X _ _ (225, [(0, .inr (.inr (some 39))), (1, .inr (.inl v1_20)), (4, .inl v4_20)], [.inr (.inr (some t)), .inr (.inr (some 39))], sh, gc_h sh I18 J19 A)
          refine gv_get hD rfl rfl S_t ⟨by decide, B_t⟩ (gc_hA S_t rfl A_t_0) ?_
          show gv_X _ _ (228, [(0, .inr (.inr (some 39))), (1, .inr (.inl v1_20)), (4, .inl v4_20)], [.inr (.inr (some (t + 1))), .inr (.inr (some 39))], sh, gc_h sh I18 J19 A)
          obtain ⟨r169, h169, E169, P169⟩ := d_X4_isFull (ws0 := ws0) (tb := tb) hws htb sh ro I18 J19 A hI18 (t + 1) 8 6  h_t_1     
          obtain ⟨rfl, ⟨z169, rfl, q169⟩⟩ := P169
          refine gv_callV hD rfl (As := []) (st := [.inr (.inr (some 39))]) rfl B_t_1 S_t_1 rfl (gc_lV6 hws rfl) (Nat.le_of_ble_eq_true rfl) (gz_Ev_mono (d := 1) (by decide) E169) ?_
          show gv_X _ _ (231, [(0, .inr (.inr (some 39))), (1, .inr (.inl v1_20)), (4, .inl v4_20)], [.inl z169, .inr (.inr (some 39))], sh, gc_h sh I18 J19 A)
          obtain ⟨r170, h170, E170, P170⟩ := d_X6_closes (ws0 := ws0) (tb := tb) hws htb sh ro I18 J19 A hI18  z169 hb   ⟨by omega, by omega⟩ (by omega) (by omega) (by omega) (by omega) (by omega) KLT_I18
          obtain ⟨I171, J172, rfl, hI171, g170, k170, KLT_I171, ⟨z170, rfl, q170⟩⟩ := P170
          have FI171 := gc_frc (W := fun q j => (q = 39 ∧ j = 3) ∨ (q = 39 ∧ j = 4) ∨ (q = 23 ∧ j = 5) ∨ (q = 23 ∧ j = 6) ∨ (q = 23 ∧ j = 7) ∨ (q = 23 ∧ j = 8) ∨ q = (t + 5) ∨ q = (t + 6) ∨ (q = (t + 3) ∧ j = 1) ∨ (q = (t + 1) ∧ j = 1)) (V := fun q j => (q = 39 ∧ j = 3) ∨ (q = 39 ∧ j = 4) ∨ (q = 23 ∧ j = 5) ∨ (q = 23 ∧ j = 6) ∨ (q = 23 ∧ j = 7) ∨ (q = 23 ∧ j = 8)) FI18 (fun q j h => (h.elim (fun h => (Or.inl h)) (fun h => (h.elim (fun h => (Or.inr (Or.inl h))) (fun h => (h.elim (fun h => (Or.inr (Or.inr (Or.inl h)))) (fun h => (h.elim (fun h => (Or.inr (Or.inr (Or.inr (Or.inl h))))) (fun h => (h.elim (fun h => (Or.inr (Or.inr (Or.inr (Or.inr (Or.inl h)))))) (fun h => (Or.inr (Or.inr (Or.inr (Or.inr (Or.inr (Or.inl h))))))))))))))))) g170
          have FJ172 := gc_frc (W := fun q j => (q = 23 ∧ j = 9) ∨ q = 42 ∨ q = (t + 4) ∨ q = (t + 2)) (V := fun q j => (q = 23 ∧ j = 9)) FJ19 (fun q j h => (Or.inl h)) k170
          have t173 := (g170 23 1).resolve_left (by omega)
          have t174 := (g170 (t + 3) 1).resolve_left (by omega)
          have t175 := (g170 (t + 1) 1).resolve_left (by omega)
          have t176 := (g170 39 2).resolve_left (by omega)
          have f177 := (show 0 ≤ I171 23 1 ∧ I171 23 1 ≤ 1000 from gc_in hI171 R_23 rfl rfl)
          have f178 := (show 0 ≤ I171 23 5 ∧ I171 23 5 ≤ 1000 from gc_in hI171 R_23 rfl rfl)
          have f179 := (show 0 ≤ I171 23 6 ∧ I171 23 6 ≤ 1001 from gc_in hI171 R_23 rfl rfl)
          have f180 := (show 0 ≤ I171 23 7 ∧ I171 23 7 ≤ 125 from gc_in hI171 R_23 rfl rfl)
          have f181 := (show 0 ≤ I171 (t + 3) 1 ∧ I171 (t + 3) 1 ≤ 48 from gc_in hI171 R_t_3 rfl rfl)
          have f182 := (show 0 ≤ I171 (t + 1) 1 ∧ I171 (t + 1) 1 ≤ 8 from gc_in hI171 R_t_1 rfl rfl)
          have f183 := (show (-1) ≤ I171 39 2 ∧ I171 39 2 ≤ 999999 from gc_in hI171 R_39 rfl rfl)
          refine gv_callV hD rfl (As := [.inl z169]) (st := []) rfl B_39 S_39 rfl (gc_lV6 hws rfl) (Nat.le_of_ble_eq_true rfl) (gz_Ev_mono (d := 4) (by decide) E170) ?_
          show gv_X _ _ (234, [(0, .inr (.inr (some 39))), (1, .inr (.inl v1_20)), (4, .inl v4_20)], [.inl z170], sh, gc_h sh I171 J172 A)
          refine gv_if_ne (t := 239) hD rfl rfl ⟨by omega, by omega⟩ (fun c184 => ?_) (fun c184 => ?_)
          · show gv_X _ _ (239, [(0, .inr (.inr (some 39))), (1, .inr (.inl v1_20)), (4, .inl v4_20)], [], sh, gc_h sh I171 J172 A)
            refine gv_run 2 true hD (pc' := 242) (lv' := [(5, .inl 0), (0, .inr (.inr (some 39))), (1, .inr (.inl v1_20)), (4, .inl v4_20)]) (st' := []) (h' := gc_h sh I171 J172 A) (C := ((True ∧ True) ∧ True)) rfl ⟨⟨trivial, trivial⟩, trivial⟩ ?_
            refine gv_pick [1, 2, 3, 0] rfl ?_
            exact L242 _ I171 J172 0 (Nat.lt_succ_self _) hI171 FI171 FJ172 KLT_I171 (by omega)
          · show gv_X _ _ (237, [(0, .inr (.inr (some 39))), (1, .inr (.inl v1_20)), (4, .inl v4_20)], [], sh, gc_h sh I171 J172 A)
            refine gv_run 1 true hD (pc' := 238) (lv' := [(0, .inr (.inr (some 39))), (1, .inr (.inl v1_20)), (4, .inl v4_20)]) (st' := [.inl 0]) (h' := gc_h sh I171 J172 A) (C := (True ∧ True)) rfl ⟨trivial, trivial⟩ ?_
            exact gv_zret hD rfl (by omega) ⟨I171, J172, rfl, hI171, FI171, FJ172, KLT_I171, ⟨_, rfl, by omega⟩⟩
        refine gv_run 2 true hD (pc' := 198) (lv' := [(0, .inr (.inr (some 39))), (1, .inr (.inl v1_20)), (3, .inl v3_20), (4, .inl v4_20)]) (st' := [.inl 1, .inl v4_20]) (h' := gc_h sh I18 J19 A) (C := ((True ∧ True) ∧ True)) rfl ⟨⟨trivial, trivial⟩, trivial⟩ ?_
        refine gv_icmp_ne (t := 220) hD rfl rfl ⟨⟨by omega, by omega⟩, ⟨by omega, by omega⟩⟩ (fun c185 => ?_) (fun c185 => ?_)
        · show gv_X _ _ (220, [(0, .inr (.inr (some 39))), (1, .inr (.inl v1_20)), (3, .inl v3_20), (4, .inl v4_20)], [], sh, gc_h sh I18 J19 A)
          refine gv_pick [0, 1, 3] rfl ?_
          exact L220 (by omega)
        · show gv_X _ _ (201, [(0, .inr (.inr (some 39))), (1, .inr (.inl v1_20)), (3, .inl v3_20), (4, .inl v4_20)], [], sh, gc_h sh I18 J19 A)
          refine gv_run 1 true hD (pc' := 202) (lv' := [(0, .inr (.inr (some 39))), (1, .inr (.inl v1_20)), (3, .inl v3_20), (4, .inl v4_20)]) (st' := [.inr (.inr (some 39))]) (h' := gc_h sh I18 J19 A) (C := (True ∧ True)) rfl ⟨trivial, trivial⟩ ?_
          refine gv_get hD rfl rfl S_39 ⟨by decide, B_39⟩ (gc_hA S_39 rfl A_39_1) ?_
          show gv_X _ _ (205, [(0, .inr (.inr (some 39))), (1, .inr (.inl v1_20)), (3, .inl v3_20), (4, .inl v4_20)], [.inr (.inr (some 23))], sh, gc_h sh I18 J19 A)
          have f186 := (show 0 ≤ I18 23 7 ∧ I18 23 7 ≤ 125 from gc_in hI18 R_23 rfl rfl)
          refine gv_get hD rfl rfl S_23 ⟨by decide, B_23⟩ (gc_hI S_23 rfl) ?_
          show gv_X _ _ (208, [(0, .inr (.inr (some 39))), (1, .inr (.inl v1_20)), (3, .inl v3_20), (4, .inl v4_20)], [.inl (I18 23 7)], sh, gc_h sh I18 J19 A)
          refine gv_run 1 true hD (pc' := 210) (lv' := [(0, .inr (.inr (some 39))), (1, .inr (.inl v1_20)), (3, .inl v3_20), (4, .inl v4_20)]) (st' := [.inl 59, .inl (I18 23 7)]) (h' := gc_h sh I18 J19 A) (C := (True ∧ True)) rfl ⟨trivial, trivial⟩ ?_
          refine gv_icmp_ne (t := 220) hD rfl rfl ⟨⟨by omega, by omega⟩, ⟨by omega, by omega⟩⟩ (fun c187 => ?_) (fun c187 => ?_)
          · show gv_X _ _ (220, [(0, .inr (.inr (some 39))), (1, .inr (.inl v1_20)), (3, .inl v3_20), (4, .inl v4_20)], [], sh, gc_h sh I18 J19 A)
            refine gv_pick [0, 1, 3] rfl ?_
            exact L220 (by omega)
          · show gv_X _ _ (213, [(0, .inr (.inr (some 39))), (1, .inr (.inl v1_20)), (3, .inl v3_20), (4, .inl v4_20)], [], sh, gc_h sh I18 J19 A)
            refine gv_run 3 true hD (pc' := 216) (lv' := [(0, .inr (.inr (some 39))), (1, .inr (.inl v1_20)), (3, .inl v3_20), (4, .inl v4_20)]) (st' := [.inl v3_20, .inl 5, .inr (.inr (some 39))]) (h' := gc_h sh I18 J19 A) (C := (((True ∧ True) ∧ True) ∧ True)) rfl ⟨⟨⟨trivial, trivial⟩, trivial⟩, trivial⟩ ?_
            obtain ⟨r188, h188, E188, P188⟩ := d_X6_wrong (ws0 := ws0) (tb := tb) hws htb sh ro I18 J19 A hI18  5 v3_20 hb   ⟨by omega, by omega⟩ ⟨by omega, by omega⟩  
            obtain ⟨I189, J190, rfl, hI189, g188, k188, ⟨z188, rfl, q188⟩⟩ := P188
            have FI189 := gc_frc (W := fun q j => (q = 39 ∧ j = 3) ∨ (q = 39 ∧ j = 4) ∨ (q = 23 ∧ j = 5) ∨ (q = 23 ∧ j = 6) ∨ (q = 23 ∧ j = 7) ∨ (q = 23 ∧ j = 8) ∨ q = (t + 5) ∨ q = (t + 6) ∨ (q = (t + 3) ∧ j = 1) ∨ (q = (t + 1) ∧ j = 1)) (V := fun q j => (q = 39 ∧ j = 3) ∨ (q = 39 ∧ j = 4)) FI18 (fun q j h => (h.elim (fun h => (Or.inl h)) (fun h => (Or.inr (Or.inl h))))) g188
            have t191 := (g188 23 1).resolve_left (by omega)
            have t192 := (g188 23 5).resolve_left (by omega)
            have t193 := (g188 23 6).resolve_left (by omega)
            have t194 := (g188 23 7).resolve_left (by omega)
            have t195 := (g188 (t + 3) 1).resolve_left (by omega)
            have t196 := (g188 (t + 1) 1).resolve_left (by omega)
            have t197 := (g188 39 2).resolve_left (by omega)
            have f198 := (show 0 ≤ I189 23 1 ∧ I189 23 1 ≤ 1000 from gc_in hI189 R_23 rfl rfl)
            have f199 := (show 0 ≤ I189 23 5 ∧ I189 23 5 ≤ 1000 from gc_in hI189 R_23 rfl rfl)
            have f200 := (show 0 ≤ I189 23 6 ∧ I189 23 6 ≤ 1001 from gc_in hI189 R_23 rfl rfl)
            have f201 := (show 0 ≤ I189 23 7 ∧ I189 23 7 ≤ 125 from gc_in hI189 R_23 rfl rfl)
            have f202 := (show 0 ≤ I189 (t + 3) 1 ∧ I189 (t + 3) 1 ≤ 48 from gc_in hI189 R_t_3 rfl rfl)
            have f203 := (show 0 ≤ I189 (t + 1) 1 ∧ I189 (t + 1) 1 ≤ 8 from gc_in hI189 R_t_1 rfl rfl)
            have f204 := (show (-1) ≤ I189 39 2 ∧ I189 39 2 ≤ 999999 from gc_in hI189 R_39 rfl rfl)
            obtain rfl : J19 = J190 := funext fun q => funext fun j => ((k188 q j).resolve_left id).symm
            have KLT_I189 := gc_LT_fr KLT_I18 ((g188 23 5).resolve_left (by omega)) ((g188 23 6).resolve_left (by omega)) ((g188 23 7).resolve_left (by omega)) (fun k => (g188 24 k).resolve_left (by omega))
            refine gv_callV hD rfl (As := [.inl 5, .inl v3_20]) (st := []) rfl B_39 S_39 rfl (gc_lV6 hws rfl) (Nat.le_of_ble_eq_true rfl) (gz_Ev_mono (d := 1) (by decide) E188) ?_
            show gv_X _ _ (219, [(0, .inr (.inr (some 39))), (1, .inr (.inl v1_20)), (3, .inl v3_20), (4, .inl v4_20)], [.inl z188], sh, gc_h sh I189 J19 A)
            exact gv_zret hD rfl (by omega) ⟨I189, J19, rfl, hI189, FI189, FJ19, KLT_I189, ⟨_, rfl, by omega⟩⟩
      refine gv_run 2 true hD (pc' := 68) (lv' := [(0, .inr (.inr (some 39))), (1, .inr (.inl v1_20)), (3, .inl v3_20), (4, .inl v4_20), (5, .inl v5_20)]) (st' := [.inl 6, .inl v5_20]) (h' := gc_h sh I18 J19 A) (C := ((True ∧ True) ∧ True)) rfl ⟨⟨trivial, trivial⟩, trivial⟩ ?_
      refine gv_icmp_gt (t := 195) hD rfl rfl ⟨⟨by omega, by omega⟩, ⟨by omega, by omega⟩⟩ (fun c205 => ?_) (fun c205 => ?_)
      · show gv_X _ _ (195, [(0, .inr (.inr (some 39))), (1, .inr (.inl v1_20)), (3, .inl v3_20), (4, .inl v4_20), (5, .inl v5_20)], [], sh, gc_h sh I18 J19 A)
        refine gv_pick [0, 1, 2, 3] rfl ?_
        exact L195 (by omega)
      · show gv_X _ _ (71, [(0, .inr (.inr (some 39))), (1, .inr (.inl v1_20)), (3, .inl v3_20), (4, .inl v4_20), (5, .inl v5_20)], [], sh, gc_h sh I18 J19 A)
        refine gv_run 1 true hD (pc' := 72) (lv' := [(0, .inr (.inr (some 39))), (1, .inr (.inl v1_20)), (3, .inl v3_20), (4, .inl v4_20), (5, .inl v5_20)]) (st' := [.inr (.inr (some 39))]) (h' := gc_h sh I18 J19 A) (C := (True ∧ True)) rfl ⟨trivial, trivial⟩ ?_
        refine gv_get hD rfl rfl S_39 ⟨by decide, B_39⟩ (gc_hA S_39 rfl A_39_1) ?_
        show gv_X _ _ (75, [(0, .inr (.inr (some 39))), (1, .inr (.inl v1_20)), (3, .inl v3_20), (4, .inl v4_20), (5, .inl v5_20)], [.inr (.inr (some 23))], sh, gc_h sh I18 J19 A)
        have f206 := (show 0 ≤ I18 23 7 ∧ I18 23 7 ≤ 125 from gc_in hI18 R_23 rfl rfl)
        refine gv_get hD rfl rfl S_23 ⟨by decide, B_23⟩ (gc_hI S_23 rfl) ?_
        show gv_X _ _ (78, [(0, .inr (.inr (some 39))), (1, .inr (.inl v1_20)), (3, .inl v3_20), (4, .inl v4_20), (5, .inl v5_20)], [.inl (I18 23 7)], sh, gc_h sh I18 J19 A)
        refine gv_run 1 true hD (pc' := 79) (lv' := [(0, .inr (.inr (some 39))), (1, .inr (.inl v1_20)), (3, .inl v3_20), (4, .inl v4_20), (5, .inl v5_20)]) (st' := [.inl 1, .inl (I18 23 7)]) (h' := gc_h sh I18 J19 A) (C := (True ∧ True)) rfl ⟨trivial, trivial⟩ ?_
        refine gv_icmp_ne (t := 195) hD rfl rfl ⟨⟨by omega, by omega⟩, ⟨by omega, by omega⟩⟩ (fun c207 => ?_) (fun c207 => ?_)
        · show gv_X _ _ (195, [(0, .inr (.inr (some 39))), (1, .inr (.inl v1_20)), (3, .inl v3_20), (4, .inl v4_20), (5, .inl v5_20)], [], sh, gc_h sh I18 J19 A)
          refine gv_pick [0, 1, 2, 3] rfl ?_
          exact L195 (by omega)
        · show gv_X _ _ (82, [(0, .inr (.inr (some 39))), (1, .inr (.inl v1_20)), (3, .inl v3_20), (4, .inl v4_20), (5, .inl v5_20)], [], sh, gc_h sh I18 J19 A)
          refine gv_run 2 true hD (pc' := 86) (lv' := [(0, .inr (.inr (some 39))), (1, .inr (.inl v1_20)), (3, .inl v3_20), (4, .inl v4_20), (5, .inl v5_20)]) (st' := [.inl 6, .inl v4_20]) (h' := gc_h sh I18 J19 A) (C := ((True ∧ True) ∧ True)) rfl ⟨⟨trivial, trivial⟩, trivial⟩ ?_
          refine gv_icmp_ne (t := 102) hD rfl rfl ⟨⟨by omega, by omega⟩, ⟨by omega, by omega⟩⟩ (fun c208 => ?_) (fun c208 => ?_)
          · show gv_X _ _ (102, [(0, .inr (.inr (some 39))), (1, .inr (.inl v1_20)), (3, .inl v3_20), (4, .inl v4_20), (5, .inl v5_20)], [], sh, gc_h sh I18 J19 A)
            refine gv_run 2 true hD (pc' := 104) (lv' := [(0, .inr (.inr (some 39))), (1, .inr (.inl v1_20)), (3, .inl v3_20), (4, .inl v4_20), (5, .inl v5_20)]) (st' := [.inr (.inr (some 39)), .inr (.inr (some 39))]) (h' := gc_h sh I18 J19 A) (C := ((True ∧ True) ∧ True)) rfl ⟨⟨trivial, trivial⟩, trivial⟩ ?_
            refine gv_get hD rfl rfl S_39 ⟨by decide, B_39⟩ (gc_h5 (t := t) S_39 rfl (by omega)) ?_
            show gv_X _ _ (107, [(0, .inr (.inr (some 39))), (1, .inr (.inl v1_20)), (3, .inl v3_20), (4, .inl v4_20), (5, .inl v5_20)], [.inr (.inr (some t)), .inr (.inr (some 39))], sh, gc_h sh I18 J19 A)
            refine gv_get hD rfl rfl S_t ⟨by decide, B_t⟩ (gc_hA S_t rfl A_t_1) ?_
            show gv_X _ _ (110, [(0, .inr (.inr (some 39))), (1, .inr (.inl v1_20)), (3, .inl v3_20), (4, .inl v4_20), (5, .inl v5_20)], [.inr (.inr (some (t + 3))), .inr (.inr (some 39))], sh, gc_h sh I18 J19 A)
            obtain ⟨r209, h209, E209, P209⟩ := d_X6_needNew (ws0 := ws0) (tb := tb) hws htb sh ro I18 J19 A hI18  48 10 (t + 3) hb h_t_3    
            obtain ⟨I210, J211, rfl, hI210, g209, k209, ⟨z209, rfl, q209⟩⟩ := P209
            have FI210 := gc_frc (W := fun q j => (q = 39 ∧ j = 3) ∨ (q = 39 ∧ j = 4) ∨ (q = 23 ∧ j = 5) ∨ (q = 23 ∧ j = 6) ∨ (q = 23 ∧ j = 7) ∨ (q = 23 ∧ j = 8) ∨ q = (t + 5) ∨ q = (t + 6) ∨ (q = (t + 3) ∧ j = 1) ∨ (q = (t + 1) ∧ j = 1)) (V := fun q j => (q = 39 ∧ j = 3) ∨ (q = 39 ∧ j = 4)) FI18 (fun q j h => (h.elim (fun h => (Or.inl h)) (fun h => (Or.inr (Or.inl h))))) g209
            have t212 := (g209 23 1).resolve_left (by omega)
            have t213 := (g209 23 5).resolve_left (by omega)
            have t214 := (g209 23 6).resolve_left (by omega)
            have t215 := (g209 23 7).resolve_left (by omega)
            have t216 := (g209 (t + 3) 1).resolve_left (by omega)
            have t217 := (g209 (t + 1) 1).resolve_left (by omega)
            have t218 := (g209 39 2).resolve_left (by omega)
            have f219 := (show 0 ≤ I210 23 1 ∧ I210 23 1 ≤ 1000 from gc_in hI210 R_23 rfl rfl)
            have f220 := (show 0 ≤ I210 23 5 ∧ I210 23 5 ≤ 1000 from gc_in hI210 R_23 rfl rfl)
            have f221 := (show 0 ≤ I210 23 6 ∧ I210 23 6 ≤ 1001 from gc_in hI210 R_23 rfl rfl)
            have f222 := (show 0 ≤ I210 23 7 ∧ I210 23 7 ≤ 125 from gc_in hI210 R_23 rfl rfl)
            have f223 := (show 0 ≤ I210 (t + 3) 1 ∧ I210 (t + 3) 1 ≤ 48 from gc_in hI210 R_t_3 rfl rfl)
            have f224 := (show 0 ≤ I210 (t + 1) 1 ∧ I210 (t + 1) 1 ≤ 8 from gc_in hI210 R_t_1 rfl rfl)
            have f225 := (show (-1) ≤ I210 39 2 ∧ I210 39 2 ≤ 999999 from gc_in hI210 R_39 rfl rfl)
            obtain rfl : J19 = J211 := funext fun q => funext fun j => ((k209 q j).resolve_left id).symm
            have KLT_I210 := gc_LT_fr KLT_I18 ((g209 23 5).resolve_left (by omega)) ((g209 23 6).resolve_left (by omega)) ((g209 23 7).resolve_left (by omega)) (fun k => (g209 24 k).resolve_left (by omega))
            refine gv_callV hD rfl (As := [.inr (.inr (some (t + 3)))]) (st := []) rfl B_39 S_39 rfl (gc_lV6 hws rfl) (Nat.le_of_ble_eq_true rfl) (gz_Ev_mono (d := 3) (by decide) E209) ?_
            show gv_X _ _ (113, [(0, .inr (.inr (some 39))), (1, .inr (.inl v1_20)), (3, .inl v3_20), (4, .inl v4_20), (5, .inl v5_20)], [.inl z209], sh, gc_h sh I210 J19 A)
            refine gv_if_ne (t := 118) hD rfl rfl ⟨by omega, by omega⟩ (fun c226 => ?_) (fun c226 => ?_)
            · show gv_X _ _ (118, [(0, .inr (.inr (some 39))), (1, .inr (.inl v1_20)), (3, .inl v3_20), (4, .inl v4_20), (5, .inl v5_20)], [], sh, gc_h sh I210 J19 A)
              refine gv_run 2 true hD (pc' := 121) (lv' := [(6, .inl 0), (0, .inr (.inr (some 39))), (1, .inr (.inl v1_20)), (3, .inl v3_20), (4, .inl v4_20), (5, .inl v5_20)]) (st' := []) (h' := gc_h sh I210 J19 A) (C := ((True ∧ True) ∧ True)) rfl ⟨⟨trivial, trivial⟩, trivial⟩ ?_
              refine gv_pick [1, 2, 3, 4, 5, 0] rfl ?_
              exact L121 _ I210 J19 0 (Nat.lt_succ_self _) hI210 FI210 FJ19 KLT_I210 (by omega)
            · show gv_X _ _ (116, [(0, .inr (.inr (some 39))), (1, .inr (.inl v1_20)), (3, .inl v3_20), (4, .inl v4_20), (5, .inl v5_20)], [], sh, gc_h sh I210 J19 A)
              refine gv_run 1 true hD (pc' := 117) (lv' := [(0, .inr (.inr (some 39))), (1, .inr (.inl v1_20)), (3, .inl v3_20), (4, .inl v4_20), (5, .inl v5_20)]) (st' := [.inl 0]) (h' := gc_h sh I210 J19 A) (C := (True ∧ True)) rfl ⟨trivial, trivial⟩ ?_
              exact gv_zret hD rfl (by omega) ⟨I210, J19, rfl, hI210, FI210, FJ19, KLT_I210, ⟨_, rfl, by omega⟩⟩
          · show gv_X _ _ (89, [(0, .inr (.inr (some 39))), (1, .inr (.inl v1_20)), (3, .inl v3_20), (4, .inl v4_20), (5, .inl v5_20)], [], sh, gc_h sh I18 J19 A)
            refine gv_run 3 true hD (pc' := 92) (lv' := [(0, .inr (.inr (some 39))), (1, .inr (.inl v1_20)), (3, .inl v3_20), (4, .inl v4_20), (5, .inl v5_20)]) (st' := [.inr (.inr (some 39)), .inl 5, .inr (.inr (some 39))]) (h' := gc_h sh I18 J19 A) (C := (((True ∧ True) ∧ True) ∧ True)) rfl ⟨⟨⟨trivial, trivial⟩, trivial⟩, trivial⟩ ?_
            refine gv_get hD rfl rfl S_39 ⟨by decide, B_39⟩ (gc_hA S_39 rfl A_39_1) ?_
            show gv_X _ _ (95, [(0, .inr (.inr (some 39))), (1, .inr (.inl v1_20)), (3, .inl v3_20), (4, .inl v4_20), (5, .inl v5_20)], [.inr (.inr (some 23)), .inl 5, .inr (.inr (some 39))], sh, gc_h sh I18 J19 A)
            have f227 := (show 0 ≤ I18 23 5 ∧ I18 23 5 ≤ 1000 from gc_in hI18 R_23 rfl rfl)
            refine gv_get hD rfl rfl S_23 ⟨by decide, B_23⟩ (gc_hI S_23 rfl) ?_
            show gv_X _ _ (98, [(0, .inr (.inr (some 39))), (1, .inr (.inl v1_20)), (3, .inl v3_20), (4, .inl v4_20), (5, .inl v5_20)], [.inl (I18 23 5), .inl 5, .inr (.inr (some 39))], sh, gc_h sh I18 J19 A)
            obtain ⟨r228, h228, E228, P228⟩ := d_X6_wrong (ws0 := ws0) (tb := tb) hws htb sh ro I18 J19 A hI18  5 (I18 23 5) hb   ⟨by omega, by omega⟩ ⟨by omega, by omega⟩  
            obtain ⟨I229, J230, rfl, hI229, g228, k228, ⟨z228, rfl, q228⟩⟩ := P228
            have FI229 := gc_frc (W := fun q j => (q = 39 ∧ j = 3) ∨ (q = 39 ∧ j = 4) ∨ (q = 23 ∧ j = 5) ∨ (q = 23 ∧ j = 6) ∨ (q = 23 ∧ j = 7) ∨ (q = 23 ∧ j = 8) ∨ q = (t + 5) ∨ q = (t + 6) ∨ (q = (t + 3) ∧ j = 1) ∨ (q = (t + 1) ∧ j = 1)) (V := fun q j => (q = 39 ∧ j = 3) ∨ (q = 39 ∧ j = 4)) FI18 (fun q j h => (h.elim (fun h => (Or.inl h)) (fun h => (Or.inr (Or.inl h))))) g228
            have t231 := (g228 23 1).resolve_left (by omega)
            have t232 := (g228 23 5).resolve_left (by omega)
            have t233 := (g228 23 6).resolve_left (by omega)
            have t234 := (g228 23 7).resolve_left (by omega)
            have t235 := (g228 (t + 3) 1).resolve_left (by omega)
            have t236 := (g228 (t + 1) 1).resolve_left (by omega)
            have t237 := (g228 39 2).resolve_left (by omega)
            have f238 := (show 0 ≤ I229 23 1 ∧ I229 23 1 ≤ 1000 from gc_in hI229 R_23 rfl rfl)
            have f239 := (show 0 ≤ I229 23 5 ∧ I229 23 5 ≤ 1000 from gc_in hI229 R_23 rfl rfl)
            have f240 := (show 0 ≤ I229 23 6 ∧ I229 23 6 ≤ 1001 from gc_in hI229 R_23 rfl rfl)
            have f241 := (show 0 ≤ I229 23 7 ∧ I229 23 7 ≤ 125 from gc_in hI229 R_23 rfl rfl)
            have f242 := (show 0 ≤ I229 (t + 3) 1 ∧ I229 (t + 3) 1 ≤ 48 from gc_in hI229 R_t_3 rfl rfl)
            have f243 := (show 0 ≤ I229 (t + 1) 1 ∧ I229 (t + 1) 1 ≤ 8 from gc_in hI229 R_t_1 rfl rfl)
            have f244 := (show (-1) ≤ I229 39 2 ∧ I229 39 2 ≤ 999999 from gc_in hI229 R_39 rfl rfl)
            obtain rfl : J19 = J230 := funext fun q => funext fun j => ((k228 q j).resolve_left id).symm
            have KLT_I229 := gc_LT_fr KLT_I18 ((g228 23 5).resolve_left (by omega)) ((g228 23 6).resolve_left (by omega)) ((g228 23 7).resolve_left (by omega)) (fun k => (g228 24 k).resolve_left (by omega))
            refine gv_callV hD rfl (As := [.inl 5, .inl (I18 23 5)]) (st := []) rfl B_39 S_39 rfl (gc_lV6 hws rfl) (Nat.le_of_ble_eq_true rfl) (gz_Ev_mono (d := 1) (by decide) E228) ?_
            show gv_X _ _ (101, [(0, .inr (.inr (some 39))), (1, .inr (.inl v1_20)), (3, .inl v3_20), (4, .inl v4_20), (5, .inl v5_20)], [.inl z228], sh, gc_h sh I229 J19 A)
            exact gv_zret hD rfl (by omega) ⟨I229, J19, rfl, hI229, FI229, FJ19, KLT_I229, ⟨_, rfl, by omega⟩⟩
  refine gv_run 2 true hD (pc' := 2) (lv' := [(0, .inr (.inr (some 39)))]) (st' := [.inr (.inr (some 39)), .inr (.inr (some 39))]) (h' := gc_h sh I J A) (C := ((True ∧ True) ∧ True)) rfl ⟨⟨trivial, trivial⟩, trivial⟩ ?_
  refine gv_get hD rfl rfl S_39 ⟨by decide, B_39⟩ (gc_h5 (t := t) S_39 rfl (by omega)) ?_
  show gv_X _ _ (5, [(0, .inr (.inr (some 39)))], [.inr (.inr (some t)), .inr (.inr (some 39))], sh, gc_h sh I J A)
  refine gv_get hD rfl rfl S_t ⟨by decide, B_t⟩ (gc_hA S_t rfl A_t_0) ?_
  show gv_X _ _ (8, [(0, .inr (.inr (some 39)))], [.inr (.inr (some (t + 1))), .inr (.inr (some 39))], sh, gc_h sh I J A)
  obtain ⟨r245, h245, E245, P245⟩ := d_X6_needNew (ws0 := ws0) (tb := tb) hws htb sh ro I J A hI  8 6 (t + 1) hb h_t_1    
  obtain ⟨I246, J247, rfl, hI246, g245, k245, ⟨z245, rfl, q245⟩⟩ := P245
  have FI246 := gc_frc (W := fun q j => (q = 39 ∧ j = 3) ∨ (q = 39 ∧ j = 4) ∨ (q = 23 ∧ j = 5) ∨ (q = 23 ∧ j = 6) ∨ (q = 23 ∧ j = 7) ∨ (q = 23 ∧ j = 8) ∨ q = (t + 5) ∨ q = (t + 6) ∨ (q = (t + 3) ∧ j = 1) ∨ (q = (t + 1) ∧ j = 1)) (V := fun q j => (q = 39 ∧ j = 3) ∨ (q = 39 ∧ j = 4)) FI (fun q j h => (h.elim (fun h => (Or.inl h)) (fun h => (Or.inr (Or.inl h))))) g245
  have t248 := (g245 23 1).resolve_left (by omega)
  have t249 := (g245 23 5).resolve_left (by omega)
  have t250 := (g245 23 6).resolve_left (by omega)
  have t251 := (g245 23 7).resolve_left (by omega)
  have t252 := (g245 (t + 3) 1).resolve_left (by omega)
  have t253 := (g245 (t + 1) 1).resolve_left (by omega)
  have t254 := (g245 39 2).resolve_left (by omega)
  have f255 := (show 0 ≤ I246 23 1 ∧ I246 23 1 ≤ 1000 from gc_in hI246 R_23 rfl rfl)
  have f256 := (show 0 ≤ I246 23 5 ∧ I246 23 5 ≤ 1000 from gc_in hI246 R_23 rfl rfl)
  have f257 := (show 0 ≤ I246 23 6 ∧ I246 23 6 ≤ 1001 from gc_in hI246 R_23 rfl rfl)
  have f258 := (show 0 ≤ I246 23 7 ∧ I246 23 7 ≤ 125 from gc_in hI246 R_23 rfl rfl)
  have f259 := (show 0 ≤ I246 (t + 3) 1 ∧ I246 (t + 3) 1 ≤ 48 from gc_in hI246 R_t_3 rfl rfl)
  have f260 := (show 0 ≤ I246 (t + 1) 1 ∧ I246 (t + 1) 1 ≤ 8 from gc_in hI246 R_t_1 rfl rfl)
  have f261 := (show (-1) ≤ I246 39 2 ∧ I246 39 2 ≤ 999999 from gc_in hI246 R_39 rfl rfl)
  obtain rfl : J = J247 := funext fun q => funext fun j => ((k245 q j).resolve_left id).symm
  have KLT_I246 := gc_LT_fr KLT_I ((g245 23 5).resolve_left (by omega)) ((g245 23 6).resolve_left (by omega)) ((g245 23 7).resolve_left (by omega)) (fun k => (g245 24 k).resolve_left (by omega))
  refine gv_callV hD rfl (As := [.inr (.inr (some (t + 1)))]) (st := []) rfl B_39 S_39 rfl (gc_lV6 hws rfl) (Nat.le_of_ble_eq_true rfl) (gz_Ev_mono (d := 3) (by decide) E245) ?_
  show gv_X _ _ (11, [(0, .inr (.inr (some 39)))], [.inl z245], sh, gc_h sh I246 J A)
  refine gv_if_ne (t := 16) hD rfl rfl ⟨by omega, by omega⟩ (fun c262 => ?_) (fun c262 => ?_)
  · show gv_X _ _ (16, [(0, .inr (.inr (some 39)))], [], sh, gc_h sh I246 J A)
    refine gv_run 1 true hD (pc' := 17) (lv' := [(0, .inr (.inr (some 39)))]) (st' := [.inr (.inr (some 39))]) (h' := gc_h sh I246 J A) (C := (True ∧ True)) rfl ⟨trivial, trivial⟩ ?_
    refine gv_get hD rfl rfl S_39 ⟨by decide, B_39⟩ (gc_hA S_39 rfl A_39_1) ?_
    show gv_X _ _ (20, [(0, .inr (.inr (some 39)))], [.inr (.inr (some 23))], sh, gc_h sh I246 J A)
    refine gv_get hD rfl rfl S_23 ⟨by decide, B_23⟩ (gc_hJ S_23 rfl) ?_
    show gv_X _ _ (23, [(0, .inr (.inr (some 39)))], [.inr (.inl (J 23 9))], sh, gc_h sh I246 J A)
    refine gv_run 2 true hD (pc' := 25) (lv' := [(1, .inr (.inl (J 23 9))), (0, .inr (.inr (some 39)))]) (st' := [.inr (.inr (some 39))]) (h' := gc_h sh I246 J A) (C := ((True ∧ True) ∧ True)) rfl ⟨⟨trivial, trivial⟩, trivial⟩ ?_
    refine gv_get hD rfl rfl S_39 ⟨by decide, B_39⟩ (gc_hA S_39 rfl A_39_1) ?_
    show gv_X _ _ (28, [(1, .inr (.inl (J 23 9))), (0, .inr (.inr (some 39)))], [.inr (.inr (some 23))], sh, gc_h sh I246 J A)
    obtain ⟨r263, h263, E263, P263⟩ := d_X9_advance (ws0 := ws0) (tb := tb) hws htb sh ro I246 J A hI246 23  (gc_b23 hb)    (by omega) 
    obtain ⟨I264, J265, rfl, hI264, g263, k263, ⟨rfl, q263⟩⟩ := P263
    have FI264 := gc_frc (W := fun q j => (q = 39 ∧ j = 3) ∨ (q = 39 ∧ j = 4) ∨ (q = 23 ∧ j = 5) ∨ (q = 23 ∧ j = 6) ∨ (q = 23 ∧ j = 7) ∨ (q = 23 ∧ j = 8) ∨ q = (t + 5) ∨ q = (t + 6) ∨ (q = (t + 3) ∧ j = 1) ∨ (q = (t + 1) ∧ j = 1)) (V := fun q j => (q = 23 ∧ j = 5) ∨ (q = 23 ∧ j = 6) ∨ (q = 23 ∧ j = 7) ∨ (q = 23 ∧ j = 8)) FI246 (fun q j h => (h.elim (fun h => (Or.inr (Or.inr (Or.inl h)))) (fun h => (h.elim (fun h => (Or.inr (Or.inr (Or.inr (Or.inl h))))) (fun h => (h.elim (fun h => (Or.inr (Or.inr (Or.inr (Or.inr (Or.inl h)))))) (fun h => (Or.inr (Or.inr (Or.inr (Or.inr (Or.inr (Or.inl h))))))))))))) g263
    have FJ265 := gc_frc (W := fun q j => (q = 23 ∧ j = 9) ∨ q = 42 ∨ q = (t + 4) ∨ q = (t + 2)) (V := fun q j => (q = 23 ∧ j = 9)) FJ (fun q j h => (Or.inl h)) k263
    have t266 := (g263 23 1).resolve_left (by omega)
    have t267 := (g263 (t + 3) 1).resolve_left (by omega)
    have t268 := (g263 (t + 1) 1).resolve_left (by omega)
    have t269 := (g263 39 2).resolve_left (by omega)
    have f270 := (show 0 ≤ I264 23 1 ∧ I264 23 1 ≤ 1000 from gc_in hI264 R_23 rfl rfl)
    have f271 := (show 0 ≤ I264 23 5 ∧ I264 23 5 ≤ 1000 from gc_in hI264 R_23 rfl rfl)
    have f272 := (show 0 ≤ I264 23 6 ∧ I264 23 6 ≤ 1001 from gc_in hI264 R_23 rfl rfl)
    have f273 := (show 0 ≤ I264 23 7 ∧ I264 23 7 ≤ 125 from gc_in hI264 R_23 rfl rfl)
    have f274 := (show 0 ≤ I264 (t + 3) 1 ∧ I264 (t + 3) 1 ≤ 48 from gc_in hI264 R_t_3 rfl rfl)
    have f275 := (show 0 ≤ I264 (t + 1) 1 ∧ I264 (t + 1) 1 ≤ 8 from gc_in hI264 R_t_1 rfl rfl)
    have f276 := (show (-1) ≤ I264 39 2 ∧ I264 39 2 ≤ 999999 from gc_in hI264 R_39 rfl rfl)
    have KLT_I264 : gc_LT I264 := q263.2.2.2.2.2.2.2
    refine gv_callV hD rfl (As := []) (st := []) rfl B_23 S_23 rfl (gc_lV6 hws rfl) (Nat.le_of_ble_eq_true rfl) (gz_Ev_mono (d := 2) (by decide) E263) ?_
    show gv_X _ _ (31, [(1, .inr (.inl (J 23 9))), (0, .inr (.inr (some 39)))], [], sh, gc_h sh I264 J265 A)
    refine gv_run 2 true hD (pc' := 34) (lv' := [(1, .inr (.inl (J 23 9))), (0, .inr (.inr (some 39)))]) (st' := [.inl 61, .inr (.inr (some 39))]) (h' := gc_h sh I264 J265 A) (C := ((True ∧ True) ∧ True)) rfl ⟨⟨trivial, trivial⟩, trivial⟩ ?_
    obtain ⟨r277, h277, E277, P277⟩ := d_X6_take (ws0 := ws0) (tb := tb) hws htb sh ro I264 J265 A hI264  61 hb   ⟨by omega, by omega⟩ (by omega) (by omega) (by omega) (by omega) (by omega) (by omega) KLT_I264
    obtain ⟨I278, J279, rfl, hI278, g277, k277, KLT_I278, ⟨z277, rfl, q277⟩⟩ := P277
    have FI278 := gc_frc (W := fun q j => (q = 39 ∧ j = 3) ∨ (q = 39 ∧ j = 4) ∨ (q = 23 ∧ j = 5) ∨ (q = 23 ∧ j = 6) ∨ (q = 23 ∧ j = 7) ∨ (q = 23 ∧ j = 8) ∨ q = (t + 5) ∨ q = (t + 6) ∨ (q = (t + 3) ∧ j = 1) ∨ (q = (t + 1) ∧ j = 1)) (V := fun q j => (q = 39 ∧ j = 3) ∨ (q = 39 ∧ j = 4) ∨ (q = 23 ∧ j = 5) ∨ (q = 23 ∧ j = 6) ∨ (q = 23 ∧ j = 7) ∨ (q = 23 ∧ j = 8)) FI264 (fun q j h => (h.elim (fun h => (Or.inl h)) (fun h => (h.elim (fun h => (Or.inr (Or.inl h))) (fun h => (h.elim (fun h => (Or.inr (Or.inr (Or.inl h)))) (fun h => (h.elim (fun h => (Or.inr (Or.inr (Or.inr (Or.inl h))))) (fun h => (h.elim (fun h => (Or.inr (Or.inr (Or.inr (Or.inr (Or.inl h)))))) (fun h => (Or.inr (Or.inr (Or.inr (Or.inr (Or.inr (Or.inl h))))))))))))))))) g277
    have FJ279 := gc_frc (W := fun q j => (q = 23 ∧ j = 9) ∨ q = 42 ∨ q = (t + 4) ∨ q = (t + 2)) (V := fun q j => (q = 23 ∧ j = 9)) FJ265 (fun q j h => (Or.inl h)) k277
    have t280 := (g277 23 1).resolve_left (by omega)
    have t281 := (g277 (t + 3) 1).resolve_left (by omega)
    have t282 := (g277 (t + 1) 1).resolve_left (by omega)
    have t283 := (g277 39 2).resolve_left (by omega)
    have f284 := (show 0 ≤ I278 23 1 ∧ I278 23 1 ≤ 1000 from gc_in hI278 R_23 rfl rfl)
    have f285 := (show 0 ≤ I278 23 5 ∧ I278 23 5 ≤ 1000 from gc_in hI278 R_23 rfl rfl)
    have f286 := (show 0 ≤ I278 23 6 ∧ I278 23 6 ≤ 1001 from gc_in hI278 R_23 rfl rfl)
    have f287 := (show 0 ≤ I278 23 7 ∧ I278 23 7 ≤ 125 from gc_in hI278 R_23 rfl rfl)
    have f288 := (show 0 ≤ I278 (t + 3) 1 ∧ I278 (t + 3) 1 ≤ 48 from gc_in hI278 R_t_3 rfl rfl)
    have f289 := (show 0 ≤ I278 (t + 1) 1 ∧ I278 (t + 1) 1 ≤ 8 from gc_in hI278 R_t_1 rfl rfl)
    have f290 := (show (-1) ≤ I278 39 2 ∧ I278 39 2 ≤ 999999 from gc_in hI278 R_39 rfl rfl)
    refine gv_callV hD rfl (As := [.inl 61]) (st := []) rfl B_39 S_39 rfl (gc_lV6 hws rfl) (Nat.le_of_ble_eq_true rfl) (gz_Ev_mono (d := 3) (by decide) E277) ?_
    show gv_X _ _ (37, [(1, .inr (.inl (J 23 9))), (0, .inr (.inr (some 39)))], [.inl z277], sh, gc_h sh I278 J279 A)
    refine gv_if_eq (t := 48) hD rfl rfl ⟨by omega, by omega⟩ (fun c291 => ?_) (fun c291 => ?_)
    · show gv_X _ _ (48, [(1, .inr (.inl (J 23 9))), (0, .inr (.inr (some 39)))], [], sh, gc_h sh I278 J279 A)
      refine gv_pick [] rfl ?_
      exact L48 I278 J279 hI278 FI278 FJ279 KLT_I278 (by omega)
    · show gv_X _ _ (40, [(1, .inr (.inl (J 23 9))), (0, .inr (.inr (some 39)))], [], sh, gc_h sh I278 J279 A)
      refine gv_run 2 true hD (pc' := 42) (lv' := [(1, .inr (.inl (J 23 9))), (0, .inr (.inr (some 39)))]) (st' := [.inl 1, .inr (.inr (some 39))]) (h' := gc_h sh I278 J279 A) (C := ((True ∧ True) ∧ True)) rfl ⟨⟨trivial, trivial⟩, trivial⟩ ?_
      obtain ⟨r292, h292, E292, P292⟩ := d_X6_need (ws0 := ws0) (tb := tb) hws htb sh ro I278 J279 A hI278  1 hb   ⟨by omega, by omega⟩  
      obtain ⟨I293, J294, rfl, hI293, g292, k292, ⟨z292, rfl, q292⟩⟩ := P292
      have FI293 := gc_frc (W := fun q j => (q = 39 ∧ j = 3) ∨ (q = 39 ∧ j = 4) ∨ (q = 23 ∧ j = 5) ∨ (q = 23 ∧ j = 6) ∨ (q = 23 ∧ j = 7) ∨ (q = 23 ∧ j = 8) ∨ q = (t + 5) ∨ q = (t + 6) ∨ (q = (t + 3) ∧ j = 1) ∨ (q = (t + 1) ∧ j = 1)) (V := fun q j => (q = 39 ∧ j = 3) ∨ (q = 39 ∧ j = 4)) FI278 (fun q j h => (h.elim (fun h => (Or.inl h)) (fun h => (Or.inr (Or.inl h))))) g292
      have t295 := (g292 23 1).resolve_left (by omega)
      have t296 := (g292 23 5).resolve_left (by omega)
      have t297 := (g292 23 6).resolve_left (by omega)
      have t298 := (g292 23 7).resolve_left (by omega)
      have t299 := (g292 (t + 3) 1).resolve_left (by omega)
      have t300 := (g292 (t + 1) 1).resolve_left (by omega)
      have t301 := (g292 39 2).resolve_left (by omega)
      have f302 := (show 0 ≤ I293 23 1 ∧ I293 23 1 ≤ 1000 from gc_in hI293 R_23 rfl rfl)
      have f303 := (show 0 ≤ I293 23 5 ∧ I293 23 5 ≤ 1000 from gc_in hI293 R_23 rfl rfl)
      have f304 := (show 0 ≤ I293 23 6 ∧ I293 23 6 ≤ 1001 from gc_in hI293 R_23 rfl rfl)
      have f305 := (show 0 ≤ I293 23 7 ∧ I293 23 7 ≤ 125 from gc_in hI293 R_23 rfl rfl)
      have f306 := (show 0 ≤ I293 (t + 3) 1 ∧ I293 (t + 3) 1 ≤ 48 from gc_in hI293 R_t_3 rfl rfl)
      have f307 := (show 0 ≤ I293 (t + 1) 1 ∧ I293 (t + 1) 1 ≤ 8 from gc_in hI293 R_t_1 rfl rfl)
      have f308 := (show (-1) ≤ I293 39 2 ∧ I293 39 2 ≤ 999999 from gc_in hI293 R_39 rfl rfl)
      obtain rfl : J279 = J294 := funext fun q => funext fun j => ((k292 q j).resolve_left id).symm
      have KLT_I293 := gc_LT_fr KLT_I278 ((g292 23 5).resolve_left (by omega)) ((g292 23 6).resolve_left (by omega)) ((g292 23 7).resolve_left (by omega)) (fun k => (g292 24 k).resolve_left (by omega))
      refine gv_callV hD rfl (As := [.inl 1]) (st := []) rfl B_39 S_39 rfl (gc_lV6 hws rfl) (Nat.le_of_ble_eq_true rfl) (gz_Ev_mono (d := 2) (by decide) E292) ?_
      show gv_X _ _ (45, [(1, .inr (.inl (J 23 9))), (0, .inr (.inr (some 39)))], [.inl z292], sh, gc_h sh I293 J279 A)
      refine gv_if_ne (t := 50) hD rfl rfl ⟨by omega, by omega⟩ (fun c309 => ?_) (fun c309 => ?_)
      · show gv_X _ _ (50, [(1, .inr (.inl (J 23 9))), (0, .inr (.inr (some 39)))], [], sh, gc_h sh I293 J279 A)
        refine gv_run 1 true hD (pc' := 51) (lv' := [(1, .inr (.inl (J 23 9))), (0, .inr (.inr (some 39)))]) (st' := [.inr (.inr (some 39))]) (h' := gc_h sh I293 J279 A) (C := (True ∧ True)) rfl ⟨trivial, trivial⟩ ?_
        refine gv_get hD rfl rfl S_39 ⟨by decide, B_39⟩ (gc_hA S_39 rfl A_39_1) ?_
        show gv_X _ _ (54, [(1, .inr (.inl (J 23 9))), (0, .inr (.inr (some 39)))], [.inr (.inr (some 23))], sh, gc_h sh I293 J279 A)
        have f310 := (show 0 ≤ I293 23 5 ∧ I293 23 5 ≤ 1000 from gc_in hI293 R_23 rfl rfl)
        refine gv_get hD rfl rfl S_23 ⟨by decide, B_23⟩ (gc_hI S_23 rfl) ?_
        show gv_X _ _ (57, [(1, .inr (.inl (J 23 9))), (0, .inr (.inr (some 39)))], [.inl (I293 23 5)], sh, gc_h sh I293 J279 A)
        refine gv_run 5 true hD (pc' := 64) (lv' := [(5, .inl 0), (4, .inl 0), (3, .inl (I293 23 5)), (1, .inr (.inl (J 23 9))), (0, .inr (.inr (some 39)))]) (st' := []) (h' := gc_h sh I293 J279 A) (C := (((((True ∧ True) ∧ True) ∧ True) ∧ True) ∧ True)) rfl ⟨⟨⟨⟨⟨trivial, trivial⟩, trivial⟩, trivial⟩, trivial⟩, trivial⟩ ?_
        refine gv_pick [4, 3, 2, 1, 0] rfl ?_
        exact L64 _ I293 J279 (J 23 9) (I293 23 5) 0 0 (Nat.lt_succ_self _) hI293 FI293 FJ279 KLT_I293 (by omega)
      · show gv_X _ _ (48, [(1, .inr (.inl (J 23 9))), (0, .inr (.inr (some 39)))], [], sh, gc_h sh I293 J279 A)
        refine gv_pick [] rfl ?_
        exact L48 I293 J279 hI293 FI293 FJ279 KLT_I293 (by omega)
  · show gv_X _ _ (14, [(0, .inr (.inr (some 39)))], [], sh, gc_h sh I246 J A)
    refine gv_run 1 true hD (pc' := 15) (lv' := [(0, .inr (.inr (some 39)))]) (st' := [.inl 0]) (h' := gc_h sh I246 J A) (C := (True ∧ True)) rfl ⟨trivial, trivial⟩ ?_
    exact gv_zret hD rfl (by omega) ⟨I246, J, rfl, hI246, FI246, FJ, KLT_I246, ⟨_, rfl, by omega⟩⟩
set_option maxHeartbeats 4000000 in
set_option maxRecDepth 100000 in
theorem d_X6_readClass {ws0 : List Cond} {tb : String → gz_T} (hws : gc_Ws ws0) (htb : gc_tbs tb) (sh : gz_Sh) (ro : Nat → Nat) (I : gr_I) (J : gr_J) (A : gc_A) (hI : gc_Inv ro I) (t : Nat)  (hb : gc_Base sh ro A) (h_t : gc_isTongue sh ro A t) (G_t : 144 ≤ t)  (x0 : I 23 5 ≤ I 23 6) (x1 : I 23 7 = 5 ∨ I 23 6 ≤ I 23 1) (x2 : I 23 5 ≤ I 23 1) (x3 : I 23 7 = 4 ∨ (I 23 5 < I 23 6 ∧ I 23 5 < I 23 1)) (x4 : I 23 7 = 3 → 2 ≤ I 23 6 - I 23 5 ∧ I 23 6 - I 23 5 ≤ 14) (x5 : I 39 2 = (t : Int)) (KLT_I : gc_LT I) : ∃ r h', gz_Ev ws0 tb 5 (yX6_readClass, cX6_readClass, 5, (some .boolean)) [.inr (.inr (some 39))] sh (gc_h sh I J A) r sh h' 0 0 ∧ (∃ (I' : gr_I) (J' : gr_J), h' = gc_h sh I' J' A ∧ gc_Inv ro I' ∧ (∀ q j : Nat, ((q = 39 ∧ j = 3) ∨ (q = 39 ∧ j = 4) ∨ (q = 23 ∧ j = 5) ∨ (q = 23 ∧ j = 6) ∨ (q = 23 ∧ j = 7) ∨ (q = 23 ∧ j = 8) ∨ q = (t + 9) ∨ (q = (t + 7) ∧ j = 1)) ∨ I' q j = I q j) ∧ (∀ q j : Nat, ((q = 23 ∧ j = 9) ∨ q = (t + 8)) ∨ J' q j = J q j) ∧ gc_LT I' ∧ (∃ z : Int, r = some (.inl z) ∧ 0 ≤ z ∧ z ≤ 1 ∧ (I' 23 5 ≤ I' 23 6) ∧ (I' 23 7 = 5 ∨ I' 23 6 ≤ I' 23 1) ∧ (I' 23 5 ≤ I' 23 1) ∧ (I' 23 7 = 4 ∨ (I' 23 5 < I' 23 6 ∧ I' 23 5 < I' 23 1)) ∧ (I' 23 7 = 3 → 2 ≤ I' 23 6 - I' 23 5 ∧ I' 23 6 - I' 23 5 ≤ 14) ∧ (I' 23 1 = I 23 1) ∧ (I 23 5 ≤ I' 23 5))) := by
  have FI : ∀ q j : Nat, ((q = 39 ∧ j = 3) ∨ (q = 39 ∧ j = 4) ∨ (q = 23 ∧ j = 5) ∨ (q = 23 ∧ j = 6) ∨ (q = 23 ∧ j = 7) ∨ (q = 23 ∧ j = 8) ∨ q = (t + 9) ∨ (q = (t + 7) ∧ j = 1)) ∨ I q j = I q j := fun _ _ => Or.inr rfl
  have FJ : ∀ q j : Nat, ((q = 23 ∧ j = 9) ∨ q = (t + 8)) ∨ J q j = J q j := fun _ _ => Or.inr rfl
  have A_23_0 : A 23 0 = some 24 := gc_bA hb rfl
  have A_39_1 : A 39 1 = some 23 := gc_bA hb rfl
  have B_23 : 23 < 1000000 := by decide
  have B_24 : 24 < 1000000 := by decide
  have B_39 : 39 < 1000000 := by decide
  have R_23 : ro 23 = 3 := gc_bR hb (by decide) rfl
  have R_24 : ro 24 = 1 := gc_bR hb (by decide) rfl
  have R_39 : ro 39 = 42 := gc_bR hb (by decide) rfl
  have S_23 : sh[23]? = some (false, 9, 10) := gc_bS hb rfl
  have S_24 : sh[24]? = some (true, 0, 1000) := gc_bS hb rfl
  have S_39 : sh[39]? = some (false, 6, 19) := gc_bS hb rfl
  obtain ⟨S_t, R_t, B_t, A_t_0, h_t_1, A_t_1, h_t_3, A_t_2, S_t_5, R_t_5, B_t_5, A_t_3, S_t_6, R_t_6, B_t_6, A_t_4, h_t_7, A_t_5, S_t_9, R_t_9, B_t_9, A_t_7, S_t_10, R_t_10, B_t_10, A_t_8, h_t_11, A_t_9, S_t_13, R_t_13, B_t_13, A_t_10, S_t_14, R_t_14, B_t_14, A_t_12, S_t_15, R_t_15, B_t_15, A_t_14, S_t_16, R_t_16, B_t_16, A_t_15, h_t_17⟩ := id h_t
  obtain ⟨S_t_1, R_t_1, B_t_1, A_t_1_0, S_t_1_1, R_t_1_1, B_t_1_1, Q0_t_1, Q1_t_1, Q2_t_1⟩ := id h_t_1
  obtain ⟨S_t_3, R_t_3, B_t_3, A_t_3_0, S_t_3_1, R_t_3_1, B_t_3_1, Q0_t_3, Q1_t_3, Q2_t_3⟩ := id h_t_3
  obtain ⟨S_t_7, R_t_7, B_t_7, A_t_7_0, S_t_7_1, R_t_7_1, B_t_7_1, Q0_t_7, Q1_t_7, Q2_t_7⟩ := id h_t_7
  obtain ⟨S_t_11, R_t_11, B_t_11, A_t_11_0, S_t_11_1, R_t_11_1, B_t_11_1, Q0_t_11, Q1_t_11, Q2_t_11⟩ := id h_t_11
  obtain ⟨S_t_17, R_t_17, B_t_17, A_t_17_0, S_20, R_20, B_20, A_t_17_1, S_t_17_1, R_t_17_1, B_t_17_1, A_t_17_2, S_t_17_2, R_t_17_2, B_t_17_2, A_t_17_3, S_t_17_3, R_t_17_3, B_t_17_3, A_t_17_4, S_t_17_4, R_t_17_4, B_t_17_4, A_t_17_5, S_t_17_5, R_t_17_5, B_t_17_5, S_t_17_6, R_t_17_6, B_t_17_6, S_t_17_7, R_t_17_7, B_t_17_7⟩ := id h_t_17
  have hD : gv_D (gc_E6 ws0 tb 4 (yX6_readClass, cX6_readClass, 5, (some .boolean)) kX6_readClass) := gq_ok oX6_readClass
  refine gc_ev6 (d := 4) (l := kX6_readClass) (Po := fun r h' => (∃ (I' : gr_I) (J' : gr_J), h' = gc_h sh I' J' A ∧ gc_Inv ro I' ∧ (∀ q j : Nat, ((q = 39 ∧ j = 3) ∨ (q = 39 ∧ j = 4) ∨ (q = 23 ∧ j = 5) ∨ (q = 23 ∧ j = 6) ∨ (q = 23 ∧ j = 7) ∨ (q = 23 ∧ j = 8) ∨ q = (t + 9) ∨ (q = (t + 7) ∧ j = 1)) ∨ I' q j = I q j) ∧ (∀ q j : Nat, ((q = 23 ∧ j = 9) ∨ q = (t + 8)) ∨ J' q j = J q j) ∧ gc_LT I' ∧ (∃ z : Int, r = some (.inl z) ∧ 0 ≤ z ∧ z ≤ 1 ∧ (I' 23 5 ≤ I' 23 6) ∧ (I' 23 7 = 5 ∨ I' 23 6 ≤ I' 23 1) ∧ (I' 23 5 ≤ I' 23 1) ∧ (I' 23 7 = 4 ∨ (I' 23 5 < I' 23 6 ∧ I' 23 5 < I' 23 1)) ∧ (I' 23 7 = 3 → 2 ≤ I' 23 6 - I' 23 5 ∧ I' 23 6 - I' 23 5 ≤ 14) ∧ (I' 23 1 = I 23 1) ∧ (I 23 5 ≤ I' 23 5)))) htb rfl (Nat.le_of_ble_eq_true rfl) ?_
  have f1 := (show 0 ≤ I 23 1 ∧ I 23 1 ≤ 1000 from gc_in hI R_23 rfl rfl)
  have f2 := (show 0 ≤ I 23 5 ∧ I 23 5 ≤ 1000 from gc_in hI R_23 rfl rfl)
  have f3 := (show 0 ≤ I 23 6 ∧ I 23 6 ≤ 1001 from gc_in hI R_23 rfl rfl)
  have f4 := (show 0 ≤ I 23 7 ∧ I 23 7 ≤ 125 from gc_in hI R_23 rfl rfl)
  have f5 := (show 0 ≤ I (t + 7) 1 ∧ I (t + 7) 1 ≤ 16 from gc_in hI R_t_7 rfl rfl)
  have f6 := (show (-1) ≤ I 39 2 ∧ I 39 2 ≤ 999999 from gc_in hI R_39 rfl rfl)
  have L48 : ∀ (I7 : gr_I) (J8 : gr_J) , gc_Inv ro I7 → (∀ q j : Nat, ((q = 39 ∧ j = 3) ∨ (q = 39 ∧ j = 4) ∨ (q = 23 ∧ j = 5) ∨ (q = 23 ∧ j = 6) ∨ (q = 23 ∧ j = 7) ∨ (q = 23 ∧ j = 8) ∨ q = (t + 9) ∨ (q = (t + 7) ∧ j = 1)) ∨ I7 q j = I q j) → (∀ q j : Nat, ((q = 23 ∧ j = 9) ∨ q = (t + 8)) ∨ J8 q j = J q j) → gc_LT I7 → ((I7 23 5 ≤ I7 23 6) ∧ (I7 23 7 = 5 ∨ I7 23 6 ≤ I7 23 1) ∧ (I7 23 5 ≤ I7 23 1) ∧ (I7 23 7 = 4 ∨ (I7 23 5 < I7 23 6 ∧ I7 23 5 < I7 23 1)) ∧ (I7 23 7 = 3 → 2 ≤ I7 23 6 - I7 23 5 ∧ I7 23 6 - I7 23 5 ≤ 14) ∧ (I7 23 1 = I 23 1) ∧ (I 23 5 ≤ I7 23 5) ∧ (I7 39 2 = (t : Int))) → gv_X (gc_E6 ws0 tb 4 (yX6_readClass, cX6_readClass, 5, (some .boolean)) kX6_readClass) (gv_Q cX6_readClass (some .boolean) sh (fun r h' => (∃ (I' : gr_I) (J' : gr_J), h' = gc_h sh I' J' A ∧ gc_Inv ro I' ∧ (∀ q j : Nat, ((q = 39 ∧ j = 3) ∨ (q = 39 ∧ j = 4) ∨ (q = 23 ∧ j = 5) ∨ (q = 23 ∧ j = 6) ∨ (q = 23 ∧ j = 7) ∨ (q = 23 ∧ j = 8) ∨ q = (t + 9) ∨ (q = (t + 7) ∧ j = 1)) ∨ I' q j = I q j) ∧ (∀ q j : Nat, ((q = 23 ∧ j = 9) ∨ q = (t + 8)) ∨ J' q j = J q j) ∧ gc_LT I' ∧ (∃ z : Int, r = some (.inl z) ∧ 0 ≤ z ∧ z ≤ 1 ∧ (I' 23 5 ≤ I' 23 6) ∧ (I' 23 7 = 5 ∨ I' 23 6 ≤ I' 23 1) ∧ (I' 23 5 ≤ I' 23 1) ∧ (I' 23 7 = 4 ∨ (I' 23 5 < I' 23 6 ∧ I' 23 5 < I' 23 1)) ∧ (I' 23 7 = 3 → 2 ≤ I' 23 6 - I' 23 5 ∧ I' 23 6 - I' 23 5 ≤ 14) ∧ (I' 23 1 = I 23 1) ∧ (I 23 5 ≤ I' 23 5))))) (48, [], [], sh, gc_h sh I7 J8 A) := by
    intro I7 J8 hI7 FI7 FJ8 KLT_I7 m_9
    clear x0 x1 x2 x3 x4
    obtain ⟨e0_9, e1_9, e2_9, e3_9, e4_9, e5_9, e6_9, e7_9⟩ := m_9
    have f10 := (show 0 ≤ I7 23 1 ∧ I7 23 1 ≤ 1000 from gc_in hI7 R_23 rfl rfl)
    have f11 := (show 0 ≤ I7 23 5 ∧ I7 23 5 ≤ 1000 from gc_in hI7 R_23 rfl rfl)
    have f12 := (show 0 ≤ I7 23 6 ∧ I7 23 6 ≤ 1001 from gc_in hI7 R_23 rfl rfl)
    have f13 := (show 0 ≤ I7 23 7 ∧ I7 23 7 ≤ 125 from gc_in hI7 R_23 rfl rfl)
    have f14 := (show 0 ≤ I7 (t + 7) 1 ∧ I7 (t + 7) 1 ≤ 16 from gc_in hI7 R_t_7 rfl rfl)
    have f15 := (show (-1) ≤ I7 39 2 ∧ I7 39 2 ≤ 999999 from gc_in hI7 R_39 rfl rfl)
    refine gv_run 1 true hD (pc' := 49) (lv' := []) (st' := [.inl 0]) (h' := gc_h sh I7 J8 A) (C := (True ∧ True)) rfl ⟨trivial, trivial⟩ ?_
    exact gv_zret hD rfl (by omega) ⟨I7, J8, rfl, hI7, FI7, FJ8, KLT_I7, ⟨_, rfl, by omega⟩⟩
  have L55 : ∀ (n9 : Nat) (I16 : gr_I) (J17 : gr_J) (v1_18 : Int64) (v3_18 : Int) (v4_18 : Int), (14 - v4_18).toNat < n9 → gc_Inv ro I16 → (∀ q j : Nat, ((q = 39 ∧ j = 3) ∨ (q = 39 ∧ j = 4) ∨ (q = 23 ∧ j = 5) ∨ (q = 23 ∧ j = 6) ∨ (q = 23 ∧ j = 7) ∨ (q = 23 ∧ j = 8) ∨ q = (t + 9) ∨ (q = (t + 7) ∧ j = 1)) ∨ I16 q j = I q j) → (∀ q j : Nat, ((q = 23 ∧ j = 9) ∨ q = (t + 8)) ∨ J17 q j = J q j) → gc_LT I16 → (((-2147483648) ≤ v3_18 ∧ v3_18 ≤ 2147483647) ∧ (1 ≤ v4_18 ∧ v4_18 ≤ 13) ∧ (I16 23 7 = 3) ∧ (I16 23 5 ≤ I16 23 6) ∧ (I16 23 7 = 5 ∨ I16 23 6 ≤ I16 23 1) ∧ (I16 23 5 ≤ I16 23 1) ∧ (I16 23 7 = 4 ∨ (I16 23 5 < I16 23 6 ∧ I16 23 5 < I16 23 1)) ∧ (I16 23 7 = 3 → 2 ≤ I16 23 6 - I16 23 5 ∧ I16 23 6 - I16 23 5 ≤ 14) ∧ (I16 23 1 = I 23 1) ∧ (I 23 5 ≤ I16 23 5) ∧ (I16 39 2 = (t : Int))) → gv_X (gc_E6 ws0 tb 4 (yX6_readClass, cX6_readClass, 5, (some .boolean)) kX6_readClass) (gv_Q cX6_readClass (some .boolean) sh (fun r h' => (∃ (I' : gr_I) (J' : gr_J), h' = gc_h sh I' J' A ∧ gc_Inv ro I' ∧ (∀ q j : Nat, ((q = 39 ∧ j = 3) ∨ (q = 39 ∧ j = 4) ∨ (q = 23 ∧ j = 5) ∨ (q = 23 ∧ j = 6) ∨ (q = 23 ∧ j = 7) ∨ (q = 23 ∧ j = 8) ∨ q = (t + 9) ∨ (q = (t + 7) ∧ j = 1)) ∨ I' q j = I q j) ∧ (∀ q j : Nat, ((q = 23 ∧ j = 9) ∨ q = (t + 8)) ∨ J' q j = J q j) ∧ gc_LT I' ∧ (∃ z : Int, r = some (.inl z) ∧ 0 ≤ z ∧ z ≤ 1 ∧ (I' 23 5 ≤ I' 23 6) ∧ (I' 23 7 = 5 ∨ I' 23 6 ≤ I' 23 1) ∧ (I' 23 5 ≤ I' 23 1) ∧ (I' 23 7 = 4 ∨ (I' 23 5 < I' 23 6 ∧ I' 23 5 < I' 23 1)) ∧ (I' 23 7 = 3 → 2 ≤ I' 23 6 - I' 23 5 ∧ I' 23 6 - I' 23 5 ≤ 14) ∧ (I' 23 1 = I 23 1) ∧ (I 23 5 ≤ I' 23 5))))) (55, [(0, .inr (.inr (some 39))), (1, .inr (.inl v1_18)), (3, .inl v3_18), (4, .inl v4_18)], [], sh, gc_h sh I16 J17 A) := by
    intro n9
    induction n9 with
    | zero => intro I16 J17 v1_18 v3_18 v4_18 hn; omega
    | succ n9 ih55 =>
      intro I16 J17 v1_18 v3_18 v4_18 hn hI16 FI16 FJ17 KLT_I16 m_18
      clear x0 x1 x2 x3 x4
      obtain ⟨hv3_18, hv4_18, e0_18, e1_18, e2_18, e3_18, e4_18, e5_18, e6_18, e7_18, e8_18⟩ := m_18
      have f19 := (show 0 ≤ I16 23 1 ∧ I16 23 1 ≤ 1000 from gc_in hI16 R_23 rfl rfl)
      have f20 := (show 0 ≤ I16 23 5 ∧ I16 23 5 ≤ 1000 from gc_in hI16 R_23 rfl rfl)
      have f21 := (show 0 ≤ I16 23 6 ∧ I16 23 6 ≤ 1001 from gc_in hI16 R_23 rfl rfl)
      have f22 := (show 0 ≤ I16 23 7 ∧ I16 23 7 ≤ 125 from gc_in hI16 R_23 rfl rfl)
      have f23 := (show 0 ≤ I16 (t + 7) 1 ∧ I16 (t + 7) 1 ≤ 16 from gc_in hI16 R_t_7 rfl rfl)
      have f24 := (show (-1) ≤ I16 39 2 ∧ I16 39 2 ≤ 999999 from gc_in hI16 R_39 rfl rfl)
      refine gv_run 2 true hD (pc' := 58) (lv' := [(0, .inr (.inr (some 39))), (1, .inr (.inl v1_18)), (3, .inl v3_18), (4, .inl v4_18)]) (st' := [.inr (.inr (some 39)), .inl v4_18]) (h' := gc_h sh I16 J17 A) (C := ((True ∧ True) ∧ True)) rfl ⟨⟨trivial, trivial⟩, trivial⟩ ?_
      refine gv_get hD rfl rfl S_39 ⟨by decide, B_39⟩ (gc_hA S_39 rfl A_39_1) ?_
      show gv_X _ _ (61, [(0, .inr (.inr (some 39))), (1, .inr (.inl v1_18)), (3, .inl v3_18), (4, .inl v4_18)], [.inr (.inr (some 23)), .inl v4_18], sh, gc_h sh I16 J17 A)
      obtain ⟨r25, h25, E25, P25⟩ := d_X9_lettersSize (ws0 := ws0) (tb := tb) hws htb sh ro I16 J17 A hI16 23  (gc_b23 hb)     
      obtain ⟨rfl, ⟨z25, rfl, q25⟩⟩ := P25
      refine gv_callV hD rfl (As := []) (st := [.inl v4_18]) rfl B_23 S_23 rfl (gc_lV6 hws rfl) (Nat.le_of_ble_eq_true rfl) (gz_Ev_mono (d := 1) (by decide) E25) ?_
      show gv_X _ _ (64, [(0, .inr (.inr (some 39))), (1, .inr (.inl v1_18)), (3, .inl v3_18), (4, .inl v4_18)], [.inl z25, .inl v4_18], sh, gc_h sh I16 J17 A)
      refine gv_icmp_gt (t := 99) hD rfl rfl ⟨⟨by omega, by omega⟩, ⟨by omega, by omega⟩⟩ (fun c26 => ?_) (fun c26 => ?_)
      · show gv_X _ _ (99, [(0, .inr (.inr (some 39))), (1, .inr (.inl v1_18)), (3, .inl v3_18), (4, .inl v4_18)], [], sh, gc_h sh I16 J17 A)
        refine gv_run 1 true hD (pc' := 100) (lv' := [(0, .inr (.inr (some 39))), (1, .inr (.inl v1_18)), (3, .inl v3_18), (4, .inl v4_18)]) (st' := [.inr (.inr (some 39))]) (h' := gc_h sh I16 J17 A) (C := (True ∧ True)) rfl ⟨trivial, trivial⟩ ?_
        refine gv_get hD rfl rfl S_39 ⟨by decide, B_39⟩ (gc_hA S_39 rfl A_39_1) ?_
        show gv_X _ _ (103, [(0, .inr (.inr (some 39))), (1, .inr (.inl v1_18)), (3, .inl v3_18), (4, .inl v4_18)], [.inr (.inr (some 23))], sh, gc_h sh I16 J17 A)
        obtain ⟨r27, h27, E27, P27⟩ := d_X9_advance (ws0 := ws0) (tb := tb) hws htb sh ro I16 J17 A hI16 23  (gc_b23 hb)    (by omega) 
        obtain ⟨I28, J29, rfl, hI28, g27, k27, ⟨rfl, q27⟩⟩ := P27
        have FI28 := gc_frc (W := fun q j => (q = 39 ∧ j = 3) ∨ (q = 39 ∧ j = 4) ∨ (q = 23 ∧ j = 5) ∨ (q = 23 ∧ j = 6) ∨ (q = 23 ∧ j = 7) ∨ (q = 23 ∧ j = 8) ∨ q = (t + 9) ∨ (q = (t + 7) ∧ j = 1)) (V := fun q j => (q = 23 ∧ j = 5) ∨ (q = 23 ∧ j = 6) ∨ (q = 23 ∧ j = 7) ∨ (q = 23 ∧ j = 8)) FI16 (fun q j h => (h.elim (fun h => (Or.inr (Or.inr (Or.inl h)))) (fun h => (h.elim (fun h => (Or.inr (Or.inr (Or.inr (Or.inl h))))) (fun h => (h.elim (fun h => (Or.inr (Or.inr (Or.inr (Or.inr (Or.inl h)))))) (fun h => (Or.inr (Or.inr (Or.inr (Or.inr (Or.inr (Or.inl h))))))))))))) g27
        have FJ29 := gc_frc (W := fun q j => (q = 23 ∧ j = 9) ∨ q = (t + 8)) (V := fun q j => (q = 23 ∧ j = 9)) FJ17 (fun q j h => (Or.inl h)) k27
        have t30 := (g27 23 1).resolve_left (by omega)
        have t31 := (g27 (t + 7) 1).resolve_left (by omega)
        have t32 := (g27 39 2).resolve_left (by omega)
        have f33 := (show 0 ≤ I28 23 1 ∧ I28 23 1 ≤ 1000 from gc_in hI28 R_23 rfl rfl)
        have f34 := (show 0 ≤ I28 23 5 ∧ I28 23 5 ≤ 1000 from gc_in hI28 R_23 rfl rfl)
        have f35 := (show 0 ≤ I28 23 6 ∧ I28 23 6 ≤ 1001 from gc_in hI28 R_23 rfl rfl)
        have f36 := (show 0 ≤ I28 23 7 ∧ I28 23 7 ≤ 125 from gc_in hI28 R_23 rfl rfl)
        have f37 := (show 0 ≤ I28 (t + 7) 1 ∧ I28 (t + 7) 1 ≤ 16 from gc_in hI28 R_t_7 rfl rfl)
        have f38 := (show (-1) ≤ I28 39 2 ∧ I28 39 2 ≤ 999999 from gc_in hI28 R_39 rfl rfl)
        have KLT_I28 : gc_LT I28 := q27.2.2.2.2.2.2.2
        refine gv_callV hD rfl (As := []) (st := []) rfl B_23 S_23 rfl (gc_lV6 hws rfl) (Nat.le_of_ble_eq_true rfl) (gz_Ev_mono (d := 2) (by decide) E27) ?_
        show gv_X _ _ (106, [(0, .inr (.inr (some 39))), (1, .inr (.inl v1_18)), (3, .inl v3_18), (4, .inl v4_18)], [], sh, gc_h sh I28 J29 A)
        refine gv_run 2 true hD (pc' := 108) (lv' := [(0, .inr (.inr (some 39))), (1, .inr (.inl v1_18)), (3, .inl v3_18), (4, .inl v4_18)]) (st' := [.inr (.inr (some 39)), .inr (.inr (some 39))]) (h' := gc_h sh I28 J29 A) (C := ((True ∧ True) ∧ True)) rfl ⟨⟨trivial, trivial⟩, trivial⟩ ?_
        refine gv_get hD rfl rfl S_39 ⟨by decide, B_39⟩ (gc_h5 (t := t) S_39 rfl (by omega)) ?_
        show gv_X _ _ (111, [(0, .inr (.inr (some 39))), (1, .inr (.inl v1_18)), (3, .inl v3_18), (4, .inl v4_18)], [.inr (.inr (some t)), .inr (.inr (some 39))], sh, gc_h sh I28 J29 A)
        refine gv_get hD rfl rfl S_t ⟨by decide, B_t⟩ (gc_hA S_t rfl A_t_4) ?_
        show gv_X _ _ (114, [(0, .inr (.inr (some 39))), (1, .inr (.inl v1_18)), (3, .inl v3_18), (4, .inl v4_18)], [.inr (.inr (some (t + 7))), .inr (.inr (some 39))], sh, gc_h sh I28 J29 A)
        obtain ⟨r39, h39, E39, P39⟩ := d_X4_isFull (ws0 := ws0) (tb := tb) hws htb sh ro I28 J29 A hI28 (t + 7) 16 7  h_t_7     
        obtain ⟨rfl, ⟨z39, rfl, q39⟩⟩ := P39
        refine gv_callV hD rfl (As := []) (st := [.inr (.inr (some 39))]) rfl B_t_7 S_t_7 rfl (gc_lV6 hws rfl) (Nat.le_of_ble_eq_true rfl) (gz_Ev_mono (d := 1) (by decide) E39) ?_
        show gv_X _ _ (117, [(0, .inr (.inr (some 39))), (1, .inr (.inl v1_18)), (3, .inl v3_18), (4, .inl v4_18)], [.inl z39, .inr (.inr (some 39))], sh, gc_h sh I28 J29 A)
        obtain ⟨r40, h40, E40, P40⟩ := d_X6_closes (ws0 := ws0) (tb := tb) hws htb sh ro I28 J29 A hI28  z39 hb   ⟨by omega, by omega⟩ (by omega) (by omega) (by omega) (by omega) (by omega) KLT_I28
        obtain ⟨I41, J42, rfl, hI41, g40, k40, KLT_I41, ⟨z40, rfl, q40⟩⟩ := P40
        have FI41 := gc_frc (W := fun q j => (q = 39 ∧ j = 3) ∨ (q = 39 ∧ j = 4) ∨ (q = 23 ∧ j = 5) ∨ (q = 23 ∧ j = 6) ∨ (q = 23 ∧ j = 7) ∨ (q = 23 ∧ j = 8) ∨ q = (t + 9) ∨ (q = (t + 7) ∧ j = 1)) (V := fun q j => (q = 39 ∧ j = 3) ∨ (q = 39 ∧ j = 4) ∨ (q = 23 ∧ j = 5) ∨ (q = 23 ∧ j = 6) ∨ (q = 23 ∧ j = 7) ∨ (q = 23 ∧ j = 8)) FI28 (fun q j h => (h.elim (fun h => (Or.inl h)) (fun h => (h.elim (fun h => (Or.inr (Or.inl h))) (fun h => (h.elim (fun h => (Or.inr (Or.inr (Or.inl h)))) (fun h => (h.elim (fun h => (Or.inr (Or.inr (Or.inr (Or.inl h))))) (fun h => (h.elim (fun h => (Or.inr (Or.inr (Or.inr (Or.inr (Or.inl h)))))) (fun h => (Or.inr (Or.inr (Or.inr (Or.inr (Or.inr (Or.inl h))))))))))))))))) g40
        have FJ42 := gc_frc (W := fun q j => (q = 23 ∧ j = 9) ∨ q = (t + 8)) (V := fun q j => (q = 23 ∧ j = 9)) FJ29 (fun q j h => (Or.inl h)) k40
        have t43 := (g40 23 1).resolve_left (by omega)
        have t44 := (g40 (t + 7) 1).resolve_left (by omega)
        have t45 := (g40 39 2).resolve_left (by omega)
        have f46 := (show 0 ≤ I41 23 1 ∧ I41 23 1 ≤ 1000 from gc_in hI41 R_23 rfl rfl)
        have f47 := (show 0 ≤ I41 23 5 ∧ I41 23 5 ≤ 1000 from gc_in hI41 R_23 rfl rfl)
        have f48 := (show 0 ≤ I41 23 6 ∧ I41 23 6 ≤ 1001 from gc_in hI41 R_23 rfl rfl)
        have f49 := (show 0 ≤ I41 23 7 ∧ I41 23 7 ≤ 125 from gc_in hI41 R_23 rfl rfl)
        have f50 := (show 0 ≤ I41 (t + 7) 1 ∧ I41 (t + 7) 1 ≤ 16 from gc_in hI41 R_t_7 rfl rfl)
        have f51 := (show (-1) ≤ I41 39 2 ∧ I41 39 2 ≤ 999999 from gc_in hI41 R_39 rfl rfl)
        refine gv_callV hD rfl (As := [.inl z39]) (st := []) rfl B_39 S_39 rfl (gc_lV6 hws rfl) (Nat.le_of_ble_eq_true rfl) (gz_Ev_mono (d := 4) (by decide) E40) ?_
        show gv_X _ _ (120, [(0, .inr (.inr (some 39))), (1, .inr (.inl v1_18)), (3, .inl v3_18), (4, .inl v4_18)], [.inl z40], sh, gc_h sh I41 J42 A)
        refine gv_if_ne (t := 125) hD rfl rfl ⟨by omega, by omega⟩ (fun c52 => ?_) (fun c52 => ?_)
        · show gv_X _ _ (125, [(0, .inr (.inr (some 39))), (1, .inr (.inl v1_18)), (3, .inl v3_18), (4, .inl v4_18)], [], sh, gc_h sh I41 J42 A)
          refine gv_run 1 true hD (pc' := 126) (lv' := [(0, .inr (.inr (some 39))), (1, .inr (.inl v1_18)), (3, .inl v3_18), (4, .inl v4_18)]) (st' := [.inr (.inr (some 39))]) (h' := gc_h sh I41 J42 A) (C := (True ∧ True)) rfl ⟨trivial, trivial⟩ ?_
          refine gv_get hD rfl rfl S_39 ⟨by decide, B_39⟩ (gc_h5 (t := t) S_39 rfl (by omega)) ?_
          show gv_X _ _ (129, [(0, .inr (.inr (some 39))), (1, .inr (.inl v1_18)), (3, .inl v3_18), (4, .inl v4_18)], [.inr (.inr (some t))], sh, gc_h sh I41 J42 A)
          refine gv_get hD rfl rfl S_t ⟨by decide, B_t⟩ (gc_hA S_t rfl A_t_5) ?_
          show gv_X _ _ (132, [(0, .inr (.inr (some 39))), (1, .inr (.inl v1_18)), (3, .inl v3_18), (4, .inl v4_18)], [.inr (.inr (some (t + 9)))], sh, gc_h sh I41 J42 A)
          refine gv_run 1 true hD (pc' := 133) (lv' := [(0, .inr (.inr (some 39))), (1, .inr (.inl v1_18)), (3, .inl v3_18), (4, .inl v4_18)]) (st' := [.inr (.inr (some 39)), .inr (.inr (some (t + 9)))]) (h' := gc_h sh I41 J42 A) (C := (True ∧ True)) rfl ⟨trivial, trivial⟩ ?_
          refine gv_get hD rfl rfl S_39 ⟨by decide, B_39⟩ (gc_h5 (t := t) S_39 rfl (by omega)) ?_
          show gv_X _ _ (136, [(0, .inr (.inr (some 39))), (1, .inr (.inl v1_18)), (3, .inl v3_18), (4, .inl v4_18)], [.inr (.inr (some t)), .inr (.inr (some (t + 9)))], sh, gc_h sh I41 J42 A)
          refine gv_get hD rfl rfl S_t ⟨by decide, B_t⟩ (gc_hA S_t rfl A_t_4) ?_
          show gv_X _ _ (139, [(0, .inr (.inr (some 39))), (1, .inr (.inl v1_18)), (3, .inl v3_18), (4, .inl v4_18)], [.inr (.inr (some (t + 7))), .inr (.inr (some (t + 9)))], sh, gc_h sh I41 J42 A)
          have f53 := (show 0 ≤ I41 (t + 7) 1 ∧ I41 (t + 7) 1 ≤ 16 from gc_in hI41 R_t_7 rfl rfl)
          refine gv_get hD rfl rfl S_t_7 ⟨by decide, B_t_7⟩ (gc_hI S_t_7 rfl) ?_
          show gv_X _ _ (142, [(0, .inr (.inr (some 39))), (1, .inr (.inl v1_18)), (3, .inl v3_18), (4, .inl v4_18)], [.inl (I41 (t + 7) 1), .inr (.inr (some (t + 9)))], sh, gc_h sh I41 J42 A)
          refine gv_run 1 true hD (pc' := 143) (lv' := [(0, .inr (.inr (some 39))), (1, .inr (.inl v1_18)), (3, .inl v3_18), (4, .inl v4_18)]) (st' := [.inl v3_18, .inl (I41 (t + 7) 1), .inr (.inr (some (t + 9)))]) (h' := gc_h sh I41 J42 A) (C := (True ∧ True)) rfl ⟨trivial, trivial⟩ ?_
          refine gv_iast hD rfl S_t_9 ⟨by decide, B_t_9⟩ ⟨by omega, by omega⟩ ?_
          refine gc_st hI41 S_t_9 rfl R_t_9 (lo := (-2147483648)) (hi := 2147483647) rfl rfl (by omega) (by omega) (fun I54 hI54 q55 p55 => ?_)
          have FI54 := gc_frs (W := fun q j => (q = 39 ∧ j = 3) ∨ (q = 39 ∧ j = 4) ∨ (q = 23 ∧ j = 5) ∨ (q = 23 ∧ j = 6) ∨ (q = 23 ∧ j = 7) ∨ (q = 23 ∧ j = 8) ∨ q = (t + 9) ∨ (q = (t + 7) ∧ j = 1)) FI41 (Or.inr (Or.inr (Or.inr (Or.inr (Or.inr (Or.inr (Or.inl rfl))))))) p55
          have t56 := p55 23 1 (fun h => absurd h.1 (by omega))
          have t57 := p55 23 5 (fun h => absurd h.1 (by omega))
          have t58 := p55 23 6 (fun h => absurd h.1 (by omega))
          have t59 := p55 23 7 (fun h => absurd h.1 (by omega))
          have t60 := p55 (t + 7) 1 (fun h => absurd h.1 (by omega))
          have t61 := p55 39 2 (fun h => absurd h.1 (by omega))
          have f62 := (show 0 ≤ I54 23 1 ∧ I54 23 1 ≤ 1000 from gc_in hI54 R_23 rfl rfl)
          have f63 := (show 0 ≤ I54 23 5 ∧ I54 23 5 ≤ 1000 from gc_in hI54 R_23 rfl rfl)
          have f64 := (show 0 ≤ I54 23 6 ∧ I54 23 6 ≤ 1001 from gc_in hI54 R_23 rfl rfl)
          have f65 := (show 0 ≤ I54 23 7 ∧ I54 23 7 ≤ 125 from gc_in hI54 R_23 rfl rfl)
          have f66 := (show 0 ≤ I54 (t + 7) 1 ∧ I54 (t + 7) 1 ≤ 16 from gc_in hI54 R_t_7 rfl rfl)
          have f67 := (show (-1) ≤ I54 39 2 ∧ I54 39 2 ≤ 999999 from gc_in hI54 R_39 rfl rfl)
          have KLT_I54 := gc_LT_fr KLT_I41 (p55 23 5 (fun h => absurd h.1 (by omega))) (p55 23 6 (fun h => absurd h.1 (by omega))) (p55 23 7 (fun h => absurd h.1 (by omega))) (fun k => p55 24 k (fun h => absurd h.1 (by omega)))
          show gv_X _ _ (144, [(0, .inr (.inr (some 39))), (1, .inr (.inl v1_18)), (3, .inl v3_18), (4, .inl v4_18)], [], sh, gc_h sh I54 J42 A)
          refine gv_run 1 true hD (pc' := 145) (lv' := [(0, .inr (.inr (some 39))), (1, .inr (.inl v1_18)), (3, .inl v3_18), (4, .inl v4_18)]) (st' := [.inr (.inr (some 39))]) (h' := gc_h sh I54 J42 A) (C := (True ∧ True)) rfl ⟨trivial, trivial⟩ ?_
          refine gv_get hD rfl rfl S_39 ⟨by decide, B_39⟩ (gc_h5 (t := t) S_39 rfl (by omega)) ?_
          show gv_X _ _ (148, [(0, .inr (.inr (some 39))), (1, .inr (.inl v1_18)), (3, .inl v3_18), (4, .inl v4_18)], [.inr (.inr (some t))], sh, gc_h sh I54 J42 A)
          refine gv_get hD rfl rfl S_t ⟨by decide, B_t⟩ (gc_hA S_t rfl A_t_4) ?_
          show gv_X _ _ (151, [(0, .inr (.inr (some 39))), (1, .inr (.inl v1_18)), (3, .inl v3_18), (4, .inl v4_18)], [.inr (.inr (some (t + 7)))], sh, gc_h sh I54 J42 A)
          refine gv_run 1 true hD (pc' := 152) (lv' := [(0, .inr (.inr (some 39))), (1, .inr (.inl v1_18)), (3, .inl v3_18), (4, .inl v4_18)]) (st' := [.inr (.inl v1_18), .inr (.inr (some (t + 7)))]) (h' := gc_h sh I54 J42 A) (C := (True ∧ True)) rfl ⟨trivial, trivial⟩ ?_
          obtain ⟨r68, h68, E68, P68⟩ := d_X4_put (ws0 := ws0) (tb := tb) hws htb sh ro I54 J42 A hI54 (t + 7) 16 7 v1_18 h_t_7     
          obtain ⟨I69, J70, rfl, hI69, g68, k68, ⟨rfl, q68⟩⟩ := P68
          have FI69 := gc_frc (W := fun q j => (q = 39 ∧ j = 3) ∨ (q = 39 ∧ j = 4) ∨ (q = 23 ∧ j = 5) ∨ (q = 23 ∧ j = 6) ∨ (q = 23 ∧ j = 7) ∨ (q = 23 ∧ j = 8) ∨ q = (t + 9) ∨ (q = (t + 7) ∧ j = 1)) (V := fun q j => (q = (t + 7) ∧ j = 1)) FI54 (fun q j h => (Or.inr (Or.inr (Or.inr (Or.inr (Or.inr (Or.inr (Or.inr h)))))))) g68
          have FJ70 := gc_frc (W := fun q j => (q = 23 ∧ j = 9) ∨ q = (t + 8)) (V := fun q j => q = (t + 8)) FJ42 (fun q j h => (Or.inr h)) k68
          have t71 := (g68 23 1).resolve_left (by omega)
          have t72 := (g68 23 5).resolve_left (by omega)
          have t73 := (g68 23 6).resolve_left (by omega)
          have t74 := (g68 23 7).resolve_left (by omega)
          have t75 := (g68 39 2).resolve_left (by omega)
          have f76 := (show 0 ≤ I69 23 1 ∧ I69 23 1 ≤ 1000 from gc_in hI69 R_23 rfl rfl)
          have f77 := (show 0 ≤ I69 23 5 ∧ I69 23 5 ≤ 1000 from gc_in hI69 R_23 rfl rfl)
          have f78 := (show 0 ≤ I69 23 6 ∧ I69 23 6 ≤ 1001 from gc_in hI69 R_23 rfl rfl)
          have f79 := (show 0 ≤ I69 23 7 ∧ I69 23 7 ≤ 125 from gc_in hI69 R_23 rfl rfl)
          have f80 := (show 0 ≤ I69 (t + 7) 1 ∧ I69 (t + 7) 1 ≤ 16 from gc_in hI69 R_t_7 rfl rfl)
          have f81 := (show (-1) ≤ I69 39 2 ∧ I69 39 2 ≤ 999999 from gc_in hI69 R_39 rfl rfl)
          have KLT_I69 := gc_LT_fr KLT_I54 ((g68 23 5).resolve_left (by omega)) ((g68 23 6).resolve_left (by omega)) ((g68 23 7).resolve_left (by omega)) (fun k => (g68 24 k).resolve_left (by omega))
          refine gv_callV hD rfl (As := [.inr (.inl v1_18)]) (st := []) rfl B_t_7 S_t_7 rfl (gc_lV6 hws rfl) (Nat.le_of_ble_eq_true rfl) (gz_Ev_mono (d := 1) (by decide) E68) ?_
          show gv_X _ _ (155, [(0, .inr (.inr (some 39))), (1, .inr (.inl v1_18)), (3, .inl v3_18), (4, .inl v4_18)], [], sh, gc_h sh I69 J70 A)
          refine gv_run 1 true hD (pc' := 156) (lv' := [(0, .inr (.inr (some 39))), (1, .inr (.inl v1_18)), (3, .inl v3_18), (4, .inl v4_18)]) (st' := [.inl 1]) (h' := gc_h sh I69 J70 A) (C := (True ∧ True)) rfl ⟨trivial, trivial⟩ ?_
          exact gv_zret hD rfl (by omega) ⟨I69, J70, rfl, hI69, FI69, FJ70, KLT_I69, ⟨_, rfl, by omega⟩⟩
        · show gv_X _ _ (123, [(0, .inr (.inr (some 39))), (1, .inr (.inl v1_18)), (3, .inl v3_18), (4, .inl v4_18)], [], sh, gc_h sh I41 J42 A)
          refine gv_run 1 true hD (pc' := 124) (lv' := [(0, .inr (.inr (some 39))), (1, .inr (.inl v1_18)), (3, .inl v3_18), (4, .inl v4_18)]) (st' := [.inl 0]) (h' := gc_h sh I41 J42 A) (C := (True ∧ True)) rfl ⟨trivial, trivial⟩ ?_
          exact gv_zret hD rfl (by omega) ⟨I41, J42, rfl, hI41, FI41, FJ42, KLT_I41, ⟨_, rfl, by omega⟩⟩
      · show gv_X _ _ (67, [(0, .inr (.inr (some 39))), (1, .inr (.inl v1_18)), (3, .inl v3_18), (4, .inl v4_18)], [], sh, gc_h sh I16 J17 A)
        refine gv_run 3 true hD (pc' := 70) (lv' := [(0, .inr (.inr (some 39))), (1, .inr (.inl v1_18)), (3, .inl v3_18), (4, .inl v4_18)]) (st' := [.inr (.inr (some 39)), .inl 1, .inl v3_18]) (h' := gc_h sh I16 J17 A) (C := (((True ∧ True) ∧ True) ∧ True)) rfl ⟨⟨⟨trivial, trivial⟩, trivial⟩, trivial⟩ ?_
        refine gv_get hD rfl rfl S_39 ⟨by decide, B_39⟩ (gc_hA S_39 rfl A_39_1) ?_
        show gv_X _ _ (73, [(0, .inr (.inr (some 39))), (1, .inr (.inl v1_18)), (3, .inl v3_18), (4, .inl v4_18)], [.inr (.inr (some 23)), .inl 1, .inl v3_18], sh, gc_h sh I16 J17 A)
        refine gv_get hD rfl rfl S_23 ⟨by decide, B_23⟩ (gc_hA S_23 rfl A_23_0) ?_
        show gv_X _ _ (76, [(0, .inr (.inr (some 39))), (1, .inr (.inl v1_18)), (3, .inl v3_18), (4, .inl v4_18)], [.inr (.inr (some 24)), .inl 1, .inl v3_18], sh, gc_h sh I16 J17 A)
        refine gv_run 1 true hD (pc' := 77) (lv' := [(0, .inr (.inr (some 39))), (1, .inr (.inl v1_18)), (3, .inl v3_18), (4, .inl v4_18)]) (st' := [.inr (.inr (some 39)), .inr (.inr (some 24)), .inl 1, .inl v3_18]) (h' := gc_h sh I16 J17 A) (C := (True ∧ True)) rfl ⟨trivial, trivial⟩ ?_
        refine gv_get hD rfl rfl S_39 ⟨by decide, B_39⟩ (gc_hA S_39 rfl A_39_1) ?_
        show gv_X _ _ (80, [(0, .inr (.inr (some 39))), (1, .inr (.inl v1_18)), (3, .inl v3_18), (4, .inl v4_18)], [.inr (.inr (some 23)), .inr (.inr (some 24)), .inl 1, .inl v3_18], sh, gc_h sh I16 J17 A)
        have f82 := (show 0 ≤ I16 23 5 ∧ I16 23 5 ≤ 1000 from gc_in hI16 R_23 rfl rfl)
        refine gv_get hD rfl rfl S_23 ⟨by decide, B_23⟩ (gc_hI S_23 rfl) ?_
        show gv_X _ _ (83, [(0, .inr (.inr (some 39))), (1, .inr (.inl v1_18)), (3, .inl v3_18), (4, .inl v4_18)], [.inl (I16 23 5), .inr (.inr (some 24)), .inl 1, .inl v3_18], sh, gc_h sh I16 J17 A)
        refine gv_run 2 true hD (pc' := 86) (lv' := [(0, .inr (.inr (some 39))), (1, .inr (.inl v1_18)), (3, .inl v3_18), (4, .inl v4_18)]) (st' := [.inl ((I16 23 5) + v4_18), .inr (.inr (some 24)), .inl 1, .inl v3_18]) (h' := gc_h sh I16 J17 A) (C := ((True ∧ True) ∧ True)) rfl ⟨⟨trivial, trivial⟩, trivial⟩ ?_
        have f83 := (show (-128) ≤ I16 24 (Int.toNat (((I16 23 5) + v4_18))) ∧ I16 24 (Int.toNat (((I16 23 5) + v4_18))) ≤ 127 from gc_in hI16 R_24 rfl rfl)
        refine gv_bald hD rfl S_24 (Or.inl rfl) ⟨by decide, B_24⟩ ⟨by omega, by omega⟩ (gc_iI S_24 rfl) ?_
        show gv_X _ _ (87, [(0, .inr (.inr (some 39))), (1, .inr (.inl v1_18)), (3, .inl v3_18), (4, .inl v4_18)], [.inl (I16 24 (Int.toNat (((I16 23 5) + v4_18)))), .inl 1, .inl v3_18], sh, gc_h sh I16 J17 A)
        have f84 := gw_any (Int32.ofInt 1 <<< (Int32.ofInt (((I16 24 (Int.toNat (((I16 23 5) + v4_18)))) - 97)) &&& 31))
        have f85 := gw_any ((Int32.ofInt v3_18 ||| Int32.ofInt (((Int32.ofInt 1 <<< (Int32.ofInt (((I16 24 (Int.toNat (((I16 23 5) + v4_18)))) - 97)) &&& 31)).toInt))))
        refine gv_run 7 true hD (pc' := 55) (lv' := [(4, .inl (v4_18 + 1)), (3, .inl ((Int32.ofInt v3_18 ||| Int32.ofInt (((Int32.ofInt 1 <<< (Int32.ofInt (((I16 24 (Int.toNat (((I16 23 5) + v4_18)))) - 97)) &&& 31)).toInt))).toInt)), (0, .inr (.inr (some 39))), (1, .inr (.inl v1_18))]) (st' := []) (h' := gc_h sh I16 J17 A) (C := (((((((True ∧ True) ∧ True) ∧ True) ∧ True) ∧ True) ∧ True) ∧ True)) rfl ⟨⟨⟨⟨⟨⟨⟨trivial, trivial⟩, trivial⟩, trivial⟩, trivial⟩, trivial⟩, trivial⟩, trivial⟩ ?_
        refine gv_pick [2, 3, 1, 0] rfl ?_
        exact ih55 I16 J17 v1_18 (((Int32.ofInt v3_18 ||| Int32.ofInt (((Int32.ofInt 1 <<< (Int32.ofInt (((I16 24 (Int.toNat (((I16 23 5) + v4_18)))) - 97)) &&& 31)).toInt))).toInt)) (v4_18 + 1) (by omega) hI16 FI16 FJ17 KLT_I16 (by omega)
  refine gv_run 2 true hD (pc' := 2) (lv' := [(0, .inr (.inr (some 39)))]) (st' := [.inr (.inr (some 39)), .inr (.inr (some 39))]) (h' := gc_h sh I J A) (C := ((True ∧ True) ∧ True)) rfl ⟨⟨trivial, trivial⟩, trivial⟩ ?_
  refine gv_get hD rfl rfl S_39 ⟨by decide, B_39⟩ (gc_h5 (t := t) S_39 rfl (by omega)) ?_
  show gv_X _ _ (5, [(0, .inr (.inr (some 39)))], [.inr (.inr (some t)), .inr (.inr (some 39))], sh, gc_h sh I J A)
  refine gv_get hD rfl rfl S_t ⟨by decide, B_t⟩ (gc_hA S_t rfl A_t_4) ?_
  show gv_X _ _ (8, [(0, .inr (.inr (some 39)))], [.inr (.inr (some (t + 7))), .inr (.inr (some 39))], sh, gc_h sh I J A)
  obtain ⟨r86, h86, E86, P86⟩ := d_X6_needNew (ws0 := ws0) (tb := tb) hws htb sh ro I J A hI  16 7 (t + 7) hb h_t_7    
  obtain ⟨I87, J88, rfl, hI87, g86, k86, ⟨z86, rfl, q86⟩⟩ := P86
  have FI87 := gc_frc (W := fun q j => (q = 39 ∧ j = 3) ∨ (q = 39 ∧ j = 4) ∨ (q = 23 ∧ j = 5) ∨ (q = 23 ∧ j = 6) ∨ (q = 23 ∧ j = 7) ∨ (q = 23 ∧ j = 8) ∨ q = (t + 9) ∨ (q = (t + 7) ∧ j = 1)) (V := fun q j => (q = 39 ∧ j = 3) ∨ (q = 39 ∧ j = 4)) FI (fun q j h => (h.elim (fun h => (Or.inl h)) (fun h => (Or.inr (Or.inl h))))) g86
  have t89 := (g86 23 1).resolve_left (by omega)
  have t90 := (g86 23 5).resolve_left (by omega)
  have t91 := (g86 23 6).resolve_left (by omega)
  have t92 := (g86 23 7).resolve_left (by omega)
  have t93 := (g86 (t + 7) 1).resolve_left (by omega)
  have t94 := (g86 39 2).resolve_left (by omega)
  have f95 := (show 0 ≤ I87 23 1 ∧ I87 23 1 ≤ 1000 from gc_in hI87 R_23 rfl rfl)
  have f96 := (show 0 ≤ I87 23 5 ∧ I87 23 5 ≤ 1000 from gc_in hI87 R_23 rfl rfl)
  have f97 := (show 0 ≤ I87 23 6 ∧ I87 23 6 ≤ 1001 from gc_in hI87 R_23 rfl rfl)
  have f98 := (show 0 ≤ I87 23 7 ∧ I87 23 7 ≤ 125 from gc_in hI87 R_23 rfl rfl)
  have f99 := (show 0 ≤ I87 (t + 7) 1 ∧ I87 (t + 7) 1 ≤ 16 from gc_in hI87 R_t_7 rfl rfl)
  have f100 := (show (-1) ≤ I87 39 2 ∧ I87 39 2 ≤ 999999 from gc_in hI87 R_39 rfl rfl)
  obtain rfl : J = J88 := funext fun q => funext fun j => ((k86 q j).resolve_left id).symm
  have KLT_I87 := gc_LT_fr KLT_I ((g86 23 5).resolve_left (by omega)) ((g86 23 6).resolve_left (by omega)) ((g86 23 7).resolve_left (by omega)) (fun k => (g86 24 k).resolve_left (by omega))
  refine gv_callV hD rfl (As := [.inr (.inr (some (t + 7)))]) (st := []) rfl B_39 S_39 rfl (gc_lV6 hws rfl) (Nat.le_of_ble_eq_true rfl) (gz_Ev_mono (d := 3) (by decide) E86) ?_
  show gv_X _ _ (11, [(0, .inr (.inr (some 39)))], [.inl z86], sh, gc_h sh I87 J A)
  refine gv_if_ne (t := 16) hD rfl rfl ⟨by omega, by omega⟩ (fun c101 => ?_) (fun c101 => ?_)
  · show gv_X _ _ (16, [(0, .inr (.inr (some 39)))], [], sh, gc_h sh I87 J A)
    refine gv_run 1 true hD (pc' := 17) (lv' := [(0, .inr (.inr (some 39)))]) (st' := [.inr (.inr (some 39))]) (h' := gc_h sh I87 J A) (C := (True ∧ True)) rfl ⟨trivial, trivial⟩ ?_
    refine gv_get hD rfl rfl S_39 ⟨by decide, B_39⟩ (gc_hA S_39 rfl A_39_1) ?_
    show gv_X _ _ (20, [(0, .inr (.inr (some 39)))], [.inr (.inr (some 23))], sh, gc_h sh I87 J A)
    refine gv_get hD rfl rfl S_23 ⟨by decide, B_23⟩ (gc_hJ S_23 rfl) ?_
    show gv_X _ _ (23, [(0, .inr (.inr (some 39)))], [.inr (.inl (J 23 9))], sh, gc_h sh I87 J A)
    refine gv_run 2 true hD (pc' := 25) (lv' := [(1, .inr (.inl (J 23 9))), (0, .inr (.inr (some 39)))]) (st' := [.inr (.inr (some 39))]) (h' := gc_h sh I87 J A) (C := ((True ∧ True) ∧ True)) rfl ⟨⟨trivial, trivial⟩, trivial⟩ ?_
    refine gv_get hD rfl rfl S_39 ⟨by decide, B_39⟩ (gc_hA S_39 rfl A_39_1) ?_
    show gv_X _ _ (28, [(1, .inr (.inl (J 23 9))), (0, .inr (.inr (some 39)))], [.inr (.inr (some 23))], sh, gc_h sh I87 J A)
    obtain ⟨r102, h102, E102, P102⟩ := d_X9_advance (ws0 := ws0) (tb := tb) hws htb sh ro I87 J A hI87 23  (gc_b23 hb)    (by omega) 
    obtain ⟨I103, J104, rfl, hI103, g102, k102, ⟨rfl, q102⟩⟩ := P102
    have FI103 := gc_frc (W := fun q j => (q = 39 ∧ j = 3) ∨ (q = 39 ∧ j = 4) ∨ (q = 23 ∧ j = 5) ∨ (q = 23 ∧ j = 6) ∨ (q = 23 ∧ j = 7) ∨ (q = 23 ∧ j = 8) ∨ q = (t + 9) ∨ (q = (t + 7) ∧ j = 1)) (V := fun q j => (q = 23 ∧ j = 5) ∨ (q = 23 ∧ j = 6) ∨ (q = 23 ∧ j = 7) ∨ (q = 23 ∧ j = 8)) FI87 (fun q j h => (h.elim (fun h => (Or.inr (Or.inr (Or.inl h)))) (fun h => (h.elim (fun h => (Or.inr (Or.inr (Or.inr (Or.inl h))))) (fun h => (h.elim (fun h => (Or.inr (Or.inr (Or.inr (Or.inr (Or.inl h)))))) (fun h => (Or.inr (Or.inr (Or.inr (Or.inr (Or.inr (Or.inl h))))))))))))) g102
    have FJ104 := gc_frc (W := fun q j => (q = 23 ∧ j = 9) ∨ q = (t + 8)) (V := fun q j => (q = 23 ∧ j = 9)) FJ (fun q j h => (Or.inl h)) k102
    have t105 := (g102 23 1).resolve_left (by omega)
    have t106 := (g102 (t + 7) 1).resolve_left (by omega)
    have t107 := (g102 39 2).resolve_left (by omega)
    have f108 := (show 0 ≤ I103 23 1 ∧ I103 23 1 ≤ 1000 from gc_in hI103 R_23 rfl rfl)
    have f109 := (show 0 ≤ I103 23 5 ∧ I103 23 5 ≤ 1000 from gc_in hI103 R_23 rfl rfl)
    have f110 := (show 0 ≤ I103 23 6 ∧ I103 23 6 ≤ 1001 from gc_in hI103 R_23 rfl rfl)
    have f111 := (show 0 ≤ I103 23 7 ∧ I103 23 7 ≤ 125 from gc_in hI103 R_23 rfl rfl)
    have f112 := (show 0 ≤ I103 (t + 7) 1 ∧ I103 (t + 7) 1 ≤ 16 from gc_in hI103 R_t_7 rfl rfl)
    have f113 := (show (-1) ≤ I103 39 2 ∧ I103 39 2 ≤ 999999 from gc_in hI103 R_39 rfl rfl)
    have KLT_I103 : gc_LT I103 := q102.2.2.2.2.2.2.2
    refine gv_callV hD rfl (As := []) (st := []) rfl B_23 S_23 rfl (gc_lV6 hws rfl) (Nat.le_of_ble_eq_true rfl) (gz_Ev_mono (d := 2) (by decide) E102) ?_
    show gv_X _ _ (31, [(1, .inr (.inl (J 23 9))), (0, .inr (.inr (some 39)))], [], sh, gc_h sh I103 J104 A)
    refine gv_run 2 true hD (pc' := 34) (lv' := [(1, .inr (.inl (J 23 9))), (0, .inr (.inr (some 39)))]) (st' := [.inl 61, .inr (.inr (some 39))]) (h' := gc_h sh I103 J104 A) (C := ((True ∧ True) ∧ True)) rfl ⟨⟨trivial, trivial⟩, trivial⟩ ?_
    obtain ⟨r114, h114, E114, P114⟩ := d_X6_take (ws0 := ws0) (tb := tb) hws htb sh ro I103 J104 A hI103  61 hb   ⟨by omega, by omega⟩ (by omega) (by omega) (by omega) (by omega) (by omega) (by omega) KLT_I103
    obtain ⟨I115, J116, rfl, hI115, g114, k114, KLT_I115, ⟨z114, rfl, q114⟩⟩ := P114
    have FI115 := gc_frc (W := fun q j => (q = 39 ∧ j = 3) ∨ (q = 39 ∧ j = 4) ∨ (q = 23 ∧ j = 5) ∨ (q = 23 ∧ j = 6) ∨ (q = 23 ∧ j = 7) ∨ (q = 23 ∧ j = 8) ∨ q = (t + 9) ∨ (q = (t + 7) ∧ j = 1)) (V := fun q j => (q = 39 ∧ j = 3) ∨ (q = 39 ∧ j = 4) ∨ (q = 23 ∧ j = 5) ∨ (q = 23 ∧ j = 6) ∨ (q = 23 ∧ j = 7) ∨ (q = 23 ∧ j = 8)) FI103 (fun q j h => (h.elim (fun h => (Or.inl h)) (fun h => (h.elim (fun h => (Or.inr (Or.inl h))) (fun h => (h.elim (fun h => (Or.inr (Or.inr (Or.inl h)))) (fun h => (h.elim (fun h => (Or.inr (Or.inr (Or.inr (Or.inl h))))) (fun h => (h.elim (fun h => (Or.inr (Or.inr (Or.inr (Or.inr (Or.inl h)))))) (fun h => (Or.inr (Or.inr (Or.inr (Or.inr (Or.inr (Or.inl h))))))))))))))))) g114
    have FJ116 := gc_frc (W := fun q j => (q = 23 ∧ j = 9) ∨ q = (t + 8)) (V := fun q j => (q = 23 ∧ j = 9)) FJ104 (fun q j h => (Or.inl h)) k114
    have t117 := (g114 23 1).resolve_left (by omega)
    have t118 := (g114 (t + 7) 1).resolve_left (by omega)
    have t119 := (g114 39 2).resolve_left (by omega)
    have f120 := (show 0 ≤ I115 23 1 ∧ I115 23 1 ≤ 1000 from gc_in hI115 R_23 rfl rfl)
    have f121 := (show 0 ≤ I115 23 5 ∧ I115 23 5 ≤ 1000 from gc_in hI115 R_23 rfl rfl)
    have f122 := (show 0 ≤ I115 23 6 ∧ I115 23 6 ≤ 1001 from gc_in hI115 R_23 rfl rfl)
    have f123 := (show 0 ≤ I115 23 7 ∧ I115 23 7 ≤ 125 from gc_in hI115 R_23 rfl rfl)
    have f124 := (show 0 ≤ I115 (t + 7) 1 ∧ I115 (t + 7) 1 ≤ 16 from gc_in hI115 R_t_7 rfl rfl)
    have f125 := (show (-1) ≤ I115 39 2 ∧ I115 39 2 ≤ 999999 from gc_in hI115 R_39 rfl rfl)
    refine gv_callV hD rfl (As := [.inl 61]) (st := []) rfl B_39 S_39 rfl (gc_lV6 hws rfl) (Nat.le_of_ble_eq_true rfl) (gz_Ev_mono (d := 3) (by decide) E114) ?_
    show gv_X _ _ (37, [(1, .inr (.inl (J 23 9))), (0, .inr (.inr (some 39)))], [.inl z114], sh, gc_h sh I115 J116 A)
    refine gv_if_eq (t := 48) hD rfl rfl ⟨by omega, by omega⟩ (fun c126 => ?_) (fun c126 => ?_)
    · show gv_X _ _ (48, [(1, .inr (.inl (J 23 9))), (0, .inr (.inr (some 39)))], [], sh, gc_h sh I115 J116 A)
      refine gv_pick [] rfl ?_
      exact L48 I115 J116 hI115 FI115 FJ116 KLT_I115 (by omega)
    · show gv_X _ _ (40, [(1, .inr (.inl (J 23 9))), (0, .inr (.inr (some 39)))], [], sh, gc_h sh I115 J116 A)
      refine gv_run 2 true hD (pc' := 42) (lv' := [(1, .inr (.inl (J 23 9))), (0, .inr (.inr (some 39)))]) (st' := [.inl 3, .inr (.inr (some 39))]) (h' := gc_h sh I115 J116 A) (C := ((True ∧ True) ∧ True)) rfl ⟨⟨trivial, trivial⟩, trivial⟩ ?_
      obtain ⟨r127, h127, E127, P127⟩ := d_X6_need (ws0 := ws0) (tb := tb) hws htb sh ro I115 J116 A hI115  3 hb   ⟨by omega, by omega⟩  
      obtain ⟨I128, J129, rfl, hI128, g127, k127, ⟨z127, rfl, q127⟩⟩ := P127
      have FI128 := gc_frc (W := fun q j => (q = 39 ∧ j = 3) ∨ (q = 39 ∧ j = 4) ∨ (q = 23 ∧ j = 5) ∨ (q = 23 ∧ j = 6) ∨ (q = 23 ∧ j = 7) ∨ (q = 23 ∧ j = 8) ∨ q = (t + 9) ∨ (q = (t + 7) ∧ j = 1)) (V := fun q j => (q = 39 ∧ j = 3) ∨ (q = 39 ∧ j = 4)) FI115 (fun q j h => (h.elim (fun h => (Or.inl h)) (fun h => (Or.inr (Or.inl h))))) g127
      have t130 := (g127 23 1).resolve_left (by omega)
      have t131 := (g127 23 5).resolve_left (by omega)
      have t132 := (g127 23 6).resolve_left (by omega)
      have t133 := (g127 23 7).resolve_left (by omega)
      have t134 := (g127 (t + 7) 1).resolve_left (by omega)
      have t135 := (g127 39 2).resolve_left (by omega)
      have f136 := (show 0 ≤ I128 23 1 ∧ I128 23 1 ≤ 1000 from gc_in hI128 R_23 rfl rfl)
      have f137 := (show 0 ≤ I128 23 5 ∧ I128 23 5 ≤ 1000 from gc_in hI128 R_23 rfl rfl)
      have f138 := (show 0 ≤ I128 23 6 ∧ I128 23 6 ≤ 1001 from gc_in hI128 R_23 rfl rfl)
      have f139 := (show 0 ≤ I128 23 7 ∧ I128 23 7 ≤ 125 from gc_in hI128 R_23 rfl rfl)
      have f140 := (show 0 ≤ I128 (t + 7) 1 ∧ I128 (t + 7) 1 ≤ 16 from gc_in hI128 R_t_7 rfl rfl)
      have f141 := (show (-1) ≤ I128 39 2 ∧ I128 39 2 ≤ 999999 from gc_in hI128 R_39 rfl rfl)
      obtain rfl : J116 = J129 := funext fun q => funext fun j => ((k127 q j).resolve_left id).symm
      have KLT_I128 := gc_LT_fr KLT_I115 ((g127 23 5).resolve_left (by omega)) ((g127 23 6).resolve_left (by omega)) ((g127 23 7).resolve_left (by omega)) (fun k => (g127 24 k).resolve_left (by omega))
      refine gv_callV hD rfl (As := [.inl 3]) (st := []) rfl B_39 S_39 rfl (gc_lV6 hws rfl) (Nat.le_of_ble_eq_true rfl) (gz_Ev_mono (d := 2) (by decide) E127) ?_
      show gv_X _ _ (45, [(1, .inr (.inl (J 23 9))), (0, .inr (.inr (some 39)))], [.inl z127], sh, gc_h sh I128 J116 A)
      refine gv_if_ne (t := 50) hD rfl rfl ⟨by omega, by omega⟩ (fun c142 => ?_) (fun c142 => ?_)
      · show gv_X _ _ (50, [(1, .inr (.inl (J 23 9))), (0, .inr (.inr (some 39)))], [], sh, gc_h sh I128 J116 A)
        refine gv_run 4 true hD (pc' := 55) (lv' := [(4, .inl 1), (3, .inl 0), (1, .inr (.inl (J 23 9))), (0, .inr (.inr (some 39)))]) (st' := []) (h' := gc_h sh I128 J116 A) (C := ((((True ∧ True) ∧ True) ∧ True) ∧ True)) rfl ⟨⟨⟨⟨trivial, trivial⟩, trivial⟩, trivial⟩, trivial⟩ ?_
        refine gv_pick [3, 2, 1, 0] rfl ?_
        exact L55 _ I128 J116 (J 23 9) 0 1 (Nat.lt_succ_self _) hI128 FI128 FJ116 KLT_I128 (by omega)
      · show gv_X _ _ (48, [(1, .inr (.inl (J 23 9))), (0, .inr (.inr (some 39)))], [], sh, gc_h sh I128 J116 A)
        refine gv_pick [] rfl ?_
        exact L48 I128 J116 hI128 FI128 FJ116 KLT_I128 (by omega)
  · show gv_X _ _ (14, [(0, .inr (.inr (some 39)))], [], sh, gc_h sh I87 J A)
    refine gv_run 1 true hD (pc' := 15) (lv' := [(0, .inr (.inr (some 39)))]) (st' := [.inl 0]) (h' := gc_h sh I87 J A) (C := (True ∧ True)) rfl ⟨trivial, trivial⟩ ?_
    exact gv_zret hD rfl (by omega) ⟨I87, J, rfl, hI87, FI87, FJ, KLT_I87, ⟨_, rfl, by omega⟩⟩
