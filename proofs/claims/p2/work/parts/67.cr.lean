set_option maxHeartbeats 4000000 in
set_option maxRecDepth 100000 in
theorem d_X6_readFeature {ws0 : List Cond} {tb : String → gz_T} (hws : gc_Ws ws0) (htb : gc_tbs tb) (sh : gz_Sh) (ro : Nat → Nat) (I : gr_I) (J : gr_J) (A : gc_A) (hI : gc_Inv ro I) (t : Nat)  (hb : gc_Base sh ro A) (h_t : gc_isTongue sh ro A t) (G_t : 144 ≤ t)  (x0 : I (t + 3) 1 ≤ 6 * I (t + 1) 1) (x1 : I 39 2 = (t : Int)) (KLT_I : gc_LT I) (KTK_I : gc_TK I) : ∃ r h', gz_Ev ws0 tb 5 (yX6_readFeature, cX6_readFeature, 7, (some .boolean)) [.inr (.inr (some 39))] sh (gc_h sh I J A) r sh h' 0 0 ∧ (∃ (I' : gr_I) (J' : gr_J), h' = gc_h sh I' J' A ∧ gc_Inv ro I' ∧ (∀ q j : Nat, ((q = 39 ∧ j = 3) ∨ (q = 39 ∧ j = 4) ∨ (q = 23 ∧ j = 5) ∨ (q = 23 ∧ j = 6) ∨ (q = 23 ∧ j = 7) ∨ (q = 23 ∧ j = 8) ∨ q = (t + 5) ∨ q = (t + 6) ∨ (q = (t + 3) ∧ j = 1) ∨ (q = (t + 1) ∧ j = 1)) ∨ I' q j = I q j) ∧ (∀ q j : Nat, ((q = 23 ∧ j = 9) ∨ q = 42 ∨ q = (t + 4) ∨ q = (t + 2)) ∨ J' q j = J q j) ∧ gc_LT I' ∧ gc_TK I' ∧ (∃ z : Int, r = some (.inl z) ∧ 0 ≤ z ∧ z ≤ 1 ∧ (I' 23 1 = I 23 1) ∧ (I 23 5 ≤ I' 23 5) ∧ (I' (t + 3) 1 ≤ 6 * I' (t + 1) 1))) := by
  have FI : ∀ q j : Nat, ((q = 39 ∧ j = 3) ∨ (q = 39 ∧ j = 4) ∨ (q = 23 ∧ j = 5) ∨ (q = 23 ∧ j = 6) ∨ (q = 23 ∧ j = 7) ∨ (q = 23 ∧ j = 8) ∨ q = (t + 5) ∨ q = (t + 6) ∨ (q = (t + 3) ∧ j = 1) ∨ (q = (t + 1) ∧ j = 1)) ∨ I q j = I q j := fun _ _ => Or.inr rfl
  have FJ : ∀ q j : Nat, ((q = 23 ∧ j = 9) ∨ q = 42 ∨ q = (t + 4) ∨ q = (t + 2)) ∨ J q j = J q j := fun _ _ => Or.inr rfl
  have A_39_1 : A 39 1 = some 23 := gc_bA hb rfl
  have A_39_11 : A 39 11 = some 42 := gc_bA hb rfl
  have B_23 : 23 < 1000000 := by decide
  have B_39 : 39 < 1000000 := by decide
  have B_42 : 42 < 1000000 := by decide
  have R_23 : ro 23 = 3 := gc_bR hb (by decide) rfl
  have R_39 : ro 39 = 42 := gc_bR hb (by decide) rfl
  have S_23 : sh[23]? = some (false, 9, 10) := gc_bS hb rfl
  have S_39 : sh[39]? = some (false, 6, 19) := gc_bS hb rfl
  have S_42 : sh[42]? = some (true, 2, 6) := gc_bS hb rfl
  obtain ⟨S_t, R_t, B_t, A_t_0, h_t_1, A_t_1, h_t_3, A_t_2, S_t_5, R_t_5, B_t_5, A_t_3, S_t_6, R_t_6, B_t_6, A_t_4, h_t_7, A_t_5, S_t_9, R_t_9, B_t_9, A_t_7, S_t_10, R_t_10, B_t_10, A_t_8, h_t_11, A_t_9, S_t_13, R_t_13, B_t_13, A_t_10, S_t_14, R_t_14, B_t_14, A_t_12, S_t_15, R_t_15, B_t_15, A_t_14, S_t_16, R_t_16, B_t_16, A_t_15, h_t_17⟩ := id h_t
  obtain ⟨S_t_1, R_t_1, B_t_1, A_t_1_0, S_t_1_1, R_t_1_1, B_t_1_1, Q0_t_1, Q1_t_1, Q2_t_1⟩ := id h_t_1
  obtain ⟨S_t_3, R_t_3, B_t_3, A_t_3_0, S_t_3_1, R_t_3_1, B_t_3_1, Q0_t_3, Q1_t_3, Q2_t_3⟩ := id h_t_3
  obtain ⟨S_t_7, R_t_7, B_t_7, A_t_7_0, S_t_7_1, R_t_7_1, B_t_7_1, Q0_t_7, Q1_t_7, Q2_t_7⟩ := id h_t_7
  obtain ⟨S_t_11, R_t_11, B_t_11, A_t_11_0, S_t_11_1, R_t_11_1, B_t_11_1, Q0_t_11, Q1_t_11, Q2_t_11⟩ := id h_t_11
  obtain ⟨S_t_17, R_t_17, B_t_17, A_t_17_0, S_20, R_20, B_20, A_t_17_1, S_t_17_1, R_t_17_1, B_t_17_1, A_t_17_2, S_t_17_2, R_t_17_2, B_t_17_2, A_t_17_3, S_t_17_3, R_t_17_3, B_t_17_3, A_t_17_4, S_t_17_4, R_t_17_4, B_t_17_4, A_t_17_5, S_t_17_5, R_t_17_5, B_t_17_5, S_t_17_6, R_t_17_6, B_t_17_6, S_t_17_7, R_t_17_7, B_t_17_7⟩ := id h_t_17
  have hD : gv_D (gc_E6 ws0 tb 4 (yX6_readFeature, cX6_readFeature, 7, (some .boolean)) kX6_readFeature) := gq_ok oX6_readFeature
  refine gc_ev6 (d := 4) (l := kX6_readFeature) (Po := fun r h' => (∃ (I' : gr_I) (J' : gr_J), h' = gc_h sh I' J' A ∧ gc_Inv ro I' ∧ (∀ q j : Nat, ((q = 39 ∧ j = 3) ∨ (q = 39 ∧ j = 4) ∨ (q = 23 ∧ j = 5) ∨ (q = 23 ∧ j = 6) ∨ (q = 23 ∧ j = 7) ∨ (q = 23 ∧ j = 8) ∨ q = (t + 5) ∨ q = (t + 6) ∨ (q = (t + 3) ∧ j = 1) ∨ (q = (t + 1) ∧ j = 1)) ∨ I' q j = I q j) ∧ (∀ q j : Nat, ((q = 23 ∧ j = 9) ∨ q = 42 ∨ q = (t + 4) ∨ q = (t + 2)) ∨ J' q j = J q j) ∧ gc_LT I' ∧ gc_TK I' ∧ (∃ z : Int, r = some (.inl z) ∧ 0 ≤ z ∧ z ≤ 1 ∧ (I' 23 1 = I 23 1) ∧ (I 23 5 ≤ I' 23 5) ∧ (I' (t + 3) 1 ≤ 6 * I' (t + 1) 1)))) htb rfl (Nat.le_of_ble_eq_true rfl) ?_
  have N_23__t_1 : ¬ (23 = (t + 1)) := by omega
  have N_t_3__t_1 : ¬ ((t + 3) = (t + 1)) := by omega
  have N_24__t_1 : ¬ (24 = (t + 1)) := by omega
  have N_23__t_5 : ¬ (23 = (t + 5)) := by omega
  have N_t_3__t_5 : ¬ ((t + 3) = (t + 5)) := by omega
  have N_t_1__t_5 : ¬ ((t + 1) = (t + 5)) := by omega
  have N_39__t_5 : ¬ (39 = (t + 5)) := by omega
  have N_24__t_5 : ¬ (24 = (t + 5)) := by omega
  have N_23__t_6 : ¬ (23 = (t + 6)) := by omega
  have N_t_3__t_6 : ¬ ((t + 3) = (t + 6)) := by omega
  have N_t_1__t_6 : ¬ ((t + 1) = (t + 6)) := by omega
  have N_39__t_6 : ¬ (39 = (t + 6)) := by omega
  have N_24__t_6 : ¬ (24 = (t + 6)) := by omega
  have N_23__t_3 : ¬ (23 = (t + 3)) := by omega
  have N_t_1__t_3 : ¬ ((t + 1) = (t + 3)) := by omega
  have N_24__t_3 : ¬ (24 = (t + 3)) := by omega
  have t1 := gc_TK_mo KTK_I
  have f2 := (show 0 ≤ I 23 1 ∧ I 23 1 ≤ 1000 from gc_in hI R_23 rfl rfl)
  have f3 := (show 0 ≤ I 23 5 ∧ I 23 5 ≤ 1000 from gc_in hI R_23 rfl rfl)
  have f4 := (show 0 ≤ I 23 6 ∧ I 23 6 ≤ 1001 from gc_in hI R_23 rfl rfl)
  have f5 := (show 0 ≤ I 23 7 ∧ I 23 7 ≤ 125 from gc_in hI R_23 rfl rfl)
  have f6 := (show 0 ≤ I (t + 3) 1 ∧ I (t + 3) 1 ≤ 48 from gc_in hI R_t_3 rfl rfl)
  have f7 := (show 0 ≤ I (t + 1) 1 ∧ I (t + 1) 1 ≤ 8 from gc_in hI R_t_1 rfl rfl)
  have f8 := (show (-1) ≤ I 39 2 ∧ I 39 2 ≤ 999999 from gc_in hI R_39 rfl rfl)
  have L48 : ∀ (I9 : gr_I) (J10 : gr_J) , gc_Inv ro I9 → (∀ q j : Nat, ((q = 39 ∧ j = 3) ∨ (q = 39 ∧ j = 4) ∨ (q = 23 ∧ j = 5) ∨ (q = 23 ∧ j = 6) ∨ (q = 23 ∧ j = 7) ∨ (q = 23 ∧ j = 8) ∨ q = (t + 5) ∨ q = (t + 6) ∨ (q = (t + 3) ∧ j = 1) ∨ (q = (t + 1) ∧ j = 1)) ∨ I9 q j = I q j) → (∀ q j : Nat, ((q = 23 ∧ j = 9) ∨ q = 42 ∨ q = (t + 4) ∨ q = (t + 2)) ∨ J10 q j = J q j) → gc_LT I9 → gc_TK I9 → ((I9 23 1 = I 23 1) ∧ (I 23 5 ≤ I9 23 5) ∧ (I9 (t + 3) 1 ≤ 6 * I9 (t + 1) 1) ∧ (I9 39 2 = (t : Int))) → gv_X (gc_E6 ws0 tb 4 (yX6_readFeature, cX6_readFeature, 7, (some .boolean)) kX6_readFeature) (gv_Q cX6_readFeature (some .boolean) sh (fun r h' => (∃ (I' : gr_I) (J' : gr_J), h' = gc_h sh I' J' A ∧ gc_Inv ro I' ∧ (∀ q j : Nat, ((q = 39 ∧ j = 3) ∨ (q = 39 ∧ j = 4) ∨ (q = 23 ∧ j = 5) ∨ (q = 23 ∧ j = 6) ∨ (q = 23 ∧ j = 7) ∨ (q = 23 ∧ j = 8) ∨ q = (t + 5) ∨ q = (t + 6) ∨ (q = (t + 3) ∧ j = 1) ∨ (q = (t + 1) ∧ j = 1)) ∨ I' q j = I q j) ∧ (∀ q j : Nat, ((q = 23 ∧ j = 9) ∨ q = 42 ∨ q = (t + 4) ∨ q = (t + 2)) ∨ J' q j = J q j) ∧ gc_LT I' ∧ gc_TK I' ∧ (∃ z : Int, r = some (.inl z) ∧ 0 ≤ z ∧ z ≤ 1 ∧ (I' 23 1 = I 23 1) ∧ (I 23 5 ≤ I' 23 5) ∧ (I' (t + 3) 1 ≤ 6 * I' (t + 1) 1))))) (48, [], [], sh, gc_h sh I9 J10 A) := by
    intro I9 J10 hI9 FI9 FJ10 KLT_I9 KTK_I9 m_11
    obtain ⟨e0_11, e1_11, e2_11, e3_11⟩ := m_11
    have t12 := gc_TK_mo KTK_I9
    have f13 := (show 0 ≤ I9 23 1 ∧ I9 23 1 ≤ 1000 from gc_in hI9 R_23 rfl rfl)
    have f14 := (show 0 ≤ I9 23 5 ∧ I9 23 5 ≤ 1000 from gc_in hI9 R_23 rfl rfl)
    have f15 := (show 0 ≤ I9 23 6 ∧ I9 23 6 ≤ 1001 from gc_in hI9 R_23 rfl rfl)
    have f16 := (show 0 ≤ I9 23 7 ∧ I9 23 7 ≤ 125 from gc_in hI9 R_23 rfl rfl)
    have f17 := (show 0 ≤ I9 (t + 3) 1 ∧ I9 (t + 3) 1 ≤ 48 from gc_in hI9 R_t_3 rfl rfl)
    have f18 := (show 0 ≤ I9 (t + 1) 1 ∧ I9 (t + 1) 1 ≤ 8 from gc_in hI9 R_t_1 rfl rfl)
    have f19 := (show (-1) ≤ I9 39 2 ∧ I9 39 2 ≤ 999999 from gc_in hI9 R_39 rfl rfl)
    refine gv_run 1 true hD (pc' := 49) (lv' := []) (st' := [.inl 0]) (h' := gc_h sh I9 J10 A) (C := (True ∧ True)) rfl ⟨trivial, trivial⟩ ?_
    exact gv_zret hD rfl (by omega) ⟨I9, J10, rfl, hI9, FI9, FJ10, KLT_I9, KTK_I9, ⟨_, rfl, by omega⟩⟩
  have L64 : ∀ (n9 : Nat) (I20 : gr_I) (J21 : gr_J) (v1_22 : Int64) (v3_22 : Int) (v4_22 : Int) (v5_22 : Int), (7 - v4_22).toNat < n9 → gc_Inv ro I20 → (∀ q j : Nat, ((q = 39 ∧ j = 3) ∨ (q = 39 ∧ j = 4) ∨ (q = 23 ∧ j = 5) ∨ (q = 23 ∧ j = 6) ∨ (q = 23 ∧ j = 7) ∨ (q = 23 ∧ j = 8) ∨ q = (t + 5) ∨ q = (t + 6) ∨ (q = (t + 3) ∧ j = 1) ∨ (q = (t + 1) ∧ j = 1)) ∨ I20 q j = I q j) → (∀ q j : Nat, ((q = 23 ∧ j = 9) ∨ q = 42 ∨ q = (t + 4) ∨ q = (t + 2)) ∨ J21 q j = J q j) → gc_LT I20 → gc_TK I20 → ((0 ≤ v3_22 ∧ v3_22 ≤ 1000) ∧ (0 ≤ v4_22 ∧ v4_22 ≤ 6) ∧ (0 ≤ v5_22 ∧ v5_22 ≤ 7) ∧ (I20 23 1 = I 23 1) ∧ (I 23 5 ≤ I20 23 5) ∧ (I20 (t + 3) 1 ≤ 6 * I20 (t + 1) 1) ∧ (I20 39 2 = (t : Int))) → gv_X (gc_E6 ws0 tb 4 (yX6_readFeature, cX6_readFeature, 7, (some .boolean)) kX6_readFeature) (gv_Q cX6_readFeature (some .boolean) sh (fun r h' => (∃ (I' : gr_I) (J' : gr_J), h' = gc_h sh I' J' A ∧ gc_Inv ro I' ∧ (∀ q j : Nat, ((q = 39 ∧ j = 3) ∨ (q = 39 ∧ j = 4) ∨ (q = 23 ∧ j = 5) ∨ (q = 23 ∧ j = 6) ∨ (q = 23 ∧ j = 7) ∨ (q = 23 ∧ j = 8) ∨ q = (t + 5) ∨ q = (t + 6) ∨ (q = (t + 3) ∧ j = 1) ∨ (q = (t + 1) ∧ j = 1)) ∨ I' q j = I q j) ∧ (∀ q j : Nat, ((q = 23 ∧ j = 9) ∨ q = 42 ∨ q = (t + 4) ∨ q = (t + 2)) ∨ J' q j = J q j) ∧ gc_LT I' ∧ gc_TK I' ∧ (∃ z : Int, r = some (.inl z) ∧ 0 ≤ z ∧ z ≤ 1 ∧ (I' 23 1 = I 23 1) ∧ (I 23 5 ≤ I' 23 5) ∧ (I' (t + 3) 1 ≤ 6 * I' (t + 1) 1))))) (64, [(0, .inr (.inr (some 39))), (1, .inr (.inl v1_22)), (3, .inl v3_22), (4, .inl v4_22), (5, .inl v5_22)], [], sh, gc_h sh I20 J21 A) := by
    intro n9
    induction n9 with
    | zero => intro I20 J21 v1_22 v3_22 v4_22 v5_22 hn; omega
    | succ n9 ih64 =>
      intro I20 J21 v1_22 v3_22 v4_22 v5_22 hn hI20 FI20 FJ21 KLT_I20 KTK_I20 m_22
      obtain ⟨hv3_22, hv4_22, hv5_22, e0_22, e1_22, e2_22, e3_22⟩ := m_22
      have t23 := gc_TK_mo KTK_I20
      have f24 := (show 0 ≤ I20 23 1 ∧ I20 23 1 ≤ 1000 from gc_in hI20 R_23 rfl rfl)
      have f25 := (show 0 ≤ I20 23 5 ∧ I20 23 5 ≤ 1000 from gc_in hI20 R_23 rfl rfl)
      have f26 := (show 0 ≤ I20 23 6 ∧ I20 23 6 ≤ 1001 from gc_in hI20 R_23 rfl rfl)
      have f27 := (show 0 ≤ I20 23 7 ∧ I20 23 7 ≤ 125 from gc_in hI20 R_23 rfl rfl)
      have f28 := (show 0 ≤ I20 (t + 3) 1 ∧ I20 (t + 3) 1 ≤ 48 from gc_in hI20 R_t_3 rfl rfl)
      have f29 := (show 0 ≤ I20 (t + 1) 1 ∧ I20 (t + 1) 1 ≤ 8 from gc_in hI20 R_t_1 rfl rfl)
      have f30 := (show (-1) ≤ I20 39 2 ∧ I20 39 2 ≤ 999999 from gc_in hI20 R_39 rfl rfl)
      have L121 : ∀ (n9 : Nat) (I31 : gr_I) (J32 : gr_J) (v6_33 : Int), (6 - v6_33).toNat < n9 → gc_Inv ro I31 → (∀ q j : Nat, ((q = 39 ∧ j = 3) ∨ (q = 39 ∧ j = 4) ∨ (q = 23 ∧ j = 5) ∨ (q = 23 ∧ j = 6) ∨ (q = 23 ∧ j = 7) ∨ (q = 23 ∧ j = 8) ∨ q = (t + 5) ∨ q = (t + 6) ∨ (q = (t + 3) ∧ j = 1) ∨ (q = (t + 1) ∧ j = 1)) ∨ I31 q j = I q j) → (∀ q j : Nat, ((q = 23 ∧ j = 9) ∨ q = 42 ∨ q = (t + 4) ∨ q = (t + 2)) ∨ J32 q j = J q j) → gc_LT I31 → gc_TK I31 → ((0 ≤ v3_22 ∧ v3_22 ≤ 1000) ∧ (0 ≤ v4_22 ∧ v4_22 ≤ 5) ∧ (0 ≤ v5_22 ∧ v5_22 ≤ 6) ∧ (0 ≤ v6_33 ∧ v6_33 ≤ 5) ∧ (v4_22 ≤ 5) ∧ (I31 23 7 = 1) ∧ (I31 23 1 = I 23 1) ∧ (I 23 5 ≤ I31 23 5) ∧ (I31 (t + 3) 1 ≤ 6 * I31 (t + 1) 1) ∧ (I31 39 2 = (t : Int))) → gv_X (gc_E6 ws0 tb 4 (yX6_readFeature, cX6_readFeature, 7, (some .boolean)) kX6_readFeature) (gv_Q cX6_readFeature (some .boolean) sh (fun r h' => (∃ (I' : gr_I) (J' : gr_J), h' = gc_h sh I' J' A ∧ gc_Inv ro I' ∧ (∀ q j : Nat, ((q = 39 ∧ j = 3) ∨ (q = 39 ∧ j = 4) ∨ (q = 23 ∧ j = 5) ∨ (q = 23 ∧ j = 6) ∨ (q = 23 ∧ j = 7) ∨ (q = 23 ∧ j = 8) ∨ q = (t + 5) ∨ q = (t + 6) ∨ (q = (t + 3) ∧ j = 1) ∨ (q = (t + 1) ∧ j = 1)) ∨ I' q j = I q j) ∧ (∀ q j : Nat, ((q = 23 ∧ j = 9) ∨ q = 42 ∨ q = (t + 4) ∨ q = (t + 2)) ∨ J' q j = J q j) ∧ gc_LT I' ∧ gc_TK I' ∧ (∃ z : Int, r = some (.inl z) ∧ 0 ≤ z ∧ z ≤ 1 ∧ (I' 23 1 = I 23 1) ∧ (I 23 5 ≤ I' 23 5) ∧ (I' (t + 3) 1 ≤ 6 * I' (t + 1) 1))))) (121, [(0, .inr (.inr (some 39))), (1, .inr (.inl v1_22)), (3, .inl v3_22), (4, .inl v4_22), (5, .inl v5_22), (6, .inl v6_33)], [], sh, gc_h sh I31 J32 A) := by
        intro n9
        induction n9 with
        | zero => intro I31 J32 v6_33 hn; omega
        | succ n9 ih121 =>
          intro I31 J32 v6_33 hn hI31 FI31 FJ32 KLT_I31 KTK_I31 m_33
          clear hv3_22 hv4_22 hv5_22 e0_22 e1_22 e2_22 e3_22 t23 f24 f25 f26 f27 f28 f29 f30
          obtain ⟨hv3_22_33, hv4_22_33, hv5_22_33, hv6_33, e0_33, e1_33, e2_33, e3_33, e4_33, e5_33⟩ := m_33
          have t34 := gc_TK_mo KTK_I31
          have f35 := (show 0 ≤ I31 23 1 ∧ I31 23 1 ≤ 1000 from gc_in hI31 R_23 rfl rfl)
          have f36 := (show 0 ≤ I31 23 5 ∧ I31 23 5 ≤ 1000 from gc_in hI31 R_23 rfl rfl)
          have f37 := (show 0 ≤ I31 23 6 ∧ I31 23 6 ≤ 1001 from gc_in hI31 R_23 rfl rfl)
          have f38 := (show 0 ≤ I31 23 7 ∧ I31 23 7 ≤ 125 from gc_in hI31 R_23 rfl rfl)
          have f39 := (show 0 ≤ I31 (t + 3) 1 ∧ I31 (t + 3) 1 ≤ 48 from gc_in hI31 R_t_3 rfl rfl)
          have f40 := (show 0 ≤ I31 (t + 1) 1 ∧ I31 (t + 1) 1 ≤ 8 from gc_in hI31 R_t_1 rfl rfl)
          have f41 := (show (-1) ≤ I31 39 2 ∧ I31 39 2 ≤ 999999 from gc_in hI31 R_39 rfl rfl)
          refine gv_run 2 true hD (pc' := 125) (lv' := [(0, .inr (.inr (some 39))), (1, .inr (.inl v1_22)), (3, .inl v3_22), (4, .inl v4_22), (5, .inl v5_22), (6, .inl v6_33)]) (st' := [.inl v4_22, .inl v6_33]) (h' := gc_h sh I31 J32 A) (C := ((True ∧ True) ∧ True)) rfl ⟨⟨trivial, trivial⟩, trivial⟩ ?_
          refine gv_icmp_ge (t := 165) hD rfl rfl ⟨⟨by omega, by omega⟩, ⟨by omega, by omega⟩⟩ (fun c42 => ?_) (fun c42 => ?_)
          · show gv_X _ _ (165, [(0, .inr (.inr (some 39))), (1, .inr (.inl v1_22)), (3, .inl v3_22), (4, .inl v4_22), (5, .inl v5_22), (6, .inl v6_33)], [], sh, gc_h sh I31 J32 A)
            refine gv_run 1 true hD (pc' := 166) (lv' := [(0, .inr (.inr (some 39))), (1, .inr (.inl v1_22)), (3, .inl v3_22), (4, .inl v4_22), (5, .inl v5_22), (6, .inl v6_33)]) (st' := [.inr (.inr (some 39))]) (h' := gc_h sh I31 J32 A) (C := (True ∧ True)) rfl ⟨trivial, trivial⟩ ?_
            refine gv_get hD rfl rfl S_39 ⟨by decide, B_39⟩ (gc_hA S_39 rfl A_39_11) ?_
            show gv_X _ _ (169, [(0, .inr (.inr (some 39))), (1, .inr (.inl v1_22)), (3, .inl v3_22), (4, .inl v4_22), (5, .inl v5_22), (6, .inl v6_33)], [.inr (.inr (some 42))], sh, gc_h sh I31 J32 A)
            refine gv_run 3 true hD (pc' := 175) (lv' := [(4, .inl (v4_22 + 1)), (0, .inr (.inr (some 39))), (1, .inr (.inl v1_22)), (3, .inl v3_22), (5, .inl v5_22), (6, .inl v6_33)]) (st' := [.inr (.inr (some 39)), .inl v4_22, .inr (.inr (some 42))]) (h' := gc_h sh I31 J32 A) (C := (((True ∧ True) ∧ True) ∧ True)) rfl ⟨⟨⟨trivial, trivial⟩, trivial⟩, trivial⟩ ?_
            refine gv_get hD rfl rfl S_39 ⟨by decide, B_39⟩ (gc_hA S_39 rfl A_39_1) ?_
            show gv_X _ _ (178, [(4, .inl (v4_22 + 1)), (0, .inr (.inr (some 39))), (1, .inr (.inl v1_22)), (3, .inl v3_22), (5, .inl v5_22), (6, .inl v6_33)], [.inr (.inr (some 23)), .inl v4_22, .inr (.inr (some 42))], sh, gc_h sh I31 J32 A)
            refine gv_get hD rfl rfl S_23 ⟨by decide, B_23⟩ (gc_hJ S_23 rfl) ?_
            show gv_X _ _ (181, [(4, .inl (v4_22 + 1)), (0, .inr (.inr (some 39))), (1, .inr (.inl v1_22)), (3, .inl v3_22), (5, .inl v5_22), (6, .inl v6_33)], [.inr (.inl (J32 23 9)), .inl v4_22, .inr (.inr (some 42))], sh, gc_h sh I31 J32 A)
            refine gv_last hD rfl S_42 ⟨by decide, B_42⟩ ⟨by omega, by omega⟩ ?_
            refine gc_stJ S_42 rfl (fun J43 q44 p44 => ?_)
            have FJ43 := gc_frs (W := fun q j => (q = 23 ∧ j = 9) ∨ q = 42 ∨ q = (t + 4) ∨ q = (t + 2)) FJ32 (Or.inr (Or.inl rfl)) p44
            show gv_X _ _ (182, [(4, .inl (v4_22 + 1)), (0, .inr (.inr (some 39))), (1, .inr (.inl v1_22)), (3, .inl v3_22), (5, .inl v5_22), (6, .inl v6_33)], [], sh, gc_h sh I31 J43 A)
            refine gv_run 1 true hD (pc' := 183) (lv' := [(4, .inl (v4_22 + 1)), (0, .inr (.inr (some 39))), (1, .inr (.inl v1_22)), (3, .inl v3_22), (5, .inl v5_22), (6, .inl v6_33)]) (st' := [.inr (.inr (some 39))]) (h' := gc_h sh I31 J43 A) (C := (True ∧ True)) rfl ⟨trivial, trivial⟩ ?_
            refine gv_get hD rfl rfl S_39 ⟨by decide, B_39⟩ (gc_hA S_39 rfl A_39_1) ?_
            show gv_X _ _ (186, [(4, .inl (v4_22 + 1)), (0, .inr (.inr (some 39))), (1, .inr (.inl v1_22)), (3, .inl v3_22), (5, .inl v5_22), (6, .inl v6_33)], [.inr (.inr (some 23))], sh, gc_h sh I31 J43 A)
            have t46 := gc_TK_nx KTK_I31 (by omega)
            obtain ⟨r45, h45, E45, P45⟩ := d_X9_advance (ws0 := ws0) (tb := tb) hws htb sh ro I31 J43 A hI31 23  (gc_b23 hb)    (by omega) 
            obtain ⟨I47, J48, rfl, hI47, g45, k45, ⟨rfl, V45_0, V45_1, V45_2, V45_3, V45_4, q45⟩⟩ := P45
            have FI47 := gc_frc (W := fun q j => (q = 39 ∧ j = 3) ∨ (q = 39 ∧ j = 4) ∨ (q = 23 ∧ j = 5) ∨ (q = 23 ∧ j = 6) ∨ (q = 23 ∧ j = 7) ∨ (q = 23 ∧ j = 8) ∨ q = (t + 5) ∨ q = (t + 6) ∨ (q = (t + 3) ∧ j = 1) ∨ (q = (t + 1) ∧ j = 1)) (V := fun q j => (q = 23 ∧ j = 5) ∨ (q = 23 ∧ j = 6) ∨ (q = 23 ∧ j = 7) ∨ (q = 23 ∧ j = 8)) FI31 (fun q j h => (h.elim (fun h => (Or.inr (Or.inr (Or.inl h)))) (fun h => (h.elim (fun h => (Or.inr (Or.inr (Or.inr (Or.inl h))))) (fun h => (h.elim (fun h => (Or.inr (Or.inr (Or.inr (Or.inr (Or.inl h)))))) (fun h => (Or.inr (Or.inr (Or.inr (Or.inr (Or.inr (Or.inl h))))))))))))) g45
            have FJ48 := gc_frc (W := fun q j => (q = 23 ∧ j = 9) ∨ q = 42 ∨ q = (t + 4) ∨ q = (t + 2)) (V := fun q j => (q = 23 ∧ j = 9)) FJ43 (fun q j h => (Or.inl h)) k45
            have t49 := (g45 23 1).resolve_left (fun h => h.elim (fun h => absurd h.2 (by decide)) (fun h => h.elim (fun h => absurd h.2 (by decide)) (fun h => h.elim (fun h => absurd h.2 (by decide)) (fun h => absurd h.2 (by decide)))))
            have t50 := (g45 (t + 3) 1).resolve_left (fun h => h.elim (fun h => absurd h.2 (by decide)) (fun h => h.elim (fun h => absurd h.2 (by decide)) (fun h => h.elim (fun h => absurd h.2 (by decide)) (fun h => absurd h.2 (by decide)))))
            have t51 := (g45 (t + 1) 1).resolve_left (fun h => h.elim (fun h => absurd h.2 (by decide)) (fun h => h.elim (fun h => absurd h.2 (by decide)) (fun h => h.elim (fun h => absurd h.2 (by decide)) (fun h => absurd h.2 (by decide)))))
            have t52 := (g45 39 2).resolve_left (fun h => h.elim (fun h => absurd h.2 (by decide)) (fun h => h.elim (fun h => absurd h.2 (by decide)) (fun h => h.elim (fun h => absurd h.2 (by decide)) (fun h => absurd h.2 (by decide)))))
            have f53 := (show 0 ≤ I47 23 5 ∧ I47 23 5 ≤ 1000 from gc_in hI47 R_23 rfl rfl)
            have f54 := (show 0 ≤ I47 23 6 ∧ I47 23 6 ≤ 1001 from gc_in hI47 R_23 rfl rfl)
            have f55 := (show 0 ≤ I47 23 7 ∧ I47 23 7 ≤ 125 from gc_in hI47 R_23 rfl rfl)
            have KLT_I47 : gc_LT I47 := q45.2.2
            have KTK_I47 : gc_TK I47 := And.intro V45_0 (And.intro V45_1 (And.intro V45_2 (And.intro V45_3 V45_4)))
            have t56 := gc_TK_mo KTK_I47
            clear V45_0 V45_1 V45_2 V45_3 V45_4
            refine gv_callV hD rfl (As := []) (st := []) rfl B_23 S_23 rfl (gc_lV6 hws rfl) (Nat.le_of_ble_eq_true rfl) (gz_Ev_mono (d := 2) (by decide) E45) ?_
            show gv_X _ _ (189, [(4, .inl (v4_22 + 1)), (0, .inr (.inr (some 39))), (1, .inr (.inl v1_22)), (3, .inl v3_22), (5, .inl v5_22), (6, .inl v6_33)], [], sh, gc_h sh I47 J48 A)
            refine gv_run 2 true hD (pc' := 64) (lv' := [(5, .inl (v5_22 + 1)), (4, .inl (v4_22 + 1)), (0, .inr (.inr (some 39))), (1, .inr (.inl v1_22)), (3, .inl v3_22), (6, .inl v6_33)]) (st' := []) (h' := gc_h sh I47 J48 A) (C := ((True ∧ True) ∧ True)) rfl ⟨⟨trivial, trivial⟩, trivial⟩ ?_
            refine gv_pick [2, 3, 4, 1, 0] rfl ?_
            exact ih64 I47 J48 v1_22 v3_22 (v4_22 + 1) (v5_22 + 1) (by omega) hI47 FI47 FJ48 KLT_I47 KTK_I47 (by omega)
          · show gv_X _ _ (128, [(0, .inr (.inr (some 39))), (1, .inr (.inl v1_22)), (3, .inl v3_22), (4, .inl v4_22), (5, .inl v5_22), (6, .inl v6_33)], [], sh, gc_h sh I31 J32 A)
            refine gv_run 1 true hD (pc' := 129) (lv' := [(0, .inr (.inr (some 39))), (1, .inr (.inl v1_22)), (3, .inl v3_22), (4, .inl v4_22), (5, .inl v5_22), (6, .inl v6_33)]) (st' := [.inr (.inr (some 39))]) (h' := gc_h sh I31 J32 A) (C := (True ∧ True)) rfl ⟨trivial, trivial⟩ ?_
            refine gv_get hD rfl rfl S_39 ⟨by decide, B_39⟩ (gc_hA S_39 rfl A_39_11) ?_
            show gv_X _ _ (132, [(0, .inr (.inr (some 39))), (1, .inr (.inl v1_22)), (3, .inl v3_22), (4, .inl v4_22), (5, .inl v5_22), (6, .inl v6_33)], [.inr (.inr (some 42))], sh, gc_h sh I31 J32 A)
            refine gv_run 1 true hD (pc' := 134) (lv' := [(0, .inr (.inr (some 39))), (1, .inr (.inl v1_22)), (3, .inl v3_22), (4, .inl v4_22), (5, .inl v5_22), (6, .inl v6_33)]) (st' := [.inl v6_33, .inr (.inr (some 42))]) (h' := gc_h sh I31 J32 A) (C := (True ∧ True)) rfl ⟨trivial, trivial⟩ ?_
            refine gv_lald hD rfl S_42 rfl ⟨by decide, B_42⟩ ⟨by omega, by omega⟩ (gc_jJ S_42 rfl) ?_
            show gv_X _ _ (135, [(0, .inr (.inr (some 39))), (1, .inr (.inl v1_22)), (3, .inl v3_22), (4, .inl v4_22), (5, .inl v5_22), (6, .inl v6_33)], [.inr (.inl (J32 42 (Int.toNat v6_33)))], sh, gc_h sh I31 J32 A)
            refine gv_run 1 true hD (pc' := 136) (lv' := [(0, .inr (.inr (some 39))), (1, .inr (.inl v1_22)), (3, .inl v3_22), (4, .inl v4_22), (5, .inl v5_22), (6, .inl v6_33)]) (st' := [.inr (.inr (some 39)), .inr (.inl (J32 42 (Int.toNat v6_33)))]) (h' := gc_h sh I31 J32 A) (C := (True ∧ True)) rfl ⟨trivial, trivial⟩ ?_
            refine gv_get hD rfl rfl S_39 ⟨by decide, B_39⟩ (gc_hA S_39 rfl A_39_1) ?_
            show gv_X _ _ (139, [(0, .inr (.inr (some 39))), (1, .inr (.inl v1_22)), (3, .inl v3_22), (4, .inl v4_22), (5, .inl v5_22), (6, .inl v6_33)], [.inr (.inr (some 23)), .inr (.inl (J32 42 (Int.toNat v6_33)))], sh, gc_h sh I31 J32 A)
            refine gv_get hD rfl rfl S_23 ⟨by decide, B_23⟩ (gc_hJ S_23 rfl) ?_
            show gv_X _ _ (142, [(0, .inr (.inr (some 39))), (1, .inr (.inl v1_22)), (3, .inl v3_22), (4, .inl v4_22), (5, .inl v5_22), (6, .inl v6_33)], [.inr (.inl (J32 23 9)), .inr (.inl (J32 42 (Int.toNat v6_33)))], sh, gc_h sh I31 J32 A)
            have f57 := gw_cmp ((J32 42 (Int.toNat v6_33))) ((J32 23 9))
            refine gv_run 1 true hD (pc' := 143) (lv' := [(0, .inr (.inr (some 39))), (1, .inr (.inl v1_22)), (3, .inl v3_22), (4, .inl v4_22), (5, .inl v5_22), (6, .inl v6_33)]) (st' := [.inl ((lg_cmp ((J32 42 (Int.toNat v6_33))) ((J32 23 9))).toInt)]) (h' := gc_h sh I31 J32 A) (C := (True ∧ True)) rfl ⟨trivial, trivial⟩ ?_
            refine gv_if_ne (t := 159) hD rfl rfl ⟨by omega, by omega⟩ (fun c58 => ?_) (fun c58 => ?_)
            · show gv_X _ _ (159, [(0, .inr (.inr (some 39))), (1, .inr (.inl v1_22)), (3, .inl v3_22), (4, .inl v4_22), (5, .inl v5_22), (6, .inl v6_33)], [], sh, gc_h sh I31 J32 A)
              refine gv_run 2 true hD (pc' := 121) (lv' := [(6, .inl (v6_33 + 1)), (0, .inr (.inr (some 39))), (1, .inr (.inl v1_22)), (3, .inl v3_22), (4, .inl v4_22), (5, .inl v5_22)]) (st' := []) (h' := gc_h sh I31 J32 A) (C := ((True ∧ True) ∧ True)) rfl ⟨⟨trivial, trivial⟩, trivial⟩ ?_
              refine gv_pick [1, 2, 3, 4, 5, 0] rfl ?_
              exact ih121 I31 J32 (v6_33 + 1) (by omega) hI31 FI31 FJ32 KLT_I31 KTK_I31 (by omega)
            · show gv_X _ _ (146, [(0, .inr (.inr (some 39))), (1, .inr (.inl v1_22)), (3, .inl v3_22), (4, .inl v4_22), (5, .inl v5_22), (6, .inl v6_33)], [], sh, gc_h sh I31 J32 A)
              refine gv_run 3 true hD (pc' := 149) (lv' := [(0, .inr (.inr (some 39))), (1, .inr (.inl v1_22)), (3, .inl v3_22), (4, .inl v4_22), (5, .inl v5_22), (6, .inl v6_33)]) (st' := [.inr (.inr (some 39)), .inl 4, .inr (.inr (some 39))]) (h' := gc_h sh I31 J32 A) (C := (((True ∧ True) ∧ True) ∧ True)) rfl ⟨⟨⟨trivial, trivial⟩, trivial⟩, trivial⟩ ?_
              refine gv_get hD rfl rfl S_39 ⟨by decide, B_39⟩ (gc_hA S_39 rfl A_39_1) ?_
              show gv_X _ _ (152, [(0, .inr (.inr (some 39))), (1, .inr (.inl v1_22)), (3, .inl v3_22), (4, .inl v4_22), (5, .inl v5_22), (6, .inl v6_33)], [.inr (.inr (some 23)), .inl 4, .inr (.inr (some 39))], sh, gc_h sh I31 J32 A)
              have f59 := (show 0 ≤ I31 23 5 ∧ I31 23 5 ≤ 1000 from gc_in hI31 R_23 rfl rfl)
              refine gv_get hD rfl rfl S_23 ⟨by decide, B_23⟩ (gc_hI S_23 rfl) ?_
              show gv_X _ _ (155, [(0, .inr (.inr (some 39))), (1, .inr (.inl v1_22)), (3, .inl v3_22), (4, .inl v4_22), (5, .inl v5_22), (6, .inl v6_33)], [.inl (I31 23 5), .inl 4, .inr (.inr (some 39))], sh, gc_h sh I31 J32 A)
              obtain ⟨r60, h60, E60, P60⟩ := d_X6_wrong (ws0 := ws0) (tb := tb) hws htb sh ro I31 J32 A hI31  4 (I31 23 5) hb   ⟨by omega, by omega⟩ ⟨by omega, by omega⟩  
              obtain ⟨I61, J62, rfl, hI61, g60, k60, ⟨z60, rfl, q60⟩⟩ := P60
              have FI61 := gc_frc (W := fun q j => (q = 39 ∧ j = 3) ∨ (q = 39 ∧ j = 4) ∨ (q = 23 ∧ j = 5) ∨ (q = 23 ∧ j = 6) ∨ (q = 23 ∧ j = 7) ∨ (q = 23 ∧ j = 8) ∨ q = (t + 5) ∨ q = (t + 6) ∨ (q = (t + 3) ∧ j = 1) ∨ (q = (t + 1) ∧ j = 1)) (V := fun q j => (q = 39 ∧ j = 3) ∨ (q = 39 ∧ j = 4)) FI31 (fun q j h => (h.elim (fun h => (Or.inl h)) (fun h => (Or.inr (Or.inl h))))) g60
              have t63 := (g60 23 1).resolve_left (fun h => h.elim (fun h => absurd h.2 (by decide)) (fun h => absurd h.2 (by decide)))
              have t64 := (g60 23 5).resolve_left (fun h => h.elim (fun h => absurd h.2 (by decide)) (fun h => absurd h.2 (by decide)))
              have t65 := (g60 23 6).resolve_left (fun h => h.elim (fun h => absurd h.2 (by decide)) (fun h => absurd h.2 (by decide)))
              have t66 := (g60 23 7).resolve_left (fun h => h.elim (fun h => absurd h.2 (by decide)) (fun h => absurd h.2 (by decide)))
              have t67 := (g60 (t + 3) 1).resolve_left (fun h => h.elim (fun h => absurd h.2 (by decide)) (fun h => absurd h.2 (by decide)))
              have t68 := (g60 (t + 1) 1).resolve_left (fun h => h.elim (fun h => absurd h.2 (by decide)) (fun h => absurd h.2 (by decide)))
              have t69 := (g60 39 2).resolve_left (fun h => h.elim (fun h => absurd h.2 (by decide)) (fun h => absurd h.2 (by decide)))
              obtain rfl : J32 = J62 := funext fun q => funext fun j => ((k60 q j).resolve_left id).symm
              have KLT_I61 := gc_LT_fr KLT_I31 ((g60 23 5).resolve_left (fun h => h.elim (fun h => absurd h.2 (by decide)) (fun h => absurd h.2 (by decide)))) ((g60 23 6).resolve_left (fun h => h.elim (fun h => absurd h.2 (by decide)) (fun h => absurd h.2 (by decide)))) ((g60 23 7).resolve_left (fun h => h.elim (fun h => absurd h.2 (by decide)) (fun h => absurd h.2 (by decide)))) (fun k => (g60 24 k).resolve_left (fun h => h.elim (fun h => absurd h.1 (by decide)) (fun h => absurd h.1 (by decide))))
              have KTK_I61 := gc_TK_fr KTK_I31 ((g60 23 1).resolve_left (fun h => h.elim (fun h => absurd h.2 (by decide)) (fun h => absurd h.2 (by decide)))) ((g60 23 5).resolve_left (fun h => h.elim (fun h => absurd h.2 (by decide)) (fun h => absurd h.2 (by decide)))) ((g60 23 6).resolve_left (fun h => h.elim (fun h => absurd h.2 (by decide)) (fun h => absurd h.2 (by decide)))) ((g60 23 7).resolve_left (fun h => h.elim (fun h => absurd h.2 (by decide)) (fun h => absurd h.2 (by decide))))
              refine gv_callV hD rfl (As := [.inl 4, .inl (I31 23 5)]) (st := []) rfl B_39 S_39 rfl (gc_lV6 hws rfl) (Nat.le_of_ble_eq_true rfl) (gz_Ev_mono (d := 1) (by decide) E60) ?_
              show gv_X _ _ (158, [(0, .inr (.inr (some 39))), (1, .inr (.inl v1_22)), (3, .inl v3_22), (4, .inl v4_22), (5, .inl v5_22), (6, .inl v6_33)], [.inl z60], sh, gc_h sh I61 J32 A)
              exact gv_zret hD rfl (by omega) ⟨I61, J32, rfl, hI61, FI61, FJ32, KLT_I61, KTK_I61, ⟨_, rfl, by omega⟩⟩
      have L195 : ((0 ≤ v3_22 ∧ v3_22 ≤ 1000) ∧ (0 ≤ v4_22 ∧ v4_22 ≤ 6) ∧ (I20 23 1 = I 23 1) ∧ (I 23 5 ≤ I20 23 5) ∧ (I20 (t + 3) 1 ≤ 6 * I20 (t + 1) 1) ∧ (I20 39 2 = (t : Int))) → gv_X (gc_E6 ws0 tb 4 (yX6_readFeature, cX6_readFeature, 7, (some .boolean)) kX6_readFeature) (gv_Q cX6_readFeature (some .boolean) sh (fun r h' => (∃ (I' : gr_I) (J' : gr_J), h' = gc_h sh I' J' A ∧ gc_Inv ro I' ∧ (∀ q j : Nat, ((q = 39 ∧ j = 3) ∨ (q = 39 ∧ j = 4) ∨ (q = 23 ∧ j = 5) ∨ (q = 23 ∧ j = 6) ∨ (q = 23 ∧ j = 7) ∨ (q = 23 ∧ j = 8) ∨ q = (t + 5) ∨ q = (t + 6) ∨ (q = (t + 3) ∧ j = 1) ∨ (q = (t + 1) ∧ j = 1)) ∨ I' q j = I q j) ∧ (∀ q j : Nat, ((q = 23 ∧ j = 9) ∨ q = 42 ∨ q = (t + 4) ∨ q = (t + 2)) ∨ J' q j = J q j) ∧ gc_LT I' ∧ gc_TK I' ∧ (∃ z : Int, r = some (.inl z) ∧ 0 ≤ z ∧ z ≤ 1 ∧ (I' 23 1 = I 23 1) ∧ (I 23 5 ≤ I' 23 5) ∧ (I' (t + 3) 1 ≤ 6 * I' (t + 1) 1))))) (195, [(0, .inr (.inr (some 39))), (1, .inr (.inl v1_22)), (3, .inl v3_22), (4, .inl v4_22)], [], sh, gc_h sh I20 J21 A) := by
        intro m_70
        obtain ⟨hv3_22_70, hv4_22_70, e0_70, e1_70, e2_70, e3_70⟩ := m_70
        have t71 := gc_TK_mo KTK_I20
        have f72 := (show 0 ≤ I20 23 1 ∧ I20 23 1 ≤ 1000 from gc_in hI20 R_23 rfl rfl)
        have f73 := (show 0 ≤ I20 23 5 ∧ I20 23 5 ≤ 1000 from gc_in hI20 R_23 rfl rfl)
        have f74 := (show 0 ≤ I20 23 6 ∧ I20 23 6 ≤ 1001 from gc_in hI20 R_23 rfl rfl)
        have f75 := (show 0 ≤ I20 23 7 ∧ I20 23 7 ≤ 125 from gc_in hI20 R_23 rfl rfl)
        have f76 := (show 0 ≤ I20 (t + 3) 1 ∧ I20 (t + 3) 1 ≤ 48 from gc_in hI20 R_t_3 rfl rfl)
        have f77 := (show 0 ≤ I20 (t + 1) 1 ∧ I20 (t + 1) 1 ≤ 8 from gc_in hI20 R_t_1 rfl rfl)
        have f78 := (show (-1) ≤ I20 39 2 ∧ I20 39 2 ≤ 999999 from gc_in hI20 R_39 rfl rfl)
        have L220 : ((0 ≤ v4_22 ∧ v4_22 ≤ 6) ∧ (I20 23 1 = I 23 1) ∧ (I 23 5 ≤ I20 23 5) ∧ (I20 (t + 3) 1 ≤ 6 * I20 (t + 1) 1) ∧ (I20 39 2 = (t : Int))) → gv_X (gc_E6 ws0 tb 4 (yX6_readFeature, cX6_readFeature, 7, (some .boolean)) kX6_readFeature) (gv_Q cX6_readFeature (some .boolean) sh (fun r h' => (∃ (I' : gr_I) (J' : gr_J), h' = gc_h sh I' J' A ∧ gc_Inv ro I' ∧ (∀ q j : Nat, ((q = 39 ∧ j = 3) ∨ (q = 39 ∧ j = 4) ∨ (q = 23 ∧ j = 5) ∨ (q = 23 ∧ j = 6) ∨ (q = 23 ∧ j = 7) ∨ (q = 23 ∧ j = 8) ∨ q = (t + 5) ∨ q = (t + 6) ∨ (q = (t + 3) ∧ j = 1) ∨ (q = (t + 1) ∧ j = 1)) ∨ I' q j = I q j) ∧ (∀ q j : Nat, ((q = 23 ∧ j = 9) ∨ q = 42 ∨ q = (t + 4) ∨ q = (t + 2)) ∨ J' q j = J q j) ∧ gc_LT I' ∧ gc_TK I' ∧ (∃ z : Int, r = some (.inl z) ∧ 0 ≤ z ∧ z ≤ 1 ∧ (I' 23 1 = I 23 1) ∧ (I 23 5 ≤ I' 23 5) ∧ (I' (t + 3) 1 ≤ 6 * I' (t + 1) 1))))) (220, [(0, .inr (.inr (some 39))), (1, .inr (.inl v1_22)), (4, .inl v4_22)], [], sh, gc_h sh I20 J21 A) := by
          intro m_79
          obtain ⟨hv4_22_79, e0_79, e1_79, e2_79, e3_79⟩ := m_79
          have t80 := gc_TK_mo KTK_I20
          have f81 := (show 0 ≤ I20 23 1 ∧ I20 23 1 ≤ 1000 from gc_in hI20 R_23 rfl rfl)
          have f82 := (show 0 ≤ I20 23 5 ∧ I20 23 5 ≤ 1000 from gc_in hI20 R_23 rfl rfl)
          have f83 := (show 0 ≤ I20 23 6 ∧ I20 23 6 ≤ 1001 from gc_in hI20 R_23 rfl rfl)
          have f84 := (show 0 ≤ I20 23 7 ∧ I20 23 7 ≤ 125 from gc_in hI20 R_23 rfl rfl)
          have f85 := (show 0 ≤ I20 (t + 3) 1 ∧ I20 (t + 3) 1 ≤ 48 from gc_in hI20 R_t_3 rfl rfl)
          have f86 := (show 0 ≤ I20 (t + 1) 1 ∧ I20 (t + 1) 1 ≤ 8 from gc_in hI20 R_t_1 rfl rfl)
          have f87 := (show (-1) ≤ I20 39 2 ∧ I20 39 2 ≤ 999999 from gc_in hI20 R_39 rfl rfl)
          have L242 : ∀ (n9 : Nat) (I88 : gr_I) (J89 : gr_J) (v5_90 : Int), (7 - v5_90).toNat < n9 → gc_Inv ro I88 → (∀ q j : Nat, ((q = 39 ∧ j = 3) ∨ (q = 39 ∧ j = 4) ∨ (q = 23 ∧ j = 5) ∨ (q = 23 ∧ j = 6) ∨ (q = 23 ∧ j = 7) ∨ (q = 23 ∧ j = 8) ∨ q = (t + 5) ∨ q = (t + 6) ∨ (q = (t + 3) ∧ j = 1) ∨ (q = (t + 1) ∧ j = 1)) ∨ I88 q j = I q j) → (∀ q j : Nat, ((q = 23 ∧ j = 9) ∨ q = 42 ∨ q = (t + 4) ∨ q = (t + 2)) ∨ J89 q j = J q j) → gc_LT I88 → gc_TK I88 → ((0 ≤ v4_22 ∧ v4_22 ≤ 6) ∧ (0 ≤ v5_90 ∧ v5_90 ≤ 6) ∧ (I88 (t + 3) 1 ≤ 6 * I88 (t + 1) 1 + v5_90) ∧ (I88 (t + 1) 1 < 8) ∧ (I88 23 1 = I 23 1) ∧ (I 23 5 ≤ I88 23 5) ∧ (I88 39 2 = (t : Int))) → gv_X (gc_E6 ws0 tb 4 (yX6_readFeature, cX6_readFeature, 7, (some .boolean)) kX6_readFeature) (gv_Q cX6_readFeature (some .boolean) sh (fun r h' => (∃ (I' : gr_I) (J' : gr_J), h' = gc_h sh I' J' A ∧ gc_Inv ro I' ∧ (∀ q j : Nat, ((q = 39 ∧ j = 3) ∨ (q = 39 ∧ j = 4) ∨ (q = 23 ∧ j = 5) ∨ (q = 23 ∧ j = 6) ∨ (q = 23 ∧ j = 7) ∨ (q = 23 ∧ j = 8) ∨ q = (t + 5) ∨ q = (t + 6) ∨ (q = (t + 3) ∧ j = 1) ∨ (q = (t + 1) ∧ j = 1)) ∨ I' q j = I q j) ∧ (∀ q j : Nat, ((q = 23 ∧ j = 9) ∨ q = 42 ∨ q = (t + 4) ∨ q = (t + 2)) ∨ J' q j = J q j) ∧ gc_LT I' ∧ gc_TK I' ∧ (∃ z : Int, r = some (.inl z) ∧ 0 ≤ z ∧ z ≤ 1 ∧ (I' 23 1 = I 23 1) ∧ (I 23 5 ≤ I' 23 5) ∧ (I' (t + 3) 1 ≤ 6 * I' (t + 1) 1))))) (242, [(0, .inr (.inr (some 39))), (1, .inr (.inl v1_22)), (4, .inl v4_22), (5, .inl v5_90)], [], sh, gc_h sh I88 J89 A) := by
            intro n9
            induction n9 with
            | zero => intro I88 J89 v5_90 hn; omega
            | succ n9 ih242 =>
              intro I88 J89 v5_90 hn hI88 FI88 FJ89 KLT_I88 KTK_I88 m_90
              clear hv4_22_79 e0_79 e1_79 e2_79 e3_79 t80 f81 f82 f83 f84 f85 f86 f87 hv3_22_70 hv4_22_70 e0_70 e1_70 e2_70 e3_70 t71 f72 f73 f74 f75 f76 f77 f78 hv3_22 hv4_22 hv5_22 e0_22 e1_22 e2_22 e3_22 t23 f24 f25 f26 f27 f28 f29 f30
              obtain ⟨hv4_22_90, hv5_90, e0_90, e1_90, e2_90, e3_90, e4_90⟩ := m_90
              have t91 := gc_TK_mo KTK_I88
              have f92 := (show 0 ≤ I88 23 1 ∧ I88 23 1 ≤ 1000 from gc_in hI88 R_23 rfl rfl)
              have f93 := (show 0 ≤ I88 23 5 ∧ I88 23 5 ≤ 1000 from gc_in hI88 R_23 rfl rfl)
              have f94 := (show 0 ≤ I88 23 6 ∧ I88 23 6 ≤ 1001 from gc_in hI88 R_23 rfl rfl)
              have f95 := (show 0 ≤ I88 23 7 ∧ I88 23 7 ≤ 125 from gc_in hI88 R_23 rfl rfl)
              have f96 := (show 0 ≤ I88 (t + 3) 1 ∧ I88 (t + 3) 1 ≤ 48 from gc_in hI88 R_t_3 rfl rfl)
              have f97 := (show 0 ≤ I88 (t + 1) 1 ∧ I88 (t + 1) 1 ≤ 8 from gc_in hI88 R_t_1 rfl rfl)
              have f98 := (show (-1) ≤ I88 39 2 ∧ I88 39 2 ≤ 999999 from gc_in hI88 R_39 rfl rfl)
              refine gv_run 2 true hD (pc' := 246) (lv' := [(0, .inr (.inr (some 39))), (1, .inr (.inl v1_22)), (4, .inl v4_22), (5, .inl v5_90)]) (st' := [.inl v4_22, .inl v5_90]) (h' := gc_h sh I88 J89 A) (C := ((True ∧ True) ∧ True)) rfl ⟨⟨trivial, trivial⟩, trivial⟩ ?_
              refine gv_icmp_ge (t := 322) hD rfl rfl ⟨⟨by omega, by omega⟩, ⟨by omega, by omega⟩⟩ (fun c99 => ?_) (fun c99 => ?_)
              · show gv_X _ _ (322, [(0, .inr (.inr (some 39))), (1, .inr (.inl v1_22)), (4, .inl v4_22), (5, .inl v5_90)], [], sh, gc_h sh I88 J89 A)
                refine gv_run 1 true hD (pc' := 323) (lv' := [(0, .inr (.inr (some 39))), (1, .inr (.inl v1_22)), (4, .inl v4_22), (5, .inl v5_90)]) (st' := [.inr (.inr (some 39))]) (h' := gc_h sh I88 J89 A) (C := (True ∧ True)) rfl ⟨trivial, trivial⟩ ?_
                refine gv_get hD rfl rfl S_39 ⟨by decide, B_39⟩ (gc_h5 (t := t) S_39 rfl (by omega)) ?_
                show gv_X _ _ (326, [(0, .inr (.inr (some 39))), (1, .inr (.inl v1_22)), (4, .inl v4_22), (5, .inl v5_90)], [.inr (.inr (some t))], sh, gc_h sh I88 J89 A)
                refine gv_get hD rfl rfl S_t ⟨by decide, B_t⟩ (gc_hA S_t rfl A_t_0) ?_
                show gv_X _ _ (329, [(0, .inr (.inr (some 39))), (1, .inr (.inl v1_22)), (4, .inl v4_22), (5, .inl v5_90)], [.inr (.inr (some (t + 1)))], sh, gc_h sh I88 J89 A)
                refine gv_run 1 true hD (pc' := 330) (lv' := [(0, .inr (.inr (some 39))), (1, .inr (.inl v1_22)), (4, .inl v4_22), (5, .inl v5_90)]) (st' := [.inr (.inl v1_22), .inr (.inr (some (t + 1)))]) (h' := gc_h sh I88 J89 A) (C := (True ∧ True)) rfl ⟨trivial, trivial⟩ ?_
                obtain ⟨r100, h100, E100, P100⟩ := d_X4_put (ws0 := ws0) (tb := tb) hws htb sh ro I88 J89 A hI88 (t + 1) 8 6 v1_22 h_t_1     
                obtain ⟨I101, J102, rfl, hI101, g100, k100, ⟨rfl, q100⟩⟩ := P100
                have FI101 := gc_frc (W := fun q j => (q = 39 ∧ j = 3) ∨ (q = 39 ∧ j = 4) ∨ (q = 23 ∧ j = 5) ∨ (q = 23 ∧ j = 6) ∨ (q = 23 ∧ j = 7) ∨ (q = 23 ∧ j = 8) ∨ q = (t + 5) ∨ q = (t + 6) ∨ (q = (t + 3) ∧ j = 1) ∨ (q = (t + 1) ∧ j = 1)) (V := fun q j => (q = (t + 1) ∧ j = 1)) FI88 (fun q j h => (Or.inr (Or.inr (Or.inr (Or.inr (Or.inr (Or.inr (Or.inr (Or.inr (Or.inr h)))))))))) g100
                have FJ102 := gc_frc (W := fun q j => (q = 23 ∧ j = 9) ∨ q = 42 ∨ q = (t + 4) ∨ q = (t + 2)) (V := fun q j => q = (t + 2)) FJ89 (fun q j h => (Or.inr (Or.inr (Or.inr h)))) k100
                have t103 := (g100 23 1).resolve_left (fun h => absurd h.1 N_23__t_1)
                have t104 := (g100 23 5).resolve_left (fun h => absurd h.2 (by decide))
                have t105 := (g100 23 6).resolve_left (fun h => absurd h.2 (by decide))
                have t106 := (g100 23 7).resolve_left (fun h => absurd h.2 (by decide))
                have t107 := (g100 (t + 3) 1).resolve_left (fun h => absurd h.1 N_t_3__t_1)
                have t108 := (g100 39 2).resolve_left (fun h => absurd h.2 (by decide))
                have f109 := (show 0 ≤ I101 (t + 1) 1 ∧ I101 (t + 1) 1 ≤ 8 from gc_in hI101 R_t_1 rfl rfl)
                have KLT_I101 := gc_LT_fr KLT_I88 ((g100 23 5).resolve_left (fun h => absurd h.2 (by decide))) ((g100 23 6).resolve_left (fun h => absurd h.2 (by decide))) ((g100 23 7).resolve_left (fun h => absurd h.2 (by decide))) (fun k => (g100 24 k).resolve_left (fun h => absurd h.1 N_24__t_1))
                have KTK_I101 := gc_TK_fr KTK_I88 ((g100 23 1).resolve_left (fun h => absurd h.1 N_23__t_1)) ((g100 23 5).resolve_left (fun h => absurd h.2 (by decide))) ((g100 23 6).resolve_left (fun h => absurd h.2 (by decide))) ((g100 23 7).resolve_left (fun h => absurd h.2 (by decide)))
                refine gv_callV hD rfl (As := [.inr (.inl v1_22)]) (st := []) rfl B_t_1 S_t_1 rfl (gc_lV6 hws rfl) (Nat.le_of_ble_eq_true rfl) (gz_Ev_mono (d := 1) (by decide) E100) ?_
                show gv_X _ _ (333, [(0, .inr (.inr (some 39))), (1, .inr (.inl v1_22)), (4, .inl v4_22), (5, .inl v5_90)], [], sh, gc_h sh I101 J102 A)
                refine gv_run 1 true hD (pc' := 334) (lv' := [(0, .inr (.inr (some 39))), (1, .inr (.inl v1_22)), (4, .inl v4_22), (5, .inl v5_90)]) (st' := [.inl 1]) (h' := gc_h sh I101 J102 A) (C := (True ∧ True)) rfl ⟨trivial, trivial⟩ ?_
                exact gv_zret hD rfl (by omega) ⟨I101, J102, rfl, hI101, FI101, FJ102, KLT_I101, KTK_I101, ⟨_, rfl, by omega⟩⟩
              · show gv_X _ _ (249, [(0, .inr (.inr (some 39))), (1, .inr (.inl v1_22)), (4, .inl v4_22), (5, .inl v5_90)], [], sh, gc_h sh I88 J89 A)
                refine gv_run 1 true hD (pc' := 250) (lv' := [(0, .inr (.inr (some 39))), (1, .inr (.inl v1_22)), (4, .inl v4_22), (5, .inl v5_90)]) (st' := [.inr (.inr (some 39))]) (h' := gc_h sh I88 J89 A) (C := (True ∧ True)) rfl ⟨trivial, trivial⟩ ?_
                refine gv_get hD rfl rfl S_39 ⟨by decide, B_39⟩ (gc_h5 (t := t) S_39 rfl (by omega)) ?_
                show gv_X _ _ (253, [(0, .inr (.inr (some 39))), (1, .inr (.inl v1_22)), (4, .inl v4_22), (5, .inl v5_90)], [.inr (.inr (some t))], sh, gc_h sh I88 J89 A)
                refine gv_get hD rfl rfl S_t ⟨by decide, B_t⟩ (gc_hA S_t rfl A_t_2) ?_
                show gv_X _ _ (256, [(0, .inr (.inr (some 39))), (1, .inr (.inl v1_22)), (4, .inl v4_22), (5, .inl v5_90)], [.inr (.inr (some (t + 5)))], sh, gc_h sh I88 J89 A)
                refine gv_run 1 true hD (pc' := 257) (lv' := [(0, .inr (.inr (some 39))), (1, .inr (.inl v1_22)), (4, .inl v4_22), (5, .inl v5_90)]) (st' := [.inr (.inr (some 39)), .inr (.inr (some (t + 5)))]) (h' := gc_h sh I88 J89 A) (C := (True ∧ True)) rfl ⟨trivial, trivial⟩ ?_
                refine gv_get hD rfl rfl S_39 ⟨by decide, B_39⟩ (gc_h5 (t := t) S_39 rfl (by omega)) ?_
                show gv_X _ _ (260, [(0, .inr (.inr (some 39))), (1, .inr (.inl v1_22)), (4, .inl v4_22), (5, .inl v5_90)], [.inr (.inr (some t)), .inr (.inr (some (t + 5)))], sh, gc_h sh I88 J89 A)
                refine gv_get hD rfl rfl S_t ⟨by decide, B_t⟩ (gc_hA S_t rfl A_t_1) ?_
                show gv_X _ _ (263, [(0, .inr (.inr (some 39))), (1, .inr (.inl v1_22)), (4, .inl v4_22), (5, .inl v5_90)], [.inr (.inr (some (t + 3))), .inr (.inr (some (t + 5)))], sh, gc_h sh I88 J89 A)
                have f110 := (show 0 ≤ I88 (t + 3) 1 ∧ I88 (t + 3) 1 ≤ 48 from gc_in hI88 R_t_3 rfl rfl)
                refine gv_get hD rfl rfl S_t_3 ⟨by decide, B_t_3⟩ (gc_hI S_t_3 rfl) ?_
                show gv_X _ _ (266, [(0, .inr (.inr (some 39))), (1, .inr (.inl v1_22)), (4, .inl v4_22), (5, .inl v5_90)], [.inl (I88 (t + 3) 1), .inr (.inr (some (t + 5)))], sh, gc_h sh I88 J89 A)
                refine gv_run 1 true hD (pc' := 267) (lv' := [(0, .inr (.inr (some 39))), (1, .inr (.inl v1_22)), (4, .inl v4_22), (5, .inl v5_90)]) (st' := [.inr (.inr (some 39)), .inl (I88 (t + 3) 1), .inr (.inr (some (t + 5)))]) (h' := gc_h sh I88 J89 A) (C := (True ∧ True)) rfl ⟨trivial, trivial⟩ ?_
                refine gv_get hD rfl rfl S_39 ⟨by decide, B_39⟩ (gc_h5 (t := t) S_39 rfl (by omega)) ?_
                show gv_X _ _ (270, [(0, .inr (.inr (some 39))), (1, .inr (.inl v1_22)), (4, .inl v4_22), (5, .inl v5_90)], [.inr (.inr (some t)), .inl (I88 (t + 3) 1), .inr (.inr (some (t + 5)))], sh, gc_h sh I88 J89 A)
                refine gv_get hD rfl rfl S_t ⟨by decide, B_t⟩ (gc_hA S_t rfl A_t_0) ?_
                show gv_X _ _ (273, [(0, .inr (.inr (some 39))), (1, .inr (.inl v1_22)), (4, .inl v4_22), (5, .inl v5_90)], [.inr (.inr (some (t + 1))), .inl (I88 (t + 3) 1), .inr (.inr (some (t + 5)))], sh, gc_h sh I88 J89 A)
                have f111 := (show 0 ≤ I88 (t + 1) 1 ∧ I88 (t + 1) 1 ≤ 8 from gc_in hI88 R_t_1 rfl rfl)
                refine gv_get hD rfl rfl S_t_1 ⟨by decide, B_t_1⟩ (gc_hI S_t_1 rfl) ?_
                show gv_X _ _ (276, [(0, .inr (.inr (some 39))), (1, .inr (.inl v1_22)), (4, .inl v4_22), (5, .inl v5_90)], [.inl (I88 (t + 1) 1), .inl (I88 (t + 3) 1), .inr (.inr (some (t + 5)))], sh, gc_h sh I88 J89 A)
                refine gv_iast hD rfl S_t_5 ⟨by decide, B_t_5⟩ ⟨by omega, by omega⟩ ?_
                refine gc_st hI88 S_t_5 rfl R_t_5 (lo := 0) (hi := 7) rfl rfl (by omega) (by omega) (fun I112 hI112 q113 p113 => ?_)
                have FI112 := gc_frs (W := fun q j => (q = 39 ∧ j = 3) ∨ (q = 39 ∧ j = 4) ∨ (q = 23 ∧ j = 5) ∨ (q = 23 ∧ j = 6) ∨ (q = 23 ∧ j = 7) ∨ (q = 23 ∧ j = 8) ∨ q = (t + 5) ∨ q = (t + 6) ∨ (q = (t + 3) ∧ j = 1) ∨ (q = (t + 1) ∧ j = 1)) FI88 (Or.inr (Or.inr (Or.inr (Or.inr (Or.inr (Or.inr (Or.inl rfl))))))) p113
                have t114 := p113 23 1 (fun h => absurd h.1 N_23__t_5)
                have t115 := p113 23 5 (fun h => absurd h.1 N_23__t_5)
                have t116 := p113 23 6 (fun h => absurd h.1 N_23__t_5)
                have t117 := p113 23 7 (fun h => absurd h.1 N_23__t_5)
                have t118 := p113 (t + 3) 1 (fun h => absurd h.1 N_t_3__t_5)
                have t119 := p113 (t + 1) 1 (fun h => absurd h.1 N_t_1__t_5)
                have t120 := p113 39 2 (fun h => absurd h.1 N_39__t_5)
                have KLT_I112 := gc_LT_fr KLT_I88 (p113 23 5 (fun h => absurd h.1 N_23__t_5)) (p113 23 6 (fun h => absurd h.1 N_23__t_5)) (p113 23 7 (fun h => absurd h.1 N_23__t_5)) (fun k => p113 24 k (fun h => absurd h.1 N_24__t_5))
                have KTK_I112 := gc_TK_fr KTK_I88 (p113 23 1 (fun h => absurd h.1 N_23__t_5)) (p113 23 5 (fun h => absurd h.1 N_23__t_5)) (p113 23 6 (fun h => absurd h.1 N_23__t_5)) (p113 23 7 (fun h => absurd h.1 N_23__t_5))
                show gv_X _ _ (277, [(0, .inr (.inr (some 39))), (1, .inr (.inl v1_22)), (4, .inl v4_22), (5, .inl v5_90)], [], sh, gc_h sh I112 J89 A)
                refine gv_run 1 true hD (pc' := 278) (lv' := [(0, .inr (.inr (some 39))), (1, .inr (.inl v1_22)), (4, .inl v4_22), (5, .inl v5_90)]) (st' := [.inr (.inr (some 39))]) (h' := gc_h sh I112 J89 A) (C := (True ∧ True)) rfl ⟨trivial, trivial⟩ ?_
                refine gv_get hD rfl rfl S_39 ⟨by decide, B_39⟩ (gc_h5 (t := t) S_39 rfl (by omega)) ?_
                show gv_X _ _ (281, [(0, .inr (.inr (some 39))), (1, .inr (.inl v1_22)), (4, .inl v4_22), (5, .inl v5_90)], [.inr (.inr (some t))], sh, gc_h sh I112 J89 A)
                refine gv_get hD rfl rfl S_t ⟨by decide, B_t⟩ (gc_hA S_t rfl A_t_3) ?_
                show gv_X _ _ (284, [(0, .inr (.inr (some 39))), (1, .inr (.inl v1_22)), (4, .inl v4_22), (5, .inl v5_90)], [.inr (.inr (some (t + 6)))], sh, gc_h sh I112 J89 A)
                refine gv_run 1 true hD (pc' := 285) (lv' := [(0, .inr (.inr (some 39))), (1, .inr (.inl v1_22)), (4, .inl v4_22), (5, .inl v5_90)]) (st' := [.inr (.inr (some 39)), .inr (.inr (some (t + 6)))]) (h' := gc_h sh I112 J89 A) (C := (True ∧ True)) rfl ⟨trivial, trivial⟩ ?_
                refine gv_get hD rfl rfl S_39 ⟨by decide, B_39⟩ (gc_h5 (t := t) S_39 rfl (by omega)) ?_
                show gv_X _ _ (288, [(0, .inr (.inr (some 39))), (1, .inr (.inl v1_22)), (4, .inl v4_22), (5, .inl v5_90)], [.inr (.inr (some t)), .inr (.inr (some (t + 6)))], sh, gc_h sh I112 J89 A)
                refine gv_get hD rfl rfl S_t ⟨by decide, B_t⟩ (gc_hA S_t rfl A_t_1) ?_
                show gv_X _ _ (291, [(0, .inr (.inr (some 39))), (1, .inr (.inl v1_22)), (4, .inl v4_22), (5, .inl v5_90)], [.inr (.inr (some (t + 3))), .inr (.inr (some (t + 6)))], sh, gc_h sh I112 J89 A)
                have f121 := (show 0 ≤ I112 (t + 3) 1 ∧ I112 (t + 3) 1 ≤ 48 from gc_in hI112 R_t_3 rfl rfl)
                refine gv_get hD rfl rfl S_t_3 ⟨by decide, B_t_3⟩ (gc_hI S_t_3 rfl) ?_
                show gv_X _ _ (294, [(0, .inr (.inr (some 39))), (1, .inr (.inl v1_22)), (4, .inl v4_22), (5, .inl v5_90)], [.inl (I112 (t + 3) 1), .inr (.inr (some (t + 6)))], sh, gc_h sh I112 J89 A)
                refine gv_run 3 true hD (pc' := 298) (lv' := [(0, .inr (.inr (some 39))), (1, .inr (.inl v1_22)), (4, .inl v4_22), (5, .inl v5_90)]) (st' := [.inl (v5_90 + 1), .inl (I112 (t + 3) 1), .inr (.inr (some (t + 6)))]) (h' := gc_h sh I112 J89 A) (C := (((True ∧ True) ∧ True) ∧ True)) rfl ⟨⟨⟨trivial, trivial⟩, trivial⟩, trivial⟩ ?_
                refine gv_iast hD rfl S_t_6 ⟨by decide, B_t_6⟩ ⟨by omega, by omega⟩ ?_
                refine gc_st hI112 S_t_6 rfl R_t_6 (lo := 0) (hi := 6) rfl rfl (by omega) (by omega) (fun I122 hI122 q123 p123 => ?_)
                have FI122 := gc_frs (W := fun q j => (q = 39 ∧ j = 3) ∨ (q = 39 ∧ j = 4) ∨ (q = 23 ∧ j = 5) ∨ (q = 23 ∧ j = 6) ∨ (q = 23 ∧ j = 7) ∨ (q = 23 ∧ j = 8) ∨ q = (t + 5) ∨ q = (t + 6) ∨ (q = (t + 3) ∧ j = 1) ∨ (q = (t + 1) ∧ j = 1)) FI112 (Or.inr (Or.inr (Or.inr (Or.inr (Or.inr (Or.inr (Or.inr (Or.inl rfl)))))))) p123
                have t124 := p123 23 1 (fun h => absurd h.1 N_23__t_6)
                have t125 := p123 23 5 (fun h => absurd h.1 N_23__t_6)
                have t126 := p123 23 6 (fun h => absurd h.1 N_23__t_6)
                have t127 := p123 23 7 (fun h => absurd h.1 N_23__t_6)
                have t128 := p123 (t + 3) 1 (fun h => absurd h.1 N_t_3__t_6)
                have t129 := p123 (t + 1) 1 (fun h => absurd h.1 N_t_1__t_6)
                have t130 := p123 39 2 (fun h => absurd h.1 N_39__t_6)
                have KLT_I122 := gc_LT_fr KLT_I112 (p123 23 5 (fun h => absurd h.1 N_23__t_6)) (p123 23 6 (fun h => absurd h.1 N_23__t_6)) (p123 23 7 (fun h => absurd h.1 N_23__t_6)) (fun k => p123 24 k (fun h => absurd h.1 N_24__t_6))
                have KTK_I122 := gc_TK_fr KTK_I112 (p123 23 1 (fun h => absurd h.1 N_23__t_6)) (p123 23 5 (fun h => absurd h.1 N_23__t_6)) (p123 23 6 (fun h => absurd h.1 N_23__t_6)) (p123 23 7 (fun h => absurd h.1 N_23__t_6))
                show gv_X _ _ (299, [(0, .inr (.inr (some 39))), (1, .inr (.inl v1_22)), (4, .inl v4_22), (5, .inl v5_90)], [], sh, gc_h sh I122 J89 A)
                refine gv_run 1 true hD (pc' := 300) (lv' := [(0, .inr (.inr (some 39))), (1, .inr (.inl v1_22)), (4, .inl v4_22), (5, .inl v5_90)]) (st' := [.inr (.inr (some 39))]) (h' := gc_h sh I122 J89 A) (C := (True ∧ True)) rfl ⟨trivial, trivial⟩ ?_
                refine gv_get hD rfl rfl S_39 ⟨by decide, B_39⟩ (gc_h5 (t := t) S_39 rfl (by omega)) ?_
                show gv_X _ _ (303, [(0, .inr (.inr (some 39))), (1, .inr (.inl v1_22)), (4, .inl v4_22), (5, .inl v5_90)], [.inr (.inr (some t))], sh, gc_h sh I122 J89 A)
                refine gv_get hD rfl rfl S_t ⟨by decide, B_t⟩ (gc_hA S_t rfl A_t_1) ?_
                show gv_X _ _ (306, [(0, .inr (.inr (some 39))), (1, .inr (.inl v1_22)), (4, .inl v4_22), (5, .inl v5_90)], [.inr (.inr (some (t + 3)))], sh, gc_h sh I122 J89 A)
                refine gv_run 1 true hD (pc' := 307) (lv' := [(0, .inr (.inr (some 39))), (1, .inr (.inl v1_22)), (4, .inl v4_22), (5, .inl v5_90)]) (st' := [.inr (.inr (some 39)), .inr (.inr (some (t + 3)))]) (h' := gc_h sh I122 J89 A) (C := (True ∧ True)) rfl ⟨trivial, trivial⟩ ?_
                refine gv_get hD rfl rfl S_39 ⟨by decide, B_39⟩ (gc_hA S_39 rfl A_39_11) ?_
                show gv_X _ _ (310, [(0, .inr (.inr (some 39))), (1, .inr (.inl v1_22)), (4, .inl v4_22), (5, .inl v5_90)], [.inr (.inr (some 42)), .inr (.inr (some (t + 3)))], sh, gc_h sh I122 J89 A)
                refine gv_run 1 true hD (pc' := 312) (lv' := [(0, .inr (.inr (some 39))), (1, .inr (.inl v1_22)), (4, .inl v4_22), (5, .inl v5_90)]) (st' := [.inl v5_90, .inr (.inr (some 42)), .inr (.inr (some (t + 3)))]) (h' := gc_h sh I122 J89 A) (C := (True ∧ True)) rfl ⟨trivial, trivial⟩ ?_
                refine gv_lald hD rfl S_42 rfl ⟨by decide, B_42⟩ ⟨by omega, by omega⟩ (gc_jJ S_42 rfl) ?_
                show gv_X _ _ (313, [(0, .inr (.inr (some 39))), (1, .inr (.inl v1_22)), (4, .inl v4_22), (5, .inl v5_90)], [.inr (.inl (J89 42 (Int.toNat v5_90))), .inr (.inr (some (t + 3)))], sh, gc_h sh I122 J89 A)
                obtain ⟨r131, h131, E131, P131⟩ := d_X4_put (ws0 := ws0) (tb := tb) hws htb sh ro I122 J89 A hI122 (t + 3) 48 10 ((J89 42 (Int.toNat v5_90))) h_t_3     
                obtain ⟨I132, J133, rfl, hI132, g131, k131, ⟨rfl, q131⟩⟩ := P131
                have FI132 := gc_frc (W := fun q j => (q = 39 ∧ j = 3) ∨ (q = 39 ∧ j = 4) ∨ (q = 23 ∧ j = 5) ∨ (q = 23 ∧ j = 6) ∨ (q = 23 ∧ j = 7) ∨ (q = 23 ∧ j = 8) ∨ q = (t + 5) ∨ q = (t + 6) ∨ (q = (t + 3) ∧ j = 1) ∨ (q = (t + 1) ∧ j = 1)) (V := fun q j => (q = (t + 3) ∧ j = 1)) FI122 (fun q j h => (Or.inr (Or.inr (Or.inr (Or.inr (Or.inr (Or.inr (Or.inr (Or.inr (Or.inl h)))))))))) g131
                have FJ133 := gc_frc (W := fun q j => (q = 23 ∧ j = 9) ∨ q = 42 ∨ q = (t + 4) ∨ q = (t + 2)) (V := fun q j => q = (t + 4)) FJ89 (fun q j h => (Or.inr (Or.inr (Or.inl h)))) k131
                have t134 := (g131 23 1).resolve_left (fun h => absurd h.1 N_23__t_3)
                have t135 := (g131 23 5).resolve_left (fun h => absurd h.2 (by decide))
                have t136 := (g131 23 6).resolve_left (fun h => absurd h.2 (by decide))
                have t137 := (g131 23 7).resolve_left (fun h => absurd h.2 (by decide))
                have t138 := (g131 (t + 1) 1).resolve_left (fun h => absurd h.1 N_t_1__t_3)
                have t139 := (g131 39 2).resolve_left (fun h => absurd h.2 (by decide))
                have f140 := (show 0 ≤ I132 (t + 3) 1 ∧ I132 (t + 3) 1 ≤ 48 from gc_in hI132 R_t_3 rfl rfl)
                have KLT_I132 := gc_LT_fr KLT_I122 ((g131 23 5).resolve_left (fun h => absurd h.2 (by decide))) ((g131 23 6).resolve_left (fun h => absurd h.2 (by decide))) ((g131 23 7).resolve_left (fun h => absurd h.2 (by decide))) (fun k => (g131 24 k).resolve_left (fun h => absurd h.1 N_24__t_3))
                have KTK_I132 := gc_TK_fr KTK_I122 ((g131 23 1).resolve_left (fun h => absurd h.1 N_23__t_3)) ((g131 23 5).resolve_left (fun h => absurd h.2 (by decide))) ((g131 23 6).resolve_left (fun h => absurd h.2 (by decide))) ((g131 23 7).resolve_left (fun h => absurd h.2 (by decide)))
                refine gv_callV hD rfl (As := [.inr (.inl (J89 42 (Int.toNat v5_90)))]) (st := []) rfl B_t_3 S_t_3 rfl (gc_lV6 hws rfl) (Nat.le_of_ble_eq_true rfl) (gz_Ev_mono (d := 1) (by decide) E131) ?_
                show gv_X _ _ (316, [(0, .inr (.inr (some 39))), (1, .inr (.inl v1_22)), (4, .inl v4_22), (5, .inl v5_90)], [], sh, gc_h sh I132 J133 A)
                refine gv_run 2 true hD (pc' := 242) (lv' := [(5, .inl (v5_90 + 1)), (0, .inr (.inr (some 39))), (1, .inr (.inl v1_22)), (4, .inl v4_22)]) (st' := []) (h' := gc_h sh I132 J133 A) (C := ((True ∧ True) ∧ True)) rfl ⟨⟨trivial, trivial⟩, trivial⟩ ?_
                refine gv_pick [1, 2, 3, 0] rfl ?_
                exact ih242 I132 J133 (v5_90 + 1) (by omega) hI132 FI132 FJ133 KLT_I132 KTK_I132 (by omega)
          refine gv_run 2 true hD (pc' := 222) (lv' := [(0, .inr (.inr (some 39))), (1, .inr (.inl v1_22)), (4, .inl v4_22)]) (st' := [.inr (.inr (some 39)), .inr (.inr (some 39))]) (h' := gc_h sh I20 J21 A) (C := ((True ∧ True) ∧ True)) rfl ⟨⟨trivial, trivial⟩, trivial⟩ ?_
          refine gv_get hD rfl rfl S_39 ⟨by decide, B_39⟩ (gc_h5 (t := t) S_39 rfl (by omega)) ?_
          show gv_X _ _ (225, [(0, .inr (.inr (some 39))), (1, .inr (.inl v1_22)), (4, .inl v4_22)], [.inr (.inr (some t)), .inr (.inr (some 39))], sh, gc_h sh I20 J21 A)
          refine gv_get hD rfl rfl S_t ⟨by decide, B_t⟩ (gc_hA S_t rfl A_t_0) ?_
          show gv_X _ _ (228, [(0, .inr (.inr (some 39))), (1, .inr (.inl v1_22)), (4, .inl v4_22)], [.inr (.inr (some (t + 1))), .inr (.inr (some 39))], sh, gc_h sh I20 J21 A)
          obtain ⟨r141, h141, E141, P141⟩ := d_X4_isFull (ws0 := ws0) (tb := tb) hws htb sh ro I20 J21 A hI20 (t + 1) 8 6  h_t_1     
          obtain ⟨rfl, ⟨z141, rfl, q141⟩⟩ := P141
          refine gv_callV hD rfl (As := []) (st := [.inr (.inr (some 39))]) rfl B_t_1 S_t_1 rfl (gc_lV6 hws rfl) (Nat.le_of_ble_eq_true rfl) (gz_Ev_mono (d := 1) (by decide) E141) ?_
          show gv_X _ _ (231, [(0, .inr (.inr (some 39))), (1, .inr (.inl v1_22)), (4, .inl v4_22)], [.inl z141, .inr (.inr (some 39))], sh, gc_h sh I20 J21 A)
          obtain ⟨r142, h142, E142, P142⟩ := d_X6_closes (ws0 := ws0) (tb := tb) hws htb sh ro I20 J21 A hI20  z141 hb   ⟨by omega, by omega⟩  KLT_I20 KTK_I20
          obtain ⟨I143, J144, rfl, hI143, g142, k142, KLT_I143, KTK_I143, ⟨z142, rfl, q142⟩⟩ := P142
          have FI143 := gc_frc (W := fun q j => (q = 39 ∧ j = 3) ∨ (q = 39 ∧ j = 4) ∨ (q = 23 ∧ j = 5) ∨ (q = 23 ∧ j = 6) ∨ (q = 23 ∧ j = 7) ∨ (q = 23 ∧ j = 8) ∨ q = (t + 5) ∨ q = (t + 6) ∨ (q = (t + 3) ∧ j = 1) ∨ (q = (t + 1) ∧ j = 1)) (V := fun q j => (q = 39 ∧ j = 3) ∨ (q = 39 ∧ j = 4) ∨ (q = 23 ∧ j = 5) ∨ (q = 23 ∧ j = 6) ∨ (q = 23 ∧ j = 7) ∨ (q = 23 ∧ j = 8)) FI20 (fun q j h => (h.elim (fun h => (Or.inl h)) (fun h => (h.elim (fun h => (Or.inr (Or.inl h))) (fun h => (h.elim (fun h => (Or.inr (Or.inr (Or.inl h)))) (fun h => (h.elim (fun h => (Or.inr (Or.inr (Or.inr (Or.inl h))))) (fun h => (h.elim (fun h => (Or.inr (Or.inr (Or.inr (Or.inr (Or.inl h)))))) (fun h => (Or.inr (Or.inr (Or.inr (Or.inr (Or.inr (Or.inl h))))))))))))))))) g142
          have FJ144 := gc_frc (W := fun q j => (q = 23 ∧ j = 9) ∨ q = 42 ∨ q = (t + 4) ∨ q = (t + 2)) (V := fun q j => (q = 23 ∧ j = 9)) FJ21 (fun q j h => (Or.inl h)) k142
          have t145 := (g142 23 1).resolve_left (fun h => h.elim (fun h => absurd h.2 (by decide)) (fun h => h.elim (fun h => absurd h.2 (by decide)) (fun h => h.elim (fun h => absurd h.2 (by decide)) (fun h => h.elim (fun h => absurd h.2 (by decide)) (fun h => h.elim (fun h => absurd h.2 (by decide)) (fun h => absurd h.2 (by decide)))))))
          have t146 := (g142 (t + 3) 1).resolve_left (fun h => h.elim (fun h => absurd h.2 (by decide)) (fun h => h.elim (fun h => absurd h.2 (by decide)) (fun h => h.elim (fun h => absurd h.2 (by decide)) (fun h => h.elim (fun h => absurd h.2 (by decide)) (fun h => h.elim (fun h => absurd h.2 (by decide)) (fun h => absurd h.2 (by decide)))))))
          have t147 := (g142 (t + 1) 1).resolve_left (fun h => h.elim (fun h => absurd h.2 (by decide)) (fun h => h.elim (fun h => absurd h.2 (by decide)) (fun h => h.elim (fun h => absurd h.2 (by decide)) (fun h => h.elim (fun h => absurd h.2 (by decide)) (fun h => h.elim (fun h => absurd h.2 (by decide)) (fun h => absurd h.2 (by decide)))))))
          have t148 := (g142 39 2).resolve_left (fun h => h.elim (fun h => absurd h.2 (by decide)) (fun h => h.elim (fun h => absurd h.2 (by decide)) (fun h => h.elim (fun h => absurd h.2 (by decide)) (fun h => h.elim (fun h => absurd h.2 (by decide)) (fun h => h.elim (fun h => absurd h.2 (by decide)) (fun h => absurd h.2 (by decide)))))))
          have f149 := (show 0 ≤ I143 23 5 ∧ I143 23 5 ≤ 1000 from gc_in hI143 R_23 rfl rfl)
          have f150 := (show 0 ≤ I143 23 6 ∧ I143 23 6 ≤ 1001 from gc_in hI143 R_23 rfl rfl)
          have f151 := (show 0 ≤ I143 23 7 ∧ I143 23 7 ≤ 125 from gc_in hI143 R_23 rfl rfl)
          have t152 := gc_TK_mo KTK_I143
          refine gv_callV hD rfl (As := [.inl z141]) (st := []) rfl B_39 S_39 rfl (gc_lV6 hws rfl) (Nat.le_of_ble_eq_true rfl) (gz_Ev_mono (d := 4) (by decide) E142) ?_
          show gv_X _ _ (234, [(0, .inr (.inr (some 39))), (1, .inr (.inl v1_22)), (4, .inl v4_22)], [.inl z142], sh, gc_h sh I143 J144 A)
          refine gv_if_ne (t := 239) hD rfl rfl ⟨by omega, by omega⟩ (fun c153 => ?_) (fun c153 => ?_)
          · show gv_X _ _ (239, [(0, .inr (.inr (some 39))), (1, .inr (.inl v1_22)), (4, .inl v4_22)], [], sh, gc_h sh I143 J144 A)
            refine gv_run 2 true hD (pc' := 242) (lv' := [(5, .inl 0), (0, .inr (.inr (some 39))), (1, .inr (.inl v1_22)), (4, .inl v4_22)]) (st' := []) (h' := gc_h sh I143 J144 A) (C := ((True ∧ True) ∧ True)) rfl ⟨⟨trivial, trivial⟩, trivial⟩ ?_
            refine gv_pick [1, 2, 3, 0] rfl ?_
            exact L242 _ I143 J144 0 (Nat.lt_succ_self _) hI143 FI143 FJ144 KLT_I143 KTK_I143 (by omega)
          · show gv_X _ _ (237, [(0, .inr (.inr (some 39))), (1, .inr (.inl v1_22)), (4, .inl v4_22)], [], sh, gc_h sh I143 J144 A)
            refine gv_run 1 true hD (pc' := 238) (lv' := [(0, .inr (.inr (some 39))), (1, .inr (.inl v1_22)), (4, .inl v4_22)]) (st' := [.inl 0]) (h' := gc_h sh I143 J144 A) (C := (True ∧ True)) rfl ⟨trivial, trivial⟩ ?_
            exact gv_zret hD rfl (by omega) ⟨I143, J144, rfl, hI143, FI143, FJ144, KLT_I143, KTK_I143, ⟨_, rfl, by omega⟩⟩
        refine gv_run 2 true hD (pc' := 198) (lv' := [(0, .inr (.inr (some 39))), (1, .inr (.inl v1_22)), (3, .inl v3_22), (4, .inl v4_22)]) (st' := [.inl 1, .inl v4_22]) (h' := gc_h sh I20 J21 A) (C := ((True ∧ True) ∧ True)) rfl ⟨⟨trivial, trivial⟩, trivial⟩ ?_
        refine gv_icmp_ne (t := 220) hD rfl rfl ⟨⟨by omega, by omega⟩, ⟨by omega, by omega⟩⟩ (fun c154 => ?_) (fun c154 => ?_)
        · show gv_X _ _ (220, [(0, .inr (.inr (some 39))), (1, .inr (.inl v1_22)), (3, .inl v3_22), (4, .inl v4_22)], [], sh, gc_h sh I20 J21 A)
          refine gv_pick [0, 1, 3] rfl ?_
          exact L220 (by omega)
        · show gv_X _ _ (201, [(0, .inr (.inr (some 39))), (1, .inr (.inl v1_22)), (3, .inl v3_22), (4, .inl v4_22)], [], sh, gc_h sh I20 J21 A)
          refine gv_run 1 true hD (pc' := 202) (lv' := [(0, .inr (.inr (some 39))), (1, .inr (.inl v1_22)), (3, .inl v3_22), (4, .inl v4_22)]) (st' := [.inr (.inr (some 39))]) (h' := gc_h sh I20 J21 A) (C := (True ∧ True)) rfl ⟨trivial, trivial⟩ ?_
          refine gv_get hD rfl rfl S_39 ⟨by decide, B_39⟩ (gc_hA S_39 rfl A_39_1) ?_
          show gv_X _ _ (205, [(0, .inr (.inr (some 39))), (1, .inr (.inl v1_22)), (3, .inl v3_22), (4, .inl v4_22)], [.inr (.inr (some 23))], sh, gc_h sh I20 J21 A)
          have f155 := (show 0 ≤ I20 23 7 ∧ I20 23 7 ≤ 125 from gc_in hI20 R_23 rfl rfl)
          refine gv_get hD rfl rfl S_23 ⟨by decide, B_23⟩ (gc_hI S_23 rfl) ?_
          show gv_X _ _ (208, [(0, .inr (.inr (some 39))), (1, .inr (.inl v1_22)), (3, .inl v3_22), (4, .inl v4_22)], [.inl (I20 23 7)], sh, gc_h sh I20 J21 A)
          refine gv_run 1 true hD (pc' := 210) (lv' := [(0, .inr (.inr (some 39))), (1, .inr (.inl v1_22)), (3, .inl v3_22), (4, .inl v4_22)]) (st' := [.inl 59, .inl (I20 23 7)]) (h' := gc_h sh I20 J21 A) (C := (True ∧ True)) rfl ⟨trivial, trivial⟩ ?_
          refine gv_icmp_ne (t := 220) hD rfl rfl ⟨⟨by omega, by omega⟩, ⟨by omega, by omega⟩⟩ (fun c156 => ?_) (fun c156 => ?_)
          · show gv_X _ _ (220, [(0, .inr (.inr (some 39))), (1, .inr (.inl v1_22)), (3, .inl v3_22), (4, .inl v4_22)], [], sh, gc_h sh I20 J21 A)
            refine gv_pick [0, 1, 3] rfl ?_
            exact L220 (by omega)
          · show gv_X _ _ (213, [(0, .inr (.inr (some 39))), (1, .inr (.inl v1_22)), (3, .inl v3_22), (4, .inl v4_22)], [], sh, gc_h sh I20 J21 A)
            refine gv_run 3 true hD (pc' := 216) (lv' := [(0, .inr (.inr (some 39))), (1, .inr (.inl v1_22)), (3, .inl v3_22), (4, .inl v4_22)]) (st' := [.inl v3_22, .inl 5, .inr (.inr (some 39))]) (h' := gc_h sh I20 J21 A) (C := (((True ∧ True) ∧ True) ∧ True)) rfl ⟨⟨⟨trivial, trivial⟩, trivial⟩, trivial⟩ ?_
            obtain ⟨r157, h157, E157, P157⟩ := d_X6_wrong (ws0 := ws0) (tb := tb) hws htb sh ro I20 J21 A hI20  5 v3_22 hb   ⟨by omega, by omega⟩ ⟨by omega, by omega⟩  
            obtain ⟨I158, J159, rfl, hI158, g157, k157, ⟨z157, rfl, q157⟩⟩ := P157
            have FI158 := gc_frc (W := fun q j => (q = 39 ∧ j = 3) ∨ (q = 39 ∧ j = 4) ∨ (q = 23 ∧ j = 5) ∨ (q = 23 ∧ j = 6) ∨ (q = 23 ∧ j = 7) ∨ (q = 23 ∧ j = 8) ∨ q = (t + 5) ∨ q = (t + 6) ∨ (q = (t + 3) ∧ j = 1) ∨ (q = (t + 1) ∧ j = 1)) (V := fun q j => (q = 39 ∧ j = 3) ∨ (q = 39 ∧ j = 4)) FI20 (fun q j h => (h.elim (fun h => (Or.inl h)) (fun h => (Or.inr (Or.inl h))))) g157
            have t160 := (g157 23 1).resolve_left (fun h => h.elim (fun h => absurd h.2 (by decide)) (fun h => absurd h.2 (by decide)))
            have t161 := (g157 23 5).resolve_left (fun h => h.elim (fun h => absurd h.2 (by decide)) (fun h => absurd h.2 (by decide)))
            have t162 := (g157 23 6).resolve_left (fun h => h.elim (fun h => absurd h.2 (by decide)) (fun h => absurd h.2 (by decide)))
            have t163 := (g157 23 7).resolve_left (fun h => h.elim (fun h => absurd h.2 (by decide)) (fun h => absurd h.2 (by decide)))
            have t164 := (g157 (t + 3) 1).resolve_left (fun h => h.elim (fun h => absurd h.2 (by decide)) (fun h => absurd h.2 (by decide)))
            have t165 := (g157 (t + 1) 1).resolve_left (fun h => h.elim (fun h => absurd h.2 (by decide)) (fun h => absurd h.2 (by decide)))
            have t166 := (g157 39 2).resolve_left (fun h => h.elim (fun h => absurd h.2 (by decide)) (fun h => absurd h.2 (by decide)))
            obtain rfl : J21 = J159 := funext fun q => funext fun j => ((k157 q j).resolve_left id).symm
            have KLT_I158 := gc_LT_fr KLT_I20 ((g157 23 5).resolve_left (fun h => h.elim (fun h => absurd h.2 (by decide)) (fun h => absurd h.2 (by decide)))) ((g157 23 6).resolve_left (fun h => h.elim (fun h => absurd h.2 (by decide)) (fun h => absurd h.2 (by decide)))) ((g157 23 7).resolve_left (fun h => h.elim (fun h => absurd h.2 (by decide)) (fun h => absurd h.2 (by decide)))) (fun k => (g157 24 k).resolve_left (fun h => h.elim (fun h => absurd h.1 (by decide)) (fun h => absurd h.1 (by decide))))
            have KTK_I158 := gc_TK_fr KTK_I20 ((g157 23 1).resolve_left (fun h => h.elim (fun h => absurd h.2 (by decide)) (fun h => absurd h.2 (by decide)))) ((g157 23 5).resolve_left (fun h => h.elim (fun h => absurd h.2 (by decide)) (fun h => absurd h.2 (by decide)))) ((g157 23 6).resolve_left (fun h => h.elim (fun h => absurd h.2 (by decide)) (fun h => absurd h.2 (by decide)))) ((g157 23 7).resolve_left (fun h => h.elim (fun h => absurd h.2 (by decide)) (fun h => absurd h.2 (by decide))))
            refine gv_callV hD rfl (As := [.inl 5, .inl v3_22]) (st := []) rfl B_39 S_39 rfl (gc_lV6 hws rfl) (Nat.le_of_ble_eq_true rfl) (gz_Ev_mono (d := 1) (by decide) E157) ?_
            show gv_X _ _ (219, [(0, .inr (.inr (some 39))), (1, .inr (.inl v1_22)), (3, .inl v3_22), (4, .inl v4_22)], [.inl z157], sh, gc_h sh I158 J21 A)
            exact gv_zret hD rfl (by omega) ⟨I158, J21, rfl, hI158, FI158, FJ21, KLT_I158, KTK_I158, ⟨_, rfl, by omega⟩⟩
      refine gv_run 2 true hD (pc' := 68) (lv' := [(0, .inr (.inr (some 39))), (1, .inr (.inl v1_22)), (3, .inl v3_22), (4, .inl v4_22), (5, .inl v5_22)]) (st' := [.inl 6, .inl v5_22]) (h' := gc_h sh I20 J21 A) (C := ((True ∧ True) ∧ True)) rfl ⟨⟨trivial, trivial⟩, trivial⟩ ?_
      refine gv_icmp_gt (t := 195) hD rfl rfl ⟨⟨by omega, by omega⟩, ⟨by omega, by omega⟩⟩ (fun c167 => ?_) (fun c167 => ?_)
      · show gv_X _ _ (195, [(0, .inr (.inr (some 39))), (1, .inr (.inl v1_22)), (3, .inl v3_22), (4, .inl v4_22), (5, .inl v5_22)], [], sh, gc_h sh I20 J21 A)
        refine gv_pick [0, 1, 2, 3] rfl ?_
        exact L195 (by omega)
      · show gv_X _ _ (71, [(0, .inr (.inr (some 39))), (1, .inr (.inl v1_22)), (3, .inl v3_22), (4, .inl v4_22), (5, .inl v5_22)], [], sh, gc_h sh I20 J21 A)
        refine gv_run 1 true hD (pc' := 72) (lv' := [(0, .inr (.inr (some 39))), (1, .inr (.inl v1_22)), (3, .inl v3_22), (4, .inl v4_22), (5, .inl v5_22)]) (st' := [.inr (.inr (some 39))]) (h' := gc_h sh I20 J21 A) (C := (True ∧ True)) rfl ⟨trivial, trivial⟩ ?_
        refine gv_get hD rfl rfl S_39 ⟨by decide, B_39⟩ (gc_hA S_39 rfl A_39_1) ?_
        show gv_X _ _ (75, [(0, .inr (.inr (some 39))), (1, .inr (.inl v1_22)), (3, .inl v3_22), (4, .inl v4_22), (5, .inl v5_22)], [.inr (.inr (some 23))], sh, gc_h sh I20 J21 A)
        have f168 := (show 0 ≤ I20 23 7 ∧ I20 23 7 ≤ 125 from gc_in hI20 R_23 rfl rfl)
        refine gv_get hD rfl rfl S_23 ⟨by decide, B_23⟩ (gc_hI S_23 rfl) ?_
        show gv_X _ _ (78, [(0, .inr (.inr (some 39))), (1, .inr (.inl v1_22)), (3, .inl v3_22), (4, .inl v4_22), (5, .inl v5_22)], [.inl (I20 23 7)], sh, gc_h sh I20 J21 A)
        refine gv_run 1 true hD (pc' := 79) (lv' := [(0, .inr (.inr (some 39))), (1, .inr (.inl v1_22)), (3, .inl v3_22), (4, .inl v4_22), (5, .inl v5_22)]) (st' := [.inl 1, .inl (I20 23 7)]) (h' := gc_h sh I20 J21 A) (C := (True ∧ True)) rfl ⟨trivial, trivial⟩ ?_
        refine gv_icmp_ne (t := 195) hD rfl rfl ⟨⟨by omega, by omega⟩, ⟨by omega, by omega⟩⟩ (fun c169 => ?_) (fun c169 => ?_)
        · show gv_X _ _ (195, [(0, .inr (.inr (some 39))), (1, .inr (.inl v1_22)), (3, .inl v3_22), (4, .inl v4_22), (5, .inl v5_22)], [], sh, gc_h sh I20 J21 A)
          refine gv_pick [0, 1, 2, 3] rfl ?_
          exact L195 (by omega)
        · show gv_X _ _ (82, [(0, .inr (.inr (some 39))), (1, .inr (.inl v1_22)), (3, .inl v3_22), (4, .inl v4_22), (5, .inl v5_22)], [], sh, gc_h sh I20 J21 A)
          refine gv_run 2 true hD (pc' := 86) (lv' := [(0, .inr (.inr (some 39))), (1, .inr (.inl v1_22)), (3, .inl v3_22), (4, .inl v4_22), (5, .inl v5_22)]) (st' := [.inl 6, .inl v4_22]) (h' := gc_h sh I20 J21 A) (C := ((True ∧ True) ∧ True)) rfl ⟨⟨trivial, trivial⟩, trivial⟩ ?_
          refine gv_icmp_ne (t := 102) hD rfl rfl ⟨⟨by omega, by omega⟩, ⟨by omega, by omega⟩⟩ (fun c170 => ?_) (fun c170 => ?_)
          · show gv_X _ _ (102, [(0, .inr (.inr (some 39))), (1, .inr (.inl v1_22)), (3, .inl v3_22), (4, .inl v4_22), (5, .inl v5_22)], [], sh, gc_h sh I20 J21 A)
            refine gv_run 2 true hD (pc' := 104) (lv' := [(0, .inr (.inr (some 39))), (1, .inr (.inl v1_22)), (3, .inl v3_22), (4, .inl v4_22), (5, .inl v5_22)]) (st' := [.inr (.inr (some 39)), .inr (.inr (some 39))]) (h' := gc_h sh I20 J21 A) (C := ((True ∧ True) ∧ True)) rfl ⟨⟨trivial, trivial⟩, trivial⟩ ?_
            refine gv_get hD rfl rfl S_39 ⟨by decide, B_39⟩ (gc_h5 (t := t) S_39 rfl (by omega)) ?_
            show gv_X _ _ (107, [(0, .inr (.inr (some 39))), (1, .inr (.inl v1_22)), (3, .inl v3_22), (4, .inl v4_22), (5, .inl v5_22)], [.inr (.inr (some t)), .inr (.inr (some 39))], sh, gc_h sh I20 J21 A)
            refine gv_get hD rfl rfl S_t ⟨by decide, B_t⟩ (gc_hA S_t rfl A_t_1) ?_
            show gv_X _ _ (110, [(0, .inr (.inr (some 39))), (1, .inr (.inl v1_22)), (3, .inl v3_22), (4, .inl v4_22), (5, .inl v5_22)], [.inr (.inr (some (t + 3))), .inr (.inr (some 39))], sh, gc_h sh I20 J21 A)
            obtain ⟨r171, h171, E171, P171⟩ := d_X6_needNew (ws0 := ws0) (tb := tb) hws htb sh ro I20 J21 A hI20  48 10 (t + 3) hb h_t_3    
            obtain ⟨I172, J173, rfl, hI172, g171, k171, ⟨z171, rfl, q171⟩⟩ := P171
            have FI172 := gc_frc (W := fun q j => (q = 39 ∧ j = 3) ∨ (q = 39 ∧ j = 4) ∨ (q = 23 ∧ j = 5) ∨ (q = 23 ∧ j = 6) ∨ (q = 23 ∧ j = 7) ∨ (q = 23 ∧ j = 8) ∨ q = (t + 5) ∨ q = (t + 6) ∨ (q = (t + 3) ∧ j = 1) ∨ (q = (t + 1) ∧ j = 1)) (V := fun q j => (q = 39 ∧ j = 3) ∨ (q = 39 ∧ j = 4)) FI20 (fun q j h => (h.elim (fun h => (Or.inl h)) (fun h => (Or.inr (Or.inl h))))) g171
            have t174 := (g171 23 1).resolve_left (fun h => h.elim (fun h => absurd h.2 (by decide)) (fun h => absurd h.2 (by decide)))
            have t175 := (g171 23 5).resolve_left (fun h => h.elim (fun h => absurd h.2 (by decide)) (fun h => absurd h.2 (by decide)))
            have t176 := (g171 23 6).resolve_left (fun h => h.elim (fun h => absurd h.2 (by decide)) (fun h => absurd h.2 (by decide)))
            have t177 := (g171 23 7).resolve_left (fun h => h.elim (fun h => absurd h.2 (by decide)) (fun h => absurd h.2 (by decide)))
            have t178 := (g171 (t + 3) 1).resolve_left (fun h => h.elim (fun h => absurd h.2 (by decide)) (fun h => absurd h.2 (by decide)))
            have t179 := (g171 (t + 1) 1).resolve_left (fun h => h.elim (fun h => absurd h.2 (by decide)) (fun h => absurd h.2 (by decide)))
            have t180 := (g171 39 2).resolve_left (fun h => h.elim (fun h => absurd h.2 (by decide)) (fun h => absurd h.2 (by decide)))
            obtain rfl : J21 = J173 := funext fun q => funext fun j => ((k171 q j).resolve_left id).symm
            have KLT_I172 := gc_LT_fr KLT_I20 ((g171 23 5).resolve_left (fun h => h.elim (fun h => absurd h.2 (by decide)) (fun h => absurd h.2 (by decide)))) ((g171 23 6).resolve_left (fun h => h.elim (fun h => absurd h.2 (by decide)) (fun h => absurd h.2 (by decide)))) ((g171 23 7).resolve_left (fun h => h.elim (fun h => absurd h.2 (by decide)) (fun h => absurd h.2 (by decide)))) (fun k => (g171 24 k).resolve_left (fun h => h.elim (fun h => absurd h.1 (by decide)) (fun h => absurd h.1 (by decide))))
            have KTK_I172 := gc_TK_fr KTK_I20 ((g171 23 1).resolve_left (fun h => h.elim (fun h => absurd h.2 (by decide)) (fun h => absurd h.2 (by decide)))) ((g171 23 5).resolve_left (fun h => h.elim (fun h => absurd h.2 (by decide)) (fun h => absurd h.2 (by decide)))) ((g171 23 6).resolve_left (fun h => h.elim (fun h => absurd h.2 (by decide)) (fun h => absurd h.2 (by decide)))) ((g171 23 7).resolve_left (fun h => h.elim (fun h => absurd h.2 (by decide)) (fun h => absurd h.2 (by decide))))
            refine gv_callV hD rfl (As := [.inr (.inr (some (t + 3)))]) (st := []) rfl B_39 S_39 rfl (gc_lV6 hws rfl) (Nat.le_of_ble_eq_true rfl) (gz_Ev_mono (d := 3) (by decide) E171) ?_
            show gv_X _ _ (113, [(0, .inr (.inr (some 39))), (1, .inr (.inl v1_22)), (3, .inl v3_22), (4, .inl v4_22), (5, .inl v5_22)], [.inl z171], sh, gc_h sh I172 J21 A)
            refine gv_if_ne (t := 118) hD rfl rfl ⟨by omega, by omega⟩ (fun c181 => ?_) (fun c181 => ?_)
            · show gv_X _ _ (118, [(0, .inr (.inr (some 39))), (1, .inr (.inl v1_22)), (3, .inl v3_22), (4, .inl v4_22), (5, .inl v5_22)], [], sh, gc_h sh I172 J21 A)
              refine gv_run 2 true hD (pc' := 121) (lv' := [(6, .inl 0), (0, .inr (.inr (some 39))), (1, .inr (.inl v1_22)), (3, .inl v3_22), (4, .inl v4_22), (5, .inl v5_22)]) (st' := []) (h' := gc_h sh I172 J21 A) (C := ((True ∧ True) ∧ True)) rfl ⟨⟨trivial, trivial⟩, trivial⟩ ?_
              refine gv_pick [1, 2, 3, 4, 5, 0] rfl ?_
              exact L121 _ I172 J21 0 (Nat.lt_succ_self _) hI172 FI172 FJ21 KLT_I172 KTK_I172 (by omega)
            · show gv_X _ _ (116, [(0, .inr (.inr (some 39))), (1, .inr (.inl v1_22)), (3, .inl v3_22), (4, .inl v4_22), (5, .inl v5_22)], [], sh, gc_h sh I172 J21 A)
              refine gv_run 1 true hD (pc' := 117) (lv' := [(0, .inr (.inr (some 39))), (1, .inr (.inl v1_22)), (3, .inl v3_22), (4, .inl v4_22), (5, .inl v5_22)]) (st' := [.inl 0]) (h' := gc_h sh I172 J21 A) (C := (True ∧ True)) rfl ⟨trivial, trivial⟩ ?_
              exact gv_zret hD rfl (by omega) ⟨I172, J21, rfl, hI172, FI172, FJ21, KLT_I172, KTK_I172, ⟨_, rfl, by omega⟩⟩
          · show gv_X _ _ (89, [(0, .inr (.inr (some 39))), (1, .inr (.inl v1_22)), (3, .inl v3_22), (4, .inl v4_22), (5, .inl v5_22)], [], sh, gc_h sh I20 J21 A)
            refine gv_run 3 true hD (pc' := 92) (lv' := [(0, .inr (.inr (some 39))), (1, .inr (.inl v1_22)), (3, .inl v3_22), (4, .inl v4_22), (5, .inl v5_22)]) (st' := [.inr (.inr (some 39)), .inl 5, .inr (.inr (some 39))]) (h' := gc_h sh I20 J21 A) (C := (((True ∧ True) ∧ True) ∧ True)) rfl ⟨⟨⟨trivial, trivial⟩, trivial⟩, trivial⟩ ?_
            refine gv_get hD rfl rfl S_39 ⟨by decide, B_39⟩ (gc_hA S_39 rfl A_39_1) ?_
            show gv_X _ _ (95, [(0, .inr (.inr (some 39))), (1, .inr (.inl v1_22)), (3, .inl v3_22), (4, .inl v4_22), (5, .inl v5_22)], [.inr (.inr (some 23)), .inl 5, .inr (.inr (some 39))], sh, gc_h sh I20 J21 A)
            have f182 := (show 0 ≤ I20 23 5 ∧ I20 23 5 ≤ 1000 from gc_in hI20 R_23 rfl rfl)
            refine gv_get hD rfl rfl S_23 ⟨by decide, B_23⟩ (gc_hI S_23 rfl) ?_
            show gv_X _ _ (98, [(0, .inr (.inr (some 39))), (1, .inr (.inl v1_22)), (3, .inl v3_22), (4, .inl v4_22), (5, .inl v5_22)], [.inl (I20 23 5), .inl 5, .inr (.inr (some 39))], sh, gc_h sh I20 J21 A)
            obtain ⟨r183, h183, E183, P183⟩ := d_X6_wrong (ws0 := ws0) (tb := tb) hws htb sh ro I20 J21 A hI20  5 (I20 23 5) hb   ⟨by omega, by omega⟩ ⟨by omega, by omega⟩  
            obtain ⟨I184, J185, rfl, hI184, g183, k183, ⟨z183, rfl, q183⟩⟩ := P183
            have FI184 := gc_frc (W := fun q j => (q = 39 ∧ j = 3) ∨ (q = 39 ∧ j = 4) ∨ (q = 23 ∧ j = 5) ∨ (q = 23 ∧ j = 6) ∨ (q = 23 ∧ j = 7) ∨ (q = 23 ∧ j = 8) ∨ q = (t + 5) ∨ q = (t + 6) ∨ (q = (t + 3) ∧ j = 1) ∨ (q = (t + 1) ∧ j = 1)) (V := fun q j => (q = 39 ∧ j = 3) ∨ (q = 39 ∧ j = 4)) FI20 (fun q j h => (h.elim (fun h => (Or.inl h)) (fun h => (Or.inr (Or.inl h))))) g183
            have t186 := (g183 23 1).resolve_left (fun h => h.elim (fun h => absurd h.2 (by decide)) (fun h => absurd h.2 (by decide)))
            have t187 := (g183 23 5).resolve_left (fun h => h.elim (fun h => absurd h.2 (by decide)) (fun h => absurd h.2 (by decide)))
            have t188 := (g183 23 6).resolve_left (fun h => h.elim (fun h => absurd h.2 (by decide)) (fun h => absurd h.2 (by decide)))
            have t189 := (g183 23 7).resolve_left (fun h => h.elim (fun h => absurd h.2 (by decide)) (fun h => absurd h.2 (by decide)))
            have t190 := (g183 (t + 3) 1).resolve_left (fun h => h.elim (fun h => absurd h.2 (by decide)) (fun h => absurd h.2 (by decide)))
            have t191 := (g183 (t + 1) 1).resolve_left (fun h => h.elim (fun h => absurd h.2 (by decide)) (fun h => absurd h.2 (by decide)))
            have t192 := (g183 39 2).resolve_left (fun h => h.elim (fun h => absurd h.2 (by decide)) (fun h => absurd h.2 (by decide)))
            obtain rfl : J21 = J185 := funext fun q => funext fun j => ((k183 q j).resolve_left id).symm
            have KLT_I184 := gc_LT_fr KLT_I20 ((g183 23 5).resolve_left (fun h => h.elim (fun h => absurd h.2 (by decide)) (fun h => absurd h.2 (by decide)))) ((g183 23 6).resolve_left (fun h => h.elim (fun h => absurd h.2 (by decide)) (fun h => absurd h.2 (by decide)))) ((g183 23 7).resolve_left (fun h => h.elim (fun h => absurd h.2 (by decide)) (fun h => absurd h.2 (by decide)))) (fun k => (g183 24 k).resolve_left (fun h => h.elim (fun h => absurd h.1 (by decide)) (fun h => absurd h.1 (by decide))))
            have KTK_I184 := gc_TK_fr KTK_I20 ((g183 23 1).resolve_left (fun h => h.elim (fun h => absurd h.2 (by decide)) (fun h => absurd h.2 (by decide)))) ((g183 23 5).resolve_left (fun h => h.elim (fun h => absurd h.2 (by decide)) (fun h => absurd h.2 (by decide)))) ((g183 23 6).resolve_left (fun h => h.elim (fun h => absurd h.2 (by decide)) (fun h => absurd h.2 (by decide)))) ((g183 23 7).resolve_left (fun h => h.elim (fun h => absurd h.2 (by decide)) (fun h => absurd h.2 (by decide))))
            refine gv_callV hD rfl (As := [.inl 5, .inl (I20 23 5)]) (st := []) rfl B_39 S_39 rfl (gc_lV6 hws rfl) (Nat.le_of_ble_eq_true rfl) (gz_Ev_mono (d := 1) (by decide) E183) ?_
            show gv_X _ _ (101, [(0, .inr (.inr (some 39))), (1, .inr (.inl v1_22)), (3, .inl v3_22), (4, .inl v4_22), (5, .inl v5_22)], [.inl z183], sh, gc_h sh I184 J21 A)
            exact gv_zret hD rfl (by omega) ⟨I184, J21, rfl, hI184, FI184, FJ21, KLT_I184, KTK_I184, ⟨_, rfl, by omega⟩⟩
  refine gv_run 2 true hD (pc' := 2) (lv' := [(0, .inr (.inr (some 39)))]) (st' := [.inr (.inr (some 39)), .inr (.inr (some 39))]) (h' := gc_h sh I J A) (C := ((True ∧ True) ∧ True)) rfl ⟨⟨trivial, trivial⟩, trivial⟩ ?_
  refine gv_get hD rfl rfl S_39 ⟨by decide, B_39⟩ (gc_h5 (t := t) S_39 rfl (by omega)) ?_
  show gv_X _ _ (5, [(0, .inr (.inr (some 39)))], [.inr (.inr (some t)), .inr (.inr (some 39))], sh, gc_h sh I J A)
  refine gv_get hD rfl rfl S_t ⟨by decide, B_t⟩ (gc_hA S_t rfl A_t_0) ?_
  show gv_X _ _ (8, [(0, .inr (.inr (some 39)))], [.inr (.inr (some (t + 1))), .inr (.inr (some 39))], sh, gc_h sh I J A)
  obtain ⟨r193, h193, E193, P193⟩ := d_X6_needNew (ws0 := ws0) (tb := tb) hws htb sh ro I J A hI  8 6 (t + 1) hb h_t_1    
  obtain ⟨I194, J195, rfl, hI194, g193, k193, ⟨z193, rfl, q193⟩⟩ := P193
  have FI194 := gc_frc (W := fun q j => (q = 39 ∧ j = 3) ∨ (q = 39 ∧ j = 4) ∨ (q = 23 ∧ j = 5) ∨ (q = 23 ∧ j = 6) ∨ (q = 23 ∧ j = 7) ∨ (q = 23 ∧ j = 8) ∨ q = (t + 5) ∨ q = (t + 6) ∨ (q = (t + 3) ∧ j = 1) ∨ (q = (t + 1) ∧ j = 1)) (V := fun q j => (q = 39 ∧ j = 3) ∨ (q = 39 ∧ j = 4)) FI (fun q j h => (h.elim (fun h => (Or.inl h)) (fun h => (Or.inr (Or.inl h))))) g193
  have t196 := (g193 23 1).resolve_left (fun h => h.elim (fun h => absurd h.2 (by decide)) (fun h => absurd h.2 (by decide)))
  have t197 := (g193 23 5).resolve_left (fun h => h.elim (fun h => absurd h.2 (by decide)) (fun h => absurd h.2 (by decide)))
  have t198 := (g193 23 6).resolve_left (fun h => h.elim (fun h => absurd h.2 (by decide)) (fun h => absurd h.2 (by decide)))
  have t199 := (g193 23 7).resolve_left (fun h => h.elim (fun h => absurd h.2 (by decide)) (fun h => absurd h.2 (by decide)))
  have t200 := (g193 (t + 3) 1).resolve_left (fun h => h.elim (fun h => absurd h.2 (by decide)) (fun h => absurd h.2 (by decide)))
  have t201 := (g193 (t + 1) 1).resolve_left (fun h => h.elim (fun h => absurd h.2 (by decide)) (fun h => absurd h.2 (by decide)))
  have t202 := (g193 39 2).resolve_left (fun h => h.elim (fun h => absurd h.2 (by decide)) (fun h => absurd h.2 (by decide)))
  obtain rfl : J = J195 := funext fun q => funext fun j => ((k193 q j).resolve_left id).symm
  have KLT_I194 := gc_LT_fr KLT_I ((g193 23 5).resolve_left (fun h => h.elim (fun h => absurd h.2 (by decide)) (fun h => absurd h.2 (by decide)))) ((g193 23 6).resolve_left (fun h => h.elim (fun h => absurd h.2 (by decide)) (fun h => absurd h.2 (by decide)))) ((g193 23 7).resolve_left (fun h => h.elim (fun h => absurd h.2 (by decide)) (fun h => absurd h.2 (by decide)))) (fun k => (g193 24 k).resolve_left (fun h => h.elim (fun h => absurd h.1 (by decide)) (fun h => absurd h.1 (by decide))))
  have KTK_I194 := gc_TK_fr KTK_I ((g193 23 1).resolve_left (fun h => h.elim (fun h => absurd h.2 (by decide)) (fun h => absurd h.2 (by decide)))) ((g193 23 5).resolve_left (fun h => h.elim (fun h => absurd h.2 (by decide)) (fun h => absurd h.2 (by decide)))) ((g193 23 6).resolve_left (fun h => h.elim (fun h => absurd h.2 (by decide)) (fun h => absurd h.2 (by decide)))) ((g193 23 7).resolve_left (fun h => h.elim (fun h => absurd h.2 (by decide)) (fun h => absurd h.2 (by decide))))
  refine gv_callV hD rfl (As := [.inr (.inr (some (t + 1)))]) (st := []) rfl B_39 S_39 rfl (gc_lV6 hws rfl) (Nat.le_of_ble_eq_true rfl) (gz_Ev_mono (d := 3) (by decide) E193) ?_
  show gv_X _ _ (11, [(0, .inr (.inr (some 39)))], [.inl z193], sh, gc_h sh I194 J A)
  refine gv_if_ne (t := 16) hD rfl rfl ⟨by omega, by omega⟩ (fun c203 => ?_) (fun c203 => ?_)
  · show gv_X _ _ (16, [(0, .inr (.inr (some 39)))], [], sh, gc_h sh I194 J A)
    refine gv_run 1 true hD (pc' := 17) (lv' := [(0, .inr (.inr (some 39)))]) (st' := [.inr (.inr (some 39))]) (h' := gc_h sh I194 J A) (C := (True ∧ True)) rfl ⟨trivial, trivial⟩ ?_
    refine gv_get hD rfl rfl S_39 ⟨by decide, B_39⟩ (gc_hA S_39 rfl A_39_1) ?_
    show gv_X _ _ (20, [(0, .inr (.inr (some 39)))], [.inr (.inr (some 23))], sh, gc_h sh I194 J A)
    refine gv_get hD rfl rfl S_23 ⟨by decide, B_23⟩ (gc_hJ S_23 rfl) ?_
    show gv_X _ _ (23, [(0, .inr (.inr (some 39)))], [.inr (.inl (J 23 9))], sh, gc_h sh I194 J A)
    refine gv_run 2 true hD (pc' := 25) (lv' := [(1, .inr (.inl (J 23 9))), (0, .inr (.inr (some 39)))]) (st' := [.inr (.inr (some 39))]) (h' := gc_h sh I194 J A) (C := ((True ∧ True) ∧ True)) rfl ⟨⟨trivial, trivial⟩, trivial⟩ ?_
    refine gv_get hD rfl rfl S_39 ⟨by decide, B_39⟩ (gc_hA S_39 rfl A_39_1) ?_
    show gv_X _ _ (28, [(1, .inr (.inl (J 23 9))), (0, .inr (.inr (some 39)))], [.inr (.inr (some 23))], sh, gc_h sh I194 J A)
    have t205 := gc_TK_nx KTK_I194 (by omega)
    obtain ⟨r204, h204, E204, P204⟩ := d_X9_advance (ws0 := ws0) (tb := tb) hws htb sh ro I194 J A hI194 23  (gc_b23 hb)    (by omega) 
    obtain ⟨I206, J207, rfl, hI206, g204, k204, ⟨rfl, V204_0, V204_1, V204_2, V204_3, V204_4, q204⟩⟩ := P204
    have FI206 := gc_frc (W := fun q j => (q = 39 ∧ j = 3) ∨ (q = 39 ∧ j = 4) ∨ (q = 23 ∧ j = 5) ∨ (q = 23 ∧ j = 6) ∨ (q = 23 ∧ j = 7) ∨ (q = 23 ∧ j = 8) ∨ q = (t + 5) ∨ q = (t + 6) ∨ (q = (t + 3) ∧ j = 1) ∨ (q = (t + 1) ∧ j = 1)) (V := fun q j => (q = 23 ∧ j = 5) ∨ (q = 23 ∧ j = 6) ∨ (q = 23 ∧ j = 7) ∨ (q = 23 ∧ j = 8)) FI194 (fun q j h => (h.elim (fun h => (Or.inr (Or.inr (Or.inl h)))) (fun h => (h.elim (fun h => (Or.inr (Or.inr (Or.inr (Or.inl h))))) (fun h => (h.elim (fun h => (Or.inr (Or.inr (Or.inr (Or.inr (Or.inl h)))))) (fun h => (Or.inr (Or.inr (Or.inr (Or.inr (Or.inr (Or.inl h))))))))))))) g204
    have FJ207 := gc_frc (W := fun q j => (q = 23 ∧ j = 9) ∨ q = 42 ∨ q = (t + 4) ∨ q = (t + 2)) (V := fun q j => (q = 23 ∧ j = 9)) FJ (fun q j h => (Or.inl h)) k204
    have t208 := (g204 23 1).resolve_left (fun h => h.elim (fun h => absurd h.2 (by decide)) (fun h => h.elim (fun h => absurd h.2 (by decide)) (fun h => h.elim (fun h => absurd h.2 (by decide)) (fun h => absurd h.2 (by decide)))))
    have t209 := (g204 (t + 3) 1).resolve_left (fun h => h.elim (fun h => absurd h.2 (by decide)) (fun h => h.elim (fun h => absurd h.2 (by decide)) (fun h => h.elim (fun h => absurd h.2 (by decide)) (fun h => absurd h.2 (by decide)))))
    have t210 := (g204 (t + 1) 1).resolve_left (fun h => h.elim (fun h => absurd h.2 (by decide)) (fun h => h.elim (fun h => absurd h.2 (by decide)) (fun h => h.elim (fun h => absurd h.2 (by decide)) (fun h => absurd h.2 (by decide)))))
    have t211 := (g204 39 2).resolve_left (fun h => h.elim (fun h => absurd h.2 (by decide)) (fun h => h.elim (fun h => absurd h.2 (by decide)) (fun h => h.elim (fun h => absurd h.2 (by decide)) (fun h => absurd h.2 (by decide)))))
    have f212 := (show 0 ≤ I206 23 5 ∧ I206 23 5 ≤ 1000 from gc_in hI206 R_23 rfl rfl)
    have f213 := (show 0 ≤ I206 23 6 ∧ I206 23 6 ≤ 1001 from gc_in hI206 R_23 rfl rfl)
    have f214 := (show 0 ≤ I206 23 7 ∧ I206 23 7 ≤ 125 from gc_in hI206 R_23 rfl rfl)
    have KLT_I206 : gc_LT I206 := q204.2.2
    have KTK_I206 : gc_TK I206 := And.intro V204_0 (And.intro V204_1 (And.intro V204_2 (And.intro V204_3 V204_4)))
    have t215 := gc_TK_mo KTK_I206
    clear V204_0 V204_1 V204_2 V204_3 V204_4
    refine gv_callV hD rfl (As := []) (st := []) rfl B_23 S_23 rfl (gc_lV6 hws rfl) (Nat.le_of_ble_eq_true rfl) (gz_Ev_mono (d := 2) (by decide) E204) ?_
    show gv_X _ _ (31, [(1, .inr (.inl (J 23 9))), (0, .inr (.inr (some 39)))], [], sh, gc_h sh I206 J207 A)
    refine gv_run 2 true hD (pc' := 34) (lv' := [(1, .inr (.inl (J 23 9))), (0, .inr (.inr (some 39)))]) (st' := [.inl 61, .inr (.inr (some 39))]) (h' := gc_h sh I206 J207 A) (C := ((True ∧ True) ∧ True)) rfl ⟨⟨trivial, trivial⟩, trivial⟩ ?_
    obtain ⟨r216, h216, E216, P216⟩ := d_X6_take (ws0 := ws0) (tb := tb) hws htb sh ro I206 J207 A hI206  61 hb   ⟨by omega, by omega⟩ (by omega) KLT_I206 KTK_I206
    obtain ⟨I217, J218, rfl, hI217, g216, k216, KLT_I217, KTK_I217, ⟨z216, rfl, q216⟩⟩ := P216
    have FI217 := gc_frc (W := fun q j => (q = 39 ∧ j = 3) ∨ (q = 39 ∧ j = 4) ∨ (q = 23 ∧ j = 5) ∨ (q = 23 ∧ j = 6) ∨ (q = 23 ∧ j = 7) ∨ (q = 23 ∧ j = 8) ∨ q = (t + 5) ∨ q = (t + 6) ∨ (q = (t + 3) ∧ j = 1) ∨ (q = (t + 1) ∧ j = 1)) (V := fun q j => (q = 39 ∧ j = 3) ∨ (q = 39 ∧ j = 4) ∨ (q = 23 ∧ j = 5) ∨ (q = 23 ∧ j = 6) ∨ (q = 23 ∧ j = 7) ∨ (q = 23 ∧ j = 8)) FI206 (fun q j h => (h.elim (fun h => (Or.inl h)) (fun h => (h.elim (fun h => (Or.inr (Or.inl h))) (fun h => (h.elim (fun h => (Or.inr (Or.inr (Or.inl h)))) (fun h => (h.elim (fun h => (Or.inr (Or.inr (Or.inr (Or.inl h))))) (fun h => (h.elim (fun h => (Or.inr (Or.inr (Or.inr (Or.inr (Or.inl h)))))) (fun h => (Or.inr (Or.inr (Or.inr (Or.inr (Or.inr (Or.inl h))))))))))))))))) g216
    have FJ218 := gc_frc (W := fun q j => (q = 23 ∧ j = 9) ∨ q = 42 ∨ q = (t + 4) ∨ q = (t + 2)) (V := fun q j => (q = 23 ∧ j = 9)) FJ207 (fun q j h => (Or.inl h)) k216
    have t219 := (g216 23 1).resolve_left (fun h => h.elim (fun h => absurd h.2 (by decide)) (fun h => h.elim (fun h => absurd h.2 (by decide)) (fun h => h.elim (fun h => absurd h.2 (by decide)) (fun h => h.elim (fun h => absurd h.2 (by decide)) (fun h => h.elim (fun h => absurd h.2 (by decide)) (fun h => absurd h.2 (by decide)))))))
    have t220 := (g216 (t + 3) 1).resolve_left (fun h => h.elim (fun h => absurd h.2 (by decide)) (fun h => h.elim (fun h => absurd h.2 (by decide)) (fun h => h.elim (fun h => absurd h.2 (by decide)) (fun h => h.elim (fun h => absurd h.2 (by decide)) (fun h => h.elim (fun h => absurd h.2 (by decide)) (fun h => absurd h.2 (by decide)))))))
    have t221 := (g216 (t + 1) 1).resolve_left (fun h => h.elim (fun h => absurd h.2 (by decide)) (fun h => h.elim (fun h => absurd h.2 (by decide)) (fun h => h.elim (fun h => absurd h.2 (by decide)) (fun h => h.elim (fun h => absurd h.2 (by decide)) (fun h => h.elim (fun h => absurd h.2 (by decide)) (fun h => absurd h.2 (by decide)))))))
    have t222 := (g216 39 2).resolve_left (fun h => h.elim (fun h => absurd h.2 (by decide)) (fun h => h.elim (fun h => absurd h.2 (by decide)) (fun h => h.elim (fun h => absurd h.2 (by decide)) (fun h => h.elim (fun h => absurd h.2 (by decide)) (fun h => h.elim (fun h => absurd h.2 (by decide)) (fun h => absurd h.2 (by decide)))))))
    have f223 := (show 0 ≤ I217 23 5 ∧ I217 23 5 ≤ 1000 from gc_in hI217 R_23 rfl rfl)
    have f224 := (show 0 ≤ I217 23 6 ∧ I217 23 6 ≤ 1001 from gc_in hI217 R_23 rfl rfl)
    have f225 := (show 0 ≤ I217 23 7 ∧ I217 23 7 ≤ 125 from gc_in hI217 R_23 rfl rfl)
    have t226 := gc_TK_mo KTK_I217
    refine gv_callV hD rfl (As := [.inl 61]) (st := []) rfl B_39 S_39 rfl (gc_lV6 hws rfl) (Nat.le_of_ble_eq_true rfl) (gz_Ev_mono (d := 3) (by decide) E216) ?_
    show gv_X _ _ (37, [(1, .inr (.inl (J 23 9))), (0, .inr (.inr (some 39)))], [.inl z216], sh, gc_h sh I217 J218 A)
    refine gv_if_eq (t := 48) hD rfl rfl ⟨by omega, by omega⟩ (fun c227 => ?_) (fun c227 => ?_)
    · show gv_X _ _ (48, [(1, .inr (.inl (J 23 9))), (0, .inr (.inr (some 39)))], [], sh, gc_h sh I217 J218 A)
      refine gv_pick [] rfl ?_
      exact L48 I217 J218 hI217 FI217 FJ218 KLT_I217 KTK_I217 (by omega)
    · show gv_X _ _ (40, [(1, .inr (.inl (J 23 9))), (0, .inr (.inr (some 39)))], [], sh, gc_h sh I217 J218 A)
      refine gv_run 2 true hD (pc' := 42) (lv' := [(1, .inr (.inl (J 23 9))), (0, .inr (.inr (some 39)))]) (st' := [.inl 1, .inr (.inr (some 39))]) (h' := gc_h sh I217 J218 A) (C := ((True ∧ True) ∧ True)) rfl ⟨⟨trivial, trivial⟩, trivial⟩ ?_
      obtain ⟨r228, h228, E228, P228⟩ := d_X6_need (ws0 := ws0) (tb := tb) hws htb sh ro I217 J218 A hI217  1 hb   ⟨by omega, by omega⟩  
      obtain ⟨I229, J230, rfl, hI229, g228, k228, ⟨z228, rfl, q228⟩⟩ := P228
      have FI229 := gc_frc (W := fun q j => (q = 39 ∧ j = 3) ∨ (q = 39 ∧ j = 4) ∨ (q = 23 ∧ j = 5) ∨ (q = 23 ∧ j = 6) ∨ (q = 23 ∧ j = 7) ∨ (q = 23 ∧ j = 8) ∨ q = (t + 5) ∨ q = (t + 6) ∨ (q = (t + 3) ∧ j = 1) ∨ (q = (t + 1) ∧ j = 1)) (V := fun q j => (q = 39 ∧ j = 3) ∨ (q = 39 ∧ j = 4)) FI217 (fun q j h => (h.elim (fun h => (Or.inl h)) (fun h => (Or.inr (Or.inl h))))) g228
      have t231 := (g228 23 1).resolve_left (fun h => h.elim (fun h => absurd h.2 (by decide)) (fun h => absurd h.2 (by decide)))
      have t232 := (g228 23 5).resolve_left (fun h => h.elim (fun h => absurd h.2 (by decide)) (fun h => absurd h.2 (by decide)))
      have t233 := (g228 23 6).resolve_left (fun h => h.elim (fun h => absurd h.2 (by decide)) (fun h => absurd h.2 (by decide)))
      have t234 := (g228 23 7).resolve_left (fun h => h.elim (fun h => absurd h.2 (by decide)) (fun h => absurd h.2 (by decide)))
      have t235 := (g228 (t + 3) 1).resolve_left (fun h => h.elim (fun h => absurd h.2 (by decide)) (fun h => absurd h.2 (by decide)))
      have t236 := (g228 (t + 1) 1).resolve_left (fun h => h.elim (fun h => absurd h.2 (by decide)) (fun h => absurd h.2 (by decide)))
      have t237 := (g228 39 2).resolve_left (fun h => h.elim (fun h => absurd h.2 (by decide)) (fun h => absurd h.2 (by decide)))
      obtain rfl : J218 = J230 := funext fun q => funext fun j => ((k228 q j).resolve_left id).symm
      have KLT_I229 := gc_LT_fr KLT_I217 ((g228 23 5).resolve_left (fun h => h.elim (fun h => absurd h.2 (by decide)) (fun h => absurd h.2 (by decide)))) ((g228 23 6).resolve_left (fun h => h.elim (fun h => absurd h.2 (by decide)) (fun h => absurd h.2 (by decide)))) ((g228 23 7).resolve_left (fun h => h.elim (fun h => absurd h.2 (by decide)) (fun h => absurd h.2 (by decide)))) (fun k => (g228 24 k).resolve_left (fun h => h.elim (fun h => absurd h.1 (by decide)) (fun h => absurd h.1 (by decide))))
      have KTK_I229 := gc_TK_fr KTK_I217 ((g228 23 1).resolve_left (fun h => h.elim (fun h => absurd h.2 (by decide)) (fun h => absurd h.2 (by decide)))) ((g228 23 5).resolve_left (fun h => h.elim (fun h => absurd h.2 (by decide)) (fun h => absurd h.2 (by decide)))) ((g228 23 6).resolve_left (fun h => h.elim (fun h => absurd h.2 (by decide)) (fun h => absurd h.2 (by decide)))) ((g228 23 7).resolve_left (fun h => h.elim (fun h => absurd h.2 (by decide)) (fun h => absurd h.2 (by decide))))
      refine gv_callV hD rfl (As := [.inl 1]) (st := []) rfl B_39 S_39 rfl (gc_lV6 hws rfl) (Nat.le_of_ble_eq_true rfl) (gz_Ev_mono (d := 2) (by decide) E228) ?_
      show gv_X _ _ (45, [(1, .inr (.inl (J 23 9))), (0, .inr (.inr (some 39)))], [.inl z228], sh, gc_h sh I229 J218 A)
      refine gv_if_ne (t := 50) hD rfl rfl ⟨by omega, by omega⟩ (fun c238 => ?_) (fun c238 => ?_)
      · show gv_X _ _ (50, [(1, .inr (.inl (J 23 9))), (0, .inr (.inr (some 39)))], [], sh, gc_h sh I229 J218 A)
        refine gv_run 1 true hD (pc' := 51) (lv' := [(1, .inr (.inl (J 23 9))), (0, .inr (.inr (some 39)))]) (st' := [.inr (.inr (some 39))]) (h' := gc_h sh I229 J218 A) (C := (True ∧ True)) rfl ⟨trivial, trivial⟩ ?_
        refine gv_get hD rfl rfl S_39 ⟨by decide, B_39⟩ (gc_hA S_39 rfl A_39_1) ?_
        show gv_X _ _ (54, [(1, .inr (.inl (J 23 9))), (0, .inr (.inr (some 39)))], [.inr (.inr (some 23))], sh, gc_h sh I229 J218 A)
        have f239 := (show 0 ≤ I229 23 5 ∧ I229 23 5 ≤ 1000 from gc_in hI229 R_23 rfl rfl)
        refine gv_get hD rfl rfl S_23 ⟨by decide, B_23⟩ (gc_hI S_23 rfl) ?_
        show gv_X _ _ (57, [(1, .inr (.inl (J 23 9))), (0, .inr (.inr (some 39)))], [.inl (I229 23 5)], sh, gc_h sh I229 J218 A)
        refine gv_run 5 true hD (pc' := 64) (lv' := [(5, .inl 0), (4, .inl 0), (3, .inl (I229 23 5)), (1, .inr (.inl (J 23 9))), (0, .inr (.inr (some 39)))]) (st' := []) (h' := gc_h sh I229 J218 A) (C := (((((True ∧ True) ∧ True) ∧ True) ∧ True) ∧ True)) rfl ⟨⟨⟨⟨⟨trivial, trivial⟩, trivial⟩, trivial⟩, trivial⟩, trivial⟩ ?_
        refine gv_pick [4, 3, 2, 1, 0] rfl ?_
        exact L64 _ I229 J218 (J 23 9) (I229 23 5) 0 0 (Nat.lt_succ_self _) hI229 FI229 FJ218 KLT_I229 KTK_I229 (by omega)
      · show gv_X _ _ (48, [(1, .inr (.inl (J 23 9))), (0, .inr (.inr (some 39)))], [], sh, gc_h sh I229 J218 A)
        refine gv_pick [] rfl ?_
        exact L48 I229 J218 hI229 FI229 FJ218 KLT_I229 KTK_I229 (by omega)
  · show gv_X _ _ (14, [(0, .inr (.inr (some 39)))], [], sh, gc_h sh I194 J A)
    refine gv_run 1 true hD (pc' := 15) (lv' := [(0, .inr (.inr (some 39)))]) (st' := [.inl 0]) (h' := gc_h sh I194 J A) (C := (True ∧ True)) rfl ⟨trivial, trivial⟩ ?_
    exact gv_zret hD rfl (by omega) ⟨I194, J, rfl, hI194, FI194, FJ, KLT_I194, KTK_I194, ⟨_, rfl, by omega⟩⟩
set_option maxHeartbeats 4000000 in
set_option maxRecDepth 100000 in
theorem d_X6_readClass {ws0 : List Cond} {tb : String → gz_T} (hws : gc_Ws ws0) (htb : gc_tbs tb) (sh : gz_Sh) (ro : Nat → Nat) (I : gr_I) (J : gr_J) (A : gc_A) (hI : gc_Inv ro I) (t : Nat)  (hb : gc_Base sh ro A) (h_t : gc_isTongue sh ro A t) (G_t : 144 ≤ t)  (x0 : I 39 2 = (t : Int)) (KLT_I : gc_LT I) (KTK_I : gc_TK I) : ∃ r h', gz_Ev ws0 tb 5 (yX6_readClass, cX6_readClass, 5, (some .boolean)) [.inr (.inr (some 39))] sh (gc_h sh I J A) r sh h' 0 0 ∧ (∃ (I' : gr_I) (J' : gr_J), h' = gc_h sh I' J' A ∧ gc_Inv ro I' ∧ (∀ q j : Nat, ((q = 39 ∧ j = 3) ∨ (q = 39 ∧ j = 4) ∨ (q = 23 ∧ j = 5) ∨ (q = 23 ∧ j = 6) ∨ (q = 23 ∧ j = 7) ∨ (q = 23 ∧ j = 8) ∨ q = (t + 9) ∨ (q = (t + 7) ∧ j = 1)) ∨ I' q j = I q j) ∧ (∀ q j : Nat, ((q = 23 ∧ j = 9) ∨ q = (t + 8)) ∨ J' q j = J q j) ∧ gc_LT I' ∧ gc_TK I' ∧ (∃ z : Int, r = some (.inl z) ∧ 0 ≤ z ∧ z ≤ 1 ∧ (I' 23 1 = I 23 1) ∧ (I 23 5 ≤ I' 23 5))) := by
  have FI : ∀ q j : Nat, ((q = 39 ∧ j = 3) ∨ (q = 39 ∧ j = 4) ∨ (q = 23 ∧ j = 5) ∨ (q = 23 ∧ j = 6) ∨ (q = 23 ∧ j = 7) ∨ (q = 23 ∧ j = 8) ∨ q = (t + 9) ∨ (q = (t + 7) ∧ j = 1)) ∨ I q j = I q j := fun _ _ => Or.inr rfl
  have FJ : ∀ q j : Nat, ((q = 23 ∧ j = 9) ∨ q = (t + 8)) ∨ J q j = J q j := fun _ _ => Or.inr rfl
  have A_23_0 : A 23 0 = some 24 := gc_bA hb rfl
  have A_39_1 : A 39 1 = some 23 := gc_bA hb rfl
  have B_23 : 23 < 1000000 := by decide
  have B_24 : 24 < 1000000 := by decide
  have B_39 : 39 < 1000000 := by decide
  have R_23 : ro 23 = 3 := gc_bR hb (by decide) rfl
  have R_24 : ro 24 = 1 := gc_bR hb (by decide) rfl
  have R_39 : ro 39 = 42 := gc_bR hb (by decide) rfl
  have S_23 : sh[23]? = some (false, 9, 10) := gc_bS hb rfl
  have S_24 : sh[24]? = some (true, 0, 1000) := gc_bS hb rfl
  have S_39 : sh[39]? = some (false, 6, 19) := gc_bS hb rfl
  obtain ⟨S_t, R_t, B_t, A_t_0, h_t_1, A_t_1, h_t_3, A_t_2, S_t_5, R_t_5, B_t_5, A_t_3, S_t_6, R_t_6, B_t_6, A_t_4, h_t_7, A_t_5, S_t_9, R_t_9, B_t_9, A_t_7, S_t_10, R_t_10, B_t_10, A_t_8, h_t_11, A_t_9, S_t_13, R_t_13, B_t_13, A_t_10, S_t_14, R_t_14, B_t_14, A_t_12, S_t_15, R_t_15, B_t_15, A_t_14, S_t_16, R_t_16, B_t_16, A_t_15, h_t_17⟩ := id h_t
  obtain ⟨S_t_1, R_t_1, B_t_1, A_t_1_0, S_t_1_1, R_t_1_1, B_t_1_1, Q0_t_1, Q1_t_1, Q2_t_1⟩ := id h_t_1
  obtain ⟨S_t_3, R_t_3, B_t_3, A_t_3_0, S_t_3_1, R_t_3_1, B_t_3_1, Q0_t_3, Q1_t_3, Q2_t_3⟩ := id h_t_3
  obtain ⟨S_t_7, R_t_7, B_t_7, A_t_7_0, S_t_7_1, R_t_7_1, B_t_7_1, Q0_t_7, Q1_t_7, Q2_t_7⟩ := id h_t_7
  obtain ⟨S_t_11, R_t_11, B_t_11, A_t_11_0, S_t_11_1, R_t_11_1, B_t_11_1, Q0_t_11, Q1_t_11, Q2_t_11⟩ := id h_t_11
  obtain ⟨S_t_17, R_t_17, B_t_17, A_t_17_0, S_20, R_20, B_20, A_t_17_1, S_t_17_1, R_t_17_1, B_t_17_1, A_t_17_2, S_t_17_2, R_t_17_2, B_t_17_2, A_t_17_3, S_t_17_3, R_t_17_3, B_t_17_3, A_t_17_4, S_t_17_4, R_t_17_4, B_t_17_4, A_t_17_5, S_t_17_5, R_t_17_5, B_t_17_5, S_t_17_6, R_t_17_6, B_t_17_6, S_t_17_7, R_t_17_7, B_t_17_7⟩ := id h_t_17
  have hD : gv_D (gc_E6 ws0 tb 4 (yX6_readClass, cX6_readClass, 5, (some .boolean)) kX6_readClass) := gq_ok oX6_readClass
  refine gc_ev6 (d := 4) (l := kX6_readClass) (Po := fun r h' => (∃ (I' : gr_I) (J' : gr_J), h' = gc_h sh I' J' A ∧ gc_Inv ro I' ∧ (∀ q j : Nat, ((q = 39 ∧ j = 3) ∨ (q = 39 ∧ j = 4) ∨ (q = 23 ∧ j = 5) ∨ (q = 23 ∧ j = 6) ∨ (q = 23 ∧ j = 7) ∨ (q = 23 ∧ j = 8) ∨ q = (t + 9) ∨ (q = (t + 7) ∧ j = 1)) ∨ I' q j = I q j) ∧ (∀ q j : Nat, ((q = 23 ∧ j = 9) ∨ q = (t + 8)) ∨ J' q j = J q j) ∧ gc_LT I' ∧ gc_TK I' ∧ (∃ z : Int, r = some (.inl z) ∧ 0 ≤ z ∧ z ≤ 1 ∧ (I' 23 1 = I 23 1) ∧ (I 23 5 ≤ I' 23 5)))) htb rfl (Nat.le_of_ble_eq_true rfl) ?_
  have N_23__t_9 : ¬ (23 = (t + 9)) := by omega
  have N_t_7__t_9 : ¬ ((t + 7) = (t + 9)) := by omega
  have N_39__t_9 : ¬ (39 = (t + 9)) := by omega
  have N_24__t_9 : ¬ (24 = (t + 9)) := by omega
  have N_23__t_7 : ¬ (23 = (t + 7)) := by omega
  have N_24__t_7 : ¬ (24 = (t + 7)) := by omega
  have t1 := gc_TK_mo KTK_I
  have f2 := (show 0 ≤ I 23 1 ∧ I 23 1 ≤ 1000 from gc_in hI R_23 rfl rfl)
  have f3 := (show 0 ≤ I 23 5 ∧ I 23 5 ≤ 1000 from gc_in hI R_23 rfl rfl)
  have f4 := (show 0 ≤ I 23 6 ∧ I 23 6 ≤ 1001 from gc_in hI R_23 rfl rfl)
  have f5 := (show 0 ≤ I 23 7 ∧ I 23 7 ≤ 125 from gc_in hI R_23 rfl rfl)
  have f6 := (show 0 ≤ I (t + 7) 1 ∧ I (t + 7) 1 ≤ 16 from gc_in hI R_t_7 rfl rfl)
  have f7 := (show (-1) ≤ I 39 2 ∧ I 39 2 ≤ 999999 from gc_in hI R_39 rfl rfl)
  have L48 : ∀ (I8 : gr_I) (J9 : gr_J) , gc_Inv ro I8 → (∀ q j : Nat, ((q = 39 ∧ j = 3) ∨ (q = 39 ∧ j = 4) ∨ (q = 23 ∧ j = 5) ∨ (q = 23 ∧ j = 6) ∨ (q = 23 ∧ j = 7) ∨ (q = 23 ∧ j = 8) ∨ q = (t + 9) ∨ (q = (t + 7) ∧ j = 1)) ∨ I8 q j = I q j) → (∀ q j : Nat, ((q = 23 ∧ j = 9) ∨ q = (t + 8)) ∨ J9 q j = J q j) → gc_LT I8 → gc_TK I8 → ((I8 23 1 = I 23 1) ∧ (I 23 5 ≤ I8 23 5) ∧ (I8 39 2 = (t : Int))) → gv_X (gc_E6 ws0 tb 4 (yX6_readClass, cX6_readClass, 5, (some .boolean)) kX6_readClass) (gv_Q cX6_readClass (some .boolean) sh (fun r h' => (∃ (I' : gr_I) (J' : gr_J), h' = gc_h sh I' J' A ∧ gc_Inv ro I' ∧ (∀ q j : Nat, ((q = 39 ∧ j = 3) ∨ (q = 39 ∧ j = 4) ∨ (q = 23 ∧ j = 5) ∨ (q = 23 ∧ j = 6) ∨ (q = 23 ∧ j = 7) ∨ (q = 23 ∧ j = 8) ∨ q = (t + 9) ∨ (q = (t + 7) ∧ j = 1)) ∨ I' q j = I q j) ∧ (∀ q j : Nat, ((q = 23 ∧ j = 9) ∨ q = (t + 8)) ∨ J' q j = J q j) ∧ gc_LT I' ∧ gc_TK I' ∧ (∃ z : Int, r = some (.inl z) ∧ 0 ≤ z ∧ z ≤ 1 ∧ (I' 23 1 = I 23 1) ∧ (I 23 5 ≤ I' 23 5))))) (48, [], [], sh, gc_h sh I8 J9 A) := by
    intro I8 J9 hI8 FI8 FJ9 KLT_I8 KTK_I8 m_10
    obtain ⟨e0_10, e1_10, e2_10⟩ := m_10
    have t11 := gc_TK_mo KTK_I8
    have f12 := (show 0 ≤ I8 23 1 ∧ I8 23 1 ≤ 1000 from gc_in hI8 R_23 rfl rfl)
    have f13 := (show 0 ≤ I8 23 5 ∧ I8 23 5 ≤ 1000 from gc_in hI8 R_23 rfl rfl)
    have f14 := (show 0 ≤ I8 23 6 ∧ I8 23 6 ≤ 1001 from gc_in hI8 R_23 rfl rfl)
    have f15 := (show 0 ≤ I8 23 7 ∧ I8 23 7 ≤ 125 from gc_in hI8 R_23 rfl rfl)
    have f16 := (show 0 ≤ I8 (t + 7) 1 ∧ I8 (t + 7) 1 ≤ 16 from gc_in hI8 R_t_7 rfl rfl)
    have f17 := (show (-1) ≤ I8 39 2 ∧ I8 39 2 ≤ 999999 from gc_in hI8 R_39 rfl rfl)
    refine gv_run 1 true hD (pc' := 49) (lv' := []) (st' := [.inl 0]) (h' := gc_h sh I8 J9 A) (C := (True ∧ True)) rfl ⟨trivial, trivial⟩ ?_
    exact gv_zret hD rfl (by omega) ⟨I8, J9, rfl, hI8, FI8, FJ9, KLT_I8, KTK_I8, ⟨_, rfl, by omega⟩⟩
  have L55 : ∀ (n9 : Nat) (I18 : gr_I) (J19 : gr_J) (v1_20 : Int64) (v3_20 : Int) (v4_20 : Int), (14 - v4_20).toNat < n9 → gc_Inv ro I18 → (∀ q j : Nat, ((q = 39 ∧ j = 3) ∨ (q = 39 ∧ j = 4) ∨ (q = 23 ∧ j = 5) ∨ (q = 23 ∧ j = 6) ∨ (q = 23 ∧ j = 7) ∨ (q = 23 ∧ j = 8) ∨ q = (t + 9) ∨ (q = (t + 7) ∧ j = 1)) ∨ I18 q j = I q j) → (∀ q j : Nat, ((q = 23 ∧ j = 9) ∨ q = (t + 8)) ∨ J19 q j = J q j) → gc_LT I18 → gc_TK I18 → (((-2147483648) ≤ v3_20 ∧ v3_20 ≤ 2147483647) ∧ (1 ≤ v4_20 ∧ v4_20 ≤ 13) ∧ (I18 23 7 = 3) ∧ (I18 23 1 = I 23 1) ∧ (I 23 5 ≤ I18 23 5) ∧ (I18 39 2 = (t : Int))) → gv_X (gc_E6 ws0 tb 4 (yX6_readClass, cX6_readClass, 5, (some .boolean)) kX6_readClass) (gv_Q cX6_readClass (some .boolean) sh (fun r h' => (∃ (I' : gr_I) (J' : gr_J), h' = gc_h sh I' J' A ∧ gc_Inv ro I' ∧ (∀ q j : Nat, ((q = 39 ∧ j = 3) ∨ (q = 39 ∧ j = 4) ∨ (q = 23 ∧ j = 5) ∨ (q = 23 ∧ j = 6) ∨ (q = 23 ∧ j = 7) ∨ (q = 23 ∧ j = 8) ∨ q = (t + 9) ∨ (q = (t + 7) ∧ j = 1)) ∨ I' q j = I q j) ∧ (∀ q j : Nat, ((q = 23 ∧ j = 9) ∨ q = (t + 8)) ∨ J' q j = J q j) ∧ gc_LT I' ∧ gc_TK I' ∧ (∃ z : Int, r = some (.inl z) ∧ 0 ≤ z ∧ z ≤ 1 ∧ (I' 23 1 = I 23 1) ∧ (I 23 5 ≤ I' 23 5))))) (55, [(0, .inr (.inr (some 39))), (1, .inr (.inl v1_20)), (3, .inl v3_20), (4, .inl v4_20)], [], sh, gc_h sh I18 J19 A) := by
    intro n9
    induction n9 with
    | zero => intro I18 J19 v1_20 v3_20 v4_20 hn; omega
    | succ n9 ih55 =>
      intro I18 J19 v1_20 v3_20 v4_20 hn hI18 FI18 FJ19 KLT_I18 KTK_I18 m_20
      obtain ⟨hv3_20, hv4_20, e0_20, e1_20, e2_20, e3_20⟩ := m_20
      have t21 := gc_TK_mo KTK_I18
      have f22 := (show 0 ≤ I18 23 1 ∧ I18 23 1 ≤ 1000 from gc_in hI18 R_23 rfl rfl)
      have f23 := (show 0 ≤ I18 23 5 ∧ I18 23 5 ≤ 1000 from gc_in hI18 R_23 rfl rfl)
      have f24 := (show 0 ≤ I18 23 6 ∧ I18 23 6 ≤ 1001 from gc_in hI18 R_23 rfl rfl)
      have f25 := (show 0 ≤ I18 23 7 ∧ I18 23 7 ≤ 125 from gc_in hI18 R_23 rfl rfl)
      have f26 := (show 0 ≤ I18 (t + 7) 1 ∧ I18 (t + 7) 1 ≤ 16 from gc_in hI18 R_t_7 rfl rfl)
      have f27 := (show (-1) ≤ I18 39 2 ∧ I18 39 2 ≤ 999999 from gc_in hI18 R_39 rfl rfl)
      refine gv_run 2 true hD (pc' := 58) (lv' := [(0, .inr (.inr (some 39))), (1, .inr (.inl v1_20)), (3, .inl v3_20), (4, .inl v4_20)]) (st' := [.inr (.inr (some 39)), .inl v4_20]) (h' := gc_h sh I18 J19 A) (C := ((True ∧ True) ∧ True)) rfl ⟨⟨trivial, trivial⟩, trivial⟩ ?_
      refine gv_get hD rfl rfl S_39 ⟨by decide, B_39⟩ (gc_hA S_39 rfl A_39_1) ?_
      show gv_X _ _ (61, [(0, .inr (.inr (some 39))), (1, .inr (.inl v1_20)), (3, .inl v3_20), (4, .inl v4_20)], [.inr (.inr (some 23)), .inl v4_20], sh, gc_h sh I18 J19 A)
      have t29 := gc_TK_l3 KTK_I18 (by omega)
      obtain ⟨r28, h28, E28, P28⟩ := d_X9_lettersSize (ws0 := ws0) (tb := tb) hws htb sh ro I18 J19 A hI18 23  (gc_b23 hb)     
      obtain ⟨rfl, ⟨z28, rfl, q28⟩⟩ := P28
      refine gv_callV hD rfl (As := []) (st := [.inl v4_20]) rfl B_23 S_23 rfl (gc_lV6 hws rfl) (Nat.le_of_ble_eq_true rfl) (gz_Ev_mono (d := 1) (by decide) E28) ?_
      show gv_X _ _ (64, [(0, .inr (.inr (some 39))), (1, .inr (.inl v1_20)), (3, .inl v3_20), (4, .inl v4_20)], [.inl z28, .inl v4_20], sh, gc_h sh I18 J19 A)
      refine gv_icmp_gt (t := 99) hD rfl rfl ⟨⟨by omega, by omega⟩, ⟨by omega, by omega⟩⟩ (fun c30 => ?_) (fun c30 => ?_)
      · show gv_X _ _ (99, [(0, .inr (.inr (some 39))), (1, .inr (.inl v1_20)), (3, .inl v3_20), (4, .inl v4_20)], [], sh, gc_h sh I18 J19 A)
        refine gv_run 1 true hD (pc' := 100) (lv' := [(0, .inr (.inr (some 39))), (1, .inr (.inl v1_20)), (3, .inl v3_20), (4, .inl v4_20)]) (st' := [.inr (.inr (some 39))]) (h' := gc_h sh I18 J19 A) (C := (True ∧ True)) rfl ⟨trivial, trivial⟩ ?_
        refine gv_get hD rfl rfl S_39 ⟨by decide, B_39⟩ (gc_hA S_39 rfl A_39_1) ?_
        show gv_X _ _ (103, [(0, .inr (.inr (some 39))), (1, .inr (.inl v1_20)), (3, .inl v3_20), (4, .inl v4_20)], [.inr (.inr (some 23))], sh, gc_h sh I18 J19 A)
        have t32 := gc_TK_nx KTK_I18 (by omega)
        obtain ⟨r31, h31, E31, P31⟩ := d_X9_advance (ws0 := ws0) (tb := tb) hws htb sh ro I18 J19 A hI18 23  (gc_b23 hb)    (by omega) 
        obtain ⟨I33, J34, rfl, hI33, g31, k31, ⟨rfl, V31_0, V31_1, V31_2, V31_3, V31_4, q31⟩⟩ := P31
        have FI33 := gc_frc (W := fun q j => (q = 39 ∧ j = 3) ∨ (q = 39 ∧ j = 4) ∨ (q = 23 ∧ j = 5) ∨ (q = 23 ∧ j = 6) ∨ (q = 23 ∧ j = 7) ∨ (q = 23 ∧ j = 8) ∨ q = (t + 9) ∨ (q = (t + 7) ∧ j = 1)) (V := fun q j => (q = 23 ∧ j = 5) ∨ (q = 23 ∧ j = 6) ∨ (q = 23 ∧ j = 7) ∨ (q = 23 ∧ j = 8)) FI18 (fun q j h => (h.elim (fun h => (Or.inr (Or.inr (Or.inl h)))) (fun h => (h.elim (fun h => (Or.inr (Or.inr (Or.inr (Or.inl h))))) (fun h => (h.elim (fun h => (Or.inr (Or.inr (Or.inr (Or.inr (Or.inl h)))))) (fun h => (Or.inr (Or.inr (Or.inr (Or.inr (Or.inr (Or.inl h))))))))))))) g31
        have FJ34 := gc_frc (W := fun q j => (q = 23 ∧ j = 9) ∨ q = (t + 8)) (V := fun q j => (q = 23 ∧ j = 9)) FJ19 (fun q j h => (Or.inl h)) k31
        have t35 := (g31 23 1).resolve_left (fun h => h.elim (fun h => absurd h.2 (by decide)) (fun h => h.elim (fun h => absurd h.2 (by decide)) (fun h => h.elim (fun h => absurd h.2 (by decide)) (fun h => absurd h.2 (by decide)))))
        have t36 := (g31 (t + 7) 1).resolve_left (fun h => h.elim (fun h => absurd h.2 (by decide)) (fun h => h.elim (fun h => absurd h.2 (by decide)) (fun h => h.elim (fun h => absurd h.2 (by decide)) (fun h => absurd h.2 (by decide)))))
        have t37 := (g31 39 2).resolve_left (fun h => h.elim (fun h => absurd h.2 (by decide)) (fun h => h.elim (fun h => absurd h.2 (by decide)) (fun h => h.elim (fun h => absurd h.2 (by decide)) (fun h => absurd h.2 (by decide)))))
        have f38 := (show 0 ≤ I33 23 5 ∧ I33 23 5 ≤ 1000 from gc_in hI33 R_23 rfl rfl)
        have f39 := (show 0 ≤ I33 23 6 ∧ I33 23 6 ≤ 1001 from gc_in hI33 R_23 rfl rfl)
        have f40 := (show 0 ≤ I33 23 7 ∧ I33 23 7 ≤ 125 from gc_in hI33 R_23 rfl rfl)
        have KLT_I33 : gc_LT I33 := q31.2.2
        have KTK_I33 : gc_TK I33 := And.intro V31_0 (And.intro V31_1 (And.intro V31_2 (And.intro V31_3 V31_4)))
        have t41 := gc_TK_mo KTK_I33
        clear V31_0 V31_1 V31_2 V31_3 V31_4
        refine gv_callV hD rfl (As := []) (st := []) rfl B_23 S_23 rfl (gc_lV6 hws rfl) (Nat.le_of_ble_eq_true rfl) (gz_Ev_mono (d := 2) (by decide) E31) ?_
        show gv_X _ _ (106, [(0, .inr (.inr (some 39))), (1, .inr (.inl v1_20)), (3, .inl v3_20), (4, .inl v4_20)], [], sh, gc_h sh I33 J34 A)
        refine gv_run 2 true hD (pc' := 108) (lv' := [(0, .inr (.inr (some 39))), (1, .inr (.inl v1_20)), (3, .inl v3_20), (4, .inl v4_20)]) (st' := [.inr (.inr (some 39)), .inr (.inr (some 39))]) (h' := gc_h sh I33 J34 A) (C := ((True ∧ True) ∧ True)) rfl ⟨⟨trivial, trivial⟩, trivial⟩ ?_
        refine gv_get hD rfl rfl S_39 ⟨by decide, B_39⟩ (gc_h5 (t := t) S_39 rfl (by omega)) ?_
        show gv_X _ _ (111, [(0, .inr (.inr (some 39))), (1, .inr (.inl v1_20)), (3, .inl v3_20), (4, .inl v4_20)], [.inr (.inr (some t)), .inr (.inr (some 39))], sh, gc_h sh I33 J34 A)
        refine gv_get hD rfl rfl S_t ⟨by decide, B_t⟩ (gc_hA S_t rfl A_t_4) ?_
        show gv_X _ _ (114, [(0, .inr (.inr (some 39))), (1, .inr (.inl v1_20)), (3, .inl v3_20), (4, .inl v4_20)], [.inr (.inr (some (t + 7))), .inr (.inr (some 39))], sh, gc_h sh I33 J34 A)
        obtain ⟨r42, h42, E42, P42⟩ := d_X4_isFull (ws0 := ws0) (tb := tb) hws htb sh ro I33 J34 A hI33 (t + 7) 16 7  h_t_7     
        obtain ⟨rfl, ⟨z42, rfl, q42⟩⟩ := P42
        refine gv_callV hD rfl (As := []) (st := [.inr (.inr (some 39))]) rfl B_t_7 S_t_7 rfl (gc_lV6 hws rfl) (Nat.le_of_ble_eq_true rfl) (gz_Ev_mono (d := 1) (by decide) E42) ?_
        show gv_X _ _ (117, [(0, .inr (.inr (some 39))), (1, .inr (.inl v1_20)), (3, .inl v3_20), (4, .inl v4_20)], [.inl z42, .inr (.inr (some 39))], sh, gc_h sh I33 J34 A)
        obtain ⟨r43, h43, E43, P43⟩ := d_X6_closes (ws0 := ws0) (tb := tb) hws htb sh ro I33 J34 A hI33  z42 hb   ⟨by omega, by omega⟩  KLT_I33 KTK_I33
        obtain ⟨I44, J45, rfl, hI44, g43, k43, KLT_I44, KTK_I44, ⟨z43, rfl, q43⟩⟩ := P43
        have FI44 := gc_frc (W := fun q j => (q = 39 ∧ j = 3) ∨ (q = 39 ∧ j = 4) ∨ (q = 23 ∧ j = 5) ∨ (q = 23 ∧ j = 6) ∨ (q = 23 ∧ j = 7) ∨ (q = 23 ∧ j = 8) ∨ q = (t + 9) ∨ (q = (t + 7) ∧ j = 1)) (V := fun q j => (q = 39 ∧ j = 3) ∨ (q = 39 ∧ j = 4) ∨ (q = 23 ∧ j = 5) ∨ (q = 23 ∧ j = 6) ∨ (q = 23 ∧ j = 7) ∨ (q = 23 ∧ j = 8)) FI33 (fun q j h => (h.elim (fun h => (Or.inl h)) (fun h => (h.elim (fun h => (Or.inr (Or.inl h))) (fun h => (h.elim (fun h => (Or.inr (Or.inr (Or.inl h)))) (fun h => (h.elim (fun h => (Or.inr (Or.inr (Or.inr (Or.inl h))))) (fun h => (h.elim (fun h => (Or.inr (Or.inr (Or.inr (Or.inr (Or.inl h)))))) (fun h => (Or.inr (Or.inr (Or.inr (Or.inr (Or.inr (Or.inl h))))))))))))))))) g43
        have FJ45 := gc_frc (W := fun q j => (q = 23 ∧ j = 9) ∨ q = (t + 8)) (V := fun q j => (q = 23 ∧ j = 9)) FJ34 (fun q j h => (Or.inl h)) k43
        have t46 := (g43 23 1).resolve_left (fun h => h.elim (fun h => absurd h.2 (by decide)) (fun h => h.elim (fun h => absurd h.2 (by decide)) (fun h => h.elim (fun h => absurd h.2 (by decide)) (fun h => h.elim (fun h => absurd h.2 (by decide)) (fun h => h.elim (fun h => absurd h.2 (by decide)) (fun h => absurd h.2 (by decide)))))))
        have t47 := (g43 (t + 7) 1).resolve_left (fun h => h.elim (fun h => absurd h.2 (by decide)) (fun h => h.elim (fun h => absurd h.2 (by decide)) (fun h => h.elim (fun h => absurd h.2 (by decide)) (fun h => h.elim (fun h => absurd h.2 (by decide)) (fun h => h.elim (fun h => absurd h.2 (by decide)) (fun h => absurd h.2 (by decide)))))))
        have t48 := (g43 39 2).resolve_left (fun h => h.elim (fun h => absurd h.2 (by decide)) (fun h => h.elim (fun h => absurd h.2 (by decide)) (fun h => h.elim (fun h => absurd h.2 (by decide)) (fun h => h.elim (fun h => absurd h.2 (by decide)) (fun h => h.elim (fun h => absurd h.2 (by decide)) (fun h => absurd h.2 (by decide)))))))
        have f49 := (show 0 ≤ I44 23 5 ∧ I44 23 5 ≤ 1000 from gc_in hI44 R_23 rfl rfl)
        have f50 := (show 0 ≤ I44 23 6 ∧ I44 23 6 ≤ 1001 from gc_in hI44 R_23 rfl rfl)
        have f51 := (show 0 ≤ I44 23 7 ∧ I44 23 7 ≤ 125 from gc_in hI44 R_23 rfl rfl)
        have t52 := gc_TK_mo KTK_I44
        refine gv_callV hD rfl (As := [.inl z42]) (st := []) rfl B_39 S_39 rfl (gc_lV6 hws rfl) (Nat.le_of_ble_eq_true rfl) (gz_Ev_mono (d := 4) (by decide) E43) ?_
        show gv_X _ _ (120, [(0, .inr (.inr (some 39))), (1, .inr (.inl v1_20)), (3, .inl v3_20), (4, .inl v4_20)], [.inl z43], sh, gc_h sh I44 J45 A)
        refine gv_if_ne (t := 125) hD rfl rfl ⟨by omega, by omega⟩ (fun c53 => ?_) (fun c53 => ?_)
        · show gv_X _ _ (125, [(0, .inr (.inr (some 39))), (1, .inr (.inl v1_20)), (3, .inl v3_20), (4, .inl v4_20)], [], sh, gc_h sh I44 J45 A)
          refine gv_run 1 true hD (pc' := 126) (lv' := [(0, .inr (.inr (some 39))), (1, .inr (.inl v1_20)), (3, .inl v3_20), (4, .inl v4_20)]) (st' := [.inr (.inr (some 39))]) (h' := gc_h sh I44 J45 A) (C := (True ∧ True)) rfl ⟨trivial, trivial⟩ ?_
          refine gv_get hD rfl rfl S_39 ⟨by decide, B_39⟩ (gc_h5 (t := t) S_39 rfl (by omega)) ?_
          show gv_X _ _ (129, [(0, .inr (.inr (some 39))), (1, .inr (.inl v1_20)), (3, .inl v3_20), (4, .inl v4_20)], [.inr (.inr (some t))], sh, gc_h sh I44 J45 A)
          refine gv_get hD rfl rfl S_t ⟨by decide, B_t⟩ (gc_hA S_t rfl A_t_5) ?_
          show gv_X _ _ (132, [(0, .inr (.inr (some 39))), (1, .inr (.inl v1_20)), (3, .inl v3_20), (4, .inl v4_20)], [.inr (.inr (some (t + 9)))], sh, gc_h sh I44 J45 A)
          refine gv_run 1 true hD (pc' := 133) (lv' := [(0, .inr (.inr (some 39))), (1, .inr (.inl v1_20)), (3, .inl v3_20), (4, .inl v4_20)]) (st' := [.inr (.inr (some 39)), .inr (.inr (some (t + 9)))]) (h' := gc_h sh I44 J45 A) (C := (True ∧ True)) rfl ⟨trivial, trivial⟩ ?_
          refine gv_get hD rfl rfl S_39 ⟨by decide, B_39⟩ (gc_h5 (t := t) S_39 rfl (by omega)) ?_
          show gv_X _ _ (136, [(0, .inr (.inr (some 39))), (1, .inr (.inl v1_20)), (3, .inl v3_20), (4, .inl v4_20)], [.inr (.inr (some t)), .inr (.inr (some (t + 9)))], sh, gc_h sh I44 J45 A)
          refine gv_get hD rfl rfl S_t ⟨by decide, B_t⟩ (gc_hA S_t rfl A_t_4) ?_
          show gv_X _ _ (139, [(0, .inr (.inr (some 39))), (1, .inr (.inl v1_20)), (3, .inl v3_20), (4, .inl v4_20)], [.inr (.inr (some (t + 7))), .inr (.inr (some (t + 9)))], sh, gc_h sh I44 J45 A)
          have f54 := (show 0 ≤ I44 (t + 7) 1 ∧ I44 (t + 7) 1 ≤ 16 from gc_in hI44 R_t_7 rfl rfl)
          refine gv_get hD rfl rfl S_t_7 ⟨by decide, B_t_7⟩ (gc_hI S_t_7 rfl) ?_
          show gv_X _ _ (142, [(0, .inr (.inr (some 39))), (1, .inr (.inl v1_20)), (3, .inl v3_20), (4, .inl v4_20)], [.inl (I44 (t + 7) 1), .inr (.inr (some (t + 9)))], sh, gc_h sh I44 J45 A)
          refine gv_run 1 true hD (pc' := 143) (lv' := [(0, .inr (.inr (some 39))), (1, .inr (.inl v1_20)), (3, .inl v3_20), (4, .inl v4_20)]) (st' := [.inl v3_20, .inl (I44 (t + 7) 1), .inr (.inr (some (t + 9)))]) (h' := gc_h sh I44 J45 A) (C := (True ∧ True)) rfl ⟨trivial, trivial⟩ ?_
          refine gv_iast hD rfl S_t_9 ⟨by decide, B_t_9⟩ ⟨by omega, by omega⟩ ?_
          refine gc_st hI44 S_t_9 rfl R_t_9 (lo := (-2147483648)) (hi := 2147483647) rfl rfl (by omega) (by omega) (fun I55 hI55 q56 p56 => ?_)
          have FI55 := gc_frs (W := fun q j => (q = 39 ∧ j = 3) ∨ (q = 39 ∧ j = 4) ∨ (q = 23 ∧ j = 5) ∨ (q = 23 ∧ j = 6) ∨ (q = 23 ∧ j = 7) ∨ (q = 23 ∧ j = 8) ∨ q = (t + 9) ∨ (q = (t + 7) ∧ j = 1)) FI44 (Or.inr (Or.inr (Or.inr (Or.inr (Or.inr (Or.inr (Or.inl rfl))))))) p56
          have t57 := p56 23 1 (fun h => absurd h.1 N_23__t_9)
          have t58 := p56 23 5 (fun h => absurd h.1 N_23__t_9)
          have t59 := p56 23 6 (fun h => absurd h.1 N_23__t_9)
          have t60 := p56 23 7 (fun h => absurd h.1 N_23__t_9)
          have t61 := p56 (t + 7) 1 (fun h => absurd h.1 N_t_7__t_9)
          have t62 := p56 39 2 (fun h => absurd h.1 N_39__t_9)
          have KLT_I55 := gc_LT_fr KLT_I44 (p56 23 5 (fun h => absurd h.1 N_23__t_9)) (p56 23 6 (fun h => absurd h.1 N_23__t_9)) (p56 23 7 (fun h => absurd h.1 N_23__t_9)) (fun k => p56 24 k (fun h => absurd h.1 N_24__t_9))
          have KTK_I55 := gc_TK_fr KTK_I44 (p56 23 1 (fun h => absurd h.1 N_23__t_9)) (p56 23 5 (fun h => absurd h.1 N_23__t_9)) (p56 23 6 (fun h => absurd h.1 N_23__t_9)) (p56 23 7 (fun h => absurd h.1 N_23__t_9))
          show gv_X _ _ (144, [(0, .inr (.inr (some 39))), (1, .inr (.inl v1_20)), (3, .inl v3_20), (4, .inl v4_20)], [], sh, gc_h sh I55 J45 A)
          refine gv_run 1 true hD (pc' := 145) (lv' := [(0, .inr (.inr (some 39))), (1, .inr (.inl v1_20)), (3, .inl v3_20), (4, .inl v4_20)]) (st' := [.inr (.inr (some 39))]) (h' := gc_h sh I55 J45 A) (C := (True ∧ True)) rfl ⟨trivial, trivial⟩ ?_
          refine gv_get hD rfl rfl S_39 ⟨by decide, B_39⟩ (gc_h5 (t := t) S_39 rfl (by omega)) ?_
          show gv_X _ _ (148, [(0, .inr (.inr (some 39))), (1, .inr (.inl v1_20)), (3, .inl v3_20), (4, .inl v4_20)], [.inr (.inr (some t))], sh, gc_h sh I55 J45 A)
          refine gv_get hD rfl rfl S_t ⟨by decide, B_t⟩ (gc_hA S_t rfl A_t_4) ?_
          show gv_X _ _ (151, [(0, .inr (.inr (some 39))), (1, .inr (.inl v1_20)), (3, .inl v3_20), (4, .inl v4_20)], [.inr (.inr (some (t + 7)))], sh, gc_h sh I55 J45 A)
          refine gv_run 1 true hD (pc' := 152) (lv' := [(0, .inr (.inr (some 39))), (1, .inr (.inl v1_20)), (3, .inl v3_20), (4, .inl v4_20)]) (st' := [.inr (.inl v1_20), .inr (.inr (some (t + 7)))]) (h' := gc_h sh I55 J45 A) (C := (True ∧ True)) rfl ⟨trivial, trivial⟩ ?_
          obtain ⟨r63, h63, E63, P63⟩ := d_X4_put (ws0 := ws0) (tb := tb) hws htb sh ro I55 J45 A hI55 (t + 7) 16 7 v1_20 h_t_7     
          obtain ⟨I64, J65, rfl, hI64, g63, k63, ⟨rfl, q63⟩⟩ := P63
          have FI64 := gc_frc (W := fun q j => (q = 39 ∧ j = 3) ∨ (q = 39 ∧ j = 4) ∨ (q = 23 ∧ j = 5) ∨ (q = 23 ∧ j = 6) ∨ (q = 23 ∧ j = 7) ∨ (q = 23 ∧ j = 8) ∨ q = (t + 9) ∨ (q = (t + 7) ∧ j = 1)) (V := fun q j => (q = (t + 7) ∧ j = 1)) FI55 (fun q j h => (Or.inr (Or.inr (Or.inr (Or.inr (Or.inr (Or.inr (Or.inr h)))))))) g63
          have FJ65 := gc_frc (W := fun q j => (q = 23 ∧ j = 9) ∨ q = (t + 8)) (V := fun q j => q = (t + 8)) FJ45 (fun q j h => (Or.inr h)) k63
          have t66 := (g63 23 1).resolve_left (fun h => absurd h.1 N_23__t_7)
          have t67 := (g63 23 5).resolve_left (fun h => absurd h.2 (by decide))
          have t68 := (g63 23 6).resolve_left (fun h => absurd h.2 (by decide))
          have t69 := (g63 23 7).resolve_left (fun h => absurd h.2 (by decide))
          have t70 := (g63 39 2).resolve_left (fun h => absurd h.2 (by decide))
          have f71 := (show 0 ≤ I64 (t + 7) 1 ∧ I64 (t + 7) 1 ≤ 16 from gc_in hI64 R_t_7 rfl rfl)
          have KLT_I64 := gc_LT_fr KLT_I55 ((g63 23 5).resolve_left (fun h => absurd h.2 (by decide))) ((g63 23 6).resolve_left (fun h => absurd h.2 (by decide))) ((g63 23 7).resolve_left (fun h => absurd h.2 (by decide))) (fun k => (g63 24 k).resolve_left (fun h => absurd h.1 N_24__t_7))
          have KTK_I64 := gc_TK_fr KTK_I55 ((g63 23 1).resolve_left (fun h => absurd h.1 N_23__t_7)) ((g63 23 5).resolve_left (fun h => absurd h.2 (by decide))) ((g63 23 6).resolve_left (fun h => absurd h.2 (by decide))) ((g63 23 7).resolve_left (fun h => absurd h.2 (by decide)))
          refine gv_callV hD rfl (As := [.inr (.inl v1_20)]) (st := []) rfl B_t_7 S_t_7 rfl (gc_lV6 hws rfl) (Nat.le_of_ble_eq_true rfl) (gz_Ev_mono (d := 1) (by decide) E63) ?_
          show gv_X _ _ (155, [(0, .inr (.inr (some 39))), (1, .inr (.inl v1_20)), (3, .inl v3_20), (4, .inl v4_20)], [], sh, gc_h sh I64 J65 A)
          refine gv_run 1 true hD (pc' := 156) (lv' := [(0, .inr (.inr (some 39))), (1, .inr (.inl v1_20)), (3, .inl v3_20), (4, .inl v4_20)]) (st' := [.inl 1]) (h' := gc_h sh I64 J65 A) (C := (True ∧ True)) rfl ⟨trivial, trivial⟩ ?_
          exact gv_zret hD rfl (by omega) ⟨I64, J65, rfl, hI64, FI64, FJ65, KLT_I64, KTK_I64, ⟨_, rfl, by omega⟩⟩
        · show gv_X _ _ (123, [(0, .inr (.inr (some 39))), (1, .inr (.inl v1_20)), (3, .inl v3_20), (4, .inl v4_20)], [], sh, gc_h sh I44 J45 A)
          refine gv_run 1 true hD (pc' := 124) (lv' := [(0, .inr (.inr (some 39))), (1, .inr (.inl v1_20)), (3, .inl v3_20), (4, .inl v4_20)]) (st' := [.inl 0]) (h' := gc_h sh I44 J45 A) (C := (True ∧ True)) rfl ⟨trivial, trivial⟩ ?_
          exact gv_zret hD rfl (by omega) ⟨I44, J45, rfl, hI44, FI44, FJ45, KLT_I44, KTK_I44, ⟨_, rfl, by omega⟩⟩
      · show gv_X _ _ (67, [(0, .inr (.inr (some 39))), (1, .inr (.inl v1_20)), (3, .inl v3_20), (4, .inl v4_20)], [], sh, gc_h sh I18 J19 A)
        refine gv_run 3 true hD (pc' := 70) (lv' := [(0, .inr (.inr (some 39))), (1, .inr (.inl v1_20)), (3, .inl v3_20), (4, .inl v4_20)]) (st' := [.inr (.inr (some 39)), .inl 1, .inl v3_20]) (h' := gc_h sh I18 J19 A) (C := (((True ∧ True) ∧ True) ∧ True)) rfl ⟨⟨⟨trivial, trivial⟩, trivial⟩, trivial⟩ ?_
        refine gv_get hD rfl rfl S_39 ⟨by decide, B_39⟩ (gc_hA S_39 rfl A_39_1) ?_
        show gv_X _ _ (73, [(0, .inr (.inr (some 39))), (1, .inr (.inl v1_20)), (3, .inl v3_20), (4, .inl v4_20)], [.inr (.inr (some 23)), .inl 1, .inl v3_20], sh, gc_h sh I18 J19 A)
        refine gv_get hD rfl rfl S_23 ⟨by decide, B_23⟩ (gc_hA S_23 rfl A_23_0) ?_
        show gv_X _ _ (76, [(0, .inr (.inr (some 39))), (1, .inr (.inl v1_20)), (3, .inl v3_20), (4, .inl v4_20)], [.inr (.inr (some 24)), .inl 1, .inl v3_20], sh, gc_h sh I18 J19 A)
        refine gv_run 1 true hD (pc' := 77) (lv' := [(0, .inr (.inr (some 39))), (1, .inr (.inl v1_20)), (3, .inl v3_20), (4, .inl v4_20)]) (st' := [.inr (.inr (some 39)), .inr (.inr (some 24)), .inl 1, .inl v3_20]) (h' := gc_h sh I18 J19 A) (C := (True ∧ True)) rfl ⟨trivial, trivial⟩ ?_
        refine gv_get hD rfl rfl S_39 ⟨by decide, B_39⟩ (gc_hA S_39 rfl A_39_1) ?_
        show gv_X _ _ (80, [(0, .inr (.inr (some 39))), (1, .inr (.inl v1_20)), (3, .inl v3_20), (4, .inl v4_20)], [.inr (.inr (some 23)), .inr (.inr (some 24)), .inl 1, .inl v3_20], sh, gc_h sh I18 J19 A)
        have f72 := (show 0 ≤ I18 23 5 ∧ I18 23 5 ≤ 1000 from gc_in hI18 R_23 rfl rfl)
        refine gv_get hD rfl rfl S_23 ⟨by decide, B_23⟩ (gc_hI S_23 rfl) ?_
        show gv_X _ _ (83, [(0, .inr (.inr (some 39))), (1, .inr (.inl v1_20)), (3, .inl v3_20), (4, .inl v4_20)], [.inl (I18 23 5), .inr (.inr (some 24)), .inl 1, .inl v3_20], sh, gc_h sh I18 J19 A)
        refine gv_run 2 true hD (pc' := 86) (lv' := [(0, .inr (.inr (some 39))), (1, .inr (.inl v1_20)), (3, .inl v3_20), (4, .inl v4_20)]) (st' := [.inl ((I18 23 5) + v4_20), .inr (.inr (some 24)), .inl 1, .inl v3_20]) (h' := gc_h sh I18 J19 A) (C := ((True ∧ True) ∧ True)) rfl ⟨⟨trivial, trivial⟩, trivial⟩ ?_
        have t73 := gc_TK_l3 KTK_I18 (by omega)
        have t74 := gc_TK_nx KTK_I18 (by omega)
        have f75 := (show (-128) ≤ I18 24 (Int.toNat (((I18 23 5) + v4_20))) ∧ I18 24 (Int.toNat (((I18 23 5) + v4_20))) ≤ 127 from gc_in hI18 R_24 rfl rfl)
        refine gv_bald hD rfl S_24 (Or.inl rfl) ⟨by decide, B_24⟩ ⟨by omega, by omega⟩ (gc_iI S_24 rfl) ?_
        show gv_X _ _ (87, [(0, .inr (.inr (some 39))), (1, .inr (.inl v1_20)), (3, .inl v3_20), (4, .inl v4_20)], [.inl (I18 24 (Int.toNat (((I18 23 5) + v4_20)))), .inl 1, .inl v3_20], sh, gc_h sh I18 J19 A)
        have f76 := gw_any (Int32.ofInt 1 <<< (Int32.ofInt (((I18 24 (Int.toNat (((I18 23 5) + v4_20)))) - 97)) &&& 31))
        have f77 := gw_any ((Int32.ofInt v3_20 ||| Int32.ofInt (((Int32.ofInt 1 <<< (Int32.ofInt (((I18 24 (Int.toNat (((I18 23 5) + v4_20)))) - 97)) &&& 31)).toInt))))
        refine gv_run 7 true hD (pc' := 55) (lv' := [(4, .inl (v4_20 + 1)), (3, .inl ((Int32.ofInt v3_20 ||| Int32.ofInt (((Int32.ofInt 1 <<< (Int32.ofInt (((I18 24 (Int.toNat (((I18 23 5) + v4_20)))) - 97)) &&& 31)).toInt))).toInt)), (0, .inr (.inr (some 39))), (1, .inr (.inl v1_20))]) (st' := []) (h' := gc_h sh I18 J19 A) (C := (((((((True ∧ True) ∧ True) ∧ True) ∧ True) ∧ True) ∧ True) ∧ True)) rfl ⟨⟨⟨⟨⟨⟨⟨trivial, trivial⟩, trivial⟩, trivial⟩, trivial⟩, trivial⟩, trivial⟩, trivial⟩ ?_
        refine gv_pick [2, 3, 1, 0] rfl ?_
        exact ih55 I18 J19 v1_20 (((Int32.ofInt v3_20 ||| Int32.ofInt (((Int32.ofInt 1 <<< (Int32.ofInt (((I18 24 (Int.toNat (((I18 23 5) + v4_20)))) - 97)) &&& 31)).toInt))).toInt)) (v4_20 + 1) (by omega) hI18 FI18 FJ19 KLT_I18 KTK_I18 (by omega)
  refine gv_run 2 true hD (pc' := 2) (lv' := [(0, .inr (.inr (some 39)))]) (st' := [.inr (.inr (some 39)), .inr (.inr (some 39))]) (h' := gc_h sh I J A) (C := ((True ∧ True) ∧ True)) rfl ⟨⟨trivial, trivial⟩, trivial⟩ ?_
  refine gv_get hD rfl rfl S_39 ⟨by decide, B_39⟩ (gc_h5 (t := t) S_39 rfl (by omega)) ?_
  show gv_X _ _ (5, [(0, .inr (.inr (some 39)))], [.inr (.inr (some t)), .inr (.inr (some 39))], sh, gc_h sh I J A)
  refine gv_get hD rfl rfl S_t ⟨by decide, B_t⟩ (gc_hA S_t rfl A_t_4) ?_
  show gv_X _ _ (8, [(0, .inr (.inr (some 39)))], [.inr (.inr (some (t + 7))), .inr (.inr (some 39))], sh, gc_h sh I J A)
  obtain ⟨r78, h78, E78, P78⟩ := d_X6_needNew (ws0 := ws0) (tb := tb) hws htb sh ro I J A hI  16 7 (t + 7) hb h_t_7    
  obtain ⟨I79, J80, rfl, hI79, g78, k78, ⟨z78, rfl, q78⟩⟩ := P78
  have FI79 := gc_frc (W := fun q j => (q = 39 ∧ j = 3) ∨ (q = 39 ∧ j = 4) ∨ (q = 23 ∧ j = 5) ∨ (q = 23 ∧ j = 6) ∨ (q = 23 ∧ j = 7) ∨ (q = 23 ∧ j = 8) ∨ q = (t + 9) ∨ (q = (t + 7) ∧ j = 1)) (V := fun q j => (q = 39 ∧ j = 3) ∨ (q = 39 ∧ j = 4)) FI (fun q j h => (h.elim (fun h => (Or.inl h)) (fun h => (Or.inr (Or.inl h))))) g78
  have t81 := (g78 23 1).resolve_left (fun h => h.elim (fun h => absurd h.2 (by decide)) (fun h => absurd h.2 (by decide)))
  have t82 := (g78 23 5).resolve_left (fun h => h.elim (fun h => absurd h.2 (by decide)) (fun h => absurd h.2 (by decide)))
  have t83 := (g78 23 6).resolve_left (fun h => h.elim (fun h => absurd h.2 (by decide)) (fun h => absurd h.2 (by decide)))
  have t84 := (g78 23 7).resolve_left (fun h => h.elim (fun h => absurd h.2 (by decide)) (fun h => absurd h.2 (by decide)))
  have t85 := (g78 (t + 7) 1).resolve_left (fun h => h.elim (fun h => absurd h.2 (by decide)) (fun h => absurd h.2 (by decide)))
  have t86 := (g78 39 2).resolve_left (fun h => h.elim (fun h => absurd h.2 (by decide)) (fun h => absurd h.2 (by decide)))
  obtain rfl : J = J80 := funext fun q => funext fun j => ((k78 q j).resolve_left id).symm
  have KLT_I79 := gc_LT_fr KLT_I ((g78 23 5).resolve_left (fun h => h.elim (fun h => absurd h.2 (by decide)) (fun h => absurd h.2 (by decide)))) ((g78 23 6).resolve_left (fun h => h.elim (fun h => absurd h.2 (by decide)) (fun h => absurd h.2 (by decide)))) ((g78 23 7).resolve_left (fun h => h.elim (fun h => absurd h.2 (by decide)) (fun h => absurd h.2 (by decide)))) (fun k => (g78 24 k).resolve_left (fun h => h.elim (fun h => absurd h.1 (by decide)) (fun h => absurd h.1 (by decide))))
  have KTK_I79 := gc_TK_fr KTK_I ((g78 23 1).resolve_left (fun h => h.elim (fun h => absurd h.2 (by decide)) (fun h => absurd h.2 (by decide)))) ((g78 23 5).resolve_left (fun h => h.elim (fun h => absurd h.2 (by decide)) (fun h => absurd h.2 (by decide)))) ((g78 23 6).resolve_left (fun h => h.elim (fun h => absurd h.2 (by decide)) (fun h => absurd h.2 (by decide)))) ((g78 23 7).resolve_left (fun h => h.elim (fun h => absurd h.2 (by decide)) (fun h => absurd h.2 (by decide))))
  refine gv_callV hD rfl (As := [.inr (.inr (some (t + 7)))]) (st := []) rfl B_39 S_39 rfl (gc_lV6 hws rfl) (Nat.le_of_ble_eq_true rfl) (gz_Ev_mono (d := 3) (by decide) E78) ?_
  show gv_X _ _ (11, [(0, .inr (.inr (some 39)))], [.inl z78], sh, gc_h sh I79 J A)
  refine gv_if_ne (t := 16) hD rfl rfl ⟨by omega, by omega⟩ (fun c87 => ?_) (fun c87 => ?_)
  · show gv_X _ _ (16, [(0, .inr (.inr (some 39)))], [], sh, gc_h sh I79 J A)
    refine gv_run 1 true hD (pc' := 17) (lv' := [(0, .inr (.inr (some 39)))]) (st' := [.inr (.inr (some 39))]) (h' := gc_h sh I79 J A) (C := (True ∧ True)) rfl ⟨trivial, trivial⟩ ?_
    refine gv_get hD rfl rfl S_39 ⟨by decide, B_39⟩ (gc_hA S_39 rfl A_39_1) ?_
    show gv_X _ _ (20, [(0, .inr (.inr (some 39)))], [.inr (.inr (some 23))], sh, gc_h sh I79 J A)
    refine gv_get hD rfl rfl S_23 ⟨by decide, B_23⟩ (gc_hJ S_23 rfl) ?_
    show gv_X _ _ (23, [(0, .inr (.inr (some 39)))], [.inr (.inl (J 23 9))], sh, gc_h sh I79 J A)
    refine gv_run 2 true hD (pc' := 25) (lv' := [(1, .inr (.inl (J 23 9))), (0, .inr (.inr (some 39)))]) (st' := [.inr (.inr (some 39))]) (h' := gc_h sh I79 J A) (C := ((True ∧ True) ∧ True)) rfl ⟨⟨trivial, trivial⟩, trivial⟩ ?_
    refine gv_get hD rfl rfl S_39 ⟨by decide, B_39⟩ (gc_hA S_39 rfl A_39_1) ?_
    show gv_X _ _ (28, [(1, .inr (.inl (J 23 9))), (0, .inr (.inr (some 39)))], [.inr (.inr (some 23))], sh, gc_h sh I79 J A)
    have t89 := gc_TK_nx KTK_I79 (by omega)
    obtain ⟨r88, h88, E88, P88⟩ := d_X9_advance (ws0 := ws0) (tb := tb) hws htb sh ro I79 J A hI79 23  (gc_b23 hb)    (by omega) 
    obtain ⟨I90, J91, rfl, hI90, g88, k88, ⟨rfl, V88_0, V88_1, V88_2, V88_3, V88_4, q88⟩⟩ := P88
    have FI90 := gc_frc (W := fun q j => (q = 39 ∧ j = 3) ∨ (q = 39 ∧ j = 4) ∨ (q = 23 ∧ j = 5) ∨ (q = 23 ∧ j = 6) ∨ (q = 23 ∧ j = 7) ∨ (q = 23 ∧ j = 8) ∨ q = (t + 9) ∨ (q = (t + 7) ∧ j = 1)) (V := fun q j => (q = 23 ∧ j = 5) ∨ (q = 23 ∧ j = 6) ∨ (q = 23 ∧ j = 7) ∨ (q = 23 ∧ j = 8)) FI79 (fun q j h => (h.elim (fun h => (Or.inr (Or.inr (Or.inl h)))) (fun h => (h.elim (fun h => (Or.inr (Or.inr (Or.inr (Or.inl h))))) (fun h => (h.elim (fun h => (Or.inr (Or.inr (Or.inr (Or.inr (Or.inl h)))))) (fun h => (Or.inr (Or.inr (Or.inr (Or.inr (Or.inr (Or.inl h))))))))))))) g88
    have FJ91 := gc_frc (W := fun q j => (q = 23 ∧ j = 9) ∨ q = (t + 8)) (V := fun q j => (q = 23 ∧ j = 9)) FJ (fun q j h => (Or.inl h)) k88
    have t92 := (g88 23 1).resolve_left (fun h => h.elim (fun h => absurd h.2 (by decide)) (fun h => h.elim (fun h => absurd h.2 (by decide)) (fun h => h.elim (fun h => absurd h.2 (by decide)) (fun h => absurd h.2 (by decide)))))
    have t93 := (g88 (t + 7) 1).resolve_left (fun h => h.elim (fun h => absurd h.2 (by decide)) (fun h => h.elim (fun h => absurd h.2 (by decide)) (fun h => h.elim (fun h => absurd h.2 (by decide)) (fun h => absurd h.2 (by decide)))))
    have t94 := (g88 39 2).resolve_left (fun h => h.elim (fun h => absurd h.2 (by decide)) (fun h => h.elim (fun h => absurd h.2 (by decide)) (fun h => h.elim (fun h => absurd h.2 (by decide)) (fun h => absurd h.2 (by decide)))))
    have f95 := (show 0 ≤ I90 23 5 ∧ I90 23 5 ≤ 1000 from gc_in hI90 R_23 rfl rfl)
    have f96 := (show 0 ≤ I90 23 6 ∧ I90 23 6 ≤ 1001 from gc_in hI90 R_23 rfl rfl)
    have f97 := (show 0 ≤ I90 23 7 ∧ I90 23 7 ≤ 125 from gc_in hI90 R_23 rfl rfl)
    have KLT_I90 : gc_LT I90 := q88.2.2
    have KTK_I90 : gc_TK I90 := And.intro V88_0 (And.intro V88_1 (And.intro V88_2 (And.intro V88_3 V88_4)))
    have t98 := gc_TK_mo KTK_I90
    clear V88_0 V88_1 V88_2 V88_3 V88_4
    refine gv_callV hD rfl (As := []) (st := []) rfl B_23 S_23 rfl (gc_lV6 hws rfl) (Nat.le_of_ble_eq_true rfl) (gz_Ev_mono (d := 2) (by decide) E88) ?_
    show gv_X _ _ (31, [(1, .inr (.inl (J 23 9))), (0, .inr (.inr (some 39)))], [], sh, gc_h sh I90 J91 A)
    refine gv_run 2 true hD (pc' := 34) (lv' := [(1, .inr (.inl (J 23 9))), (0, .inr (.inr (some 39)))]) (st' := [.inl 61, .inr (.inr (some 39))]) (h' := gc_h sh I90 J91 A) (C := ((True ∧ True) ∧ True)) rfl ⟨⟨trivial, trivial⟩, trivial⟩ ?_
    obtain ⟨r99, h99, E99, P99⟩ := d_X6_take (ws0 := ws0) (tb := tb) hws htb sh ro I90 J91 A hI90  61 hb   ⟨by omega, by omega⟩ (by omega) KLT_I90 KTK_I90
    obtain ⟨I100, J101, rfl, hI100, g99, k99, KLT_I100, KTK_I100, ⟨z99, rfl, q99⟩⟩ := P99
    have FI100 := gc_frc (W := fun q j => (q = 39 ∧ j = 3) ∨ (q = 39 ∧ j = 4) ∨ (q = 23 ∧ j = 5) ∨ (q = 23 ∧ j = 6) ∨ (q = 23 ∧ j = 7) ∨ (q = 23 ∧ j = 8) ∨ q = (t + 9) ∨ (q = (t + 7) ∧ j = 1)) (V := fun q j => (q = 39 ∧ j = 3) ∨ (q = 39 ∧ j = 4) ∨ (q = 23 ∧ j = 5) ∨ (q = 23 ∧ j = 6) ∨ (q = 23 ∧ j = 7) ∨ (q = 23 ∧ j = 8)) FI90 (fun q j h => (h.elim (fun h => (Or.inl h)) (fun h => (h.elim (fun h => (Or.inr (Or.inl h))) (fun h => (h.elim (fun h => (Or.inr (Or.inr (Or.inl h)))) (fun h => (h.elim (fun h => (Or.inr (Or.inr (Or.inr (Or.inl h))))) (fun h => (h.elim (fun h => (Or.inr (Or.inr (Or.inr (Or.inr (Or.inl h)))))) (fun h => (Or.inr (Or.inr (Or.inr (Or.inr (Or.inr (Or.inl h))))))))))))))))) g99
    have FJ101 := gc_frc (W := fun q j => (q = 23 ∧ j = 9) ∨ q = (t + 8)) (V := fun q j => (q = 23 ∧ j = 9)) FJ91 (fun q j h => (Or.inl h)) k99
    have t102 := (g99 23 1).resolve_left (fun h => h.elim (fun h => absurd h.2 (by decide)) (fun h => h.elim (fun h => absurd h.2 (by decide)) (fun h => h.elim (fun h => absurd h.2 (by decide)) (fun h => h.elim (fun h => absurd h.2 (by decide)) (fun h => h.elim (fun h => absurd h.2 (by decide)) (fun h => absurd h.2 (by decide)))))))
    have t103 := (g99 (t + 7) 1).resolve_left (fun h => h.elim (fun h => absurd h.2 (by decide)) (fun h => h.elim (fun h => absurd h.2 (by decide)) (fun h => h.elim (fun h => absurd h.2 (by decide)) (fun h => h.elim (fun h => absurd h.2 (by decide)) (fun h => h.elim (fun h => absurd h.2 (by decide)) (fun h => absurd h.2 (by decide)))))))
    have t104 := (g99 39 2).resolve_left (fun h => h.elim (fun h => absurd h.2 (by decide)) (fun h => h.elim (fun h => absurd h.2 (by decide)) (fun h => h.elim (fun h => absurd h.2 (by decide)) (fun h => h.elim (fun h => absurd h.2 (by decide)) (fun h => h.elim (fun h => absurd h.2 (by decide)) (fun h => absurd h.2 (by decide)))))))
    have f105 := (show 0 ≤ I100 23 5 ∧ I100 23 5 ≤ 1000 from gc_in hI100 R_23 rfl rfl)
    have f106 := (show 0 ≤ I100 23 6 ∧ I100 23 6 ≤ 1001 from gc_in hI100 R_23 rfl rfl)
    have f107 := (show 0 ≤ I100 23 7 ∧ I100 23 7 ≤ 125 from gc_in hI100 R_23 rfl rfl)
    have t108 := gc_TK_mo KTK_I100
    refine gv_callV hD rfl (As := [.inl 61]) (st := []) rfl B_39 S_39 rfl (gc_lV6 hws rfl) (Nat.le_of_ble_eq_true rfl) (gz_Ev_mono (d := 3) (by decide) E99) ?_
    show gv_X _ _ (37, [(1, .inr (.inl (J 23 9))), (0, .inr (.inr (some 39)))], [.inl z99], sh, gc_h sh I100 J101 A)
    refine gv_if_eq (t := 48) hD rfl rfl ⟨by omega, by omega⟩ (fun c109 => ?_) (fun c109 => ?_)
    · show gv_X _ _ (48, [(1, .inr (.inl (J 23 9))), (0, .inr (.inr (some 39)))], [], sh, gc_h sh I100 J101 A)
      refine gv_pick [] rfl ?_
      exact L48 I100 J101 hI100 FI100 FJ101 KLT_I100 KTK_I100 (by omega)
    · show gv_X _ _ (40, [(1, .inr (.inl (J 23 9))), (0, .inr (.inr (some 39)))], [], sh, gc_h sh I100 J101 A)
      refine gv_run 2 true hD (pc' := 42) (lv' := [(1, .inr (.inl (J 23 9))), (0, .inr (.inr (some 39)))]) (st' := [.inl 3, .inr (.inr (some 39))]) (h' := gc_h sh I100 J101 A) (C := ((True ∧ True) ∧ True)) rfl ⟨⟨trivial, trivial⟩, trivial⟩ ?_
      obtain ⟨r110, h110, E110, P110⟩ := d_X6_need (ws0 := ws0) (tb := tb) hws htb sh ro I100 J101 A hI100  3 hb   ⟨by omega, by omega⟩  
      obtain ⟨I111, J112, rfl, hI111, g110, k110, ⟨z110, rfl, q110⟩⟩ := P110
      have FI111 := gc_frc (W := fun q j => (q = 39 ∧ j = 3) ∨ (q = 39 ∧ j = 4) ∨ (q = 23 ∧ j = 5) ∨ (q = 23 ∧ j = 6) ∨ (q = 23 ∧ j = 7) ∨ (q = 23 ∧ j = 8) ∨ q = (t + 9) ∨ (q = (t + 7) ∧ j = 1)) (V := fun q j => (q = 39 ∧ j = 3) ∨ (q = 39 ∧ j = 4)) FI100 (fun q j h => (h.elim (fun h => (Or.inl h)) (fun h => (Or.inr (Or.inl h))))) g110
      have t113 := (g110 23 1).resolve_left (fun h => h.elim (fun h => absurd h.2 (by decide)) (fun h => absurd h.2 (by decide)))
      have t114 := (g110 23 5).resolve_left (fun h => h.elim (fun h => absurd h.2 (by decide)) (fun h => absurd h.2 (by decide)))
      have t115 := (g110 23 6).resolve_left (fun h => h.elim (fun h => absurd h.2 (by decide)) (fun h => absurd h.2 (by decide)))
      have t116 := (g110 23 7).resolve_left (fun h => h.elim (fun h => absurd h.2 (by decide)) (fun h => absurd h.2 (by decide)))
      have t117 := (g110 (t + 7) 1).resolve_left (fun h => h.elim (fun h => absurd h.2 (by decide)) (fun h => absurd h.2 (by decide)))
      have t118 := (g110 39 2).resolve_left (fun h => h.elim (fun h => absurd h.2 (by decide)) (fun h => absurd h.2 (by decide)))
      obtain rfl : J101 = J112 := funext fun q => funext fun j => ((k110 q j).resolve_left id).symm
      have KLT_I111 := gc_LT_fr KLT_I100 ((g110 23 5).resolve_left (fun h => h.elim (fun h => absurd h.2 (by decide)) (fun h => absurd h.2 (by decide)))) ((g110 23 6).resolve_left (fun h => h.elim (fun h => absurd h.2 (by decide)) (fun h => absurd h.2 (by decide)))) ((g110 23 7).resolve_left (fun h => h.elim (fun h => absurd h.2 (by decide)) (fun h => absurd h.2 (by decide)))) (fun k => (g110 24 k).resolve_left (fun h => h.elim (fun h => absurd h.1 (by decide)) (fun h => absurd h.1 (by decide))))
      have KTK_I111 := gc_TK_fr KTK_I100 ((g110 23 1).resolve_left (fun h => h.elim (fun h => absurd h.2 (by decide)) (fun h => absurd h.2 (by decide)))) ((g110 23 5).resolve_left (fun h => h.elim (fun h => absurd h.2 (by decide)) (fun h => absurd h.2 (by decide)))) ((g110 23 6).resolve_left (fun h => h.elim (fun h => absurd h.2 (by decide)) (fun h => absurd h.2 (by decide)))) ((g110 23 7).resolve_left (fun h => h.elim (fun h => absurd h.2 (by decide)) (fun h => absurd h.2 (by decide))))
      refine gv_callV hD rfl (As := [.inl 3]) (st := []) rfl B_39 S_39 rfl (gc_lV6 hws rfl) (Nat.le_of_ble_eq_true rfl) (gz_Ev_mono (d := 2) (by decide) E110) ?_
      show gv_X _ _ (45, [(1, .inr (.inl (J 23 9))), (0, .inr (.inr (some 39)))], [.inl z110], sh, gc_h sh I111 J101 A)
      refine gv_if_ne (t := 50) hD rfl rfl ⟨by omega, by omega⟩ (fun c119 => ?_) (fun c119 => ?_)
      · show gv_X _ _ (50, [(1, .inr (.inl (J 23 9))), (0, .inr (.inr (some 39)))], [], sh, gc_h sh I111 J101 A)
        refine gv_run 4 true hD (pc' := 55) (lv' := [(4, .inl 1), (3, .inl 0), (1, .inr (.inl (J 23 9))), (0, .inr (.inr (some 39)))]) (st' := []) (h' := gc_h sh I111 J101 A) (C := ((((True ∧ True) ∧ True) ∧ True) ∧ True)) rfl ⟨⟨⟨⟨trivial, trivial⟩, trivial⟩, trivial⟩, trivial⟩ ?_
        refine gv_pick [3, 2, 1, 0] rfl ?_
        exact L55 _ I111 J101 (J 23 9) 0 1 (Nat.lt_succ_self _) hI111 FI111 FJ101 KLT_I111 KTK_I111 (by omega)
      · show gv_X _ _ (48, [(1, .inr (.inl (J 23 9))), (0, .inr (.inr (some 39)))], [], sh, gc_h sh I111 J101 A)
        refine gv_pick [] rfl ?_
        exact L48 I111 J101 hI111 FI111 FJ101 KLT_I111 KTK_I111 (by omega)
  · show gv_X _ _ (14, [(0, .inr (.inr (some 39)))], [], sh, gc_h sh I79 J A)
    refine gv_run 1 true hD (pc' := 15) (lv' := [(0, .inr (.inr (some 39)))]) (st' := [.inl 0]) (h' := gc_h sh I79 J A) (C := (True ∧ True)) rfl ⟨trivial, trivial⟩ ?_
    exact gv_zret hD rfl (by omega) ⟨I79, J, rfl, hI79, FI79, FJ, KLT_I79, KTK_I79, ⟨_, rfl, by omega⟩⟩
