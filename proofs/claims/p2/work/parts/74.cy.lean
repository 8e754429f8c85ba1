set_option maxHeartbeats 4000000 in
set_option maxRecDepth 100000 in
theorem d_X6_readItems {ws0 : List Cond} {tb : String → gz_T} (hws : gc_Ws ws0) (htb : gc_tbs tb) (sh : gz_Sh) (ro : Nat → Nat) (I : gr_I) (J : gr_J) (A : gc_A) (hI : gc_Inv ro I) (t : Nat) (B : Int) (a1 : Nat) (hb : gc_Base sh ro A) (h_a1 : gc_isLin sh ro A a1) (G_a1 : 144 ≤ a1) (h_t : gc_isTongue sh ro A t) (G_t : 144 ≤ t)  (x0 : B ≤ 1280 ∧ I 1 17 + I 23 1 ≤ B + I 23 5) (x1 : I 39 2 = (t : Int)) (KLT_I : gc_LT I) (KTK_I : gc_TK I) (KCT_I : gc_CT a1 I) : ∃ r h', gz_Ev ws0 tb 5 (yX6_readItems, cX6_readItems, 3, (some .boolean)) [.inr (.inr (some 39)), .inr (.inr (some a1))] sh (gc_h sh I J A) r sh h' 0 0 ∧ (∃ (I' : gr_I) (J' : gr_J), h' = gc_h sh I' J' A ∧ gc_Inv ro I' ∧ (∀ q j : Nat, ((q = 39 ∧ j = 3) ∨ (q = 39 ∧ j = 4) ∨ (q = 23 ∧ j = 5) ∨ (q = 23 ∧ j = 6) ∨ (q = 23 ∧ j = 7) ∨ (q = 23 ∧ j = 8) ∨ (q = 1 ∧ j = 17) ∨ (q = 1 ∧ j = 18) ∨ q = 20 ∨ (q = 39 ∧ j = 6) ∨ q = (a1 + 1) ∨ q = (a1 + 6) ∨ q = (a1 + 4) ∨ q = (a1 + 5) ∨ (q = a1 ∧ j = 8) ∨ q = (a1 + 2) ∨ q = (a1 + 3) ∨ (q = a1 ∧ j = 4)) ∨ I' q j = I q j) ∧ (∀ q j : Nat, ((q = 23 ∧ j = 9)) ∨ J' q j = J q j) ∧ gc_LT I' ∧ gc_TK I' ∧ gc_CT a1 I' ∧ (∃ z : Int, r = some (.inl z) ∧ 0 ≤ z ∧ z ≤ 1 ∧ (I' 23 1 = I 23 1) ∧ (I 23 5 ≤ I' 23 5) ∧ (B ≤ 1280 ∧ I' 1 17 + I' 23 1 ≤ B + I' 23 5))) := by
  have FI : ∀ q j : Nat, ((q = 39 ∧ j = 3) ∨ (q = 39 ∧ j = 4) ∨ (q = 23 ∧ j = 5) ∨ (q = 23 ∧ j = 6) ∨ (q = 23 ∧ j = 7) ∨ (q = 23 ∧ j = 8) ∨ (q = 1 ∧ j = 17) ∨ (q = 1 ∧ j = 18) ∨ q = 20 ∨ (q = 39 ∧ j = 6) ∨ q = (a1 + 1) ∨ q = (a1 + 6) ∨ q = (a1 + 4) ∨ q = (a1 + 5) ∨ (q = a1 ∧ j = 8) ∨ q = (a1 + 2) ∨ q = (a1 + 3) ∨ (q = a1 ∧ j = 4)) ∨ I q j = I q j := fun _ _ => Or.inr rfl
  have FJ : ∀ q j : Nat, ((q = 23 ∧ j = 9)) ∨ J q j = J q j := fun _ _ => Or.inr rfl
  have A_39_1 : A 39 1 = some 23 := gc_bA hb rfl
  have B_23 : 23 < 1000000 := by decide
  have B_39 : 39 < 1000000 := by decide
  have R_1 : ro 1 = 22 := gc_bR hb (by decide) rfl
  have R_23 : ro 23 = 3 := gc_bR hb (by decide) rfl
  have R_39 : ro 39 = 42 := gc_bR hb (by decide) rfl
  have S_23 : sh[23]? = some (false, 9, 10) := gc_bS hb rfl
  have S_39 : sh[39]? = some (false, 6, 19) := gc_bS hb rfl
  obtain ⟨S_a1, R_a1, B_a1, A_a1_5, S_a1_1, R_a1_1, B_a1_1, A_a1_6, S_a1_2, R_a1_2, B_a1_2, A_a1_7, S_a1_3, R_a1_3, B_a1_3, A_a1_9, S_a1_4, R_a1_4, B_a1_4, A_a1_10, S_a1_5, R_a1_5, B_a1_5, A_a1_11, S_a1_6, R_a1_6, B_a1_6, A_a1_13, S_a1_7, R_a1_7, B_a1_7, A_a1_15, S_a1_8, R_a1_8, B_a1_8⟩ := id h_a1
  obtain ⟨S_t, R_t, B_t, A_t_0, h_t_1, A_t_1, h_t_3, A_t_2, S_t_5, R_t_5, B_t_5, A_t_3, S_t_6, R_t_6, B_t_6, A_t_4, h_t_7, A_t_5, S_t_9, R_t_9, B_t_9, A_t_7, S_t_10, R_t_10, B_t_10, A_t_8, h_t_11, A_t_9, S_t_13, R_t_13, B_t_13, A_t_10, S_t_14, R_t_14, B_t_14, A_t_12, S_t_15, R_t_15, B_t_15, A_t_14, S_t_16, R_t_16, B_t_16, A_t_15, h_t_17⟩ := id h_t
  obtain ⟨S_t_1, R_t_1, B_t_1, A_t_1_0, S_t_1_1, R_t_1_1, B_t_1_1, Q0_t_1, Q1_t_1, Q2_t_1⟩ := id h_t_1
  obtain ⟨S_t_3, R_t_3, B_t_3, A_t_3_0, S_t_3_1, R_t_3_1, B_t_3_1, Q0_t_3, Q1_t_3, Q2_t_3⟩ := id h_t_3
  obtain ⟨S_t_7, R_t_7, B_t_7, A_t_7_0, S_t_7_1, R_t_7_1, B_t_7_1, Q0_t_7, Q1_t_7, Q2_t_7⟩ := id h_t_7
  obtain ⟨S_t_11, R_t_11, B_t_11, A_t_11_0, S_t_11_1, R_t_11_1, B_t_11_1, Q0_t_11, Q1_t_11, Q2_t_11⟩ := id h_t_11
  obtain ⟨S_t_17, R_t_17, B_t_17, A_t_17_0, S_20, R_20, B_20, A_t_17_1, S_t_17_1, R_t_17_1, B_t_17_1, A_t_17_2, S_t_17_2, R_t_17_2, B_t_17_2, A_t_17_3, S_t_17_3, R_t_17_3, B_t_17_3, A_t_17_4, S_t_17_4, R_t_17_4, B_t_17_4, A_t_17_5, S_t_17_5, R_t_17_5, B_t_17_5, S_t_17_6, R_t_17_6, B_t_17_6, S_t_17_7, R_t_17_7, B_t_17_7⟩ := id h_t_17
  have N1 := gc_dj_LT h_a1 h_t
  have hD : gv_D (gc_E6 ws0 tb 4 (yX6_readItems, cX6_readItems, 3, (some .boolean)) kX6_readItems) := gq_ok oX6_readItems
  refine gc_ev6 (d := 4) (l := kX6_readItems) (Po := fun r h' => (∃ (I' : gr_I) (J' : gr_J), h' = gc_h sh I' J' A ∧ gc_Inv ro I' ∧ (∀ q j : Nat, ((q = 39 ∧ j = 3) ∨ (q = 39 ∧ j = 4) ∨ (q = 23 ∧ j = 5) ∨ (q = 23 ∧ j = 6) ∨ (q = 23 ∧ j = 7) ∨ (q = 23 ∧ j = 8) ∨ (q = 1 ∧ j = 17) ∨ (q = 1 ∧ j = 18) ∨ q = 20 ∨ (q = 39 ∧ j = 6) ∨ q = (a1 + 1) ∨ q = (a1 + 6) ∨ q = (a1 + 4) ∨ q = (a1 + 5) ∨ (q = a1 ∧ j = 8) ∨ q = (a1 + 2) ∨ q = (a1 + 3) ∨ (q = a1 ∧ j = 4)) ∨ I' q j = I q j) ∧ (∀ q j : Nat, ((q = 23 ∧ j = 9)) ∨ J' q j = J q j) ∧ gc_LT I' ∧ gc_TK I' ∧ gc_CT a1 I' ∧ (∃ z : Int, r = some (.inl z) ∧ 0 ≤ z ∧ z ≤ 1 ∧ (I' 23 1 = I 23 1) ∧ (I 23 5 ≤ I' 23 5) ∧ (B ≤ 1280 ∧ I' 1 17 + I' 23 1 ≤ B + I' 23 5)))) htb rfl (Nat.le_of_ble_eq_true rfl) ?_
  have N_24__a1 : ¬ (24 = a1) := by omega
  have N_a1_6__a1 : ¬ ((a1 + 6) = a1) := by omega
  have N_23__a1_1 : ¬ (23 = (a1 + 1)) := by omega
  have N_1__a1_1 : ¬ (1 = (a1 + 1)) := by omega
  have N_a1__a1_1 : ¬ (a1 = (a1 + 1)) := by omega
  have N_39__a1_1 : ¬ (39 = (a1 + 1)) := by omega
  have N_24__a1_1 : ¬ (24 = (a1 + 1)) := by omega
  have N_a1_6__a1_1 : ¬ ((a1 + 6) = (a1 + 1)) := by omega
  have N_a1__20 : ¬ (a1 = 20) := by omega
  have N_a1_6__1 : ¬ ((a1 + 6) = 1) := by omega
  have N_a1_6__20 : ¬ ((a1 + 6) = 20) := by omega
  have N_23__a1_2 : ¬ (23 = (a1 + 2)) := by omega
  have N_1__a1_2 : ¬ (1 = (a1 + 2)) := by omega
  have N_a1__a1_2 : ¬ (a1 = (a1 + 2)) := by omega
  have N_39__a1_2 : ¬ (39 = (a1 + 2)) := by omega
  have N_24__a1_2 : ¬ (24 = (a1 + 2)) := by omega
  have N_a1_6__a1_2 : ¬ ((a1 + 6) = (a1 + 2)) := by omega
  have N_23__a1_3 : ¬ (23 = (a1 + 3)) := by omega
  have N_1__a1_3 : ¬ (1 = (a1 + 3)) := by omega
  have N_a1__a1_3 : ¬ (a1 = (a1 + 3)) := by omega
  have N_39__a1_3 : ¬ (39 = (a1 + 3)) := by omega
  have N_24__a1_3 : ¬ (24 = (a1 + 3)) := by omega
  have N_a1_6__a1_3 : ¬ ((a1 + 6) = (a1 + 3)) := by omega
  have N_a1__23 : ¬ (a1 = 23) := by omega
  have N_a1_6__23 : ¬ ((a1 + 6) = 23) := by omega
  have N_a1__39 : ¬ (a1 = 39) := by omega
  have N_a1_6__39 : ¬ ((a1 + 6) = 39) := by omega
  have N_23__a1_6 : ¬ (23 = (a1 + 6)) := by omega
  have N_23__a1_4 : ¬ (23 = (a1 + 4)) := by omega
  have N_23__a1_5 : ¬ (23 = (a1 + 5)) := by omega
  have N_1__a1_6 : ¬ (1 = (a1 + 6)) := by omega
  have N_1__a1_4 : ¬ (1 = (a1 + 4)) := by omega
  have N_1__a1_5 : ¬ (1 = (a1 + 5)) := by omega
  have N_a1__a1_6 : ¬ (a1 = (a1 + 6)) := by omega
  have N_a1__a1_4 : ¬ (a1 = (a1 + 4)) := by omega
  have N_a1__a1_5 : ¬ (a1 = (a1 + 5)) := by omega
  have N_39__a1_6 : ¬ (39 = (a1 + 6)) := by omega
  have N_39__a1_4 : ¬ (39 = (a1 + 4)) := by omega
  have N_39__a1_5 : ¬ (39 = (a1 + 5)) := by omega
  have t1 := gc_TK_mo KTK_I
  have f2 := (show 0 ≤ I 23 1 ∧ I 23 1 ≤ 1000 from gc_in hI R_23 rfl rfl)
  have f3 := (show 0 ≤ I 23 5 ∧ I 23 5 ≤ 1000 from gc_in hI R_23 rfl rfl)
  have f4 := (show 0 ≤ I 23 6 ∧ I 23 6 ≤ 1001 from gc_in hI R_23 rfl rfl)
  have f5 := (show 0 ≤ I 23 7 ∧ I 23 7 ≤ 125 from gc_in hI R_23 rfl rfl)
  have f6 := (show 0 ≤ I 1 17 ∧ I 1 17 ≤ 12000 from gc_in hI R_1 rfl rfl)
  have f7 := (show 0 ≤ I a1 4 ∧ I a1 4 ≤ 6 from gc_in hI R_a1 rfl rfl)
  have f8 := (show 0 ≤ I a1 8 ∧ I a1 8 ≤ 4 from gc_in hI R_a1 rfl rfl)
  have f9 := (show (-1) ≤ I 39 2 ∧ I 39 2 ≤ 999999 from gc_in hI R_39 rfl rfl)
  have L21 : ∀ (I10 : gr_I) (J11 : gr_J) , gc_Inv ro I10 → (∀ q j : Nat, ((q = 39 ∧ j = 3) ∨ (q = 39 ∧ j = 4) ∨ (q = 23 ∧ j = 5) ∨ (q = 23 ∧ j = 6) ∨ (q = 23 ∧ j = 7) ∨ (q = 23 ∧ j = 8) ∨ (q = 1 ∧ j = 17) ∨ (q = 1 ∧ j = 18) ∨ q = 20 ∨ (q = 39 ∧ j = 6) ∨ q = (a1 + 1) ∨ q = (a1 + 6) ∨ q = (a1 + 4) ∨ q = (a1 + 5) ∨ (q = a1 ∧ j = 8) ∨ q = (a1 + 2) ∨ q = (a1 + 3) ∨ (q = a1 ∧ j = 4)) ∨ I10 q j = I q j) → (∀ q j : Nat, ((q = 23 ∧ j = 9)) ∨ J11 q j = J q j) → gc_LT I10 → gc_TK I10 → gc_CT a1 I10 → ((I10 23 1 = I 23 1) ∧ (I 23 5 ≤ I10 23 5) ∧ (B ≤ 1280 ∧ I10 1 17 + I10 23 1 ≤ B + I10 23 5) ∧ (I10 39 2 = (t : Int))) → gv_X (gc_E6 ws0 tb 4 (yX6_readItems, cX6_readItems, 3, (some .boolean)) kX6_readItems) (gv_Q cX6_readItems (some .boolean) sh (fun r h' => (∃ (I' : gr_I) (J' : gr_J), h' = gc_h sh I' J' A ∧ gc_Inv ro I' ∧ (∀ q j : Nat, ((q = 39 ∧ j = 3) ∨ (q = 39 ∧ j = 4) ∨ (q = 23 ∧ j = 5) ∨ (q = 23 ∧ j = 6) ∨ (q = 23 ∧ j = 7) ∨ (q = 23 ∧ j = 8) ∨ (q = 1 ∧ j = 17) ∨ (q = 1 ∧ j = 18) ∨ q = 20 ∨ (q = 39 ∧ j = 6) ∨ q = (a1 + 1) ∨ q = (a1 + 6) ∨ q = (a1 + 4) ∨ q = (a1 + 5) ∨ (q = a1 ∧ j = 8) ∨ q = (a1 + 2) ∨ q = (a1 + 3) ∨ (q = a1 ∧ j = 4)) ∨ I' q j = I q j) ∧ (∀ q j : Nat, ((q = 23 ∧ j = 9)) ∨ J' q j = J q j) ∧ gc_LT I' ∧ gc_TK I' ∧ gc_CT a1 I' ∧ (∃ z : Int, r = some (.inl z) ∧ 0 ≤ z ∧ z ≤ 1 ∧ (I' 23 1 = I 23 1) ∧ (I 23 5 ≤ I' 23 5) ∧ (B ≤ 1280 ∧ I' 1 17 + I' 23 1 ≤ B + I' 23 5))))) (21, [(0, .inr (.inr (some 39))), (1, .inr (.inr (some a1)))], [], sh, gc_h sh I10 J11 A) := by
    intro I10 J11 hI10 FI10 FJ11 KLT_I10 KTK_I10 KCT_I10 m_12
    obtain ⟨e0_12, e1_12, e2_12, e3_12⟩ := m_12
    have t13 := gc_TK_mo KTK_I10
    have f14 := (show 0 ≤ I10 23 1 ∧ I10 23 1 ≤ 1000 from gc_in hI10 R_23 rfl rfl)
    have f15 := (show 0 ≤ I10 23 5 ∧ I10 23 5 ≤ 1000 from gc_in hI10 R_23 rfl rfl)
    have f16 := (show 0 ≤ I10 23 6 ∧ I10 23 6 ≤ 1001 from gc_in hI10 R_23 rfl rfl)
    have f17 := (show 0 ≤ I10 23 7 ∧ I10 23 7 ≤ 125 from gc_in hI10 R_23 rfl rfl)
    have f18 := (show 0 ≤ I10 1 17 ∧ I10 1 17 ≤ 12000 from gc_in hI10 R_1 rfl rfl)
    have f19 := (show 0 ≤ I10 a1 4 ∧ I10 a1 4 ≤ 6 from gc_in hI10 R_a1 rfl rfl)
    have f20 := (show 0 ≤ I10 a1 8 ∧ I10 a1 8 ≤ 4 from gc_in hI10 R_a1 rfl rfl)
    have f21 := (show (-1) ≤ I10 39 2 ∧ I10 39 2 ≤ 999999 from gc_in hI10 R_39 rfl rfl)
    have L23 : ∀ (n9 : Nat) (I22 : gr_I) (J23 : gr_J) (v2_24 : Int), (8 - v2_24).toNat < n9 → gc_Inv ro I22 → (∀ q j : Nat, ((q = 39 ∧ j = 3) ∨ (q = 39 ∧ j = 4) ∨ (q = 23 ∧ j = 5) ∨ (q = 23 ∧ j = 6) ∨ (q = 23 ∧ j = 7) ∨ (q = 23 ∧ j = 8) ∨ (q = 1 ∧ j = 17) ∨ (q = 1 ∧ j = 18) ∨ q = 20 ∨ (q = 39 ∧ j = 6) ∨ q = (a1 + 1) ∨ q = (a1 + 6) ∨ q = (a1 + 4) ∨ q = (a1 + 5) ∨ (q = a1 ∧ j = 8) ∨ q = (a1 + 2) ∨ q = (a1 + 3) ∨ (q = a1 ∧ j = 4)) ∨ I22 q j = I q j) → (∀ q j : Nat, ((q = 23 ∧ j = 9)) ∨ J23 q j = J q j) → gc_LT I22 → gc_TK I22 → gc_CT a1 I22 → ((0 ≤ v2_24 ∧ v2_24 ≤ 7) ∧ (I22 23 1 = I 23 1) ∧ (I 23 5 ≤ I22 23 5) ∧ (B ≤ 1280 ∧ I22 1 17 + I22 23 1 ≤ B + I22 23 5) ∧ (I22 39 2 = (t : Int))) → gv_X (gc_E6 ws0 tb 4 (yX6_readItems, cX6_readItems, 3, (some .boolean)) kX6_readItems) (gv_Q cX6_readItems (some .boolean) sh (fun r h' => (∃ (I' : gr_I) (J' : gr_J), h' = gc_h sh I' J' A ∧ gc_Inv ro I' ∧ (∀ q j : Nat, ((q = 39 ∧ j = 3) ∨ (q = 39 ∧ j = 4) ∨ (q = 23 ∧ j = 5) ∨ (q = 23 ∧ j = 6) ∨ (q = 23 ∧ j = 7) ∨ (q = 23 ∧ j = 8) ∨ (q = 1 ∧ j = 17) ∨ (q = 1 ∧ j = 18) ∨ q = 20 ∨ (q = 39 ∧ j = 6) ∨ q = (a1 + 1) ∨ q = (a1 + 6) ∨ q = (a1 + 4) ∨ q = (a1 + 5) ∨ (q = a1 ∧ j = 8) ∨ q = (a1 + 2) ∨ q = (a1 + 3) ∨ (q = a1 ∧ j = 4)) ∨ I' q j = I q j) ∧ (∀ q j : Nat, ((q = 23 ∧ j = 9)) ∨ J' q j = J q j) ∧ gc_LT I' ∧ gc_TK I' ∧ gc_CT a1 I' ∧ (∃ z : Int, r = some (.inl z) ∧ 0 ≤ z ∧ z ≤ 1 ∧ (I' 23 1 = I 23 1) ∧ (I 23 5 ≤ I' 23 5) ∧ (B ≤ 1280 ∧ I' 1 17 + I' 23 1 ≤ B + I' 23 5))))) (23, [(0, .inr (.inr (some 39))), (1, .inr (.inr (some a1))), (2, .inl v2_24)], [], sh, gc_h sh I22 J23 A) := by
      intro n9
      induction n9 with
      | zero => intro I22 J23 v2_24 hn; omega
      | succ n9 ih23 =>
        intro I22 J23 v2_24 hn hI22 FI22 FJ23 KLT_I22 KTK_I22 KCT_I22 m_24
        clear e0_12 e1_12 e2_12 e3_12 t13 f14 f15 f16 f17 f18 f19 f20 f21
        obtain ⟨hv2_24, e0_24, e1_24, e2_24, e3_24⟩ := m_24
        have t25 := gc_TK_mo KTK_I22
        have f26 := (show 0 ≤ I22 23 1 ∧ I22 23 1 ≤ 1000 from gc_in hI22 R_23 rfl rfl)
        have f27 := (show 0 ≤ I22 23 5 ∧ I22 23 5 ≤ 1000 from gc_in hI22 R_23 rfl rfl)
        have f28 := (show 0 ≤ I22 23 6 ∧ I22 23 6 ≤ 1001 from gc_in hI22 R_23 rfl rfl)
        have f29 := (show 0 ≤ I22 23 7 ∧ I22 23 7 ≤ 125 from gc_in hI22 R_23 rfl rfl)
        have f30 := (show 0 ≤ I22 1 17 ∧ I22 1 17 ≤ 12000 from gc_in hI22 R_1 rfl rfl)
        have f31 := (show 0 ≤ I22 a1 4 ∧ I22 a1 4 ≤ 6 from gc_in hI22 R_a1 rfl rfl)
        have f32 := (show 0 ≤ I22 a1 8 ∧ I22 a1 8 ≤ 4 from gc_in hI22 R_a1 rfl rfl)
        have f33 := (show (-1) ≤ I22 39 2 ∧ I22 39 2 ≤ 999999 from gc_in hI22 R_39 rfl rfl)
        have L51 : ((0 ≤ v2_24 ∧ v2_24 ≤ 6) ∧ (I22 23 7 = 2 ∨ I22 23 7 = 3) ∧ (I22 23 1 = I 23 1) ∧ (I 23 5 ≤ I22 23 5) ∧ (B ≤ 1280 ∧ I22 1 17 + I22 23 1 ≤ B + I22 23 5) ∧ (I22 39 2 = (t : Int))) → gv_X (gc_E6 ws0 tb 4 (yX6_readItems, cX6_readItems, 3, (some .boolean)) kX6_readItems) (gv_Q cX6_readItems (some .boolean) sh (fun r h' => (∃ (I' : gr_I) (J' : gr_J), h' = gc_h sh I' J' A ∧ gc_Inv ro I' ∧ (∀ q j : Nat, ((q = 39 ∧ j = 3) ∨ (q = 39 ∧ j = 4) ∨ (q = 23 ∧ j = 5) ∨ (q = 23 ∧ j = 6) ∨ (q = 23 ∧ j = 7) ∨ (q = 23 ∧ j = 8) ∨ (q = 1 ∧ j = 17) ∨ (q = 1 ∧ j = 18) ∨ q = 20 ∨ (q = 39 ∧ j = 6) ∨ q = (a1 + 1) ∨ q = (a1 + 6) ∨ q = (a1 + 4) ∨ q = (a1 + 5) ∨ (q = a1 ∧ j = 8) ∨ q = (a1 + 2) ∨ q = (a1 + 3) ∨ (q = a1 ∧ j = 4)) ∨ I' q j = I q j) ∧ (∀ q j : Nat, ((q = 23 ∧ j = 9)) ∨ J' q j = J q j) ∧ gc_LT I' ∧ gc_TK I' ∧ gc_CT a1 I' ∧ (∃ z : Int, r = some (.inl z) ∧ 0 ≤ z ∧ z ≤ 1 ∧ (I' 23 1 = I 23 1) ∧ (I 23 5 ≤ I' 23 5) ∧ (B ≤ 1280 ∧ I' 1 17 + I' 23 1 ≤ B + I' 23 5))))) (51, [(0, .inr (.inr (some 39))), (1, .inr (.inr (some a1))), (2, .inl v2_24)], [], sh, gc_h sh I22 J23 A) := by
          intro m_34
          obtain ⟨hv2_24_34, e0_34, e1_34, e2_34, e3_34, e4_34⟩ := m_34
          have t35 := gc_TK_mo KTK_I22
          have f36 := (show 0 ≤ I22 23 1 ∧ I22 23 1 ≤ 1000 from gc_in hI22 R_23 rfl rfl)
          have f37 := (show 0 ≤ I22 23 5 ∧ I22 23 5 ≤ 1000 from gc_in hI22 R_23 rfl rfl)
          have f38 := (show 0 ≤ I22 23 6 ∧ I22 23 6 ≤ 1001 from gc_in hI22 R_23 rfl rfl)
          have f39 := (show 0 ≤ I22 23 7 ∧ I22 23 7 ≤ 125 from gc_in hI22 R_23 rfl rfl)
          have f40 := (show 0 ≤ I22 1 17 ∧ I22 1 17 ≤ 12000 from gc_in hI22 R_1 rfl rfl)
          have f41 := (show 0 ≤ I22 a1 4 ∧ I22 a1 4 ≤ 6 from gc_in hI22 R_a1 rfl rfl)
          have f42 := (show 0 ≤ I22 a1 8 ∧ I22 a1 8 ≤ 4 from gc_in hI22 R_a1 rfl rfl)
          have f43 := (show (-1) ≤ I22 39 2 ∧ I22 39 2 ≤ 999999 from gc_in hI22 R_39 rfl rfl)
          have L164 : ∀ (I44 : gr_I) (J45 : gr_J) , gc_Inv ro I44 → (∀ q j : Nat, ((q = 39 ∧ j = 3) ∨ (q = 39 ∧ j = 4) ∨ (q = 23 ∧ j = 5) ∨ (q = 23 ∧ j = 6) ∨ (q = 23 ∧ j = 7) ∨ (q = 23 ∧ j = 8) ∨ (q = 1 ∧ j = 17) ∨ (q = 1 ∧ j = 18) ∨ q = 20 ∨ (q = 39 ∧ j = 6) ∨ q = (a1 + 1) ∨ q = (a1 + 6) ∨ q = (a1 + 4) ∨ q = (a1 + 5) ∨ (q = a1 ∧ j = 8) ∨ q = (a1 + 2) ∨ q = (a1 + 3) ∨ (q = a1 ∧ j = 4)) ∨ I44 q j = I q j) → (∀ q j : Nat, ((q = 23 ∧ j = 9)) ∨ J45 q j = J q j) → gc_LT I44 → gc_TK I44 → gc_CT a1 I44 → ((0 ≤ v2_24 ∧ v2_24 ≤ 6) ∧ (I44 a1 4 ≤ 5) ∧ (I44 23 1 = I 23 1) ∧ (I 23 5 ≤ I44 23 5) ∧ (B ≤ 1280 ∧ I44 1 17 + I44 23 1 ≤ B + I44 23 5) ∧ (I44 39 2 = (t : Int))) → gv_X (gc_E6 ws0 tb 4 (yX6_readItems, cX6_readItems, 3, (some .boolean)) kX6_readItems) (gv_Q cX6_readItems (some .boolean) sh (fun r h' => (∃ (I' : gr_I) (J' : gr_J), h' = gc_h sh I' J' A ∧ gc_Inv ro I' ∧ (∀ q j : Nat, ((q = 39 ∧ j = 3) ∨ (q = 39 ∧ j = 4) ∨ (q = 23 ∧ j = 5) ∨ (q = 23 ∧ j = 6) ∨ (q = 23 ∧ j = 7) ∨ (q = 23 ∧ j = 8) ∨ (q = 1 ∧ j = 17) ∨ (q = 1 ∧ j = 18) ∨ q = 20 ∨ (q = 39 ∧ j = 6) ∨ q = (a1 + 1) ∨ q = (a1 + 6) ∨ q = (a1 + 4) ∨ q = (a1 + 5) ∨ (q = a1 ∧ j = 8) ∨ q = (a1 + 2) ∨ q = (a1 + 3) ∨ (q = a1 ∧ j = 4)) ∨ I' q j = I q j) ∧ (∀ q j : Nat, ((q = 23 ∧ j = 9)) ∨ J' q j = J q j) ∧ gc_LT I' ∧ gc_TK I' ∧ gc_CT a1 I' ∧ (∃ z : Int, r = some (.inl z) ∧ 0 ≤ z ∧ z ≤ 1 ∧ (I' 23 1 = I 23 1) ∧ (I 23 5 ≤ I' 23 5) ∧ (B ≤ 1280 ∧ I' 1 17 + I' 23 1 ≤ B + I' 23 5))))) (164, [(0, .inr (.inr (some 39))), (1, .inr (.inr (some a1))), (2, .inl v2_24)], [], sh, gc_h sh I44 J45 A) := by
            intro I44 J45 hI44 FI44 FJ45 KLT_I44 KTK_I44 KCT_I44 m_46
            clear hv2_24_34 e0_34 e1_34 e2_34 e3_34 e4_34 t35 f36 f37 f38 f39 f40 f41 f42 f43 hv2_24 e0_24 e1_24 e2_24 e3_24 t25 f26 f27 f28 f29 f30 f31 f32 f33
            obtain ⟨hv2_24_46, e0_46, e1_46, e2_46, e3_46, e4_46⟩ := m_46
            have t47 := gc_TK_mo KTK_I44
            have f48 := (show 0 ≤ I44 23 1 ∧ I44 23 1 ≤ 1000 from gc_in hI44 R_23 rfl rfl)
            have f49 := (show 0 ≤ I44 23 5 ∧ I44 23 5 ≤ 1000 from gc_in hI44 R_23 rfl rfl)
            have f50 := (show 0 ≤ I44 23 6 ∧ I44 23 6 ≤ 1001 from gc_in hI44 R_23 rfl rfl)
            have f51 := (show 0 ≤ I44 23 7 ∧ I44 23 7 ≤ 125 from gc_in hI44 R_23 rfl rfl)
            have f52 := (show 0 ≤ I44 1 17 ∧ I44 1 17 ≤ 12000 from gc_in hI44 R_1 rfl rfl)
            have f53 := (show 0 ≤ I44 a1 4 ∧ I44 a1 4 ≤ 6 from gc_in hI44 R_a1 rfl rfl)
            have f54 := (show 0 ≤ I44 a1 8 ∧ I44 a1 8 ≤ 4 from gc_in hI44 R_a1 rfl rfl)
            have f55 := (show (-1) ≤ I44 39 2 ∧ I44 39 2 ≤ 999999 from gc_in hI44 R_39 rfl rfl)
            refine gv_run 2 true hD (pc' := 166) (lv' := [(0, .inr (.inr (some 39))), (1, .inr (.inr (some a1))), (2, .inl v2_24)]) (st' := [.inr (.inr (some a1)), .inr (.inr (some a1))]) (h' := gc_h sh I44 J45 A) (C := ((True ∧ True) ∧ True)) rfl ⟨⟨trivial, trivial⟩, trivial⟩ ?_
            have f56 := (show 0 ≤ I44 a1 4 ∧ I44 a1 4 ≤ 6 from gc_in hI44 R_a1 rfl rfl)
            refine gv_get hD rfl rfl S_a1 ⟨by decide, B_a1⟩ (gc_hI S_a1 rfl) ?_
            show gv_X _ _ (169, [(0, .inr (.inr (some 39))), (1, .inr (.inr (some a1))), (2, .inl v2_24)], [.inl (I44 a1 4), .inr (.inr (some a1))], sh, gc_h sh I44 J45 A)
            refine gv_run 2 true hD (pc' := 171) (lv' := [(0, .inr (.inr (some 39))), (1, .inr (.inr (some a1))), (2, .inl v2_24)]) (st' := [.inl ((I44 a1 4) + 1), .inr (.inr (some a1))]) (h' := gc_h sh I44 J45 A) (C := ((True ∧ True) ∧ True)) rfl ⟨⟨trivial, trivial⟩, trivial⟩ ?_
            refine gv_put hD rfl rfl S_a1 ⟨by decide, B_a1⟩ rfl trivial ?_
            refine gc_st (k := 4) hI44 S_a1 rfl R_a1 (lo := 0) (hi := 6) rfl rfl (by omega) (by omega) (fun I57 hI57 q58 p58 => ?_)
            have FI57 := gc_frs (W := fun q j => (q = 39 ∧ j = 3) ∨ (q = 39 ∧ j = 4) ∨ (q = 23 ∧ j = 5) ∨ (q = 23 ∧ j = 6) ∨ (q = 23 ∧ j = 7) ∨ (q = 23 ∧ j = 8) ∨ (q = 1 ∧ j = 17) ∨ (q = 1 ∧ j = 18) ∨ q = 20 ∨ (q = 39 ∧ j = 6) ∨ q = (a1 + 1) ∨ q = (a1 + 6) ∨ q = (a1 + 4) ∨ q = (a1 + 5) ∨ (q = a1 ∧ j = 8) ∨ q = (a1 + 2) ∨ q = (a1 + 3) ∨ (q = a1 ∧ j = 4)) FI44 (Or.inr (Or.inr (Or.inr (Or.inr (Or.inr (Or.inr (Or.inr (Or.inr (Or.inr (Or.inr (Or.inr (Or.inr (Or.inr (Or.inr (Or.inr (Or.inr (Or.inr ⟨rfl, rfl⟩))))))))))))))))) p58
            have t59 := p58 23 1 (fun h => absurd h.2 (by decide))
            have t60 := p58 23 5 (fun h => absurd h.2 (by decide))
            have t61 := p58 23 6 (fun h => absurd h.2 (by decide))
            have t62 := p58 23 7 (fun h => absurd h.2 (by decide))
            have t63 := p58 1 17 (fun h => absurd h.2 (by decide))
            have t64 := p58 a1 8 (fun h => absurd h.2 (by decide))
            have t65 := p58 39 2 (fun h => absurd h.2 (by decide))
            have f66 := (show 0 ≤ I57 a1 4 ∧ I57 a1 4 ≤ 6 from gc_in hI57 R_a1 rfl rfl)
            have KLT_I57 := gc_LT_fr KLT_I44 (p58 23 5 (fun h => absurd h.2 (by decide))) (p58 23 6 (fun h => absurd h.2 (by decide))) (p58 23 7 (fun h => absurd h.2 (by decide))) (fun k => p58 24 k (fun h => absurd h.1 N_24__a1))
            have KTK_I57 := gc_TK_fr KTK_I44 (p58 23 1 (fun h => absurd h.2 (by decide))) (p58 23 5 (fun h => absurd h.2 (by decide))) (p58 23 6 (fun h => absurd h.2 (by decide))) (p58 23 7 (fun h => absurd h.2 (by decide)))
            have KCT_I57 := gc_CT_fr KCT_I44 (p58 a1 8 (fun h => absurd h.2 (by decide))) (fun k => p58 (a1 + 6) k (fun h => absurd h.1 N_a1_6__a1))
            show gv_X _ _ (174, [(0, .inr (.inr (some 39))), (1, .inr (.inr (some a1))), (2, .inl v2_24)], [], sh, gc_h sh I57 J45 A)
            refine gv_run 2 true hD (pc' := 23) (lv' := [(2, .inl (v2_24 + 1)), (0, .inr (.inr (some 39))), (1, .inr (.inr (some a1)))]) (st' := []) (h' := gc_h sh I57 J45 A) (C := ((True ∧ True) ∧ True)) rfl ⟨⟨trivial, trivial⟩, trivial⟩ ?_
            refine gv_pick [1, 2, 0] rfl ?_
            exact ih23 I57 J45 (v2_24 + 1) (by omega) hI57 FI57 FJ45 KLT_I57 KTK_I57 KCT_I57 (by omega)
          refine gv_run 1 true hD (pc' := 52) (lv' := [(0, .inr (.inr (some 39))), (1, .inr (.inr (some a1))), (2, .inl v2_24)]) (st' := [.inr (.inr (some a1))]) (h' := gc_h sh I22 J23 A) (C := (True ∧ True)) rfl ⟨trivial, trivial⟩ ?_
          have f67 := (show 0 ≤ I22 a1 4 ∧ I22 a1 4 ≤ 6 from gc_in hI22 R_a1 rfl rfl)
          refine gv_get hD rfl rfl S_a1 ⟨by decide, B_a1⟩ (gc_hI S_a1 rfl) ?_
          show gv_X _ _ (55, [(0, .inr (.inr (some 39))), (1, .inr (.inr (some a1))), (2, .inl v2_24)], [.inl (I22 a1 4)], sh, gc_h sh I22 J23 A)
          refine gv_run 1 true hD (pc' := 57) (lv' := [(0, .inr (.inr (some 39))), (1, .inr (.inr (some a1))), (2, .inl v2_24)]) (st' := [.inl 6, .inl (I22 a1 4)]) (h' := gc_h sh I22 J23 A) (C := (True ∧ True)) rfl ⟨trivial, trivial⟩ ?_
          refine gv_icmp_ne (t := 73) hD rfl rfl ⟨⟨by omega, by omega⟩, ⟨by omega, by omega⟩⟩ (fun c68 => ?_) (fun c68 => ?_)
          · show gv_X _ _ (73, [(0, .inr (.inr (some 39))), (1, .inr (.inr (some a1))), (2, .inl v2_24)], [], sh, gc_h sh I22 J23 A)
            refine gv_run 1 true hD (pc' := 74) (lv' := [(0, .inr (.inr (some 39))), (1, .inr (.inr (some a1))), (2, .inl v2_24)]) (st' := [.inr (.inr (some 39))]) (h' := gc_h sh I22 J23 A) (C := (True ∧ True)) rfl ⟨trivial, trivial⟩ ?_
            refine gv_get hD rfl rfl S_39 ⟨by decide, B_39⟩ (gc_hA S_39 rfl A_39_1) ?_
            show gv_X _ _ (77, [(0, .inr (.inr (some 39))), (1, .inr (.inr (some a1))), (2, .inl v2_24)], [.inr (.inr (some 23))], sh, gc_h sh I22 J23 A)
            have f69 := (show 0 ≤ I22 23 7 ∧ I22 23 7 ≤ 125 from gc_in hI22 R_23 rfl rfl)
            refine gv_get hD rfl rfl S_23 ⟨by decide, B_23⟩ (gc_hI S_23 rfl) ?_
            show gv_X _ _ (80, [(0, .inr (.inr (some 39))), (1, .inr (.inr (some a1))), (2, .inl v2_24)], [.inl (I22 23 7)], sh, gc_h sh I22 J23 A)
            refine gv_run 1 true hD (pc' := 81) (lv' := [(0, .inr (.inr (some 39))), (1, .inr (.inr (some a1))), (2, .inl v2_24)]) (st' := [.inl 2, .inl (I22 23 7)]) (h' := gc_h sh I22 J23 A) (C := (True ∧ True)) rfl ⟨trivial, trivial⟩ ?_
            refine gv_icmp_ne (t := 94) hD rfl rfl ⟨⟨by omega, by omega⟩, ⟨by omega, by omega⟩⟩ (fun c70 => ?_) (fun c70 => ?_)
            · show gv_X _ _ (94, [(0, .inr (.inr (some 39))), (1, .inr (.inr (some a1))), (2, .inl v2_24)], [], sh, gc_h sh I22 J23 A)
              refine gv_run 1 true hD (pc' := 95) (lv' := [(0, .inr (.inr (some 39))), (1, .inr (.inr (some a1))), (2, .inl v2_24)]) (st' := [.inr (.inr (some 39))]) (h' := gc_h sh I22 J23 A) (C := (True ∧ True)) rfl ⟨trivial, trivial⟩ ?_
              refine gv_get hD rfl rfl S_39 ⟨by decide, B_39⟩ (gc_hA S_39 rfl A_39_1) ?_
              show gv_X _ _ (98, [(0, .inr (.inr (some 39))), (1, .inr (.inr (some a1))), (2, .inl v2_24)], [.inr (.inr (some 23))], sh, gc_h sh I22 J23 A)
              have t72 := gc_TK_l3 KTK_I22 (by omega)
              obtain ⟨r71, h71, E71, P71⟩ := d_X9_lettersSize (ws0 := ws0) (tb := tb) hws htb sh ro I22 J23 A hI22 23  (gc_b23 hb)     
              obtain ⟨rfl, ⟨z71, rfl, q71⟩⟩ := P71
              refine gv_callV hD rfl (As := []) (st := []) rfl B_23 S_23 rfl (gc_lV6 hws rfl) (Nat.le_of_ble_eq_true rfl) (gz_Ev_mono (d := 1) (by decide) E71) ?_
              show gv_X _ _ (101, [(0, .inr (.inr (some 39))), (1, .inr (.inr (some a1))), (2, .inl v2_24)], [.inl z71], sh, gc_h sh I22 J23 A)
              refine gv_run 1 true hD (pc' := 102) (lv' := [(0, .inr (.inr (some 39))), (1, .inr (.inr (some a1))), (2, .inl v2_24)]) (st' := [.inl 1, .inl z71]) (h' := gc_h sh I22 J23 A) (C := (True ∧ True)) rfl ⟨trivial, trivial⟩ ?_
              refine gv_icmp_ge (t := 118) hD rfl rfl ⟨⟨by omega, by omega⟩, ⟨by omega, by omega⟩⟩ (fun c73 => ?_) (fun c73 => ?_)
              · show gv_X _ _ (118, [(0, .inr (.inr (some 39))), (1, .inr (.inr (some a1))), (2, .inl v2_24)], [], sh, gc_h sh I22 J23 A)
                refine gv_run 1 true hD (pc' := 119) (lv' := [(0, .inr (.inr (some 39))), (1, .inr (.inr (some a1))), (2, .inl v2_24)]) (st' := [.inr (.inr (some a1))]) (h' := gc_h sh I22 J23 A) (C := (True ∧ True)) rfl ⟨trivial, trivial⟩ ?_
                refine gv_get hD rfl rfl S_a1 ⟨by decide, B_a1⟩ (gc_hA S_a1 rfl A_a1_5) ?_
                show gv_X _ _ (122, [(0, .inr (.inr (some 39))), (1, .inr (.inr (some a1))), (2, .inl v2_24)], [.inr (.inr (some (a1 + 1)))], sh, gc_h sh I22 J23 A)
                refine gv_run 1 true hD (pc' := 123) (lv' := [(0, .inr (.inr (some 39))), (1, .inr (.inr (some a1))), (2, .inl v2_24)]) (st' := [.inr (.inr (some a1)), .inr (.inr (some (a1 + 1)))]) (h' := gc_h sh I22 J23 A) (C := (True ∧ True)) rfl ⟨trivial, trivial⟩ ?_
                have f74 := (show 0 ≤ I22 a1 4 ∧ I22 a1 4 ≤ 6 from gc_in hI22 R_a1 rfl rfl)
                refine gv_get hD rfl rfl S_a1 ⟨by decide, B_a1⟩ (gc_hI S_a1 rfl) ?_
                show gv_X _ _ (126, [(0, .inr (.inr (some 39))), (1, .inr (.inr (some a1))), (2, .inl v2_24)], [.inl (I22 a1 4), .inr (.inr (some (a1 + 1)))], sh, gc_h sh I22 J23 A)
                refine gv_run 1 true hD (pc' := 127) (lv' := [(0, .inr (.inr (some 39))), (1, .inr (.inr (some a1))), (2, .inl v2_24)]) (st' := [.inl (-1), .inl (I22 a1 4), .inr (.inr (some (a1 + 1)))]) (h' := gc_h sh I22 J23 A) (C := (True ∧ True)) rfl ⟨trivial, trivial⟩ ?_
                refine gv_iast hD rfl S_a1_1 ⟨by decide, B_a1_1⟩ ⟨by omega, by omega⟩ ?_
                refine gc_st hI22 S_a1_1 rfl R_a1_1 (lo := (-1)) (hi := 3) rfl rfl (by omega) (by omega) (fun I75 hI75 q76 p76 => ?_)
                have FI75 := gc_frs (W := fun q j => (q = 39 ∧ j = 3) ∨ (q = 39 ∧ j = 4) ∨ (q = 23 ∧ j = 5) ∨ (q = 23 ∧ j = 6) ∨ (q = 23 ∧ j = 7) ∨ (q = 23 ∧ j = 8) ∨ (q = 1 ∧ j = 17) ∨ (q = 1 ∧ j = 18) ∨ q = 20 ∨ (q = 39 ∧ j = 6) ∨ q = (a1 + 1) ∨ q = (a1 + 6) ∨ q = (a1 + 4) ∨ q = (a1 + 5) ∨ (q = a1 ∧ j = 8) ∨ q = (a1 + 2) ∨ q = (a1 + 3) ∨ (q = a1 ∧ j = 4)) FI22 (Or.inr (Or.inr (Or.inr (Or.inr (Or.inr (Or.inr (Or.inr (Or.inr (Or.inr (Or.inr (Or.inl rfl))))))))))) p76
                have t77 := p76 23 1 (fun h => absurd h.1 N_23__a1_1)
                have t78 := p76 23 5 (fun h => absurd h.1 N_23__a1_1)
                have t79 := p76 23 6 (fun h => absurd h.1 N_23__a1_1)
                have t80 := p76 23 7 (fun h => absurd h.1 N_23__a1_1)
                have t81 := p76 1 17 (fun h => absurd h.1 N_1__a1_1)
                have t82 := p76 a1 4 (fun h => absurd h.1 N_a1__a1_1)
                have t83 := p76 a1 8 (fun h => absurd h.1 N_a1__a1_1)
                have t84 := p76 39 2 (fun h => absurd h.1 N_39__a1_1)
                have KLT_I75 := gc_LT_fr KLT_I22 (p76 23 5 (fun h => absurd h.1 N_23__a1_1)) (p76 23 6 (fun h => absurd h.1 N_23__a1_1)) (p76 23 7 (fun h => absurd h.1 N_23__a1_1)) (fun k => p76 24 k (fun h => absurd h.1 N_24__a1_1))
                have KTK_I75 := gc_TK_fr KTK_I22 (p76 23 1 (fun h => absurd h.1 N_23__a1_1)) (p76 23 5 (fun h => absurd h.1 N_23__a1_1)) (p76 23 6 (fun h => absurd h.1 N_23__a1_1)) (p76 23 7 (fun h => absurd h.1 N_23__a1_1))
                have KCT_I75 := gc_CT_fr KCT_I22 (p76 a1 8 (fun h => absurd h.1 N_a1__a1_1)) (fun k => p76 (a1 + 6) k (fun h => absurd h.1 N_a1_6__a1_1))
                show gv_X _ _ (128, [(0, .inr (.inr (some 39))), (1, .inr (.inr (some a1))), (2, .inl v2_24)], [], sh, gc_h sh I75 J23 A)
                refine gv_run 1 true hD (pc' := 129) (lv' := [(0, .inr (.inr (some 39))), (1, .inr (.inr (some a1))), (2, .inl v2_24)]) (st' := [.inr (.inr (some a1))]) (h' := gc_h sh I75 J23 A) (C := (True ∧ True)) rfl ⟨trivial, trivial⟩ ?_
                refine gv_get hD rfl rfl S_a1 ⟨by decide, B_a1⟩ (gc_hA S_a1 rfl A_a1_6) ?_
                show gv_X _ _ (132, [(0, .inr (.inr (some 39))), (1, .inr (.inr (some a1))), (2, .inl v2_24)], [.inr (.inr (some (a1 + 2)))], sh, gc_h sh I75 J23 A)
                refine gv_run 1 true hD (pc' := 133) (lv' := [(0, .inr (.inr (some 39))), (1, .inr (.inr (some a1))), (2, .inl v2_24)]) (st' := [.inr (.inr (some a1)), .inr (.inr (some (a1 + 2)))]) (h' := gc_h sh I75 J23 A) (C := (True ∧ True)) rfl ⟨trivial, trivial⟩ ?_
                have f85 := (show 0 ≤ I75 a1 4 ∧ I75 a1 4 ≤ 6 from gc_in hI75 R_a1 rfl rfl)
                refine gv_get hD rfl rfl S_a1 ⟨by decide, B_a1⟩ (gc_hI S_a1 rfl) ?_
                show gv_X _ _ (136, [(0, .inr (.inr (some 39))), (1, .inr (.inr (some a1))), (2, .inl v2_24)], [.inl (I75 a1 4), .inr (.inr (some (a1 + 2)))], sh, gc_h sh I75 J23 A)
                refine gv_run 1 true hD (pc' := 137) (lv' := [(0, .inr (.inr (some 39))), (1, .inr (.inr (some a1))), (2, .inl v2_24)]) (st' := [.inr (.inr (some 39)), .inl (I75 a1 4), .inr (.inr (some (a1 + 2)))]) (h' := gc_h sh I75 J23 A) (C := (True ∧ True)) rfl ⟨trivial, trivial⟩ ?_
                obtain ⟨r86, h86, E86, P86⟩ := d_X6_keepLetters (ws0 := ws0) (tb := tb) hws htb sh ro I75 J23 A hI75   hb    (by omega) KLT_I75 KTK_I75
                obtain ⟨I87, J88, rfl, hI87, g86, k86, KLT_I87, KTK_I87, ⟨z86, rfl, q86⟩⟩ := P86
                have FI87 := gc_frc (W := fun q j => (q = 39 ∧ j = 3) ∨ (q = 39 ∧ j = 4) ∨ (q = 23 ∧ j = 5) ∨ (q = 23 ∧ j = 6) ∨ (q = 23 ∧ j = 7) ∨ (q = 23 ∧ j = 8) ∨ (q = 1 ∧ j = 17) ∨ (q = 1 ∧ j = 18) ∨ q = 20 ∨ (q = 39 ∧ j = 6) ∨ q = (a1 + 1) ∨ q = (a1 + 6) ∨ q = (a1 + 4) ∨ q = (a1 + 5) ∨ (q = a1 ∧ j = 8) ∨ q = (a1 + 2) ∨ q = (a1 + 3) ∨ (q = a1 ∧ j = 4)) (V := fun q j => (q = 1 ∧ j = 17) ∨ (q = 1 ∧ j = 18) ∨ q = 20) FI75 (fun q j h => (h.elim (fun h => (Or.inr (Or.inr (Or.inr (Or.inr (Or.inr (Or.inr (Or.inl h)))))))) (fun h => (h.elim (fun h => (Or.inr (Or.inr (Or.inr (Or.inr (Or.inr (Or.inr (Or.inr (Or.inl h))))))))) (fun h => (Or.inr (Or.inr (Or.inr (Or.inr (Or.inr (Or.inr (Or.inr (Or.inr (Or.inl h)))))))))))))) g86
                have t89 := (g86 23 1).resolve_left (fun h => h.elim (fun h => absurd h.2 (by decide)) (fun h => h.elim (fun h => absurd h.2 (by decide)) (fun h => absurd h (by decide))))
                have t90 := (g86 23 5).resolve_left (fun h => h.elim (fun h => absurd h.2 (by decide)) (fun h => h.elim (fun h => absurd h.2 (by decide)) (fun h => absurd h (by decide))))
                have t91 := (g86 23 6).resolve_left (fun h => h.elim (fun h => absurd h.2 (by decide)) (fun h => h.elim (fun h => absurd h.2 (by decide)) (fun h => absurd h (by decide))))
                have t92 := (g86 23 7).resolve_left (fun h => h.elim (fun h => absurd h.2 (by decide)) (fun h => h.elim (fun h => absurd h.2 (by decide)) (fun h => absurd h (by decide))))
                have t93 := (g86 a1 4).resolve_left (fun h => h.elim (fun h => absurd h.2 (by decide)) (fun h => h.elim (fun h => absurd h.2 (by decide)) (fun h => absurd h N_a1__20)))
                have t94 := (g86 a1 8).resolve_left (fun h => h.elim (fun h => absurd h.2 (by decide)) (fun h => h.elim (fun h => absurd h.2 (by decide)) (fun h => absurd h N_a1__20)))
                have t95 := (g86 39 2).resolve_left (fun h => h.elim (fun h => absurd h.2 (by decide)) (fun h => h.elim (fun h => absurd h.2 (by decide)) (fun h => absurd h (by decide))))
                have f96 := (show 0 ≤ I87 1 17 ∧ I87 1 17 ≤ 12000 from gc_in hI87 R_1 rfl rfl)
                obtain rfl : J23 = J88 := funext fun q => funext fun j => ((k86 q j).resolve_left id).symm
                have KCT_I87 := gc_CT_fr KCT_I75 ((g86 a1 8).resolve_left (fun h => h.elim (fun h => absurd h.2 (by decide)) (fun h => h.elim (fun h => absurd h.2 (by decide)) (fun h => absurd h N_a1__20)))) (fun k => (g86 (a1 + 6) k).resolve_left (fun h => h.elim (fun h => absurd h.1 N_a1_6__1) (fun h => h.elim (fun h => absurd h.1 N_a1_6__1) (fun h => absurd h N_a1_6__20))))
                refine gv_callV hD rfl (As := []) (st := [.inl (I75 a1 4), .inr (.inr (some (a1 + 2)))]) rfl B_39 S_39 rfl (gc_lV6 hws rfl) (Nat.le_of_ble_eq_true rfl) (gz_Ev_mono (d := 2) (by decide) E86) ?_
                show gv_X _ _ (140, [(0, .inr (.inr (some 39))), (1, .inr (.inr (some a1))), (2, .inl v2_24)], [.inl z86, .inl (I75 a1 4), .inr (.inr (some (a1 + 2)))], sh, gc_h sh I87 J23 A)
                refine gv_iast hD rfl S_a1_2 ⟨by decide, B_a1_2⟩ ⟨by omega, by omega⟩ ?_
                refine gc_st hI87 S_a1_2 rfl R_a1_2 (lo := 0) (hi := 2000) rfl rfl (by omega) (by omega) (fun I97 hI97 q98 p98 => ?_)
                have FI97 := gc_frs (W := fun q j => (q = 39 ∧ j = 3) ∨ (q = 39 ∧ j = 4) ∨ (q = 23 ∧ j = 5) ∨ (q = 23 ∧ j = 6) ∨ (q = 23 ∧ j = 7) ∨ (q = 23 ∧ j = 8) ∨ (q = 1 ∧ j = 17) ∨ (q = 1 ∧ j = 18) ∨ q = 20 ∨ (q = 39 ∧ j = 6) ∨ q = (a1 + 1) ∨ q = (a1 + 6) ∨ q = (a1 + 4) ∨ q = (a1 + 5) ∨ (q = a1 ∧ j = 8) ∨ q = (a1 + 2) ∨ q = (a1 + 3) ∨ (q = a1 ∧ j = 4)) FI87 (Or.inr (Or.inr (Or.inr (Or.inr (Or.inr (Or.inr (Or.inr (Or.inr (Or.inr (Or.inr (Or.inr (Or.inr (Or.inr (Or.inr (Or.inr (Or.inl rfl)))))))))))))))) p98
                have t99 := p98 23 1 (fun h => absurd h.1 N_23__a1_2)
                have t100 := p98 23 5 (fun h => absurd h.1 N_23__a1_2)
                have t101 := p98 23 6 (fun h => absurd h.1 N_23__a1_2)
                have t102 := p98 23 7 (fun h => absurd h.1 N_23__a1_2)
                have t103 := p98 1 17 (fun h => absurd h.1 N_1__a1_2)
                have t104 := p98 a1 4 (fun h => absurd h.1 N_a1__a1_2)
                have t105 := p98 a1 8 (fun h => absurd h.1 N_a1__a1_2)
                have t106 := p98 39 2 (fun h => absurd h.1 N_39__a1_2)
                have KLT_I97 := gc_LT_fr KLT_I87 (p98 23 5 (fun h => absurd h.1 N_23__a1_2)) (p98 23 6 (fun h => absurd h.1 N_23__a1_2)) (p98 23 7 (fun h => absurd h.1 N_23__a1_2)) (fun k => p98 24 k (fun h => absurd h.1 N_24__a1_2))
                have KTK_I97 := gc_TK_fr KTK_I87 (p98 23 1 (fun h => absurd h.1 N_23__a1_2)) (p98 23 5 (fun h => absurd h.1 N_23__a1_2)) (p98 23 6 (fun h => absurd h.1 N_23__a1_2)) (p98 23 7 (fun h => absurd h.1 N_23__a1_2))
                have KCT_I97 := gc_CT_fr KCT_I87 (p98 a1 8 (fun h => absurd h.1 N_a1__a1_2)) (fun k => p98 (a1 + 6) k (fun h => absurd h.1 N_a1_6__a1_2))
                show gv_X _ _ (141, [(0, .inr (.inr (some 39))), (1, .inr (.inr (some a1))), (2, .inl v2_24)], [], sh, gc_h sh I97 J23 A)
                refine gv_run 1 true hD (pc' := 142) (lv' := [(0, .inr (.inr (some 39))), (1, .inr (.inr (some a1))), (2, .inl v2_24)]) (st' := [.inr (.inr (some a1))]) (h' := gc_h sh I97 J23 A) (C := (True ∧ True)) rfl ⟨trivial, trivial⟩ ?_
                refine gv_get hD rfl rfl S_a1 ⟨by decide, B_a1⟩ (gc_hA S_a1 rfl A_a1_7) ?_
                show gv_X _ _ (145, [(0, .inr (.inr (some 39))), (1, .inr (.inr (some a1))), (2, .inl v2_24)], [.inr (.inr (some (a1 + 3)))], sh, gc_h sh I97 J23 A)
                refine gv_run 1 true hD (pc' := 146) (lv' := [(0, .inr (.inr (some 39))), (1, .inr (.inr (some a1))), (2, .inl v2_24)]) (st' := [.inr (.inr (some a1)), .inr (.inr (some (a1 + 3)))]) (h' := gc_h sh I97 J23 A) (C := (True ∧ True)) rfl ⟨trivial, trivial⟩ ?_
                have f107 := (show 0 ≤ I97 a1 4 ∧ I97 a1 4 ≤ 6 from gc_in hI97 R_a1 rfl rfl)
                refine gv_get hD rfl rfl S_a1 ⟨by decide, B_a1⟩ (gc_hI S_a1 rfl) ?_
                show gv_X _ _ (149, [(0, .inr (.inr (some 39))), (1, .inr (.inr (some a1))), (2, .inl v2_24)], [.inl (I97 a1 4), .inr (.inr (some (a1 + 3)))], sh, gc_h sh I97 J23 A)
                refine gv_run 1 true hD (pc' := 150) (lv' := [(0, .inr (.inr (some 39))), (1, .inr (.inr (some a1))), (2, .inl v2_24)]) (st' := [.inr (.inr (some 39)), .inl (I97 a1 4), .inr (.inr (some (a1 + 3)))]) (h' := gc_h sh I97 J23 A) (C := (True ∧ True)) rfl ⟨trivial, trivial⟩ ?_
                refine gv_get hD rfl rfl S_39 ⟨by decide, B_39⟩ (gc_hA S_39 rfl A_39_1) ?_
                show gv_X _ _ (153, [(0, .inr (.inr (some 39))), (1, .inr (.inr (some a1))), (2, .inl v2_24)], [.inr (.inr (some 23)), .inl (I97 a1 4), .inr (.inr (some (a1 + 3)))], sh, gc_h sh I97 J23 A)
                have t109 := gc_TK_l3 KTK_I97 (by omega)
                obtain ⟨r108, h108, E108, P108⟩ := d_X9_lettersSize (ws0 := ws0) (tb := tb) hws htb sh ro I97 J23 A hI97 23  (gc_b23 hb)     
                obtain ⟨rfl, ⟨z108, rfl, q108⟩⟩ := P108
                refine gv_callV hD rfl (As := []) (st := [.inl (I97 a1 4), .inr (.inr (some (a1 + 3)))]) rfl B_23 S_23 rfl (gc_lV6 hws rfl) (Nat.le_of_ble_eq_true rfl) (gz_Ev_mono (d := 1) (by decide) E108) ?_
                show gv_X _ _ (156, [(0, .inr (.inr (some 39))), (1, .inr (.inr (some a1))), (2, .inl v2_24)], [.inl z108, .inl (I97 a1 4), .inr (.inr (some (a1 + 3)))], sh, gc_h sh I97 J23 A)
                refine gv_iast hD rfl S_a1_3 ⟨by decide, B_a1_3⟩ ⟨by omega, by omega⟩ ?_
                refine gc_st hI97 S_a1_3 rfl R_a1_3 (lo := 0) (hi := 24) rfl rfl (by omega) (by omega) (fun I110 hI110 q111 p111 => ?_)
                have FI110 := gc_frs (W := fun q j => (q = 39 ∧ j = 3) ∨ (q = 39 ∧ j = 4) ∨ (q = 23 ∧ j = 5) ∨ (q = 23 ∧ j = 6) ∨ (q = 23 ∧ j = 7) ∨ (q = 23 ∧ j = 8) ∨ (q = 1 ∧ j = 17) ∨ (q = 1 ∧ j = 18) ∨ q = 20 ∨ (q = 39 ∧ j = 6) ∨ q = (a1 + 1) ∨ q = (a1 + 6) ∨ q = (a1 + 4) ∨ q = (a1 + 5) ∨ (q = a1 ∧ j = 8) ∨ q = (a1 + 2) ∨ q = (a1 + 3) ∨ (q = a1 ∧ j = 4)) FI97 (Or.inr (Or.inr (Or.inr (Or.inr (Or.inr (Or.inr (Or.inr (Or.inr (Or.inr (Or.inr (Or.inr (Or.inr (Or.inr (Or.inr (Or.inr (Or.inr (Or.inl rfl))))))))))))))))) p111
                have t112 := p111 23 1 (fun h => absurd h.1 N_23__a1_3)
                have t113 := p111 23 5 (fun h => absurd h.1 N_23__a1_3)
                have t114 := p111 23 6 (fun h => absurd h.1 N_23__a1_3)
                have t115 := p111 23 7 (fun h => absurd h.1 N_23__a1_3)
                have t116 := p111 1 17 (fun h => absurd h.1 N_1__a1_3)
                have t117 := p111 a1 4 (fun h => absurd h.1 N_a1__a1_3)
                have t118 := p111 a1 8 (fun h => absurd h.1 N_a1__a1_3)
                have t119 := p111 39 2 (fun h => absurd h.1 N_39__a1_3)
                have KLT_I110 := gc_LT_fr KLT_I97 (p111 23 5 (fun h => absurd h.1 N_23__a1_3)) (p111 23 6 (fun h => absurd h.1 N_23__a1_3)) (p111 23 7 (fun h => absurd h.1 N_23__a1_3)) (fun k => p111 24 k (fun h => absurd h.1 N_24__a1_3))
                have KTK_I110 := gc_TK_fr KTK_I97 (p111 23 1 (fun h => absurd h.1 N_23__a1_3)) (p111 23 5 (fun h => absurd h.1 N_23__a1_3)) (p111 23 6 (fun h => absurd h.1 N_23__a1_3)) (p111 23 7 (fun h => absurd h.1 N_23__a1_3))
                have KCT_I110 := gc_CT_fr KCT_I97 (p111 a1 8 (fun h => absurd h.1 N_a1__a1_3)) (fun k => p111 (a1 + 6) k (fun h => absurd h.1 N_a1_6__a1_3))
                show gv_X _ _ (157, [(0, .inr (.inr (some 39))), (1, .inr (.inr (some a1))), (2, .inl v2_24)], [], sh, gc_h sh I110 J23 A)
                refine gv_run 1 true hD (pc' := 158) (lv' := [(0, .inr (.inr (some 39))), (1, .inr (.inr (some a1))), (2, .inl v2_24)]) (st' := [.inr (.inr (some 39))]) (h' := gc_h sh I110 J23 A) (C := (True ∧ True)) rfl ⟨trivial, trivial⟩ ?_
                refine gv_get hD rfl rfl S_39 ⟨by decide, B_39⟩ (gc_hA S_39 rfl A_39_1) ?_
                show gv_X _ _ (161, [(0, .inr (.inr (some 39))), (1, .inr (.inr (some a1))), (2, .inl v2_24)], [.inr (.inr (some 23))], sh, gc_h sh I110 J23 A)
                have t121 := gc_TK_nx KTK_I110 (by omega)
                have t122 := gc_TK_st KTK_I110 (by omega)
                obtain ⟨r120, h120, E120, P120⟩ := d_X9_advance (ws0 := ws0) (tb := tb) hws htb sh ro I110 J23 A hI110 23  (gc_b23 hb)    (by omega) 
                obtain ⟨I123, J124, rfl, hI123, g120, k120, ⟨rfl, V120_0, V120_1, V120_2, V120_3, V120_4, q120⟩⟩ := P120
                have FI123 := gc_frc (W := fun q j => (q = 39 ∧ j = 3) ∨ (q = 39 ∧ j = 4) ∨ (q = 23 ∧ j = 5) ∨ (q = 23 ∧ j = 6) ∨ (q = 23 ∧ j = 7) ∨ (q = 23 ∧ j = 8) ∨ (q = 1 ∧ j = 17) ∨ (q = 1 ∧ j = 18) ∨ q = 20 ∨ (q = 39 ∧ j = 6) ∨ q = (a1 + 1) ∨ q = (a1 + 6) ∨ q = (a1 + 4) ∨ q = (a1 + 5) ∨ (q = a1 ∧ j = 8) ∨ q = (a1 + 2) ∨ q = (a1 + 3) ∨ (q = a1 ∧ j = 4)) (V := fun q j => (q = 23 ∧ j = 5) ∨ (q = 23 ∧ j = 6) ∨ (q = 23 ∧ j = 7) ∨ (q = 23 ∧ j = 8)) FI110 (fun q j h => (h.elim (fun h => (Or.inr (Or.inr (Or.inl h)))) (fun h => (h.elim (fun h => (Or.inr (Or.inr (Or.inr (Or.inl h))))) (fun h => (h.elim (fun h => (Or.inr (Or.inr (Or.inr (Or.inr (Or.inl h)))))) (fun h => (Or.inr (Or.inr (Or.inr (Or.inr (Or.inr (Or.inl h))))))))))))) g120
                have FJ124 := gc_frc (W := fun q j => (q = 23 ∧ j = 9)) (V := fun q j => (q = 23 ∧ j = 9)) FJ23 (fun q j h => h) k120
                have t125 := (g120 23 1).resolve_left (fun h => h.elim (fun h => absurd h.2 (by decide)) (fun h => h.elim (fun h => absurd h.2 (by decide)) (fun h => h.elim (fun h => absurd h.2 (by decide)) (fun h => absurd h.2 (by decide)))))
                have t126 := (g120 1 17).resolve_left (fun h => h.elim (fun h => absurd h.2 (by decide)) (fun h => h.elim (fun h => absurd h.2 (by decide)) (fun h => h.elim (fun h => absurd h.2 (by decide)) (fun h => absurd h.2 (by decide)))))
                have t127 := (g120 a1 4).resolve_left (fun h => h.elim (fun h => absurd h.2 (by decide)) (fun h => h.elim (fun h => absurd h.2 (by decide)) (fun h => h.elim (fun h => absurd h.2 (by decide)) (fun h => absurd h.2 (by decide)))))
                have t128 := (g120 a1 8).resolve_left (fun h => h.elim (fun h => absurd h.2 (by decide)) (fun h => h.elim (fun h => absurd h.2 (by decide)) (fun h => h.elim (fun h => absurd h.2 (by decide)) (fun h => absurd h.1 N_a1__23))))
                have t129 := (g120 39 2).resolve_left (fun h => h.elim (fun h => absurd h.2 (by decide)) (fun h => h.elim (fun h => absurd h.2 (by decide)) (fun h => h.elim (fun h => absurd h.2 (by decide)) (fun h => absurd h.2 (by decide)))))
                have f130 := (show 0 ≤ I123 23 5 ∧ I123 23 5 ≤ 1000 from gc_in hI123 R_23 rfl rfl)
                have f131 := (show 0 ≤ I123 23 6 ∧ I123 23 6 ≤ 1001 from gc_in hI123 R_23 rfl rfl)
                have f132 := (show 0 ≤ I123 23 7 ∧ I123 23 7 ≤ 125 from gc_in hI123 R_23 rfl rfl)
                have KLT_I123 : gc_LT I123 := q120.2.2
                have KCT_I123 := gc_CT_fr KCT_I110 ((g120 a1 8).resolve_left (fun h => h.elim (fun h => absurd h.2 (by decide)) (fun h => h.elim (fun h => absurd h.2 (by decide)) (fun h => h.elim (fun h => absurd h.2 (by decide)) (fun h => absurd h.1 N_a1__23))))) (fun k => (g120 (a1 + 6) k).resolve_left (fun h => h.elim (fun h => absurd h.1 N_a1_6__23) (fun h => h.elim (fun h => absurd h.1 N_a1_6__23) (fun h => h.elim (fun h => absurd h.1 N_a1_6__23) (fun h => absurd h.1 N_a1_6__23)))))
                have KTK_I123 : gc_TK I123 := And.intro V120_0 (And.intro V120_1 (And.intro V120_2 (And.intro V120_3 V120_4)))
                have t133 := gc_TK_mo KTK_I123
                clear V120_0 V120_1 V120_2 V120_3 V120_4
                refine gv_callV hD rfl (As := []) (st := []) rfl B_23 S_23 rfl (gc_lV6 hws rfl) (Nat.le_of_ble_eq_true rfl) (gz_Ev_mono (d := 2) (by decide) E120) ?_
                show gv_X _ _ (164, [(0, .inr (.inr (some 39))), (1, .inr (.inr (some a1))), (2, .inl v2_24)], [], sh, gc_h sh I123 J124 A)
                exact L164 I123 J124 hI123 FI123 FJ124 KLT_I123 KTK_I123 KCT_I123 (by omega)
              · show gv_X _ _ (105, [(0, .inr (.inr (some 39))), (1, .inr (.inr (some a1))), (2, .inl v2_24)], [], sh, gc_h sh I22 J23 A)
                refine gv_run 3 true hD (pc' := 108) (lv' := [(0, .inr (.inr (some 39))), (1, .inr (.inr (some a1))), (2, .inl v2_24)]) (st' := [.inr (.inr (some 39)), .inl 5, .inr (.inr (some 39))]) (h' := gc_h sh I22 J23 A) (C := (((True ∧ True) ∧ True) ∧ True)) rfl ⟨⟨⟨trivial, trivial⟩, trivial⟩, trivial⟩ ?_
                refine gv_get hD rfl rfl S_39 ⟨by decide, B_39⟩ (gc_hA S_39 rfl A_39_1) ?_
                show gv_X _ _ (111, [(0, .inr (.inr (some 39))), (1, .inr (.inr (some a1))), (2, .inl v2_24)], [.inr (.inr (some 23)), .inl 5, .inr (.inr (some 39))], sh, gc_h sh I22 J23 A)
                have f134 := (show 0 ≤ I22 23 5 ∧ I22 23 5 ≤ 1000 from gc_in hI22 R_23 rfl rfl)
                refine gv_get hD rfl rfl S_23 ⟨by decide, B_23⟩ (gc_hI S_23 rfl) ?_
                show gv_X _ _ (114, [(0, .inr (.inr (some 39))), (1, .inr (.inr (some a1))), (2, .inl v2_24)], [.inl (I22 23 5), .inl 5, .inr (.inr (some 39))], sh, gc_h sh I22 J23 A)
                obtain ⟨r135, h135, E135, P135⟩ := d_X6_wrong (ws0 := ws0) (tb := tb) hws htb sh ro I22 J23 A hI22  5 (I22 23 5) hb   ⟨by omega, by omega⟩ ⟨by omega, by omega⟩  
                obtain ⟨I136, J137, rfl, hI136, g135, k135, ⟨z135, rfl, q135⟩⟩ := P135
                have FI136 := gc_frc (W := fun q j => (q = 39 ∧ j = 3) ∨ (q = 39 ∧ j = 4) ∨ (q = 23 ∧ j = 5) ∨ (q = 23 ∧ j = 6) ∨ (q = 23 ∧ j = 7) ∨ (q = 23 ∧ j = 8) ∨ (q = 1 ∧ j = 17) ∨ (q = 1 ∧ j = 18) ∨ q = 20 ∨ (q = 39 ∧ j = 6) ∨ q = (a1 + 1) ∨ q = (a1 + 6) ∨ q = (a1 + 4) ∨ q = (a1 + 5) ∨ (q = a1 ∧ j = 8) ∨ q = (a1 + 2) ∨ q = (a1 + 3) ∨ (q = a1 ∧ j = 4)) (V := fun q j => (q = 39 ∧ j = 3) ∨ (q = 39 ∧ j = 4)) FI22 (fun q j h => (h.elim (fun h => (Or.inl h)) (fun h => (Or.inr (Or.inl h))))) g135
                have t138 := (g135 23 1).resolve_left (fun h => h.elim (fun h => absurd h.2 (by decide)) (fun h => absurd h.2 (by decide)))
                have t139 := (g135 23 5).resolve_left (fun h => h.elim (fun h => absurd h.2 (by decide)) (fun h => absurd h.2 (by decide)))
                have t140 := (g135 23 6).resolve_left (fun h => h.elim (fun h => absurd h.2 (by decide)) (fun h => absurd h.2 (by decide)))
                have t141 := (g135 23 7).resolve_left (fun h => h.elim (fun h => absurd h.2 (by decide)) (fun h => absurd h.2 (by decide)))
                have t142 := (g135 1 17).resolve_left (fun h => h.elim (fun h => absurd h.2 (by decide)) (fun h => absurd h.2 (by decide)))
                have t143 := (g135 a1 4).resolve_left (fun h => h.elim (fun h => absurd h.2 (by decide)) (fun h => absurd h.1 N_a1__39))
                have t144 := (g135 a1 8).resolve_left (fun h => h.elim (fun h => absurd h.2 (by decide)) (fun h => absurd h.2 (by decide)))
                have t145 := (g135 39 2).resolve_left (fun h => h.elim (fun h => absurd h.2 (by decide)) (fun h => absurd h.2 (by decide)))
                obtain rfl : J23 = J137 := funext fun q => funext fun j => ((k135 q j).resolve_left id).symm
                have KLT_I136 := gc_LT_fr KLT_I22 ((g135 23 5).resolve_left (fun h => h.elim (fun h => absurd h.2 (by decide)) (fun h => absurd h.2 (by decide)))) ((g135 23 6).resolve_left (fun h => h.elim (fun h => absurd h.2 (by decide)) (fun h => absurd h.2 (by decide)))) ((g135 23 7).resolve_left (fun h => h.elim (fun h => absurd h.2 (by decide)) (fun h => absurd h.2 (by decide)))) (fun k => (g135 24 k).resolve_left (fun h => h.elim (fun h => absurd h.1 (by decide)) (fun h => absurd h.1 (by decide))))
                have KTK_I136 := gc_TK_fr KTK_I22 ((g135 23 1).resolve_left (fun h => h.elim (fun h => absurd h.2 (by decide)) (fun h => absurd h.2 (by decide)))) ((g135 23 5).resolve_left (fun h => h.elim (fun h => absurd h.2 (by decide)) (fun h => absurd h.2 (by decide)))) ((g135 23 6).resolve_left (fun h => h.elim (fun h => absurd h.2 (by decide)) (fun h => absurd h.2 (by decide)))) ((g135 23 7).resolve_left (fun h => h.elim (fun h => absurd h.2 (by decide)) (fun h => absurd h.2 (by decide))))
                have KCT_I136 := gc_CT_fr KCT_I22 ((g135 a1 8).resolve_left (fun h => h.elim (fun h => absurd h.2 (by decide)) (fun h => absurd h.2 (by decide)))) (fun k => (g135 (a1 + 6) k).resolve_left (fun h => h.elim (fun h => absurd h.1 N_a1_6__39) (fun h => absurd h.1 N_a1_6__39)))
                refine gv_callV hD rfl (As := [.inl 5, .inl (I22 23 5)]) (st := []) rfl B_39 S_39 rfl (gc_lV6 hws rfl) (Nat.le_of_ble_eq_true rfl) (gz_Ev_mono (d := 1) (by decide) E135) ?_
                show gv_X _ _ (117, [(0, .inr (.inr (some 39))), (1, .inr (.inr (some a1))), (2, .inl v2_24)], [.inl z135], sh, gc_h sh I136 J23 A)
                exact gv_zret hD rfl (by omega) ⟨I136, J23, rfl, hI136, FI136, FJ23, KLT_I136, KTK_I136, KCT_I136, ⟨_, rfl, by omega⟩⟩
            · show gv_X _ _ (84, [(0, .inr (.inr (some 39))), (1, .inr (.inr (some a1))), (2, .inl v2_24)], [], sh, gc_h sh I22 J23 A)
              refine gv_run 2 true hD (pc' := 86) (lv' := [(0, .inr (.inr (some 39))), (1, .inr (.inr (some a1))), (2, .inl v2_24)]) (st' := [.inr (.inr (some a1)), .inr (.inr (some 39))]) (h' := gc_h sh I22 J23 A) (C := ((True ∧ True) ∧ True)) rfl ⟨⟨trivial, trivial⟩, trivial⟩ ?_
              obtain ⟨r146, h146, E146, P146⟩ := d_X6_readArgument (ws0 := ws0) (tb := tb) hws htb sh ro I22 J23 A hI22  t a1 hb h_a1 G_a1 h_t G_t   (by omega) (by omega) (by omega) KLT_I22 KTK_I22 KCT_I22
              obtain ⟨I147, J148, rfl, hI147, g146, k146, KLT_I147, KTK_I147, KCT_I147, ⟨z146, rfl, q146⟩⟩ := P146
              have FI147 := gc_frc (W := fun q j => (q = 39 ∧ j = 3) ∨ (q = 39 ∧ j = 4) ∨ (q = 23 ∧ j = 5) ∨ (q = 23 ∧ j = 6) ∨ (q = 23 ∧ j = 7) ∨ (q = 23 ∧ j = 8) ∨ (q = 1 ∧ j = 17) ∨ (q = 1 ∧ j = 18) ∨ q = 20 ∨ (q = 39 ∧ j = 6) ∨ q = (a1 + 1) ∨ q = (a1 + 6) ∨ q = (a1 + 4) ∨ q = (a1 + 5) ∨ (q = a1 ∧ j = 8) ∨ q = (a1 + 2) ∨ q = (a1 + 3) ∨ (q = a1 ∧ j = 4)) (V := fun q j => (q = 39 ∧ j = 3) ∨ (q = 39 ∧ j = 4) ∨ (q = 23 ∧ j = 5) ∨ (q = 23 ∧ j = 6) ∨ (q = 23 ∧ j = 7) ∨ (q = 23 ∧ j = 8) ∨ (q = 39 ∧ j = 6) ∨ q = (a1 + 1) ∨ q = (a1 + 6) ∨ q = (a1 + 4) ∨ q = (a1 + 5) ∨ (q = a1 ∧ j = 8)) FI22 (fun q j h => (h.elim (fun h => (Or.inl h)) (fun h => (h.elim (fun h => (Or.inr (Or.inl h))) (fun h => (h.elim (fun h => (Or.inr (Or.inr (Or.inl h)))) (fun h => (h.elim (fun h => (Or.inr (Or.inr (Or.inr (Or.inl h))))) (fun h => (h.elim (fun h => (Or.inr (Or.inr (Or.inr (Or.inr (Or.inl h)))))) (fun h => (h.elim (fun h => (Or.inr (Or.inr (Or.inr (Or.inr (Or.inr (Or.inl h))))))) (fun h => (h.elim (fun h => (Or.inr (Or.inr (Or.inr (Or.inr (Or.inr (Or.inr (Or.inr (Or.inr (Or.inr (Or.inl h))))))))))) (fun h => (h.elim (fun h => (Or.inr (Or.inr (Or.inr (Or.inr (Or.inr (Or.inr (Or.inr (Or.inr (Or.inr (Or.inr (Or.inl h)))))))))))) (fun h => (h.elim (fun h => (Or.inr (Or.inr (Or.inr (Or.inr (Or.inr (Or.inr (Or.inr (Or.inr (Or.inr (Or.inr (Or.inr (Or.inl h))))))))))))) (fun h => (h.elim (fun h => (Or.inr (Or.inr (Or.inr (Or.inr (Or.inr (Or.inr (Or.inr (Or.inr (Or.inr (Or.inr (Or.inr (Or.inr (Or.inl h)))))))))))))) (fun h => (h.elim (fun h => (Or.inr (Or.inr (Or.inr (Or.inr (Or.inr (Or.inr (Or.inr (Or.inr (Or.inr (Or.inr (Or.inr (Or.inr (Or.inr (Or.inl h))))))))))))))) (fun h => (Or.inr (Or.inr (Or.inr (Or.inr (Or.inr (Or.inr (Or.inr (Or.inr (Or.inr (Or.inr (Or.inr (Or.inr (Or.inr (Or.inr (Or.inl h)))))))))))))))))))))))))))))))))))))) g146
              have FJ148 := gc_frc (W := fun q j => (q = 23 ∧ j = 9)) (V := fun q j => (q = 23 ∧ j = 9)) FJ23 (fun q j h => h) k146
              have t149 := (g146 23 1).resolve_left (fun h => h.elim (fun h => absurd h.2 (by decide)) (fun h => h.elim (fun h => absurd h.2 (by decide)) (fun h => h.elim (fun h => absurd h.2 (by decide)) (fun h => h.elim (fun h => absurd h.2 (by decide)) (fun h => h.elim (fun h => absurd h.2 (by decide)) (fun h => h.elim (fun h => absurd h.2 (by decide)) (fun h => h.elim (fun h => absurd h.2 (by decide)) (fun h => h.elim (fun h => absurd h N_23__a1_1) (fun h => h.elim (fun h => absurd h N_23__a1_6) (fun h => h.elim (fun h => absurd h N_23__a1_4) (fun h => h.elim (fun h => absurd h N_23__a1_5) (fun h => absurd h.2 (by decide)))))))))))))
              have t150 := (g146 1 17).resolve_left (fun h => h.elim (fun h => absurd h.2 (by decide)) (fun h => h.elim (fun h => absurd h.2 (by decide)) (fun h => h.elim (fun h => absurd h.2 (by decide)) (fun h => h.elim (fun h => absurd h.2 (by decide)) (fun h => h.elim (fun h => absurd h.2 (by decide)) (fun h => h.elim (fun h => absurd h.2 (by decide)) (fun h => h.elim (fun h => absurd h.2 (by decide)) (fun h => h.elim (fun h => absurd h N_1__a1_1) (fun h => h.elim (fun h => absurd h N_1__a1_6) (fun h => h.elim (fun h => absurd h N_1__a1_4) (fun h => h.elim (fun h => absurd h N_1__a1_5) (fun h => absurd h.2 (by decide)))))))))))))
              have t151 := (g146 a1 4).resolve_left (fun h => h.elim (fun h => absurd h.2 (by decide)) (fun h => h.elim (fun h => absurd h.1 N_a1__39) (fun h => h.elim (fun h => absurd h.2 (by decide)) (fun h => h.elim (fun h => absurd h.2 (by decide)) (fun h => h.elim (fun h => absurd h.2 (by decide)) (fun h => h.elim (fun h => absurd h.2 (by decide)) (fun h => h.elim (fun h => absurd h.2 (by decide)) (fun h => h.elim (fun h => absurd h N_a1__a1_1) (fun h => h.elim (fun h => absurd h N_a1__a1_6) (fun h => h.elim (fun h => absurd h N_a1__a1_4) (fun h => h.elim (fun h => absurd h N_a1__a1_5) (fun h => absurd h.2 (by decide)))))))))))))
              have t152 := (g146 39 2).resolve_left (fun h => h.elim (fun h => absurd h.2 (by decide)) (fun h => h.elim (fun h => absurd h.2 (by decide)) (fun h => h.elim (fun h => absurd h.2 (by decide)) (fun h => h.elim (fun h => absurd h.2 (by decide)) (fun h => h.elim (fun h => absurd h.2 (by decide)) (fun h => h.elim (fun h => absurd h.2 (by decide)) (fun h => h.elim (fun h => absurd h.2 (by decide)) (fun h => h.elim (fun h => absurd h N_39__a1_1) (fun h => h.elim (fun h => absurd h N_39__a1_6) (fun h => h.elim (fun h => absurd h N_39__a1_4) (fun h => h.elim (fun h => absurd h N_39__a1_5) (fun h => absurd h.2 (by decide)))))))))))))
              have f153 := (show 0 ≤ I147 23 5 ∧ I147 23 5 ≤ 1000 from gc_in hI147 R_23 rfl rfl)
              have f154 := (show 0 ≤ I147 23 6 ∧ I147 23 6 ≤ 1001 from gc_in hI147 R_23 rfl rfl)
              have f155 := (show 0 ≤ I147 23 7 ∧ I147 23 7 ≤ 125 from gc_in hI147 R_23 rfl rfl)
              have f156 := (show 0 ≤ I147 a1 8 ∧ I147 a1 8 ≤ 4 from gc_in hI147 R_a1 rfl rfl)
              have t157 := gc_TK_mo KTK_I147
              refine gv_callV hD rfl (As := [.inr (.inr (some a1))]) (st := []) rfl B_39 S_39 rfl (gc_lV6 hws rfl) (Nat.le_of_ble_eq_true rfl) (gz_Ev_mono (d := 4) (by decide) E146) ?_
              show gv_X _ _ (89, [(0, .inr (.inr (some 39))), (1, .inr (.inr (some a1))), (2, .inl v2_24)], [.inl z146], sh, gc_h sh I147 J148 A)
              refine gv_if_ne (t := 164) hD rfl rfl ⟨by omega, by omega⟩ (fun c158 => ?_) (fun c158 => ?_)
              · show gv_X _ _ (164, [(0, .inr (.inr (some 39))), (1, .inr (.inr (some a1))), (2, .inl v2_24)], [], sh, gc_h sh I147 J148 A)
                exact L164 I147 J148 hI147 FI147 FJ148 KLT_I147 KTK_I147 KCT_I147 (by omega)
              · show gv_X _ _ (92, [(0, .inr (.inr (some 39))), (1, .inr (.inr (some a1))), (2, .inl v2_24)], [], sh, gc_h sh I147 J148 A)
                refine gv_run 1 true hD (pc' := 93) (lv' := [(0, .inr (.inr (some 39))), (1, .inr (.inr (some a1))), (2, .inl v2_24)]) (st' := [.inl 0]) (h' := gc_h sh I147 J148 A) (C := (True ∧ True)) rfl ⟨trivial, trivial⟩ ?_
                exact gv_zret hD rfl (by omega) ⟨I147, J148, rfl, hI147, FI147, FJ148, KLT_I147, KTK_I147, KCT_I147, ⟨_, rfl, by omega⟩⟩
          · show gv_X _ _ (60, [(0, .inr (.inr (some 39))), (1, .inr (.inr (some a1))), (2, .inl v2_24)], [], sh, gc_h sh I22 J23 A)
            refine gv_run 3 true hD (pc' := 63) (lv' := [(0, .inr (.inr (some 39))), (1, .inr (.inr (some a1))), (2, .inl v2_24)]) (st' := [.inr (.inr (some 39)), .inl 5, .inr (.inr (some 39))]) (h' := gc_h sh I22 J23 A) (C := (((True ∧ True) ∧ True) ∧ True)) rfl ⟨⟨⟨trivial, trivial⟩, trivial⟩, trivial⟩ ?_
            refine gv_get hD rfl rfl S_39 ⟨by decide, B_39⟩ (gc_hA S_39 rfl A_39_1) ?_
            show gv_X _ _ (66, [(0, .inr (.inr (some 39))), (1, .inr (.inr (some a1))), (2, .inl v2_24)], [.inr (.inr (some 23)), .inl 5, .inr (.inr (some 39))], sh, gc_h sh I22 J23 A)
            have f159 := (show 0 ≤ I22 23 5 ∧ I22 23 5 ≤ 1000 from gc_in hI22 R_23 rfl rfl)
            refine gv_get hD rfl rfl S_23 ⟨by decide, B_23⟩ (gc_hI S_23 rfl) ?_
            show gv_X _ _ (69, [(0, .inr (.inr (some 39))), (1, .inr (.inr (some a1))), (2, .inl v2_24)], [.inl (I22 23 5), .inl 5, .inr (.inr (some 39))], sh, gc_h sh I22 J23 A)
            obtain ⟨r160, h160, E160, P160⟩ := d_X6_wrong (ws0 := ws0) (tb := tb) hws htb sh ro I22 J23 A hI22  5 (I22 23 5) hb   ⟨by omega, by omega⟩ ⟨by omega, by omega⟩  
            obtain ⟨I161, J162, rfl, hI161, g160, k160, ⟨z160, rfl, q160⟩⟩ := P160
            have FI161 := gc_frc (W := fun q j => (q = 39 ∧ j = 3) ∨ (q = 39 ∧ j = 4) ∨ (q = 23 ∧ j = 5) ∨ (q = 23 ∧ j = 6) ∨ (q = 23 ∧ j = 7) ∨ (q = 23 ∧ j = 8) ∨ (q = 1 ∧ j = 17) ∨ (q = 1 ∧ j = 18) ∨ q = 20 ∨ (q = 39 ∧ j = 6) ∨ q = (a1 + 1) ∨ q = (a1 + 6) ∨ q = (a1 + 4) ∨ q = (a1 + 5) ∨ (q = a1 ∧ j = 8) ∨ q = (a1 + 2) ∨ q = (a1 + 3) ∨ (q = a1 ∧ j = 4)) (V := fun q j => (q = 39 ∧ j = 3) ∨ (q = 39 ∧ j = 4)) FI22 (fun q j h => (h.elim (fun h => (Or.inl h)) (fun h => (Or.inr (Or.inl h))))) g160
            have t163 := (g160 23 1).resolve_left (fun h => h.elim (fun h => absurd h.2 (by decide)) (fun h => absurd h.2 (by decide)))
            have t164 := (g160 23 5).resolve_left (fun h => h.elim (fun h => absurd h.2 (by decide)) (fun h => absurd h.2 (by decide)))
            have t165 := (g160 23 6).resolve_left (fun h => h.elim (fun h => absurd h.2 (by decide)) (fun h => absurd h.2 (by decide)))
            have t166 := (g160 23 7).resolve_left (fun h => h.elim (fun h => absurd h.2 (by decide)) (fun h => absurd h.2 (by decide)))
            have t167 := (g160 1 17).resolve_left (fun h => h.elim (fun h => absurd h.2 (by decide)) (fun h => absurd h.2 (by decide)))
            have t168 := (g160 a1 4).resolve_left (fun h => h.elim (fun h => absurd h.2 (by decide)) (fun h => absurd h.1 N_a1__39))
            have t169 := (g160 a1 8).resolve_left (fun h => h.elim (fun h => absurd h.2 (by decide)) (fun h => absurd h.2 (by decide)))
            have t170 := (g160 39 2).resolve_left (fun h => h.elim (fun h => absurd h.2 (by decide)) (fun h => absurd h.2 (by decide)))
            obtain rfl : J23 = J162 := funext fun q => funext fun j => ((k160 q j).resolve_left id).symm
            have KLT_I161 := gc_LT_fr KLT_I22 ((g160 23 5).resolve_left (fun h => h.elim (fun h => absurd h.2 (by decide)) (fun h => absurd h.2 (by decide)))) ((g160 23 6).resolve_left (fun h => h.elim (fun h => absurd h.2 (by decide)) (fun h => absurd h.2 (by decide)))) ((g160 23 7).resolve_left (fun h => h.elim (fun h => absurd h.2 (by decide)) (fun h => absurd h.2 (by decide)))) (fun k => (g160 24 k).resolve_left (fun h => h.elim (fun h => absurd h.1 (by decide)) (fun h => absurd h.1 (by decide))))
            have KTK_I161 := gc_TK_fr KTK_I22 ((g160 23 1).resolve_left (fun h => h.elim (fun h => absurd h.2 (by decide)) (fun h => absurd h.2 (by decide)))) ((g160 23 5).resolve_left (fun h => h.elim (fun h => absurd h.2 (by decide)) (fun h => absurd h.2 (by decide)))) ((g160 23 6).resolve_left (fun h => h.elim (fun h => absurd h.2 (by decide)) (fun h => absurd h.2 (by decide)))) ((g160 23 7).resolve_left (fun h => h.elim (fun h => absurd h.2 (by decide)) (fun h => absurd h.2 (by decide))))
            have KCT_I161 := gc_CT_fr KCT_I22 ((g160 a1 8).resolve_left (fun h => h.elim (fun h => absurd h.2 (by decide)) (fun h => absurd h.2 (by decide)))) (fun k => (g160 (a1 + 6) k).resolve_left (fun h => h.elim (fun h => absurd h.1 N_a1_6__39) (fun h => absurd h.1 N_a1_6__39)))
            refine gv_callV hD rfl (As := [.inl 5, .inl (I22 23 5)]) (st := []) rfl B_39 S_39 rfl (gc_lV6 hws rfl) (Nat.le_of_ble_eq_true rfl) (gz_Ev_mono (d := 1) (by decide) E160) ?_
            show gv_X _ _ (72, [(0, .inr (.inr (some 39))), (1, .inr (.inr (some a1))), (2, .inl v2_24)], [.inl z160], sh, gc_h sh I161 J23 A)
            exact gv_zret hD rfl (by omega) ⟨I161, J23, rfl, hI161, FI161, FJ23, KLT_I161, KTK_I161, KCT_I161, ⟨_, rfl, by omega⟩⟩
        have L180 : ((I22 23 1 = I 23 1) ∧ (I 23 5 ≤ I22 23 5) ∧ (B ≤ 1280 ∧ I22 1 17 + I22 23 1 ≤ B + I22 23 5) ∧ (I22 39 2 = (t : Int))) → gv_X (gc_E6 ws0 tb 4 (yX6_readItems, cX6_readItems, 3, (some .boolean)) kX6_readItems) (gv_Q cX6_readItems (some .boolean) sh (fun r h' => (∃ (I' : gr_I) (J' : gr_J), h' = gc_h sh I' J' A ∧ gc_Inv ro I' ∧ (∀ q j : Nat, ((q = 39 ∧ j = 3) ∨ (q = 39 ∧ j = 4) ∨ (q = 23 ∧ j = 5) ∨ (q = 23 ∧ j = 6) ∨ (q = 23 ∧ j = 7) ∨ (q = 23 ∧ j = 8) ∨ (q = 1 ∧ j = 17) ∨ (q = 1 ∧ j = 18) ∨ q = 20 ∨ (q = 39 ∧ j = 6) ∨ q = (a1 + 1) ∨ q = (a1 + 6) ∨ q = (a1 + 4) ∨ q = (a1 + 5) ∨ (q = a1 ∧ j = 8) ∨ q = (a1 + 2) ∨ q = (a1 + 3) ∨ (q = a1 ∧ j = 4)) ∨ I' q j = I q j) ∧ (∀ q j : Nat, ((q = 23 ∧ j = 9)) ∨ J' q j = J q j) ∧ gc_LT I' ∧ gc_TK I' ∧ gc_CT a1 I' ∧ (∃ z : Int, r = some (.inl z) ∧ 0 ≤ z ∧ z ≤ 1 ∧ (I' 23 1 = I 23 1) ∧ (I 23 5 ≤ I' 23 5) ∧ (B ≤ 1280 ∧ I' 1 17 + I' 23 1 ≤ B + I' 23 5))))) (180, [], [], sh, gc_h sh I22 J23 A) := by
          intro m_171
          obtain ⟨e0_171, e1_171, e2_171, e3_171⟩ := m_171
          have t172 := gc_TK_mo KTK_I22
          have f173 := (show 0 ≤ I22 23 1 ∧ I22 23 1 ≤ 1000 from gc_in hI22 R_23 rfl rfl)
          have f174 := (show 0 ≤ I22 23 5 ∧ I22 23 5 ≤ 1000 from gc_in hI22 R_23 rfl rfl)
          have f175 := (show 0 ≤ I22 23 6 ∧ I22 23 6 ≤ 1001 from gc_in hI22 R_23 rfl rfl)
          have f176 := (show 0 ≤ I22 23 7 ∧ I22 23 7 ≤ 125 from gc_in hI22 R_23 rfl rfl)
          have f177 := (show 0 ≤ I22 1 17 ∧ I22 1 17 ≤ 12000 from gc_in hI22 R_1 rfl rfl)
          have f178 := (show 0 ≤ I22 a1 4 ∧ I22 a1 4 ≤ 6 from gc_in hI22 R_a1 rfl rfl)
          have f179 := (show 0 ≤ I22 a1 8 ∧ I22 a1 8 ≤ 4 from gc_in hI22 R_a1 rfl rfl)
          have f180 := (show (-1) ≤ I22 39 2 ∧ I22 39 2 ≤ 999999 from gc_in hI22 R_39 rfl rfl)
          refine gv_run 1 true hD (pc' := 181) (lv' := []) (st' := [.inl 1]) (h' := gc_h sh I22 J23 A) (C := (True ∧ True)) rfl ⟨trivial, trivial⟩ ?_
          exact gv_zret hD rfl (by omega) ⟨I22, J23, rfl, hI22, FI22, FJ23, KLT_I22, KTK_I22, KCT_I22, ⟨_, rfl, by omega⟩⟩
        refine gv_run 2 true hD (pc' := 26) (lv' := [(0, .inr (.inr (some 39))), (1, .inr (.inr (some a1))), (2, .inl v2_24)]) (st' := [.inl 6, .inl v2_24]) (h' := gc_h sh I22 J23 A) (C := ((True ∧ True) ∧ True)) rfl ⟨⟨trivial, trivial⟩, trivial⟩ ?_
        refine gv_icmp_gt (t := 180) hD rfl rfl ⟨⟨by omega, by omega⟩, ⟨by omega, by omega⟩⟩ (fun c181 => ?_) (fun c181 => ?_)
        · show gv_X _ _ (180, [(0, .inr (.inr (some 39))), (1, .inr (.inr (some a1))), (2, .inl v2_24)], [], sh, gc_h sh I22 J23 A)
          refine gv_pick [] rfl ?_
          exact L180 (by omega)
        · show gv_X _ _ (29, [(0, .inr (.inr (some 39))), (1, .inr (.inr (some a1))), (2, .inl v2_24)], [], sh, gc_h sh I22 J23 A)
          refine gv_run 1 true hD (pc' := 30) (lv' := [(0, .inr (.inr (some 39))), (1, .inr (.inr (some a1))), (2, .inl v2_24)]) (st' := [.inr (.inr (some 39))]) (h' := gc_h sh I22 J23 A) (C := (True ∧ True)) rfl ⟨trivial, trivial⟩ ?_
          refine gv_get hD rfl rfl S_39 ⟨by decide, B_39⟩ (gc_hA S_39 rfl A_39_1) ?_
          show gv_X _ _ (33, [(0, .inr (.inr (some 39))), (1, .inr (.inr (some a1))), (2, .inl v2_24)], [.inr (.inr (some 23))], sh, gc_h sh I22 J23 A)
          have f182 := (show 0 ≤ I22 23 7 ∧ I22 23 7 ≤ 125 from gc_in hI22 R_23 rfl rfl)
          refine gv_get hD rfl rfl S_23 ⟨by decide, B_23⟩ (gc_hI S_23 rfl) ?_
          show gv_X _ _ (36, [(0, .inr (.inr (some 39))), (1, .inr (.inr (some a1))), (2, .inl v2_24)], [.inl (I22 23 7)], sh, gc_h sh I22 J23 A)
          refine gv_run 1 true hD (pc' := 37) (lv' := [(0, .inr (.inr (some 39))), (1, .inr (.inr (some a1))), (2, .inl v2_24)]) (st' := [.inl 3, .inl (I22 23 7)]) (h' := gc_h sh I22 J23 A) (C := (True ∧ True)) rfl ⟨trivial, trivial⟩ ?_
          refine gv_icmp_eq (t := 51) hD rfl rfl ⟨⟨by omega, by omega⟩, ⟨by omega, by omega⟩⟩ (fun c183 => ?_) (fun c183 => ?_)
          · show gv_X _ _ (51, [(0, .inr (.inr (some 39))), (1, .inr (.inr (some a1))), (2, .inl v2_24)], [], sh, gc_h sh I22 J23 A)
            exact L51 (by omega)
          · show gv_X _ _ (40, [(0, .inr (.inr (some 39))), (1, .inr (.inr (some a1))), (2, .inl v2_24)], [], sh, gc_h sh I22 J23 A)
            refine gv_run 1 true hD (pc' := 41) (lv' := [(0, .inr (.inr (some 39))), (1, .inr (.inr (some a1))), (2, .inl v2_24)]) (st' := [.inr (.inr (some 39))]) (h' := gc_h sh I22 J23 A) (C := (True ∧ True)) rfl ⟨trivial, trivial⟩ ?_
            refine gv_get hD rfl rfl S_39 ⟨by decide, B_39⟩ (gc_hA S_39 rfl A_39_1) ?_
            show gv_X _ _ (44, [(0, .inr (.inr (some 39))), (1, .inr (.inr (some a1))), (2, .inl v2_24)], [.inr (.inr (some 23))], sh, gc_h sh I22 J23 A)
            have f184 := (show 0 ≤ I22 23 7 ∧ I22 23 7 ≤ 125 from gc_in hI22 R_23 rfl rfl)
            refine gv_get hD rfl rfl S_23 ⟨by decide, B_23⟩ (gc_hI S_23 rfl) ?_
            show gv_X _ _ (47, [(0, .inr (.inr (some 39))), (1, .inr (.inr (some a1))), (2, .inl v2_24)], [.inl (I22 23 7)], sh, gc_h sh I22 J23 A)
            refine gv_run 1 true hD (pc' := 48) (lv' := [(0, .inr (.inr (some 39))), (1, .inr (.inr (some a1))), (2, .inl v2_24)]) (st' := [.inl 2, .inl (I22 23 7)]) (h' := gc_h sh I22 J23 A) (C := (True ∧ True)) rfl ⟨trivial, trivial⟩ ?_
            refine gv_icmp_ne (t := 180) hD rfl rfl ⟨⟨by omega, by omega⟩, ⟨by omega, by omega⟩⟩ (fun c185 => ?_) (fun c185 => ?_)
            · show gv_X _ _ (180, [(0, .inr (.inr (some 39))), (1, .inr (.inr (some a1))), (2, .inl v2_24)], [], sh, gc_h sh I22 J23 A)
              refine gv_pick [] rfl ?_
              exact L180 (by omega)
            · show gv_X _ _ (51, [(0, .inr (.inr (some 39))), (1, .inr (.inr (some a1))), (2, .inl v2_24)], [], sh, gc_h sh I22 J23 A)
              exact L51 (by omega)
    refine gv_run 2 true hD (pc' := 23) (lv' := [(2, .inl 0), (0, .inr (.inr (some 39))), (1, .inr (.inr (some a1)))]) (st' := []) (h' := gc_h sh I10 J11 A) (C := ((True ∧ True) ∧ True)) rfl ⟨⟨trivial, trivial⟩, trivial⟩ ?_
    refine gv_pick [1, 2, 0] rfl ?_
    exact L23 _ I10 J11 0 (Nat.lt_succ_self _) hI10 FI10 FJ11 KLT_I10 KTK_I10 KCT_I10 (by omega)
  refine gv_run 1 true hD (pc' := 1) (lv' := [(0, .inr (.inr (some 39))), (1, .inr (.inr (some a1)))]) (st' := [.inr (.inr (some 39))]) (h' := gc_h sh I J A) (C := (True ∧ True)) rfl ⟨trivial, trivial⟩ ?_
  refine gv_get hD rfl rfl S_39 ⟨by decide, B_39⟩ (gc_hA S_39 rfl A_39_1) ?_
  show gv_X _ _ (4, [(0, .inr (.inr (some 39))), (1, .inr (.inr (some a1)))], [.inr (.inr (some 23))], sh, gc_h sh I J A)
  have f186 := (show 0 ≤ I 23 7 ∧ I 23 7 ≤ 125 from gc_in hI R_23 rfl rfl)
  refine gv_get hD rfl rfl S_23 ⟨by decide, B_23⟩ (gc_hI S_23 rfl) ?_
  show gv_X _ _ (7, [(0, .inr (.inr (some 39))), (1, .inr (.inr (some a1)))], [.inl (I 23 7)], sh, gc_h sh I J A)
  refine gv_run 1 true hD (pc' := 8) (lv' := [(0, .inr (.inr (some 39))), (1, .inr (.inr (some a1)))]) (st' := [.inl 3, .inl (I 23 7)]) (h' := gc_h sh I J A) (C := (True ∧ True)) rfl ⟨trivial, trivial⟩ ?_
  refine gv_icmp_eq (t := 21) hD rfl rfl ⟨⟨by omega, by omega⟩, ⟨by omega, by omega⟩⟩ (fun c187 => ?_) (fun c187 => ?_)
  · show gv_X _ _ (21, [(0, .inr (.inr (some 39))), (1, .inr (.inr (some a1)))], [], sh, gc_h sh I J A)
    exact L21 I J hI FI FJ KLT_I KTK_I KCT_I (by omega)
  · show gv_X _ _ (11, [(0, .inr (.inr (some 39))), (1, .inr (.inr (some a1)))], [], sh, gc_h sh I J A)
    refine gv_run 2 true hD (pc' := 13) (lv' := [(0, .inr (.inr (some 39))), (1, .inr (.inr (some a1)))]) (st' := [.inl 2, .inr (.inr (some 39))]) (h' := gc_h sh I J A) (C := ((True ∧ True) ∧ True)) rfl ⟨⟨trivial, trivial⟩, trivial⟩ ?_
    obtain ⟨r188, h188, E188, P188⟩ := d_X6_need (ws0 := ws0) (tb := tb) hws htb sh ro I J A hI  2 hb   ⟨by omega, by omega⟩  
    obtain ⟨I189, J190, rfl, hI189, g188, k188, ⟨z188, rfl, q188⟩⟩ := P188
    have FI189 := gc_frc (W := fun q j => (q = 39 ∧ j = 3) ∨ (q = 39 ∧ j = 4) ∨ (q = 23 ∧ j = 5) ∨ (q = 23 ∧ j = 6) ∨ (q = 23 ∧ j = 7) ∨ (q = 23 ∧ j = 8) ∨ (q = 1 ∧ j = 17) ∨ (q = 1 ∧ j = 18) ∨ q = 20 ∨ (q = 39 ∧ j = 6) ∨ q = (a1 + 1) ∨ q = (a1 + 6) ∨ q = (a1 + 4) ∨ q = (a1 + 5) ∨ (q = a1 ∧ j = 8) ∨ q = (a1 + 2) ∨ q = (a1 + 3) ∨ (q = a1 ∧ j = 4)) (V := fun q j => (q = 39 ∧ j = 3) ∨ (q = 39 ∧ j = 4)) FI (fun q j h => (h.elim (fun h => (Or.inl h)) (fun h => (Or.inr (Or.inl h))))) g188
    have t191 := (g188 23 1).resolve_left (fun h => h.elim (fun h => absurd h.2 (by decide)) (fun h => absurd h.2 (by decide)))
    have t192 := (g188 23 5).resolve_left (fun h => h.elim (fun h => absurd h.2 (by decide)) (fun h => absurd h.2 (by decide)))
    have t193 := (g188 23 6).resolve_left (fun h => h.elim (fun h => absurd h.2 (by decide)) (fun h => absurd h.2 (by decide)))
    have t194 := (g188 23 7).resolve_left (fun h => h.elim (fun h => absurd h.2 (by decide)) (fun h => absurd h.2 (by decide)))
    have t195 := (g188 1 17).resolve_left (fun h => h.elim (fun h => absurd h.2 (by decide)) (fun h => absurd h.2 (by decide)))
    have t196 := (g188 a1 4).resolve_left (fun h => h.elim (fun h => absurd h.2 (by decide)) (fun h => absurd h.1 N_a1__39))
    have t197 := (g188 a1 8).resolve_left (fun h => h.elim (fun h => absurd h.2 (by decide)) (fun h => absurd h.2 (by decide)))
    have t198 := (g188 39 2).resolve_left (fun h => h.elim (fun h => absurd h.2 (by decide)) (fun h => absurd h.2 (by decide)))
    obtain rfl : J = J190 := funext fun q => funext fun j => ((k188 q j).resolve_left id).symm
    have KLT_I189 := gc_LT_fr KLT_I ((g188 23 5).resolve_left (fun h => h.elim (fun h => absurd h.2 (by decide)) (fun h => absurd h.2 (by decide)))) ((g188 23 6).resolve_left (fun h => h.elim (fun h => absurd h.2 (by decide)) (fun h => absurd h.2 (by decide)))) ((g188 23 7).resolve_left (fun h => h.elim (fun h => absurd h.2 (by decide)) (fun h => absurd h.2 (by decide)))) (fun k => (g188 24 k).resolve_left (fun h => h.elim (fun h => absurd h.1 (by decide)) (fun h => absurd h.1 (by decide))))
    have KTK_I189 := gc_TK_fr KTK_I ((g188 23 1).resolve_left (fun h => h.elim (fun h => absurd h.2 (by decide)) (fun h => absurd h.2 (by decide)))) ((g188 23 5).resolve_left (fun h => h.elim (fun h => absurd h.2 (by decide)) (fun h => absurd h.2 (by decide)))) ((g188 23 6).resolve_left (fun h => h.elim (fun h => absurd h.2 (by decide)) (fun h => absurd h.2 (by decide)))) ((g188 23 7).resolve_left (fun h => h.elim (fun h => absurd h.2 (by decide)) (fun h => absurd h.2 (by decide))))
    have KCT_I189 := gc_CT_fr KCT_I ((g188 a1 8).resolve_left (fun h => h.elim (fun h => absurd h.2 (by decide)) (fun h => absurd h.2 (by decide)))) (fun k => (g188 (a1 + 6) k).resolve_left (fun h => h.elim (fun h => absurd h.1 N_a1_6__39) (fun h => absurd h.1 N_a1_6__39)))
    refine gv_callV hD rfl (As := [.inl 2]) (st := []) rfl B_39 S_39 rfl (gc_lV6 hws rfl) (Nat.le_of_ble_eq_true rfl) (gz_Ev_mono (d := 2) (by decide) E188) ?_
    show gv_X _ _ (16, [(0, .inr (.inr (some 39))), (1, .inr (.inr (some a1)))], [.inl z188], sh, gc_h sh I189 J A)
    refine gv_if_ne (t := 21) hD rfl rfl ⟨by omega, by omega⟩ (fun c199 => ?_) (fun c199 => ?_)
    · show gv_X _ _ (21, [(0, .inr (.inr (some 39))), (1, .inr (.inr (some a1)))], [], sh, gc_h sh I189 J A)
      exact L21 I189 J hI189 FI189 FJ KLT_I189 KTK_I189 KCT_I189 (by omega)
    · show gv_X _ _ (19, [(0, .inr (.inr (some 39))), (1, .inr (.inr (some a1)))], [], sh, gc_h sh I189 J A)
      refine gv_run 1 true hD (pc' := 20) (lv' := [(0, .inr (.inr (some 39))), (1, .inr (.inr (some a1)))]) (st' := [.inl 0]) (h' := gc_h sh I189 J A) (C := (True ∧ True)) rfl ⟨trivial, trivial⟩ ?_
      exact gv_zret hD rfl (by omega) ⟨I189, J, rfl, hI189, FI189, FJ, KLT_I189, KTK_I189, KCT_I189, ⟨_, rfl, by omega⟩⟩
