set_option maxHeartbeats 4000000 in
set_option maxRecDepth 100000 in
theorem d_X6_readItems {ws0 : List Cond} {tb : String → gz_T} (hws : gc_Ws ws0) (htb : gc_tbs tb) (sh : gz_Sh) (ro : Nat → Nat) (I : gr_I) (J : gr_J) (A : gc_A) (hI : gc_Inv ro I) (t : Nat) (a1 : Nat) (hb : gc_Base sh ro A) (h_a1 : gc_isLin sh ro A a1) (G_a1 : 144 ≤ a1) (h_t : gc_isTongue sh ro A t) (G_t : 144 ≤ t)  (x0 : I 23 5 ≤ I 23 6) (x1 : I 23 7 = 5 ∨ I 23 6 ≤ I 23 1) (x2 : I 23 5 ≤ I 23 1) (x3 : I 23 7 = 4 ∨ (I 23 5 < I 23 6 ∧ I 23 5 < I 23 1)) (x4 : I 23 7 = 3 → 2 ≤ I 23 6 - I 23 5 ∧ I 23 6 - I 23 5 ≤ 14) (x5 : I 1 17 + I 23 1 ≤ 1280 + I 23 5) (x6 : I 39 2 = (t : Int)) (KLT_I : gc_LT I) (KCT_I : gc_CT a1 I) : ∃ r h', gz_Ev ws0 tb 5 (yX6_readItems, cX6_readItems, 3, (some .boolean)) [.inr (.inr (some 39)), .inr (.inr (some a1))] sh (gc_h sh I J A) r sh h' 0 0 ∧ (∃ (I' : gr_I) (J' : gr_J), h' = gc_h sh I' J' A ∧ gc_Inv ro I' ∧ (∀ q j : Nat, ((q = 39 ∧ j = 3) ∨ (q = 39 ∧ j = 4) ∨ (q = 23 ∧ j = 5) ∨ (q = 23 ∧ j = 6) ∨ (q = 23 ∧ j = 7) ∨ (q = 23 ∧ j = 8) ∨ (q = 1 ∧ j = 17) ∨ (q = 1 ∧ j = 18) ∨ q = 20 ∨ (q = 39 ∧ j = 6) ∨ q = (a1 + 1) ∨ q = (a1 + 6) ∨ q = (a1 + 4) ∨ q = (a1 + 5) ∨ (q = a1 ∧ j = 8) ∨ q = (a1 + 2) ∨ q = (a1 + 3) ∨ (q = a1 ∧ j = 4)) ∨ I' q j = I q j) ∧ (∀ q j : Nat, ((q = 23 ∧ j = 9)) ∨ J' q j = J q j) ∧ gc_LT I' ∧ gc_CT a1 I' ∧ (∃ z : Int, r = some (.inl z) ∧ 0 ≤ z ∧ z ≤ 1 ∧ (I' 23 5 ≤ I' 23 6) ∧ (I' 23 7 = 5 ∨ I' 23 6 ≤ I' 23 1) ∧ (I' 23 5 ≤ I' 23 1) ∧ (I' 23 7 = 4 ∨ (I' 23 5 < I' 23 6 ∧ I' 23 5 < I' 23 1)) ∧ (I' 23 7 = 3 → 2 ≤ I' 23 6 - I' 23 5 ∧ I' 23 6 - I' 23 5 ≤ 14) ∧ (I' 23 1 = I 23 1) ∧ (I 23 5 ≤ I' 23 5) ∧ (I' 1 17 + I' 23 1 ≤ 1280 + I' 23 5))) := by
  have FI : ∀ q j : Nat, ((q = 39 ∧ j = 3) ∨ (q = 39 ∧ j = 4) ∨ (q = 23 ∧ j = 5) ∨ (q = 23 ∧ j = 6) ∨ (q = 23 ∧ j = 7) ∨ (q = 23 ∧ j = 8) ∨ (q = 1 ∧ j = 17) ∨ (q = 1 ∧ j = 18) ∨ q = 20 ∨ (q = 39 ∧ j = 6) ∨ q = (a1 + 1) ∨ q = (a1 + 6) ∨ q = (a1 + 4) ∨ q = (a1 + 5) ∨ (q = a1 ∧ j = 8) ∨ q = (a1 + 2) ∨ q = (a1 + 3) ∨ (q = a1 ∧ j = 4)) ∨ I q j = I q j := fun _ _ => Or.inr rfl
  have FJ : ∀ q j : Nat, ((q = 23 ∧ j = 9)) ∨ J q j = J q j := fun _ _ => Or.inr rfl
  have A_39_1 : A 39 1 = some 23 := gc_bA hb rfl
  have B_23 : 23 < 1000000 := by decide
  have B_39 : 39 < 1000000 := by decide
  have R_1 : ro 1 = 22 := gc_bR hb (by decide) rfl
  have R_23 : ro 23 = 3 := gc_bR hb (by decide) rfl
  have R_39 : ro 39 = 42 := gc_bR hb (by decide) rfl
  have S_23 : sh[23]? = some (false, 9, 10) := gc_bS hb rfl
  have S_39 : sh[39]? = some (false, 6, 19) := gc_bS hb rfl
  obtain ⟨S_a1, R_a1, B_a1, A_a1_5, S_a1_1, R_a1_1, B_a1_1, A_a1_6, S_a1_2, R_a1_2, B_a1_2, A_a1_7, S_a1_3, R_a1_3, B_a1_3, A_a1_9, S_a1_4, R_a1_4, B_a1_4, A_a1_10, S_a1_5, R_a1_5, B_a1_5, A_a1_11, S_a1_6, R_a1_6, B_a1_6, A_a1_13, S_a1_7, R_a1_7, B_a1_7, A_a1_15, S_a1_8, R_a1_8, B_a1_8⟩ := id h_a1
  obtain ⟨S_t, R_t, B_t, A_t_0, h_t_1, A_t_1, h_t_3, A_t_2, S_t_5, R_t_5, B_t_5, A_t_3, S_t_6, R_t_6, B_t_6, A_t_4, h_t_7, A_t_5, S_t_9, R_t_9, B_t_9, A_t_7, S_t_10, R_t_10, B_t_10, A_t_8, h_t_11, A_t_9, S_t_13, R_t_13, B_t_13, A_t_10, S_t_14, R_t_14, B_t_14, A_t_12, S_t_15, R_t_15, B_t_15, A_t_14, S_t_16, R_t_16, B_t_16, A_t_15, h_t_17⟩ := id h_t
  obtain ⟨S_t_1, R_t_1, B_t_1, A_t_1_0, S_t_1_1, R_t_1_1, B_t_1_1, Q0_t_1, Q1_t_1, Q2_t_1⟩ := id h_t_1
  obtain ⟨S_t_3, R_t_3, B_t_3, A_t_3_0, S_t_3_1, R_t_3_1, B_t_3_1, Q0_t_3, Q1_t_3, Q2_t_3⟩ := id h_t_3
  obtain ⟨S_t_7, R_t_7, B_t_7, A_t_7_0, S_t_7_1, R_t_7_1, B_t_7_1, Q0_t_7, Q1_t_7, Q2_t_7⟩ := id h_t_7
  obtain ⟨S_t_11, R_t_11, B_t_11, A_t_11_0, S_t_11_1, R_t_11_1, B_t_11_1, Q0_t_11, Q1_t_11, Q2_t_11⟩ := id h_t_11
  obtain ⟨S_t_17, R_t_17, B_t_17, A_t_17_0, S_20, R_20, B_20, A_t_17_1, S_t_17_1, R_t_17_1, B_t_17_1, A_t_17_2, S_t_17_2, R_t_17_2, B_t_17_2, A_t_17_3, S_t_17_3, R_t_17_3, B_t_17_3, A_t_17_4, S_t_17_4, R_t_17_4, B_t_17_4, A_t_17_5, S_t_17_5, R_t_17_5, B_t_17_5, S_t_17_6, R_t_17_6, B_t_17_6, S_t_17_7, R_t_17_7, B_t_17_7⟩ := id h_t_17
  have N1 := gc_dj_LT h_a1 h_t
  have hD : gv_D (gc_E6 ws0 tb 4 (yX6_readItems, cX6_readItems, 3, (some .boolean)) kX6_readItems) := gq_ok oX6_readItems
  refine gc_ev6 (d := 4) (l := kX6_readItems) (Po := fun r h' => (∃ (I' : gr_I) (J' : gr_J), h' = gc_h sh I' J' A ∧ gc_Inv ro I' ∧ (∀ q j : Nat, ((q = 39 ∧ j = 3) ∨ (q = 39 ∧ j = 4) ∨ (q = 23 ∧ j = 5) ∨ (q = 23 ∧ j = 6) ∨ (q = 23 ∧ j = 7) ∨ (q = 23 ∧ j = 8) ∨ (q = 1 ∧ j = 17) ∨ (q = 1 ∧ j = 18) ∨ q = 20 ∨ (q = 39 ∧ j = 6) ∨ q = (a1 + 1) ∨ q = (a1 + 6) ∨ q = (a1 + 4) ∨ q = (a1 + 5) ∨ (q = a1 ∧ j = 8) ∨ q = (a1 + 2) ∨ q = (a1 + 3) ∨ (q = a1 ∧ j = 4)) ∨ I' q j = I q j) ∧ (∀ q j : Nat, ((q = 23 ∧ j = 9)) ∨ J' q j = J q j) ∧ gc_LT I' ∧ gc_CT a1 I' ∧ (∃ z : Int, r = some (.inl z) ∧ 0 ≤ z ∧ z ≤ 1 ∧ (I' 23 5 ≤ I' 23 6) ∧ (I' 23 7 = 5 ∨ I' 23 6 ≤ I' 23 1) ∧ (I' 23 5 ≤ I' 23 1) ∧ (I' 23 7 = 4 ∨ (I' 23 5 < I' 23 6 ∧ I' 23 5 < I' 23 1)) ∧ (I' 23 7 = 3 → 2 ≤ I' 23 6 - I' 23 5 ∧ I' 23 6 - I' 23 5 ≤ 14) ∧ (I' 23 1 = I 23 1) ∧ (I 23 5 ≤ I' 23 5) ∧ (I' 1 17 + I' 23 1 ≤ 1280 + I' 23 5)))) htb rfl (Nat.le_of_ble_eq_true rfl) ?_
  have f1 := (show 0 ≤ I 23 1 ∧ I 23 1 ≤ 1000 from gc_in hI R_23 rfl rfl)
  have f2 := (show 0 ≤ I 23 5 ∧ I 23 5 ≤ 1000 from gc_in hI R_23 rfl rfl)
  have f3 := (show 0 ≤ I 23 6 ∧ I 23 6 ≤ 1001 from gc_in hI R_23 rfl rfl)
  have f4 := (show 0 ≤ I 23 7 ∧ I 23 7 ≤ 125 from gc_in hI R_23 rfl rfl)
  have f5 := (show 0 ≤ I 1 17 ∧ I 1 17 ≤ 12000 from gc_in hI R_1 rfl rfl)
  have f6 := (show 0 ≤ I a1 4 ∧ I a1 4 ≤ 6 from gc_in hI R_a1 rfl rfl)
  have f7 := (show 0 ≤ I a1 8 ∧ I a1 8 ≤ 4 from gc_in hI R_a1 rfl rfl)
  have f8 := (show (-1) ≤ I 39 2 ∧ I 39 2 ≤ 999999 from gc_in hI R_39 rfl rfl)
  have L21 : ∀ (I9 : gr_I) (J10 : gr_J) , gc_Inv ro I9 → (∀ q j : Nat, ((q = 39 ∧ j = 3) ∨ (q = 39 ∧ j = 4) ∨ (q = 23 ∧ j = 5) ∨ (q = 23 ∧ j = 6) ∨ (q = 23 ∧ j = 7) ∨ (q = 23 ∧ j = 8) ∨ (q = 1 ∧ j = 17) ∨ (q = 1 ∧ j = 18) ∨ q = 20 ∨ (q = 39 ∧ j = 6) ∨ q = (a1 + 1) ∨ q = (a1 + 6) ∨ q = (a1 + 4) ∨ q = (a1 + 5) ∨ (q = a1 ∧ j = 8) ∨ q = (a1 + 2) ∨ q = (a1 + 3) ∨ (q = a1 ∧ j = 4)) ∨ I9 q j = I q j) → (∀ q j : Nat, ((q = 23 ∧ j = 9)) ∨ J10 q j = J q j) → gc_LT I9 → gc_CT a1 I9 → ((I9 23 5 ≤ I9 23 6) ∧ (I9 23 7 = 5 ∨ I9 23 6 ≤ I9 23 1) ∧ (I9 23 5 ≤ I9 23 1) ∧ (I9 23 7 = 4 ∨ (I9 23 5 < I9 23 6 ∧ I9 23 5 < I9 23 1)) ∧ (I9 23 7 = 3 → 2 ≤ I9 23 6 - I9 23 5 ∧ I9 23 6 - I9 23 5 ≤ 14) ∧ (I9 23 1 = I 23 1) ∧ (I 23 5 ≤ I9 23 5) ∧ (I9 1 17 + I9 23 1 ≤ 1280 + I9 23 5) ∧ (I9 39 2 = (t : Int))) → gv_X (gc_E6 ws0 tb 4 (yX6_readItems, cX6_readItems, 3, (some .boolean)) kX6_readItems) (gv_Q cX6_readItems (some .boolean) sh (fun r h' => (∃ (I' : gr_I) (J' : gr_J), h' = gc_h sh I' J' A ∧ gc_Inv ro I' ∧ (∀ q j : Nat, ((q = 39 ∧ j = 3) ∨ (q = 39 ∧ j = 4) ∨ (q = 23 ∧ j = 5) ∨ (q = 23 ∧ j = 6) ∨ (q = 23 ∧ j = 7) ∨ (q = 23 ∧ j = 8) ∨ (q = 1 ∧ j = 17) ∨ (q = 1 ∧ j = 18) ∨ q = 20 ∨ (q = 39 ∧ j = 6) ∨ q = (a1 + 1) ∨ q = (a1 + 6) ∨ q = (a1 + 4) ∨ q = (a1 + 5) ∨ (q = a1 ∧ j = 8) ∨ q = (a1 + 2) ∨ q = (a1 + 3) ∨ (q = a1 ∧ j = 4)) ∨ I' q j = I q j) ∧ (∀ q j : Nat, ((q = 23 ∧ j = 9)) ∨ J' q j = J q j) ∧ gc_LT I' ∧ gc_CT a1 I' ∧ (∃ z : Int, r = some (.inl z) ∧ 0 ≤ z ∧ z ≤ 1 ∧ (I' 23 5 ≤ I' 23 6) ∧ (I' 23 7 = 5 ∨ I' 23 6 ≤ I' 23 1) ∧ (I' 23 5 ≤ I' 23 1) ∧ (I' 23 7 = 4 ∨ (I' 23 5 < I' 23 6 ∧ I' 23 5 < I' 23 1)) ∧ (I' 23 7 = 3 → 2 ≤ I' 23 6 - I' 23 5 ∧ I' 23 6 - I' 23 5 ≤ 14) ∧ (I' 23 1 = I 23 1) ∧ (I 23 5 ≤ I' 23 5) ∧ (I' 1 17 + I' 23 1 ≤ 1280 + I' 23 5))))) (21, [(0, .inr (.inr (some 39))), (1, .inr (.inr (some a1)))], [], sh, gc_h sh I9 J10 A) := by
    intro I9 J10 hI9 FI9 FJ10 KLT_I9 KCT_I9 m_11
    clear x0 x1 x2 x3 x4
    obtain ⟨e0_11, e1_11, e2_11, e3_11, e4_11, e5_11, e6_11, e7_11, e8_11⟩ := m_11
    have f12 := (show 0 ≤ I9 23 1 ∧ I9 23 1 ≤ 1000 from gc_in hI9 R_23 rfl rfl)
    have f13 := (show 0 ≤ I9 23 5 ∧ I9 23 5 ≤ 1000 from gc_in hI9 R_23 rfl rfl)
    have f14 := (show 0 ≤ I9 23 6 ∧ I9 23 6 ≤ 1001 from gc_in hI9 R_23 rfl rfl)
    have f15 := (show 0 ≤ I9 23 7 ∧ I9 23 7 ≤ 125 from gc_in hI9 R_23 rfl rfl)
    have f16 := (show 0 ≤ I9 1 17 ∧ I9 1 17 ≤ 12000 from gc_in hI9 R_1 rfl rfl)
    have f17 := (show 0 ≤ I9 a1 4 ∧ I9 a1 4 ≤ 6 from gc_in hI9 R_a1 rfl rfl)
    have f18 := (show 0 ≤ I9 a1 8 ∧ I9 a1 8 ≤ 4 from gc_in hI9 R_a1 rfl rfl)
    have f19 := (show (-1) ≤ I9 39 2 ∧ I9 39 2 ≤ 999999 from gc_in hI9 R_39 rfl rfl)
    have L23 : ∀ (n9 : Nat) (I20 : gr_I) (J21 : gr_J) (v2_22 : Int), (8 - v2_22).toNat < n9 → gc_Inv ro I20 → (∀ q j : Nat, ((q = 39 ∧ j = 3) ∨ (q = 39 ∧ j = 4) ∨ (q = 23 ∧ j = 5) ∨ (q = 23 ∧ j = 6) ∨ (q = 23 ∧ j = 7) ∨ (q = 23 ∧ j = 8) ∨ (q = 1 ∧ j = 17) ∨ (q = 1 ∧ j = 18) ∨ q = 20 ∨ (q = 39 ∧ j = 6) ∨ q = (a1 + 1) ∨ q = (a1 + 6) ∨ q = (a1 + 4) ∨ q = (a1 + 5) ∨ (q = a1 ∧ j = 8) ∨ q = (a1 + 2) ∨ q = (a1 + 3) ∨ (q = a1 ∧ j = 4)) ∨ I20 q j = I q j) → (∀ q j : Nat, ((q = 23 ∧ j = 9)) ∨ J21 q j = J q j) → gc_LT I20 → gc_CT a1 I20 → ((0 ≤ v2_22 ∧ v2_22 ≤ 7) ∧ (I20 23 5 ≤ I20 23 6) ∧ (I20 23 7 = 5 ∨ I20 23 6 ≤ I20 23 1) ∧ (I20 23 5 ≤ I20 23 1) ∧ (I20 23 7 = 4 ∨ (I20 23 5 < I20 23 6 ∧ I20 23 5 < I20 23 1)) ∧ (I20 23 7 = 3 → 2 ≤ I20 23 6 - I20 23 5 ∧ I20 23 6 - I20 23 5 ≤ 14) ∧ (I20 23 1 = I 23 1) ∧ (I 23 5 ≤ I20 23 5) ∧ (I20 1 17 + I20 23 1 ≤ 1280 + I20 23 5) ∧ (I20 39 2 = (t : Int))) → gv_X (gc_E6 ws0 tb 4 (yX6_readItems, cX6_readItems, 3, (some .boolean)) kX6_readItems) (gv_Q cX6_readItems (some .boolean) sh (fun r h' => (∃ (I' : gr_I) (J' : gr_J), h' = gc_h sh I' J' A ∧ gc_Inv ro I' ∧ (∀ q j : Nat, ((q = 39 ∧ j = 3) ∨ (q = 39 ∧ j = 4) ∨ (q = 23 ∧ j = 5) ∨ (q = 23 ∧ j = 6) ∨ (q = 23 ∧ j = 7) ∨ (q = 23 ∧ j = 8) ∨ (q = 1 ∧ j = 17) ∨ (q = 1 ∧ j = 18) ∨ q = 20 ∨ (q = 39 ∧ j = 6) ∨ q = (a1 + 1) ∨ q = (a1 + 6) ∨ q = (a1 + 4) ∨ q = (a1 + 5) ∨ (q = a1 ∧ j = 8) ∨ q = (a1 + 2) ∨ q = (a1 + 3) ∨ (q = a1 ∧ j = 4)) ∨ I' q j = I q j) ∧ (∀ q j : Nat, ((q = 23 ∧ j = 9)) ∨ J' q j = J q j) ∧ gc_LT I' ∧ gc_CT a1 I' ∧ (∃ z : Int, r = some (.inl z) ∧ 0 ≤ z ∧ z ≤ 1 ∧ (I' 23 5 ≤ I' 23 6) ∧ (I' 23 7 = 5 ∨ I' 23 6 ≤ I' 23 1) ∧ (I' 23 5 ≤ I' 23 1) ∧ (I' 23 7 = 4 ∨ (I' 23 5 < I' 23 6 ∧ I' 23 5 < I' 23 1)) ∧ (I' 23 7 = 3 → 2 ≤ I' 23 6 - I' 23 5 ∧ I' 23 6 - I' 23 5 ≤ 14) ∧ (I' 23 1 = I 23 1) ∧ (I 23 5 ≤ I' 23 5) ∧ (I' 1 17 + I' 23 1 ≤ 1280 + I' 23 5))))) (23, [(0, .inr (.inr (some 39))), (1, .inr (.inr (some a1))), (2, .inl v2_22)], [], sh, gc_h sh I20 J21 A) := by
      intro n9
      induction n9 with
      | zero => intro I20 J21 v2_22 hn; omega
      | succ n9 ih23 =>
        intro I20 J21 v2_22 hn hI20 FI20 FJ21 KLT_I20 KCT_I20 m_22
        clear e0_11 e1_11 e2_11 e3_11 e4_11 e5_11 e6_11 e7_11 e8_11 f12 f13 f14 f15 f16 f17 f18 f19
        obtain ⟨hv2_22, e0_22, e1_22, e2_22, e3_22, e4_22, e5_22, e6_22, e7_22, e8_22⟩ := m_22
        have f23 := (show 0 ≤ I20 23 1 ∧ I20 23 1 ≤ 1000 from gc_in hI20 R_23 rfl rfl)
        have f24 := (show 0 ≤ I20 23 5 ∧ I20 23 5 ≤ 1000 from gc_in hI20 R_23 rfl rfl)
        have f25 := (show 0 ≤ I20 23 6 ∧ I20 23 6 ≤ 1001 from gc_in hI20 R_23 rfl rfl)
        have f26 := (show 0 ≤ I20 23 7 ∧ I20 23 7 ≤ 125 from gc_in hI20 R_23 rfl rfl)
        have f27 := (show 0 ≤ I20 1 17 ∧ I20 1 17 ≤ 12000 from gc_in hI20 R_1 rfl rfl)
        have f28 := (show 0 ≤ I20 a1 4 ∧ I20 a1 4 ≤ 6 from gc_in hI20 R_a1 rfl rfl)
        have f29 := (show 0 ≤ I20 a1 8 ∧ I20 a1 8 ≤ 4 from gc_in hI20 R_a1 rfl rfl)
        have f30 := (show (-1) ≤ I20 39 2 ∧ I20 39 2 ≤ 999999 from gc_in hI20 R_39 rfl rfl)
        have L51 : ((0 ≤ v2_22 ∧ v2_22 ≤ 6) ∧ (I20 23 7 = 2 ∨ I20 23 7 = 3) ∧ (I20 23 5 ≤ I20 23 6) ∧ (I20 23 7 = 5 ∨ I20 23 6 ≤ I20 23 1) ∧ (I20 23 5 ≤ I20 23 1) ∧ (I20 23 7 = 4 ∨ (I20 23 5 < I20 23 6 ∧ I20 23 5 < I20 23 1)) ∧ (I20 23 7 = 3 → 2 ≤ I20 23 6 - I20 23 5 ∧ I20 23 6 - I20 23 5 ≤ 14) ∧ (I20 23 1 = I 23 1) ∧ (I 23 5 ≤ I20 23 5) ∧ (I20 1 17 + I20 23 1 ≤ 1280 + I20 23 5) ∧ (I20 39 2 = (t : Int))) → gv_X (gc_E6 ws0 tb 4 (yX6_readItems, cX6_readItems, 3, (some .boolean)) kX6_readItems) (gv_Q cX6_readItems (some .boolean) sh (fun r h' => (∃ (I' : gr_I) (J' : gr_J), h' = gc_h sh I' J' A ∧ gc_Inv ro I' ∧ (∀ q j : Nat, ((q = 39 ∧ j = 3) ∨ (q = 39 ∧ j = 4) ∨ (q = 23 ∧ j = 5) ∨ (q = 23 ∧ j = 6) ∨ (q = 23 ∧ j = 7) ∨ (q = 23 ∧ j = 8) ∨ (q = 1 ∧ j = 17) ∨ (q = 1 ∧ j = 18) ∨ q = 20 ∨ (q = 39 ∧ j = 6) ∨ q = (a1 + 1) ∨ q = (a1 + 6) ∨ q = (a1 + 4) ∨ q = (a1 + 5) ∨ (q = a1 ∧ j = 8) ∨ q = (a1 + 2) ∨ q = (a1 + 3) ∨ (q = a1 ∧ j = 4)) ∨ I' q j = I q j) ∧ (∀ q j : Nat, ((q = 23 ∧ j = 9)) ∨ J' q j = J q j) ∧ gc_LT I' ∧ gc_CT a1 I' ∧ (∃ z : Int, r = some (.inl z) ∧ 0 ≤ z ∧ z ≤ 1 ∧ (I' 23 5 ≤ I' 23 6) ∧ (I' 23 7 = 5 ∨ I' 23 6 ≤ I' 23 1) ∧ (I' 23 5 ≤ I' 23 1) ∧ (I' 23 7 = 4 ∨ (I' 23 5 < I' 23 6 ∧ I' 23 5 < I' 23 1)) ∧ (I' 23 7 = 3 → 2 ≤ I' 23 6 - I' 23 5 ∧ I' 23 6 - I' 23 5 ≤ 14) ∧ (I' 23 1 = I 23 1) ∧ (I 23 5 ≤ I' 23 5) ∧ (I' 1 17 + I' 23 1 ≤ 1280 + I' 23 5))))) (51, [(0, .inr (.inr (some 39))), (1, .inr (.inr (some a1))), (2, .inl v2_22)], [], sh, gc_h sh I20 J21 A) := by
          intro m_31
          obtain ⟨hv2_22_31, e0_31, e1_31, e2_31, e3_31, e4_31, e5_31, e6_31, e7_31, e8_31, e9_31⟩ := m_31
          have f32 := (show 0 ≤ I20 23 1 ∧ I20 23 1 ≤ 1000 from gc_in hI20 R_23 rfl rfl)
          have f33 := (show 0 ≤ I20 23 5 ∧ I20 23 5 ≤ 1000 from gc_in hI20 R_23 rfl rfl)
          have f34 := (show 0 ≤ I20 23 6 ∧ I20 23 6 ≤ 1001 from gc_in hI20 R_23 rfl rfl)
          have f35 := (show 0 ≤ I20 23 7 ∧ I20 23 7 ≤ 125 from gc_in hI20 R_23 rfl rfl)
          have f36 := (show 0 ≤ I20 1 17 ∧ I20 1 17 ≤ 12000 from gc_in hI20 R_1 rfl rfl)
          have f37 := (show 0 ≤ I20 a1 4 ∧ I20 a1 4 ≤ 6 from gc_in hI20 R_a1 rfl rfl)
          have f38 := (show 0 ≤ I20 a1 8 ∧ I20 a1 8 ≤ 4 from gc_in hI20 R_a1 rfl rfl)
          have f39 := (show (-1) ≤ I20 39 2 ∧ I20 39 2 ≤ 999999 from gc_in hI20 R_39 rfl rfl)
          have L164 : ∀ (I40 : gr_I) (J41 : gr_J) , gc_Inv ro I40 → (∀ q j : Nat, ((q = 39 ∧ j = 3) ∨ (q = 39 ∧ j = 4) ∨ (q = 23 ∧ j = 5) ∨ (q = 23 ∧ j = 6) ∨ (q = 23 ∧ j = 7) ∨ (q = 23 ∧ j = 8) ∨ (q = 1 ∧ j = 17) ∨ (q = 1 ∧ j = 18) ∨ q = 20 ∨ (q = 39 ∧ j = 6) ∨ q = (a1 + 1) ∨ q = (a1 + 6) ∨ q = (a1 + 4) ∨ q = (a1 + 5) ∨ (q = a1 ∧ j = 8) ∨ q = (a1 + 2) ∨ q = (a1 + 3) ∨ (q = a1 ∧ j = 4)) ∨ I40 q j = I q j) → (∀ q j : Nat, ((q = 23 ∧ j = 9)) ∨ J41 q j = J q j) → gc_LT I40 → gc_CT a1 I40 → ((0 ≤ v2_22 ∧ v2_22 ≤ 6) ∧ (I40 a1 4 ≤ 5) ∧ (I40 23 5 ≤ I40 23 6) ∧ (I40 23 7 = 5 ∨ I40 23 6 ≤ I40 23 1) ∧ (I40 23 5 ≤ I40 23 1) ∧ (I40 23 7 = 4 ∨ (I40 23 5 < I40 23 6 ∧ I40 23 5 < I40 23 1)) ∧ (I40 23 7 = 3 → 2 ≤ I40 23 6 - I40 23 5 ∧ I40 23 6 - I40 23 5 ≤ 14) ∧ (I40 23 1 = I 23 1) ∧ (I 23 5 ≤ I40 23 5) ∧ (I40 1 17 + I40 23 1 ≤ 1280 + I40 23 5) ∧ (I40 39 2 = (t : Int))) → gv_X (gc_E6 ws0 tb 4 (yX6_readItems, cX6_readItems, 3, (some .boolean)) kX6_readItems) (gv_Q cX6_readItems (some .boolean) sh (fun r h' => (∃ (I' : gr_I) (J' : gr_J), h' = gc_h sh I' J' A ∧ gc_Inv ro I' ∧ (∀ q j : Nat, ((q = 39 ∧ j = 3) ∨ (q = 39 ∧ j = 4) ∨ (q = 23 ∧ j = 5) ∨ (q = 23 ∧ j = 6) ∨ (q = 23 ∧ j = 7) ∨ (q = 23 ∧ j = 8) ∨ (q = 1 ∧ j = 17) ∨ (q = 1 ∧ j = 18) ∨ q = 20 ∨ (q = 39 ∧ j = 6) ∨ q = (a1 + 1) ∨ q = (a1 + 6) ∨ q = (a1 + 4) ∨ q = (a1 + 5) ∨ (q = a1 ∧ j = 8) ∨ q = (a1 + 2) ∨ q = (a1 + 3) ∨ (q = a1 ∧ j = 4)) ∨ I' q j = I q j) ∧ (∀ q j : Nat, ((q = 23 ∧ j = 9)) ∨ J' q j = J q j) ∧ gc_LT I' ∧ gc_CT a1 I' ∧ (∃ z : Int, r = some (.inl z) ∧ 0 ≤ z ∧ z ≤ 1 ∧ (I' 23 5 ≤ I' 23 6) ∧ (I' 23 7 = 5 ∨ I' 23 6 ≤ I' 23 1) ∧ (I' 23 5 ≤ I' 23 1) ∧ (I' 23 7 = 4 ∨ (I' 23 5 < I' 23 6 ∧ I' 23 5 < I' 23 1)) ∧ (I' 23 7 = 3 → 2 ≤ I' 23 6 - I' 23 5 ∧ I' 23 6 - I' 23 5 ≤ 14) ∧ (I' 23 1 = I 23 1) ∧ (I 23 5 ≤ I' 23 5) ∧ (I' 1 17 + I' 23 1 ≤ 1280 + I' 23 5))))) (164, [(0, .inr (.inr (some 39))), (1, .inr (.inr (some a1))), (2, .inl v2_22)], [], sh, gc_h sh I40 J41 A) := by
            intro I40 J41 hI40 FI40 FJ41 KLT_I40 KCT_I40 m_42
            clear hv2_22_31 e0_31 e1_31 e2_31 e3_31 e4_31 e5_31 e6_31 e7_31 e8_31 e9_31 f32 f33 f34 f35 f36 f37 f38 f39 hv2_22 e0_22 e1_22 e2_22 e3_22 e4_22 e5_22 e6_22 e7_22 e8_22 f23 f24 f25 f26 f27 f28 f29 f30
            obtain ⟨hv2_22_42, e0_42, e1_42, e2_42, e3_42, e4_42, e5_42, e6_42, e7_42, e8_42, e9_42⟩ := m_42
            have f43 := (show 0 ≤ I40 23 1 ∧ I40 23 1 ≤ 1000 from gc_in hI40 R_23 rfl rfl)
            have f44 := (show 0 ≤ I40 23 5 ∧ I40 23 5 ≤ 1000 from gc_in hI40 R_23 rfl rfl)
            have f45 := (show 0 ≤ I40 23 6 ∧ I40 23 6 ≤ 1001 from gc_in hI40 R_23 rfl rfl)
            have f46 := (show 0 ≤ I40 23 7 ∧ I40 23 7 ≤ 125 from gc_in hI40 R_23 rfl rfl)
            have f47 := (show 0 ≤ I40 1 17 ∧ I40 1 17 ≤ 12000 from gc_in hI40 R_1 rfl rfl)
            have f48 := (show 0 ≤ I40 a1 4 ∧ I40 a1 4 ≤ 6 from gc_in hI40 R_a1 rfl rfl)
            have f49 := (show 0 ≤ I40 a1 8 ∧ I40 a1 8 ≤ 4 from gc_in hI40 R_a1 rfl rfl)
            have f50 := (show (-1) ≤ I40 39 2 ∧ I40 39 2 ≤ 999999 from gc_in hI40 R_39 rfl rfl)
            refine gv_run 2 true hD (pc' := 166) (lv' := [(0, .inr (.inr (some 39))), (1, .inr (.inr (some a1))), (2, .inl v2_22)]) (st' := [.inr (.inr (some a1)), .inr (.inr (some a1))]) (h' := gc_h sh I40 J41 A) (C := ((True ∧ True) ∧ True)) rfl ⟨⟨trivial, trivial⟩, trivial⟩ ?_
            have f51 := (show 0 ≤ I40 a1 4 ∧ I40 a1 4 ≤ 6 from gc_in hI40 R_a1 rfl rfl)
            refine gv_get hD rfl rfl S_a1 ⟨by decide, B_a1⟩ (gc_hI S_a1 rfl) ?_
            show gv_X _ _ (169, [(0, .inr (.inr (some 39))), (1, .inr (.inr (some a1))), (2, .inl v2_22)], [.inl (I40 a1 4), .inr (.inr (some a1))], sh, gc_h sh I40 J41 A)
            refine gv_run 2 true hD (pc' := 171) (lv' := [(0, .inr (.inr (some 39))), (1, .inr (.inr (some a1))), (2, .inl v2_22)]) (st' := [.inl ((I40 a1 4) + 1), .inr (.inr (some a1))]) (h' := gc_h sh I40 J41 A) (C := ((True ∧ True) ∧ True)) rfl ⟨⟨trivial, trivial⟩, trivial⟩ ?_
            refine gv_put hD rfl rfl S_a1 ⟨by decide, B_a1⟩ rfl trivial ?_
            refine gc_st (k := 4) hI40 S_a1 rfl R_a1 (lo := 0) (hi := 6) rfl rfl (by omega) (by omega) (fun I52 hI52 q53 p53 => ?_)
            have FI52 := gc_frs (W := fun q j => (q = 39 ∧ j = 3) ∨ (q = 39 ∧ j = 4) ∨ (q = 23 ∧ j = 5) ∨ (q = 23 ∧ j = 6) ∨ (q = 23 ∧ j = 7) ∨ (q = 23 ∧ j = 8) ∨ (q = 1 ∧ j = 17) ∨ (q = 1 ∧ j = 18) ∨ q = 20 ∨ (q = 39 ∧ j = 6) ∨ q = (a1 + 1) ∨ q = (a1 + 6) ∨ q = (a1 + 4) ∨ q = (a1 + 5) ∨ (q = a1 ∧ j = 8) ∨ q = (a1 + 2) ∨ q = (a1 + 3) ∨ (q = a1 ∧ j = 4)) FI40 (Or.inr (Or.inr (Or.inr (Or.inr (Or.inr (Or.inr (Or.inr (Or.inr (Or.inr (Or.inr (Or.inr (Or.inr (Or.inr (Or.inr (Or.inr (Or.inr (Or.inr ⟨rfl, rfl⟩))))))))))))))))) p53
            have t54 := p53 23 1 (fun h => absurd h.1 (by omega))
            have t55 := p53 23 5 (fun h => absurd h.1 (by omega))
            have t56 := p53 23 6 (fun h => absurd h.1 (by omega))
            have t57 := p53 23 7 (fun h => absurd h.1 (by omega))
            have t58 := p53 1 17 (fun h => absurd h.1 (by omega))
            have t59 := p53 a1 8 (fun h => absurd h.2 (by decide))
            have t60 := p53 39 2 (fun h => absurd h.1 (by omega))
            have f61 := (show 0 ≤ I52 23 1 ∧ I52 23 1 ≤ 1000 from gc_in hI52 R_23 rfl rfl)
            have f62 := (show 0 ≤ I52 23 5 ∧ I52 23 5 ≤ 1000 from gc_in hI52 R_23 rfl rfl)
            have f63 := (show 0 ≤ I52 23 6 ∧ I52 23 6 ≤ 1001 from gc_in hI52 R_23 rfl rfl)
            have f64 := (show 0 ≤ I52 23 7 ∧ I52 23 7 ≤ 125 from gc_in hI52 R_23 rfl rfl)
            have f65 := (show 0 ≤ I52 1 17 ∧ I52 1 17 ≤ 12000 from gc_in hI52 R_1 rfl rfl)
            have f66 := (show 0 ≤ I52 a1 4 ∧ I52 a1 4 ≤ 6 from gc_in hI52 R_a1 rfl rfl)
            have f67 := (show 0 ≤ I52 a1 8 ∧ I52 a1 8 ≤ 4 from gc_in hI52 R_a1 rfl rfl)
            have f68 := (show (-1) ≤ I52 39 2 ∧ I52 39 2 ≤ 999999 from gc_in hI52 R_39 rfl rfl)
            have KLT_I52 := gc_LT_fr KLT_I40 (p53 23 5 (fun h => absurd h.1 (by omega))) (p53 23 6 (fun h => absurd h.1 (by omega))) (p53 23 7 (fun h => absurd h.1 (by omega))) (fun k => p53 24 k (fun h => absurd h.1 (by omega)))
            have KCT_I52 := gc_CT_fr KCT_I40 (p53 a1 8 (fun h => absurd h.2 (by decide))) (fun k => p53 (a1 + 6) k (fun h => absurd h.1 (by omega)))
            show gv_X _ _ (174, [(0, .inr (.inr (some 39))), (1, .inr (.inr (some a1))), (2, .inl v2_22)], [], sh, gc_h sh I52 J41 A)
            refine gv_run 2 true hD (pc' := 23) (lv' := [(2, .inl (v2_22 + 1)), (0, .inr (.inr (some 39))), (1, .inr (.inr (some a1)))]) (st' := []) (h' := gc_h sh I52 J41 A) (C := ((True ∧ True) ∧ True)) rfl ⟨⟨trivial, trivial⟩, trivial⟩ ?_
            refine gv_pick [1, 2, 0] rfl ?_
            exact ih23 I52 J41 (v2_22 + 1) (by omega) hI52 FI52 FJ41 KLT_I52 KCT_I52 (by omega)
          refine gv_run 1 true hD (pc' := 52) (lv' := [(0, .inr (.inr (some 39))), (1, .inr (.inr (some a1))), (2, .inl v2_22)]) (st' := [.inr (.inr (some a1))]) (h' := gc_h sh I20 J21 A) (C := (True ∧ True)) rfl ⟨trivial, trivial⟩ ?_
          have f69 := (show 0 ≤ I20 a1 4 ∧ I20 a1 4 ≤ 6 from gc_in hI20 R_a1 rfl rfl)
          refine gv_get hD rfl rfl S_a1 ⟨by decide, B_a1⟩ (gc_hI S_a1 rfl) ?_
          show gv_X _ _ (55, [(0, .inr (.inr (some 39))), (1, .inr (.inr (some a1))), (2, .inl v2_22)], [.inl (I20 a1 4)], sh, gc_h sh I20 J21 A)
          refine gv_run 1 true hD (pc' := 57) (lv' := [(0, .inr (.inr (some 39))), (1, .inr (.inr (some a1))), (2, .inl v2_22)]) (st' := [.inl 6, .inl (I20 a1 4)]) (h' := gc_h sh I20 J21 A) (C := (True ∧ True)) rfl ⟨trivial, trivial⟩ ?_
          refine gv_icmp_ne (t := 73) hD rfl rfl ⟨⟨by omega, by omega⟩, ⟨by omega, by omega⟩⟩ (fun c70 => ?_) (fun c70 => ?_)
          · show gv_X _ _ (73, [(0, .inr (.inr (some 39))), (1, .inr (.inr (some a1))), (2, .inl v2_22)], [], sh, gc_h sh I20 J21 A)
            refine gv_run 1 true hD (pc' := 74) (lv' := [(0, .inr (.inr (some 39))), (1, .inr (.inr (some a1))), (2, .inl v2_22)]) (st' := [.inr (.inr (some 39))]) (h' := gc_h sh I20 J21 A) (C := (True ∧ True)) rfl ⟨trivial, trivial⟩ ?_
            refine gv_get hD rfl rfl S_39 ⟨by decide, B_39⟩ (gc_hA S_39 rfl A_39_1) ?_
            show gv_X _ _ (77, [(0, .inr (.inr (some 39))), (1, .inr (.inr (some a1))), (2, .inl v2_22)], [.inr (.inr (some 23))], sh, gc_h sh I20 J21 A)
            have f71 := (show 0 ≤ I20 23 7 ∧ I20 23 7 ≤ 125 from gc_in hI20 R_23 rfl rfl)
            refine gv_get hD rfl rfl S_23 ⟨by decide, B_23⟩ (gc_hI S_23 rfl) ?_
            show gv_X _ _ (80, [(0, .inr (.inr (some 39))), (1, .inr (.inr (some a1))), (2, .inl v2_22)], [.inl (I20 23 7)], sh, gc_h sh I20 J21 A)
            refine gv_run 1 true hD (pc' := 81) (lv' := [(0, .inr (.inr (some 39))), (1, .inr (.inr (some a1))), (2, .inl v2_22)]) (st' := [.inl 2, .inl (I20 23 7)]) (h' := gc_h sh I20 J21 A) (C := (True ∧ True)) rfl ⟨trivial, trivial⟩ ?_
            refine gv_icmp_ne (t := 94) hD rfl rfl ⟨⟨by omega, by omega⟩, ⟨by omega, by omega⟩⟩ (fun c72 => ?_) (fun c72 => ?_)
            · show gv_X _ _ (94, [(0, .inr (.inr (some 39))), (1, .inr (.inr (some a1))), (2, .inl v2_22)], [], sh, gc_h sh I20 J21 A)
              refine gv_run 1 true hD (pc' := 95) (lv' := [(0, .inr (.inr (some 39))), (1, .inr (.inr (some a1))), (2, .inl v2_22)]) (st' := [.inr (.inr (some 39))]) (h' := gc_h sh I20 J21 A) (C := (True ∧ True)) rfl ⟨trivial, trivial⟩ ?_
              refine gv_get hD rfl rfl S_39 ⟨by decide, B_39⟩ (gc_hA S_39 rfl A_39_1) ?_
              show gv_X _ _ (98, [(0, .inr (.inr (some 39))), (1, .inr (.inr (some a1))), (2, .inl v2_22)], [.inr (.inr (some 23))], sh, gc_h sh I20 J21 A)
              obtain ⟨r73, h73, E73, P73⟩ := d_X9_lettersSize (ws0 := ws0) (tb := tb) hws htb sh ro I20 J21 A hI20 23  (gc_b23 hb)     
              obtain ⟨rfl, ⟨z73, rfl, q73⟩⟩ := P73
              refine gv_callV hD rfl (As := []) (st := []) rfl B_23 S_23 rfl (gc_lV6 hws rfl) (Nat.le_of_ble_eq_true rfl) (gz_Ev_mono (d := 1) (by decide) E73) ?_
              show gv_X _ _ (101, [(0, .inr (.inr (some 39))), (1, .inr (.inr (some a1))), (2, .inl v2_22)], [.inl z73], sh, gc_h sh I20 J21 A)
              refine gv_run 1 true hD (pc' := 102) (lv' := [(0, .inr (.inr (some 39))), (1, .inr (.inr (some a1))), (2, .inl v2_22)]) (st' := [.inl 1, .inl z73]) (h' := gc_h sh I20 J21 A) (C := (True ∧ True)) rfl ⟨trivial, trivial⟩ ?_
              refine gv_icmp_ge (t := 118) hD rfl rfl ⟨⟨by omega, by omega⟩, ⟨by omega, by omega⟩⟩ (fun c74 => ?_) (fun c74 => ?_)
              · show gv_X _ _ (118, [(0, .inr (.inr (some 39))), (1, .inr (.inr (some a1))), (2, .inl v2_22)], [], sh, gc_h sh I20 J21 A)
                refine gv_run 1 true hD (pc' := 119) (lv' := [(0, .inr (.inr (some 39))), (1, .inr (.inr (some a1))), (2, .inl v2_22)]) (st' := [.inr (.inr (some a1))]) (h' := gc_h sh I20 J21 A) (C := (True ∧ True)) rfl ⟨trivial, trivial⟩ ?_
                refine gv_get hD rfl rfl S_a1 ⟨by decide, B_a1⟩ (gc_hA S_a1 rfl A_a1_5) ?_
                show gv_X _ _ (122, [(0, .inr (.inr (some 39))), (1, .inr (.inr (some a1))), (2, .inl v2_22)], [.inr (.inr (some (a1 + 1)))], sh, gc_h sh I20 J21 A)
                refine gv_run 1 true hD (pc' := 123) (lv' := [(0, .inr (.inr (some 39))), (1, .inr (.inr (some a1))), (2, .inl v2_22)]) (st' := [.inr (.inr (some a1)), .inr (.inr (some (a1 + 1)))]) (h' := gc_h sh I20 J21 A) (C := (True ∧ True)) rfl ⟨trivial, trivial⟩ ?_
                have f75 := (show 0 ≤ I20 a1 4 ∧ I20 a1 4 ≤ 6 from gc_in hI20 R_a1 rfl rfl)
                refine gv_get hD rfl rfl S_a1 ⟨by decide, B_a1⟩ (gc_hI S_a1 rfl) ?_
                show gv_X _ _ (126, [(0, .inr (.inr (some 39))), (1, .inr (.inr (some a1))), (2, .inl v2_22)], [.inl (I20 a1 4), .inr (.inr (some (a1 + 1)))], sh, gc_h sh I20 J21 A)
                refine gv_run 1 true hD (pc' := 127) (lv' := [(0, .inr (.inr (some 39))), (1, .inr (.inr (some a1))), (2, .inl v2_22)]) (st' := [.inl (-1), .inl (I20 a1 4), .inr (.inr (some (a1 + 1)))]) (h' := gc_h sh I20 J21 A) (C := (True ∧ True)) rfl ⟨trivial, trivial⟩ ?_
                refine gv_iast hD rfl S_a1_1 ⟨by decide, B_a1_1⟩ ⟨by omega, by omega⟩ ?_
                refine gc_st hI20 S_a1_1 rfl R_a1_1 (lo := (-1)) (hi := 3) rfl rfl (by omega) (by omega) (fun I76 hI76 q77 p77 => ?_)
                have FI76 := gc_frs (W := fun q j => (q = 39 ∧ j = 3) ∨ (q = 39 ∧ j = 4) ∨ (q = 23 ∧ j = 5) ∨ (q = 23 ∧ j = 6) ∨ (q = 23 ∧ j = 7) ∨ (q = 23 ∧ j = 8) ∨ (q = 1 ∧ j = 17) ∨ (q = 1 ∧ j = 18) ∨ q = 20 ∨ (q = 39 ∧ j = 6) ∨ q = (a1 + 1) ∨ q = (a1 + 6) ∨ q = (a1 + 4) ∨ q = (a1 + 5) ∨ (q = a1 ∧ j = 8) ∨ q = (a1 + 2) ∨ q = (a1 + 3) ∨ (q = a1 ∧ j = 4)) FI20 (Or.inr (Or.inr (Or.inr (Or.inr (Or.inr (Or.inr (Or.inr (Or.inr (Or.inr (Or.inr (Or.inl rfl))))))))))) p77
                have t78 := p77 23 1 (fun h => absurd h.1 (by omega))
                have t79 := p77 23 5 (fun h => absurd h.1 (by omega))
                have t80 := p77 23 6 (fun h => absurd h.1 (by omega))
                have t81 := p77 23 7 (fun h => absurd h.1 (by omega))
                have t82 := p77 1 17 (fun h => absurd h.1 (by omega))
                have t83 := p77 a1 4 (fun h => absurd h.1 (by omega))
                have t84 := p77 a1 8 (fun h => absurd h.1 (by omega))
                have t85 := p77 39 2 (fun h => absurd h.1 (by omega))
                have f86 := (show 0 ≤ I76 23 1 ∧ I76 23 1 ≤ 1000 from gc_in hI76 R_23 rfl rfl)
                have f87 := (show 0 ≤ I76 23 5 ∧ I76 23 5 ≤ 1000 from gc_in hI76 R_23 rfl rfl)
                have f88 := (show 0 ≤ I76 23 6 ∧ I76 23 6 ≤ 1001 from gc_in hI76 R_23 rfl rfl)
                have f89 := (show 0 ≤ I76 23 7 ∧ I76 23 7 ≤ 125 from gc_in hI76 R_23 rfl rfl)
                have f90 := (show 0 ≤ I76 1 17 ∧ I76 1 17 ≤ 12000 from gc_in hI76 R_1 rfl rfl)
                have f91 := (show 0 ≤ I76 a1 4 ∧ I76 a1 4 ≤ 6 from gc_in hI76 R_a1 rfl rfl)
                have f92 := (show 0 ≤ I76 a1 8 ∧ I76 a1 8 ≤ 4 from gc_in hI76 R_a1 rfl rfl)
                have f93 := (show (-1) ≤ I76 39 2 ∧ I76 39 2 ≤ 999999 from gc_in hI76 R_39 rfl rfl)
                have KLT_I76 := gc_LT_fr KLT_I20 (p77 23 5 (fun h => absurd h.1 (by omega))) (p77 23 6 (fun h => absurd h.1 (by omega))) (p77 23 7 (fun h => absurd h.1 (by omega))) (fun k => p77 24 k (fun h => absurd h.1 (by omega)))
                have KCT_I76 := gc_CT_fr KCT_I20 (p77 a1 8 (fun h => absurd h.1 (by omega))) (fun k => p77 (a1 + 6) k (fun h => absurd h.1 (by omega)))
                show gv_X _ _ (128, [(0, .inr (.inr (some 39))), (1, .inr (.inr (some a1))), (2, .inl v2_22)], [], sh, gc_h sh I76 J21 A)
                refine gv_run 1 true hD (pc' := 129) (lv' := [(0, .inr (.inr (some 39))), (1, .inr (.inr (some a1))), (2, .inl v2_22)]) (st' := [.inr (.inr (some a1))]) (h' := gc_h sh I76 J21 A) (C := (True ∧ True)) rfl ⟨trivial, trivial⟩ ?_
                refine gv_get hD rfl rfl S_a1 ⟨by decide, B_a1⟩ (gc_hA S_a1 rfl A_a1_6) ?_
                show gv_X _ _ (132, [(0, .inr (.inr (some 39))), (1, .inr (.inr (some a1))), (2, .inl v2_22)], [.inr (.inr (some (a1 + 2)))], sh, gc_h sh I76 J21 A)
                refine gv_run 1 true hD (pc' := 133) (lv' := [(0, .inr (.inr (some 39))), (1, .inr (.inr (some a1))), (2, .inl v2_22)]) (st' := [.inr (.inr (some a1)), .inr (.inr (some (a1 + 2)))]) (h' := gc_h sh I76 J21 A) (C := (True ∧ True)) rfl ⟨trivial, trivial⟩ ?_
                have f94 := (show 0 ≤ I76 a1 4 ∧ I76 a1 4 ≤ 6 from gc_in hI76 R_a1 rfl rfl)
                refine gv_get hD rfl rfl S_a1 ⟨by decide, B_a1⟩ (gc_hI S_a1 rfl) ?_
                show gv_X _ _ (136, [(0, .inr (.inr (some 39))), (1, .inr (.inr (some a1))), (2, .inl v2_22)], [.inl (I76 a1 4), .inr (.inr (some (a1 + 2)))], sh, gc_h sh I76 J21 A)
                refine gv_run 1 true hD (pc' := 137) (lv' := [(0, .inr (.inr (some 39))), (1, .inr (.inr (some a1))), (2, .inl v2_22)]) (st' := [.inr (.inr (some 39)), .inl (I76 a1 4), .inr (.inr (some (a1 + 2)))]) (h' := gc_h sh I76 J21 A) (C := (True ∧ True)) rfl ⟨trivial, trivial⟩ ?_
                obtain ⟨r95, h95, E95, P95⟩ := d_X6_keepLetters (ws0 := ws0) (tb := tb) hws htb sh ro I76 J21 A hI76   hb    (by omega) (by omega) (by omega) (by omega) (by omega) (by omega) KLT_I76
                obtain ⟨I96, J97, rfl, hI96, g95, k95, KLT_I96, ⟨z95, rfl, q95⟩⟩ := P95
                have FI96 := gc_frc (W := fun q j => (q = 39 ∧ j = 3) ∨ (q = 39 ∧ j = 4) ∨ (q = 23 ∧ j = 5) ∨ (q = 23 ∧ j = 6) ∨ (q = 23 ∧ j = 7) ∨ (q = 23 ∧ j = 8) ∨ (q = 1 ∧ j = 17) ∨ (q = 1 ∧ j = 18) ∨ q = 20 ∨ (q = 39 ∧ j = 6) ∨ q = (a1 + 1) ∨ q = (a1 + 6) ∨ q = (a1 + 4) ∨ q = (a1 + 5) ∨ (q = a1 ∧ j = 8) ∨ q = (a1 + 2) ∨ q = (a1 + 3) ∨ (q = a1 ∧ j = 4)) (V := fun q j => (q = 1 ∧ j = 17) ∨ (q = 1 ∧ j = 18) ∨ q = 20) FI76 (fun q j h => (h.elim (fun h => (Or.inr (Or.inr (Or.inr (Or.inr (Or.inr (Or.inr (Or.inl h)))))))) (fun h => (h.elim (fun h => (Or.inr (Or.inr (Or.inr (Or.inr (Or.inr (Or.inr (Or.inr (Or.inl h))))))))) (fun h => (Or.inr (Or.inr (Or.inr (Or.inr (Or.inr (Or.inr (Or.inr (Or.inr (Or.inl h)))))))))))))) g95
                have t98 := (g95 23 1).resolve_left (by omega)
                have t99 := (g95 23 5).resolve_left (by omega)
                have t100 := (g95 23 6).resolve_left (by omega)
                have t101 := (g95 23 7).resolve_left (by omega)
                have t102 := (g95 a1 4).resolve_left (by omega)
                have t103 := (g95 a1 8).resolve_left (by omega)
                have t104 := (g95 39 2).resolve_left (by omega)
                have f105 := (show 0 ≤ I96 23 1 ∧ I96 23 1 ≤ 1000 from gc_in hI96 R_23 rfl rfl)
                have f106 := (show 0 ≤ I96 23 5 ∧ I96 23 5 ≤ 1000 from gc_in hI96 R_23 rfl rfl)
                have f107 := (show 0 ≤ I96 23 6 ∧ I96 23 6 ≤ 1001 from gc_in hI96 R_23 rfl rfl)
                have f108 := (show 0 ≤ I96 23 7 ∧ I96 23 7 ≤ 125 from gc_in hI96 R_23 rfl rfl)
                have f109 := (show 0 ≤ I96 1 17 ∧ I96 1 17 ≤ 12000 from gc_in hI96 R_1 rfl rfl)
                have f110 := (show 0 ≤ I96 a1 4 ∧ I96 a1 4 ≤ 6 from gc_in hI96 R_a1 rfl rfl)
                have f111 := (show 0 ≤ I96 a1 8 ∧ I96 a1 8 ≤ 4 from gc_in hI96 R_a1 rfl rfl)
                have f112 := (show (-1) ≤ I96 39 2 ∧ I96 39 2 ≤ 999999 from gc_in hI96 R_39 rfl rfl)
                obtain rfl : J21 = J97 := funext fun q => funext fun j => ((k95 q j).resolve_left id).symm
                have KCT_I96 := gc_CT_fr KCT_I76 ((g95 a1 8).resolve_left (by omega)) (fun k => (g95 (a1 + 6) k).resolve_left (by omega))
                refine gv_callV hD rfl (As := []) (st := [.inl (I76 a1 4), .inr (.inr (some (a1 + 2)))]) rfl B_39 S_39 rfl (gc_lV6 hws rfl) (Nat.le_of_ble_eq_true rfl) (gz_Ev_mono (d := 2) (by decide) E95) ?_
                show gv_X _ _ (140, [(0, .inr (.inr (some 39))), (1, .inr (.inr (some a1))), (2, .inl v2_22)], [.inl z95, .inl (I76 a1 4), .inr (.inr (some (a1 + 2)))], sh, gc_h sh I96 J21 A)
                refine gv_iast hD rfl S_a1_2 ⟨by decide, B_a1_2⟩ ⟨by omega, by omega⟩ ?_
                refine gc_st hI96 S_a1_2 rfl R_a1_2 (lo := 0) (hi := 2000) rfl rfl (by omega) (by omega) (fun I113 hI113 q114 p114 => ?_)
                have FI113 := gc_frs (W := fun q j => (q = 39 ∧ j = 3) ∨ (q = 39 ∧ j = 4) ∨ (q = 23 ∧ j = 5) ∨ (q = 23 ∧ j = 6) ∨ (q = 23 ∧ j = 7) ∨ (q = 23 ∧ j = 8) ∨ (q = 1 ∧ j = 17) ∨ (q = 1 ∧ j = 18) ∨ q = 20 ∨ (q = 39 ∧ j = 6) ∨ q = (a1 + 1) ∨ q = (a1 + 6) ∨ q = (a1 + 4) ∨ q = (a1 + 5) ∨ (q = a1 ∧ j = 8) ∨ q = (a1 + 2) ∨ q = (a1 + 3) ∨ (q = a1 ∧ j = 4)) FI96 (Or.inr (Or.inr (Or.inr (Or.inr (Or.inr (Or.inr (Or.inr (Or.inr (Or.inr (Or.inr (Or.inr (Or.inr (Or.inr (Or.inr (Or.inr (Or.inl rfl)))))))))))))))) p114
                have t115 := p114 23 1 (fun h => absurd h.1 (by omega))
                have t116 := p114 23 5 (fun h => absurd h.1 (by omega))
                have t117 := p114 23 6 (fun h => absurd h.1 (by omega))
                have t118 := p114 23 7 (fun h => absurd h.1 (by omega))
                have t119 := p114 1 17 (fun h => absurd h.1 (by omega))
                have t120 := p114 a1 4 (fun h => absurd h.1 (by omega))
                have t121 := p114 a1 8 (fun h => absurd h.1 (by omega))
                have t122 := p114 39 2 (fun h => absurd h.1 (by omega))
                have f123 := (show 0 ≤ I113 23 1 ∧ I113 23 1 ≤ 1000 from gc_in hI113 R_23 rfl rfl)
                have f124 := (show 0 ≤ I113 23 5 ∧ I113 23 5 ≤ 1000 from gc_in hI113 R_23 rfl rfl)
                have f125 := (show 0 ≤ I113 23 6 ∧ I113 23 6 ≤ 1001 from gc_in hI113 R_23 rfl rfl)
                have f126 := (show 0 ≤ I113 23 7 ∧ I113 23 7 ≤ 125 from gc_in hI113 R_23 rfl rfl)
                have f127 := (show 0 ≤ I113 1 17 ∧ I113 1 17 ≤ 12000 from gc_in hI113 R_1 rfl rfl)
                have f128 := (show 0 ≤ I113 a1 4 ∧ I113 a1 4 ≤ 6 from gc_in hI113 R_a1 rfl rfl)
                have f129 := (show 0 ≤ I113 a1 8 ∧ I113 a1 8 ≤ 4 from gc_in hI113 R_a1 rfl rfl)
                have f130 := (show (-1) ≤ I113 39 2 ∧ I113 39 2 ≤ 999999 from gc_in hI113 R_39 rfl rfl)
                have KLT_I113 := gc_LT_fr KLT_I96 (p114 23 5 (fun h => absurd h.1 (by omega))) (p114 23 6 (fun h => absurd h.1 (by omega))) (p114 23 7 (fun h => absurd h.1 (by omega))) (fun k => p114 24 k (fun h => absurd h.1 (by omega)))
                have KCT_I113 := gc_CT_fr KCT_I96 (p114 a1 8 (fun h => absurd h.1 (by omega))) (fun k => p114 (a1 + 6) k (fun h => absurd h.1 (by omega)))
                show gv_X _ _ (141, [(0, .inr (.inr (some 39))), (1, .inr (.inr (some a1))), (2, .inl v2_22)], [], sh, gc_h sh I113 J21 A)
                refine gv_run 1 true hD (pc' := 142) (lv' := [(0, .inr (.inr (some 39))), (1, .inr (.inr (some a1))), (2, .inl v2_22)]) (st' := [.inr (.inr (some a1))]) (h' := gc_h sh I113 J21 A) (C := (True ∧ True)) rfl ⟨trivial, trivial⟩ ?_
                refine gv_get hD rfl rfl S_a1 ⟨by decide, B_a1⟩ (gc_hA S_a1 rfl A_a1_7) ?_
                show gv_X _ _ (145, [(0, .inr (.inr (some 39))), (1, .inr (.inr (some a1))), (2, .inl v2_22)], [.inr (.inr (some (a1 + 3)))], sh, gc_h sh I113 J21 A)
                refine gv_run 1 true hD (pc' := 146) (lv' := [(0, .inr (.inr (some 39))), (1, .inr (.inr (some a1))), (2, .inl v2_22)]) (st' := [.inr (.inr (some a1)), .inr (.inr (some (a1 + 3)))]) (h' := gc_h sh I113 J21 A) (C := (True ∧ True)) rfl ⟨trivial, trivial⟩ ?_
                have f131 := (show 0 ≤ I113 a1 4 ∧ I113 a1 4 ≤ 6 from gc_in hI113 R_a1 rfl rfl)
                refine gv_get hD rfl rfl S_a1 ⟨by decide, B_a1⟩ (gc_hI S_a1 rfl) ?_
                show gv_X _ _ (149, [(0, .inr (.inr (some 39))), (1, .inr (.inr (some a1))), (2, .inl v2_22)], [.inl (I113 a1 4), .inr (.inr (some (a1 + 3)))], sh, gc_h sh I113 J21 A)
                refine gv_run 1 true hD (pc' := 150) (lv' := [(0, .inr (.inr (some 39))), (1, .inr (.inr (some a1))), (2, .inl v2_22)]) (st' := [.inr (.inr (some 39)), .inl (I113 a1 4), .inr (.inr (some (a1 + 3)))]) (h' := gc_h sh I113 J21 A) (C := (True ∧ True)) rfl ⟨trivial, trivial⟩ ?_
                refine gv_get hD rfl rfl S_39 ⟨by decide, B_39⟩ (gc_hA S_39 rfl A_39_1) ?_
                show gv_X _ _ (153, [(0, .inr (.inr (some 39))), (1, .inr (.inr (some a1))), (2, .inl v2_22)], [.inr (.inr (some 23)), .inl (I113 a1 4), .inr (.inr (some (a1 + 3)))], sh, gc_h sh I113 J21 A)
                obtain ⟨r132, h132, E132, P132⟩ := d_X9_lettersSize (ws0 := ws0) (tb := tb) hws htb sh ro I113 J21 A hI113 23  (gc_b23 hb)     
                obtain ⟨rfl, ⟨z132, rfl, q132⟩⟩ := P132
                refine gv_callV hD rfl (As := []) (st := [.inl (I113 a1 4), .inr (.inr (some (a1 + 3)))]) rfl B_23 S_23 rfl (gc_lV6 hws rfl) (Nat.le_of_ble_eq_true rfl) (gz_Ev_mono (d := 1) (by decide) E132) ?_
                show gv_X _ _ (156, [(0, .inr (.inr (some 39))), (1, .inr (.inr (some a1))), (2, .inl v2_22)], [.inl z132, .inl (I113 a1 4), .inr (.inr (some (a1 + 3)))], sh, gc_h sh I113 J21 A)
                refine gv_iast hD rfl S_a1_3 ⟨by decide, B_a1_3⟩ ⟨by omega, by omega⟩ ?_
                refine gc_st hI113 S_a1_3 rfl R_a1_3 (lo := 0) (hi := 24) rfl rfl (by omega) (by omega) (fun I133 hI133 q134 p134 => ?_)
                have FI133 := gc_frs (W := fun q j => (q = 39 ∧ j = 3) ∨ (q = 39 ∧ j = 4) ∨ (q = 23 ∧ j = 5) ∨ (q = 23 ∧ j = 6) ∨ (q = 23 ∧ j = 7) ∨ (q = 23 ∧ j = 8) ∨ (q = 1 ∧ j = 17) ∨ (q = 1 ∧ j = 18) ∨ q = 20 ∨ (q = 39 ∧ j = 6) ∨ q = (a1 + 1) ∨ q = (a1 + 6) ∨ q = (a1 + 4) ∨ q = (a1 + 5) ∨ (q = a1 ∧ j = 8) ∨ q = (a1 + 2) ∨ q = (a1 + 3) ∨ (q = a1 ∧ j = 4)) FI113 (Or.inr (Or.inr (Or.inr (Or.inr (Or.inr (Or.inr (Or.inr (Or.inr (Or.inr (Or.inr (Or.inr (Or.inr (Or.inr (Or.inr (Or.inr (Or.inr (Or.inl rfl))))))))))))))))) p134
                have t135 := p134 23 1 (fun h => absurd h.1 (by omega))
                have t136 := p134 23 5 (fun h => absurd h.1 (by omega))
                have t137 := p134 23 6 (fun h => absurd h.1 (by omega))
                have t138 := p134 23 7 (fun h => absurd h.1 (by omega))
                have t139 := p134 1 17 (fun h => absurd h.1 (by omega))
                have t140 := p134 a1 4 (fun h => absurd h.1 (by omega))
                have t141 := p134 a1 8 (fun h => absurd h.1 (by omega))
                have t142 := p134 39 2 (fun h => absurd h.1 (by omega))
                have f143 := (show 0 ≤ I133 23 1 ∧ I133 23 1 ≤ 1000 from gc_in hI133 R_23 rfl rfl)
                have f144 := (show 0 ≤ I133 23 5 ∧ I133 23 5 ≤ 1000 from gc_in hI133 R_23 rfl rfl)
                have f145 := (show 0 ≤ I133 23 6 ∧ I133 23 6 ≤ 1001 from gc_in hI133 R_23 rfl rfl)
                have f146 := (show 0 ≤ I133 23 7 ∧ I133 23 7 ≤ 125 from gc_in hI133 R_23 rfl rfl)
                have f147 := (show 0 ≤ I133 1 17 ∧ I133 1 17 ≤ 12000 from gc_in hI133 R_1 rfl rfl)
                have f148 := (show 0 ≤ I133 a1 4 ∧ I133 a1 4 ≤ 6 from gc_in hI133 R_a1 rfl rfl)
                have f149 := (show 0 ≤ I133 a1 8 ∧ I133 a1 8 ≤ 4 from gc_in hI133 R_a1 rfl rfl)
                have f150 := (show (-1) ≤ I133 39 2 ∧ I133 39 2 ≤ 999999 from gc_in hI133 R_39 rfl rfl)
                have KLT_I133 := gc_LT_fr KLT_I113 (p134 23 5 (fun h => absurd h.1 (by omega))) (p134 23 6 (fun h => absurd h.1 (by omega))) (p134 23 7 (fun h => absurd h.1 (by omega))) (fun k => p134 24 k (fun h => absurd h.1 (by omega)))
                have KCT_I133 := gc_CT_fr KCT_I113 (p134 a1 8 (fun h => absurd h.1 (by omega))) (fun k => p134 (a1 + 6) k (fun h => absurd h.1 (by omega)))
                show gv_X _ _ (157, [(0, .inr (.inr (some 39))), (1, .inr (.inr (some a1))), (2, .inl v2_22)], [], sh, gc_h sh I133 J21 A)
                refine gv_run 1 true hD (pc' := 158) (lv' := [(0, .inr (.inr (some 39))), (1, .inr (.inr (some a1))), (2, .inl v2_22)]) (st' := [.inr (.inr (some 39))]) (h' := gc_h sh I133 J21 A) (C := (True ∧ True)) rfl ⟨trivial, trivial⟩ ?_
                refine gv_get hD rfl rfl S_39 ⟨by decide, B_39⟩ (gc_hA S_39 rfl A_39_1) ?_
                show gv_X _ _ (161, [(0, .inr (.inr (some 39))), (1, .inr (.inr (some a1))), (2, .inl v2_22)], [.inr (.inr (some 23))], sh, gc_h sh I133 J21 A)
                obtain ⟨r151, h151, E151, P151⟩ := d_X9_advance (ws0 := ws0) (tb := tb) hws htb sh ro I133 J21 A hI133 23  (gc_b23 hb)    (by omega) 
                obtain ⟨I152, J153, rfl, hI152, g151, k151, ⟨rfl, q151⟩⟩ := P151
                have FI152 := gc_frc (W := fun q j => (q = 39 ∧ j = 3) ∨ (q = 39 ∧ j = 4) ∨ (q = 23 ∧ j = 5) ∨ (q = 23 ∧ j = 6) ∨ (q = 23 ∧ j = 7) ∨ (q = 23 ∧ j = 8) ∨ (q = 1 ∧ j = 17) ∨ (q = 1 ∧ j = 18) ∨ q = 20 ∨ (q = 39 ∧ j = 6) ∨ q = (a1 + 1) ∨ q = (a1 + 6) ∨ q = (a1 + 4) ∨ q = (a1 + 5) ∨ (q = a1 ∧ j = 8) ∨ q = (a1 + 2) ∨ q = (a1 + 3) ∨ (q = a1 ∧ j = 4)) (V := fun q j => (q = 23 ∧ j = 5) ∨ (q = 23 ∧ j = 6) ∨ (q = 23 ∧ j = 7) ∨ (q = 23 ∧ j = 8)) FI133 (fun q j h => (h.elim (fun h => (Or.inr (Or.inr (Or.inl h)))) (fun h => (h.elim (fun h => (Or.inr (Or.inr (Or.inr (Or.inl h))))) (fun h => (h.elim (fun h => (Or.inr (Or.inr (Or.inr (Or.inr (Or.inl h)))))) (fun h => (Or.inr (Or.inr (Or.inr (Or.inr (Or.inr (Or.inl h))))))))))))) g151
                have FJ153 := gc_frc (W := fun q j => (q = 23 ∧ j = 9)) (V := fun q j => (q = 23 ∧ j = 9)) FJ21 (fun q j h => h) k151
                have t154 := (g151 23 1).resolve_left (by omega)
                have t155 := (g151 1 17).resolve_left (by omega)
                have t156 := (g151 a1 4).resolve_left (by omega)
                have t157 := (g151 a1 8).resolve_left (by omega)
                have t158 := (g151 39 2).resolve_left (by omega)
                have f159 := (show 0 ≤ I152 23 1 ∧ I152 23 1 ≤ 1000 from gc_in hI152 R_23 rfl rfl)
                have f160 := (show 0 ≤ I152 23 5 ∧ I152 23 5 ≤ 1000 from gc_in hI152 R_23 rfl rfl)
                have f161 := (show 0 ≤ I152 23 6 ∧ I152 23 6 ≤ 1001 from gc_in hI152 R_23 rfl rfl)
                have f162 := (show 0 ≤ I152 23 7 ∧ I152 23 7 ≤ 125 from gc_in hI152 R_23 rfl rfl)
                have f163 := (show 0 ≤ I152 1 17 ∧ I152 1 17 ≤ 12000 from gc_in hI152 R_1 rfl rfl)
                have f164 := (show 0 ≤ I152 a1 4 ∧ I152 a1 4 ≤ 6 from gc_in hI152 R_a1 rfl rfl)
                have f165 := (show 0 ≤ I152 a1 8 ∧ I152 a1 8 ≤ 4 from gc_in hI152 R_a1 rfl rfl)
                have f166 := (show (-1) ≤ I152 39 2 ∧ I152 39 2 ≤ 999999 from gc_in hI152 R_39 rfl rfl)
                have KLT_I152 : gc_LT I152 := q151.2.2.2.2.2.2.2
                have KCT_I152 := gc_CT_fr KCT_I133 ((g151 a1 8).resolve_left (by omega)) (fun k => (g151 (a1 + 6) k).resolve_left (by omega))
                refine gv_callV hD rfl (As := []) (st := []) rfl B_23 S_23 rfl (gc_lV6 hws rfl) (Nat.le_of_ble_eq_true rfl) (gz_Ev_mono (d := 2) (by decide) E151) ?_
                show gv_X _ _ (164, [(0, .inr (.inr (some 39))), (1, .inr (.inr (some a1))), (2, .inl v2_22)], [], sh, gc_h sh I152 J153 A)
                exact L164 I152 J153 hI152 FI152 FJ153 KLT_I152 KCT_I152 (by omega)
              · show gv_X _ _ (105, [(0, .inr (.inr (some 39))), (1, .inr (.inr (some a1))), (2, .inl v2_22)], [], sh, gc_h sh I20 J21 A)
                refine gv_run 3 true hD (pc' := 108) (lv' := [(0, .inr (.inr (some 39))), (1, .inr (.inr (some a1))), (2, .inl v2_22)]) (st' := [.inr (.inr (some 39)), .inl 5, .inr (.inr (some 39))]) (h' := gc_h sh I20 J21 A) (C := (((True ∧ True) ∧ True) ∧ True)) rfl ⟨⟨⟨trivial, trivial⟩, trivial⟩, trivial⟩ ?_
                refine gv_get hD rfl rfl S_39 ⟨by decide, B_39⟩ (gc_hA S_39 rfl A_39_1) ?_
                show gv_X _ _ (111, [(0, .inr (.inr (some 39))), (1, .inr (.inr (some a1))), (2, .inl v2_22)], [.inr (.inr (some 23)), .inl 5, .inr (.inr (some 39))], sh, gc_h sh I20 J21 A)
                have f167 := (show 0 ≤ I20 23 5 ∧ I20 23 5 ≤ 1000 from gc_in hI20 R_23 rfl rfl)
                refine gv_get hD rfl rfl S_23 ⟨by decide, B_23⟩ (gc_hI S_23 rfl) ?_
                show gv_X _ _ (114, [(0, .inr (.inr (some 39))), (1, .inr (.inr (some a1))), (2, .inl v2_22)], [.inl (I20 23 5), .inl 5, .inr (.inr (some 39))], sh, gc_h sh I20 J21 A)
                obtain ⟨r168, h168, E168, P168⟩ := d_X6_wrong (ws0 := ws0) (tb := tb) hws htb sh ro I20 J21 A hI20  5 (I20 23 5) hb   ⟨by omega, by omega⟩ ⟨by omega, by omega⟩  
                obtain ⟨I169, J170, rfl, hI169, g168, k168, ⟨z168, rfl, q168⟩⟩ := P168
                have FI169 := gc_frc (W := fun q j => (q = 39 ∧ j = 3) ∨ (q = 39 ∧ j = 4) ∨ (q = 23 ∧ j = 5) ∨ (q = 23 ∧ j = 6) ∨ (q = 23 ∧ j = 7) ∨ (q = 23 ∧ j = 8) ∨ (q = 1 ∧ j = 17) ∨ (q = 1 ∧ j = 18) ∨ q = 20 ∨ (q = 39 ∧ j = 6) ∨ q = (a1 + 1) ∨ q = (a1 + 6) ∨ q = (a1 + 4) ∨ q = (a1 + 5) ∨ (q = a1 ∧ j = 8) ∨ q = (a1 + 2) ∨ q = (a1 + 3) ∨ (q = a1 ∧ j = 4)) (V := fun q j => (q = 39 ∧ j = 3) ∨ (q = 39 ∧ j = 4)) FI20 (fun q j h => (h.elim (fun h => (Or.inl h)) (fun h => (Or.inr (Or.inl h))))) g168
                have t171 := (g168 23 1).resolve_left (by omega)
                have t172 := (g168 23 5).resolve_left (by omega)
                have t173 := (g168 23 6).resolve_left (by omega)
                have t174 := (g168 23 7).resolve_left (by omega)
                have t175 := (g168 1 17).resolve_left (by omega)
                have t176 := (g168 a1 4).resolve_left (by omega)
                have t177 := (g168 a1 8).resolve_left (by omega)
                have t178 := (g168 39 2).resolve_left (by omega)
                have f179 := (show 0 ≤ I169 23 1 ∧ I169 23 1 ≤ 1000 from gc_in hI169 R_23 rfl rfl)
                have f180 := (show 0 ≤ I169 23 5 ∧ I169 23 5 ≤ 1000 from gc_in hI169 R_23 rfl rfl)
                have f181 := (show 0 ≤ I169 23 6 ∧ I169 23 6 ≤ 1001 from gc_in hI169 R_23 rfl rfl)
                have f182 := (show 0 ≤ I169 23 7 ∧ I169 23 7 ≤ 125 from gc_in hI169 R_23 rfl rfl)
                have f183 := (show 0 ≤ I169 1 17 ∧ I169 1 17 ≤ 12000 from gc_in hI169 R_1 rfl rfl)
                have f184 := (show 0 ≤ I169 a1 4 ∧ I169 a1 4 ≤ 6 from gc_in hI169 R_a1 rfl rfl)
                have f185 := (show 0 ≤ I169 a1 8 ∧ I169 a1 8 ≤ 4 from gc_in hI169 R_a1 rfl rfl)
                have f186 := (show (-1) ≤ I169 39 2 ∧ I169 39 2 ≤ 999999 from gc_in hI169 R_39 rfl rfl)
                obtain rfl : J21 = J170 := funext fun q => funext fun j => ((k168 q j).resolve_left id).symm
                have KLT_I169 := gc_LT_fr KLT_I20 ((g168 23 5).resolve_left (by omega)) ((g168 23 6).resolve_left (by omega)) ((g168 23 7).resolve_left (by omega)) (fun k => (g168 24 k).resolve_left (by omega))
                have KCT_I169 := gc_CT_fr KCT_I20 ((g168 a1 8).resolve_left (by omega)) (fun k => (g168 (a1 + 6) k).resolve_left (by omega))
                refine gv_callV hD rfl (As := [.inl 5, .inl (I20 23 5)]) (st := []) rfl B_39 S_39 rfl (gc_lV6 hws rfl) (Nat.le_of_ble_eq_true rfl) (gz_Ev_mono (d := 1) (by decide) E168) ?_
                show gv_X _ _ (117, [(0, .inr (.inr (some 39))), (1, .inr (.inr (some a1))), (2, .inl v2_22)], [.inl z168], sh, gc_h sh I169 J21 A)
                exact gv_zret hD rfl (by omega) ⟨I169, J21, rfl, hI169, FI169, FJ21, KLT_I169, KCT_I169, ⟨_, rfl, by omega⟩⟩
            · show gv_X _ _ (84, [(0, .inr (.inr (some 39))), (1, .inr (.inr (some a1))), (2, .inl v2_22)], [], sh, gc_h sh I20 J21 A)
              refine gv_run 2 true hD (pc' := 86) (lv' := [(0, .inr (.inr (some 39))), (1, .inr (.inr (some a1))), (2, .inl v2_22)]) (st' := [.inr (.inr (some a1)), .inr (.inr (some 39))]) (h' := gc_h sh I20 J21 A) (C := ((True ∧ True) ∧ True)) rfl ⟨⟨trivial, trivial⟩, trivial⟩ ?_
              obtain ⟨r187, h187, E187, P187⟩ := d_X6_readArgument (ws0 := ws0) (tb := tb) hws htb sh ro I20 J21 A hI20  t a1 hb h_a1 G_a1 h_t G_t   (by omega) (by omega) (by omega) (by omega) (by omega) (by omega) (by omega) (by omega) KLT_I20 KCT_I20
              obtain ⟨I188, J189, rfl, hI188, g187, k187, KLT_I188, KCT_I188, ⟨z187, rfl, q187⟩⟩ := P187
              have FI188 := gc_frc (W := fun q j => (q = 39 ∧ j = 3) ∨ (q = 39 ∧ j = 4) ∨ (q = 23 ∧ j = 5) ∨ (q = 23 ∧ j = 6) ∨ (q = 23 ∧ j = 7) ∨ (q = 23 ∧ j = 8) ∨ (q = 1 ∧ j = 17) ∨ (q = 1 ∧ j = 18) ∨ q = 20 ∨ (q = 39 ∧ j = 6) ∨ q = (a1 + 1) ∨ q = (a1 + 6) ∨ q = (a1 + 4) ∨ q = (a1 + 5) ∨ (q = a1 ∧ j = 8) ∨ q = (a1 + 2) ∨ q = (a1 + 3) ∨ (q = a1 ∧ j = 4)) (V := fun q j => (q = 39 ∧ j = 3) ∨ (q = 39 ∧ j = 4) ∨ (q = 23 ∧ j = 5) ∨ (q = 23 ∧ j = 6) ∨ (q = 23 ∧ j = 7) ∨ (q = 23 ∧ j = 8) ∨ (q = 39 ∧ j = 6) ∨ q = (a1 + 1) ∨ q = (a1 + 6) ∨ q = (a1 + 4) ∨ q = (a1 + 5) ∨ (q = a1 ∧ j = 8)) FI20 (fun q j h => (h.elim (fun h => (Or.inl h)) (fun h => (h.elim (fun h => (Or.inr (Or.inl h))) (fun h => (h.elim (fun h => (Or.inr (Or.inr (Or.inl h)))) (fun h => (h.elim (fun h => (Or.inr (Or.inr (Or.inr (Or.inl h))))) (fun h => (h.elim (fun h => (Or.inr (Or.inr (Or.inr (Or.inr (Or.inl h)))))) (fun h => (h.elim (fun h => (Or.inr (Or.inr (Or.inr (Or.inr (Or.inr (Or.inl h))))))) (fun h => (h.elim (fun h => (Or.inr (Or.inr (Or.inr (Or.inr (Or.inr (Or.inr (Or.inr (Or.inr (Or.inr (Or.inl h))))))))))) (fun h => (h.elim (fun h => (Or.inr (Or.inr (Or.inr (Or.inr (Or.inr (Or.inr (Or.inr (Or.inr (Or.inr (Or.inr (Or.inl h)))))))))))) (fun h => (h.elim (fun h => (Or.inr (Or.inr (Or.inr (Or.inr (Or.inr (Or.inr (Or.inr (Or.inr (Or.inr (Or.inr (Or.inr (Or.inl h))))))))))))) (fun h => (h.elim (fun h => (Or.inr (Or.inr (Or.inr (Or.inr (Or.inr (Or.inr (Or.inr (Or.inr (Or.inr (Or.inr (Or.inr (Or.inr (Or.inl h)))))))))))))) (fun h => (h.elim (fun h => (Or.inr (Or.inr (Or.inr (Or.inr (Or.inr (Or.inr (Or.inr (Or.inr (Or.inr (Or.inr (Or.inr (Or.inr (Or.inr (Or.inl h))))))))))))))) (fun h => (Or.inr (Or.inr (Or.inr (Or.inr (Or.inr (Or.inr (Or.inr (Or.inr (Or.inr (Or.inr (Or.inr (Or.inr (Or.inr (Or.inr (Or.inl h)))))))))))))))))))))))))))))))))))))) g187
              have FJ189 := gc_frc (W := fun q j => (q = 23 ∧ j = 9)) (V := fun q j => (q = 23 ∧ j = 9)) FJ21 (fun q j h => h) k187
              have t190 := (g187 23 1).resolve_left (by omega)
              have t191 := (g187 1 17).resolve_left (by omega)
              have t192 := (g187 a1 4).resolve_left (by omega)
              have t193 := (g187 39 2).resolve_left (by omega)
              have f194 := (show 0 ≤ I188 23 1 ∧ I188 23 1 ≤ 1000 from gc_in hI188 R_23 rfl rfl)
              have f195 := (show 0 ≤ I188 23 5 ∧ I188 23 5 ≤ 1000 from gc_in hI188 R_23 rfl rfl)
              have f196 := (show 0 ≤ I188 23 6 ∧ I188 23 6 ≤ 1001 from gc_in hI188 R_23 rfl rfl)
              have f197 := (show 0 ≤ I188 23 7 ∧ I188 23 7 ≤ 125 from gc_in hI188 R_23 rfl rfl)
              have f198 := (show 0 ≤ I188 1 17 ∧ I188 1 17 ≤ 12000 from gc_in hI188 R_1 rfl rfl)
              have f199 := (show 0 ≤ I188 a1 4 ∧ I188 a1 4 ≤ 6 from gc_in hI188 R_a1 rfl rfl)
              have f200 := (show 0 ≤ I188 a1 8 ∧ I188 a1 8 ≤ 4 from gc_in hI188 R_a1 rfl rfl)
              have f201 := (show (-1) ≤ I188 39 2 ∧ I188 39 2 ≤ 999999 from gc_in hI188 R_39 rfl rfl)
              refine gv_callV hD rfl (As := [.inr (.inr (some a1))]) (st := []) rfl B_39 S_39 rfl (gc_lV6 hws rfl) (Nat.le_of_ble_eq_true rfl) (gz_Ev_mono (d := 4) (by decide) E187) ?_
              show gv_X _ _ (89, [(0, .inr (.inr (some 39))), (1, .inr (.inr (some a1))), (2, .inl v2_22)], [.inl z187], sh, gc_h sh I188 J189 A)
              refine gv_if_ne (t := 164) hD rfl rfl ⟨by omega, by omega⟩ (fun c202 => ?_) (fun c202 => ?_)
              · show gv_X _ _ (164, [(0, .inr (.inr (some 39))), (1, .inr (.inr (some a1))), (2, .inl v2_22)], [], sh, gc_h sh I188 J189 A)
                exact L164 I188 J189 hI188 FI188 FJ189 KLT_I188 KCT_I188 (by omega)
              · show gv_X _ _ (92, [(0, .inr (.inr (some 39))), (1, .inr (.inr (some a1))), (2, .inl v2_22)], [], sh, gc_h sh I188 J189 A)
                refine gv_run 1 true hD (pc' := 93) (lv' := [(0, .inr (.inr (some 39))), (1, .inr (.inr (some a1))), (2, .inl v2_22)]) (st' := [.inl 0]) (h' := gc_h sh I188 J189 A) (C := (True ∧ True)) rfl ⟨trivial, trivial⟩ ?_
                exact gv_zret hD rfl (by omega) ⟨I188, J189, rfl, hI188, FI188, FJ189, KLT_I188, KCT_I188, ⟨_, rfl, by omega⟩⟩
          · show gv_X _ _ (60, [(0, .inr (.inr (some 39))), (1, .inr (.inr (some a1))), (2, .inl v2_22)], [], sh, gc_h sh I20 J21 A)
            refine gv_run 3 true hD (pc' := 63) (lv' := [(0, .inr (.inr (some 39))), (1, .inr (.inr (some a1))), (2, .inl v2_22)]) (st' := [.inr (.inr (some 39)), .inl 5, .inr (.inr (some 39))]) (h' := gc_h sh I20 J21 A) (C := (((True ∧ True) ∧ True) ∧ True)) rfl ⟨⟨⟨trivial, trivial⟩, trivial⟩, trivial⟩ ?_
            refine gv_get hD rfl rfl S_39 ⟨by decide, B_39⟩ (gc_hA S_39 rfl A_39_1) ?_
            show gv_X _ _ (66, [(0, .inr (.inr (some 39))), (1, .inr (.inr (some a1))), (2, .inl v2_22)], [.inr (.inr (some 23)), .inl 5, .inr (.inr (some 39))], sh, gc_h sh I20 J21 A)
            have f203 := (show 0 ≤ I20 23 5 ∧ I20 23 5 ≤ 1000 from gc_in hI20 R_23 rfl rfl)
            refine gv_get hD rfl rfl S_23 ⟨by decide, B_23⟩ (gc_hI S_23 rfl) ?_
            show gv_X _ _ (69, [(0, .inr (.inr (some 39))), (1, .inr (.inr (some a1))), (2, .inl v2_22)], [.inl (I20 23 5), .inl 5, .inr (.inr (some 39))], sh, gc_h sh I20 J21 A)
            obtain ⟨r204, h204, E204, P204⟩ := d_X6_wrong (ws0 := ws0) (tb := tb) hws htb sh ro I20 J21 A hI20  5 (I20 23 5) hb   ⟨by omega, by omega⟩ ⟨by omega, by omega⟩  
            obtain ⟨I205, J206, rfl, hI205, g204, k204, ⟨z204, rfl, q204⟩⟩ := P204
            have FI205 := gc_frc (W := fun q j => (q = 39 ∧ j = 3) ∨ (q = 39 ∧ j = 4) ∨ (q = 23 ∧ j = 5) ∨ (q = 23 ∧ j = 6) ∨ (q = 23 ∧ j = 7) ∨ (q = 23 ∧ j = 8) ∨ (q = 1 ∧ j = 17) ∨ (q = 1 ∧ j = 18) ∨ q = 20 ∨ (q = 39 ∧ j = 6) ∨ q = (a1 + 1) ∨ q = (a1 + 6) ∨ q = (a1 + 4) ∨ q = (a1 + 5) ∨ (q = a1 ∧ j = 8) ∨ q = (a1 + 2) ∨ q = (a1 + 3) ∨ (q = a1 ∧ j = 4)) (V := fun q j => (q = 39 ∧ j = 3) ∨ (q = 39 ∧ j = 4)) FI20 (fun q j h => (h.elim (fun h => (Or.inl h)) (fun h => (Or.inr (Or.inl h))))) g204
            have t207 := (g204 23 1).resolve_left (by omega)
            have t208 := (g204 23 5).resolve_left (by omega)
            have t209 := (g204 23 6).resolve_left (by omega)
            have t210 := (g204 23 7).resolve_left (by omega)
            have t211 := (g204 1 17).resolve_left (by omega)
            have t212 := (g204 a1 4).resolve_left (by omega)
            have t213 := (g204 a1 8).resolve_left (by omega)
            have t214 := (g204 39 2).resolve_left (by omega)
            have f215 := (show 0 ≤ I205 23 1 ∧ I205 23 1 ≤ 1000 from gc_in hI205 R_23 rfl rfl)
            have f216 := (show 0 ≤ I205 23 5 ∧ I205 23 5 ≤ 1000 from gc_in hI205 R_23 rfl rfl)
            have f217 := (show 0 ≤ I205 23 6 ∧ I205 23 6 ≤ 1001 from gc_in hI205 R_23 rfl rfl)
            have f218 := (show 0 ≤ I205 23 7 ∧ I205 23 7 ≤ 125 from gc_in hI205 R_23 rfl rfl)
            have f219 := (show 0 ≤ I205 1 17 ∧ I205 1 17 ≤ 12000 from gc_in hI205 R_1 rfl rfl)
            have f220 := (show 0 ≤ I205 a1 4 ∧ I205 a1 4 ≤ 6 from gc_in hI205 R_a1 rfl rfl)
            have f221 := (show 0 ≤ I205 a1 8 ∧ I205 a1 8 ≤ 4 from gc_in hI205 R_a1 rfl rfl)
            have f222 := (show (-1) ≤ I205 39 2 ∧ I205 39 2 ≤ 999999 from gc_in hI205 R_39 rfl rfl)
            obtain rfl : J21 = J206 := funext fun q => funext fun j => ((k204 q j).resolve_left id).symm
            have KLT_I205 := gc_LT_fr KLT_I20 ((g204 23 5).resolve_left (by omega)) ((g204 23 6).resolve_left (by omega)) ((g204 23 7).resolve_left (by omega)) (fun k => (g204 24 k).resolve_left (by omega))
            have KCT_I205 := gc_CT_fr KCT_I20 ((g204 a1 8).resolve_left (by omega)) (fun k => (g204 (a1 + 6) k).resolve_left (by omega))
            refine gv_callV hD rfl (As := [.inl 5, .inl (I20 23 5)]) (st := []) rfl B_39 S_39 rfl (gc_lV6 hws rfl) (Nat.le_of_ble_eq_true rfl) (gz_Ev_mono (d := 1) (by decide) E204) ?_
            show gv_X _ _ (72, [(0, .inr (.inr (some 39))), (1, .inr (.inr (some a1))), (2, .inl v2_22)], [.inl z204], sh, gc_h sh I205 J21 A)
            exact gv_zret hD rfl (by omega) ⟨I205, J21, rfl, hI205, FI205, FJ21, KLT_I205, KCT_I205, ⟨_, rfl, by omega⟩⟩
        have L180 : ((I20 23 5 ≤ I20 23 6) ∧ (I20 23 7 = 5 ∨ I20 23 6 ≤ I20 23 1) ∧ (I20 23 5 ≤ I20 23 1) ∧ (I20 23 7 = 4 ∨ (I20 23 5 < I20 23 6 ∧ I20 23 5 < I20 23 1)) ∧ (I20 23 7 = 3 → 2 ≤ I20 23 6 - I20 23 5 ∧ I20 23 6 - I20 23 5 ≤ 14) ∧ (I20 23 1 = I 23 1) ∧ (I 23 5 ≤ I20 23 5) ∧ (I20 1 17 + I20 23 1 ≤ 1280 + I20 23 5) ∧ (I20 39 2 = (t : Int))) → gv_X (gc_E6 ws0 tb 4 (yX6_readItems, cX6_readItems, 3, (some .boolean)) kX6_readItems) (gv_Q cX6_readItems (some .boolean) sh (fun r h' => (∃ (I' : gr_I) (J' : gr_J), h' = gc_h sh I' J' A ∧ gc_Inv ro I' ∧ (∀ q j : Nat, ((q = 39 ∧ j = 3) ∨ (q = 39 ∧ j = 4) ∨ (q = 23 ∧ j = 5) ∨ (q = 23 ∧ j = 6) ∨ (q = 23 ∧ j = 7) ∨ (q = 23 ∧ j = 8) ∨ (q = 1 ∧ j = 17) ∨ (q = 1 ∧ j = 18) ∨ q = 20 ∨ (q = 39 ∧ j = 6) ∨ q = (a1 + 1) ∨ q = (a1 + 6) ∨ q = (a1 + 4) ∨ q = (a1 + 5) ∨ (q = a1 ∧ j = 8) ∨ q = (a1 + 2) ∨ q = (a1 + 3) ∨ (q = a1 ∧ j = 4)) ∨ I' q j = I q j) ∧ (∀ q j : Nat, ((q = 23 ∧ j = 9)) ∨ J' q j = J q j) ∧ gc_LT I' ∧ gc_CT a1 I' ∧ (∃ z : Int, r = some (.inl z) ∧ 0 ≤ z ∧ z ≤ 1 ∧ (I' 23 5 ≤ I' 23 6) ∧ (I' 23 7 = 5 ∨ I' 23 6 ≤ I' 23 1) ∧ (I' 23 5 ≤ I' 23 1) ∧ (I' 23 7 = 4 ∨ (I' 23 5 < I' 23 6 ∧ I' 23 5 < I' 23 1)) ∧ (I' 23 7 = 3 → 2 ≤ I' 23 6 - I' 23 5 ∧ I' 23 6 - I' 23 5 ≤ 14) ∧ (I' 23 1 = I 23 1) ∧ (I 23 5 ≤ I' 23 5) ∧ (I' 1 17 + I' 23 1 ≤ 1280 + I' 23 5))))) (180, [], [], sh, gc_h sh I20 J21 A) := by
          intro m_223
          obtain ⟨e0_223, e1_223, e2_223, e3_223, e4_223, e5_223, e6_223, e7_223, e8_223⟩ := m_223
          have f224 := (show 0 ≤ I20 23 1 ∧ I20 23 1 ≤ 1000 from gc_in hI20 R_23 rfl rfl)
          have f225 := (show 0 ≤ I20 23 5 ∧ I20 23 5 ≤ 1000 from gc_in hI20 R_23 rfl rfl)
          have f226 := (show 0 ≤ I20 23 6 ∧ I20 23 6 ≤ 1001 from gc_in hI20 R_23 rfl rfl)
          have f227 := (show 0 ≤ I20 23 7 ∧ I20 23 7 ≤ 125 from gc_in hI20 R_23 rfl rfl)
          have f228 := (show 0 ≤ I20 1 17 ∧ I20 1 17 ≤ 12000 from gc_in hI20 R_1 rfl rfl)
          have f229 := (show 0 ≤ I20 a1 4 ∧ I20 a1 4 ≤ 6 from gc_in hI20 R_a1 rfl rfl)
          have f230 := (show 0 ≤ I20 a1 8 ∧ I20 a1 8 ≤ 4 from gc_in hI20 R_a1 rfl rfl)
          have f231 := (show (-1) ≤ I20 39 2 ∧ I20 39 2 ≤ 999999 from gc_in hI20 R_39 rfl rfl)
          refine gv_run 1 true hD (pc' := 181) (lv' := []) (st' := [.inl 1]) (h' := gc_h sh I20 J21 A) (C := (True ∧ True)) rfl ⟨trivial, trivial⟩ ?_
          exact gv_zret hD rfl (by omega) ⟨I20, J21, rfl, hI20, FI20, FJ21, KLT_I20, KCT_I20, ⟨_, rfl, by omega⟩⟩
        refine gv_run 2 true hD (pc' := 26) (lv' := [(0, .inr (.inr (some 39))), (1, .inr (.inr (some a1))), (2, .inl v2_22)]) (st' := [.inl 6, .inl v2_22]) (h' := gc_h sh I20 J21 A) (C := ((True ∧ True) ∧ True)) rfl ⟨⟨trivial, trivial⟩, trivial⟩ ?_
        refine gv_icmp_gt (t := 180) hD rfl rfl ⟨⟨by omega, by omega⟩, ⟨by omega, by omega⟩⟩ (fun c232 => ?_) (fun c232 => ?_)
        · show gv_X _ _ (180, [(0, .inr (.inr (some 39))), (1, .inr (.inr (some a1))), (2, .inl v2_22)], [], sh, gc_h sh I20 J21 A)
          refine gv_pick [] rfl ?_
          exact L180 (by omega)
        · show gv_X _ _ (29, [(0, .inr (.inr (some 39))), (1, .inr (.inr (some a1))), (2, .inl v2_22)], [], sh, gc_h sh I20 J21 A)
          refine gv_run 1 true hD (pc' := 30) (lv' := [(0, .inr (.inr (some 39))), (1, .inr (.inr (some a1))), (2, .inl v2_22)]) (st' := [.inr (.inr (some 39))]) (h' := gc_h sh I20 J21 A) (C := (True ∧ True)) rfl ⟨trivial, trivial⟩ ?_
          refine gv_get hD rfl rfl S_39 ⟨by decide, B_39⟩ (gc_hA S_39 rfl A_39_1) ?_
          show gv_X _ _ (33, [(0, .inr (.inr (some 39))), (1, .inr (.inr (some a1))), (2, .inl v2_22)], [.inr (.inr (some 23))], sh, gc_h sh I20 J21 A)
          have f233 := (show 0 ≤ I20 23 7 ∧ I20 23 7 ≤ 125 from gc_in hI20 R_23 rfl rfl)
          refine gv_get hD rfl rfl S_23 ⟨by decide, B_23⟩ (gc_hI S_23 rfl) ?_
          show gv_X _ _ (36, [(0, .inr (.inr (some 39))), (1, .inr (.inr (some a1))), (2, .inl v2_22)], [.inl (I20 23 7)], sh, gc_h sh I20 J21 A)
          refine gv_run 1 true hD (pc' := 37) (lv' := [(0, .inr (.inr (some 39))), (1, .inr (.inr (some a1))), (2, .inl v2_22)]) (st' := [.inl 3, .inl (I20 23 7)]) (h' := gc_h sh I20 J21 A) (C := (True ∧ True)) rfl ⟨trivial, trivial⟩ ?_
          refine gv_icmp_eq (t := 51) hD rfl rfl ⟨⟨by omega, by omega⟩, ⟨by omega, by omega⟩⟩ (fun c234 => ?_) (fun c234 => ?_)
          · show gv_X _ _ (51, [(0, .inr (.inr (some 39))), (1, .inr (.inr (some a1))), (2, .inl v2_22)], [], sh, gc_h sh I20 J21 A)
            exact L51 (by omega)
          · show gv_X _ _ (40, [(0, .inr (.inr (some 39))), (1, .inr (.inr (some a1))), (2, .inl v2_22)], [], sh, gc_h sh I20 J21 A)
            refine gv_run 1 true hD (pc' := 41) (lv' := [(0, .inr (.inr (some 39))), (1, .inr (.inr (some a1))), (2, .inl v2_22)]) (st' := [.inr (.inr (some 39))]) (h' := gc_h sh I20 J21 A) (C := (True ∧ True)) rfl ⟨trivial, trivial⟩ ?_
            refine gv_get hD rfl rfl S_39 ⟨by decide, B_39⟩ (gc_hA S_39 rfl A_39_1) ?_
            show gv_X _ _ (44, [(0, .inr (.inr (some 39))), (1, .inr (.inr (some a1))), (2, .inl v2_22)], [.inr (.inr (some 23))], sh, gc_h sh I20 J21 A)
            have f235 := (show 0 ≤ I20 23 7 ∧ I20 23 7 ≤ 125 from gc_in hI20 R_23 rfl rfl)
            refine gv_get hD rfl rfl S_23 ⟨by decide, B_23⟩ (gc_hI S_23 rfl) ?_
            show gv_X _ _ (47, [(0, .inr (.inr (some 39))), (1, .inr (.inr (some a1))), (2, .inl v2_22)], [.inl (I20 23 7)], sh, gc_h sh I20 J21 A)
            refine gv_run 1 true hD (pc' := 48) (lv' := [(0, .inr (.inr (some 39))), (1, .inr (.inr (some a1))), (2, .inl v2_22)]) (st' := [.inl 2, .inl (I20 23 7)]) (h' := gc_h sh I20 J21 A) (C := (True ∧ True)) rfl ⟨trivial, trivial⟩ ?_
            refine gv_icmp_ne (t := 180) hD rfl rfl ⟨⟨by omega, by omega⟩, ⟨by omega, by omega⟩⟩ (fun c236 => ?_) (fun c236 => ?_)
            · show gv_X _ _ (180, [(0, .inr (.inr (some 39))), (1, .inr (.inr (some a1))), (2, .inl v2_22)], [], sh, gc_h sh I20 J21 A)
              refine gv_pick [] rfl ?_
              exact L180 (by omega)
            · show gv_X _ _ (51, [(0, .inr (.inr (some 39))), (1, .inr (.inr (some a1))), (2, .inl v2_22)], [], sh, gc_h sh I20 J21 A)
              exact L51 (by omega)
    refine gv_run 2 true hD (pc' := 23) (lv' := [(2, .inl 0), (0, .inr (.inr (some 39))), (1, .inr (.inr (some a1)))]) (st' := []) (h' := gc_h sh I9 J10 A) (C := ((True ∧ True) ∧ True)) rfl ⟨⟨trivial, trivial⟩, trivial⟩ ?_
    refine gv_pick [1, 2, 0] rfl ?_
    exact L23 _ I9 J10 0 (Nat.lt_succ_self _) hI9 FI9 FJ10 KLT_I9 KCT_I9 (by omega)
  refine gv_run 1 true hD (pc' := 1) (lv' := [(0, .inr (.inr (some 39))), (1, .inr (.inr (some a1)))]) (st' := [.inr (.inr (some 39))]) (h' := gc_h sh I J A) (C := (True ∧ True)) rfl ⟨trivial, trivial⟩ ?_
  refine gv_get hD rfl rfl S_39 ⟨by decide, B_39⟩ (gc_hA S_39 rfl A_39_1) ?_
  show gv_X _ _ (4, [(0, .inr (.inr (some 39))), (1, .inr (.inr (some a1)))], [.inr (.inr (some 23))], sh, gc_h sh I J A)
  have f237 := (show 0 ≤ I 23 7 ∧ I 23 7 ≤ 125 from gc_in hI R_23 rfl rfl)
  refine gv_get hD rfl rfl S_23 ⟨by decide, B_23⟩ (gc_hI S_23 rfl) ?_
  show gv_X _ _ (7, [(0, .inr (.inr (some 39))), (1, .inr (.inr (some a1)))], [.inl (I 23 7)], sh, gc_h sh I J A)
  refine gv_run 1 true hD (pc' := 8) (lv' := [(0, .inr (.inr (some 39))), (1, .inr (.inr (some a1)))]) (st' := [.inl 3, .inl (I 23 7)]) (h' := gc_h sh I J A) (C := (True ∧ True)) rfl ⟨trivial, trivial⟩ ?_
  refine gv_icmp_eq (t := 21) hD rfl rfl ⟨⟨by omega, by omega⟩, ⟨by omega, by omega⟩⟩ (fun c238 => ?_) (fun c238 => ?_)
  · show gv_X _ _ (21, [(0, .inr (.inr (some 39))), (1, .inr (.inr (some a1)))], [], sh, gc_h sh I J A)
    exact L21 I J hI FI FJ KLT_I KCT_I (by omega)
  · show gv_X _ _ (11, [(0, .inr (.inr (some 39))), (1, .inr (.inr (some a1)))], [], sh, gc_h sh I J A)
    refine gv_run 2 true hD (pc' := 13) (lv' := [(0, .inr (.inr (some 39))), (1, .inr (.inr (some a1)))]) (st' := [.inl 2, .inr (.inr (some 39))]) (h' := gc_h sh I J A) (C := ((True ∧ True) ∧ True)) rfl ⟨⟨trivial, trivial⟩, trivial⟩ ?_
    obtain ⟨r239, h239, E239, P239⟩ := d_X6_need (ws0 := ws0) (tb := tb) hws htb sh ro I J A hI  2 hb   ⟨by omega, by omega⟩  
    obtain ⟨I240, J241, rfl, hI240, g239, k239, ⟨z239, rfl, q239⟩⟩ := P239
    have FI240 := gc_frc (W := fun q j => (q = 39 ∧ j = 3) ∨ (q = 39 ∧ j = 4) ∨ (q = 23 ∧ j = 5) ∨ (q = 23 ∧ j = 6) ∨ (q = 23 ∧ j = 7) ∨ (q = 23 ∧ j = 8) ∨ (q = 1 ∧ j = 17) ∨ (q = 1 ∧ j = 18) ∨ q = 20 ∨ (q = 39 ∧ j = 6) ∨ q = (a1 + 1) ∨ q = (a1 + 6) ∨ q = (a1 + 4) ∨ q = (a1 + 5) ∨ (q = a1 ∧ j = 8) ∨ q = (a1 + 2) ∨ q = (a1 + 3) ∨ (q = a1 ∧ j = 4)) (V := fun q j => (q = 39 ∧ j = 3) ∨ (q = 39 ∧ j = 4)) FI (fun q j h => (h.elim (fun h => (Or.inl h)) (fun h => (Or.inr (Or.inl h))))) g239
    have t242 := (g239 23 1).resolve_left (by omega)
    have t243 := (g239 23 5).resolve_left (by omega)
    have t244 := (g239 23 6).resolve_left (by omega)
    have t245 := (g239 23 7).resolve_left (by omega)
    have t246 := (g239 1 17).resolve_left (by omega)
    have t247 := (g239 a1 4).resolve_left (by omega)
    have t248 := (g239 a1 8).resolve_left (by omega)
    have t249 := (g239 39 2).resolve_left (by omega)
    have f250 := (show 0 ≤ I240 23 1 ∧ I240 23 1 ≤ 1000 from gc_in hI240 R_23 rfl rfl)
    have f251 := (show 0 ≤ I240 23 5 ∧ I240 23 5 ≤ 1000 from gc_in hI240 R_23 rfl rfl)
    have f252 := (show 0 ≤ I240 23 6 ∧ I240 23 6 ≤ 1001 from gc_in hI240 R_23 rfl rfl)
    have f253 := (show 0 ≤ I240 23 7 ∧ I240 23 7 ≤ 125 from gc_in hI240 R_23 rfl rfl)
    have f254 := (show 0 ≤ I240 1 17 ∧ I240 1 17 ≤ 12000 from gc_in hI240 R_1 rfl rfl)
    have f255 := (show 0 ≤ I240 a1 4 ∧ I240 a1 4 ≤ 6 from gc_in hI240 R_a1 rfl rfl)
    have f256 := (show 0 ≤ I240 a1 8 ∧ I240 a1 8 ≤ 4 from gc_in hI240 R_a1 rfl rfl)
    have f257 := (show (-1) ≤ I240 39 2 ∧ I240 39 2 ≤ 999999 from gc_in hI240 R_39 rfl rfl)
    obtain rfl : J = J241 := funext fun q => funext fun j => ((k239 q j).resolve_left id).symm
    have KLT_I240 := gc_LT_fr KLT_I ((g239 23 5).resolve_left (by omega)) ((g239 23 6).resolve_left (by omega)) ((g239 23 7).resolve_left (by omega)) (fun k => (g239 24 k).resolve_left (by omega))
    have KCT_I240 := gc_CT_fr KCT_I ((g239 a1 8).resolve_left (by omega)) (fun k => (g239 (a1 + 6) k).resolve_left (by omega))
    refine gv_callV hD rfl (As := [.inl 2]) (st := []) rfl B_39 S_39 rfl (gc_lV6 hws rfl) (Nat.le_of_ble_eq_true rfl) (gz_Ev_mono (d := 2) (by decide) E239) ?_
    show gv_X _ _ (16, [(0, .inr (.inr (some 39))), (1, .inr (.inr (some a1)))], [.inl z239], sh, gc_h sh I240 J A)
    refine gv_if_ne (t := 21) hD rfl rfl ⟨by omega, by omega⟩ (fun c258 => ?_) (fun c258 => ?_)
    · show gv_X _ _ (21, [(0, .inr (.inr (some 39))), (1, .inr (.inr (some a1)))], [], sh, gc_h sh I240 J A)
      exact L21 I240 J hI240 FI240 FJ KLT_I240 KCT_I240 (by omega)
    · show gv_X _ _ (19, [(0, .inr (.inr (some 39))), (1, .inr (.inr (some a1)))], [], sh, gc_h sh I240 J A)
      refine gv_run 1 true hD (pc' := 20) (lv' := [(0, .inr (.inr (some 39))), (1, .inr (.inr (some a1)))]) (st' := [.inl 0]) (h' := gc_h sh I240 J A) (C := (True ∧ True)) rfl ⟨trivial, trivial⟩ ?_
      exact gv_zret hD rfl (by omega) ⟨I240, J, rfl, hI240, FI240, FJ, KLT_I240, KCT_I240, ⟨_, rfl, by omega⟩⟩
