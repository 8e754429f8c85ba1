set_option maxHeartbeats 4000000 in
set_option maxRecDepth 100000 in
theorem d_X6_readSaids {ws0 : List Cond} {tb : String → gz_T} (hws : gc_Ws ws0) (htb : gc_tbs tb) (sh : gz_Sh) (ro : Nat → Nat) (I : gr_I) (J : gr_J) (A : gc_A) (hI : gc_Inv ro I) (t : Nat) (a1 : Nat) (hb : gc_Base sh ro A) (h_a1 : gc_isLin sh ro A a1) (G_a1 : 144 ≤ a1) (h_t : gc_isTongue sh ro A t) (G_t : 144 ≤ t)  (x0 : I a1 12 + I a1 14 ≤ 6) (x1 : I 39 2 = (t : Int)) (KLT_I : gc_LT I) (KTK_I : gc_TK I) : ∃ r h', gz_Ev ws0 tb 5 (yX6_readSaids, cX6_readSaids, 4, (some .boolean)) [.inr (.inr (some 39)), .inr (.inr (some a1))] sh (gc_h sh I J A) r sh h' 0 0 ∧ (∃ (I' : gr_I) (J' : gr_J), h' = gc_h sh I' J' A ∧ gc_Inv ro I' ∧ (∀ q j : Nat, ((q = 39 ∧ j = 3) ∨ (q = 39 ∧ j = 4) ∨ (q = 23 ∧ j = 5) ∨ (q = 23 ∧ j = 6) ∨ (q = 23 ∧ j = 7) ∨ (q = 23 ∧ j = 8) ∨ q = (a1 + 7) ∨ (q = a1 ∧ j = 12) ∨ q = (a1 + 8) ∨ (q = a1 ∧ j = 14)) ∨ I' q j = I q j) ∧ (∀ q j : Nat, ((q = 23 ∧ j = 9)) ∨ J' q j = J q j) ∧ gc_LT I' ∧ gc_TK I' ∧ (∃ z : Int, r = some (.inl z) ∧ 0 ≤ z ∧ z ≤ 1 ∧ (I' 23 1 = I 23 1) ∧ (I 23 5 ≤ I' 23 5))) := by
  have FI : ∀ q j : Nat, ((q = 39 ∧ j = 3) ∨ (q = 39 ∧ j = 4) ∨ (q = 23 ∧ j = 5) ∨ (q = 23 ∧ j = 6) ∨ (q = 23 ∧ j = 7) ∨ (q = 23 ∧ j = 8) ∨ q = (a1 + 7) ∨ (q = a1 ∧ j = 12) ∨ q = (a1 + 8) ∨ (q = a1 ∧ j = 14)) ∨ I q j = I q j := fun _ _ => Or.inr rfl
  have FJ : ∀ q j : Nat, ((q = 23 ∧ j = 9)) ∨ J q j = J q j := fun _ _ => Or.inr rfl
  have A_39_1 : A 39 1 = some 23 := gc_bA hb rfl
  have B_23 : 23 < 1000000 := by decide
  have B_39 : 39 < 1000000 := by decide
  have R_23 : ro 23 = 3 := gc_bR hb (by decide) rfl
  have R_39 : ro 39 = 42 := gc_bR hb (by decide) rfl
  have S_23 : sh[23]? = some (false, 9, 10) := gc_bS hb rfl
  have S_39 : sh[39]? = some (false, 6, 19) := gc_bS hb rfl
  obtain ⟨S_a1, R_a1, B_a1, A_a1_5, S_a1_1, R_a1_1, B_a1_1, A_a1_6, S_a1_2, R_a1_2, B_a1_2, A_a1_7, S_a1_3, R_a1_3, B_a1_3, A_a1_9, S_a1_4, R_a1_4, B_a1_4, A_a1_10, S_a1_5, R_a1_5, B_a1_5, A_a1_11, S_a1_6, R_a1_6, B_a1_6, A_a1_13, S_a1_7, R_a1_7, B_a1_7, A_a1_15, S_a1_8, R_a1_8, B_a1_8⟩ := id h_a1
  obtain ⟨S_t, R_t, B_t, A_t_0, h_t_1, A_t_1, h_t_3, A_t_2, S_t_5, R_t_5, B_t_5, A_t_3, S_t_6, R_t_6, B_t_6, A_t_4, h_t_7, A_t_5, S_t_9, R_t_9, B_t_9, A_t_7, S_t_10, R_t_10, B_t_10, A_t_8, h_t_11, A_t_9, S_t_13, R_t_13, B_t_13, A_t_10, S_t_14, R_t_14, B_t_14, A_t_12, S_t_15, R_t_15, B_t_15, A_t_14, S_t_16, R_t_16, B_t_16, A_t_15, h_t_17⟩ := id h_t
  obtain ⟨S_t_1, R_t_1, B_t_1, A_t_1_0, S_t_1_1, R_t_1_1, B_t_1_1, Q0_t_1, Q1_t_1, Q2_t_1⟩ := id h_t_1
  obtain ⟨S_t_3, R_t_3, B_t_3, A_t_3_0, S_t_3_1, R_t_3_1, B_t_3_1, Q0_t_3, Q1_t_3, Q2_t_3⟩ := id h_t_3
  obtain ⟨S_t_7, R_t_7, B_t_7, A_t_7_0, S_t_7_1, R_t_7_1, B_t_7_1, Q0_t_7, Q1_t_7, Q2_t_7⟩ := id h_t_7
  obtain ⟨S_t_11, R_t_11, B_t_11, A_t_11_0, S_t_11_1, R_t_11_1, B_t_11_1, Q0_t_11, Q1_t_11, Q2_t_11⟩ := id h_t_11
  obtain ⟨S_t_17, R_t_17, B_t_17, A_t_17_0, S_20, R_20, B_20, A_t_17_1, S_t_17_1, R_t_17_1, B_t_17_1, A_t_17_2, S_t_17_2, R_t_17_2, B_t_17_2, A_t_17_3, S_t_17_3, R_t_17_3, B_t_17_3, A_t_17_4, S_t_17_4, R_t_17_4, B_t_17_4, A_t_17_5, S_t_17_5, R_t_17_5, B_t_17_5, S_t_17_6, R_t_17_6, B_t_17_6, S_t_17_7, R_t_17_7, B_t_17_7⟩ := id h_t_17
  have N1 := gc_dj_LT h_a1 h_t
  have hD : gv_D (gc_E6 ws0 tb 4 (yX6_readSaids, cX6_readSaids, 4, (some .boolean)) kX6_readSaids) := gq_ok oX6_readSaids
  refine gc_ev6 (d := 4) (l := kX6_readSaids) (Po := fun r h' => (∃ (I' : gr_I) (J' : gr_J), h' = gc_h sh I' J' A ∧ gc_Inv ro I' ∧ (∀ q j : Nat, ((q = 39 ∧ j = 3) ∨ (q = 39 ∧ j = 4) ∨ (q = 23 ∧ j = 5) ∨ (q = 23 ∧ j = 6) ∨ (q = 23 ∧ j = 7) ∨ (q = 23 ∧ j = 8) ∨ q = (a1 + 7) ∨ (q = a1 ∧ j = 12) ∨ q = (a1 + 8) ∨ (q = a1 ∧ j = 14)) ∨ I' q j = I q j) ∧ (∀ q j : Nat, ((q = 23 ∧ j = 9)) ∨ J' q j = J q j) ∧ gc_LT I' ∧ gc_TK I' ∧ (∃ z : Int, r = some (.inl z) ∧ 0 ≤ z ∧ z ≤ 1 ∧ (I' 23 1 = I 23 1) ∧ (I 23 5 ≤ I' 23 5)))) htb rfl (Nat.le_of_ble_eq_true rfl) ?_
  have N_23__a1_8 : ¬ (23 = (a1 + 8)) := by omega
  have N_a1__a1_8 : ¬ (a1 = (a1 + 8)) := by omega
  have N_39__a1_8 : ¬ (39 = (a1 + 8)) := by omega
  have N_23__a1_7 : ¬ (23 = (a1 + 7)) := by omega
  have N_a1__a1_7 : ¬ (a1 = (a1 + 7)) := by omega
  have N_39__a1_7 : ¬ (39 = (a1 + 7)) := by omega
  have t1 := gc_TK_mo KTK_I
  have f2 := (show 0 ≤ I 23 1 ∧ I 23 1 ≤ 1000 from gc_in hI R_23 rfl rfl)
  have f3 := (show 0 ≤ I 23 5 ∧ I 23 5 ≤ 1000 from gc_in hI R_23 rfl rfl)
  have f4 := (show 0 ≤ I 23 6 ∧ I 23 6 ≤ 1001 from gc_in hI R_23 rfl rfl)
  have f5 := (show 0 ≤ I 23 7 ∧ I 23 7 ≤ 125 from gc_in hI R_23 rfl rfl)
  have f6 := (show 0 ≤ I a1 12 ∧ I a1 12 ≤ 6 from gc_in hI R_a1 rfl rfl)
  have f7 := (show 0 ≤ I a1 14 ∧ I a1 14 ≤ 6 from gc_in hI R_a1 rfl rfl)
  have f8 := (show (-1) ≤ I 39 2 ∧ I 39 2 ≤ 999999 from gc_in hI R_39 rfl rfl)
  have L2 : ∀ (n9 : Nat) (I9 : gr_I) (J10 : gr_J) (v2_11 : Int), (8 - v2_11).toNat < n9 → gc_Inv ro I9 → (∀ q j : Nat, ((q = 39 ∧ j = 3) ∨ (q = 39 ∧ j = 4) ∨ (q = 23 ∧ j = 5) ∨ (q = 23 ∧ j = 6) ∨ (q = 23 ∧ j = 7) ∨ (q = 23 ∧ j = 8) ∨ q = (a1 + 7) ∨ (q = a1 ∧ j = 12) ∨ q = (a1 + 8) ∨ (q = a1 ∧ j = 14)) ∨ I9 q j = I q j) → (∀ q j : Nat, ((q = 23 ∧ j = 9)) ∨ J10 q j = J q j) → gc_LT I9 → gc_TK I9 → ((0 ≤ v2_11 ∧ v2_11 ≤ 7) ∧ (I9 23 1 = I 23 1) ∧ (I 23 5 ≤ I9 23 5) ∧ (I9 a1 12 + I9 a1 14 ≤ 6) ∧ (I9 39 2 = (t : Int))) → gv_X (gc_E6 ws0 tb 4 (yX6_readSaids, cX6_readSaids, 4, (some .boolean)) kX6_readSaids) (gv_Q cX6_readSaids (some .boolean) sh (fun r h' => (∃ (I' : gr_I) (J' : gr_J), h' = gc_h sh I' J' A ∧ gc_Inv ro I' ∧ (∀ q j : Nat, ((q = 39 ∧ j = 3) ∨ (q = 39 ∧ j = 4) ∨ (q = 23 ∧ j = 5) ∨ (q = 23 ∧ j = 6) ∨ (q = 23 ∧ j = 7) ∨ (q = 23 ∧ j = 8) ∨ q = (a1 + 7) ∨ (q = a1 ∧ j = 12) ∨ q = (a1 + 8) ∨ (q = a1 ∧ j = 14)) ∨ I' q j = I q j) ∧ (∀ q j : Nat, ((q = 23 ∧ j = 9)) ∨ J' q j = J q j) ∧ gc_LT I' ∧ gc_TK I' ∧ (∃ z : Int, r = some (.inl z) ∧ 0 ≤ z ∧ z ≤ 1 ∧ (I' 23 1 = I 23 1) ∧ (I 23 5 ≤ I' 23 5))))) (2, [(0, .inr (.inr (some 39))), (1, .inr (.inr (some a1))), (2, .inl v2_11)], [], sh, gc_h sh I9 J10 A) := by
    intro n9
    induction n9 with
    | zero => intro I9 J10 v2_11 hn; omega
    | succ n9 ih2 =>
      intro I9 J10 v2_11 hn hI9 FI9 FJ10 KLT_I9 KTK_I9 m_11
      obtain ⟨hv2_11, e0_11, e1_11, e2_11, e3_11⟩ := m_11
      have t12 := gc_TK_mo KTK_I9
      have f13 := (show 0 ≤ I9 23 1 ∧ I9 23 1 ≤ 1000 from gc_in hI9 R_23 rfl rfl)
      have f14 := (show 0 ≤ I9 23 5 ∧ I9 23 5 ≤ 1000 from gc_in hI9 R_23 rfl rfl)
      have f15 := (show 0 ≤ I9 23 6 ∧ I9 23 6 ≤ 1001 from gc_in hI9 R_23 rfl rfl)
      have f16 := (show 0 ≤ I9 23 7 ∧ I9 23 7 ≤ 125 from gc_in hI9 R_23 rfl rfl)
      have f17 := (show 0 ≤ I9 a1 12 ∧ I9 a1 12 ≤ 6 from gc_in hI9 R_a1 rfl rfl)
      have f18 := (show 0 ≤ I9 a1 14 ∧ I9 a1 14 ≤ 6 from gc_in hI9 R_a1 rfl rfl)
      have f19 := (show (-1) ≤ I9 39 2 ∧ I9 39 2 ≤ 999999 from gc_in hI9 R_39 rfl rfl)
      have L62 : ∀ (I20 : gr_I) (J21 : gr_J) (v3_22 : Int), gc_Inv ro I20 → (∀ q j : Nat, ((q = 39 ∧ j = 3) ∨ (q = 39 ∧ j = 4) ∨ (q = 23 ∧ j = 5) ∨ (q = 23 ∧ j = 6) ∨ (q = 23 ∧ j = 7) ∨ (q = 23 ∧ j = 8) ∨ q = (a1 + 7) ∨ (q = a1 ∧ j = 12) ∨ q = (a1 + 8) ∨ (q = a1 ∧ j = 14)) ∨ I20 q j = I q j) → (∀ q j : Nat, ((q = 23 ∧ j = 9)) ∨ J21 q j = J q j) → gc_LT I20 → gc_TK I20 → ((0 ≤ v2_11 ∧ v2_11 ≤ 6) ∧ (0 ≤ v3_22 ∧ v3_22 ≤ 1) ∧ (I20 23 7 = 1) ∧ (I20 23 1 = I 23 1) ∧ (I 23 5 ≤ I20 23 5) ∧ (I20 a1 12 + I20 a1 14 ≤ 6) ∧ (I20 39 2 = (t : Int))) → gv_X (gc_E6 ws0 tb 4 (yX6_readSaids, cX6_readSaids, 4, (some .boolean)) kX6_readSaids) (gv_Q cX6_readSaids (some .boolean) sh (fun r h' => (∃ (I' : gr_I) (J' : gr_J), h' = gc_h sh I' J' A ∧ gc_Inv ro I' ∧ (∀ q j : Nat, ((q = 39 ∧ j = 3) ∨ (q = 39 ∧ j = 4) ∨ (q = 23 ∧ j = 5) ∨ (q = 23 ∧ j = 6) ∨ (q = 23 ∧ j = 7) ∨ (q = 23 ∧ j = 8) ∨ q = (a1 + 7) ∨ (q = a1 ∧ j = 12) ∨ q = (a1 + 8) ∨ (q = a1 ∧ j = 14)) ∨ I' q j = I q j) ∧ (∀ q j : Nat, ((q = 23 ∧ j = 9)) ∨ J' q j = J q j) ∧ gc_LT I' ∧ gc_TK I' ∧ (∃ z : Int, r = some (.inl z) ∧ 0 ≤ z ∧ z ≤ 1 ∧ (I' 23 1 = I 23 1) ∧ (I 23 5 ≤ I' 23 5))))) (62, [(0, .inr (.inr (some 39))), (1, .inr (.inr (some a1))), (2, .inl v2_11), (3, .inl v3_22)], [], sh, gc_h sh I20 J21 A) := by
        intro I20 J21 v3_22 hI20 FI20 FJ21 KLT_I20 KTK_I20 m_22
        clear hv2_11 e0_11 e1_11 e2_11 e3_11 t12 f13 f14 f15 f16 f17 f18 f19
        obtain ⟨hv2_11_22, hv3_22, e0_22, e1_22, e2_22, e3_22, e4_22⟩ := m_22
        have t23 := gc_TK_mo KTK_I20
        have f24 := (show 0 ≤ I20 23 1 ∧ I20 23 1 ≤ 1000 from gc_in hI20 R_23 rfl rfl)
        have f25 := (show 0 ≤ I20 23 5 ∧ I20 23 5 ≤ 1000 from gc_in hI20 R_23 rfl rfl)
        have f26 := (show 0 ≤ I20 23 6 ∧ I20 23 6 ≤ 1001 from gc_in hI20 R_23 rfl rfl)
        have f27 := (show 0 ≤ I20 23 7 ∧ I20 23 7 ≤ 125 from gc_in hI20 R_23 rfl rfl)
        have f28 := (show 0 ≤ I20 a1 12 ∧ I20 a1 12 ≤ 6 from gc_in hI20 R_a1 rfl rfl)
        have f29 := (show 0 ≤ I20 a1 14 ∧ I20 a1 14 ≤ 6 from gc_in hI20 R_a1 rfl rfl)
        have f30 := (show (-1) ≤ I20 39 2 ∧ I20 39 2 ≤ 999999 from gc_in hI20 R_39 rfl rfl)
        have L121 : ∀ (I31 : gr_I) (J32 : gr_J) , gc_Inv ro I31 → (∀ q j : Nat, ((q = 39 ∧ j = 3) ∨ (q = 39 ∧ j = 4) ∨ (q = 23 ∧ j = 5) ∨ (q = 23 ∧ j = 6) ∨ (q = 23 ∧ j = 7) ∨ (q = 23 ∧ j = 8) ∨ q = (a1 + 7) ∨ (q = a1 ∧ j = 12) ∨ q = (a1 + 8) ∨ (q = a1 ∧ j = 14)) ∨ I31 q j = I q j) → (∀ q j : Nat, ((q = 23 ∧ j = 9)) ∨ J32 q j = J q j) → gc_LT I31 → gc_TK I31 → ((0 ≤ v2_11 ∧ v2_11 ≤ 6) ∧ (I31 23 1 = I 23 1) ∧ (I 23 5 ≤ I31 23 5) ∧ (I31 a1 12 + I31 a1 14 ≤ 6) ∧ (I31 39 2 = (t : Int))) → gv_X (gc_E6 ws0 tb 4 (yX6_readSaids, cX6_readSaids, 4, (some .boolean)) kX6_readSaids) (gv_Q cX6_readSaids (some .boolean) sh (fun r h' => (∃ (I' : gr_I) (J' : gr_J), h' = gc_h sh I' J' A ∧ gc_Inv ro I' ∧ (∀ q j : Nat, ((q = 39 ∧ j = 3) ∨ (q = 39 ∧ j = 4) ∨ (q = 23 ∧ j = 5) ∨ (q = 23 ∧ j = 6) ∨ (q = 23 ∧ j = 7) ∨ (q = 23 ∧ j = 8) ∨ q = (a1 + 7) ∨ (q = a1 ∧ j = 12) ∨ q = (a1 + 8) ∨ (q = a1 ∧ j = 14)) ∨ I' q j = I q j) ∧ (∀ q j : Nat, ((q = 23 ∧ j = 9)) ∨ J' q j = J q j) ∧ gc_LT I' ∧ gc_TK I' ∧ (∃ z : Int, r = some (.inl z) ∧ 0 ≤ z ∧ z ≤ 1 ∧ (I' 23 1 = I 23 1) ∧ (I 23 5 ≤ I' 23 5))))) (121, [(0, .inr (.inr (some 39))), (1, .inr (.inr (some a1))), (2, .inl v2_11)], [], sh, gc_h sh I31 J32 A) := by
          intro I31 J32 hI31 FI31 FJ32 KLT_I31 KTK_I31 m_33
          clear hv2_11_22 hv3_22 e0_22 e1_22 e2_22 e3_22 e4_22 t23 f24 f25 f26 f27 f28 f29 f30
          obtain ⟨hv2_11_33, e0_33, e1_33, e2_33, e3_33⟩ := m_33
          have t34 := gc_TK_mo KTK_I31
          have f35 := (show 0 ≤ I31 23 1 ∧ I31 23 1 ≤ 1000 from gc_in hI31 R_23 rfl rfl)
          have f36 := (show 0 ≤ I31 23 5 ∧ I31 23 5 ≤ 1000 from gc_in hI31 R_23 rfl rfl)
          have f37 := (show 0 ≤ I31 23 6 ∧ I31 23 6 ≤ 1001 from gc_in hI31 R_23 rfl rfl)
          have f38 := (show 0 ≤ I31 23 7 ∧ I31 23 7 ≤ 125 from gc_in hI31 R_23 rfl rfl)
          have f39 := (show 0 ≤ I31 a1 12 ∧ I31 a1 12 ≤ 6 from gc_in hI31 R_a1 rfl rfl)
          have f40 := (show 0 ≤ I31 a1 14 ∧ I31 a1 14 ≤ 6 from gc_in hI31 R_a1 rfl rfl)
          have f41 := (show (-1) ≤ I31 39 2 ∧ I31 39 2 ≤ 999999 from gc_in hI31 R_39 rfl rfl)
          refine gv_run 2 true hD (pc' := 2) (lv' := [(2, .inl (v2_11 + 1)), (0, .inr (.inr (some 39))), (1, .inr (.inr (some a1)))]) (st' := []) (h' := gc_h sh I31 J32 A) (C := ((True ∧ True) ∧ True)) rfl ⟨⟨trivial, trivial⟩, trivial⟩ ?_
          refine gv_pick [1, 2, 0] rfl ?_
          exact ih2 I31 J32 (v2_11 + 1) (by omega) hI31 FI31 FJ32 KLT_I31 KTK_I31 (by omega)
        have L119 : ∀ (I42 : gr_I) (J43 : gr_J) , gc_Inv ro I42 → (∀ q j : Nat, ((q = 39 ∧ j = 3) ∨ (q = 39 ∧ j = 4) ∨ (q = 23 ∧ j = 5) ∨ (q = 23 ∧ j = 6) ∨ (q = 23 ∧ j = 7) ∨ (q = 23 ∧ j = 8) ∨ q = (a1 + 7) ∨ (q = a1 ∧ j = 12) ∨ q = (a1 + 8) ∨ (q = a1 ∧ j = 14)) ∨ I42 q j = I q j) → (∀ q j : Nat, ((q = 23 ∧ j = 9)) ∨ J43 q j = J q j) → gc_LT I42 → gc_TK I42 → ((I42 23 1 = I 23 1) ∧ (I 23 5 ≤ I42 23 5) ∧ (I42 a1 12 + I42 a1 14 ≤ 6) ∧ (I42 39 2 = (t : Int))) → gv_X (gc_E6 ws0 tb 4 (yX6_readSaids, cX6_readSaids, 4, (some .boolean)) kX6_readSaids) (gv_Q cX6_readSaids (some .boolean) sh (fun r h' => (∃ (I' : gr_I) (J' : gr_J), h' = gc_h sh I' J' A ∧ gc_Inv ro I' ∧ (∀ q j : Nat, ((q = 39 ∧ j = 3) ∨ (q = 39 ∧ j = 4) ∨ (q = 23 ∧ j = 5) ∨ (q = 23 ∧ j = 6) ∨ (q = 23 ∧ j = 7) ∨ (q = 23 ∧ j = 8) ∨ q = (a1 + 7) ∨ (q = a1 ∧ j = 12) ∨ q = (a1 + 8) ∨ (q = a1 ∧ j = 14)) ∨ I' q j = I q j) ∧ (∀ q j : Nat, ((q = 23 ∧ j = 9)) ∨ J' q j = J q j) ∧ gc_LT I' ∧ gc_TK I' ∧ (∃ z : Int, r = some (.inl z) ∧ 0 ≤ z ∧ z ≤ 1 ∧ (I' 23 1 = I 23 1) ∧ (I 23 5 ≤ I' 23 5))))) (119, [], [], sh, gc_h sh I42 J43 A) := by
          intro I42 J43 hI42 FI42 FJ43 KLT_I42 KTK_I42 m_44
          clear hv2_11_22 hv3_22 e0_22 e1_22 e2_22 e3_22 e4_22 t23 f24 f25 f26 f27 f28 f29 f30
          obtain ⟨e0_44, e1_44, e2_44, e3_44⟩ := m_44
          have t45 := gc_TK_mo KTK_I42
          have f46 := (show 0 ≤ I42 23 1 ∧ I42 23 1 ≤ 1000 from gc_in hI42 R_23 rfl rfl)
          have f47 := (show 0 ≤ I42 23 5 ∧ I42 23 5 ≤ 1000 from gc_in hI42 R_23 rfl rfl)
          have f48 := (show 0 ≤ I42 23 6 ∧ I42 23 6 ≤ 1001 from gc_in hI42 R_23 rfl rfl)
          have f49 := (show 0 ≤ I42 23 7 ∧ I42 23 7 ≤ 125 from gc_in hI42 R_23 rfl rfl)
          have f50 := (show 0 ≤ I42 a1 12 ∧ I42 a1 12 ≤ 6 from gc_in hI42 R_a1 rfl rfl)
          have f51 := (show 0 ≤ I42 a1 14 ∧ I42 a1 14 ≤ 6 from gc_in hI42 R_a1 rfl rfl)
          have f52 := (show (-1) ≤ I42 39 2 ∧ I42 39 2 ≤ 999999 from gc_in hI42 R_39 rfl rfl)
          refine gv_run 1 true hD (pc' := 120) (lv' := []) (st' := [.inl 0]) (h' := gc_h sh I42 J43 A) (C := (True ∧ True)) rfl ⟨trivial, trivial⟩ ?_
          exact gv_zret hD rfl (by omega) ⟨I42, J43, rfl, hI42, FI42, FJ43, KLT_I42, KTK_I42, ⟨_, rfl, by omega⟩⟩
        refine gv_run 1 true hD (pc' := 63) (lv' := [(0, .inr (.inr (some 39))), (1, .inr (.inr (some a1))), (2, .inl v2_11), (3, .inl v3_22)]) (st' := [.inr (.inr (some a1))]) (h' := gc_h sh I20 J21 A) (C := (True ∧ True)) rfl ⟨trivial, trivial⟩ ?_
        have f53 := (show 0 ≤ I20 a1 12 ∧ I20 a1 12 ≤ 6 from gc_in hI20 R_a1 rfl rfl)
        refine gv_get hD rfl rfl S_a1 ⟨by decide, B_a1⟩ (gc_hI S_a1 rfl) ?_
        show gv_X _ _ (66, [(0, .inr (.inr (some 39))), (1, .inr (.inr (some a1))), (2, .inl v2_11), (3, .inl v3_22)], [.inl (I20 a1 12)], sh, gc_h sh I20 J21 A)
        refine gv_run 1 true hD (pc' := 67) (lv' := [(0, .inr (.inr (some 39))), (1, .inr (.inr (some a1))), (2, .inl v2_11), (3, .inl v3_22)]) (st' := [.inr (.inr (some a1)), .inl (I20 a1 12)]) (h' := gc_h sh I20 J21 A) (C := (True ∧ True)) rfl ⟨trivial, trivial⟩ ?_
        have f54 := (show 0 ≤ I20 a1 14 ∧ I20 a1 14 ≤ 6 from gc_in hI20 R_a1 rfl rfl)
        refine gv_get hD rfl rfl S_a1 ⟨by decide, B_a1⟩ (gc_hI S_a1 rfl) ?_
        show gv_X _ _ (70, [(0, .inr (.inr (some 39))), (1, .inr (.inr (some a1))), (2, .inl v2_11), (3, .inl v3_22)], [.inl (I20 a1 14), .inl (I20 a1 12)], sh, gc_h sh I20 J21 A)
        refine gv_run 2 true hD (pc' := 73) (lv' := [(0, .inr (.inr (some 39))), (1, .inr (.inr (some a1))), (2, .inl v2_11), (3, .inl v3_22)]) (st' := [.inl 6, .inl ((I20 a1 12) + (I20 a1 14))]) (h' := gc_h sh I20 J21 A) (C := ((True ∧ True) ∧ True)) rfl ⟨⟨trivial, trivial⟩, trivial⟩ ?_
        refine gv_icmp_ne (t := 89) hD rfl rfl ⟨⟨by omega, by omega⟩, ⟨by omega, by omega⟩⟩ (fun c55 => ?_) (fun c55 => ?_)
        · show gv_X _ _ (89, [(0, .inr (.inr (some 39))), (1, .inr (.inr (some a1))), (2, .inl v2_11), (3, .inl v3_22)], [], sh, gc_h sh I20 J21 A)
          refine gv_run 1 true hD (pc' := 90) (lv' := [(0, .inr (.inr (some 39))), (1, .inr (.inr (some a1))), (2, .inl v2_11), (3, .inl v3_22)]) (st' := [.inr (.inr (some 39))]) (h' := gc_h sh I20 J21 A) (C := (True ∧ True)) rfl ⟨trivial, trivial⟩ ?_
          refine gv_get hD rfl rfl S_39 ⟨by decide, B_39⟩ (gc_hA S_39 rfl A_39_1) ?_
          show gv_X _ _ (93, [(0, .inr (.inr (some 39))), (1, .inr (.inr (some a1))), (2, .inl v2_11), (3, .inl v3_22)], [.inr (.inr (some 23))], sh, gc_h sh I20 J21 A)
          have t57 := gc_TK_nx KTK_I20 (by omega)
          obtain ⟨r56, h56, E56, P56⟩ := d_X9_advance (ws0 := ws0) (tb := tb) hws htb sh ro I20 J21 A hI20 23  (gc_b23 hb)    (by omega) 
          obtain ⟨I58, J59, rfl, hI58, g56, k56, ⟨rfl, V56_0, V56_1, V56_2, V56_3, V56_4, q56⟩⟩ := P56
          have FI58 := gc_frc (W := fun q j => (q = 39 ∧ j = 3) ∨ (q = 39 ∧ j = 4) ∨ (q = 23 ∧ j = 5) ∨ (q = 23 ∧ j = 6) ∨ (q = 23 ∧ j = 7) ∨ (q = 23 ∧ j = 8) ∨ q = (a1 + 7) ∨ (q = a1 ∧ j = 12) ∨ q = (a1 + 8) ∨ (q = a1 ∧ j = 14)) (V := fun q j => (q = 23 ∧ j = 5) ∨ (q = 23 ∧ j = 6) ∨ (q = 23 ∧ j = 7) ∨ (q = 23 ∧ j = 8)) FI20 (fun q j h => (h.elim (fun h => (Or.inr (Or.inr (Or.inl h)))) (fun h => (h.elim (fun h => (Or.inr (Or.inr (Or.inr (Or.inl h))))) (fun h => (h.elim (fun h => (Or.inr (Or.inr (Or.inr (Or.inr (Or.inl h)))))) (fun h => (Or.inr (Or.inr (Or.inr (Or.inr (Or.inr (Or.inl h))))))))))))) g56
          have FJ59 := gc_frc (W := fun q j => (q = 23 ∧ j = 9)) (V := fun q j => (q = 23 ∧ j = 9)) FJ21 (fun q j h => h) k56
          have t60 := (g56 23 1).resolve_left (fun h => h.elim (fun h => absurd h.2 (by decide)) (fun h => h.elim (fun h => absurd h.2 (by decide)) (fun h => h.elim (fun h => absurd h.2 (by decide)) (fun h => absurd h.2 (by decide)))))
          have t61 := (g56 a1 12).resolve_left (fun h => h.elim (fun h => absurd h.2 (by decide)) (fun h => h.elim (fun h => absurd h.2 (by decide)) (fun h => h.elim (fun h => absurd h.2 (by decide)) (fun h => absurd h.2 (by decide)))))
          have t62 := (g56 a1 14).resolve_left (fun h => h.elim (fun h => absurd h.2 (by decide)) (fun h => h.elim (fun h => absurd h.2 (by decide)) (fun h => h.elim (fun h => absurd h.2 (by decide)) (fun h => absurd h.2 (by decide)))))
          have t63 := (g56 39 2).resolve_left (fun h => h.elim (fun h => absurd h.2 (by decide)) (fun h => h.elim (fun h => absurd h.2 (by decide)) (fun h => h.elim (fun h => absurd h.2 (by decide)) (fun h => absurd h.2 (by decide)))))
          have f64 := (show 0 ≤ I58 23 5 ∧ I58 23 5 ≤ 1000 from gc_in hI58 R_23 rfl rfl)
          have f65 := (show 0 ≤ I58 23 6 ∧ I58 23 6 ≤ 1001 from gc_in hI58 R_23 rfl rfl)
          have f66 := (show 0 ≤ I58 23 7 ∧ I58 23 7 ≤ 125 from gc_in hI58 R_23 rfl rfl)
          have KLT_I58 : gc_LT I58 := q56.2.2
          have KTK_I58 : gc_TK I58 := And.intro V56_0 (And.intro V56_1 (And.intro V56_2 (And.intro V56_3 V56_4)))
          have t67 := gc_TK_mo KTK_I58
          clear V56_0 V56_1 V56_2 V56_3 V56_4
          refine gv_callV hD rfl (As := []) (st := []) rfl B_23 S_23 rfl (gc_lV6 hws rfl) (Nat.le_of_ble_eq_true rfl) (gz_Ev_mono (d := 2) (by decide) E56) ?_
          show gv_X _ _ (96, [(0, .inr (.inr (some 39))), (1, .inr (.inr (some a1))), (2, .inl v2_11), (3, .inl v3_22)], [], sh, gc_h sh I58 J59 A)
          refine gv_run 1 true hD (pc' := 97) (lv' := [(0, .inr (.inr (some 39))), (1, .inr (.inr (some a1))), (2, .inl v2_11), (3, .inl v3_22)]) (st' := [.inl v3_22]) (h' := gc_h sh I58 J59 A) (C := (True ∧ True)) rfl ⟨trivial, trivial⟩ ?_
          refine gv_if_eq (t := 111) hD rfl rfl ⟨by omega, by omega⟩ (fun c68 => ?_) (fun c68 => ?_)
          · show gv_X _ _ (111, [(0, .inr (.inr (some 39))), (1, .inr (.inr (some a1))), (2, .inl v2_11), (3, .inl v3_22)], [], sh, gc_h sh I58 J59 A)
            refine gv_run 2 true hD (pc' := 113) (lv' := [(0, .inr (.inr (some 39))), (1, .inr (.inr (some a1))), (2, .inl v2_11), (3, .inl v3_22)]) (st' := [.inr (.inr (some a1)), .inr (.inr (some 39))]) (h' := gc_h sh I58 J59 A) (C := ((True ∧ True) ∧ True)) rfl ⟨⟨trivial, trivial⟩, trivial⟩ ?_
            obtain ⟨r69, h69, E69, P69⟩ := d_X6_readGive (ws0 := ws0) (tb := tb) hws htb sh ro I58 J59 A hI58  t a1 hb h_a1 G_a1 h_t G_t   (by omega) (by omega) KLT_I58 KTK_I58
            obtain ⟨I70, J71, rfl, hI70, g69, k69, KLT_I70, KTK_I70, ⟨z69, rfl, q69⟩⟩ := P69
            have FI70 := gc_frc (W := fun q j => (q = 39 ∧ j = 3) ∨ (q = 39 ∧ j = 4) ∨ (q = 23 ∧ j = 5) ∨ (q = 23 ∧ j = 6) ∨ (q = 23 ∧ j = 7) ∨ (q = 23 ∧ j = 8) ∨ q = (a1 + 7) ∨ (q = a1 ∧ j = 12) ∨ q = (a1 + 8) ∨ (q = a1 ∧ j = 14)) (V := fun q j => (q = 39 ∧ j = 3) ∨ (q = 39 ∧ j = 4) ∨ (q = 23 ∧ j = 5) ∨ (q = 23 ∧ j = 6) ∨ (q = 23 ∧ j = 7) ∨ (q = 23 ∧ j = 8) ∨ q = (a1 + 8) ∨ (q = a1 ∧ j = 14)) FI58 (fun q j h => (h.elim (fun h => (Or.inl h)) (fun h => (h.elim (fun h => (Or.inr (Or.inl h))) (fun h => (h.elim (fun h => (Or.inr (Or.inr (Or.inl h)))) (fun h => (h.elim (fun h => (Or.inr (Or.inr (Or.inr (Or.inl h))))) (fun h => (h.elim (fun h => (Or.inr (Or.inr (Or.inr (Or.inr (Or.inl h)))))) (fun h => (h.elim (fun h => (Or.inr (Or.inr (Or.inr (Or.inr (Or.inr (Or.inl h))))))) (fun h => (h.elim (fun h => (Or.inr (Or.inr (Or.inr (Or.inr (Or.inr (Or.inr (Or.inr (Or.inr (Or.inl h)))))))))) (fun h => (Or.inr (Or.inr (Or.inr (Or.inr (Or.inr (Or.inr (Or.inr (Or.inr (Or.inr h)))))))))))))))))))))))) g69
            have FJ71 := gc_frc (W := fun q j => (q = 23 ∧ j = 9)) (V := fun q j => (q = 23 ∧ j = 9)) FJ59 (fun q j h => h) k69
            have t72 := (g69 23 1).resolve_left (fun h => h.elim (fun h => absurd h.2 (by decide)) (fun h => h.elim (fun h => absurd h.2 (by decide)) (fun h => h.elim (fun h => absurd h.2 (by decide)) (fun h => h.elim (fun h => absurd h.2 (by decide)) (fun h => h.elim (fun h => absurd h.2 (by decide)) (fun h => h.elim (fun h => absurd h.2 (by decide)) (fun h => h.elim (fun h => absurd h N_23__a1_8) (fun h => absurd h.2 (by decide)))))))))
            have t73 := (g69 a1 12).resolve_left (fun h => h.elim (fun h => absurd h.2 (by decide)) (fun h => h.elim (fun h => absurd h.2 (by decide)) (fun h => h.elim (fun h => absurd h.2 (by decide)) (fun h => h.elim (fun h => absurd h.2 (by decide)) (fun h => h.elim (fun h => absurd h.2 (by decide)) (fun h => h.elim (fun h => absurd h.2 (by decide)) (fun h => h.elim (fun h => absurd h N_a1__a1_8) (fun h => absurd h.2 (by decide)))))))))
            have t74 := (g69 39 2).resolve_left (fun h => h.elim (fun h => absurd h.2 (by decide)) (fun h => h.elim (fun h => absurd h.2 (by decide)) (fun h => h.elim (fun h => absurd h.2 (by decide)) (fun h => h.elim (fun h => absurd h.2 (by decide)) (fun h => h.elim (fun h => absurd h.2 (by decide)) (fun h => h.elim (fun h => absurd h.2 (by decide)) (fun h => h.elim (fun h => absurd h N_39__a1_8) (fun h => absurd h.2 (by decide)))))))))
            have f75 := (show 0 ≤ I70 23 5 ∧ I70 23 5 ≤ 1000 from gc_in hI70 R_23 rfl rfl)
            have f76 := (show 0 ≤ I70 23 6 ∧ I70 23 6 ≤ 1001 from gc_in hI70 R_23 rfl rfl)
            have f77 := (show 0 ≤ I70 23 7 ∧ I70 23 7 ≤ 125 from gc_in hI70 R_23 rfl rfl)
            have f78 := (show 0 ≤ I70 a1 14 ∧ I70 a1 14 ≤ 6 from gc_in hI70 R_a1 rfl rfl)
            have t79 := gc_TK_mo KTK_I70
            refine gv_callV hD rfl (As := [.inr (.inr (some a1))]) (st := []) rfl B_39 S_39 rfl (gc_lV6 hws rfl) (Nat.le_of_ble_eq_true rfl) (gz_Ev_mono (d := 4) (by decide) E69) ?_
            show gv_X _ _ (116, [(0, .inr (.inr (some 39))), (1, .inr (.inr (some a1))), (2, .inl v2_11), (3, .inl v3_22)], [.inl z69], sh, gc_h sh I70 J71 A)
            refine gv_if_ne (t := 121) hD rfl rfl ⟨by omega, by omega⟩ (fun c80 => ?_) (fun c80 => ?_)
            · show gv_X _ _ (121, [(0, .inr (.inr (some 39))), (1, .inr (.inr (some a1))), (2, .inl v2_11), (3, .inl v3_22)], [], sh, gc_h sh I70 J71 A)
              refine gv_pick [0, 1, 2] rfl ?_
              exact L121 I70 J71 hI70 FI70 FJ71 KLT_I70 KTK_I70 (by omega)
            · show gv_X _ _ (119, [(0, .inr (.inr (some 39))), (1, .inr (.inr (some a1))), (2, .inl v2_11), (3, .inl v3_22)], [], sh, gc_h sh I70 J71 A)
              refine gv_pick [] rfl ?_
              exact L119 I70 J71 hI70 FI70 FJ71 KLT_I70 KTK_I70 (by omega)
          · show gv_X _ _ (100, [(0, .inr (.inr (some 39))), (1, .inr (.inr (some a1))), (2, .inl v2_11), (3, .inl v3_22)], [], sh, gc_h sh I58 J59 A)
            refine gv_run 2 true hD (pc' := 102) (lv' := [(0, .inr (.inr (some 39))), (1, .inr (.inr (some a1))), (2, .inl v2_11), (3, .inl v3_22)]) (st' := [.inr (.inr (some a1)), .inr (.inr (some 39))]) (h' := gc_h sh I58 J59 A) (C := ((True ∧ True) ∧ True)) rfl ⟨⟨trivial, trivial⟩, trivial⟩ ?_
            obtain ⟨r81, h81, E81, P81⟩ := d_X6_readAgree (ws0 := ws0) (tb := tb) hws htb sh ro I58 J59 A hI58  t a1 hb h_a1 G_a1 h_t G_t   (by omega) (by omega) KLT_I58 KTK_I58
            obtain ⟨I82, J83, rfl, hI82, g81, k81, KLT_I82, KTK_I82, ⟨z81, rfl, q81⟩⟩ := P81
            have FI82 := gc_frc (W := fun q j => (q = 39 ∧ j = 3) ∨ (q = 39 ∧ j = 4) ∨ (q = 23 ∧ j = 5) ∨ (q = 23 ∧ j = 6) ∨ (q = 23 ∧ j = 7) ∨ (q = 23 ∧ j = 8) ∨ q = (a1 + 7) ∨ (q = a1 ∧ j = 12) ∨ q = (a1 + 8) ∨ (q = a1 ∧ j = 14)) (V := fun q j => (q = 39 ∧ j = 3) ∨ (q = 39 ∧ j = 4) ∨ (q = 23 ∧ j = 5) ∨ (q = 23 ∧ j = 6) ∨ (q = 23 ∧ j = 7) ∨ (q = 23 ∧ j = 8) ∨ q = (a1 + 7) ∨ (q = a1 ∧ j = 12)) FI58 (fun q j h => (h.elim (fun h => (Or.inl h)) (fun h => (h.elim (fun h => (Or.inr (Or.inl h))) (fun h => (h.elim (fun h => (Or.inr (Or.inr (Or.inl h)))) (fun h => (h.elim (fun h => (Or.inr (Or.inr (Or.inr (Or.inl h))))) (fun h => (h.elim (fun h => (Or.inr (Or.inr (Or.inr (Or.inr (Or.inl h)))))) (fun h => (h.elim (fun h => (Or.inr (Or.inr (Or.inr (Or.inr (Or.inr (Or.inl h))))))) (fun h => (h.elim (fun h => (Or.inr (Or.inr (Or.inr (Or.inr (Or.inr (Or.inr (Or.inl h)))))))) (fun h => (Or.inr (Or.inr (Or.inr (Or.inr (Or.inr (Or.inr (Or.inr (Or.inl h))))))))))))))))))))))) g81
            have FJ83 := gc_frc (W := fun q j => (q = 23 ∧ j = 9)) (V := fun q j => (q = 23 ∧ j = 9)) FJ59 (fun q j h => h) k81
            have t84 := (g81 23 1).resolve_left (fun h => h.elim (fun h => absurd h.2 (by decide)) (fun h => h.elim (fun h => absurd h.2 (by decide)) (fun h => h.elim (fun h => absurd h.2 (by decide)) (fun h => h.elim (fun h => absurd h.2 (by decide)) (fun h => h.elim (fun h => absurd h.2 (by decide)) (fun h => h.elim (fun h => absurd h.2 (by decide)) (fun h => h.elim (fun h => absurd h N_23__a1_7) (fun h => absurd h.2 (by decide)))))))))
            have t85 := (g81 a1 14).resolve_left (fun h => h.elim (fun h => absurd h.2 (by decide)) (fun h => h.elim (fun h => absurd h.2 (by decide)) (fun h => h.elim (fun h => absurd h.2 (by decide)) (fun h => h.elim (fun h => absurd h.2 (by decide)) (fun h => h.elim (fun h => absurd h.2 (by decide)) (fun h => h.elim (fun h => absurd h.2 (by decide)) (fun h => h.elim (fun h => absurd h N_a1__a1_7) (fun h => absurd h.2 (by decide)))))))))
            have t86 := (g81 39 2).resolve_left (fun h => h.elim (fun h => absurd h.2 (by decide)) (fun h => h.elim (fun h => absurd h.2 (by decide)) (fun h => h.elim (fun h => absurd h.2 (by decide)) (fun h => h.elim (fun h => absurd h.2 (by decide)) (fun h => h.elim (fun h => absurd h.2 (by decide)) (fun h => h.elim (fun h => absurd h.2 (by decide)) (fun h => h.elim (fun h => absurd h N_39__a1_7) (fun h => absurd h.2 (by decide)))))))))
            have f87 := (show 0 ≤ I82 23 5 ∧ I82 23 5 ≤ 1000 from gc_in hI82 R_23 rfl rfl)
            have f88 := (show 0 ≤ I82 23 6 ∧ I82 23 6 ≤ 1001 from gc_in hI82 R_23 rfl rfl)
            have f89 := (show 0 ≤ I82 23 7 ∧ I82 23 7 ≤ 125 from gc_in hI82 R_23 rfl rfl)
            have f90 := (show 0 ≤ I82 a1 12 ∧ I82 a1 12 ≤ 6 from gc_in hI82 R_a1 rfl rfl)
            have t91 := gc_TK_mo KTK_I82
            refine gv_callV hD rfl (As := [.inr (.inr (some a1))]) (st := []) rfl B_39 S_39 rfl (gc_lV6 hws rfl) (Nat.le_of_ble_eq_true rfl) (gz_Ev_mono (d := 4) (by decide) E81) ?_
            show gv_X _ _ (105, [(0, .inr (.inr (some 39))), (1, .inr (.inr (some a1))), (2, .inl v2_11), (3, .inl v3_22)], [.inl z81], sh, gc_h sh I82 J83 A)
            refine gv_if_eq (t := 119) hD rfl rfl ⟨by omega, by omega⟩ (fun c92 => ?_) (fun c92 => ?_)
            · show gv_X _ _ (119, [(0, .inr (.inr (some 39))), (1, .inr (.inr (some a1))), (2, .inl v2_11), (3, .inl v3_22)], [], sh, gc_h sh I82 J83 A)
              refine gv_pick [] rfl ?_
              exact L119 I82 J83 hI82 FI82 FJ83 KLT_I82 KTK_I82 (by omega)
            · show gv_X _ _ (108, [(0, .inr (.inr (some 39))), (1, .inr (.inr (some a1))), (2, .inl v2_11), (3, .inl v3_22)], [], sh, gc_h sh I82 J83 A)
              refine gv_run 1 true hD (pc' := 121) (lv' := [(0, .inr (.inr (some 39))), (1, .inr (.inr (some a1))), (2, .inl v2_11), (3, .inl v3_22)]) (st' := []) (h' := gc_h sh I82 J83 A) (C := (True ∧ True)) rfl ⟨trivial, trivial⟩ ?_
              refine gv_pick [0, 1, 2] rfl ?_
              exact L121 I82 J83 hI82 FI82 FJ83 KLT_I82 KTK_I82 (by omega)
        · show gv_X _ _ (76, [(0, .inr (.inr (some 39))), (1, .inr (.inr (some a1))), (2, .inl v2_11), (3, .inl v3_22)], [], sh, gc_h sh I20 J21 A)
          refine gv_run 3 true hD (pc' := 79) (lv' := [(0, .inr (.inr (some 39))), (1, .inr (.inr (some a1))), (2, .inl v2_11), (3, .inl v3_22)]) (st' := [.inr (.inr (some 39)), .inl 5, .inr (.inr (some 39))]) (h' := gc_h sh I20 J21 A) (C := (((True ∧ True) ∧ True) ∧ True)) rfl ⟨⟨⟨trivial, trivial⟩, trivial⟩, trivial⟩ ?_
          refine gv_get hD rfl rfl S_39 ⟨by decide, B_39⟩ (gc_hA S_39 rfl A_39_1) ?_
          show gv_X _ _ (82, [(0, .inr (.inr (some 39))), (1, .inr (.inr (some a1))), (2, .inl v2_11), (3, .inl v3_22)], [.inr (.inr (some 23)), .inl 5, .inr (.inr (some 39))], sh, gc_h sh I20 J21 A)
          have f93 := (show 0 ≤ I20 23 5 ∧ I20 23 5 ≤ 1000 from gc_in hI20 R_23 rfl rfl)
          refine gv_get hD rfl rfl S_23 ⟨by decide, B_23⟩ (gc_hI S_23 rfl) ?_
          show gv_X _ _ (85, [(0, .inr (.inr (some 39))), (1, .inr (.inr (some a1))), (2, .inl v2_11), (3, .inl v3_22)], [.inl (I20 23 5), .inl 5, .inr (.inr (some 39))], sh, gc_h sh I20 J21 A)
          obtain ⟨r94, h94, E94, P94⟩ := d_X6_wrong (ws0 := ws0) (tb := tb) hws htb sh ro I20 J21 A hI20  5 (I20 23 5) hb   ⟨by omega, by omega⟩ ⟨by omega, by omega⟩  
          obtain ⟨I95, J96, rfl, hI95, g94, k94, ⟨z94, rfl, q94⟩⟩ := P94
          have FI95 := gc_frc (W := fun q j => (q = 39 ∧ j = 3) ∨ (q = 39 ∧ j = 4) ∨ (q = 23 ∧ j = 5) ∨ (q = 23 ∧ j = 6) ∨ (q = 23 ∧ j = 7) ∨ (q = 23 ∧ j = 8) ∨ q = (a1 + 7) ∨ (q = a1 ∧ j = 12) ∨ q = (a1 + 8) ∨ (q = a1 ∧ j = 14)) (V := fun q j => (q = 39 ∧ j = 3) ∨ (q = 39 ∧ j = 4)) FI20 (fun q j h => (h.elim (fun h => (Or.inl h)) (fun h => (Or.inr (Or.inl h))))) g94
          have t97 := (g94 23 1).resolve_left (fun h => h.elim (fun h => absurd h.2 (by decide)) (fun h => absurd h.2 (by decide)))
          have t98 := (g94 23 5).resolve_left (fun h => h.elim (fun h => absurd h.2 (by decide)) (fun h => absurd h.2 (by decide)))
          have t99 := (g94 23 6).resolve_left (fun h => h.elim (fun h => absurd h.2 (by decide)) (fun h => absurd h.2 (by decide)))
          have t100 := (g94 23 7).resolve_left (fun h => h.elim (fun h => absurd h.2 (by decide)) (fun h => absurd h.2 (by decide)))
          have t101 := (g94 a1 12).resolve_left (fun h => h.elim (fun h => absurd h.2 (by decide)) (fun h => absurd h.2 (by decide)))
          have t102 := (g94 a1 14).resolve_left (fun h => h.elim (fun h => absurd h.2 (by decide)) (fun h => absurd h.2 (by decide)))
          have t103 := (g94 39 2).resolve_left (fun h => h.elim (fun h => absurd h.2 (by decide)) (fun h => absurd h.2 (by decide)))
          obtain rfl : J21 = J96 := funext fun q => funext fun j => ((k94 q j).resolve_left id).symm
          have KLT_I95 := gc_LT_fr KLT_I20 ((g94 23 5).resolve_left (fun h => h.elim (fun h => absurd h.2 (by decide)) (fun h => absurd h.2 (by decide)))) ((g94 23 6).resolve_left (fun h => h.elim (fun h => absurd h.2 (by decide)) (fun h => absurd h.2 (by decide)))) ((g94 23 7).resolve_left (fun h => h.elim (fun h => absurd h.2 (by decide)) (fun h => absurd h.2 (by decide)))) (fun k => (g94 24 k).resolve_left (fun h => h.elim (fun h => absurd h.1 (by decide)) (fun h => absurd h.1 (by decide))))
          have KTK_I95 := gc_TK_fr KTK_I20 ((g94 23 1).resolve_left (fun h => h.elim (fun h => absurd h.2 (by decide)) (fun h => absurd h.2 (by decide)))) ((g94 23 5).resolve_left (fun h => h.elim (fun h => absurd h.2 (by decide)) (fun h => absurd h.2 (by decide)))) ((g94 23 6).resolve_left (fun h => h.elim (fun h => absurd h.2 (by decide)) (fun h => absurd h.2 (by decide)))) ((g94 23 7).resolve_left (fun h => h.elim (fun h => absurd h.2 (by decide)) (fun h => absurd h.2 (by decide))))
          refine gv_callV hD rfl (As := [.inl 5, .inl (I20 23 5)]) (st := []) rfl B_39 S_39 rfl (gc_lV6 hws rfl) (Nat.le_of_ble_eq_true rfl) (gz_Ev_mono (d := 1) (by decide) E94) ?_
          show gv_X _ _ (88, [(0, .inr (.inr (some 39))), (1, .inr (.inr (some a1))), (2, .inl v2_11), (3, .inl v3_22)], [.inl z94], sh, gc_h sh I95 J21 A)
          exact gv_zret hD rfl (by omega) ⟨I95, J21, rfl, hI95, FI95, FJ21, KLT_I95, KTK_I95, ⟨_, rfl, by omega⟩⟩
      have L127 : ((I9 23 1 = I 23 1) ∧ (I 23 5 ≤ I9 23 5) ∧ (I9 a1 12 + I9 a1 14 ≤ 6) ∧ (I9 39 2 = (t : Int))) → gv_X (gc_E6 ws0 tb 4 (yX6_readSaids, cX6_readSaids, 4, (some .boolean)) kX6_readSaids) (gv_Q cX6_readSaids (some .boolean) sh (fun r h' => (∃ (I' : gr_I) (J' : gr_J), h' = gc_h sh I' J' A ∧ gc_Inv ro I' ∧ (∀ q j : Nat, ((q = 39 ∧ j = 3) ∨ (q = 39 ∧ j = 4) ∨ (q = 23 ∧ j = 5) ∨ (q = 23 ∧ j = 6) ∨ (q = 23 ∧ j = 7) ∨ (q = 23 ∧ j = 8) ∨ q = (a1 + 7) ∨ (q = a1 ∧ j = 12) ∨ q = (a1 + 8) ∨ (q = a1 ∧ j = 14)) ∨ I' q j = I q j) ∧ (∀ q j : Nat, ((q = 23 ∧ j = 9)) ∨ J' q j = J q j) ∧ gc_LT I' ∧ gc_TK I' ∧ (∃ z : Int, r = some (.inl z) ∧ 0 ≤ z ∧ z ≤ 1 ∧ (I' 23 1 = I 23 1) ∧ (I 23 5 ≤ I' 23 5))))) (127, [], [], sh, gc_h sh I9 J10 A) := by
        intro m_104
        obtain ⟨e0_104, e1_104, e2_104, e3_104⟩ := m_104
        have t105 := gc_TK_mo KTK_I9
        have f106 := (show 0 ≤ I9 23 1 ∧ I9 23 1 ≤ 1000 from gc_in hI9 R_23 rfl rfl)
        have f107 := (show 0 ≤ I9 23 5 ∧ I9 23 5 ≤ 1000 from gc_in hI9 R_23 rfl rfl)
        have f108 := (show 0 ≤ I9 23 6 ∧ I9 23 6 ≤ 1001 from gc_in hI9 R_23 rfl rfl)
        have f109 := (show 0 ≤ I9 23 7 ∧ I9 23 7 ≤ 125 from gc_in hI9 R_23 rfl rfl)
        have f110 := (show 0 ≤ I9 a1 12 ∧ I9 a1 12 ≤ 6 from gc_in hI9 R_a1 rfl rfl)
        have f111 := (show 0 ≤ I9 a1 14 ∧ I9 a1 14 ≤ 6 from gc_in hI9 R_a1 rfl rfl)
        have f112 := (show (-1) ≤ I9 39 2 ∧ I9 39 2 ≤ 999999 from gc_in hI9 R_39 rfl rfl)
        refine gv_run 1 true hD (pc' := 128) (lv' := []) (st' := [.inl 1]) (h' := gc_h sh I9 J10 A) (C := (True ∧ True)) rfl ⟨trivial, trivial⟩ ?_
        exact gv_zret hD rfl (by omega) ⟨I9, J10, rfl, hI9, FI9, FJ10, KLT_I9, KTK_I9, ⟨_, rfl, by omega⟩⟩
      refine gv_run 2 true hD (pc' := 5) (lv' := [(0, .inr (.inr (some 39))), (1, .inr (.inr (some a1))), (2, .inl v2_11)]) (st' := [.inl 6, .inl v2_11]) (h' := gc_h sh I9 J10 A) (C := ((True ∧ True) ∧ True)) rfl ⟨⟨trivial, trivial⟩, trivial⟩ ?_
      refine gv_icmp_gt (t := 127) hD rfl rfl ⟨⟨by omega, by omega⟩, ⟨by omega, by omega⟩⟩ (fun c113 => ?_) (fun c113 => ?_)
      · show gv_X _ _ (127, [(0, .inr (.inr (some 39))), (1, .inr (.inr (some a1))), (2, .inl v2_11)], [], sh, gc_h sh I9 J10 A)
        refine gv_pick [] rfl ?_
        exact L127 (by omega)
      · show gv_X _ _ (8, [(0, .inr (.inr (some 39))), (1, .inr (.inr (some a1))), (2, .inl v2_11)], [], sh, gc_h sh I9 J10 A)
        refine gv_run 1 true hD (pc' := 9) (lv' := [(0, .inr (.inr (some 39))), (1, .inr (.inr (some a1))), (2, .inl v2_11)]) (st' := [.inr (.inr (some 39))]) (h' := gc_h sh I9 J10 A) (C := (True ∧ True)) rfl ⟨trivial, trivial⟩ ?_
        refine gv_get hD rfl rfl S_39 ⟨by decide, B_39⟩ (gc_hA S_39 rfl A_39_1) ?_
        show gv_X _ _ (12, [(0, .inr (.inr (some 39))), (1, .inr (.inr (some a1))), (2, .inl v2_11)], [.inr (.inr (some 23))], sh, gc_h sh I9 J10 A)
        have f114 := (show 0 ≤ I9 23 7 ∧ I9 23 7 ≤ 125 from gc_in hI9 R_23 rfl rfl)
        refine gv_get hD rfl rfl S_23 ⟨by decide, B_23⟩ (gc_hI S_23 rfl) ?_
        show gv_X _ _ (15, [(0, .inr (.inr (some 39))), (1, .inr (.inr (some a1))), (2, .inl v2_11)], [.inl (I9 23 7)], sh, gc_h sh I9 J10 A)
        refine gv_run 1 true hD (pc' := 17) (lv' := [(0, .inr (.inr (some 39))), (1, .inr (.inr (some a1))), (2, .inl v2_11)]) (st' := [.inl 44, .inl (I9 23 7)]) (h' := gc_h sh I9 J10 A) (C := (True ∧ True)) rfl ⟨trivial, trivial⟩ ?_
        refine gv_icmp_ne (t := 127) hD rfl rfl ⟨⟨by omega, by omega⟩, ⟨by omega, by omega⟩⟩ (fun c115 => ?_) (fun c115 => ?_)
        · show gv_X _ _ (127, [(0, .inr (.inr (some 39))), (1, .inr (.inr (some a1))), (2, .inl v2_11)], [], sh, gc_h sh I9 J10 A)
          refine gv_pick [] rfl ?_
          exact L127 (by omega)
        · show gv_X _ _ (20, [(0, .inr (.inr (some 39))), (1, .inr (.inr (some a1))), (2, .inl v2_11)], [], sh, gc_h sh I9 J10 A)
          refine gv_run 1 true hD (pc' := 21) (lv' := [(0, .inr (.inr (some 39))), (1, .inr (.inr (some a1))), (2, .inl v2_11)]) (st' := [.inr (.inr (some 39))]) (h' := gc_h sh I9 J10 A) (C := (True ∧ True)) rfl ⟨trivial, trivial⟩ ?_
          refine gv_get hD rfl rfl S_39 ⟨by decide, B_39⟩ (gc_hA S_39 rfl A_39_1) ?_
          show gv_X _ _ (24, [(0, .inr (.inr (some 39))), (1, .inr (.inr (some a1))), (2, .inl v2_11)], [.inr (.inr (some 23))], sh, gc_h sh I9 J10 A)
          have t117 := gc_TK_nx KTK_I9 (by omega)
          obtain ⟨r116, h116, E116, P116⟩ := d_X9_advance (ws0 := ws0) (tb := tb) hws htb sh ro I9 J10 A hI9 23  (gc_b23 hb)    (by omega) 
          obtain ⟨I118, J119, rfl, hI118, g116, k116, ⟨rfl, V116_0, V116_1, V116_2, V116_3, V116_4, q116⟩⟩ := P116
          have FI118 := gc_frc (W := fun q j => (q = 39 ∧ j = 3) ∨ (q = 39 ∧ j = 4) ∨ (q = 23 ∧ j = 5) ∨ (q = 23 ∧ j = 6) ∨ (q = 23 ∧ j = 7) ∨ (q = 23 ∧ j = 8) ∨ q = (a1 + 7) ∨ (q = a1 ∧ j = 12) ∨ q = (a1 + 8) ∨ (q = a1 ∧ j = 14)) (V := fun q j => (q = 23 ∧ j = 5) ∨ (q = 23 ∧ j = 6) ∨ (q = 23 ∧ j = 7) ∨ (q = 23 ∧ j = 8)) FI9 (fun q j h => (h.elim (fun h => (Or.inr (Or.inr (Or.inl h)))) (fun h => (h.elim (fun h => (Or.inr (Or.inr (Or.inr (Or.inl h))))) (fun h => (h.elim (fun h => (Or.inr (Or.inr (Or.inr (Or.inr (Or.inl h)))))) (fun h => (Or.inr (Or.inr (Or.inr (Or.inr (Or.inr (Or.inl h))))))))))))) g116
          have FJ119 := gc_frc (W := fun q j => (q = 23 ∧ j = 9)) (V := fun q j => (q = 23 ∧ j = 9)) FJ10 (fun q j h => h) k116
          have t120 := (g116 23 1).resolve_left (fun h => h.elim (fun h => absurd h.2 (by decide)) (fun h => h.elim (fun h => absurd h.2 (by decide)) (fun h => h.elim (fun h => absurd h.2 (by decide)) (fun h => absurd h.2 (by decide)))))
          have t121 := (g116 a1 12).resolve_left (fun h => h.elim (fun h => absurd h.2 (by decide)) (fun h => h.elim (fun h => absurd h.2 (by decide)) (fun h => h.elim (fun h => absurd h.2 (by decide)) (fun h => absurd h.2 (by decide)))))
          have t122 := (g116 a1 14).resolve_left (fun h => h.elim (fun h => absurd h.2 (by decide)) (fun h => h.elim (fun h => absurd h.2 (by decide)) (fun h => h.elim (fun h => absurd h.2 (by decide)) (fun h => absurd h.2 (by decide)))))
          have t123 := (g116 39 2).resolve_left (fun h => h.elim (fun h => absurd h.2 (by decide)) (fun h => h.elim (fun h => absurd h.2 (by decide)) (fun h => h.elim (fun h => absurd h.2 (by decide)) (fun h => absurd h.2 (by decide)))))
          have f124 := (show 0 ≤ I118 23 5 ∧ I118 23 5 ≤ 1000 from gc_in hI118 R_23 rfl rfl)
          have f125 := (show 0 ≤ I118 23 6 ∧ I118 23 6 ≤ 1001 from gc_in hI118 R_23 rfl rfl)
          have f126 := (show 0 ≤ I118 23 7 ∧ I118 23 7 ≤ 125 from gc_in hI118 R_23 rfl rfl)
          have KLT_I118 : gc_LT I118 := q116.2.2
          have KTK_I118 : gc_TK I118 := And.intro V116_0 (And.intro V116_1 (And.intro V116_2 (And.intro V116_3 V116_4)))
          have t127 := gc_TK_mo KTK_I118
          clear V116_0 V116_1 V116_2 V116_3 V116_4
          refine gv_callV hD rfl (As := []) (st := []) rfl B_23 S_23 rfl (gc_lV6 hws rfl) (Nat.le_of_ble_eq_true rfl) (gz_Ev_mono (d := 2) (by decide) E116) ?_
          show gv_X _ _ (27, [(0, .inr (.inr (some 39))), (1, .inr (.inr (some a1))), (2, .inl v2_11)], [], sh, gc_h sh I118 J119 A)
          refine gv_run 2 true hD (pc' := 31) (lv' := [(0, .inr (.inr (some 39))), (1, .inr (.inr (some a1))), (2, .inl v2_11)]) (st' := [.inr (.inl (418347378021)), .inr (.inr (some 39))]) (h' := gc_h sh I118 J119 A) (C := ((True ∧ True) ∧ True)) rfl ⟨⟨trivial, trivial⟩, trivial⟩ ?_
          obtain ⟨r128, h128, E128, P128⟩ := d_X6_isWord (ws0 := ws0) (tb := tb) hws htb sh ro I118 J119 A hI118  (418347378021) hb     
          obtain ⟨rfl, ⟨z128, rfl, q128⟩⟩ := P128
          refine gv_callV hD rfl (As := [.inr (.inl (418347378021))]) (st := []) rfl B_39 S_39 rfl (gc_lV6 hws rfl) (Nat.le_of_ble_eq_true rfl) (gz_Ev_mono (d := 1) (by decide) E128) ?_
          show gv_X _ _ (34, [(0, .inr (.inr (some 39))), (1, .inr (.inr (some a1))), (2, .inl v2_11)], [.inl z128], sh, gc_h sh I118 J119 A)
          refine gv_run 2 true hD (pc' := 36) (lv' := [(3, .inl z128), (0, .inr (.inr (some 39))), (1, .inr (.inr (some a1))), (2, .inl v2_11)]) (st' := [.inl z128]) (h' := gc_h sh I118 J119 A) (C := ((True ∧ True) ∧ True)) rfl ⟨⟨trivial, trivial⟩, trivial⟩ ?_
          refine gv_if_ne (t := 62) hD rfl rfl ⟨by omega, by omega⟩ (fun c129 => ?_) (fun c129 => ?_)
          · show gv_X _ _ (62, [(3, .inl z128), (0, .inr (.inr (some 39))), (1, .inr (.inr (some a1))), (2, .inl v2_11)], [], sh, gc_h sh I118 J119 A)
            refine gv_pick [1, 2, 3, 0] rfl ?_
            exact L62 I118 J119 z128 hI118 FI118 FJ119 KLT_I118 KTK_I118 (by omega)
          · show gv_X _ _ (39, [(3, .inl z128), (0, .inr (.inr (some 39))), (1, .inr (.inr (some a1))), (2, .inl v2_11)], [], sh, gc_h sh I118 J119 A)
            refine gv_run 2 true hD (pc' := 43) (lv' := [(3, .inl z128), (0, .inr (.inr (some 39))), (1, .inr (.inr (some a1))), (2, .inl v2_11)]) (st' := [.inr (.inl (1734964837)), .inr (.inr (some 39))]) (h' := gc_h sh I118 J119 A) (C := ((True ∧ True) ∧ True)) rfl ⟨⟨trivial, trivial⟩, trivial⟩ ?_
            obtain ⟨r130, h130, E130, P130⟩ := d_X6_isWord (ws0 := ws0) (tb := tb) hws htb sh ro I118 J119 A hI118  (1734964837) hb     
            obtain ⟨rfl, ⟨z130, rfl, q130⟩⟩ := P130
            refine gv_callV hD rfl (As := [.inr (.inl (1734964837))]) (st := []) rfl B_39 S_39 rfl (gc_lV6 hws rfl) (Nat.le_of_ble_eq_true rfl) (gz_Ev_mono (d := 1) (by decide) E130) ?_
            show gv_X _ _ (46, [(3, .inl z128), (0, .inr (.inr (some 39))), (1, .inr (.inr (some a1))), (2, .inl v2_11)], [.inl z130], sh, gc_h sh I118 J119 A)
            refine gv_if_ne (t := 62) hD rfl rfl ⟨by omega, by omega⟩ (fun c131 => ?_) (fun c131 => ?_)
            · show gv_X _ _ (62, [(3, .inl z128), (0, .inr (.inr (some 39))), (1, .inr (.inr (some a1))), (2, .inl v2_11)], [], sh, gc_h sh I118 J119 A)
              refine gv_pick [1, 2, 3, 0] rfl ?_
              exact L62 I118 J119 z128 hI118 FI118 FJ119 KLT_I118 KTK_I118 (by omega)
            · show gv_X _ _ (49, [(3, .inl z128), (0, .inr (.inr (some 39))), (1, .inr (.inr (some a1))), (2, .inl v2_11)], [], sh, gc_h sh I118 J119 A)
              refine gv_run 3 true hD (pc' := 52) (lv' := [(3, .inl z128), (0, .inr (.inr (some 39))), (1, .inr (.inr (some a1))), (2, .inl v2_11)]) (st' := [.inr (.inr (some 39)), .inl 1, .inr (.inr (some 39))]) (h' := gc_h sh I118 J119 A) (C := (((True ∧ True) ∧ True) ∧ True)) rfl ⟨⟨⟨trivial, trivial⟩, trivial⟩, trivial⟩ ?_
              refine gv_get hD rfl rfl S_39 ⟨by decide, B_39⟩ (gc_hA S_39 rfl A_39_1) ?_
              show gv_X _ _ (55, [(3, .inl z128), (0, .inr (.inr (some 39))), (1, .inr (.inr (some a1))), (2, .inl v2_11)], [.inr (.inr (some 23)), .inl 1, .inr (.inr (some 39))], sh, gc_h sh I118 J119 A)
              have f132 := (show 0 ≤ I118 23 5 ∧ I118 23 5 ≤ 1000 from gc_in hI118 R_23 rfl rfl)
              refine gv_get hD rfl rfl S_23 ⟨by decide, B_23⟩ (gc_hI S_23 rfl) ?_
              show gv_X _ _ (58, [(3, .inl z128), (0, .inr (.inr (some 39))), (1, .inr (.inr (some a1))), (2, .inl v2_11)], [.inl (I118 23 5), .inl 1, .inr (.inr (some 39))], sh, gc_h sh I118 J119 A)
              obtain ⟨r133, h133, E133, P133⟩ := d_X6_wrong (ws0 := ws0) (tb := tb) hws htb sh ro I118 J119 A hI118  1 (I118 23 5) hb   ⟨by omega, by omega⟩ ⟨by omega, by omega⟩  
              obtain ⟨I134, J135, rfl, hI134, g133, k133, ⟨z133, rfl, q133⟩⟩ := P133
              have FI134 := gc_frc (W := fun q j => (q = 39 ∧ j = 3) ∨ (q = 39 ∧ j = 4) ∨ (q = 23 ∧ j = 5) ∨ (q = 23 ∧ j = 6) ∨ (q = 23 ∧ j = 7) ∨ (q = 23 ∧ j = 8) ∨ q = (a1 + 7) ∨ (q = a1 ∧ j = 12) ∨ q = (a1 + 8) ∨ (q = a1 ∧ j = 14)) (V := fun q j => (q = 39 ∧ j = 3) ∨ (q = 39 ∧ j = 4)) FI118 (fun q j h => (h.elim (fun h => (Or.inl h)) (fun h => (Or.inr (Or.inl h))))) g133
              have t136 := (g133 23 1).resolve_left (fun h => h.elim (fun h => absurd h.2 (by decide)) (fun h => absurd h.2 (by decide)))
              have t137 := (g133 23 5).resolve_left (fun h => h.elim (fun h => absurd h.2 (by decide)) (fun h => absurd h.2 (by decide)))
              have t138 := (g133 23 6).resolve_left (fun h => h.elim (fun h => absurd h.2 (by decide)) (fun h => absurd h.2 (by decide)))
              have t139 := (g133 23 7).resolve_left (fun h => h.elim (fun h => absurd h.2 (by decide)) (fun h => absurd h.2 (by decide)))
              have t140 := (g133 a1 12).resolve_left (fun h => h.elim (fun h => absurd h.2 (by decide)) (fun h => absurd h.2 (by decide)))
              have t141 := (g133 a1 14).resolve_left (fun h => h.elim (fun h => absurd h.2 (by decide)) (fun h => absurd h.2 (by decide)))
              have t142 := (g133 39 2).resolve_left (fun h => h.elim (fun h => absurd h.2 (by decide)) (fun h => absurd h.2 (by decide)))
              obtain rfl : J119 = J135 := funext fun q => funext fun j => ((k133 q j).resolve_left id).symm
              have KLT_I134 := gc_LT_fr KLT_I118 ((g133 23 5).resolve_left (fun h => h.elim (fun h => absurd h.2 (by decide)) (fun h => absurd h.2 (by decide)))) ((g133 23 6).resolve_left (fun h => h.elim (fun h => absurd h.2 (by decide)) (fun h => absurd h.2 (by decide)))) ((g133 23 7).resolve_left (fun h => h.elim (fun h => absurd h.2 (by decide)) (fun h => absurd h.2 (by decide)))) (fun k => (g133 24 k).resolve_left (fun h => h.elim (fun h => absurd h.1 (by decide)) (fun h => absurd h.1 (by decide))))
              have KTK_I134 := gc_TK_fr KTK_I118 ((g133 23 1).resolve_left (fun h => h.elim (fun h => absurd h.2 (by decide)) (fun h => absurd h.2 (by decide)))) ((g133 23 5).resolve_left (fun h => h.elim (fun h => absurd h.2 (by decide)) (fun h => absurd h.2 (by decide)))) ((g133 23 6).resolve_left (fun h => h.elim (fun h => absurd h.2 (by decide)) (fun h => absurd h.2 (by decide)))) ((g133 23 7).resolve_left (fun h => h.elim (fun h => absurd h.2 (by decide)) (fun h => absurd h.2 (by decide))))
              refine gv_callV hD rfl (As := [.inl 1, .inl (I118 23 5)]) (st := []) rfl B_39 S_39 rfl (gc_lV6 hws rfl) (Nat.le_of_ble_eq_true rfl) (gz_Ev_mono (d := 1) (by decide) E133) ?_
              show gv_X _ _ (61, [(3, .inl z128), (0, .inr (.inr (some 39))), (1, .inr (.inr (some a1))), (2, .inl v2_11)], [.inl z133], sh, gc_h sh I134 J119 A)
              exact gv_zret hD rfl (by omega) ⟨I134, J119, rfl, hI134, FI134, FJ119, KLT_I134, KTK_I134, ⟨_, rfl, by omega⟩⟩
  refine gv_run 2 true hD (pc' := 2) (lv' := [(2, .inl 0), (0, .inr (.inr (some 39))), (1, .inr (.inr (some a1)))]) (st' := []) (h' := gc_h sh I J A) (C := ((True ∧ True) ∧ True)) rfl ⟨⟨trivial, trivial⟩, trivial⟩ ?_
  refine gv_pick [1, 2, 0] rfl ?_
  exact L2 _ I J 0 (Nat.lt_succ_self _) hI FI FJ KLT_I KTK_I (by omega)
