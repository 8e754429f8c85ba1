set_option maxHeartbeats 4000000 in
set_option maxRecDepth 100000 in
theorem d_X6_readValues {ws0 : List Cond} {tb : String → gz_T} (hws : gc_Ws ws0) (htb : gc_tbs tb) (sh : gz_Sh) (ro : Nat → Nat) (I : gr_I) (J : gr_J) (A : gc_A) (hI : gc_Inv ro I) (t : Nat) (a1 : Int) (hb : gc_Base sh ro A) (h_t : gc_isTongue sh ro A t) (G_t : 144 ≤ t) (ha1 : 0 ≤ a1 ∧ a1 ≤ 1) (x0 : I 23 5 ≤ I 23 6) (x1 : I 23 7 = 5 ∨ I 23 6 ≤ I 23 1) (x2 : I 23 5 ≤ I 23 1) (x3 : I 23 7 = 4 ∨ (I 23 5 < I 23 6 ∧ I 23 5 < I 23 1)) (x4 : I 23 7 = 3 → 2 ≤ I 23 6 - I 23 5 ∧ I 23 6 - I 23 5 ≤ 14) (x5 : I 39 2 = (t : Int)) (KLT_I : gc_LT I) : ∃ r h', gz_Ev ws0 tb 3 (yX6_readValues, cX6_readValues, 5, (some .boolean)) [.inr (.inr (some 39)), .inl a1] sh (gc_h sh I J A) r sh h' 0 0 ∧ (∃ (I' : gr_I) (J' : gr_J), h' = gc_h sh I' J' A ∧ gc_Inv ro I' ∧ (∀ q j : Nat, ((q = 39 ∧ j = 3) ∨ (q = 39 ∧ j = 4) ∨ (q = 23 ∧ j = 5) ∨ (q = 23 ∧ j = 6) ∨ (q = 23 ∧ j = 7) ∨ (q = 23 ∧ j = 8) ∨ (q = 39 ∧ j = 6)) ∨ I' q j = I q j) ∧ (∀ q j : Nat, ((q = 23 ∧ j = 9)) ∨ J' q j = J q j) ∧ gc_LT I' ∧ (∃ z : Int, r = some (.inl z) ∧ 0 ≤ z ∧ z ≤ 1 ∧ (I' 23 5 ≤ I' 23 6) ∧ (I' 23 7 = 5 ∨ I' 23 6 ≤ I' 23 1) ∧ (I' 23 5 ≤ I' 23 1) ∧ (I' 23 7 = 4 ∨ (I' 23 5 < I' 23 6 ∧ I' 23 5 < I' 23 1)) ∧ (I' 23 7 = 3 → 2 ≤ I' 23 6 - I' 23 5 ∧ I' 23 6 - I' 23 5 ≤ 14) ∧ (I' 23 1 = I 23 1) ∧ (I 23 5 ≤ I' 23 5))) := by
  have FI : ∀ q j : Nat, ((q = 39 ∧ j = 3) ∨ (q = 39 ∧ j = 4) ∨ (q = 23 ∧ j = 5) ∨ (q = 23 ∧ j = 6) ∨ (q = 23 ∧ j = 7) ∨ (q = 23 ∧ j = 8) ∨ (q = 39 ∧ j = 6)) ∨ I q j = I q j := fun _ _ => Or.inr rfl
  have FJ : ∀ q j : Nat, ((q = 23 ∧ j = 9)) ∨ J q j = J q j := fun _ _ => Or.inr rfl
  have A_39_1 : A 39 1 = some 23 := gc_bA hb rfl
  have B_23 : 23 < 1000000 := by decide
  have B_39 : 39 < 1000000 := by decide
  have R_23 : ro 23 = 3 := gc_bR hb (by decide) rfl
  have R_39 : ro 39 = 42 := gc_bR hb (by decide) rfl
  have S_23 : sh[23]? = some (false, 9, 10) := gc_bS hb rfl
  have S_39 : sh[39]? = some (false, 6, 19) := gc_bS hb rfl
  obtain ⟨S_t, R_t, B_t, A_t_0, h_t_1, A_t_1, h_t_3, A_t_2, S_t_5, R_t_5, B_t_5, A_t_3, S_t_6, R_t_6, B_t_6, A_t_4, h_t_7, A_t_5, S_t_9, R_t_9, B_t_9, A_t_7, S_t_10, R_t_10, B_t_10, A_t_8, h_t_11, A_t_9, S_t_13, R_t_13, B_t_13, A_t_10, S_t_14, R_t_14, B_t_14, A_t_12, S_t_15, R_t_15, B_t_15, A_t_14, S_t_16, R_t_16, B_t_16, A_t_15, h_t_17⟩ := id h_t
  obtain ⟨S_t_1, R_t_1, B_t_1, A_t_1_0, S_t_1_1, R_t_1_1, B_t_1_1, Q0_t_1, Q1_t_1, Q2_t_1⟩ := id h_t_1
  obtain ⟨S_t_3, R_t_3, B_t_3, A_t_3_0, S_t_3_1, R_t_3_1, B_t_3_1, Q0_t_3, Q1_t_3, Q2_t_3⟩ := id h_t_3
  obtain ⟨S_t_7, R_t_7, B_t_7, A_t_7_0, S_t_7_1, R_t_7_1, B_t_7_1, Q0_t_7, Q1_t_7, Q2_t_7⟩ := id h_t_7
  obtain ⟨S_t_11, R_t_11, B_t_11, A_t_11_0, S_t_11_1, R_t_11_1, B_t_11_1, Q0_t_11, Q1_t_11, Q2_t_11⟩ := id h_t_11
  obtain ⟨S_t_17, R_t_17, B_t_17, A_t_17_0, S_20, R_20, B_20, A_t_17_1, S_t_17_1, R_t_17_1, B_t_17_1, A_t_17_2, S_t_17_2, R_t_17_2, B_t_17_2, A_t_17_3, S_t_17_3, R_t_17_3, B_t_17_3, A_t_17_4, S_t_17_4, R_t_17_4, B_t_17_4, A_t_17_5, S_t_17_5, R_t_17_5, B_t_17_5, S_t_17_6, R_t_17_6, B_t_17_6, S_t_17_7, R_t_17_7, B_t_17_7⟩ := id h_t_17
  have hD : gv_D (gc_E6 ws0 tb 2 (yX6_readValues, cX6_readValues, 5, (some .boolean)) kX6_readValues) := gq_ok oX6_readValues
  refine gc_ev6 (d := 2) (l := kX6_readValues) (Po := fun r h' => (∃ (I' : gr_I) (J' : gr_J), h' = gc_h sh I' J' A ∧ gc_Inv ro I' ∧ (∀ q j : Nat, ((q = 39 ∧ j = 3) ∨ (q = 39 ∧ j = 4) ∨ (q = 23 ∧ j = 5) ∨ (q = 23 ∧ j = 6) ∨ (q = 23 ∧ j = 7) ∨ (q = 23 ∧ j = 8) ∨ (q = 39 ∧ j = 6)) ∨ I' q j = I q j) ∧ (∀ q j : Nat, ((q = 23 ∧ j = 9)) ∨ J' q j = J q j) ∧ gc_LT I' ∧ (∃ z : Int, r = some (.inl z) ∧ 0 ≤ z ∧ z ≤ 1 ∧ (I' 23 5 ≤ I' 23 6) ∧ (I' 23 7 = 5 ∨ I' 23 6 ≤ I' 23 1) ∧ (I' 23 5 ≤ I' 23 1) ∧ (I' 23 7 = 4 ∨ (I' 23 5 < I' 23 6 ∧ I' 23 5 < I' 23 1)) ∧ (I' 23 7 = 3 → 2 ≤ I' 23 6 - I' 23 5 ∧ I' 23 6 - I' 23 5 ≤ 14) ∧ (I' 23 1 = I 23 1) ∧ (I 23 5 ≤ I' 23 5)))) htb rfl (Nat.le_of_ble_eq_true rfl) ?_
  have f1 := (show 0 ≤ I 23 1 ∧ I 23 1 ≤ 1000 from gc_in hI R_23 rfl rfl)
  have f2 := (show 0 ≤ I 23 5 ∧ I 23 5 ≤ 1000 from gc_in hI R_23 rfl rfl)
  have f3 := (show 0 ≤ I 23 6 ∧ I 23 6 ≤ 1001 from gc_in hI R_23 rfl rfl)
  have f4 := (show 0 ≤ I 23 7 ∧ I 23 7 ≤ 125 from gc_in hI R_23 rfl rfl)
  have f5 := (show 0 ≤ I (t + 3) 1 ∧ I (t + 3) 1 ≤ 48 from gc_in hI R_t_3 rfl rfl)
  have f6 := (show (-1) ≤ I 39 2 ∧ I 39 2 ≤ 999999 from gc_in hI R_39 rfl rfl)
  have L7 : ∀ (n9 : Nat) (I7 : gr_I) (J8 : gr_J) (v2_9 : Int), (10 - v2_9).toNat < n9 → gc_Inv ro I7 → (∀ q j : Nat, ((q = 39 ∧ j = 3) ∨ (q = 39 ∧ j = 4) ∨ (q = 23 ∧ j = 5) ∨ (q = 23 ∧ j = 6) ∨ (q = 23 ∧ j = 7) ∨ (q = 23 ∧ j = 8) ∨ (q = 39 ∧ j = 6)) ∨ I7 q j = I q j) → (∀ q j : Nat, ((q = 23 ∧ j = 9)) ∨ J8 q j = J q j) → gc_LT I7 → ((0 ≤ a1 ∧ a1 ≤ 1) ∧ (0 ≤ v2_9 ∧ v2_9 ≤ 9) ∧ (I7 23 5 ≤ I7 23 6) ∧ (I7 23 7 = 5 ∨ I7 23 6 ≤ I7 23 1) ∧ (I7 23 5 ≤ I7 23 1) ∧ (I7 23 7 = 4 ∨ (I7 23 5 < I7 23 6 ∧ I7 23 5 < I7 23 1)) ∧ (I7 23 7 = 3 → 2 ≤ I7 23 6 - I7 23 5 ∧ I7 23 6 - I7 23 5 ≤ 14) ∧ (I7 23 1 = I 23 1) ∧ (I 23 5 ≤ I7 23 5) ∧ (I7 39 2 = (t : Int))) → gv_X (gc_E6 ws0 tb 2 (yX6_readValues, cX6_readValues, 5, (some .boolean)) kX6_readValues) (gv_Q cX6_readValues (some .boolean) sh (fun r h' => (∃ (I' : gr_I) (J' : gr_J), h' = gc_h sh I' J' A ∧ gc_Inv ro I' ∧ (∀ q j : Nat, ((q = 39 ∧ j = 3) ∨ (q = 39 ∧ j = 4) ∨ (q = 23 ∧ j = 5) ∨ (q = 23 ∧ j = 6) ∨ (q = 23 ∧ j = 7) ∨ (q = 23 ∧ j = 8) ∨ (q = 39 ∧ j = 6)) ∨ I' q j = I q j) ∧ (∀ q j : Nat, ((q = 23 ∧ j = 9)) ∨ J' q j = J q j) ∧ gc_LT I' ∧ (∃ z : Int, r = some (.inl z) ∧ 0 ≤ z ∧ z ≤ 1 ∧ (I' 23 5 ≤ I' 23 6) ∧ (I' 23 7 = 5 ∨ I' 23 6 ≤ I' 23 1) ∧ (I' 23 5 ≤ I' 23 1) ∧ (I' 23 7 = 4 ∨ (I' 23 5 < I' 23 6 ∧ I' 23 5 < I' 23 1)) ∧ (I' 23 7 = 3 → 2 ≤ I' 23 6 - I' 23 5 ∧ I' 23 6 - I' 23 5 ≤ 14) ∧ (I' 23 1 = I 23 1) ∧ (I 23 5 ≤ I' 23 5))))) (7, [(0, .inr (.inr (some 39))), (1, .inl a1), (2, .inl v2_9)], [], sh, gc_h sh I7 J8 A) := by
    intro n9
    induction n9 with
    | zero => intro I7 J8 v2_9 hn; omega
    | succ n9 ih7 =>
      intro I7 J8 v2_9 hn hI7 FI7 FJ8 KLT_I7 m_9
      clear x0 x1 x2 x3 x4
      obtain ⟨ha1_9, hv2_9, e0_9, e1_9, e2_9, e3_9, e4_9, e5_9, e6_9, e7_9⟩ := m_9
      have f10 := (show 0 ≤ I7 23 1 ∧ I7 23 1 ≤ 1000 from gc_in hI7 R_23 rfl rfl)
      have f11 := (show 0 ≤ I7 23 5 ∧ I7 23 5 ≤ 1000 from gc_in hI7 R_23 rfl rfl)
      have f12 := (show 0 ≤ I7 23 6 ∧ I7 23 6 ≤ 1001 from gc_in hI7 R_23 rfl rfl)
      have f13 := (show 0 ≤ I7 23 7 ∧ I7 23 7 ≤ 125 from gc_in hI7 R_23 rfl rfl)
      have f14 := (show 0 ≤ I7 (t + 3) 1 ∧ I7 (t + 3) 1 ≤ 48 from gc_in hI7 R_t_3 rfl rfl)
      have f15 := (show (-1) ≤ I7 39 2 ∧ I7 39 2 ≤ 999999 from gc_in hI7 R_39 rfl rfl)
      have L48 : ((0 ≤ a1 ∧ a1 ≤ 1) ∧ (0 ≤ v2_9 ∧ v2_9 ≤ 8) ∧ (I7 23 7 = 1) ∧ (I7 23 5 ≤ I7 23 6) ∧ (I7 23 7 = 5 ∨ I7 23 6 ≤ I7 23 1) ∧ (I7 23 5 ≤ I7 23 1) ∧ (I7 23 7 = 4 ∨ (I7 23 5 < I7 23 6 ∧ I7 23 5 < I7 23 1)) ∧ (I7 23 7 = 3 → 2 ≤ I7 23 6 - I7 23 5 ∧ I7 23 6 - I7 23 5 ≤ 14) ∧ (I7 23 1 = I 23 1) ∧ (I 23 5 ≤ I7 23 5) ∧ (I7 39 2 = (t : Int))) → gv_X (gc_E6 ws0 tb 2 (yX6_readValues, cX6_readValues, 5, (some .boolean)) kX6_readValues) (gv_Q cX6_readValues (some .boolean) sh (fun r h' => (∃ (I' : gr_I) (J' : gr_J), h' = gc_h sh I' J' A ∧ gc_Inv ro I' ∧ (∀ q j : Nat, ((q = 39 ∧ j = 3) ∨ (q = 39 ∧ j = 4) ∨ (q = 23 ∧ j = 5) ∨ (q = 23 ∧ j = 6) ∨ (q = 23 ∧ j = 7) ∨ (q = 23 ∧ j = 8) ∨ (q = 39 ∧ j = 6)) ∨ I' q j = I q j) ∧ (∀ q j : Nat, ((q = 23 ∧ j = 9)) ∨ J' q j = J q j) ∧ gc_LT I' ∧ (∃ z : Int, r = some (.inl z) ∧ 0 ≤ z ∧ z ≤ 1 ∧ (I' 23 5 ≤ I' 23 6) ∧ (I' 23 7 = 5 ∨ I' 23 6 ≤ I' 23 1) ∧ (I' 23 5 ≤ I' 23 1) ∧ (I' 23 7 = 4 ∨ (I' 23 5 < I' 23 6 ∧ I' 23 5 < I' 23 1)) ∧ (I' 23 7 = 3 → 2 ≤ I' 23 6 - I' 23 5 ∧ I' 23 6 - I' 23 5 ≤ 14) ∧ (I' 23 1 = I 23 1) ∧ (I 23 5 ≤ I' 23 5))))) (48, [(0, .inr (.inr (some 39))), (1, .inl a1), (2, .inl v2_9)], [], sh, gc_h sh I7 J8 A) := by
        intro m_16
        obtain ⟨ha1_16, hv2_9_16, e0_16, e1_16, e2_16, e3_16, e4_16, e5_16, e6_16, e7_16, e8_16⟩ := m_16
        have f17 := (show 0 ≤ I7 23 1 ∧ I7 23 1 ≤ 1000 from gc_in hI7 R_23 rfl rfl)
        have f18 := (show 0 ≤ I7 23 5 ∧ I7 23 5 ≤ 1000 from gc_in hI7 R_23 rfl rfl)
        have f19 := (show 0 ≤ I7 23 6 ∧ I7 23 6 ≤ 1001 from gc_in hI7 R_23 rfl rfl)
        have f20 := (show 0 ≤ I7 23 7 ∧ I7 23 7 ≤ 125 from gc_in hI7 R_23 rfl rfl)
        have f21 := (show 0 ≤ I7 (t + 3) 1 ∧ I7 (t + 3) 1 ≤ 48 from gc_in hI7 R_t_3 rfl rfl)
        have f22 := (show (-1) ≤ I7 39 2 ∧ I7 39 2 ≤ 999999 from gc_in hI7 R_39 rfl rfl)
        have L86 : ∀ (v3_23 : Int) (s0_23 : Int), ((0 ≤ a1 ∧ a1 ≤ 1) ∧ (0 ≤ v2_9 ∧ v2_9 ≤ 8) ∧ ((-1) ≤ v3_23 ∧ v3_23 ≤ 47) ∧ (0 ≤ s0_23 ∧ s0_23 ≤ 21) ∧ (I7 23 7 = 1) ∧ (I7 23 5 ≤ I7 23 6) ∧ (I7 23 7 = 5 ∨ I7 23 6 ≤ I7 23 1) ∧ (I7 23 5 ≤ I7 23 1) ∧ (I7 23 7 = 4 ∨ (I7 23 5 < I7 23 6 ∧ I7 23 5 < I7 23 1)) ∧ (I7 23 7 = 3 → 2 ≤ I7 23 6 - I7 23 5 ∧ I7 23 6 - I7 23 5 ≤ 14) ∧ (I7 23 1 = I 23 1) ∧ (I 23 5 ≤ I7 23 5) ∧ (I7 39 2 = (t : Int))) → gv_X (gc_E6 ws0 tb 2 (yX6_readValues, cX6_readValues, 5, (some .boolean)) kX6_readValues) (gv_Q cX6_readValues (some .boolean) sh (fun r h' => (∃ (I' : gr_I) (J' : gr_J), h' = gc_h sh I' J' A ∧ gc_Inv ro I' ∧ (∀ q j : Nat, ((q = 39 ∧ j = 3) ∨ (q = 39 ∧ j = 4) ∨ (q = 23 ∧ j = 5) ∨ (q = 23 ∧ j = 6) ∨ (q = 23 ∧ j = 7) ∨ (q = 23 ∧ j = 8) ∨ (q = 39 ∧ j = 6)) ∨ I' q j = I q j) ∧ (∀ q j : Nat, ((q = 23 ∧ j = 9)) ∨ J' q j = J q j) ∧ gc_LT I' ∧ (∃ z : Int, r = some (.inl z) ∧ 0 ≤ z ∧ z ≤ 1 ∧ (I' 23 5 ≤ I' 23 6) ∧ (I' 23 7 = 5 ∨ I' 23 6 ≤ I' 23 1) ∧ (I' 23 5 ≤ I' 23 1) ∧ (I' 23 7 = 4 ∨ (I' 23 5 < I' 23 6 ∧ I' 23 5 < I' 23 1)) ∧ (I' 23 7 = 3 → 2 ≤ I' 23 6 - I' 23 5 ∧ I' 23 6 - I' 23 5 ≤ 14) ∧ (I' 23 1 = I 23 1) ∧ (I 23 5 ≤ I' 23 5))))) (86, [(0, .inr (.inr (some 39))), (1, .inl a1), (2, .inl v2_9), (3, .inl v3_23)], [.inl s0_23], sh, gc_h sh I7 J8 A) := by
          intro v3_23 s0_23 m_23
          obtain ⟨ha1_23, hv2_9_23, hv3_23, hs0_23, e0_23, e1_23, e2_23, e3_23, e4_23, e5_23, e6_23, e7_23, e8_23⟩ := m_23
          have f24 := (show 0 ≤ I7 23 1 ∧ I7 23 1 ≤ 1000 from gc_in hI7 R_23 rfl rfl)
          have f25 := (show 0 ≤ I7 23 5 ∧ I7 23 5 ≤ 1000 from gc_in hI7 R_23 rfl rfl)
          have f26 := (show 0 ≤ I7 23 6 ∧ I7 23 6 ≤ 1001 from gc_in hI7 R_23 rfl rfl)
          have f27 := (show 0 ≤ I7 23 7 ∧ I7 23 7 ≤ 125 from gc_in hI7 R_23 rfl rfl)
          have f28 := (show 0 ≤ I7 (t + 3) 1 ∧ I7 (t + 3) 1 ≤ 48 from gc_in hI7 R_t_3 rfl rfl)
          have f29 := (show (-1) ≤ I7 39 2 ∧ I7 39 2 ≤ 999999 from gc_in hI7 R_39 rfl rfl)
          have L105 : ((I7 23 5 ≤ I7 23 6) ∧ (I7 23 7 = 5 ∨ I7 23 6 ≤ I7 23 1) ∧ (I7 23 5 ≤ I7 23 1) ∧ (I7 23 7 = 4 ∨ (I7 23 5 < I7 23 6 ∧ I7 23 5 < I7 23 1)) ∧ (I7 23 7 = 3 → 2 ≤ I7 23 6 - I7 23 5 ∧ I7 23 6 - I7 23 5 ≤ 14) ∧ (I7 23 1 = I 23 1) ∧ (I 23 5 ≤ I7 23 5) ∧ (I7 39 2 = (t : Int))) → gv_X (gc_E6 ws0 tb 2 (yX6_readValues, cX6_readValues, 5, (some .boolean)) kX6_readValues) (gv_Q cX6_readValues (some .boolean) sh (fun r h' => (∃ (I' : gr_I) (J' : gr_J), h' = gc_h sh I' J' A ∧ gc_Inv ro I' ∧ (∀ q j : Nat, ((q = 39 ∧ j = 3) ∨ (q = 39 ∧ j = 4) ∨ (q = 23 ∧ j = 5) ∨ (q = 23 ∧ j = 6) ∨ (q = 23 ∧ j = 7) ∨ (q = 23 ∧ j = 8) ∨ (q = 39 ∧ j = 6)) ∨ I' q j = I q j) ∧ (∀ q j : Nat, ((q = 23 ∧ j = 9)) ∨ J' q j = J q j) ∧ gc_LT I' ∧ (∃ z : Int, r = some (.inl z) ∧ 0 ≤ z ∧ z ≤ 1 ∧ (I' 23 5 ≤ I' 23 6) ∧ (I' 23 7 = 5 ∨ I' 23 6 ≤ I' 23 1) ∧ (I' 23 5 ≤ I' 23 1) ∧ (I' 23 7 = 4 ∨ (I' 23 5 < I' 23 6 ∧ I' 23 5 < I' 23 1)) ∧ (I' 23 7 = 3 → 2 ≤ I' 23 6 - I' 23 5 ∧ I' 23 6 - I' 23 5 ≤ 14) ∧ (I' 23 1 = I 23 1) ∧ (I 23 5 ≤ I' 23 5))))) (105, [(0, .inr (.inr (some 39)))], [], sh, gc_h sh I7 J8 A) := by
            intro m_30
            obtain ⟨e0_30, e1_30, e2_30, e3_30, e4_30, e5_30, e6_30, e7_30⟩ := m_30
            have f31 := (show 0 ≤ I7 23 1 ∧ I7 23 1 ≤ 1000 from gc_in hI7 R_23 rfl rfl)
            have f32 := (show 0 ≤ I7 23 5 ∧ I7 23 5 ≤ 1000 from gc_in hI7 R_23 rfl rfl)
            have f33 := (show 0 ≤ I7 23 6 ∧ I7 23 6 ≤ 1001 from gc_in hI7 R_23 rfl rfl)
            have f34 := (show 0 ≤ I7 23 7 ∧ I7 23 7 ≤ 125 from gc_in hI7 R_23 rfl rfl)
            have f35 := (show 0 ≤ I7 (t + 3) 1 ∧ I7 (t + 3) 1 ≤ 48 from gc_in hI7 R_t_3 rfl rfl)
            have f36 := (show (-1) ≤ I7 39 2 ∧ I7 39 2 ≤ 999999 from gc_in hI7 R_39 rfl rfl)
            refine gv_run 3 true hD (pc' := 108) (lv' := [(0, .inr (.inr (some 39)))]) (st' := [.inr (.inr (some 39)), .inl 5, .inr (.inr (some 39))]) (h' := gc_h sh I7 J8 A) (C := (((True ∧ True) ∧ True) ∧ True)) rfl ⟨⟨⟨trivial, trivial⟩, trivial⟩, trivial⟩ ?_
            refine gv_get hD rfl rfl S_39 ⟨by decide, B_39⟩ (gc_hA S_39 rfl A_39_1) ?_
            show gv_X _ _ (111, [(0, .inr (.inr (some 39)))], [.inr (.inr (some 23)), .inl 5, .inr (.inr (some 39))], sh, gc_h sh I7 J8 A)
            have f37 := (show 0 ≤ I7 23 5 ∧ I7 23 5 ≤ 1000 from gc_in hI7 R_23 rfl rfl)
            refine gv_get hD rfl rfl S_23 ⟨by decide, B_23⟩ (gc_hI S_23 rfl) ?_
            show gv_X _ _ (114, [(0, .inr (.inr (some 39)))], [.inl (I7 23 5), .inl 5, .inr (.inr (some 39))], sh, gc_h sh I7 J8 A)
            obtain ⟨r38, h38, E38, P38⟩ := d_X6_wrong (ws0 := ws0) (tb := tb) hws htb sh ro I7 J8 A hI7  5 (I7 23 5) hb   ⟨by omega, by omega⟩ ⟨by omega, by omega⟩  
            obtain ⟨I39, J40, rfl, hI39, g38, k38, ⟨z38, rfl, q38⟩⟩ := P38
            have FI39 := gc_frc (W := fun q j => (q = 39 ∧ j = 3) ∨ (q = 39 ∧ j = 4) ∨ (q = 23 ∧ j = 5) ∨ (q = 23 ∧ j = 6) ∨ (q = 23 ∧ j = 7) ∨ (q = 23 ∧ j = 8) ∨ (q = 39 ∧ j = 6)) (V := fun q j => (q = 39 ∧ j = 3) ∨ (q = 39 ∧ j = 4)) FI7 (fun q j h => (h.elim (fun h => (Or.inl h)) (fun h => (Or.inr (Or.inl h))))) g38
            have t41 := (g38 23 1).resolve_left (by omega)
            have t42 := (g38 23 5).resolve_left (by omega)
            have t43 := (g38 23 6).resolve_left (by omega)
            have t44 := (g38 23 7).resolve_left (by omega)
            have t45 := (g38 (t + 3) 1).resolve_left (by omega)
            have t46 := (g38 39 2).resolve_left (by omega)
            have f47 := (show 0 ≤ I39 23 1 ∧ I39 23 1 ≤ 1000 from gc_in hI39 R_23 rfl rfl)
            have f48 := (show 0 ≤ I39 23 5 ∧ I39 23 5 ≤ 1000 from gc_in hI39 R_23 rfl rfl)
            have f49 := (show 0 ≤ I39 23 6 ∧ I39 23 6 ≤ 1001 from gc_in hI39 R_23 rfl rfl)
            have f50 := (show 0 ≤ I39 23 7 ∧ I39 23 7 ≤ 125 from gc_in hI39 R_23 rfl rfl)
            have f51 := (show 0 ≤ I39 (t + 3) 1 ∧ I39 (t + 3) 1 ≤ 48 from gc_in hI39 R_t_3 rfl rfl)
            have f52 := (show (-1) ≤ I39 39 2 ∧ I39 39 2 ≤ 999999 from gc_in hI39 R_39 rfl rfl)
            obtain rfl : J8 = J40 := funext fun q => funext fun j => ((k38 q j).resolve_left id).symm
            have KLT_I39 := gc_LT_fr KLT_I7 ((g38 23 5).resolve_left (by omega)) ((g38 23 6).resolve_left (by omega)) ((g38 23 7).resolve_left (by omega)) (fun k => (g38 24 k).resolve_left (by omega))
            refine gv_callV hD rfl (As := [.inl 5, .inl (I7 23 5)]) (st := []) rfl B_39 S_39 rfl (gc_lV6 hws rfl) (Nat.le_of_ble_eq_true rfl) (gz_Ev_mono (d := 1) (by decide) E38) ?_
            show gv_X _ _ (117, [(0, .inr (.inr (some 39)))], [.inl z38], sh, gc_h sh I39 J8 A)
            exact gv_zret hD rfl (by omega) ⟨I39, J8, rfl, hI39, FI39, FJ8, KLT_I39, ⟨_, rfl, by omega⟩⟩
          refine gv_run 2 true hD (pc' := 89) (lv' := [(4, .inl s0_23), (0, .inr (.inr (some 39))), (1, .inl a1), (2, .inl v2_9), (3, .inl v3_23)]) (st' := [.inl v3_23]) (h' := gc_h sh I7 J8 A) (C := ((True ∧ True) ∧ True)) rfl ⟨⟨trivial, trivial⟩, trivial⟩ ?_
          refine gv_if_lt (t := 105) hD rfl rfl ⟨by omega, by omega⟩ (fun c53 => ?_) (fun c53 => ?_)
          · show gv_X _ _ (105, [(4, .inl s0_23), (0, .inr (.inr (some 39))), (1, .inl a1), (2, .inl v2_9), (3, .inl v3_23)], [], sh, gc_h sh I7 J8 A)
            refine gv_pick [1] rfl ?_
            exact L105 (by omega)
          · show gv_X _ _ (92, [(4, .inl s0_23), (0, .inr (.inr (some 39))), (1, .inl a1), (2, .inl v2_9), (3, .inl v3_23)], [], sh, gc_h sh I7 J8 A)
            refine gv_run 1 true hD (pc' := 93) (lv' := [(4, .inl s0_23), (0, .inr (.inr (some 39))), (1, .inl a1), (2, .inl v2_9), (3, .inl v3_23)]) (st' := [.inr (.inr (some 39))]) (h' := gc_h sh I7 J8 A) (C := (True ∧ True)) rfl ⟨trivial, trivial⟩ ?_
            have f54 := (show 0 ≤ I7 39 6 ∧ I7 39 6 ≤ 16777215 from gc_in hI7 R_39 rfl rfl)
            refine gv_get hD rfl rfl S_39 ⟨by decide, B_39⟩ (gc_hI S_39 rfl) ?_
            show gv_X _ _ (96, [(4, .inl s0_23), (0, .inr (.inr (some 39))), (1, .inl a1), (2, .inl v2_9), (3, .inl v3_23)], [.inl (I7 39 6)], sh, gc_h sh I7 J8 A)
            have f55 := gw_shr (x := (I7 39 6)) (y := s0_23) ⟨by omega, by omega⟩
            have f56 := gw_and (x := (((Int32.ofInt (I7 39 6) >>> (Int32.ofInt s0_23 &&& 31)).toInt))) (y := 7) ⟨by omega, by omega⟩
            refine gv_run 4 true hD (pc' := 102) (lv' := [(4, .inl s0_23), (0, .inr (.inr (some 39))), (1, .inl a1), (2, .inl v2_9), (3, .inl v3_23)]) (st' := [.inl ((Int32.ofInt (((Int32.ofInt (I7 39 6) >>> (Int32.ofInt s0_23 &&& 31)).toInt)) &&& Int32.ofInt 7).toInt)]) (h' := gc_h sh I7 J8 A) (C := ((((True ∧ True) ∧ True) ∧ True) ∧ True)) rfl ⟨⟨⟨⟨trivial, trivial⟩, trivial⟩, trivial⟩, trivial⟩ ?_
            refine gv_if_eq (t := 118) hD rfl rfl ⟨by omega, by omega⟩ (fun c57 => ?_) (fun c57 => ?_)
            · show gv_X _ _ (118, [(4, .inl s0_23), (0, .inr (.inr (some 39))), (1, .inl a1), (2, .inl v2_9), (3, .inl v3_23)], [], sh, gc_h sh I7 J8 A)
              refine gv_run 2 true hD (pc' := 120) (lv' := [(4, .inl s0_23), (0, .inr (.inr (some 39))), (1, .inl a1), (2, .inl v2_9), (3, .inl v3_23)]) (st' := [.inr (.inr (some 39)), .inr (.inr (some 39))]) (h' := gc_h sh I7 J8 A) (C := ((True ∧ True) ∧ True)) rfl ⟨⟨trivial, trivial⟩, trivial⟩ ?_
              have f58 := (show 0 ≤ I7 39 6 ∧ I7 39 6 ≤ 16777215 from gc_in hI7 R_39 rfl rfl)
              refine gv_get hD rfl rfl S_39 ⟨by decide, B_39⟩ (gc_hI S_39 rfl) ?_
              show gv_X _ _ (123, [(4, .inl s0_23), (0, .inr (.inr (some 39))), (1, .inl a1), (2, .inl v2_9), (3, .inl v3_23)], [.inl (I7 39 6), .inr (.inr (some 39))], sh, gc_h sh I7 J8 A)
              refine gv_run 1 true hD (pc' := 124) (lv' := [(4, .inl s0_23), (0, .inr (.inr (some 39))), (1, .inl a1), (2, .inl v2_9), (3, .inl v3_23)]) (st' := [.inr (.inr (some 39)), .inl (I7 39 6), .inr (.inr (some 39))]) (h' := gc_h sh I7 J8 A) (C := (True ∧ True)) rfl ⟨trivial, trivial⟩ ?_
              refine gv_get hD rfl rfl S_39 ⟨by decide, B_39⟩ (gc_h5 (t := t) S_39 rfl (by omega)) ?_
              show gv_X _ _ (127, [(4, .inl s0_23), (0, .inr (.inr (some 39))), (1, .inl a1), (2, .inl v2_9), (3, .inl v3_23)], [.inr (.inr (some t)), .inl (I7 39 6), .inr (.inr (some 39))], sh, gc_h sh I7 J8 A)
              refine gv_get hD rfl rfl S_t ⟨by decide, B_t⟩ (gc_hA S_t rfl A_t_3) ?_
              show gv_X _ _ (130, [(4, .inl s0_23), (0, .inr (.inr (some 39))), (1, .inl a1), (2, .inl v2_9), (3, .inl v3_23)], [.inr (.inr (some (t + 6))), .inl (I7 39 6), .inr (.inr (some 39))], sh, gc_h sh I7 J8 A)
              refine gv_run 1 true hD (pc' := 131) (lv' := [(4, .inl s0_23), (0, .inr (.inr (some 39))), (1, .inl a1), (2, .inl v2_9), (3, .inl v3_23)]) (st' := [.inl v3_23, .inr (.inr (some (t + 6))), .inl (I7 39 6), .inr (.inr (some 39))]) (h' := gc_h sh I7 J8 A) (C := (True ∧ True)) rfl ⟨trivial, trivial⟩ ?_
              have f59 := (show 0 ≤ I7 (t + 6) (Int.toNat v3_23) ∧ I7 (t + 6) (Int.toNat v3_23) ≤ 6 from gc_in hI7 R_t_6 rfl rfl)
              refine gv_iald hD rfl S_t_6 rfl ⟨by decide, B_t_6⟩ ⟨by omega, by omega⟩ (gc_iI S_t_6 rfl) ?_
              show gv_X _ _ (132, [(4, .inl s0_23), (0, .inr (.inr (some 39))), (1, .inl a1), (2, .inl v2_9), (3, .inl v3_23)], [.inl (I7 (t + 6) (Int.toNat v3_23)), .inl (I7 39 6), .inr (.inr (some 39))], sh, gc_h sh I7 J8 A)
              have f60 := gw_shl (x := ((I7 (t + 6) (Int.toNat v3_23)))) (y := s0_23) ⟨by omega, by omega⟩ ⟨by omega, by omega⟩
              have f61 := gw_or (x := (I7 39 6)) (y := (((Int32.ofInt ((I7 (t + 6) (Int.toNat v3_23))) <<< (Int32.ofInt s0_23 &&& 31)).toInt))) ⟨by omega, by omega⟩ ⟨by omega, by omega⟩
              refine gv_run 3 true hD (pc' := 136) (lv' := [(4, .inl s0_23), (0, .inr (.inr (some 39))), (1, .inl a1), (2, .inl v2_9), (3, .inl v3_23)]) (st' := [.inl ((Int32.ofInt (I7 39 6) ||| Int32.ofInt (((Int32.ofInt ((I7 (t + 6) (Int.toNat v3_23))) <<< (Int32.ofInt s0_23 &&& 31)).toInt))).toInt), .inr (.inr (some 39))]) (h' := gc_h sh I7 J8 A) (C := (((True ∧ True) ∧ True) ∧ True)) rfl ⟨⟨⟨trivial, trivial⟩, trivial⟩, trivial⟩ ?_
              refine gv_put hD rfl rfl S_39 ⟨by decide, B_39⟩ rfl trivial ?_
              refine gc_st (k := 6) hI7 S_39 rfl R_39 (lo := 0) (hi := 16777215) rfl rfl (by omega) (by omega) (fun I62 hI62 q63 p63 => ?_)
              have FI62 := gc_frs (W := fun q j => (q = 39 ∧ j = 3) ∨ (q = 39 ∧ j = 4) ∨ (q = 23 ∧ j = 5) ∨ (q = 23 ∧ j = 6) ∨ (q = 23 ∧ j = 7) ∨ (q = 23 ∧ j = 8) ∨ (q = 39 ∧ j = 6)) FI7 (Or.inr (Or.inr (Or.inr (Or.inr (Or.inr (Or.inr ⟨rfl, rfl⟩)))))) p63
              have t64 := p63 23 1 (fun h => absurd h.1 (by omega))
              have t65 := p63 23 5 (fun h => absurd h.1 (by omega))
              have t66 := p63 23 6 (fun h => absurd h.1 (by omega))
              have t67 := p63 23 7 (fun h => absurd h.1 (by omega))
              have t68 := p63 (t + 3) 1 (fun h => absurd h.1 (by omega))
              have t69 := p63 39 2 (fun h => absurd h.2 (by decide))
              have f70 := (show 0 ≤ I62 23 1 ∧ I62 23 1 ≤ 1000 from gc_in hI62 R_23 rfl rfl)
              have f71 := (show 0 ≤ I62 23 5 ∧ I62 23 5 ≤ 1000 from gc_in hI62 R_23 rfl rfl)
              have f72 := (show 0 ≤ I62 23 6 ∧ I62 23 6 ≤ 1001 from gc_in hI62 R_23 rfl rfl)
              have f73 := (show 0 ≤ I62 23 7 ∧ I62 23 7 ≤ 125 from gc_in hI62 R_23 rfl rfl)
              have f74 := (show 0 ≤ I62 (t + 3) 1 ∧ I62 (t + 3) 1 ≤ 48 from gc_in hI62 R_t_3 rfl rfl)
              have f75 := (show (-1) ≤ I62 39 2 ∧ I62 39 2 ≤ 999999 from gc_in hI62 R_39 rfl rfl)
              have KLT_I62 := gc_LT_fr KLT_I7 (p63 23 5 (fun h => absurd h.1 (by omega))) (p63 23 6 (fun h => absurd h.1 (by omega))) (p63 23 7 (fun h => absurd h.1 (by omega))) (fun k => p63 24 k (fun h => absurd h.1 (by omega)))
              show gv_X _ _ (139, [(4, .inl s0_23), (0, .inr (.inr (some 39))), (1, .inl a1), (2, .inl v2_9), (3, .inl v3_23)], [], sh, gc_h sh I62 J8 A)
              refine gv_run 1 true hD (pc' := 140) (lv' := [(4, .inl s0_23), (0, .inr (.inr (some 39))), (1, .inl a1), (2, .inl v2_9), (3, .inl v3_23)]) (st' := [.inr (.inr (some 39))]) (h' := gc_h sh I62 J8 A) (C := (True ∧ True)) rfl ⟨trivial, trivial⟩ ?_
              refine gv_get hD rfl rfl S_39 ⟨by decide, B_39⟩ (gc_hA S_39 rfl A_39_1) ?_
              show gv_X _ _ (143, [(4, .inl s0_23), (0, .inr (.inr (some 39))), (1, .inl a1), (2, .inl v2_9), (3, .inl v3_23)], [.inr (.inr (some 23))], sh, gc_h sh I62 J8 A)
              obtain ⟨r76, h76, E76, P76⟩ := d_X9_advance (ws0 := ws0) (tb := tb) hws htb sh ro I62 J8 A hI62 23  (gc_b23 hb)    (by omega) 
              obtain ⟨I77, J78, rfl, hI77, g76, k76, ⟨rfl, q76⟩⟩ := P76
              have FI77 := gc_frc (W := fun q j => (q = 39 ∧ j = 3) ∨ (q = 39 ∧ j = 4) ∨ (q = 23 ∧ j = 5) ∨ (q = 23 ∧ j = 6) ∨ (q = 23 ∧ j = 7) ∨ (q = 23 ∧ j = 8) ∨ (q = 39 ∧ j = 6)) (V := fun q j => (q = 23 ∧ j = 5) ∨ (q = 23 ∧ j = 6) ∨ (q = 23 ∧ j = 7) ∨ (q = 23 ∧ j = 8)) FI62 (fun q j h => (h.elim (fun h => (Or.inr (Or.inr (Or.inl h)))) (fun h => (h.elim (fun h => (Or.inr (Or.inr (Or.inr (Or.inl h))))) (fun h => (h.elim (fun h => (Or.inr (Or.inr (Or.inr (Or.inr (Or.inl h)))))) (fun h => (Or.inr (Or.inr (Or.inr (Or.inr (Or.inr (Or.inl h))))))))))))) g76
              have FJ78 := gc_frc (W := fun q j => (q = 23 ∧ j = 9)) (V := fun q j => (q = 23 ∧ j = 9)) FJ8 (fun q j h => h) k76
              have t79 := (g76 23 1).resolve_left (by omega)
              have t80 := (g76 (t + 3) 1).resolve_left (by omega)
              have t81 := (g76 39 2).resolve_left (by omega)
              have f82 := (show 0 ≤ I77 23 1 ∧ I77 23 1 ≤ 1000 from gc_in hI77 R_23 rfl rfl)
              have f83 := (show 0 ≤ I77 23 5 ∧ I77 23 5 ≤ 1000 from gc_in hI77 R_23 rfl rfl)
              have f84 := (show 0 ≤ I77 23 6 ∧ I77 23 6 ≤ 1001 from gc_in hI77 R_23 rfl rfl)
              have f85 := (show 0 ≤ I77 23 7 ∧ I77 23 7 ≤ 125 from gc_in hI77 R_23 rfl rfl)
              have f86 := (show 0 ≤ I77 (t + 3) 1 ∧ I77 (t + 3) 1 ≤ 48 from gc_in hI77 R_t_3 rfl rfl)
              have f87 := (show (-1) ≤ I77 39 2 ∧ I77 39 2 ≤ 999999 from gc_in hI77 R_39 rfl rfl)
              have KLT_I77 : gc_LT I77 := q76.2.2.2.2.2.2.2
              refine gv_callV hD rfl (As := []) (st := []) rfl B_23 S_23 rfl (gc_lV6 hws rfl) (Nat.le_of_ble_eq_true rfl) (gz_Ev_mono (d := 2) (by decide) E76) ?_
              show gv_X _ _ (146, [(4, .inl s0_23), (0, .inr (.inr (some 39))), (1, .inl a1), (2, .inl v2_9), (3, .inl v3_23)], [], sh, gc_h sh I77 J78 A)
              refine gv_run 2 true hD (pc' := 7) (lv' := [(2, .inl (v2_9 + 1)), (4, .inl s0_23), (0, .inr (.inr (some 39))), (1, .inl a1), (3, .inl v3_23)]) (st' := []) (h' := gc_h sh I77 J78 A) (C := ((True ∧ True) ∧ True)) rfl ⟨⟨trivial, trivial⟩, trivial⟩ ?_
              refine gv_pick [2, 3, 0] rfl ?_
              exact ih7 I77 J78 (v2_9 + 1) (by omega) hI77 FI77 FJ78 KLT_I77 (by omega)
            · show gv_X _ _ (105, [(4, .inl s0_23), (0, .inr (.inr (some 39))), (1, .inl a1), (2, .inl v2_9), (3, .inl v3_23)], [], sh, gc_h sh I7 J8 A)
              refine gv_pick [1] rfl ?_
              exact L105 (by omega)
        refine gv_run 1 true hD (pc' := 49) (lv' := [(0, .inr (.inr (some 39))), (1, .inl a1), (2, .inl v2_9)]) (st' := [.inr (.inr (some 39))]) (h' := gc_h sh I7 J8 A) (C := (True ∧ True)) rfl ⟨trivial, trivial⟩ ?_
        refine gv_get hD rfl rfl S_39 ⟨by decide, B_39⟩ (gc_h5 (t := t) S_39 rfl (by omega)) ?_
        show gv_X _ _ (52, [(0, .inr (.inr (some 39))), (1, .inl a1), (2, .inl v2_9)], [.inr (.inr (some t))], sh, gc_h sh I7 J8 A)
        refine gv_get hD rfl rfl S_t ⟨by decide, B_t⟩ (gc_hA S_t rfl A_t_1) ?_
        show gv_X _ _ (55, [(0, .inr (.inr (some 39))), (1, .inl a1), (2, .inl v2_9)], [.inr (.inr (some (t + 3)))], sh, gc_h sh I7 J8 A)
        refine gv_run 1 true hD (pc' := 56) (lv' := [(0, .inr (.inr (some 39))), (1, .inl a1), (2, .inl v2_9)]) (st' := [.inr (.inr (some 39)), .inr (.inr (some (t + 3)))]) (h' := gc_h sh I7 J8 A) (C := (True ∧ True)) rfl ⟨trivial, trivial⟩ ?_
        refine gv_get hD rfl rfl S_39 ⟨by decide, B_39⟩ (gc_hA S_39 rfl A_39_1) ?_
        show gv_X _ _ (59, [(0, .inr (.inr (some 39))), (1, .inl a1), (2, .inl v2_9)], [.inr (.inr (some 23)), .inr (.inr (some (t + 3)))], sh, gc_h sh I7 J8 A)
        refine gv_get hD rfl rfl S_23 ⟨by decide, B_23⟩ (gc_hJ S_23 rfl) ?_
        show gv_X _ _ (62, [(0, .inr (.inr (some 39))), (1, .inl a1), (2, .inl v2_9)], [.inr (.inl (J8 23 9)), .inr (.inr (some (t + 3)))], sh, gc_h sh I7 J8 A)
        obtain ⟨r88, h88, E88, P88⟩ := d_X4_find (ws0 := ws0) (tb := tb) hws htb sh ro I7 J8 A hI7 (t + 3) 48 10 (J8 23 9) h_t_3     
        obtain ⟨rfl, ⟨z88, rfl, q88⟩⟩ := P88
        refine gv_callV hD rfl (As := [.inr (.inl (J8 23 9))]) (st := []) rfl B_t_3 S_t_3 rfl (gc_lV6 hws rfl) (Nat.le_of_ble_eq_true rfl) (gz_Ev_mono (d := 1) (by decide) E88) ?_
        show gv_X _ _ (65, [(0, .inr (.inr (some 39))), (1, .inl a1), (2, .inl v2_9)], [.inl z88], sh, gc_h sh I7 J8 A)
        refine gv_run 2 true hD (pc' := 67) (lv' := [(3, .inl z88), (0, .inr (.inr (some 39))), (1, .inl a1), (2, .inl v2_9)]) (st' := [.inl z88]) (h' := gc_h sh I7 J8 A) (C := ((True ∧ True) ∧ True)) rfl ⟨⟨trivial, trivial⟩, trivial⟩ ?_
        refine gv_if_ge (t := 74) hD rfl rfl ⟨by omega, by omega⟩ (fun c89 => ?_) (fun c89 => ?_)
        · show gv_X _ _ (74, [(3, .inl z88), (0, .inr (.inr (some 39))), (1, .inl a1), (2, .inl v2_9)], [], sh, gc_h sh I7 J8 A)
          refine gv_run 1 true hD (pc' := 75) (lv' := [(3, .inl z88), (0, .inr (.inr (some 39))), (1, .inl a1), (2, .inl v2_9)]) (st' := [.inr (.inr (some 39))]) (h' := gc_h sh I7 J8 A) (C := (True ∧ True)) rfl ⟨trivial, trivial⟩ ?_
          refine gv_get hD rfl rfl S_39 ⟨by decide, B_39⟩ (gc_h5 (t := t) S_39 rfl (by omega)) ?_
          show gv_X _ _ (78, [(3, .inl z88), (0, .inr (.inr (some 39))), (1, .inl a1), (2, .inl v2_9)], [.inr (.inr (some t))], sh, gc_h sh I7 J8 A)
          refine gv_get hD rfl rfl S_t ⟨by decide, B_t⟩ (gc_hA S_t rfl A_t_2) ?_
          show gv_X _ _ (81, [(3, .inl z88), (0, .inr (.inr (some 39))), (1, .inl a1), (2, .inl v2_9)], [.inr (.inr (some (t + 5)))], sh, gc_h sh I7 J8 A)
          refine gv_run 1 true hD (pc' := 82) (lv' := [(3, .inl z88), (0, .inr (.inr (some 39))), (1, .inl a1), (2, .inl v2_9)]) (st' := [.inl z88, .inr (.inr (some (t + 5)))]) (h' := gc_h sh I7 J8 A) (C := (True ∧ True)) rfl ⟨trivial, trivial⟩ ?_
          have f90 := (show 0 ≤ I7 (t + 5) (Int.toNat z88) ∧ I7 (t + 5) (Int.toNat z88) ≤ 7 from gc_in hI7 R_t_5 rfl rfl)
          refine gv_iald hD rfl S_t_5 rfl ⟨by decide, B_t_5⟩ ⟨by omega, by omega⟩ (gc_iI S_t_5 rfl) ?_
          show gv_X _ _ (83, [(3, .inl z88), (0, .inr (.inr (some 39))), (1, .inl a1), (2, .inl v2_9)], [.inl (I7 (t + 5) (Int.toNat z88))], sh, gc_h sh I7 J8 A)
          obtain ⟨r91, h91, E91, P91⟩ := d_X11_shiftOf (ws0 := ws0) (tb := tb) hws htb sh ro I7 J8 A hI7  ((I7 (t + 5) (Int.toNat z88)))    ⟨by omega, by omega⟩  
          obtain ⟨rfl, ⟨z91, rfl, q91⟩⟩ := P91
          refine gv_callS hD rfl (As := [.inl (I7 (t + 5) (Int.toNat z88))]) (st := []) rfl (gc_lS6 hws rfl) (Nat.le_of_ble_eq_true rfl) (gz_Ev_mono (d := 1) (by decide) E91) ?_
          show gv_X _ _ (86, [(3, .inl z88), (0, .inr (.inr (some 39))), (1, .inl a1), (2, .inl v2_9)], [.inl z91], sh, gc_h sh I7 J8 A)
          refine gv_pick [1, 2, 3, 0] rfl ?_
          exact L86 z88 z91 (by omega)
        · show gv_X _ _ (70, [(3, .inl z88), (0, .inr (.inr (some 39))), (1, .inl a1), (2, .inl v2_9)], [], sh, gc_h sh I7 J8 A)
          refine gv_run 2 true hD (pc' := 86) (lv' := [(3, .inl z88), (0, .inr (.inr (some 39))), (1, .inl a1), (2, .inl v2_9)]) (st' := [.inl 0]) (h' := gc_h sh I7 J8 A) (C := ((True ∧ True) ∧ True)) rfl ⟨⟨trivial, trivial⟩, trivial⟩ ?_
          refine gv_pick [1, 2, 3, 0] rfl ?_
          exact L86 z88 0 (by omega)
      have L152 : ((I7 23 5 ≤ I7 23 6) ∧ (I7 23 7 = 5 ∨ I7 23 6 ≤ I7 23 1) ∧ (I7 23 5 ≤ I7 23 1) ∧ (I7 23 7 = 4 ∨ (I7 23 5 < I7 23 6 ∧ I7 23 5 < I7 23 1)) ∧ (I7 23 7 = 3 → 2 ≤ I7 23 6 - I7 23 5 ∧ I7 23 6 - I7 23 5 ≤ 14) ∧ (I7 23 1 = I 23 1) ∧ (I 23 5 ≤ I7 23 5) ∧ (I7 39 2 = (t : Int))) → gv_X (gc_E6 ws0 tb 2 (yX6_readValues, cX6_readValues, 5, (some .boolean)) kX6_readValues) (gv_Q cX6_readValues (some .boolean) sh (fun r h' => (∃ (I' : gr_I) (J' : gr_J), h' = gc_h sh I' J' A ∧ gc_Inv ro I' ∧ (∀ q j : Nat, ((q = 39 ∧ j = 3) ∨ (q = 39 ∧ j = 4) ∨ (q = 23 ∧ j = 5) ∨ (q = 23 ∧ j = 6) ∨ (q = 23 ∧ j = 7) ∨ (q = 23 ∧ j = 8) ∨ (q = 39 ∧ j = 6)) ∨ I' q j = I q j) ∧ (∀ q j : Nat, ((q = 23 ∧ j = 9)) ∨ J' q j = J q j) ∧ gc_LT I' ∧ (∃ z : Int, r = some (.inl z) ∧ 0 ≤ z ∧ z ≤ 1 ∧ (I' 23 5 ≤ I' 23 6) ∧ (I' 23 7 = 5 ∨ I' 23 6 ≤ I' 23 1) ∧ (I' 23 5 ≤ I' 23 1) ∧ (I' 23 7 = 4 ∨ (I' 23 5 < I' 23 6 ∧ I' 23 5 < I' 23 1)) ∧ (I' 23 7 = 3 → 2 ≤ I' 23 6 - I' 23 5 ∧ I' 23 6 - I' 23 5 ≤ 14) ∧ (I' 23 1 = I 23 1) ∧ (I 23 5 ≤ I' 23 5))))) (152, [], [], sh, gc_h sh I7 J8 A) := by
        intro m_92
        obtain ⟨e0_92, e1_92, e2_92, e3_92, e4_92, e5_92, e6_92, e7_92⟩ := m_92
        have f93 := (show 0 ≤ I7 23 1 ∧ I7 23 1 ≤ 1000 from gc_in hI7 R_23 rfl rfl)
        have f94 := (show 0 ≤ I7 23 5 ∧ I7 23 5 ≤ 1000 from gc_in hI7 R_23 rfl rfl)
        have f95 := (show 0 ≤ I7 23 6 ∧ I7 23 6 ≤ 1001 from gc_in hI7 R_23 rfl rfl)
        have f96 := (show 0 ≤ I7 23 7 ∧ I7 23 7 ≤ 125 from gc_in hI7 R_23 rfl rfl)
        have f97 := (show 0 ≤ I7 (t + 3) 1 ∧ I7 (t + 3) 1 ≤ 48 from gc_in hI7 R_t_3 rfl rfl)
        have f98 := (show (-1) ≤ I7 39 2 ∧ I7 39 2 ≤ 999999 from gc_in hI7 R_39 rfl rfl)
        refine gv_run 1 true hD (pc' := 153) (lv' := []) (st' := [.inl 1]) (h' := gc_h sh I7 J8 A) (C := (True ∧ True)) rfl ⟨trivial, trivial⟩ ?_
        exact gv_zret hD rfl (by omega) ⟨I7, J8, rfl, hI7, FI7, FJ8, KLT_I7, ⟨_, rfl, by omega⟩⟩
      refine gv_run 2 true hD (pc' := 10) (lv' := [(0, .inr (.inr (some 39))), (1, .inl a1), (2, .inl v2_9)]) (st' := [.inl 8, .inl v2_9]) (h' := gc_h sh I7 J8 A) (C := ((True ∧ True) ∧ True)) rfl ⟨⟨trivial, trivial⟩, trivial⟩ ?_
      refine gv_icmp_gt (t := 152) hD rfl rfl ⟨⟨by omega, by omega⟩, ⟨by omega, by omega⟩⟩ (fun c99 => ?_) (fun c99 => ?_)
      · show gv_X _ _ (152, [(0, .inr (.inr (some 39))), (1, .inl a1), (2, .inl v2_9)], [], sh, gc_h sh I7 J8 A)
        refine gv_pick [] rfl ?_
        exact L152 (by omega)
      · show gv_X _ _ (13, [(0, .inr (.inr (some 39))), (1, .inl a1), (2, .inl v2_9)], [], sh, gc_h sh I7 J8 A)
        refine gv_run 1 true hD (pc' := 14) (lv' := [(0, .inr (.inr (some 39))), (1, .inl a1), (2, .inl v2_9)]) (st' := [.inr (.inr (some 39))]) (h' := gc_h sh I7 J8 A) (C := (True ∧ True)) rfl ⟨trivial, trivial⟩ ?_
        refine gv_get hD rfl rfl S_39 ⟨by decide, B_39⟩ (gc_hA S_39 rfl A_39_1) ?_
        show gv_X _ _ (17, [(0, .inr (.inr (some 39))), (1, .inl a1), (2, .inl v2_9)], [.inr (.inr (some 23))], sh, gc_h sh I7 J8 A)
        have f100 := (show 0 ≤ I7 23 7 ∧ I7 23 7 ≤ 125 from gc_in hI7 R_23 rfl rfl)
        refine gv_get hD rfl rfl S_23 ⟨by decide, B_23⟩ (gc_hI S_23 rfl) ?_
        show gv_X _ _ (20, [(0, .inr (.inr (some 39))), (1, .inl a1), (2, .inl v2_9)], [.inl (I7 23 7)], sh, gc_h sh I7 J8 A)
        refine gv_run 1 true hD (pc' := 21) (lv' := [(0, .inr (.inr (some 39))), (1, .inl a1), (2, .inl v2_9)]) (st' := [.inl 1, .inl (I7 23 7)]) (h' := gc_h sh I7 J8 A) (C := (True ∧ True)) rfl ⟨trivial, trivial⟩ ?_
        refine gv_icmp_ne (t := 152) hD rfl rfl ⟨⟨by omega, by omega⟩, ⟨by omega, by omega⟩⟩ (fun c101 => ?_) (fun c101 => ?_)
        · show gv_X _ _ (152, [(0, .inr (.inr (some 39))), (1, .inl a1), (2, .inl v2_9)], [], sh, gc_h sh I7 J8 A)
          refine gv_pick [] rfl ?_
          exact L152 (by omega)
        · show gv_X _ _ (24, [(0, .inr (.inr (some 39))), (1, .inl a1), (2, .inl v2_9)], [], sh, gc_h sh I7 J8 A)
          refine gv_run 1 true hD (pc' := 25) (lv' := [(0, .inr (.inr (some 39))), (1, .inl a1), (2, .inl v2_9)]) (st' := [.inl a1]) (h' := gc_h sh I7 J8 A) (C := (True ∧ True)) rfl ⟨trivial, trivial⟩ ?_
          refine gv_if_eq (t := 48) hD rfl rfl ⟨by omega, by omega⟩ (fun c102 => ?_) (fun c102 => ?_)
          · show gv_X _ _ (48, [(0, .inr (.inr (some 39))), (1, .inl a1), (2, .inl v2_9)], [], sh, gc_h sh I7 J8 A)
            exact L48 (by omega)
          · show gv_X _ _ (28, [(0, .inr (.inr (some 39))), (1, .inl a1), (2, .inl v2_9)], [], sh, gc_h sh I7 J8 A)
            refine gv_run 1 true hD (pc' := 29) (lv' := [(0, .inr (.inr (some 39))), (1, .inl a1), (2, .inl v2_9)]) (st' := [.inl v2_9]) (h' := gc_h sh I7 J8 A) (C := (True ∧ True)) rfl ⟨trivial, trivial⟩ ?_
            refine gv_if_le (t := 48) hD rfl rfl ⟨by omega, by omega⟩ (fun c103 => ?_) (fun c103 => ?_)
            · show gv_X _ _ (48, [(0, .inr (.inr (some 39))), (1, .inl a1), (2, .inl v2_9)], [], sh, gc_h sh I7 J8 A)
              exact L48 (by omega)
            · show gv_X _ _ (32, [(0, .inr (.inr (some 39))), (1, .inl a1), (2, .inl v2_9)], [], sh, gc_h sh I7 J8 A)
              refine gv_run 1 true hD (pc' := 33) (lv' := [(0, .inr (.inr (some 39))), (1, .inl a1), (2, .inl v2_9)]) (st' := [.inr (.inr (some 39))]) (h' := gc_h sh I7 J8 A) (C := (True ∧ True)) rfl ⟨trivial, trivial⟩ ?_
              refine gv_get hD rfl rfl S_39 ⟨by decide, B_39⟩ (gc_hA S_39 rfl A_39_1) ?_
              show gv_X _ _ (36, [(0, .inr (.inr (some 39))), (1, .inl a1), (2, .inl v2_9)], [.inr (.inr (some 23))], sh, gc_h sh I7 J8 A)
              refine gv_get hD rfl rfl S_23 ⟨by decide, B_23⟩ (gc_hJ S_23 rfl) ?_
              show gv_X _ _ (39, [(0, .inr (.inr (some 39))), (1, .inl a1), (2, .inl v2_9)], [.inr (.inl (J8 23 9))], sh, gc_h sh I7 J8 A)
              have f104 := gw_cmp ((J8 23 9)) ((1668248436))
              refine gv_run 2 true hD (pc' := 43) (lv' := [(0, .inr (.inr (some 39))), (1, .inl a1), (2, .inl v2_9)]) (st' := [.inl ((lg_cmp ((J8 23 9)) ((1668248436))).toInt)]) (h' := gc_h sh I7 J8 A) (C := ((True ∧ True) ∧ True)) rfl ⟨⟨trivial, trivial⟩, trivial⟩ ?_
              refine gv_if_ne (t := 48) hD rfl rfl ⟨by omega, by omega⟩ (fun c105 => ?_) (fun c105 => ?_)
              · show gv_X _ _ (48, [(0, .inr (.inr (some 39))), (1, .inl a1), (2, .inl v2_9)], [], sh, gc_h sh I7 J8 A)
                exact L48 (by omega)
              · show gv_X _ _ (46, [(0, .inr (.inr (some 39))), (1, .inl a1), (2, .inl v2_9)], [], sh, gc_h sh I7 J8 A)
                refine gv_run 1 true hD (pc' := 47) (lv' := [(0, .inr (.inr (some 39))), (1, .inl a1), (2, .inl v2_9)]) (st' := [.inl 1]) (h' := gc_h sh I7 J8 A) (C := (True ∧ True)) rfl ⟨trivial, trivial⟩ ?_
                exact gv_zret hD rfl (by omega) ⟨I7, J8, rfl, hI7, FI7, FJ8, KLT_I7, ⟨_, rfl, by omega⟩⟩
  refine gv_run 2 true hD (pc' := 2) (lv' := [(0, .inr (.inr (some 39))), (1, .inl a1)]) (st' := [.inl 0, .inr (.inr (some 39))]) (h' := gc_h sh I J A) (C := ((True ∧ True) ∧ True)) rfl ⟨⟨trivial, trivial⟩, trivial⟩ ?_
  refine gv_put hD rfl rfl S_39 ⟨by decide, B_39⟩ rfl trivial ?_
  refine gc_st (k := 6) hI S_39 rfl R_39 (lo := 0) (hi := 16777215) rfl rfl (by omega) (by omega) (fun I106 hI106 q107 p107 => ?_)
  have FI106 := gc_frs (W := fun q j => (q = 39 ∧ j = 3) ∨ (q = 39 ∧ j = 4) ∨ (q = 23 ∧ j = 5) ∨ (q = 23 ∧ j = 6) ∨ (q = 23 ∧ j = 7) ∨ (q = 23 ∧ j = 8) ∨ (q = 39 ∧ j = 6)) FI (Or.inr (Or.inr (Or.inr (Or.inr (Or.inr (Or.inr ⟨rfl, rfl⟩)))))) p107
  have t108 := p107 23 1 (fun h => absurd h.1 (by omega))
  have t109 := p107 23 5 (fun h => absurd h.1 (by omega))
  have t110 := p107 23 6 (fun h => absurd h.1 (by omega))
  have t111 := p107 23 7 (fun h => absurd h.1 (by omega))
  have t112 := p107 (t + 3) 1 (fun h => absurd h.1 (by omega))
  have t113 := p107 39 2 (fun h => absurd h.2 (by decide))
  have f114 := (show 0 ≤ I106 23 1 ∧ I106 23 1 ≤ 1000 from gc_in hI106 R_23 rfl rfl)
  have f115 := (show 0 ≤ I106 23 5 ∧ I106 23 5 ≤ 1000 from gc_in hI106 R_23 rfl rfl)
  have f116 := (show 0 ≤ I106 23 6 ∧ I106 23 6 ≤ 1001 from gc_in hI106 R_23 rfl rfl)
  have f117 := (show 0 ≤ I106 23 7 ∧ I106 23 7 ≤ 125 from gc_in hI106 R_23 rfl rfl)
  have f118 := (show 0 ≤ I106 (t + 3) 1 ∧ I106 (t + 3) 1 ≤ 48 from gc_in hI106 R_t_3 rfl rfl)
  have f119 := (show (-1) ≤ I106 39 2 ∧ I106 39 2 ≤ 999999 from gc_in hI106 R_39 rfl rfl)
  have KLT_I106 := gc_LT_fr KLT_I (p107 23 5 (fun h => absurd h.1 (by omega))) (p107 23 6 (fun h => absurd h.1 (by omega))) (p107 23 7 (fun h => absurd h.1 (by omega))) (fun k => p107 24 k (fun h => absurd h.1 (by omega)))
  show gv_X _ _ (5, [(0, .inr (.inr (some 39))), (1, .inl a1)], [], sh, gc_h sh I106 J A)
  refine gv_run 2 true hD (pc' := 7) (lv' := [(2, .inl 0), (0, .inr (.inr (some 39))), (1, .inl a1)]) (st' := []) (h' := gc_h sh I106 J A) (C := ((True ∧ True) ∧ True)) rfl ⟨⟨trivial, trivial⟩, trivial⟩ ?_
  refine gv_pick [1, 2, 0] rfl ?_
  exact L7 _ I106 J 0 (Nat.lt_succ_self _) hI106 FI106 FJ KLT_I106 (by omega)
set_option maxHeartbeats 4000000 in
set_option maxRecDepth 100000 in
theorem d_X6_readNewName {ws0 : List Cond} {tb : String → gz_T} (hws : gc_Ws ws0) (htb : gc_tbs tb) (sh : gz_Sh) (ro : Nat → Nat) (I : gr_I) (J : gr_J) (A : gc_A) (hI : gc_Inv ro I) (n ρ : Nat) (a1 : Nat) (hb : gc_Base sh ro A) (h_a1 : gc_isNames sh ro A a1 n ρ)  (x0 : I 23 5 ≤ I 23 6) (x1 : I 23 7 = 5 ∨ I 23 6 ≤ I 23 1) (x2 : I 23 5 ≤ I 23 1) (x3 : I 23 7 = 4 ∨ (I 23 5 < I 23 6 ∧ I 23 5 < I 23 1)) (x4 : I 23 7 = 3 → 2 ≤ I 23 6 - I 23 5 ∧ I 23 6 - I 23 5 ≤ 14) (KLT_I : gc_LT I) : ∃ r h', gz_Ev ws0 tb 5 (yX6_readNewName, cX6_readNewName, 4, (some .boolean)) [.inr (.inr (some 39)), .inr (.inr (some a1))] sh (gc_h sh I J A) r sh h' 0 0 ∧ (∃ (I' : gr_I) (J' : gr_J), h' = gc_h sh I' J' A ∧ gc_Inv ro I' ∧ (∀ q j : Nat, ((q = 39 ∧ j = 3) ∨ (q = 39 ∧ j = 4) ∨ (q = 23 ∧ j = 5) ∨ (q = 23 ∧ j = 6) ∨ (q = 23 ∧ j = 7) ∨ (q = 23 ∧ j = 8) ∨ (q = a1 ∧ j = 1)) ∨ I' q j = I q j) ∧ (∀ q j : Nat, ((q = 23 ∧ j = 9) ∨ q = (a1 + 1)) ∨ J' q j = J q j) ∧ gc_LT I' ∧ (∃ z : Int, r = some (.inl z) ∧ 0 ≤ z ∧ z ≤ 1 ∧ (I' 23 5 ≤ I' 23 6) ∧ (I' 23 7 = 5 ∨ I' 23 6 ≤ I' 23 1) ∧ (I' 23 5 ≤ I' 23 1) ∧ (I' 23 7 = 4 ∨ (I' 23 5 < I' 23 6 ∧ I' 23 5 < I' 23 1)) ∧ (I' 23 7 = 3 → 2 ≤ I' 23 6 - I' 23 5 ∧ I' 23 6 - I' 23 5 ≤ 14) ∧ (I' 23 1 = I 23 1) ∧ (I 23 5 ≤ I' 23 5))) := by
  have FI : ∀ q j : Nat, ((q = 39 ∧ j = 3) ∨ (q = 39 ∧ j = 4) ∨ (q = 23 ∧ j = 5) ∨ (q = 23 ∧ j = 6) ∨ (q = 23 ∧ j = 7) ∨ (q = 23 ∧ j = 8) ∨ (q = a1 ∧ j = 1)) ∨ I q j = I q j := fun _ _ => Or.inr rfl
  have FJ : ∀ q j : Nat, ((q = 23 ∧ j = 9) ∨ q = (a1 + 1)) ∨ J q j = J q j := fun _ _ => Or.inr rfl
  have A_39_1 : A 39 1 = some 23 := gc_bA hb rfl
  have B_23 : 23 < 1000000 := by decide
  have B_39 : 39 < 1000000 := by decide
  have R_23 : ro 23 = 3 := gc_bR hb (by decide) rfl
  have S_23 : sh[23]? = some (false, 9, 10) := gc_bS hb rfl
  have S_39 : sh[39]? = some (false, 6, 19) := gc_bS hb rfl
  obtain ⟨S_a1, R_a1, B_a1, A_a1_0, S_a1_1, R_a1_1, B_a1_1, Q_lo, Q_hi, Q_n⟩ := id h_a1
  have N1 : a1 ≠ 23 := fun h => by
    have h9 := S_a1
    rw [h, S_23] at h9
    cases h9
  have N2 : a1 ≠ 39 := fun h => by
    have h9 := S_a1
    rw [h, gc_bS hb (p := 39) rfl] at h9
    cases h9
  have N3 : a1 ≠ 24 := fun h => by
    have h9 := S_a1
    rw [h, gc_bS hb (p := 24) rfl] at h9
    cases h9
  have hD : gv_D (gc_E6 ws0 tb 4 (yX6_readNewName, cX6_readNewName, 4, (some .boolean)) kX6_readNewName) := gq_ok oX6_readNewName
  refine gc_ev6 (d := 4) (l := kX6_readNewName) (Po := fun r h' => (∃ (I' : gr_I) (J' : gr_J), h' = gc_h sh I' J' A ∧ gc_Inv ro I' ∧ (∀ q j : Nat, ((q = 39 ∧ j = 3) ∨ (q = 39 ∧ j = 4) ∨ (q = 23 ∧ j = 5) ∨ (q = 23 ∧ j = 6) ∨ (q = 23 ∧ j = 7) ∨ (q = 23 ∧ j = 8) ∨ (q = a1 ∧ j = 1)) ∨ I' q j = I q j) ∧ (∀ q j : Nat, ((q = 23 ∧ j = 9) ∨ q = (a1 + 1)) ∨ J' q j = J q j) ∧ gc_LT I' ∧ (∃ z : Int, r = some (.inl z) ∧ 0 ≤ z ∧ z ≤ 1 ∧ (I' 23 5 ≤ I' 23 6) ∧ (I' 23 7 = 5 ∨ I' 23 6 ≤ I' 23 1) ∧ (I' 23 5 ≤ I' 23 1) ∧ (I' 23 7 = 4 ∨ (I' 23 5 < I' 23 6 ∧ I' 23 5 < I' 23 1)) ∧ (I' 23 7 = 3 → 2 ≤ I' 23 6 - I' 23 5 ∧ I' 23 6 - I' 23 5 ≤ 14) ∧ (I' 23 1 = I 23 1) ∧ (I 23 5 ≤ I' 23 5)))) htb rfl (Nat.le_of_ble_eq_true rfl) ?_
  have f1 := (show 0 ≤ I 23 1 ∧ I 23 1 ≤ 1000 from gc_in hI R_23 rfl rfl)
  have f2 := (show 0 ≤ I 23 5 ∧ I 23 5 ≤ 1000 from gc_in hI R_23 rfl rfl)
  have f3 := (show 0 ≤ I 23 6 ∧ I 23 6 ≤ 1001 from gc_in hI R_23 rfl rfl)
  have f4 := (show 0 ≤ I 23 7 ∧ I 23 7 ≤ 125 from gc_in hI R_23 rfl rfl)
  refine gv_run 2 true hD (pc' := 2) (lv' := [(0, .inr (.inr (some 39))), (1, .inr (.inr (some a1)))]) (st' := [.inr (.inr (some a1)), .inr (.inr (some 39))]) (h' := gc_h sh I J A) (C := ((True ∧ True) ∧ True)) rfl ⟨⟨trivial, trivial⟩, trivial⟩ ?_
  obtain ⟨r5, h5, E5, P5⟩ := d_X6_needNew (ws0 := ws0) (tb := tb) hws htb sh ro I J A hI  n ρ a1 hb h_a1    
  obtain ⟨I6, J7, rfl, hI6, g5, k5, ⟨z5, rfl, q5⟩⟩ := P5
  have FI6 := gc_frc (W := fun q j => (q = 39 ∧ j = 3) ∨ (q = 39 ∧ j = 4) ∨ (q = 23 ∧ j = 5) ∨ (q = 23 ∧ j = 6) ∨ (q = 23 ∧ j = 7) ∨ (q = 23 ∧ j = 8) ∨ (q = a1 ∧ j = 1)) (V := fun q j => (q = 39 ∧ j = 3) ∨ (q = 39 ∧ j = 4)) FI (fun q j h => (h.elim (fun h => (Or.inl h)) (fun h => (Or.inr (Or.inl h))))) g5
  have t8 := (g5 23 1).resolve_left (by omega)
  have t9 := (g5 23 5).resolve_left (by omega)
  have t10 := (g5 23 6).resolve_left (by omega)
  have t11 := (g5 23 7).resolve_left (by omega)
  have f12 := (show 0 ≤ I6 23 1 ∧ I6 23 1 ≤ 1000 from gc_in hI6 R_23 rfl rfl)
  have f13 := (show 0 ≤ I6 23 5 ∧ I6 23 5 ≤ 1000 from gc_in hI6 R_23 rfl rfl)
  have f14 := (show 0 ≤ I6 23 6 ∧ I6 23 6 ≤ 1001 from gc_in hI6 R_23 rfl rfl)
  have f15 := (show 0 ≤ I6 23 7 ∧ I6 23 7 ≤ 125 from gc_in hI6 R_23 rfl rfl)
  obtain rfl : J = J7 := funext fun q => funext fun j => ((k5 q j).resolve_left id).symm
  have KLT_I6 := gc_LT_fr KLT_I ((g5 23 5).resolve_left (by omega)) ((g5 23 6).resolve_left (by omega)) ((g5 23 7).resolve_left (by omega)) (fun k => (g5 24 k).resolve_left (by omega))
  refine gv_callV hD rfl (As := [.inr (.inr (some a1))]) (st := []) rfl B_39 S_39 rfl (gc_lV6 hws rfl) (Nat.le_of_ble_eq_true rfl) (gz_Ev_mono (d := 3) (by decide) E5) ?_
  show gv_X _ _ (5, [(0, .inr (.inr (some 39))), (1, .inr (.inr (some a1)))], [.inl z5], sh, gc_h sh I6 J A)
  refine gv_if_ne (t := 10) hD rfl rfl ⟨by omega, by omega⟩ (fun c16 => ?_) (fun c16 => ?_)
  · show gv_X _ _ (10, [(0, .inr (.inr (some 39))), (1, .inr (.inr (some a1)))], [], sh, gc_h sh I6 J A)
    refine gv_run 1 true hD (pc' := 11) (lv' := [(0, .inr (.inr (some 39))), (1, .inr (.inr (some a1)))]) (st' := [.inr (.inr (some 39))]) (h' := gc_h sh I6 J A) (C := (True ∧ True)) rfl ⟨trivial, trivial⟩ ?_
    refine gv_get hD rfl rfl S_39 ⟨by decide, B_39⟩ (gc_hA S_39 rfl A_39_1) ?_
    show gv_X _ _ (14, [(0, .inr (.inr (some 39))), (1, .inr (.inr (some a1)))], [.inr (.inr (some 23))], sh, gc_h sh I6 J A)
    refine gv_get hD rfl rfl S_23 ⟨by decide, B_23⟩ (gc_hJ S_23 rfl) ?_
    show gv_X _ _ (17, [(0, .inr (.inr (some 39))), (1, .inr (.inr (some a1)))], [.inr (.inl (J 23 9))], sh, gc_h sh I6 J A)
    refine gv_run 2 true hD (pc' := 19) (lv' := [(2, .inr (.inl (J 23 9))), (0, .inr (.inr (some 39))), (1, .inr (.inr (some a1)))]) (st' := [.inr (.inr (some 39))]) (h' := gc_h sh I6 J A) (C := ((True ∧ True) ∧ True)) rfl ⟨⟨trivial, trivial⟩, trivial⟩ ?_
    refine gv_get hD rfl rfl S_39 ⟨by decide, B_39⟩ (gc_hA S_39 rfl A_39_1) ?_
    show gv_X _ _ (22, [(2, .inr (.inl (J 23 9))), (0, .inr (.inr (some 39))), (1, .inr (.inr (some a1)))], [.inr (.inr (some 23))], sh, gc_h sh I6 J A)
    obtain ⟨r17, h17, E17, P17⟩ := d_X9_advance (ws0 := ws0) (tb := tb) hws htb sh ro I6 J A hI6 23  (gc_b23 hb)    (by omega) 
    obtain ⟨I18, J19, rfl, hI18, g17, k17, ⟨rfl, q17⟩⟩ := P17
    have FI18 := gc_frc (W := fun q j => (q = 39 ∧ j = 3) ∨ (q = 39 ∧ j = 4) ∨ (q = 23 ∧ j = 5) ∨ (q = 23 ∧ j = 6) ∨ (q = 23 ∧ j = 7) ∨ (q = 23 ∧ j = 8) ∨ (q = a1 ∧ j = 1)) (V := fun q j => (q = 23 ∧ j = 5) ∨ (q = 23 ∧ j = 6) ∨ (q = 23 ∧ j = 7) ∨ (q = 23 ∧ j = 8)) FI6 (fun q j h => (h.elim (fun h => (Or.inr (Or.inr (Or.inl h)))) (fun h => (h.elim (fun h => (Or.inr (Or.inr (Or.inr (Or.inl h))))) (fun h => (h.elim (fun h => (Or.inr (Or.inr (Or.inr (Or.inr (Or.inl h)))))) (fun h => (Or.inr (Or.inr (Or.inr (Or.inr (Or.inr (Or.inl h))))))))))))) g17
    have FJ19 := gc_frc (W := fun q j => (q = 23 ∧ j = 9) ∨ q = (a1 + 1)) (V := fun q j => (q = 23 ∧ j = 9)) FJ (fun q j h => (Or.inl h)) k17
    have t20 := (g17 23 1).resolve_left (by omega)
    have f21 := (show 0 ≤ I18 23 1 ∧ I18 23 1 ≤ 1000 from gc_in hI18 R_23 rfl rfl)
    have f22 := (show 0 ≤ I18 23 5 ∧ I18 23 5 ≤ 1000 from gc_in hI18 R_23 rfl rfl)
    have f23 := (show 0 ≤ I18 23 6 ∧ I18 23 6 ≤ 1001 from gc_in hI18 R_23 rfl rfl)
    have f24 := (show 0 ≤ I18 23 7 ∧ I18 23 7 ≤ 125 from gc_in hI18 R_23 rfl rfl)
    have KLT_I18 : gc_LT I18 := q17.2.2.2.2.2.2.2
    refine gv_callV hD rfl (As := []) (st := []) rfl B_23 S_23 rfl (gc_lV6 hws rfl) (Nat.le_of_ble_eq_true rfl) (gz_Ev_mono (d := 2) (by decide) E17) ?_
    show gv_X _ _ (25, [(2, .inr (.inl (J 23 9))), (0, .inr (.inr (some 39))), (1, .inr (.inr (some a1)))], [], sh, gc_h sh I18 J19 A)
    refine gv_run 2 true hD (pc' := 27) (lv' := [(2, .inr (.inl (J 23 9))), (0, .inr (.inr (some 39))), (1, .inr (.inr (some a1)))]) (st' := [.inr (.inr (some a1)), .inr (.inr (some 39))]) (h' := gc_h sh I18 J19 A) (C := ((True ∧ True) ∧ True)) rfl ⟨⟨trivial, trivial⟩, trivial⟩ ?_
    obtain ⟨r25, h25, E25, P25⟩ := d_X4_isFull (ws0 := ws0) (tb := tb) hws htb sh ro I18 J19 A hI18 a1 n ρ  h_a1     
    obtain ⟨rfl, ⟨z25, rfl, q25⟩⟩ := P25
    refine gv_callV hD rfl (As := []) (st := [.inr (.inr (some 39))]) rfl B_a1 S_a1 rfl (gc_lV6 hws rfl) (Nat.le_of_ble_eq_true rfl) (gz_Ev_mono (d := 1) (by decide) E25) ?_
    show gv_X _ _ (30, [(2, .inr (.inl (J 23 9))), (0, .inr (.inr (some 39))), (1, .inr (.inr (some a1)))], [.inl z25, .inr (.inr (some 39))], sh, gc_h sh I18 J19 A)
    obtain ⟨r26, h26, E26, P26⟩ := d_X6_closes (ws0 := ws0) (tb := tb) hws htb sh ro I18 J19 A hI18  z25 hb   ⟨by omega, by omega⟩ (by omega) (by omega) (by omega) (by omega) (by omega) KLT_I18
    obtain ⟨I27, J28, rfl, hI27, g26, k26, KLT_I27, ⟨z26, rfl, q26⟩⟩ := P26
    have FI27 := gc_frc (W := fun q j => (q = 39 ∧ j = 3) ∨ (q = 39 ∧ j = 4) ∨ (q = 23 ∧ j = 5) ∨ (q = 23 ∧ j = 6) ∨ (q = 23 ∧ j = 7) ∨ (q = 23 ∧ j = 8) ∨ (q = a1 ∧ j = 1)) (V := fun q j => (q = 39 ∧ j = 3) ∨ (q = 39 ∧ j = 4) ∨ (q = 23 ∧ j = 5) ∨ (q = 23 ∧ j = 6) ∨ (q = 23 ∧ j = 7) ∨ (q = 23 ∧ j = 8)) FI18 (fun q j h => (h.elim (fun h => (Or.inl h)) (fun h => (h.elim (fun h => (Or.inr (Or.inl h))) (fun h => (h.elim (fun h => (Or.inr (Or.inr (Or.inl h)))) (fun h => (h.elim (fun h => (Or.inr (Or.inr (Or.inr (Or.inl h))))) (fun h => (h.elim (fun h => (Or.inr (Or.inr (Or.inr (Or.inr (Or.inl h)))))) (fun h => (Or.inr (Or.inr (Or.inr (Or.inr (Or.inr (Or.inl h))))))))))))))))) g26
    have FJ28 := gc_frc (W := fun q j => (q = 23 ∧ j = 9) ∨ q = (a1 + 1)) (V := fun q j => (q = 23 ∧ j = 9)) FJ19 (fun q j h => (Or.inl h)) k26
    have t29 := (g26 23 1).resolve_left (by omega)
    have f30 := (show 0 ≤ I27 23 1 ∧ I27 23 1 ≤ 1000 from gc_in hI27 R_23 rfl rfl)
    have f31 := (show 0 ≤ I27 23 5 ∧ I27 23 5 ≤ 1000 from gc_in hI27 R_23 rfl rfl)
    have f32 := (show 0 ≤ I27 23 6 ∧ I27 23 6 ≤ 1001 from gc_in hI27 R_23 rfl rfl)
    have f33 := (show 0 ≤ I27 23 7 ∧ I27 23 7 ≤ 125 from gc_in hI27 R_23 rfl rfl)
    refine gv_callV hD rfl (As := [.inl z25]) (st := []) rfl B_39 S_39 rfl (gc_lV6 hws rfl) (Nat.le_of_ble_eq_true rfl) (gz_Ev_mono (d := 4) (by decide) E26) ?_
    show gv_X _ _ (33, [(2, .inr (.inl (J 23 9))), (0, .inr (.inr (some 39))), (1, .inr (.inr (some a1)))], [.inl z26], sh, gc_h sh I27 J28 A)
    refine gv_if_ne (t := 38) hD rfl rfl ⟨by omega, by omega⟩ (fun c34 => ?_) (fun c34 => ?_)
    · show gv_X _ _ (38, [(2, .inr (.inl (J 23 9))), (0, .inr (.inr (some 39))), (1, .inr (.inr (some a1)))], [], sh, gc_h sh I27 J28 A)
      refine gv_run 2 true hD (pc' := 40) (lv' := [(2, .inr (.inl (J 23 9))), (0, .inr (.inr (some 39))), (1, .inr (.inr (some a1)))]) (st' := [.inr (.inl (J 23 9)), .inr (.inr (some a1))]) (h' := gc_h sh I27 J28 A) (C := ((True ∧ True) ∧ True)) rfl ⟨⟨trivial, trivial⟩, trivial⟩ ?_
      obtain ⟨r35, h35, E35, P35⟩ := d_X4_put (ws0 := ws0) (tb := tb) hws htb sh ro I27 J28 A hI27 a1 n ρ (J 23 9) h_a1     
      obtain ⟨I36, J37, rfl, hI36, g35, k35, ⟨rfl, q35⟩⟩ := P35
      have FI36 := gc_frc (W := fun q j => (q = 39 ∧ j = 3) ∨ (q = 39 ∧ j = 4) ∨ (q = 23 ∧ j = 5) ∨ (q = 23 ∧ j = 6) ∨ (q = 23 ∧ j = 7) ∨ (q = 23 ∧ j = 8) ∨ (q = a1 ∧ j = 1)) (V := fun q j => (q = a1 ∧ j = 1)) FI27 (fun q j h => (Or.inr (Or.inr (Or.inr (Or.inr (Or.inr (Or.inr h))))))) g35
      have FJ37 := gc_frc (W := fun q j => (q = 23 ∧ j = 9) ∨ q = (a1 + 1)) (V := fun q j => q = (a1 + 1)) FJ28 (fun q j h => (Or.inr h)) k35
      have t38 := (g35 23 1).resolve_left (by omega)
      have t39 := (g35 23 5).resolve_left (by omega)
      have t40 := (g35 23 6).resolve_left (by omega)
      have t41 := (g35 23 7).resolve_left (by omega)
      have f42 := (show 0 ≤ I36 23 1 ∧ I36 23 1 ≤ 1000 from gc_in hI36 R_23 rfl rfl)
      have f43 := (show 0 ≤ I36 23 5 ∧ I36 23 5 ≤ 1000 from gc_in hI36 R_23 rfl rfl)
      have f44 := (show 0 ≤ I36 23 6 ∧ I36 23 6 ≤ 1001 from gc_in hI36 R_23 rfl rfl)
      have f45 := (show 0 ≤ I36 23 7 ∧ I36 23 7 ≤ 125 from gc_in hI36 R_23 rfl rfl)
      have KLT_I36 := gc_LT_fr KLT_I27 ((g35 23 5).resolve_left (by omega)) ((g35 23 6).resolve_left (by omega)) ((g35 23 7).resolve_left (by omega)) (fun k => (g35 24 k).resolve_left (by omega))
      refine gv_callV hD rfl (As := [.inr (.inl (J 23 9))]) (st := []) rfl B_a1 S_a1 rfl (gc_lV6 hws rfl) (Nat.le_of_ble_eq_true rfl) (gz_Ev_mono (d := 1) (by decide) E35) ?_
      show gv_X _ _ (43, [(2, .inr (.inl (J 23 9))), (0, .inr (.inr (some 39))), (1, .inr (.inr (some a1)))], [], sh, gc_h sh I36 J37 A)
      refine gv_run 1 true hD (pc' := 44) (lv' := [(2, .inr (.inl (J 23 9))), (0, .inr (.inr (some 39))), (1, .inr (.inr (some a1)))]) (st' := [.inl 1]) (h' := gc_h sh I36 J37 A) (C := (True ∧ True)) rfl ⟨trivial, trivial⟩ ?_
      exact gv_zret hD rfl (by omega) ⟨I36, J37, rfl, hI36, FI36, FJ37, KLT_I36, ⟨_, rfl, by omega⟩⟩
    · show gv_X _ _ (36, [(2, .inr (.inl (J 23 9))), (0, .inr (.inr (some 39))), (1, .inr (.inr (some a1)))], [], sh, gc_h sh I27 J28 A)
      refine gv_run 1 true hD (pc' := 37) (lv' := [(2, .inr (.inl (J 23 9))), (0, .inr (.inr (some 39))), (1, .inr (.inr (some a1)))]) (st' := [.inl 0]) (h' := gc_h sh I27 J28 A) (C := (True ∧ True)) rfl ⟨trivial, trivial⟩ ?_
      exact gv_zret hD rfl (by omega) ⟨I27, J28, rfl, hI27, FI27, FJ28, KLT_I27, ⟨_, rfl, by omega⟩⟩
  · show gv_X _ _ (8, [(0, .inr (.inr (some 39))), (1, .inr (.inr (some a1)))], [], sh, gc_h sh I6 J A)
    refine gv_run 1 true hD (pc' := 9) (lv' := [(0, .inr (.inr (some 39))), (1, .inr (.inr (some a1)))]) (st' := [.inl 0]) (h' := gc_h sh I6 J A) (C := (True ∧ True)) rfl ⟨trivial, trivial⟩ ?_
    exact gv_zret hD rfl (by omega) ⟨I6, J, rfl, hI6, FI6, FJ, KLT_I6, ⟨_, rfl, by omega⟩⟩
