def gc_QU (I : gr_I) : Prop := ∀ k : Int, 0 ≤ k → k < I 100 17 → I 113 (Int.toNat (3 * k)) = 3 → I 113 (Int.toNat ((3 * k) + 1)) + I 113 (Int.toNat ((3 * k) + 2)) ≤ 1000
theorem gc_QU_fr {I I' : gr_I} (h : gc_QU I) (e : I' 100 17 = I 100 17) (r : ∀ k, I' 113 k = I 113 k) : gc_QU I' := fun k h0 h1 => by
  rw [r, r, r]
  exact h k h0 (by omega)
theorem gc_QU_0 {I : gr_I} (e : I 100 17 ≤ 0) : gc_QU I := fun k h0 h1 => by omega
set_option maxHeartbeats 8000000 in
theorem gc_QU_push {I I' : gr_I} {m : Int} (h : gc_QU I) (hm : I 100 17 = m) (h0 : 0 ≤ m) (e : I' 100 17 = m + 1) (r : ∀ k, k < 3 * Int.toNat m → I' 113 k = I 113 k) (hz : I' 113 (Int.toNat (3 * m)) = 3 → I' 113 (Int.toNat ((3 * m) + 1)) + I' 113 (Int.toNat ((3 * m) + 2)) ≤ 1000) : gc_QU I' := fun k h1 h2 => by
  by_cases hk : k = m
  · rw [hk]; exact hz
  · rw [r _ (by exact gz_m 0 (by omega)), r _ (by exact gz_m 1 (by omega)), r _ (by exact gz_m 2 (by omega))]
    exact h k h1 (by exact gz_m 3 (by omega))
set_option maxHeartbeats 8000000 in
set_option maxRecDepth 100000 in
theorem d_X1_searchWords {ws0 : List Cond} {tb : String → gz_T} (hws : gc_Ws ws0) (htb : gc_tbs tb) (sh : gz_Sh) (ro : Nat → Nat) (I : gr_I) (J : gr_J) (A : gc_A) (hI : gc_Inv ro I) (a1 : Int) (a2 : Nat) (a3 : Nat) (hb : gc_Base sh ro A) (h_a2 : gc_isTongue sh ro A a2) (G_a2 : 144 ≤ a2) (h_a3 : gc_isText sh ro A a3) (G_a3 : a3 + 3 < 39) (ha1 : 0 ≤ a1 ∧ a1 ≤ 99) (x0 : gc_SP 106 I) (x1 : gc_QU I) (x2 : 1 ≤ I 100 17) : ∃ r h', gz_Ev ws0 tb 4 (yX1_searchWords, cX1_searchWords, 7, none) [.inr (.inr (some 100)), .inl a1, .inr (.inr (some a2)), .inr (.inr (some a3))] sh (gc_h sh I J A) r sh h' 0 0 ∧ (∃ (I' : gr_I) (J' : gr_J), h' = gc_h sh I' J' A ∧ gc_Inv ro I' ∧ (∀ q j : Nat, (q = 110 ∨ q = 111 ∨ q = 112 ∨ (q = 100 ∧ j = 14) ∨ q = (a2 + 22)) ∨ I' q j = I q j) ∧ (∀ q j : Nat, (False) ∨ J' q j = J q j) ∧ r = none) := by
  have FI : ∀ q j : Nat, (q = 110 ∨ q = 111 ∨ q = 112 ∨ (q = 100 ∧ j = 14) ∨ q = (a2 + 22)) ∨ I q j = I q j := fun _ _ => Or.inr rfl
  have FJ : ∀ q j : Nat, (False) ∨ J q j = J q j := fun _ _ => Or.inr rfl
  have A_100_12 : A 100 12 = some 106 := gc_bA hb rfl
  have A_100_13 : A 100 13 = some 110 := gc_bA hb rfl
  have A_100_15 : A 100 15 = some 111 := gc_bA hb rfl
  have A_100_16 : A 100 16 = some 112 := gc_bA hb rfl
  have B_100 : 100 < 1000000 := by decide
  have B_106 : 106 < 1000000 := by decide
  have B_110 : 110 < 1000000 := by decide
  have B_111 : 111 < 1000000 := by decide
  have B_112 : 112 < 1000000 := by decide
  have R_100 : ro 100 = 75 := gc_bR hb (by decide) rfl
  have R_106 : ro 106 = 3 := gc_bR hb (by decide) rfl
  have R_110 : ro 110 = 0 := gc_bR hb (by decide) rfl
  have R_111 : ro 111 = 67 := gc_bR hb (by decide) rfl
  have R_112 : ro 112 = 65 := gc_bR hb (by decide) rfl
  have S_100 : sh[100]? = some (false, 1, 19) := gc_bS hb rfl
  have S_106 : sh[106]? = some (false, 9, 10) := gc_bS hb rfl
  have S_110 : sh[110]? = some (true, 1, 24) := gc_bS hb rfl
  have S_111 : sh[111]? = some (true, 1, 2400) := gc_bS hb rfl
  have S_112 : sh[112]? = some (true, 1, 2400) := gc_bS hb rfl
  obtain ⟨S_a2, R_a2, B_a2, A_a2_0, h_a2_1, A_a2_1, h_a2_3, A_a2_2, S_a2_5, R_a2_5, B_a2_5, A_a2_3, S_a2_6, R_a2_6, B_a2_6, A_a2_4, h_a2_7, A_a2_5, S_a2_9, R_a2_9, B_a2_9, A_a2_7, S_a2_10, R_a2_10, B_a2_10, A_a2_8, h_a2_11, A_a2_9, S_a2_13, R_a2_13, B_a2_13, A_a2_10, S_a2_14, R_a2_14, B_a2_14, A_a2_12, S_a2_15, R_a2_15, B_a2_15, A_a2_14, S_a2_16, R_a2_16, B_a2_16, A_a2_15, h_a2_17⟩ := id h_a2
  obtain ⟨S_a2_1, R_a2_1, B_a2_1, A_a2_1_0, S_a2_1_1, R_a2_1_1, B_a2_1_1, Q0_a2_1, Q1_a2_1, Q2_a2_1⟩ := id h_a2_1
  obtain ⟨S_a2_3, R_a2_3, B_a2_3, A_a2_3_0, S_a2_3_1, R_a2_3_1, B_a2_3_1, Q0_a2_3, Q1_a2_3, Q2_a2_3⟩ := id h_a2_3
  obtain ⟨S_a2_7, R_a2_7, B_a2_7, A_a2_7_0, S_a2_7_1, R_a2_7_1, B_a2_7_1, Q0_a2_7, Q1_a2_7, Q2_a2_7⟩ := id h_a2_7
  obtain ⟨S_a2_11, R_a2_11, B_a2_11, A_a2_11_0, S_a2_11_1, R_a2_11_1, B_a2_11_1, Q0_a2_11, Q1_a2_11, Q2_a2_11⟩ := id h_a2_11
  obtain ⟨S_a2_17, R_a2_17, B_a2_17, A_a2_17_0, S_20, R_20, B_20, A_a2_17_1, S_a2_17_1, R_a2_17_1, B_a2_17_1, A_a2_17_2, S_a2_17_2, R_a2_17_2, B_a2_17_2, A_a2_17_3, S_a2_17_3, R_a2_17_3, B_a2_17_3, A_a2_17_4, S_a2_17_4, R_a2_17_4, B_a2_17_4, A_a2_17_5, S_a2_17_5, R_a2_17_5, B_a2_17_5, S_a2_17_6, R_a2_17_6, B_a2_17_6, S_a2_17_7, R_a2_17_7, B_a2_17_7⟩ := id h_a2_17
  obtain ⟨S_a3, R_a3, B_a3, A_a3_0, S_a3_1, R_a3_1, B_a3_1, A_a3_2, S_a3_2, R_a3_2, B_a3_2, A_a3_3, S_a3_3, R_a3_3, B_a3_3⟩ := id h_a3
  have hD : gv_D (gc_E1 ws0 tb 3 (yX1_searchWords, cX1_searchWords, 7, none) kX1_searchWords) := gq_of oX1_searchWords
  refine gc_ev1 (d := 3) (l := kX1_searchWords) (Po := fun r h' => (∃ (I' : gr_I) (J' : gr_J), h' = gc_h sh I' J' A ∧ gc_Inv ro I' ∧ (∀ q j : Nat, (q = 110 ∨ q = 111 ∨ q = 112 ∨ (q = 100 ∧ j = 14) ∨ q = (a2 + 22)) ∨ I' q j = I q j) ∧ (∀ q j : Nat, (False) ∨ J' q j = J q j) ∧ r = none)) htb rfl (Nat.le_of_ble_eq_true rfl) ?_
  have N_106__a2_22 : ¬ (106 = (a2 + 22)) := by exact gz_m 0 (by omega)
  have N_106_2__110 : ¬ ((106 + 2) = 110) := by exact gz_m 1 (by omega)
  have N_106_2__111 : ¬ ((106 + 2) = 111) := by exact gz_m 2 (by omega)
  have N_106_2__112 : ¬ ((106 + 2) = 112) := by exact gz_m 3 (by omega)
  have N_106_2__100 : ¬ ((106 + 2) = 100) := by exact gz_m 4 (by omega)
  have N_106_2__a2_22 : ¬ ((106 + 2) = (a2 + 22)) := by exact gz_m 5 (by omega)
  have N_106_3__110 : ¬ ((106 + 3) = 110) := by exact gz_m 6 (by omega)
  have N_106_3__111 : ¬ ((106 + 3) = 111) := by exact gz_m 7 (by omega)
  have N_106_3__112 : ¬ ((106 + 3) = 112) := by exact gz_m 8 (by omega)
  have N_106_3__100 : ¬ ((106 + 3) = 100) := by exact gz_m 9 (by omega)
  have N_106_3__a2_22 : ¬ ((106 + 3) = (a2 + 22)) := by exact gz_m 10 (by omega)
  have N_100__a2_22 : ¬ (100 = (a2 + 22)) := by exact gz_m 11 (by omega)
  have N_113__a2_22 : ¬ (113 = (a2 + 22)) := by exact gz_m 12 (by omega)
  have f1 := (show 0 ≤ I 106 4 ∧ I 106 4 ≤ 24 from gc_in hI R_106 rfl rfl)
  have f2 := (show 0 ≤ I 100 17 ∧ I 100 17 ≤ 8 from gc_in hI R_100 rfl rfl)
  have f3 := (show 0 ≤ I 100 14 ∧ I 100 14 ≤ 2400 from gc_in hI R_100 rfl rfl)
  have L3 : ∀ (n9 : Nat) (I4 : gr_I) (J5 : gr_J) (v4_6 : Int), (25 - v4_6).toNat < n9 → gc_Inv ro I4 → (∀ q j : Nat, (q = 110 ∨ q = 111 ∨ q = 112 ∨ (q = 100 ∧ j = 14) ∨ q = (a2 + 22)) ∨ I4 q j = I q j) → (∀ q j : Nat, (False) ∨ J5 q j = J q j) → ((0 ≤ a1 ∧ a1 ≤ 99) ∧ (0 ≤ v4_6 ∧ v4_6 ≤ 24) ∧ (I4 106 4 = I 106 4) ∧ (I4 100 17 = I 100 17)) → gv_X (gc_E1 ws0 tb 3 (yX1_searchWords, cX1_searchWords, 7, none) kX1_searchWords) (gv_Q cX1_searchWords none sh (fun r h' => (∃ (I' : gr_I) (J' : gr_J), h' = gc_h sh I' J' A ∧ gc_Inv ro I' ∧ (∀ q j : Nat, (q = 110 ∨ q = 111 ∨ q = 112 ∨ (q = 100 ∧ j = 14) ∨ q = (a2 + 22)) ∨ I' q j = I q j) ∧ (∀ q j : Nat, (False) ∨ J' q j = J q j) ∧ r = none))) (3, [(0, .inr (.inr (some 100))), (1, .inl a1), (2, .inr (.inr (some a2))), (3, .inr (.inr (some a3))), (4, .inl v4_6)], [], sh, gc_h sh I4 J5 A) := by
    intro n9
    induction n9 with
    | zero => intro I4 J5 v4_6 hn; exact gz_m 13 (by omega)
    | succ n9 ih3 =>
      intro I4 J5 v4_6 hn hI4 FI4 FJ5 m_6
      obtain ⟨ha1_6, hv4_6, e0_6, e1_6⟩ := m_6
      have f7 := (show 0 ≤ I4 106 4 ∧ I4 106 4 ≤ 24 from gc_in hI4 R_106 rfl rfl)
      have f8 := (show 0 ≤ I4 100 17 ∧ I4 100 17 ≤ 8 from gc_in hI4 R_100 rfl rfl)
      have f9 := (show 0 ≤ I4 100 14 ∧ I4 100 14 ≤ 2400 from gc_in hI4 R_100 rfl rfl)
      have L38 : ∀ (n9 : Nat) (I10 : gr_I) (J11 : gr_J) (v4_12 : Int), (25 - v4_12).toNat < n9 → gc_Inv ro I10 → (∀ q j : Nat, (q = 110 ∨ q = 111 ∨ q = 112 ∨ (q = 100 ∧ j = 14) ∨ q = (a2 + 22)) ∨ I10 q j = I q j) → (∀ q j : Nat, (False) ∨ J11 q j = J q j) → ((0 ≤ a1 ∧ a1 ≤ 99) ∧ (0 ≤ v4_12 ∧ v4_12 ≤ 24) ∧ (I10 106 4 = I 106 4) ∧ (I10 100 17 = I 100 17)) → gv_X (gc_E1 ws0 tb 3 (yX1_searchWords, cX1_searchWords, 7, none) kX1_searchWords) (gv_Q cX1_searchWords none sh (fun r h' => (∃ (I' : gr_I) (J' : gr_J), h' = gc_h sh I' J' A ∧ gc_Inv ro I' ∧ (∀ q j : Nat, (q = 110 ∨ q = 111 ∨ q = 112 ∨ (q = 100 ∧ j = 14) ∨ q = (a2 + 22)) ∨ I' q j = I q j) ∧ (∀ q j : Nat, (False) ∨ J' q j = J q j) ∧ r = none))) (38, [(0, .inr (.inr (some 100))), (1, .inl a1), (3, .inr (.inr (some a3))), (4, .inl v4_12)], [], sh, gc_h sh I10 J11 A) := by
        intro n9
        induction n9 with
        | zero => intro I10 J11 v4_12 hn; exact gz_m 14 (by omega)
        | succ n9 ih38 =>
          intro I10 J11 v4_12 hn hI10 FI10 FJ11 m_12
          clear ha1_6 hv4_6 e0_6 e1_6 f7 f8 f9
          obtain ⟨ha1_12, hv4_12, e0_12, e1_12⟩ := m_12
          have f13 := (show 0 ≤ I10 106 4 ∧ I10 106 4 ≤ 24 from gc_in hI10 R_106 rfl rfl)
          have f14 := (show 0 ≤ I10 100 17 ∧ I10 100 17 ≤ 8 from gc_in hI10 R_100 rfl rfl)
          have f15 := (show 0 ≤ I10 100 14 ∧ I10 100 14 ≤ 2400 from gc_in hI10 R_100 rfl rfl)
          have L61 : ∀ (n9 : Nat) (v5_16 : Int) (v6_16 : Int), (9 - v6_16).toNat < n9 → ((0 ≤ a1 ∧ a1 ≤ 99) ∧ (0 ≤ v4_12 ∧ v4_12 ≤ 24) ∧ (0 ≤ v5_16 ∧ v5_16 ≤ 1) ∧ (0 ≤ v6_16 ∧ v6_16 ≤ 8) ∧ (v4_12 + I10 100 17 ≤ I10 106 4) ∧ (v6_16 ≤ I10 100 17) ∧ (I10 106 4 = I 106 4) ∧ (I10 100 17 = I 100 17)) → gv_X (gc_E1 ws0 tb 3 (yX1_searchWords, cX1_searchWords, 7, none) kX1_searchWords) (gv_Q cX1_searchWords none sh (fun r h' => (∃ (I' : gr_I) (J' : gr_J), h' = gc_h sh I' J' A ∧ gc_Inv ro I' ∧ (∀ q j : Nat, (q = 110 ∨ q = 111 ∨ q = 112 ∨ (q = 100 ∧ j = 14) ∨ q = (a2 + 22)) ∨ I' q j = I q j) ∧ (∀ q j : Nat, (False) ∨ J' q j = J q j) ∧ r = none))) (61, [(0, .inr (.inr (some 100))), (1, .inl a1), (3, .inr (.inr (some a3))), (4, .inl v4_12), (5, .inl v5_16), (6, .inl v6_16)], [], sh, gc_h sh I10 J11 A) := by
            intro n9
            induction n9 with
            | zero => intro v5_16 v6_16 hn; exact gz_m 15 (by omega)
            | succ n9 ih61 =>
              intro v5_16 v6_16 hn m_16
              obtain ⟨ha1_16, hv4_12_16, hv5_16, hv6_16, e0_16, e1_16, e2_16, e3_16⟩ := m_16
              have f17 := (show 0 ≤ I10 106 4 ∧ I10 106 4 ≤ 24 from gc_in hI10 R_106 rfl rfl)
              have f18 := (show 0 ≤ I10 100 17 ∧ I10 100 17 ≤ 8 from gc_in hI10 R_100 rfl rfl)
              have f19 := (show 0 ≤ I10 100 14 ∧ I10 100 14 ≤ 2400 from gc_in hI10 R_100 rfl rfl)
              have L95 : ((0 ≤ a1 ∧ a1 ≤ 99) ∧ (0 ≤ v4_12 ∧ v4_12 ≤ 24) ∧ (0 ≤ v5_16 ∧ v5_16 ≤ 1) ∧ (v4_12 + I10 100 17 ≤ I10 106 4) ∧ (I10 106 4 = I 106 4) ∧ (I10 100 17 = I 100 17)) → gv_X (gc_E1 ws0 tb 3 (yX1_searchWords, cX1_searchWords, 7, none) kX1_searchWords) (gv_Q cX1_searchWords none sh (fun r h' => (∃ (I' : gr_I) (J' : gr_J), h' = gc_h sh I' J' A ∧ gc_Inv ro I' ∧ (∀ q j : Nat, (q = 110 ∨ q = 111 ∨ q = 112 ∨ (q = 100 ∧ j = 14) ∨ q = (a2 + 22)) ∨ I' q j = I q j) ∧ (∀ q j : Nat, (False) ∨ J' q j = J q j) ∧ r = none))) (95, [(0, .inr (.inr (some 100))), (1, .inl a1), (3, .inr (.inr (some a3))), (4, .inl v4_12), (5, .inl v5_16)], [], sh, gc_h sh I10 J11 A) := by
                intro m_20
                obtain ⟨ha1_20, hv4_12_20, hv5_16_20, e0_20, e1_20, e2_20⟩ := m_20
                have f21 := (show 0 ≤ I10 106 4 ∧ I10 106 4 ≤ 24 from gc_in hI10 R_106 rfl rfl)
                have f22 := (show 0 ≤ I10 100 17 ∧ I10 100 17 ≤ 8 from gc_in hI10 R_100 rfl rfl)
                have f23 := (show 0 ≤ I10 100 14 ∧ I10 100 14 ≤ 2400 from gc_in hI10 R_100 rfl rfl)
                have L143 : ∀ (I24 : gr_I) (J25 : gr_J) , gc_Inv ro I24 → (∀ q j : Nat, (q = 110 ∨ q = 111 ∨ q = 112 ∨ (q = 100 ∧ j = 14) ∨ q = (a2 + 22)) ∨ I24 q j = I q j) → (∀ q j : Nat, (False) ∨ J25 q j = J q j) → ((0 ≤ a1 ∧ a1 ≤ 99) ∧ (0 ≤ v4_12 ∧ v4_12 ≤ 24) ∧ (v4_12 + I24 100 17 ≤ I24 106 4) ∧ (I24 106 4 = I 106 4) ∧ (I24 100 17 = I 100 17)) → gv_X (gc_E1 ws0 tb 3 (yX1_searchWords, cX1_searchWords, 7, none) kX1_searchWords) (gv_Q cX1_searchWords none sh (fun r h' => (∃ (I' : gr_I) (J' : gr_J), h' = gc_h sh I' J' A ∧ gc_Inv ro I' ∧ (∀ q j : Nat, (q = 110 ∨ q = 111 ∨ q = 112 ∨ (q = 100 ∧ j = 14) ∨ q = (a2 + 22)) ∨ I' q j = I q j) ∧ (∀ q j : Nat, (False) ∨ J' q j = J q j) ∧ r = none))) (143, [(0, .inr (.inr (some 100))), (1, .inl a1), (3, .inr (.inr (some a3))), (4, .inl v4_12)], [], sh, gc_h sh I24 J25 A) := by
                  intro I24 J25 hI24 FI24 FJ25 m_26
                  clear ha1_20 hv4_12_20 hv5_16_20 e0_20 e1_20 e2_20 f21 f22 f23 ha1_16 hv4_12_16 hv5_16 hv6_16 e0_16 e1_16 e2_16 e3_16 f17 f18 f19 ha1_12 hv4_12 e0_12 e1_12 f13 f14 f15
                  obtain ⟨ha1_26, hv4_12_26, e0_26, e1_26, e2_26⟩ := m_26
                  have f27 := (show 0 ≤ I24 106 4 ∧ I24 106 4 ≤ 24 from gc_in hI24 R_106 rfl rfl)
                  have f28 := (show 0 ≤ I24 100 17 ∧ I24 100 17 ≤ 8 from gc_in hI24 R_100 rfl rfl)
                  have f29 := (show 0 ≤ I24 100 14 ∧ I24 100 14 ≤ 2400 from gc_in hI24 R_100 rfl rfl)
                  refine gv_run 2 true hD (pc' := 38) (lv' := [(4, .inl (v4_12 + 1)), (0, .inr (.inr (some 100))), (1, .inl a1), (3, .inr (.inr (some a3)))]) (st' := []) (h' := gc_h sh I24 J25 A) (C := ((True ∧ True) ∧ True)) rfl ⟨⟨trivial, trivial⟩, trivial⟩ ?_
                  refine gv_pick [1, 2, 3, 0] rfl ?_
                  exact ih38 I24 J25 (v4_12 + 1) (by exact gz_m 16 (by omega)) hI24 FI24 FJ25 (by exact gz_m 17 (by omega))
                refine gv_run 1 true hD (pc' := 97) (lv' := [(0, .inr (.inr (some 100))), (1, .inl a1), (3, .inr (.inr (some a3))), (4, .inl v4_12), (5, .inl v5_16)]) (st' := [.inl v5_16]) (h' := gc_h sh I10 J11 A) (C := (True ∧ True)) rfl ⟨trivial, trivial⟩ ?_
                refine gv_if_eq (t := 143) hD rfl rfl ⟨by exact gz_m 18 (by omega), by exact gz_m 19 (by omega)⟩ (fun c30 => ?_) (fun c30 => ?_)
                · show gv_X _ _ (143, [(0, .inr (.inr (some 100))), (1, .inl a1), (3, .inr (.inr (some a3))), (4, .inl v4_12), (5, .inl v5_16)], [], sh, gc_h sh I10 J11 A)
                  refine gv_pick [0, 1, 2, 3] rfl ?_
                  exact L143 I10 J11 hI10 FI10 FJ11 (by exact gz_m 20 (by omega))
                · show gv_X _ _ (100, [(0, .inr (.inr (some 100))), (1, .inl a1), (3, .inr (.inr (some a3))), (4, .inl v4_12), (5, .inl v5_16)], [], sh, gc_h sh I10 J11 A)
                  refine gv_run 1 true hD (pc' := 101) (lv' := [(0, .inr (.inr (some 100))), (1, .inl a1), (3, .inr (.inr (some a3))), (4, .inl v4_12), (5, .inl v5_16)]) (st' := [.inr (.inr (some 100))]) (h' := gc_h sh I10 J11 A) (C := (True ∧ True)) rfl ⟨trivial, trivial⟩ ?_
                  have f31 := (show 0 ≤ I10 100 14 ∧ I10 100 14 ≤ 2400 from gc_in hI10 R_100 rfl rfl)
                  refine gv_get hD rfl rfl S_100 ⟨by decide, B_100⟩ (gc_hI S_100 rfl) ?_
                  show gv_X _ _ (104, [(0, .inr (.inr (some 100))), (1, .inl a1), (3, .inr (.inr (some a3))), (4, .inl v4_12), (5, .inl v5_16)], [.inl (I10 100 14)], sh, gc_h sh I10 J11 A)
                  refine gv_run 1 true hD (pc' := 105) (lv' := [(0, .inr (.inr (some 100))), (1, .inl a1), (3, .inr (.inr (some a3))), (4, .inl v4_12), (5, .inl v5_16)]) (st' := [.inr (.inr (some 100)), .inl (I10 100 14)]) (h' := gc_h sh I10 J11 A) (C := (True ∧ True)) rfl ⟨trivial, trivial⟩ ?_
                  refine gv_get hD rfl rfl S_100 ⟨by decide, B_100⟩ (gc_hA S_100 rfl A_100_16) ?_
                  show gv_X _ _ (108, [(0, .inr (.inr (some 100))), (1, .inl a1), (3, .inr (.inr (some a3))), (4, .inl v4_12), (5, .inl v5_16)], [.inr (.inr (some 112)), .inl (I10 100 14)], sh, gc_h sh I10 J11 A)
                  refine gv_len hD rfl S_112 ⟨by decide, B_112⟩ ?_
                  show gv_X _ _ (109, [(0, .inr (.inr (some 100))), (1, .inl a1), (3, .inr (.inr (some a3))), (4, .inl v4_12), (5, .inl v5_16)], [.inl 2400, .inl (I10 100 14)], sh, gc_h sh I10 J11 A)
                  refine gv_icmp_ge (t := 143) hD rfl rfl ⟨⟨by exact gz_m 21 (by omega), by exact gz_m 22 (by omega)⟩, ⟨by exact gz_m 23 (by omega), by exact gz_m 24 (by omega)⟩⟩ (fun c32 => ?_) (fun c32 => ?_)
                  · show gv_X _ _ (143, [(0, .inr (.inr (some 100))), (1, .inl a1), (3, .inr (.inr (some a3))), (4, .inl v4_12), (5, .inl v5_16)], [], sh, gc_h sh I10 J11 A)
                    refine gv_pick [0, 1, 2, 3] rfl ?_
                    exact L143 I10 J11 hI10 FI10 FJ11 (by exact gz_m 25 (by omega))
                  · show gv_X _ _ (112, [(0, .inr (.inr (some 100))), (1, .inl a1), (3, .inr (.inr (some a3))), (4, .inl v4_12), (5, .inl v5_16)], [], sh, gc_h sh I10 J11 A)
                    refine gv_run 1 true hD (pc' := 113) (lv' := [(0, .inr (.inr (some 100))), (1, .inl a1), (3, .inr (.inr (some a3))), (4, .inl v4_12), (5, .inl v5_16)]) (st' := [.inr (.inr (some 100))]) (h' := gc_h sh I10 J11 A) (C := (True ∧ True)) rfl ⟨trivial, trivial⟩ ?_
                    refine gv_get hD rfl rfl S_100 ⟨by decide, B_100⟩ (gc_hA S_100 rfl A_100_15) ?_
                    show gv_X _ _ (116, [(0, .inr (.inr (some 100))), (1, .inl a1), (3, .inr (.inr (some a3))), (4, .inl v4_12), (5, .inl v5_16)], [.inr (.inr (some 111))], sh, gc_h sh I10 J11 A)
                    refine gv_run 1 true hD (pc' := 117) (lv' := [(0, .inr (.inr (some 100))), (1, .inl a1), (3, .inr (.inr (some a3))), (4, .inl v4_12), (5, .inl v5_16)]) (st' := [.inr (.inr (some 100)), .inr (.inr (some 111))]) (h' := gc_h sh I10 J11 A) (C := (True ∧ True)) rfl ⟨trivial, trivial⟩ ?_
                    have f33 := (show 0 ≤ I10 100 14 ∧ I10 100 14 ≤ 2400 from gc_in hI10 R_100 rfl rfl)
                    refine gv_get hD rfl rfl S_100 ⟨by decide, B_100⟩ (gc_hI S_100 rfl) ?_
                    show gv_X _ _ (120, [(0, .inr (.inr (some 100))), (1, .inl a1), (3, .inr (.inr (some a3))), (4, .inl v4_12), (5, .inl v5_16)], [.inl (I10 100 14), .inr (.inr (some 111))], sh, gc_h sh I10 J11 A)
                    refine gv_run 1 true hD (pc' := 121) (lv' := [(0, .inr (.inr (some 100))), (1, .inl a1), (3, .inr (.inr (some a3))), (4, .inl v4_12), (5, .inl v5_16)]) (st' := [.inl a1, .inl (I10 100 14), .inr (.inr (some 111))]) (h' := gc_h sh I10 J11 A) (C := (True ∧ True)) rfl ⟨trivial, trivial⟩ ?_
                    refine gv_iast hD rfl S_111 ⟨by decide, B_111⟩ ⟨by exact gz_m 26 (by omega), by exact gz_m 27 (by omega)⟩ ?_
                    refine gc_st hI10 S_111 rfl R_111 (lo := 0) (hi := 99) rfl rfl (by exact gz_m 28 (by omega)) (by exact gz_m 29 (by omega)) (fun I34 hI34 q35 p35 => ?_)
                    have FI34 := gc_frs (W := fun q j => q = 110 ∨ q = 111 ∨ q = 112 ∨ (q = 100 ∧ j = 14) ∨ q = (a2 + 22)) FI10 (Or.inr (Or.inl rfl)) p35
                    have t36 := p35 106 4 (fun h => absurd h.1 (by decide))
                    have t37 := p35 100 17 (fun h => absurd h.1 (by decide))
                    have t38 := p35 100 14 (fun h => absurd h.1 (by decide))
                    show gv_X _ _ (122, [(0, .inr (.inr (some 100))), (1, .inl a1), (3, .inr (.inr (some a3))), (4, .inl v4_12), (5, .inl v5_16)], [], sh, gc_h sh I34 J11 A)
                    refine gv_run 1 true hD (pc' := 123) (lv' := [(0, .inr (.inr (some 100))), (1, .inl a1), (3, .inr (.inr (some a3))), (4, .inl v4_12), (5, .inl v5_16)]) (st' := [.inr (.inr (some 100))]) (h' := gc_h sh I34 J11 A) (C := (True ∧ True)) rfl ⟨trivial, trivial⟩ ?_
                    refine gv_get hD rfl rfl S_100 ⟨by decide, B_100⟩ (gc_hA S_100 rfl A_100_16) ?_
                    show gv_X _ _ (126, [(0, .inr (.inr (some 100))), (1, .inl a1), (3, .inr (.inr (some a3))), (4, .inl v4_12), (5, .inl v5_16)], [.inr (.inr (some 112))], sh, gc_h sh I34 J11 A)
                    refine gv_run 1 true hD (pc' := 127) (lv' := [(0, .inr (.inr (some 100))), (1, .inl a1), (3, .inr (.inr (some a3))), (4, .inl v4_12), (5, .inl v5_16)]) (st' := [.inr (.inr (some 100)), .inr (.inr (some 112))]) (h' := gc_h sh I34 J11 A) (C := (True ∧ True)) rfl ⟨trivial, trivial⟩ ?_
                    have f39 := (show 0 ≤ I34 100 14 ∧ I34 100 14 ≤ 2400 from gc_in hI34 R_100 rfl rfl)
                    refine gv_get hD rfl rfl S_100 ⟨by decide, B_100⟩ (gc_hI S_100 rfl) ?_
                    show gv_X _ _ (130, [(0, .inr (.inr (some 100))), (1, .inl a1), (3, .inr (.inr (some a3))), (4, .inl v4_12), (5, .inl v5_16)], [.inl (I34 100 14), .inr (.inr (some 112))], sh, gc_h sh I34 J11 A)
                    refine gv_run 1 true hD (pc' := 132) (lv' := [(0, .inr (.inr (some 100))), (1, .inl a1), (3, .inr (.inr (some a3))), (4, .inl v4_12), (5, .inl v5_16)]) (st' := [.inl v4_12, .inl (I34 100 14), .inr (.inr (some 112))]) (h' := gc_h sh I34 J11 A) (C := (True ∧ True)) rfl ⟨trivial, trivial⟩ ?_
                    refine gv_iast hD rfl S_112 ⟨by decide, B_112⟩ ⟨by exact gz_m 30 (by omega), by exact gz_m 31 (by omega)⟩ ?_
                    refine gc_st hI34 S_112 rfl R_112 (lo := 0) (hi := 23) rfl rfl (by exact gz_m 32 (by omega)) (by exact gz_m 33 (by omega)) (fun I40 hI40 q41 p41 => ?_)
                    have FI40 := gc_frs (W := fun q j => q = 110 ∨ q = 111 ∨ q = 112 ∨ (q = 100 ∧ j = 14) ∨ q = (a2 + 22)) FI34 (Or.inr (Or.inr (Or.inl rfl))) p41
                    have t42 := p41 106 4 (fun h => absurd h.1 (by decide))
                    have t43 := p41 100 17 (fun h => absurd h.1 (by decide))
                    have t44 := p41 100 14 (fun h => absurd h.1 (by decide))
                    show gv_X _ _ (133, [(0, .inr (.inr (some 100))), (1, .inl a1), (3, .inr (.inr (some a3))), (4, .inl v4_12), (5, .inl v5_16)], [], sh, gc_h sh I40 J11 A)
                    refine gv_run 2 true hD (pc' := 135) (lv' := [(0, .inr (.inr (some 100))), (1, .inl a1), (3, .inr (.inr (some a3))), (4, .inl v4_12), (5, .inl v5_16)]) (st' := [.inr (.inr (some 100)), .inr (.inr (some 100))]) (h' := gc_h sh I40 J11 A) (C := ((True ∧ True) ∧ True)) rfl ⟨⟨trivial, trivial⟩, trivial⟩ ?_
                    have f45 := (show 0 ≤ I40 100 14 ∧ I40 100 14 ≤ 2400 from gc_in hI40 R_100 rfl rfl)
                    refine gv_get hD rfl rfl S_100 ⟨by decide, B_100⟩ (gc_hI S_100 rfl) ?_
                    show gv_X _ _ (138, [(0, .inr (.inr (some 100))), (1, .inl a1), (3, .inr (.inr (some a3))), (4, .inl v4_12), (5, .inl v5_16)], [.inl (I40 100 14), .inr (.inr (some 100))], sh, gc_h sh I40 J11 A)
                    refine gv_run 2 true hD (pc' := 140) (lv' := [(0, .inr (.inr (some 100))), (1, .inl a1), (3, .inr (.inr (some a3))), (4, .inl v4_12), (5, .inl v5_16)]) (st' := [.inl ((I40 100 14) + 1), .inr (.inr (some 100))]) (h' := gc_h sh I40 J11 A) (C := ((True ∧ True) ∧ True)) rfl ⟨⟨trivial, trivial⟩, trivial⟩ ?_
                    refine gv_put hD rfl rfl S_100 ⟨by decide, B_100⟩ rfl trivial ?_
                    refine gc_st (k := 14) hI40 S_100 rfl R_100 (lo := 0) (hi := 2400) rfl rfl (by exact gz_m 34 (by omega)) (by exact gz_m 35 (by omega)) (fun I46 hI46 q47 p47 => ?_)
                    have FI46 := gc_frs (W := fun q j => q = 110 ∨ q = 111 ∨ q = 112 ∨ (q = 100 ∧ j = 14) ∨ q = (a2 + 22)) FI40 (Or.inr (Or.inr (Or.inr (Or.inl ⟨rfl, rfl⟩)))) p47
                    have t48 := p47 106 4 (fun h => absurd h.2 (by decide))
                    have t49 := p47 100 17 (fun h => absurd h.2 (by decide))
                    have f50 := (show 0 ≤ I46 100 14 ∧ I46 100 14 ≤ 2400 from gc_in hI46 R_100 rfl rfl)
                    show gv_X _ _ (143, [(0, .inr (.inr (some 100))), (1, .inl a1), (3, .inr (.inr (some a3))), (4, .inl v4_12), (5, .inl v5_16)], [], sh, gc_h sh I46 J11 A)
                    refine gv_pick [0, 1, 2, 3] rfl ?_
                    exact L143 I46 J11 hI46 FI46 FJ11 (by exact gz_m 36 (by omega))
              refine gv_run 2 true hD (pc' := 64) (lv' := [(0, .inr (.inr (some 100))), (1, .inl a1), (3, .inr (.inr (some a3))), (4, .inl v4_12), (5, .inl v5_16), (6, .inl v6_16)]) (st' := [.inr (.inr (some 100)), .inl v6_16]) (h' := gc_h sh I10 J11 A) (C := ((True ∧ True) ∧ True)) rfl ⟨⟨trivial, trivial⟩, trivial⟩ ?_
              have f51 := (show 0 ≤ I10 100 17 ∧ I10 100 17 ≤ 8 from gc_in hI10 R_100 rfl rfl)
              refine gv_get hD rfl rfl S_100 ⟨by decide, B_100⟩ (gc_hI S_100 rfl) ?_
              show gv_X _ _ (67, [(0, .inr (.inr (some 100))), (1, .inl a1), (3, .inr (.inr (some a3))), (4, .inl v4_12), (5, .inl v5_16), (6, .inl v6_16)], [.inl (I10 100 17), .inl v6_16], sh, gc_h sh I10 J11 A)
              refine gv_icmp_ge (t := 95) hD rfl rfl ⟨⟨by exact gz_m 37 (by omega), by exact gz_m 38 (by omega)⟩, ⟨by exact gz_m 39 (by omega), by exact gz_m 40 (by omega)⟩⟩ (fun c52 => ?_) (fun c52 => ?_)
              · show gv_X _ _ (95, [(0, .inr (.inr (some 100))), (1, .inl a1), (3, .inr (.inr (some a3))), (4, .inl v4_12), (5, .inl v5_16), (6, .inl v6_16)], [], sh, gc_h sh I10 J11 A)
                refine gv_pick [0, 1, 2, 3, 4] rfl ?_
                exact L95 (by exact gz_m 41 (by omega))
              · show gv_X _ _ (70, [(0, .inr (.inr (some 100))), (1, .inl a1), (3, .inr (.inr (some a3))), (4, .inl v4_12), (5, .inl v5_16), (6, .inl v6_16)], [], sh, gc_h sh I10 J11 A)
                refine gv_run 1 true hD (pc' := 72) (lv' := [(0, .inr (.inr (some 100))), (1, .inl a1), (3, .inr (.inr (some a3))), (4, .inl v4_12), (5, .inl v5_16), (6, .inl v6_16)]) (st' := [.inl v5_16]) (h' := gc_h sh I10 J11 A) (C := (True ∧ True)) rfl ⟨trivial, trivial⟩ ?_
                refine gv_if_eq (t := 95) hD rfl rfl ⟨by exact gz_m 42 (by omega), by exact gz_m 43 (by omega)⟩ (fun c53 => ?_) (fun c53 => ?_)
                · show gv_X _ _ (95, [(0, .inr (.inr (some 100))), (1, .inl a1), (3, .inr (.inr (some a3))), (4, .inl v4_12), (5, .inl v5_16), (6, .inl v6_16)], [], sh, gc_h sh I10 J11 A)
                  refine gv_pick [0, 1, 2, 3, 4] rfl ?_
                  exact L95 (by exact gz_m 44 (by omega))
                · show gv_X _ _ (75, [(0, .inr (.inr (some 100))), (1, .inl a1), (3, .inr (.inr (some a3))), (4, .inl v4_12), (5, .inl v5_16), (6, .inl v6_16)], [], sh, gc_h sh I10 J11 A)
                  refine gv_run 6 true hD (pc' := 84) (lv' := [(0, .inr (.inr (some 100))), (1, .inl a1), (3, .inr (.inr (some a3))), (4, .inl v4_12), (5, .inl v5_16), (6, .inl v6_16)]) (st' := [.inr (.inr (some a3)), .inl (v4_12 + v6_16), .inl v6_16, .inr (.inr (some 100))]) (h' := gc_h sh I10 J11 A) (C := ((((((True ∧ True) ∧ True) ∧ True) ∧ True) ∧ True) ∧ True)) rfl ⟨⟨⟨⟨⟨⟨trivial, trivial⟩, trivial⟩, trivial⟩, trivial⟩, trivial⟩, trivial⟩ ?_
                  obtain ⟨r54, h54, E54, P54⟩ := d_X1_fitsAt (ws0 := ws0) (tb := tb) hws htb sh ro I10 J11 A hI10  v6_16 (v4_12 + v6_16) a3 hb h_a3  ⟨by exact gz_m 45 (by omega), by exact gz_m 46 (by omega)⟩ ⟨by exact gz_m 47 (by omega), by exact gz_m 48 (by omega)⟩ (gc_SP_fr x0 ((FI10 106 4).resolve_left (fun h => h.elim (fun h => absurd h (by decide)) (fun h => h.elim (fun h => absurd h (by decide)) (fun h => h.elim (fun h => absurd h (by decide)) (fun h => h.elim (fun h => absurd h.2 (by decide)) (fun h => absurd h N_106__a2_22)))))) (fun k => (FI10 (106 + 2) k).resolve_left (fun h => h.elim (fun h => absurd h N_106_2__110) (fun h => h.elim (fun h => absurd h N_106_2__111) (fun h => h.elim (fun h => absurd h N_106_2__112) (fun h => h.elim (fun h => absurd h.1 N_106_2__100) (fun h => absurd h N_106_2__a2_22)))))) (fun k => (FI10 (106 + 3) k).resolve_left (fun h => h.elim (fun h => absurd h N_106_3__110) (fun h => h.elim (fun h => absurd h N_106_3__111) (fun h => h.elim (fun h => absurd h N_106_3__112) (fun h => h.elim (fun h => absurd h.1 N_106_3__100) (fun h => absurd h N_106_3__a2_22))))))) (by exact gz_m 49 (by omega)) ((gc_QU_fr x1 ((FI10 100 17).resolve_left (fun h => h.elim (fun h => absurd h (by decide)) (fun h => h.elim (fun h => absurd h (by decide)) (fun h => h.elim (fun h => absurd h (by decide)) (fun h => h.elim (fun h => absurd h.2 (by decide)) (fun h => absurd h N_100__a2_22)))))) (fun k => (FI10 113 k).resolve_left (fun h => h.elim (fun h => absurd h (by decide)) (fun h => h.elim (fun h => absurd h (by decide)) (fun h => h.elim (fun h => absurd h (by decide)) (fun h => h.elim (fun h => absurd h.1 (by decide)) (fun h => absurd h N_113__a2_22))))))) v6_16 (by exact gz_m 50 (by omega)) (by exact gz_m 51 (by omega))) 
                  obtain ⟨rfl, ⟨z54, rfl, q54⟩⟩ := P54
                  refine gv_callV hD rfl (As := [.inl v6_16, .inl (v4_12 + v6_16), .inr (.inr (some a3))]) (st := []) rfl B_100 S_100 rfl (gc_lV1 hws rfl) (Nat.le_of_ble_eq_true rfl) (gz_Ev_mono (d := 1) (by decide) E54) ?_
                  show gv_X _ _ (87, [(0, .inr (.inr (some 100))), (1, .inl a1), (3, .inr (.inr (some a3))), (4, .inl v4_12), (5, .inl v5_16), (6, .inl v6_16)], [.inl z54], sh, gc_h sh I10 J11 A)
                  refine gv_run 3 true hD (pc' := 61) (lv' := [(6, .inl (v6_16 + 1)), (5, .inl z54), (0, .inr (.inr (some 100))), (1, .inl a1), (3, .inr (.inr (some a3))), (4, .inl v4_12)]) (st' := []) (h' := gc_h sh I10 J11 A) (C := (((True ∧ True) ∧ True) ∧ True)) rfl ⟨⟨⟨trivial, trivial⟩, trivial⟩, trivial⟩ ?_
                  refine gv_pick [2, 3, 4, 5, 1, 0] rfl ?_
                  exact ih61 z54 (v6_16 + 1) (by exact gz_m 52 (by omega)) (by exact gz_m 53 (by omega))
          refine gv_run 2 true hD (pc' := 41) (lv' := [(0, .inr (.inr (some 100))), (1, .inl a1), (3, .inr (.inr (some a3))), (4, .inl v4_12)]) (st' := [.inr (.inr (some 100)), .inl v4_12]) (h' := gc_h sh I10 J11 A) (C := ((True ∧ True) ∧ True)) rfl ⟨⟨trivial, trivial⟩, trivial⟩ ?_
          have f55 := (show 0 ≤ I10 100 17 ∧ I10 100 17 ≤ 8 from gc_in hI10 R_100 rfl rfl)
          refine gv_get hD rfl rfl S_100 ⟨by decide, B_100⟩ (gc_hI S_100 rfl) ?_
          show gv_X _ _ (44, [(0, .inr (.inr (some 100))), (1, .inl a1), (3, .inr (.inr (some a3))), (4, .inl v4_12)], [.inl (I10 100 17), .inl v4_12], sh, gc_h sh I10 J11 A)
          refine gv_run 2 true hD (pc' := 46) (lv' := [(0, .inr (.inr (some 100))), (1, .inl a1), (3, .inr (.inr (some a3))), (4, .inl v4_12)]) (st' := [.inr (.inr (some 100)), .inl (v4_12 + (I10 100 17))]) (h' := gc_h sh I10 J11 A) (C := ((True ∧ True) ∧ True)) rfl ⟨⟨trivial, trivial⟩, trivial⟩ ?_
          refine gv_get hD rfl rfl S_100 ⟨by decide, B_100⟩ (gc_hA S_100 rfl A_100_12) ?_
          show gv_X _ _ (49, [(0, .inr (.inr (some 100))), (1, .inl a1), (3, .inr (.inr (some a3))), (4, .inl v4_12)], [.inr (.inr (some 106)), .inl (v4_12 + (I10 100 17))], sh, gc_h sh I10 J11 A)
          have f56 := (show 0 ≤ I10 106 4 ∧ I10 106 4 ≤ 24 from gc_in hI10 R_106 rfl rfl)
          refine gv_get hD rfl rfl S_106 ⟨by decide, B_106⟩ (gc_hI S_106 rfl) ?_
          show gv_X _ _ (52, [(0, .inr (.inr (some 100))), (1, .inl a1), (3, .inr (.inr (some a3))), (4, .inl v4_12)], [.inl (I10 106 4), .inl (v4_12 + (I10 100 17))], sh, gc_h sh I10 J11 A)
          refine gv_icmp_gt (t := 149) hD rfl rfl ⟨⟨by exact gz_m 54 (by omega), by exact gz_m 55 (by omega)⟩, ⟨by exact gz_m 56 (by omega), by exact gz_m 57 (by omega)⟩⟩ (fun c57 => ?_) (fun c57 => ?_)
          · show gv_X _ _ (149, [(0, .inr (.inr (some 100))), (1, .inl a1), (3, .inr (.inr (some a3))), (4, .inl v4_12)], [], sh, gc_h sh I10 J11 A)
            exact gv_vret hD rfl ⟨I10, J11, rfl, hI10, FI10, FJ11, rfl⟩
          · show gv_X _ _ (55, [(0, .inr (.inr (some 100))), (1, .inl a1), (3, .inr (.inr (some a3))), (4, .inl v4_12)], [], sh, gc_h sh I10 J11 A)
            refine gv_run 4 true hD (pc' := 61) (lv' := [(6, .inl 0), (5, .inl 1), (0, .inr (.inr (some 100))), (1, .inl a1), (3, .inr (.inr (some a3))), (4, .inl v4_12)]) (st' := []) (h' := gc_h sh I10 J11 A) (C := ((((True ∧ True) ∧ True) ∧ True) ∧ True)) rfl ⟨⟨⟨⟨trivial, trivial⟩, trivial⟩, trivial⟩, trivial⟩ ?_
            refine gv_pick [2, 3, 4, 5, 1, 0] rfl ?_
            exact L61 _ 1 0 (Nat.lt_succ_self _) (by exact gz_m 58 (by omega))
      refine gv_run 2 true hD (pc' := 6) (lv' := [(0, .inr (.inr (some 100))), (1, .inl a1), (2, .inr (.inr (some a2))), (3, .inr (.inr (some a3))), (4, .inl v4_6)]) (st' := [.inr (.inr (some 100)), .inl v4_6]) (h' := gc_h sh I4 J5 A) (C := ((True ∧ True) ∧ True)) rfl ⟨⟨trivial, trivial⟩, trivial⟩ ?_
      refine gv_get hD rfl rfl S_100 ⟨by decide, B_100⟩ (gc_hA S_100 rfl A_100_12) ?_
      show gv_X _ _ (9, [(0, .inr (.inr (some 100))), (1, .inl a1), (2, .inr (.inr (some a2))), (3, .inr (.inr (some a3))), (4, .inl v4_6)], [.inr (.inr (some 106)), .inl v4_6], sh, gc_h sh I4 J5 A)
      have f58 := (show 0 ≤ I4 106 4 ∧ I4 106 4 ≤ 24 from gc_in hI4 R_106 rfl rfl)
      refine gv_get hD rfl rfl S_106 ⟨by decide, B_106⟩ (gc_hI S_106 rfl) ?_
      show gv_X _ _ (12, [(0, .inr (.inr (some 100))), (1, .inl a1), (2, .inr (.inr (some a2))), (3, .inr (.inr (some a3))), (4, .inl v4_6)], [.inl (I4 106 4), .inl v4_6], sh, gc_h sh I4 J5 A)
      refine gv_icmp_ge (t := 35) hD rfl rfl ⟨⟨by exact gz_m 59 (by omega), by exact gz_m 60 (by omega)⟩, ⟨by exact gz_m 61 (by omega), by exact gz_m 62 (by omega)⟩⟩ (fun c59 => ?_) (fun c59 => ?_)
      · show gv_X _ _ (35, [(0, .inr (.inr (some 100))), (1, .inl a1), (2, .inr (.inr (some a2))), (3, .inr (.inr (some a3))), (4, .inl v4_6)], [], sh, gc_h sh I4 J5 A)
        refine gv_run 2 true hD (pc' := 38) (lv' := [(4, .inl 0), (0, .inr (.inr (some 100))), (1, .inl a1), (2, .inr (.inr (some a2))), (3, .inr (.inr (some a3)))]) (st' := []) (h' := gc_h sh I4 J5 A) (C := ((True ∧ True) ∧ True)) rfl ⟨⟨trivial, trivial⟩, trivial⟩ ?_
        refine gv_pick [1, 2, 4, 0] rfl ?_
        exact L38 _ I4 J5 0 (Nat.lt_succ_self _) hI4 FI4 FJ5 (by exact gz_m 63 (by omega))
      · show gv_X _ _ (15, [(0, .inr (.inr (some 100))), (1, .inl a1), (2, .inr (.inr (some a2))), (3, .inr (.inr (some a3))), (4, .inl v4_6)], [], sh, gc_h sh I4 J5 A)
        refine gv_run 1 true hD (pc' := 16) (lv' := [(0, .inr (.inr (some 100))), (1, .inl a1), (2, .inr (.inr (some a2))), (3, .inr (.inr (some a3))), (4, .inl v4_6)]) (st' := [.inr (.inr (some 100))]) (h' := gc_h sh I4 J5 A) (C := (True ∧ True)) rfl ⟨trivial, trivial⟩ ?_
        refine gv_get hD rfl rfl S_100 ⟨by decide, B_100⟩ (gc_hA S_100 rfl A_100_13) ?_
        show gv_X _ _ (19, [(0, .inr (.inr (some 100))), (1, .inl a1), (2, .inr (.inr (some a2))), (3, .inr (.inr (some a3))), (4, .inl v4_6)], [.inr (.inr (some 110))], sh, gc_h sh I4 J5 A)
        refine gv_run 4 true hD (pc' := 25) (lv' := [(0, .inr (.inr (some 100))), (1, .inl a1), (2, .inr (.inr (some a2))), (3, .inr (.inr (some a3))), (4, .inl v4_6)]) (st' := [.inl v4_6, .inr (.inr (some a2)), .inr (.inr (some 100)), .inl v4_6, .inr (.inr (some 110))]) (h' := gc_h sh I4 J5 A) (C := ((((True ∧ True) ∧ True) ∧ True) ∧ True)) rfl ⟨⟨⟨⟨trivial, trivial⟩, trivial⟩, trivial⟩, trivial⟩ ?_
        obtain ⟨r60, h60, E60, P60⟩ := d_X1_kindsOf (ws0 := ws0) (tb := tb) hws htb sh ro I4 J5 A hI4  a2 v4_6 hb h_a2 G_a2  ⟨by exact gz_m 64 (by omega), by exact gz_m 65 (by omega)⟩ (gc_SP_fr x0 ((FI4 106 4).resolve_left (fun h => h.elim (fun h => absurd h (by decide)) (fun h => h.elim (fun h => absurd h (by decide)) (fun h => h.elim (fun h => absurd h (by decide)) (fun h => h.elim (fun h => absurd h.2 (by decide)) (fun h => absurd h N_106__a2_22)))))) (fun k => (FI4 (106 + 2) k).resolve_left (fun h => h.elim (fun h => absurd h N_106_2__110) (fun h => h.elim (fun h => absurd h N_106_2__111) (fun h => h.elim (fun h => absurd h N_106_2__112) (fun h => h.elim (fun h => absurd h.1 N_106_2__100) (fun h => absurd h N_106_2__a2_22)))))) (fun k => (FI4 (106 + 3) k).resolve_left (fun h => h.elim (fun h => absurd h N_106_3__110) (fun h => h.elim (fun h => absurd h N_106_3__111) (fun h => h.elim (fun h => absurd h N_106_3__112) (fun h => h.elim (fun h => absurd h.1 N_106_3__100) (fun h => absurd h N_106_3__a2_22))))))) (by exact gz_m 66 (by omega)) 
        obtain ⟨I61, J62, rfl, hI61, g60, k60, ⟨z60, rfl, q60⟩⟩ := P60
        have FI61 := gc_frc (W := fun q j => q = 110 ∨ q = 111 ∨ q = 112 ∨ (q = 100 ∧ j = 14) ∨ q = (a2 + 22)) (V := fun q j => q = (a2 + 22)) FI4 (fun q j h => (Or.inr (Or.inr (Or.inr (Or.inr h))))) g60
        have t63 := (g60 106 4).resolve_left (fun h => absurd h N_106__a2_22)
        have t64 := (g60 100 17).resolve_left (fun h => absurd h N_100__a2_22)
        have t65 := (g60 100 14).resolve_left (fun h => absurd h N_100__a2_22)
        obtain rfl : J5 = J62 := funext fun q => funext fun j => ((k60 q j).resolve_left id).symm
        refine gv_callV hD rfl (As := [.inr (.inr (some a2)), .inl v4_6]) (st := [.inl v4_6, .inr (.inr (some 110))]) rfl B_100 S_100 rfl (gc_lV1 hws rfl) (Nat.le_of_ble_eq_true rfl) (gz_Ev_mono (d := 3) (by decide) E60) ?_
        show gv_X _ _ (28, [(0, .inr (.inr (some 100))), (1, .inl a1), (2, .inr (.inr (some a2))), (3, .inr (.inr (some a3))), (4, .inl v4_6)], [.inl z60, .inl v4_6, .inr (.inr (some 110))], sh, gc_h sh I61 J5 A)
        refine gv_iast hD rfl S_110 ⟨by decide, B_110⟩ ⟨by exact gz_m 67 (by omega), by exact gz_m 68 (by omega)⟩ ?_
        refine gc_st hI61 S_110 rfl R_110 (lo := (-2147483648)) (hi := 2147483647) rfl rfl (by exact gz_m 69 (by omega)) (by exact gz_m 70 (by omega)) (fun I66 hI66 q67 p67 => ?_)
        have FI66 := gc_frs (W := fun q j => q = 110 ∨ q = 111 ∨ q = 112 ∨ (q = 100 ∧ j = 14) ∨ q = (a2 + 22)) FI61 (Or.inl rfl) p67
        have t68 := p67 106 4 (fun h => absurd h.1 (by decide))
        have t69 := p67 100 17 (fun h => absurd h.1 (by decide))
        have t70 := p67 100 14 (fun h => absurd h.1 (by decide))
        show gv_X _ _ (29, [(0, .inr (.inr (some 100))), (1, .inl a1), (2, .inr (.inr (some a2))), (3, .inr (.inr (some a3))), (4, .inl v4_6)], [], sh, gc_h sh I66 J5 A)
        refine gv_run 2 true hD (pc' := 3) (lv' := [(4, .inl (v4_6 + 1)), (0, .inr (.inr (some 100))), (1, .inl a1), (2, .inr (.inr (some a2))), (3, .inr (.inr (some a3)))]) (st' := []) (h' := gc_h sh I66 J5 A) (C := ((True ∧ True) ∧ True)) rfl ⟨⟨trivial, trivial⟩, trivial⟩ ?_
        refine gv_pick [1, 2, 3, 4, 0] rfl ?_
        exact ih3 I66 J5 (v4_6 + 1) (by exact gz_m 71 (by omega)) hI66 FI66 FJ5 (by exact gz_m 72 (by omega))
  refine gv_run 2 true hD (pc' := 3) (lv' := [(4, .inl 0), (0, .inr (.inr (some 100))), (1, .inl a1), (2, .inr (.inr (some a2))), (3, .inr (.inr (some a3)))]) (st' := []) (h' := gc_h sh I J A) (C := ((True ∧ True) ∧ True)) rfl ⟨⟨trivial, trivial⟩, trivial⟩ ?_
  refine gv_pick [1, 2, 3, 4, 0] rfl ?_
  exact L3 _ I J 0 (Nat.lt_succ_self _) hI FI FJ (by exact gz_m 73 (by omega))
