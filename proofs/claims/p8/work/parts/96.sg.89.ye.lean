set_option maxHeartbeats 8000000 in
set_option maxRecDepth 100000 in
theorem d_X12_listChanges {ws0 : List Cond} {tb : String → gz_T} (hws : gc_Ws ws0) (htb : gc_tbs tb) (sh : gz_Sh) (ro : Nat → Nat) (I : gr_I) (J : gr_J) (A : gc_A) (hI : gc_Inv ro I) (a1 : Nat) (hb : gc_Base sh ro A) (h_a1 : gc_isTongue sh ro A a1) (G_a1 : 144 ≤ a1)  (x0 : gc_SP 31 I) : ∃ r hₚ, gz_Ev ws0 tb 3 (yX12_listChanges, cX12_listChanges, 11, (some .int)) [.inr (.inr (some 0)), .inr (.inr (some a1))] sh (gc_h sh I J A) r sh hₚ 0 0 ∧ (∃ (Iₚ : gr_I) (Jₚ : gr_J), hₚ = gc_h sh Iₚ Jₚ A ∧ gc_Inv ro Iₚ ∧ (∀ q j : Nat, (q = 143 ∨ q = (a1 + 22)) ∨ Iₚ q j = I q j) ∧ (∀ q j : Nat, (False) ∨ Jₚ q j = J q j) ∧ (∃ z : Int, r = some (.inl z) ∧ 0 ≤ z ∧ z ≤ 1000 ∧ (gh_CA a1 (I 31 4) z Iₚ))) := by
  have FI : ∀ q j : Nat, (q = 143 ∨ q = (a1 + 22)) ∨ I q j = I q j := fun _ _ => Or.inr rfl
  have FJ : ∀ q j : Nat, (False) ∨ J q j = J q j := fun _ _ => Or.inr rfl
  have A_0_16 : A 0 16 = some 143 := gc_bA_0_16 hb
  have A_0_3 : A 0 3 = some 31 := gc_bA_0_3 hb
  have A_31_0 : A 31 0 = some 32 := gc_bA_31_0 hb
  have A_31_2 : A 31 2 = some 33 := gc_bA_31_2 hb
  have A_31_3 : A 31 3 = some 34 := gc_bA_31_3 hb
  have B_0 : 0 < 1000000 := by decide
  have B_143 : 143 < 1000000 := by decide
  have B_31 : 31 < 1000000 := by decide
  have B_32 : 32 < 1000000 := by decide
  have B_33 : 33 < 1000000 := by decide
  have B_34 : 34 < 1000000 := by decide
  have R_143 : ro 143 = 0 := gc_bR_143 hb
  have R_31 : ro 31 = 3 := gc_bR_31 hb
  have R_32 : ro 32 = 1 := gc_bR_32 hb
  have R_33 : ro 33 = 4 := gc_bR_33 hb
  have R_34 : ro 34 = 5 := gc_bR_34 hb
  have S_0 : sh[0]? = some (false, 12, 17) := gc_bS_0 hb
  have S_143 : sh[143]? = some (true, 1, 1000) := gc_bS_143 hb
  have S_31 : sh[31]? = some (false, 9, 10) := gc_bS_31 hb
  have S_32 : sh[32]? = some (true, 0, 1000) := gc_bS_32 hb
  have S_33 : sh[33]? = some (true, 1, 24) := gc_bS_33 hb
  have S_34 : sh[34]? = some (true, 1, 24) := gc_bS_34 hb
  obtain ⟨S_a1, R_a1, B_a1, A_a1_0, h_a1_1, A_a1_1, h_a1_3, A_a1_2, S_a1_5, R_a1_5, B_a1_5, A_a1_3, S_a1_6, R_a1_6, B_a1_6, A_a1_4, h_a1_7, A_a1_5, S_a1_9, R_a1_9, B_a1_9, A_a1_7, S_a1_10, R_a1_10, B_a1_10, A_a1_8, h_a1_11, A_a1_9, S_a1_13, R_a1_13, B_a1_13, A_a1_10, S_a1_14, R_a1_14, B_a1_14, A_a1_12, S_a1_15, R_a1_15, B_a1_15, A_a1_14, S_a1_16, R_a1_16, B_a1_16, A_a1_15, h_a1_17⟩ := id h_a1
  obtain ⟨S_a1_1, R_a1_1, B_a1_1, A_a1_1_0, S_a1_1_1, R_a1_1_1, B_a1_1_1, Q0_a1_1, Q1_a1_1, Q2_a1_1⟩ := id h_a1_1
  obtain ⟨S_a1_3, R_a1_3, B_a1_3, A_a1_3_0, S_a1_3_1, R_a1_3_1, B_a1_3_1, Q0_a1_3, Q1_a1_3, Q2_a1_3⟩ := id h_a1_3
  obtain ⟨S_a1_7, R_a1_7, B_a1_7, A_a1_7_0, S_a1_7_1, R_a1_7_1, B_a1_7_1, Q0_a1_7, Q1_a1_7, Q2_a1_7⟩ := id h_a1_7
  obtain ⟨S_a1_11, R_a1_11, B_a1_11, A_a1_11_0, S_a1_11_1, R_a1_11_1, B_a1_11_1, Q0_a1_11, Q1_a1_11, Q2_a1_11⟩ := id h_a1_11
  obtain ⟨S_a1_17, R_a1_17, B_a1_17, A_a1_17_0, S_20, R_20, B_20, A_a1_17_1, S_a1_17_1, R_a1_17_1, B_a1_17_1, A_a1_17_2, S_a1_17_2, R_a1_17_2, B_a1_17_2, A_a1_17_3, S_a1_17_3, R_a1_17_3, B_a1_17_3, A_a1_17_4, S_a1_17_4, R_a1_17_4, B_a1_17_4, A_a1_17_5, S_a1_17_5, R_a1_17_5, B_a1_17_5, S_a1_17_6, R_a1_17_6, B_a1_17_6, S_a1_17_7, R_a1_17_7, B_a1_17_7⟩ := id h_a1_17
  have hD : gv_D (gc_E12 ws0 tb 2 (yX12_listChanges, cX12_listChanges, 11, (some .int)) kX12_listChanges) := gq_of oX12_listChanges
  refine gc_ev12 (d := 2) (l := kX12_listChanges) (Po := fun r hₚ => (∃ (Iₚ : gr_I) (Jₚ : gr_J), hₚ = gc_h sh Iₚ Jₚ A ∧ gc_Inv ro Iₚ ∧ (∀ q j : Nat, (q = 143 ∨ q = (a1 + 22)) ∨ Iₚ q j = I q j) ∧ (∀ q j : Nat, (False) ∨ Jₚ q j = J q j) ∧ (∃ z : Int, r = some (.inl z) ∧ 0 ≤ z ∧ z ≤ 1000 ∧ (gh_CA a1 (I 31 4) z Iₚ)))) htb rfl (Nat.le_of_ble_eq_true rfl) ?_
  have N_31__a1_22 : ¬ (31 = (a1 + 22)) := by exact gz_m 0 (by omega)
  have f1 := (gc_b_3_4 hI R_31)
  have L4 : ∀ (n9 : Nat) (I2 : gr_I) (J3 : gr_J) (v2_4 : Int) (v3_4 : Int), (25 - v3_4).toNat < n9 → gc_Inv ro I2 → (∀ q j : Nat, (q = 143 ∨ q = (a1 + 22)) ∨ I2 q j = I q j) → (∀ q j : Nat, (False) ∨ J3 q j = J q j) → ((0 ≤ v2_4 ∧ v2_4 ≤ 1000) ∧ (0 ≤ v3_4 ∧ v3_4 ≤ 24) ∧ (I2 31 4 = I 31 4)) → (gh_CA a1 (I 31 4) v2_4 I2) → gv_X (gc_E12 ws0 tb 2 (yX12_listChanges, cX12_listChanges, 11, (some .int)) kX12_listChanges) (gv_Q cX12_listChanges (some .int) sh (fun r hₚ => (∃ (Iₚ : gr_I) (Jₚ : gr_J), hₚ = gc_h sh Iₚ Jₚ A ∧ gc_Inv ro Iₚ ∧ (∀ q j : Nat, (q = 143 ∨ q = (a1 + 22)) ∨ Iₚ q j = I q j) ∧ (∀ q j : Nat, (False) ∨ Jₚ q j = J q j) ∧ (∃ z : Int, r = some (.inl z) ∧ 0 ≤ z ∧ z ≤ 1000 ∧ (gh_CA a1 (I 31 4) z Iₚ))))) (4, [(0, .inr (.inr (some 0))), (1, .inr (.inr (some a1))), (2, .inl v2_4), (3, .inl v3_4)], [], sh, gc_h sh I2 J3 A) := by
    intro n9
    induction n9 with
    | zero => intro I2 J3 v2_4 v3_4 hn; exact gz_m 1 (by omega)
    | succ n9 ih4 =>
      intro I2 J3 v2_4 v3_4 hn hI2 FI2 FJ3 m_4 e0_4
      obtain ⟨hv2_4, hv3_4, e1_4⟩ := m_4
      have f5 := (gc_b_3_4 hI2 R_31)
      have L60 : ∀ (n9 : Nat) (I6 : gr_I) (J7 : gr_J) (v2_8 : Int) (v4_8 : Int) (v5_8 : Int) (v6_8 : Int) (v7_8 : Int), (1537 - v7_8).toNat < n9 → gc_Inv ro I6 → (∀ q j : Nat, (q = 143 ∨ q = (a1 + 22)) ∨ I6 q j = I q j) → (∀ q j : Nat, (False) ∨ J7 q j = J q j) → ((0 ≤ v2_8 ∧ v2_8 ≤ 1000) ∧ (0 ≤ v3_4 ∧ v3_4 ≤ 23) ∧ (0 ≤ v4_8 ∧ v4_8 ≤ 1000) ∧ (0 ≤ v5_8 ∧ v5_8 ≤ 24) ∧ (0 ≤ v6_8 ∧ v6_8 ≤ 1536) ∧ (0 ≤ v7_8 ∧ v7_8 ≤ 1536) ∧ (v3_4 < I 31 4) ∧ (v4_8 + v5_8 ≤ 1000) ∧ (I6 31 4 = I 31 4)) → (gh_CA a1 (I 31 4) v2_8 I6) → gv_X (gc_E12 ws0 tb 2 (yX12_listChanges, cX12_listChanges, 11, (some .int)) kX12_listChanges) (gv_Q cX12_listChanges (some .int) sh (fun r hₚ => (∃ (Iₚ : gr_I) (Jₚ : gr_J), hₚ = gc_h sh Iₚ Jₚ A ∧ gc_Inv ro Iₚ ∧ (∀ q j : Nat, (q = 143 ∨ q = (a1 + 22)) ∨ Iₚ q j = I q j) ∧ (∀ q j : Nat, (False) ∨ Jₚ q j = J q j) ∧ (∃ z : Int, r = some (.inl z) ∧ 0 ≤ z ∧ z ≤ 1000 ∧ (gh_CA a1 (I 31 4) z Iₚ))))) (60, [(0, .inr (.inr (some 0))), (1, .inr (.inr (some a1))), (2, .inl v2_8), (3, .inl v3_4), (4, .inl v4_8), (5, .inl v5_8), (6, .inl v6_8), (7, .inl v7_8)], [], sh, gc_h sh I6 J7 A) := by
        intro n9
        induction n9 with
        | zero => intro I6 J7 v2_8 v4_8 v5_8 v6_8 v7_8 hn; exact gz_m 2 (by omega)
        | succ n9 ih60 =>
          intro I6 J7 v2_8 v4_8 v5_8 v6_8 v7_8 hn hI6 FI6 FJ7 m_8 e0_8
          clear hv2_4 hv3_4 e1_4 f5
          obtain ⟨hv2_8, hv3_4_8, hv4_8, hv5_8, hv6_8, hv7_8, e1_8, e2_8, e3_8⟩ := m_8
          have f9 := (gc_b_3_4 hI6 R_31)
          have L103 : ∀ (n9 : Nat) (I10 : gr_I) (J11 : gr_J) (v2_12 : Int) (v9_12 : Int) (v10_12 : Int), (1537 - v10_12).toNat < n9 → gc_Inv ro I10 → (∀ q j : Nat, (q = 143 ∨ q = (a1 + 22)) ∨ I10 q j = I q j) → (∀ q j : Nat, (False) ∨ J11 q j = J q j) → ((0 ≤ v2_12 ∧ v2_12 ≤ 1000) ∧ (0 ≤ v3_4 ∧ v3_4 ≤ 23) ∧ (0 ≤ v4_8 ∧ v4_8 ≤ 1000) ∧ (0 ≤ v5_8 ∧ v5_8 ≤ 24) ∧ (1 ≤ v6_8 ∧ v6_8 ≤ 1536) ∧ (0 ≤ v7_8 ∧ v7_8 ≤ 1535) ∧ (0 ≤ v9_12 ∧ v9_12 ≤ 1536) ∧ (0 ≤ v10_12 ∧ v10_12 ≤ 1536) ∧ (v3_4 < I 31 4) ∧ (v4_8 + v5_8 ≤ 1000) ∧ (I10 31 4 = I 31 4)) → (gh_CA a1 (I 31 4) v2_12 I10) → gv_X (gc_E12 ws0 tb 2 (yX12_listChanges, cX12_listChanges, 11, (some .int)) kX12_listChanges) (gv_Q cX12_listChanges (some .int) sh (fun r hₚ => (∃ (Iₚ : gr_I) (Jₚ : gr_J), hₚ = gc_h sh Iₚ Jₚ A ∧ gc_Inv ro Iₚ ∧ (∀ q j : Nat, (q = 143 ∨ q = (a1 + 22)) ∨ Iₚ q j = I q j) ∧ (∀ q j : Nat, (False) ∨ Jₚ q j = J q j) ∧ (∃ z : Int, r = some (.inl z) ∧ 0 ≤ z ∧ z ≤ 1000 ∧ (gh_CA a1 (I 31 4) z Iₚ))))) (103, [(0, .inr (.inr (some 0))), (1, .inr (.inr (some a1))), (2, .inl v2_12), (3, .inl v3_4), (4, .inl v4_8), (5, .inl v5_8), (6, .inl v6_8), (7, .inl v7_8), (9, .inl v9_12), (10, .inl v10_12)], [], sh, gc_h sh I10 J11 A) := by
            intro n9
            induction n9 with
            | zero => intro I10 J11 v2_12 v9_12 v10_12 hn; exact gz_m 3 (by omega)
            | succ n9 ih103 =>
              intro I10 J11 v2_12 v9_12 v10_12 hn hI10 FI10 FJ11 m_12 e0_12
              clear hv2_8 hv3_4_8 hv4_8 hv5_8 hv6_8 hv7_8 e1_8 e2_8 e3_8 f9
              obtain ⟨hv2_12, hv3_4_12, hv4_8_12, hv5_8_12, hv6_8_12, hv7_8_12, hv9_12, hv10_12, e1_12, e2_12, e3_12⟩ := m_12
              have f13 := (gc_b_3_4 hI10 R_31)
              have L173 : ∀ (I14 : gr_I) (J15 : gr_J) (v2_16 : Int), gc_Inv ro I14 → (∀ q j : Nat, (q = 143 ∨ q = (a1 + 22)) ∨ I14 q j = I q j) → (∀ q j : Nat, (False) ∨ J15 q j = J q j) → ((0 ≤ v2_16 ∧ v2_16 ≤ 1000) ∧ (0 ≤ v3_4 ∧ v3_4 ≤ 23) ∧ (0 ≤ v4_8 ∧ v4_8 ≤ 1000) ∧ (0 ≤ v5_8 ∧ v5_8 ≤ 24) ∧ (1 ≤ v6_8 ∧ v6_8 ≤ 1536) ∧ (0 ≤ v7_8 ∧ v7_8 ≤ 1535) ∧ (1 ≤ v9_12 ∧ v9_12 ≤ 1536) ∧ (0 ≤ v10_12 ∧ v10_12 ≤ 1535) ∧ (v3_4 < I 31 4) ∧ (v4_8 + v5_8 ≤ 1000) ∧ (I14 31 4 = I 31 4)) → (gh_CA a1 (I 31 4) v2_16 I14) → gv_X (gc_E12 ws0 tb 2 (yX12_listChanges, cX12_listChanges, 11, (some .int)) kX12_listChanges) (gv_Q cX12_listChanges (some .int) sh (fun r hₚ => (∃ (Iₚ : gr_I) (Jₚ : gr_J), hₚ = gc_h sh Iₚ Jₚ A ∧ gc_Inv ro Iₚ ∧ (∀ q j : Nat, (q = 143 ∨ q = (a1 + 22)) ∨ Iₚ q j = I q j) ∧ (∀ q j : Nat, (False) ∨ Jₚ q j = J q j) ∧ (∃ z : Int, r = some (.inl z) ∧ 0 ≤ z ∧ z ≤ 1000 ∧ (gh_CA a1 (I 31 4) z Iₚ))))) (173, [(0, .inr (.inr (some 0))), (1, .inr (.inr (some a1))), (2, .inl v2_16), (3, .inl v3_4), (4, .inl v4_8), (5, .inl v5_8), (6, .inl v6_8), (7, .inl v7_8), (9, .inl v9_12), (10, .inl v10_12)], [], sh, gc_h sh I14 J15 A) := by
                intro I14 J15 v2_16 hI14 FI14 FJ15 m_16 e0_16
                clear hv2_12 hv3_4_12 hv4_8_12 hv5_8_12 hv6_8_12 hv7_8_12 hv9_12 hv10_12 e1_12 e2_12 e3_12 f13
                obtain ⟨hv2_16, hv3_4_16, hv4_8_16, hv5_8_16, hv6_8_16, hv7_8_16, hv9_12_16, hv10_12_16, e1_16, e2_16, e3_16⟩ := m_16
                have f17 := (gc_b_3_4 hI14 R_31)
                refine gv_run 2 true hD (pcₚ := 103) (lvₚ := [(10, .inl (v10_12 + 1)), (0, .inr (.inr (some 0))), (1, .inr (.inr (some a1))), (2, .inl v2_16), (3, .inl v3_4), (4, .inl v4_8), (5, .inl v5_8), (6, .inl v6_8), (7, .inl v7_8), (9, .inl v9_12)]) (stₚ := []) (hₚ := gc_h sh I14 J15 A) (C := ((True ∧ True) ∧ True)) rfl ⟨⟨trivial, trivial⟩, trivial⟩ ?_
                refine gv_pick [1, 2, 3, 4, 5, 6, 7, 8, 9, 0] rfl ?_
                exact ih103 I14 J15 v2_16 v9_12 (v10_12 + 1) (by exact gz_m 4 (by omega)) hI14 FI14 FJ15 (by exact gz_m 5 (by omega)) e0_16
              have L179 : ((0 ≤ v2_12 ∧ v2_12 ≤ 1000) ∧ (0 ≤ v3_4 ∧ v3_4 ≤ 23) ∧ (0 ≤ v4_8 ∧ v4_8 ≤ 1000) ∧ (0 ≤ v5_8 ∧ v5_8 ≤ 24) ∧ (1 ≤ v6_8 ∧ v6_8 ≤ 1536) ∧ (0 ≤ v7_8 ∧ v7_8 ≤ 1535) ∧ (v3_4 < I 31 4) ∧ (v4_8 + v5_8 ≤ 1000) ∧ (I10 31 4 = I 31 4)) → gv_X (gc_E12 ws0 tb 2 (yX12_listChanges, cX12_listChanges, 11, (some .int)) kX12_listChanges) (gv_Q cX12_listChanges (some .int) sh (fun r hₚ => (∃ (Iₚ : gr_I) (Jₚ : gr_J), hₚ = gc_h sh Iₚ Jₚ A ∧ gc_Inv ro Iₚ ∧ (∀ q j : Nat, (q = 143 ∨ q = (a1 + 22)) ∨ Iₚ q j = I q j) ∧ (∀ q j : Nat, (False) ∨ Jₚ q j = J q j) ∧ (∃ z : Int, r = some (.inl z) ∧ 0 ≤ z ∧ z ≤ 1000 ∧ (gh_CA a1 (I 31 4) z Iₚ))))) (179, [(0, .inr (.inr (some 0))), (1, .inr (.inr (some a1))), (2, .inl v2_12), (3, .inl v3_4), (4, .inl v4_8), (5, .inl v5_8), (6, .inl v6_8), (7, .inl v7_8)], [], sh, gc_h sh I10 J11 A) := by
                intro m_18
                obtain ⟨hv2_12_18, hv3_4_18, hv4_8_18, hv5_8_18, hv6_8_18, hv7_8_18, e0_18, e1_18, e2_18⟩ := m_18
                have f19 := (gc_b_3_4 hI10 R_31)
                refine gv_run 2 true hD (pcₚ := 60) (lvₚ := [(7, .inl (v7_8 + 1)), (0, .inr (.inr (some 0))), (1, .inr (.inr (some a1))), (2, .inl v2_12), (3, .inl v3_4), (4, .inl v4_8), (5, .inl v5_8), (6, .inl v6_8)]) (stₚ := []) (hₚ := gc_h sh I10 J11 A) (C := ((True ∧ True) ∧ True)) rfl ⟨⟨trivial, trivial⟩, trivial⟩ ?_
                refine gv_pick [1, 2, 3, 4, 5, 6, 7, 0] rfl ?_
                exact ih60 I10 J11 v2_12 v4_8 v5_8 v6_8 (v7_8 + 1) (by exact gz_m 6 (by omega)) hI10 FI10 FJ11 (by exact gz_m 7 (by omega)) e0_12
              refine gv_run 2 true hD (pcₚ := 107) (lvₚ := [(0, .inr (.inr (some 0))), (1, .inr (.inr (some a1))), (2, .inl v2_12), (3, .inl v3_4), (4, .inl v4_8), (5, .inl v5_8), (6, .inl v6_8), (7, .inl v7_8), (9, .inl v9_12), (10, .inl v10_12)]) (stₚ := [.inl v9_12, .inl v10_12]) (hₚ := gc_h sh I10 J11 A) (C := ((True ∧ True) ∧ True)) rfl ⟨⟨trivial, trivial⟩, trivial⟩ ?_
              refine gv_icmp_ge (t := 179) hD rfl rfl ⟨⟨by exact gz_m 8 (by omega), by exact gz_m 9 (by omega)⟩, ⟨by exact gz_m 10 (by omega), by exact gz_m 11 (by omega)⟩⟩ (fun c20 => ?_) (fun c20 => ?_)
              · show gv_X _ _ (179, [(0, .inr (.inr (some 0))), (1, .inr (.inr (some a1))), (2, .inl v2_12), (3, .inl v3_4), (4, .inl v4_8), (5, .inl v5_8), (6, .inl v6_8), (7, .inl v7_8), (9, .inl v9_12), (10, .inl v10_12)], [], sh, gc_h sh I10 J11 A)
                refine gv_pick [0, 1, 2, 3, 4, 5, 6, 7] rfl ?_
                exact L179 (by exact gz_m 12 (by omega))
              · show gv_X _ _ (110, [(0, .inr (.inr (some 0))), (1, .inr (.inr (some a1))), (2, .inl v2_12), (3, .inl v3_4), (4, .inl v4_8), (5, .inl v5_8), (6, .inl v6_8), (7, .inl v7_8), (9, .inl v9_12), (10, .inl v10_12)], [], sh, gc_h sh I10 J11 A)
                refine gv_run 2 true hD (pcₚ := 114) (lvₚ := [(0, .inr (.inr (some 0))), (1, .inr (.inr (some a1))), (2, .inl v2_12), (3, .inl v3_4), (4, .inl v4_8), (5, .inl v5_8), (6, .inl v6_8), (7, .inl v7_8), (9, .inl v9_12), (10, .inl v10_12)]) (stₚ := [.inl 1000, .inl v2_12]) (hₚ := gc_h sh I10 J11 A) (C := ((True ∧ True) ∧ True)) rfl ⟨⟨trivial, trivial⟩, trivial⟩ ?_
                refine gv_icmp_ge (t := 179) hD rfl rfl ⟨⟨by exact gz_m 13 (by omega), by exact gz_m 14 (by omega)⟩, ⟨by exact gz_m 15 (by omega), by exact gz_m 16 (by omega)⟩⟩ (fun c21 => ?_) (fun c21 => ?_)
                · show gv_X _ _ (179, [(0, .inr (.inr (some 0))), (1, .inr (.inr (some a1))), (2, .inl v2_12), (3, .inl v3_4), (4, .inl v4_8), (5, .inl v5_8), (6, .inl v6_8), (7, .inl v7_8), (9, .inl v9_12), (10, .inl v10_12)], [], sh, gc_h sh I10 J11 A)
                  refine gv_pick [0, 1, 2, 3, 4, 5, 6, 7] rfl ?_
                  exact L179 (by exact gz_m 17 (by omega))
                · show gv_X _ _ (117, [(0, .inr (.inr (some 0))), (1, .inr (.inr (some a1))), (2, .inl v2_12), (3, .inl v3_4), (4, .inl v4_8), (5, .inl v5_8), (6, .inl v6_8), (7, .inl v7_8), (9, .inl v9_12), (10, .inl v10_12)], [], sh, gc_h sh I10 J11 A)
                  refine gv_run 1 true hD (pcₚ := 118) (lvₚ := [(0, .inr (.inr (some 0))), (1, .inr (.inr (some a1))), (2, .inl v2_12), (3, .inl v3_4), (4, .inl v4_8), (5, .inl v5_8), (6, .inl v6_8), (7, .inl v7_8), (9, .inl v9_12), (10, .inl v10_12)]) (stₚ := [.inr (.inr (some a1))]) (hₚ := gc_h sh I10 J11 A) (C := (True ∧ True)) rfl ⟨trivial, trivial⟩ ?_
                  refine gv_get hD rfl rfl S_a1 ⟨by decide, B_a1⟩ (gc_hA S_a1 rfl A_a1_15) ?_
                  show gv_X _ _ (121, [(0, .inr (.inr (some 0))), (1, .inr (.inr (some a1))), (2, .inl v2_12), (3, .inl v3_4), (4, .inl v4_8), (5, .inl v5_8), (6, .inl v6_8), (7, .inl v7_8), (9, .inl v9_12), (10, .inl v10_12)], [.inr (.inr (some (a1 + 17)))], sh, gc_h sh I10 J11 A)
                  refine gv_get hD rfl rfl S_a1_17 ⟨by decide, B_a1_17⟩ (gc_hA S_a1_17 rfl A_a1_17_2) ?_
                  show gv_X _ _ (124, [(0, .inr (.inr (some 0))), (1, .inr (.inr (some a1))), (2, .inl v2_12), (3, .inl v3_4), (4, .inl v4_8), (5, .inl v5_8), (6, .inl v6_8), (7, .inl v7_8), (9, .inl v9_12), (10, .inl v10_12)], [.inr (.inr (some ((a1 + 17) + 2)))], sh, gc_h sh I10 J11 A)
                  refine gv_run 1 true hD (pcₚ := 126) (lvₚ := [(0, .inr (.inr (some 0))), (1, .inr (.inr (some a1))), (2, .inl v2_12), (3, .inl v3_4), (4, .inl v4_8), (5, .inl v5_8), (6, .inl v6_8), (7, .inl v7_8), (9, .inl v9_12), (10, .inl v10_12)]) (stₚ := [.inl v10_12, .inr (.inr (some ((a1 + 17) + 2)))]) (hₚ := gc_h sh I10 J11 A) (C := (True ∧ True)) rfl ⟨trivial, trivial⟩ ?_
                  have f22 := (show (-1) ≤ I10 ((a1 + 17) + 2) (Int.toNat v10_12) ∧ I10 ((a1 + 17) + 2) (Int.toNat v10_12) ≤ 24 from gc_in2 hI10 R_a1_17_2 rfl rfl rfl)
                  refine gv_iald hD rfl S_a1_17_2 rfl ⟨by decide, B_a1_17_2⟩ ⟨by exact gz_m 18 (by omega), by exact gz_m 19 (by omega)⟩ (gc_iI S_a1_17_2 rfl) ?_
                  show gv_X _ _ (127, [(0, .inr (.inr (some 0))), (1, .inr (.inr (some a1))), (2, .inl v2_12), (3, .inl v3_4), (4, .inl v4_8), (5, .inl v5_8), (6, .inl v6_8), (7, .inl v7_8), (9, .inl v9_12), (10, .inl v10_12)], [.inl (I10 ((a1 + 17) + 2) (Int.toNat v10_12))], sh, gc_h sh I10 J11 A)
                  refine gv_if_le (t := 173) hD rfl rfl ⟨by exact gz_m 20 (by omega), by exact gz_m 21 (by omega)⟩ (fun c23 => ?_) (fun c23 => ?_)
                  · show gv_X _ _ (173, [(0, .inr (.inr (some 0))), (1, .inr (.inr (some a1))), (2, .inl v2_12), (3, .inl v3_4), (4, .inl v4_8), (5, .inl v5_8), (6, .inl v6_8), (7, .inl v7_8), (9, .inl v9_12), (10, .inl v10_12)], [], sh, gc_h sh I10 J11 A)
                    exact L173 I10 J11 v2_12 hI10 FI10 FJ11 (by exact gz_m 22 (by omega)) e0_12
                  · show gv_X _ _ (130, [(0, .inr (.inr (some 0))), (1, .inr (.inr (some a1))), (2, .inl v2_12), (3, .inl v3_4), (4, .inl v4_8), (5, .inl v5_8), (6, .inl v6_8), (7, .inl v7_8), (9, .inl v9_12), (10, .inl v10_12)], [], sh, gc_h sh I10 J11 A)
                    refine gv_run 1 true hD (pcₚ := 131) (lvₚ := [(0, .inr (.inr (some 0))), (1, .inr (.inr (some a1))), (2, .inl v2_12), (3, .inl v3_4), (4, .inl v4_8), (5, .inl v5_8), (6, .inl v6_8), (7, .inl v7_8), (9, .inl v9_12), (10, .inl v10_12)]) (stₚ := [.inr (.inr (some a1))]) (hₚ := gc_h sh I10 J11 A) (C := (True ∧ True)) rfl ⟨trivial, trivial⟩ ?_
                    refine gv_get hD rfl rfl S_a1 ⟨by decide, B_a1⟩ (gc_hA S_a1 rfl A_a1_15) ?_
                    show gv_X _ _ (134, [(0, .inr (.inr (some 0))), (1, .inr (.inr (some a1))), (2, .inl v2_12), (3, .inl v3_4), (4, .inl v4_8), (5, .inl v5_8), (6, .inl v6_8), (7, .inl v7_8), (9, .inl v9_12), (10, .inl v10_12)], [.inr (.inr (some (a1 + 17)))], sh, gc_h sh I10 J11 A)
                    refine gv_run 2 true hD (pcₚ := 137) (lvₚ := [(0, .inr (.inr (some 0))), (1, .inr (.inr (some a1))), (2, .inl v2_12), (3, .inl v3_4), (4, .inl v4_8), (5, .inl v5_8), (6, .inl v6_8), (7, .inl v7_8), (9, .inl v9_12), (10, .inl v10_12)]) (stₚ := [.inr (.inr (some 0)), .inl v10_12, .inr (.inr (some (a1 + 17)))]) (hₚ := gc_h sh I10 J11 A) (C := ((True ∧ True) ∧ True)) rfl ⟨⟨trivial, trivial⟩, trivial⟩ ?_
                    refine gv_get hD rfl rfl S_0 ⟨by decide, B_0⟩ (gc_hA S_0 rfl A_0_3) ?_
                    show gv_X _ _ (140, [(0, .inr (.inr (some 0))), (1, .inr (.inr (some a1))), (2, .inl v2_12), (3, .inl v3_4), (4, .inl v4_8), (5, .inl v5_8), (6, .inl v6_8), (7, .inl v7_8), (9, .inl v9_12), (10, .inl v10_12)], [.inr (.inr (some 31)), .inl v10_12, .inr (.inr (some (a1 + 17)))], sh, gc_h sh I10 J11 A)
                    refine gv_get hD rfl rfl S_31 ⟨by decide, B_31⟩ (gc_hA S_31 rfl A_31_0) ?_
                    show gv_X _ _ (143, [(0, .inr (.inr (some 0))), (1, .inr (.inr (some a1))), (2, .inl v2_12), (3, .inl v3_4), (4, .inl v4_8), (5, .inl v5_8), (6, .inl v6_8), (7, .inl v7_8), (9, .inl v9_12), (10, .inl v10_12)], [.inr (.inr (some 32)), .inl v10_12, .inr (.inr (some (a1 + 17)))], sh, gc_h sh I10 J11 A)
                    refine gv_run 2 true hD (pcₚ := 147) (lvₚ := [(0, .inr (.inr (some 0))), (1, .inr (.inr (some a1))), (2, .inl v2_12), (3, .inl v3_4), (4, .inl v4_8), (5, .inl v5_8), (6, .inl v6_8), (7, .inl v7_8), (9, .inl v9_12), (10, .inl v10_12)]) (stₚ := [.inl v5_8, .inl v4_8, .inr (.inr (some 32)), .inl v10_12, .inr (.inr (some (a1 + 17)))]) (hₚ := gc_h sh I10 J11 A) (C := ((True ∧ True) ∧ True)) rfl ⟨⟨trivial, trivial⟩, trivial⟩ ?_
                    obtain ⟨r24, h24, E24, P24⟩ := d_X2_isForm (ws0 := ws0) (tb := tb) hws htb sh ro I10 J11 A hI10 (a1 + 17) 1000 v10_12 32 v4_8 v5_8 h_a1_17 S_32 R_32 B_32 (by decide)  ⟨by exact gz_m 23 (by omega), by exact gz_m 24 (by omega)⟩ ⟨by exact gz_m 25 (by omega), by exact gz_m 26 (by omega)⟩ ⟨by exact gz_m 27 (by omega), by exact gz_m 28 (by omega)⟩ (by exact gz_m 29 (by omega)) 
                    obtain ⟨rfl, ⟨z24, rfl, q24⟩⟩ := P24
                    refine gv_callV hD rfl (As := [.inl v10_12, .inr (.inr (some 32)), .inl v4_8, .inl v5_8]) (st := []) rfl B_a1_17 S_a1_17 rfl (gc_lV12 hws rfl) (Nat.le_of_ble_eq_true rfl) (gz_Ev_mono (d := 2) (by decide) E24) ?_
                    show gv_X _ _ (150, [(0, .inr (.inr (some 0))), (1, .inr (.inr (some a1))), (2, .inl v2_12), (3, .inl v3_4), (4, .inl v4_8), (5, .inl v5_8), (6, .inl v6_8), (7, .inl v7_8), (9, .inl v9_12), (10, .inl v10_12)], [.inl z24], sh, gc_h sh I10 J11 A)
                    refine gv_if_ne (t := 173) hD rfl rfl ⟨by exact gz_m 30 (by omega), by exact gz_m 31 (by omega)⟩ (fun c25 => ?_) (fun c25 => ?_)
                    · show gv_X _ _ (173, [(0, .inr (.inr (some 0))), (1, .inr (.inr (some a1))), (2, .inl v2_12), (3, .inl v3_4), (4, .inl v4_8), (5, .inl v5_8), (6, .inl v6_8), (7, .inl v7_8), (9, .inl v9_12), (10, .inl v10_12)], [], sh, gc_h sh I10 J11 A)
                      exact L173 I10 J11 v2_12 hI10 FI10 FJ11 (by exact gz_m 32 (by omega)) e0_12
                    · show gv_X _ _ (153, [(0, .inr (.inr (some 0))), (1, .inr (.inr (some a1))), (2, .inl v2_12), (3, .inl v3_4), (4, .inl v4_8), (5, .inl v5_8), (6, .inl v6_8), (7, .inl v7_8), (9, .inl v9_12), (10, .inl v10_12)], [], sh, gc_h sh I10 J11 A)
                      refine gv_run 1 true hD (pcₚ := 154) (lvₚ := [(0, .inr (.inr (some 0))), (1, .inr (.inr (some a1))), (2, .inl v2_12), (3, .inl v3_4), (4, .inl v4_8), (5, .inl v5_8), (6, .inl v6_8), (7, .inl v7_8), (9, .inl v9_12), (10, .inl v10_12)]) (stₚ := [.inr (.inr (some 0))]) (hₚ := gc_h sh I10 J11 A) (C := (True ∧ True)) rfl ⟨trivial, trivial⟩ ?_
                      refine gv_get hD rfl rfl S_0 ⟨by decide, B_0⟩ (gc_hA S_0 rfl A_0_16) ?_
                      show gv_X _ _ (157, [(0, .inr (.inr (some 0))), (1, .inr (.inr (some a1))), (2, .inl v2_12), (3, .inl v3_4), (4, .inl v4_8), (5, .inl v5_8), (6, .inl v6_8), (7, .inl v7_8), (9, .inl v9_12), (10, .inl v10_12)], [.inr (.inr (some 143))], sh, gc_h sh I10 J11 A)
                      have f26 := gw_any (Int32.ofInt v3_4 <<< (Int32.ofInt 11 &&& 31))
                      have f27 := gw_any ((Int32.ofInt 65536 ||| Int32.ofInt (((Int32.ofInt v3_4 <<< (Int32.ofInt 11 &&& 31)).toInt))))
                      refine gv_run 7 true hD (pcₚ := 169) (lvₚ := [(2, .inl (v2_12 + 1)), (0, .inr (.inr (some 0))), (1, .inr (.inr (some a1))), (3, .inl v3_4), (4, .inl v4_8), (5, .inl v5_8), (6, .inl v6_8), (7, .inl v7_8), (9, .inl v9_12), (10, .inl v10_12)]) (stₚ := [.inl ((Int32.ofInt 65536 ||| Int32.ofInt (((Int32.ofInt v3_4 <<< (Int32.ofInt 11 &&& 31)).toInt))).toInt), .inl v2_12, .inr (.inr (some 143))]) (hₚ := gc_h sh I10 J11 A) (C := (((((((True ∧ True) ∧ True) ∧ True) ∧ True) ∧ True) ∧ True) ∧ True)) rfl ⟨⟨⟨⟨⟨⟨⟨trivial, trivial⟩, trivial⟩, trivial⟩, trivial⟩, trivial⟩, trivial⟩, trivial⟩ ?_
                      have f28 := gw_any ((Int32.ofInt (((Int32.ofInt 65536 ||| Int32.ofInt (((Int32.ofInt v3_4 <<< (Int32.ofInt 11 &&& 31)).toInt))).toInt)) ||| Int32.ofInt v10_12))
                      refine gv_run 2 true hD (pcₚ := 172) (lvₚ := [(2, .inl (v2_12 + 1)), (0, .inr (.inr (some 0))), (1, .inr (.inr (some a1))), (3, .inl v3_4), (4, .inl v4_8), (5, .inl v5_8), (6, .inl v6_8), (7, .inl v7_8), (9, .inl v9_12), (10, .inl v10_12)]) (stₚ := [.inl ((Int32.ofInt (((Int32.ofInt 65536 ||| Int32.ofInt (((Int32.ofInt v3_4 <<< (Int32.ofInt 11 &&& 31)).toInt))).toInt)) ||| Int32.ofInt v10_12).toInt), .inl v2_12, .inr (.inr (some 143))]) (hₚ := gc_h sh I10 J11 A) (C := ((True ∧ True) ∧ True)) rfl ⟨⟨trivial, trivial⟩, trivial⟩ ?_
                      have t29 := gh_sh1 (p := v3_4) ⟨by exact gz_m 33 (by omega), by exact gz_m 34 (by omega)⟩
                      have t30 := gh_or (x := (Int32.ofInt 65536 ||| Int32.ofInt (Int32.ofInt v3_4 <<< (Int32.ofInt 11 &&& 31)).toInt).toInt) (m := 32 + Int.toNat v3_4) (d := v10_12) (by have h9 := gh_sh1 (p := v3_4) ⟨by exact gz_m 35 (by omega), by exact gz_m 36 (by omega)⟩; exact gz_m 37 (by omega)) (by exact gz_m 38 (by omega)) ⟨by exact gz_m 39 (by omega), by exact gz_m 40 (by omega)⟩
                      refine gv_iast hD rfl S_143 ⟨by decide, B_143⟩ ⟨by exact gz_m 41 (by omega), by exact gz_m 42 (by omega)⟩ ?_
                      refine gc_st hI10 S_143 rfl R_143 (lo := (-2147483648)) (hi := 2147483647) rfl rfl (by exact gz_m 43 (by omega)) (by exact gz_m 44 (by omega)) (fun I31 hI31 q32 p32 => ?_)
                      have FI31 := gc_frs (W := fun q j => q = 143 ∨ q = (a1 + 22)) FI10 (Or.inl rfl) p32
                      have t33 := p32 31 4 (fun h => absurd h.1 (by first | exact gz_ne rfl | decide))
                      show gv_X _ _ (173, [(2, .inl (v2_12 + 1)), (0, .inr (.inr (some 0))), (1, .inr (.inr (some a1))), (3, .inl v3_4), (4, .inl v4_8), (5, .inl v5_8), (6, .inl v6_8), (7, .inl v7_8), (9, .inl v9_12), (10, .inl v10_12)], [], sh, gc_h sh I31 J11 A)
                      refine gv_pick [1, 2, 0, 3, 4, 5, 6, 7, 8, 9] rfl ?_
                      exact L173 I31 J11 (v2_12 + 1) hI31 FI31 FJ11 (by exact gz_m 45 (by omega)) (gh_CA_st e0_12 (by exact gz_m 46 (by omega)) (by exact gz_m 47 (by omega)) G_a1 p32 ⟨1, v3_4, v10_12, by exact gz_m 48 (by omega), by exact gz_m 49 (by omega), fun _ => by exact gz_m 50 (by omega), by exact gz_m 51 (by omega), fun _ => by exact gz_m 52 (by omega), q32.trans (by exact gz_m 53 (by omega))⟩)
          refine gv_run 2 true hD (pcₚ := 64) (lvₚ := [(0, .inr (.inr (some 0))), (1, .inr (.inr (some a1))), (2, .inl v2_8), (3, .inl v3_4), (4, .inl v4_8), (5, .inl v5_8), (6, .inl v6_8), (7, .inl v7_8)]) (stₚ := [.inl v6_8, .inl v7_8]) (hₚ := gc_h sh I6 J7 A) (C := ((True ∧ True) ∧ True)) rfl ⟨⟨trivial, trivial⟩, trivial⟩ ?_
          refine gv_icmp_ge (t := 185) hD rfl rfl ⟨⟨by exact gz_m 54 (by omega), by exact gz_m 55 (by omega)⟩, ⟨by exact gz_m 56 (by omega), by exact gz_m 57 (by omega)⟩⟩ (fun c34 => ?_) (fun c34 => ?_)
          · show gv_X _ _ (185, [(0, .inr (.inr (some 0))), (1, .inr (.inr (some a1))), (2, .inl v2_8), (3, .inl v3_4), (4, .inl v4_8), (5, .inl v5_8), (6, .inl v6_8), (7, .inl v7_8)], [], sh, gc_h sh I6 J7 A)
            refine gv_run 2 true hD (pcₚ := 4) (lvₚ := [(3, .inl (v3_4 + 1)), (0, .inr (.inr (some 0))), (1, .inr (.inr (some a1))), (2, .inl v2_8), (4, .inl v4_8), (5, .inl v5_8), (6, .inl v6_8), (7, .inl v7_8)]) (stₚ := []) (hₚ := gc_h sh I6 J7 A) (C := ((True ∧ True) ∧ True)) rfl ⟨⟨trivial, trivial⟩, trivial⟩ ?_
            refine gv_pick [1, 2, 3, 0] rfl ?_
            exact ih4 I6 J7 v2_8 (v3_4 + 1) (by exact gz_m 58 (by omega)) hI6 FI6 FJ7 (by exact gz_m 59 (by omega)) e0_8
          · show gv_X _ _ (67, [(0, .inr (.inr (some 0))), (1, .inr (.inr (some a1))), (2, .inl v2_8), (3, .inl v3_4), (4, .inl v4_8), (5, .inl v5_8), (6, .inl v6_8), (7, .inl v7_8)], [], sh, gc_h sh I6 J7 A)
            refine gv_run 1 true hD (pcₚ := 68) (lvₚ := [(0, .inr (.inr (some 0))), (1, .inr (.inr (some a1))), (2, .inl v2_8), (3, .inl v3_4), (4, .inl v4_8), (5, .inl v5_8), (6, .inl v6_8), (7, .inl v7_8)]) (stₚ := [.inr (.inr (some a1))]) (hₚ := gc_h sh I6 J7 A) (C := (True ∧ True)) rfl ⟨trivial, trivial⟩ ?_
            refine gv_get hD rfl rfl S_a1 ⟨by decide, B_a1⟩ (gc_hA S_a1 rfl A_a1_15) ?_
            show gv_X _ _ (71, [(0, .inr (.inr (some 0))), (1, .inr (.inr (some a1))), (2, .inl v2_8), (3, .inl v3_4), (4, .inl v4_8), (5, .inl v5_8), (6, .inl v6_8), (7, .inl v7_8)], [.inr (.inr (some (a1 + 17)))], sh, gc_h sh I6 J7 A)
            refine gv_get hD rfl rfl S_a1_17 ⟨by decide, B_a1_17⟩ (gc_hA S_a1_17 rfl A_a1_17_5) ?_
            show gv_X _ _ (74, [(0, .inr (.inr (some 0))), (1, .inr (.inr (some a1))), (2, .inl v2_8), (3, .inl v3_4), (4, .inl v4_8), (5, .inl v5_8), (6, .inl v6_8), (7, .inl v7_8)], [.inr (.inr (some ((a1 + 17) + 5)))], sh, gc_h sh I6 J7 A)
            refine gv_run 1 true hD (pcₚ := 76) (lvₚ := [(0, .inr (.inr (some 0))), (1, .inr (.inr (some a1))), (2, .inl v2_8), (3, .inl v3_4), (4, .inl v4_8), (5, .inl v5_8), (6, .inl v6_8), (7, .inl v7_8)]) (stₚ := [.inl v7_8, .inr (.inr (some ((a1 + 17) + 5)))]) (hₚ := gc_h sh I6 J7 A) (C := (True ∧ True)) rfl ⟨trivial, trivial⟩ ?_
            have f35 := (show 0 ≤ I6 ((a1 + 17) + 5) (Int.toNat v7_8) ∧ I6 ((a1 + 17) + 5) (Int.toNat v7_8) ≤ 1535 from gc_in2 hI6 R_a1_17_5 rfl rfl rfl)
            refine gv_iald hD rfl S_a1_17_5 rfl ⟨by decide, B_a1_17_5⟩ ⟨by exact gz_m 60 (by omega), by exact gz_m 61 (by omega)⟩ (gc_iI S_a1_17_5 rfl) ?_
            show gv_X _ _ (77, [(0, .inr (.inr (some 0))), (1, .inr (.inr (some a1))), (2, .inl v2_8), (3, .inl v3_4), (4, .inl v4_8), (5, .inl v5_8), (6, .inl v6_8), (7, .inl v7_8)], [.inl (I6 ((a1 + 17) + 5) (Int.toNat v7_8))], sh, gc_h sh I6 J7 A)
            have f36 := gw_div (x := ((I6 ((a1 + 17) + 5) (Int.toNat v7_8)))) (y := 24) ⟨by exact gz_m 62 (by omega), by exact gz_m 63 (by omega)⟩ ⟨by exact gz_m 64 (by omega), by exact gz_m 65 (by omega)⟩
            refine gv_run 7 true hD (pcₚ := 88) (lvₚ := [(8, .inl ((Int32.ofInt ((I6 ((a1 + 17) + 5) (Int.toNat v7_8))) / Int32.ofInt 24).toInt)), (0, .inr (.inr (some 0))), (1, .inr (.inr (some a1))), (2, .inl v2_8), (3, .inl v3_4), (4, .inl v4_8), (5, .inl v5_8), (6, .inl v6_8), (7, .inl v7_8)]) (stₚ := [.inr (.inr (some a1)), .inl (((Int32.ofInt ((I6 ((a1 + 17) + 5) (Int.toNat v7_8))) / Int32.ofInt 24).toInt) * 24)]) (hₚ := gc_h sh I6 J7 A) (C := (((((((True ∧ True) ∧ (gz_R 24 ∧ ¬ 24 = 0)) ∧ True) ∧ True) ∧ True) ∧ True) ∧ True)) rfl ⟨⟨⟨⟨⟨⟨⟨trivial, trivial⟩, ⟨⟨by exact gz_m 66 (by omega), by exact gz_m 67 (by omega)⟩, by exact gz_m 68 (by omega)⟩⟩, trivial⟩, trivial⟩, trivial⟩, trivial⟩, trivial⟩ ?_
            refine gv_run 1 true hD (pcₚ := 90) (lvₚ := [(8, .inl ((Int32.ofInt ((I6 ((a1 + 17) + 5) (Int.toNat v7_8))) / Int32.ofInt 24).toInt)), (0, .inr (.inr (some 0))), (1, .inr (.inr (some a1))), (2, .inl v2_8), (3, .inl v3_4), (4, .inl v4_8), (5, .inl v5_8), (6, .inl v6_8), (7, .inl v7_8)]) (stₚ := [.inl ((Int32.ofInt ((I6 ((a1 + 17) + 5) (Int.toNat v7_8))) / Int32.ofInt 24).toInt), .inr (.inr (some a1)), .inl (((Int32.ofInt ((I6 ((a1 + 17) + 5) (Int.toNat v7_8))) / Int32.ofInt 24).toInt) * 24)]) (hₚ := gc_h sh I6 J7 A) (C := (True ∧ True)) rfl ⟨trivial, trivial⟩ ?_
            obtain ⟨r37, h37, E37, P37⟩ := d_X11_cellsOf_w (ws0 := ws0) (tb := tb) hws htb sh ro I6 J7 A hI6 a1 (((Int32.ofInt ((I6 ((a1 + 17) + 5) (Int.toNat v7_8))) / Int32.ofInt 24).toInt)) h_a1   ⟨by exact gz_m 69 (by omega), by exact gz_m 70 (by omega)⟩  
            obtain ⟨rfl, ⟨z37, rfl, q37⟩⟩ := P37
            refine gv_callV hD rfl (As := [.inl ((Int32.ofInt ((I6 ((a1 + 17) + 5) (Int.toNat v7_8))) / Int32.ofInt 24).toInt)]) (st := [.inl (((Int32.ofInt ((I6 ((a1 + 17) + 5) (Int.toNat v7_8))) / Int32.ofInt 24).toInt) * 24)]) rfl B_a1 S_a1 rfl (gc_lV12 hws rfl) (Nat.le_of_ble_eq_true rfl) (gz_Ev_mono (d := 2) (by decide) E37) ?_
            show gv_X _ _ (93, [(8, .inl ((Int32.ofInt ((I6 ((a1 + 17) + 5) (Int.toNat v7_8))) / Int32.ofInt 24).toInt)), (0, .inr (.inr (some 0))), (1, .inr (.inr (some a1))), (2, .inl v2_8), (3, .inl v3_4), (4, .inl v4_8), (5, .inl v5_8), (6, .inl v6_8), (7, .inl v7_8)], [.inl z37, .inl (((Int32.ofInt ((I6 ((a1 + 17) + 5) (Int.toNat v7_8))) / Int32.ofInt 24).toInt) * 24)], sh, gc_h sh I6 J7 A)
            refine gv_run 6 true hD (pcₚ := 103) (lvₚ := [(10, .inl (((Int32.ofInt ((I6 ((a1 + 17) + 5) (Int.toNat v7_8))) / Int32.ofInt 24).toInt) * 24)), (9, .inl ((((Int32.ofInt ((I6 ((a1 + 17) + 5) (Int.toNat v7_8))) / Int32.ofInt 24).toInt) * 24) + z37)), (8, .inl ((Int32.ofInt ((I6 ((a1 + 17) + 5) (Int.toNat v7_8))) / Int32.ofInt 24).toInt)), (0, .inr (.inr (some 0))), (1, .inr (.inr (some a1))), (2, .inl v2_8), (3, .inl v3_4), (4, .inl v4_8), (5, .inl v5_8), (6, .inl v6_8), (7, .inl v7_8)]) (stₚ := []) (hₚ := gc_h sh I6 J7 A) (C := ((((((True ∧ True) ∧ True) ∧ True) ∧ True) ∧ True) ∧ True)) rfl ⟨⟨⟨⟨⟨⟨trivial, trivial⟩, trivial⟩, trivial⟩, trivial⟩, trivial⟩, trivial⟩ ?_
            refine gv_pick [3, 4, 5, 6, 7, 8, 9, 10, 1, 0] rfl ?_
            exact L103 _ I6 J7 v2_8 (((((Int32.ofInt ((I6 ((a1 + 17) + 5) (Int.toNat v7_8))) / Int32.ofInt 24).toInt) * 24) + z37)) ((((Int32.ofInt ((I6 ((a1 + 17) + 5) (Int.toNat v7_8))) / Int32.ofInt 24).toInt) * 24)) (Nat.lt_succ_self _) hI6 FI6 FJ7 (by exact gz_m 71 (by omega)) e0_8
      have L193 : ∀ (n9 : Nat) (I38 : gr_I) (J39 : gr_J) (v2_40 : Int) (v3_40 : Int), (1001 - v2_40).toNat < n9 → gc_Inv ro I38 → (∀ q j : Nat, (q = 143 ∨ q = (a1 + 22)) ∨ I38 q j = I q j) → (∀ q j : Nat, (False) ∨ J39 q j = J q j) → ((0 ≤ v2_40 ∧ v2_40 ≤ 1000) ∧ (0 ≤ v3_40 ∧ v3_40 ≤ 24) ∧ (I38 31 4 = I 31 4)) → (gh_CA a1 (I 31 4) v2_40 I38) → gv_X (gc_E12 ws0 tb 2 (yX12_listChanges, cX12_listChanges, 11, (some .int)) kX12_listChanges) (gv_Q cX12_listChanges (some .int) sh (fun r hₚ => (∃ (Iₚ : gr_I) (Jₚ : gr_J), hₚ = gc_h sh Iₚ Jₚ A ∧ gc_Inv ro Iₚ ∧ (∀ q j : Nat, (q = 143 ∨ q = (a1 + 22)) ∨ Iₚ q j = I q j) ∧ (∀ q j : Nat, (False) ∨ Jₚ q j = J q j) ∧ (∃ z : Int, r = some (.inl z) ∧ 0 ≤ z ∧ z ≤ 1000 ∧ (gh_CA a1 (I 31 4) z Iₚ))))) (193, [(0, .inr (.inr (some 0))), (2, .inl v2_40), (3, .inl v3_40)], [], sh, gc_h sh I38 J39 A) := by
        intro n9
        induction n9 with
        | zero => intro I38 J39 v2_40 v3_40 hn; exact gz_m 72 (by omega)
        | succ n9 ih193 =>
          intro I38 J39 v2_40 v3_40 hn hI38 FI38 FJ39 m_40 e0_40
          clear hv2_4 hv3_4 e1_4 f5
          obtain ⟨hv2_40, hv3_40, e1_40⟩ := m_40
          have f41 := (gc_b_3_4 hI38 R_31)
          have L236 : ((0 ≤ v2_40 ∧ v2_40 ≤ 1000) ∧ (I38 31 4 = I 31 4)) → gv_X (gc_E12 ws0 tb 2 (yX12_listChanges, cX12_listChanges, 11, (some .int)) kX12_listChanges) (gv_Q cX12_listChanges (some .int) sh (fun r hₚ => (∃ (Iₚ : gr_I) (Jₚ : gr_J), hₚ = gc_h sh Iₚ Jₚ A ∧ gc_Inv ro Iₚ ∧ (∀ q j : Nat, (q = 143 ∨ q = (a1 + 22)) ∨ Iₚ q j = I q j) ∧ (∀ q j : Nat, (False) ∨ Jₚ q j = J q j) ∧ (∃ z : Int, r = some (.inl z) ∧ 0 ≤ z ∧ z ≤ 1000 ∧ (gh_CA a1 (I 31 4) z Iₚ))))) (236, [(0, .inr (.inr (some 0))), (2, .inl v2_40)], [], sh, gc_h sh I38 J39 A) := by
            intro m_42
            obtain ⟨hv2_40_42, e0_42⟩ := m_42
            have f43 := (gc_b_3_4 hI38 R_31)
            have L238 : ∀ (n9 : Nat) (I44 : gr_I) (J45 : gr_J) (v2_46 : Int) (v3_46 : Int), (1001 - v2_46).toNat < n9 → gc_Inv ro I44 → (∀ q j : Nat, (q = 143 ∨ q = (a1 + 22)) ∨ I44 q j = I q j) → (∀ q j : Nat, (False) ∨ J45 q j = J q j) → ((0 ≤ v2_46 ∧ v2_46 ≤ 1000) ∧ (0 ≤ v3_46 ∧ v3_46 ≤ 24) ∧ (I44 31 4 = I 31 4)) → (gh_CA a1 (I 31 4) v2_46 I44) → gv_X (gc_E12 ws0 tb 2 (yX12_listChanges, cX12_listChanges, 11, (some .int)) kX12_listChanges) (gv_Q cX12_listChanges (some .int) sh (fun r hₚ => (∃ (Iₚ : gr_I) (Jₚ : gr_J), hₚ = gc_h sh Iₚ Jₚ A ∧ gc_Inv ro Iₚ ∧ (∀ q j : Nat, (q = 143 ∨ q = (a1 + 22)) ∨ Iₚ q j = I q j) ∧ (∀ q j : Nat, (False) ∨ Jₚ q j = J q j) ∧ (∃ z : Int, r = some (.inl z) ∧ 0 ≤ z ∧ z ≤ 1000 ∧ (gh_CA a1 (I 31 4) z Iₚ))))) (238, [(0, .inr (.inr (some 0))), (2, .inl v2_46), (3, .inl v3_46)], [], sh, gc_h sh I44 J45 A) := by
              intro n9
              induction n9 with
              | zero => intro I44 J45 v2_46 v3_46 hn; exact gz_m 73 (by omega)
              | succ n9 ih238 =>
                intro I44 J45 v2_46 v3_46 hn hI44 FI44 FJ45 m_46 e0_46
                clear hv2_40_42 e0_42 f43 hv2_40 hv3_40 e1_40 f41
                obtain ⟨hv2_46, hv3_46, e1_46⟩ := m_46
                have f47 := (gc_b_3_4 hI44 R_31)
                have L290 : ((0 ≤ v2_46 ∧ v2_46 ≤ 1000) ∧ (I44 31 4 = I 31 4)) → gv_X (gc_E12 ws0 tb 2 (yX12_listChanges, cX12_listChanges, 11, (some .int)) kX12_listChanges) (gv_Q cX12_listChanges (some .int) sh (fun r hₚ => (∃ (Iₚ : gr_I) (Jₚ : gr_J), hₚ = gc_h sh Iₚ Jₚ A ∧ gc_Inv ro Iₚ ∧ (∀ q j : Nat, (q = 143 ∨ q = (a1 + 22)) ∨ Iₚ q j = I q j) ∧ (∀ q j : Nat, (False) ∨ Jₚ q j = J q j) ∧ (∃ z : Int, r = some (.inl z) ∧ 0 ≤ z ∧ z ≤ 1000 ∧ (gh_CA a1 (I 31 4) z Iₚ))))) (290, [(2, .inl v2_46)], [], sh, gc_h sh I44 J45 A) := by
                  intro m_48
                  obtain ⟨hv2_46_48, e0_48⟩ := m_48
                  have f49 := (gc_b_3_4 hI44 R_31)
                  refine gv_run 1 true hD (pcₚ := 291) (lvₚ := [(2, .inl v2_46)]) (stₚ := [.inl v2_46]) (hₚ := gc_h sh I44 J45 A) (C := (True ∧ True)) rfl ⟨trivial, trivial⟩ ?_
                  exact gv_iret hD rfl ⟨I44, J45, rfl, hI44, FI44, FJ45, ⟨_, rfl, by exact gz_m 74 (by omega), by exact gz_m 75 (by omega), e0_46⟩⟩
                refine gv_run 2 true hD (pcₚ := 240) (lvₚ := [(0, .inr (.inr (some 0))), (2, .inl v2_46), (3, .inl v3_46)]) (stₚ := [.inr (.inr (some 0)), .inl v3_46]) (hₚ := gc_h sh I44 J45 A) (C := ((True ∧ True) ∧ True)) rfl ⟨⟨trivial, trivial⟩, trivial⟩ ?_
                refine gv_get hD rfl rfl S_0 ⟨by decide, B_0⟩ (gc_hA S_0 rfl A_0_3) ?_
                show gv_X _ _ (243, [(0, .inr (.inr (some 0))), (2, .inl v2_46), (3, .inl v3_46)], [.inr (.inr (some 31)), .inl v3_46], sh, gc_h sh I44 J45 A)
                have f50 := (gc_b_3_4 hI44 R_31)
                refine gv_get hD rfl rfl S_31 ⟨by decide, B_31⟩ (gc_hI S_31 rfl) ?_
                show gv_X _ _ (246, [(0, .inr (.inr (some 0))), (2, .inl v2_46), (3, .inl v3_46)], [.inl (I44 31 4), .inl v3_46], sh, gc_h sh I44 J45 A)
                refine gv_icmp_ge (t := 290) hD rfl rfl ⟨⟨by exact gz_m 76 (by omega), by exact gz_m 77 (by omega)⟩, ⟨by exact gz_m 78 (by omega), by exact gz_m 79 (by omega)⟩⟩ (fun c51 => ?_) (fun c51 => ?_)
                · show gv_X _ _ (290, [(0, .inr (.inr (some 0))), (2, .inl v2_46), (3, .inl v3_46)], [], sh, gc_h sh I44 J45 A)
                  refine gv_pick [1] rfl ?_
                  exact L290 (by exact gz_m 80 (by omega))
                · show gv_X _ _ (249, [(0, .inr (.inr (some 0))), (2, .inl v2_46), (3, .inl v3_46)], [], sh, gc_h sh I44 J45 A)
                  refine gv_run 1 true hD (pcₚ := 250) (lvₚ := [(0, .inr (.inr (some 0))), (2, .inl v2_46), (3, .inl v3_46)]) (stₚ := [.inr (.inr (some 0))]) (hₚ := gc_h sh I44 J45 A) (C := (True ∧ True)) rfl ⟨trivial, trivial⟩ ?_
                  refine gv_get hD rfl rfl S_0 ⟨by decide, B_0⟩ (gc_hA S_0 rfl A_0_3) ?_
                  show gv_X _ _ (253, [(0, .inr (.inr (some 0))), (2, .inl v2_46), (3, .inl v3_46)], [.inr (.inr (some 31))], sh, gc_h sh I44 J45 A)
                  have f52 := (gc_b_3_4 hI44 R_31)
                  refine gv_get hD rfl rfl S_31 ⟨by decide, B_31⟩ (gc_hI S_31 rfl) ?_
                  show gv_X _ _ (256, [(0, .inr (.inr (some 0))), (2, .inl v2_46), (3, .inl v3_46)], [.inl (I44 31 4)], sh, gc_h sh I44 J45 A)
                  refine gv_run 1 true hD (pcₚ := 257) (lvₚ := [(0, .inr (.inr (some 0))), (2, .inl v2_46), (3, .inl v3_46)]) (stₚ := [.inl 1, .inl (I44 31 4)]) (hₚ := gc_h sh I44 J45 A) (C := (True ∧ True)) rfl ⟨trivial, trivial⟩ ?_
                  refine gv_icmp_le (t := 290) hD rfl rfl ⟨⟨by exact gz_m 81 (by omega), by exact gz_m 82 (by omega)⟩, ⟨by exact gz_m 83 (by omega), by exact gz_m 84 (by omega)⟩⟩ (fun c53 => ?_) (fun c53 => ?_)
                  · show gv_X _ _ (290, [(0, .inr (.inr (some 0))), (2, .inl v2_46), (3, .inl v3_46)], [], sh, gc_h sh I44 J45 A)
                    refine gv_pick [1] rfl ?_
                    exact L290 (by exact gz_m 85 (by omega))
                  · show gv_X _ _ (260, [(0, .inr (.inr (some 0))), (2, .inl v2_46), (3, .inl v3_46)], [], sh, gc_h sh I44 J45 A)
                    refine gv_run 2 true hD (pcₚ := 264) (lvₚ := [(0, .inr (.inr (some 0))), (2, .inl v2_46), (3, .inl v3_46)]) (stₚ := [.inl 1000, .inl v2_46]) (hₚ := gc_h sh I44 J45 A) (C := ((True ∧ True) ∧ True)) rfl ⟨⟨trivial, trivial⟩, trivial⟩ ?_
                    refine gv_icmp_ge (t := 290) hD rfl rfl ⟨⟨by exact gz_m 86 (by omega), by exact gz_m 87 (by omega)⟩, ⟨by exact gz_m 88 (by omega), by exact gz_m 89 (by omega)⟩⟩ (fun c54 => ?_) (fun c54 => ?_)
                    · show gv_X _ _ (290, [(0, .inr (.inr (some 0))), (2, .inl v2_46), (3, .inl v3_46)], [], sh, gc_h sh I44 J45 A)
                      refine gv_pick [1] rfl ?_
                      exact L290 (by exact gz_m 90 (by omega))
                    · show gv_X _ _ (267, [(0, .inr (.inr (some 0))), (2, .inl v2_46), (3, .inl v3_46)], [], sh, gc_h sh I44 J45 A)
                      refine gv_run 1 true hD (pcₚ := 268) (lvₚ := [(0, .inr (.inr (some 0))), (2, .inl v2_46), (3, .inl v3_46)]) (stₚ := [.inr (.inr (some 0))]) (hₚ := gc_h sh I44 J45 A) (C := (True ∧ True)) rfl ⟨trivial, trivial⟩ ?_
                      refine gv_get hD rfl rfl S_0 ⟨by decide, B_0⟩ (gc_hA S_0 rfl A_0_16) ?_
                      show gv_X _ _ (271, [(0, .inr (.inr (some 0))), (2, .inl v2_46), (3, .inl v3_46)], [.inr (.inr (some 143))], sh, gc_h sh I44 J45 A)
                      have f55 := gw_any (Int32.ofInt v3_46 <<< (Int32.ofInt 11 &&& 31))
                      have f56 := gw_any ((Int32.ofInt 196608 ||| Int32.ofInt (((Int32.ofInt v3_46 <<< (Int32.ofInt 11 &&& 31)).toInt))))
                      refine gv_run 7 true hD (pcₚ := 283) (lvₚ := [(2, .inl (v2_46 + 1)), (0, .inr (.inr (some 0))), (3, .inl v3_46)]) (stₚ := [.inl ((Int32.ofInt 196608 ||| Int32.ofInt (((Int32.ofInt v3_46 <<< (Int32.ofInt 11 &&& 31)).toInt))).toInt), .inl v2_46, .inr (.inr (some 143))]) (hₚ := gc_h sh I44 J45 A) (C := (((((((True ∧ True) ∧ True) ∧ True) ∧ True) ∧ True) ∧ True) ∧ True)) rfl ⟨⟨⟨⟨⟨⟨⟨trivial, trivial⟩, trivial⟩, trivial⟩, trivial⟩, trivial⟩, trivial⟩, trivial⟩ ?_
                      have t57 := gh_sh3 (p := v3_46) ⟨by exact gz_m 91 (by omega), by exact gz_m 92 (by omega)⟩
                      refine gv_iast hD rfl S_143 ⟨by decide, B_143⟩ ⟨by exact gz_m 93 (by omega), by exact gz_m 94 (by omega)⟩ ?_
                      refine gc_st hI44 S_143 rfl R_143 (lo := (-2147483648)) (hi := 2147483647) rfl rfl (by exact gz_m 95 (by omega)) (by exact gz_m 96 (by omega)) (fun I58 hI58 q59 p59 => ?_)
                      have FI58 := gc_frs (W := fun q j => q = 143 ∨ q = (a1 + 22)) FI44 (Or.inl rfl) p59
                      have t60 := p59 31 4 (fun h => absurd h.1 (by first | exact gz_ne rfl | decide))
                      show gv_X _ _ (284, [(2, .inl (v2_46 + 1)), (0, .inr (.inr (some 0))), (3, .inl v3_46)], [], sh, gc_h sh I58 J45 A)
                      refine gv_run 2 true hD (pcₚ := 238) (lvₚ := [(3, .inl (v3_46 + 1)), (2, .inl (v2_46 + 1)), (0, .inr (.inr (some 0)))]) (stₚ := []) (hₚ := gc_h sh I58 J45 A) (C := ((True ∧ True) ∧ True)) rfl ⟨⟨trivial, trivial⟩, trivial⟩ ?_
                      refine gv_pick [2, 1, 0] rfl ?_
                      exact ih238 I58 J45 (v2_46 + 1) (v3_46 + 1) (by exact gz_m 97 (by omega)) hI58 FI58 FJ45 (by exact gz_m 98 (by omega)) (gh_CA_st e0_46 (by exact gz_m 99 (by omega)) (by exact gz_m 100 (by omega)) G_a1 p59 ⟨3, v3_46, 0, by exact gz_m 101 (by omega), by exact gz_m 102 (by omega), fun _ => by exact gz_m 103 (by omega), by exact gz_m 104 (by omega), fun _ => by exact gz_m 105 (by omega), q59.trans (by exact gz_m 106 (by omega))⟩)
            refine gv_run 2 true hD (pcₚ := 238) (lvₚ := [(3, .inl 0), (0, .inr (.inr (some 0))), (2, .inl v2_40)]) (stₚ := []) (hₚ := gc_h sh I38 J39 A) (C := ((True ∧ True) ∧ True)) rfl ⟨⟨trivial, trivial⟩, trivial⟩ ?_
            refine gv_pick [1, 2, 0] rfl ?_
            exact L238 _ I38 J39 v2_40 0 (Nat.lt_succ_self _) hI38 FI38 FJ39 (by exact gz_m 107 (by omega)) e0_40
          refine gv_run 4 true hD (pcₚ := 197) (lvₚ := [(0, .inr (.inr (some 0))), (2, .inl v2_40), (3, .inl v3_40)]) (stₚ := [.inr (.inr (some 0)), .inl (v3_40 + 1)]) (hₚ := gc_h sh I38 J39 A) (C := ((((True ∧ True) ∧ True) ∧ True) ∧ True)) rfl ⟨⟨⟨⟨trivial, trivial⟩, trivial⟩, trivial⟩, trivial⟩ ?_
          refine gv_get hD rfl rfl S_0 ⟨by decide, B_0⟩ (gc_hA S_0 rfl A_0_3) ?_
          show gv_X _ _ (200, [(0, .inr (.inr (some 0))), (2, .inl v2_40), (3, .inl v3_40)], [.inr (.inr (some 31)), .inl (v3_40 + 1)], sh, gc_h sh I38 J39 A)
          have f61 := (gc_b_3_4 hI38 R_31)
          refine gv_get hD rfl rfl S_31 ⟨by decide, B_31⟩ (gc_hI S_31 rfl) ?_
          show gv_X _ _ (203, [(0, .inr (.inr (some 0))), (2, .inl v2_40), (3, .inl v3_40)], [.inl (I38 31 4), .inl (v3_40 + 1)], sh, gc_h sh I38 J39 A)
          refine gv_icmp_ge (t := 236) hD rfl rfl ⟨⟨by exact gz_m 108 (by omega), by exact gz_m 109 (by omega)⟩, ⟨by exact gz_m 110 (by omega), by exact gz_m 111 (by omega)⟩⟩ (fun c62 => ?_) (fun c62 => ?_)
          · show gv_X _ _ (236, [(0, .inr (.inr (some 0))), (2, .inl v2_40), (3, .inl v3_40)], [], sh, gc_h sh I38 J39 A)
            refine gv_pick [0, 1] rfl ?_
            exact L236 (by exact gz_m 112 (by omega))
          · show gv_X _ _ (206, [(0, .inr (.inr (some 0))), (2, .inl v2_40), (3, .inl v3_40)], [], sh, gc_h sh I38 J39 A)
            refine gv_run 2 true hD (pcₚ := 210) (lvₚ := [(0, .inr (.inr (some 0))), (2, .inl v2_40), (3, .inl v3_40)]) (stₚ := [.inl 1000, .inl v2_40]) (hₚ := gc_h sh I38 J39 A) (C := ((True ∧ True) ∧ True)) rfl ⟨⟨trivial, trivial⟩, trivial⟩ ?_
            refine gv_icmp_ge (t := 236) hD rfl rfl ⟨⟨by exact gz_m 113 (by omega), by exact gz_m 114 (by omega)⟩, ⟨by exact gz_m 115 (by omega), by exact gz_m 116 (by omega)⟩⟩ (fun c63 => ?_) (fun c63 => ?_)
            · show gv_X _ _ (236, [(0, .inr (.inr (some 0))), (2, .inl v2_40), (3, .inl v3_40)], [], sh, gc_h sh I38 J39 A)
              refine gv_pick [0, 1] rfl ?_
              exact L236 (by exact gz_m 117 (by omega))
            · show gv_X _ _ (213, [(0, .inr (.inr (some 0))), (2, .inl v2_40), (3, .inl v3_40)], [], sh, gc_h sh I38 J39 A)
              refine gv_run 1 true hD (pcₚ := 214) (lvₚ := [(0, .inr (.inr (some 0))), (2, .inl v2_40), (3, .inl v3_40)]) (stₚ := [.inr (.inr (some 0))]) (hₚ := gc_h sh I38 J39 A) (C := (True ∧ True)) rfl ⟨trivial, trivial⟩ ?_
              refine gv_get hD rfl rfl S_0 ⟨by decide, B_0⟩ (gc_hA S_0 rfl A_0_16) ?_
              show gv_X _ _ (217, [(0, .inr (.inr (some 0))), (2, .inl v2_40), (3, .inl v3_40)], [.inr (.inr (some 143))], sh, gc_h sh I38 J39 A)
              have f64 := gw_any (Int32.ofInt v3_40 <<< (Int32.ofInt 11 &&& 31))
              have f65 := gw_any ((Int32.ofInt 131072 ||| Int32.ofInt (((Int32.ofInt v3_40 <<< (Int32.ofInt 11 &&& 31)).toInt))))
              refine gv_run 7 true hD (pcₚ := 229) (lvₚ := [(2, .inl (v2_40 + 1)), (0, .inr (.inr (some 0))), (3, .inl v3_40)]) (stₚ := [.inl ((Int32.ofInt 131072 ||| Int32.ofInt (((Int32.ofInt v3_40 <<< (Int32.ofInt 11 &&& 31)).toInt))).toInt), .inl v2_40, .inr (.inr (some 143))]) (hₚ := gc_h sh I38 J39 A) (C := (((((((True ∧ True) ∧ True) ∧ True) ∧ True) ∧ True) ∧ True) ∧ True)) rfl ⟨⟨⟨⟨⟨⟨⟨trivial, trivial⟩, trivial⟩, trivial⟩, trivial⟩, trivial⟩, trivial⟩, trivial⟩ ?_
              have t66 := gh_sh2 (p := v3_40) ⟨by exact gz_m 118 (by omega), by exact gz_m 119 (by omega)⟩
              refine gv_iast hD rfl S_143 ⟨by decide, B_143⟩ ⟨by exact gz_m 120 (by omega), by exact gz_m 121 (by omega)⟩ ?_
              refine gc_st hI38 S_143 rfl R_143 (lo := (-2147483648)) (hi := 2147483647) rfl rfl (by exact gz_m 122 (by omega)) (by exact gz_m 123 (by omega)) (fun I67 hI67 q68 p68 => ?_)
              have FI67 := gc_frs (W := fun q j => q = 143 ∨ q = (a1 + 22)) FI38 (Or.inl rfl) p68
              have t69 := p68 31 4 (fun h => absurd h.1 (by first | exact gz_ne rfl | decide))
              show gv_X _ _ (230, [(2, .inl (v2_40 + 1)), (0, .inr (.inr (some 0))), (3, .inl v3_40)], [], sh, gc_h sh I67 J39 A)
              refine gv_run 2 true hD (pcₚ := 193) (lvₚ := [(3, .inl (v3_40 + 1)), (2, .inl (v2_40 + 1)), (0, .inr (.inr (some 0)))]) (stₚ := []) (hₚ := gc_h sh I67 J39 A) (C := ((True ∧ True) ∧ True)) rfl ⟨⟨trivial, trivial⟩, trivial⟩ ?_
              refine gv_pick [2, 1, 0] rfl ?_
              exact ih193 I67 J39 (v2_40 + 1) (v3_40 + 1) (by exact gz_m 124 (by omega)) hI67 FI67 FJ39 (by exact gz_m 125 (by omega)) (gh_CA_st e0_40 (by exact gz_m 126 (by omega)) (by exact gz_m 127 (by omega)) G_a1 p68 ⟨2, v3_40, 0, by exact gz_m 128 (by omega), by exact gz_m 129 (by omega), fun _ => by exact gz_m 130 (by omega), by exact gz_m 131 (by omega), fun _ => by exact gz_m 132 (by omega), q68.trans (by exact gz_m 133 (by omega))⟩)
      refine gv_run 2 true hD (pcₚ := 6) (lvₚ := [(0, .inr (.inr (some 0))), (1, .inr (.inr (some a1))), (2, .inl v2_4), (3, .inl v3_4)]) (stₚ := [.inr (.inr (some 0)), .inl v3_4]) (hₚ := gc_h sh I2 J3 A) (C := ((True ∧ True) ∧ True)) rfl ⟨⟨trivial, trivial⟩, trivial⟩ ?_
      refine gv_get hD rfl rfl S_0 ⟨by decide, B_0⟩ (gc_hA S_0 rfl A_0_3) ?_
      show gv_X _ _ (9, [(0, .inr (.inr (some 0))), (1, .inr (.inr (some a1))), (2, .inl v2_4), (3, .inl v3_4)], [.inr (.inr (some 31)), .inl v3_4], sh, gc_h sh I2 J3 A)
      have f70 := (gc_b_3_4 hI2 R_31)
      refine gv_get hD rfl rfl S_31 ⟨by decide, B_31⟩ (gc_hI S_31 rfl) ?_
      show gv_X _ _ (12, [(0, .inr (.inr (some 0))), (1, .inr (.inr (some a1))), (2, .inl v2_4), (3, .inl v3_4)], [.inl (I2 31 4), .inl v3_4], sh, gc_h sh I2 J3 A)
      refine gv_icmp_ge (t := 191) hD rfl rfl ⟨⟨by exact gz_m 134 (by omega), by exact gz_m 135 (by omega)⟩, ⟨by exact gz_m 136 (by omega), by exact gz_m 137 (by omega)⟩⟩ (fun c71 => ?_) (fun c71 => ?_)
      · show gv_X _ _ (191, [(0, .inr (.inr (some 0))), (1, .inr (.inr (some a1))), (2, .inl v2_4), (3, .inl v3_4)], [], sh, gc_h sh I2 J3 A)
        refine gv_run 2 true hD (pcₚ := 193) (lvₚ := [(3, .inl 0), (0, .inr (.inr (some 0))), (1, .inr (.inr (some a1))), (2, .inl v2_4)]) (stₚ := []) (hₚ := gc_h sh I2 J3 A) (C := ((True ∧ True) ∧ True)) rfl ⟨⟨trivial, trivial⟩, trivial⟩ ?_
        refine gv_pick [1, 3, 0] rfl ?_
        exact L193 _ I2 J3 v2_4 0 (Nat.lt_succ_self _) hI2 FI2 FJ3 (by exact gz_m 138 (by omega)) e0_4
      · show gv_X _ _ (15, [(0, .inr (.inr (some 0))), (1, .inr (.inr (some a1))), (2, .inl v2_4), (3, .inl v3_4)], [], sh, gc_h sh I2 J3 A)
        refine gv_run 1 true hD (pcₚ := 16) (lvₚ := [(0, .inr (.inr (some 0))), (1, .inr (.inr (some a1))), (2, .inl v2_4), (3, .inl v3_4)]) (stₚ := [.inr (.inr (some 0))]) (hₚ := gc_h sh I2 J3 A) (C := (True ∧ True)) rfl ⟨trivial, trivial⟩ ?_
        refine gv_get hD rfl rfl S_0 ⟨by decide, B_0⟩ (gc_hA S_0 rfl A_0_3) ?_
        show gv_X _ _ (19, [(0, .inr (.inr (some 0))), (1, .inr (.inr (some a1))), (2, .inl v2_4), (3, .inl v3_4)], [.inr (.inr (some 31))], sh, gc_h sh I2 J3 A)
        refine gv_get hD rfl rfl S_31 ⟨by decide, B_31⟩ (gc_hA S_31 rfl A_31_2) ?_
        show gv_X _ _ (22, [(0, .inr (.inr (some 0))), (1, .inr (.inr (some a1))), (2, .inl v2_4), (3, .inl v3_4)], [.inr (.inr (some 33))], sh, gc_h sh I2 J3 A)
        refine gv_run 1 true hD (pcₚ := 23) (lvₚ := [(0, .inr (.inr (some 0))), (1, .inr (.inr (some a1))), (2, .inl v2_4), (3, .inl v3_4)]) (stₚ := [.inl v3_4, .inr (.inr (some 33))]) (hₚ := gc_h sh I2 J3 A) (C := (True ∧ True)) rfl ⟨trivial, trivial⟩ ?_
        have f72 := (gc_b_4 hI2 R_33 (Int.toNat v3_4))
        refine gv_iald hD rfl S_33 rfl ⟨by decide, B_33⟩ ⟨by exact gz_m 139 (by omega), by exact gz_m 140 (by omega)⟩ (gc_iI S_33 rfl) ?_
        show gv_X _ _ (24, [(0, .inr (.inr (some 0))), (1, .inr (.inr (some a1))), (2, .inl v2_4), (3, .inl v3_4)], [.inl (I2 33 (Int.toNat v3_4))], sh, gc_h sh I2 J3 A)
        refine gv_run 2 true hD (pcₚ := 27) (lvₚ := [(4, .inl (I2 33 (Int.toNat v3_4))), (0, .inr (.inr (some 0))), (1, .inr (.inr (some a1))), (2, .inl v2_4), (3, .inl v3_4)]) (stₚ := [.inr (.inr (some 0))]) (hₚ := gc_h sh I2 J3 A) (C := ((True ∧ True) ∧ True)) rfl ⟨⟨trivial, trivial⟩, trivial⟩ ?_
        refine gv_get hD rfl rfl S_0 ⟨by decide, B_0⟩ (gc_hA S_0 rfl A_0_3) ?_
        show gv_X _ _ (30, [(4, .inl (I2 33 (Int.toNat v3_4))), (0, .inr (.inr (some 0))), (1, .inr (.inr (some a1))), (2, .inl v2_4), (3, .inl v3_4)], [.inr (.inr (some 31))], sh, gc_h sh I2 J3 A)
        refine gv_get hD rfl rfl S_31 ⟨by decide, B_31⟩ (gc_hA S_31 rfl A_31_3) ?_
        show gv_X _ _ (33, [(4, .inl (I2 33 (Int.toNat v3_4))), (0, .inr (.inr (some 0))), (1, .inr (.inr (some a1))), (2, .inl v2_4), (3, .inl v3_4)], [.inr (.inr (some 34))], sh, gc_h sh I2 J3 A)
        refine gv_run 1 true hD (pcₚ := 34) (lvₚ := [(4, .inl (I2 33 (Int.toNat v3_4))), (0, .inr (.inr (some 0))), (1, .inr (.inr (some a1))), (2, .inl v2_4), (3, .inl v3_4)]) (stₚ := [.inl v3_4, .inr (.inr (some 34))]) (hₚ := gc_h sh I2 J3 A) (C := (True ∧ True)) rfl ⟨trivial, trivial⟩ ?_
        have f73 := (gc_b_5 hI2 R_34 (Int.toNat v3_4))
        refine gv_iald hD rfl S_34 rfl ⟨by decide, B_34⟩ ⟨by exact gz_m 141 (by omega), by exact gz_m 142 (by omega)⟩ (gc_iI S_34 rfl) ?_
        show gv_X _ _ (35, [(4, .inl (I2 33 (Int.toNat v3_4))), (0, .inr (.inr (some 0))), (1, .inr (.inr (some a1))), (2, .inl v2_4), (3, .inl v3_4)], [.inl (I2 34 (Int.toNat v3_4))], sh, gc_h sh I2 J3 A)
        refine gv_run 2 true hD (pcₚ := 38) (lvₚ := [(5, .inl (I2 34 (Int.toNat v3_4))), (4, .inl (I2 33 (Int.toNat v3_4))), (0, .inr (.inr (some 0))), (1, .inr (.inr (some a1))), (2, .inl v2_4), (3, .inl v3_4)]) (stₚ := [.inr (.inr (some a1))]) (hₚ := gc_h sh I2 J3 A) (C := ((True ∧ True) ∧ True)) rfl ⟨⟨trivial, trivial⟩, trivial⟩ ?_
        refine gv_get hD rfl rfl S_a1 ⟨by decide, B_a1⟩ (gc_hA S_a1 rfl A_a1_15) ?_
        show gv_X _ _ (41, [(5, .inl (I2 34 (Int.toNat v3_4))), (4, .inl (I2 33 (Int.toNat v3_4))), (0, .inr (.inr (some 0))), (1, .inr (.inr (some a1))), (2, .inl v2_4), (3, .inl v3_4)], [.inr (.inr (some (a1 + 17)))], sh, gc_h sh I2 J3 A)
        refine gv_run 1 true hD (pcₚ := 42) (lvₚ := [(5, .inl (I2 34 (Int.toNat v3_4))), (4, .inl (I2 33 (Int.toNat v3_4))), (0, .inr (.inr (some 0))), (1, .inr (.inr (some a1))), (2, .inl v2_4), (3, .inl v3_4)]) (stₚ := [.inr (.inr (some 0)), .inr (.inr (some (a1 + 17)))]) (hₚ := gc_h sh I2 J3 A) (C := (True ∧ True)) rfl ⟨trivial, trivial⟩ ?_
        refine gv_get hD rfl rfl S_0 ⟨by decide, B_0⟩ (gc_hA S_0 rfl A_0_3) ?_
        show gv_X _ _ (45, [(5, .inl (I2 34 (Int.toNat v3_4))), (4, .inl (I2 33 (Int.toNat v3_4))), (0, .inr (.inr (some 0))), (1, .inr (.inr (some a1))), (2, .inl v2_4), (3, .inl v3_4)], [.inr (.inr (some 31)), .inr (.inr (some (a1 + 17)))], sh, gc_h sh I2 J3 A)
        refine gv_get hD rfl rfl S_31 ⟨by decide, B_31⟩ (gc_hA S_31 rfl A_31_0) ?_
        show gv_X _ _ (48, [(5, .inl (I2 34 (Int.toNat v3_4))), (4, .inl (I2 33 (Int.toNat v3_4))), (0, .inr (.inr (some 0))), (1, .inr (.inr (some a1))), (2, .inl v2_4), (3, .inl v3_4)], [.inr (.inr (some 32)), .inr (.inr (some (a1 + 17)))], sh, gc_h sh I2 J3 A)
        refine gv_run 2 true hD (pcₚ := 52) (lvₚ := [(5, .inl (I2 34 (Int.toNat v3_4))), (4, .inl (I2 33 (Int.toNat v3_4))), (0, .inr (.inr (some 0))), (1, .inr (.inr (some a1))), (2, .inl v2_4), (3, .inl v3_4)]) (stₚ := [.inl (I2 34 (Int.toNat v3_4)), .inl (I2 33 (Int.toNat v3_4)), .inr (.inr (some 32)), .inr (.inr (some (a1 + 17)))]) (hₚ := gc_h sh I2 J3 A) (C := ((True ∧ True) ∧ True)) rfl ⟨⟨trivial, trivial⟩, trivial⟩ ?_
        have t74 := x0 (Int.toNat v3_4) (by exact gz_m 143 (by omega))
        have t75 := (show I2 33 (Int.toNat v3_4) = I (31 + 2) (Int.toNat v3_4) from (FI2 33 (Int.toNat v3_4)).resolve_left (by exact gz_m 144 (by omega)))
        have t76 := (show I2 34 (Int.toNat v3_4) = I (31 + 3) (Int.toNat v3_4) from (FI2 34 (Int.toNat v3_4)).resolve_left (by exact gz_m 145 (by omega)))
        obtain ⟨r77, h77, E77, P77⟩ := d_X2_findSame (ws0 := ws0) (tb := tb) hws htb sh ro I2 J3 A hI2 (a1 + 17) 1000 32 ((I2 33 (Int.toNat v3_4))) ((I2 34 (Int.toNat v3_4))) h_a1_17 S_32 R_32 B_32 (by decide)  ⟨by exact gz_m 146 (by omega), by exact gz_m 147 (by omega)⟩ ⟨by exact gz_m 148 (by omega), by exact gz_m 149 (by omega)⟩ (by exact gz_m 150 (by omega)) 
        obtain ⟨I78, J79, rfl, hI78, g77, k77, ⟨z77, rfl, q77⟩⟩ := P77
        have FI78 := gc_frc (W := fun q j => q = 143 ∨ q = (a1 + 22)) (V := fun q j => q = (a1 + 22)) FI2 (fun q j h => (Or.inr h)) g77
        have t80 := (g77 31 4).resolve_left (fun h => absurd h N_31__a1_22)
        obtain rfl : J3 = J79 := funext fun q => funext fun j => ((k77 q j).resolve_left id).symm
        refine gv_callV hD rfl (As := [.inr (.inr (some 32)), .inl (I2 33 (Int.toNat v3_4)), .inl (I2 34 (Int.toNat v3_4))]) (st := []) rfl B_a1_17 S_a1_17 rfl (gc_lV12 hws rfl) (Nat.le_of_ble_eq_true rfl) (gz_Ev_mono (d := 2) (by decide) E77) ?_
        show gv_X _ _ (55, [(5, .inl (I2 34 (Int.toNat v3_4))), (4, .inl (I2 33 (Int.toNat v3_4))), (0, .inr (.inr (some 0))), (1, .inr (.inr (some a1))), (2, .inl v2_4), (3, .inl v3_4)], [.inl z77], sh, gc_h sh I78 J3 A)
        refine gv_run 3 true hD (pcₚ := 60) (lvₚ := [(7, .inl 0), (6, .inl z77), (5, .inl (I2 34 (Int.toNat v3_4))), (4, .inl (I2 33 (Int.toNat v3_4))), (0, .inr (.inr (some 0))), (1, .inr (.inr (some a1))), (2, .inl v2_4), (3, .inl v3_4)]) (stₚ := []) (hₚ := gc_h sh I78 J3 A) (C := (((True ∧ True) ∧ True) ∧ True)) rfl ⟨⟨⟨trivial, trivial⟩, trivial⟩, trivial⟩ ?_
        refine gv_pick [4, 5, 6, 7, 3, 2, 1, 0] rfl ?_
        exact L60 _ I78 J3 v2_4 ((I2 33 (Int.toNat v3_4))) ((I2 34 (Int.toNat v3_4))) z77 0 (Nat.lt_succ_self _) hI78 FI78 FJ3 (by exact gz_m 151 (by omega)) (gh_CA_fr e0_4 (fun k => ((g77 143 k).resolve_left (by exact gz_m 152 (by omega)))) (fun k => ((g77 (a1 + 17 + 2) k).resolve_left (by exact gz_m 153 (by omega)))))
  refine gv_run 4 true hD (pcₚ := 4) (lvₚ := [(3, .inl 0), (2, .inl 0), (0, .inr (.inr (some 0))), (1, .inr (.inr (some a1)))]) (stₚ := []) (hₚ := gc_h sh I J A) (C := ((((True ∧ True) ∧ True) ∧ True) ∧ True)) rfl ⟨⟨⟨⟨trivial, trivial⟩, trivial⟩, trivial⟩, trivial⟩ ?_
  refine gv_pick [2, 3, 1, 0] rfl ?_
  exact L4 _ I J 0 0 (Nat.lt_succ_self _) hI FI FJ (by exact gz_m 154 (by omega)) (gh_CA_0 (by exact gz_m 155 (by omega)))
