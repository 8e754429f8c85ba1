def gc_QU (I : gr_I) : Prop := ∀ k : Int, 0 ≤ k → k < I 100 17 → I 113 (Int.toNat (3 * k)) = 3 → I 113 (Int.toNat ((3 * k) + 1)) + I 113 (Int.toNat ((3 * k) + 2)) ≤ 1000
theorem gc_QU_fr {I Iₚ : gr_I} (h : gc_QU I) (e : Iₚ 100 17 = I 100 17) (r : ∀ k, Iₚ 113 k = I 113 k) : gc_QU Iₚ := fun k h0 h1 => by
  rw [r, r, r]
  exact h k h0 (by omega)
theorem gc_QU_0 {I : gr_I} (e : I 100 17 ≤ 0) : gc_QU I := fun k h0 h1 => by omega
theorem gc_QU_push {I Iₚ : gr_I} {m : Int} (h : gc_QU I) (hm : I 100 17 = m) (h0 : 0 ≤ m) (e : Iₚ 100 17 = m + 1) (r : ∀ k, k < 3 * Int.toNat m → Iₚ 113 k = I 113 k) (hz : Iₚ 113 (Int.toNat (3 * m)) = 3 → Iₚ 113 (Int.toNat ((3 * m) + 1)) + Iₚ 113 (Int.toNat ((3 * m) + 2)) ≤ 1000) : gc_QU Iₚ := fun k h1 h2 => by
  by_cases hk : k = m
  · rw [hk]; exact hz
  · rw [r _ (by omega), r _ (by omega), r _ (by omega)]
    exact h k h1 (by omega)
set_option maxHeartbeats 8000000 in
set_option maxRecDepth 100000 in
theorem d_X1_searchWords {ws0 : List Cond} {tb : String → gz_T} (hws : gc_Ws ws0) (htb : gc_tbs tb) (sh : gz_Sh) (ro : Nat → Nat) (I : gr_I) (J : gr_J) (A : gc_A) (hI : gc_Inv ro I) (a1 : Int) (a2 : Nat) (a3 : Nat) (hb : gc_Base sh ro A) (h_a2 : gc_isTongue sh ro A a2) (G_a2 : 144 ≤ a2) (h_a3 : gc_isText sh ro A a3) (G_a3 : a3 + 3 < 39) (ha1 : 0 ≤ a1 ∧ a1 ≤ 99) (x0 : gc_SP 106 I) (x1 : gc_QU I) (x2 : 1 ≤ I 100 17) : ∃ r hₚ, gz_Ev ws0 tb 4 (yX1_searchWords, cX1_searchWords, 7, none) [.inr (.inr (some 100)), .inl a1, .inr (.inr (some a2)), .inr (.inr (some a3))] sh (gc_h sh I J A) r sh hₚ 0 0 ∧ (∃ (Iₚ : gr_I) (Jₚ : gr_J), hₚ = gc_h sh Iₚ Jₚ A ∧ gc_Inv ro Iₚ ∧ (∀ q j : Nat, (q = 110 ∨ q = 111 ∨ q = 112 ∨ (q = 100 ∧ j = 14) ∨ q = (a2 + 22)) ∨ Iₚ q j = I q j) ∧ (∀ q j : Nat, (False) ∨ Jₚ q j = J q j) ∧ r = none) := by
  have FI : ∀ q j : Nat, (q = 110 ∨ q = 111 ∨ q = 112 ∨ (q = 100 ∧ j = 14) ∨ q = (a2 + 22)) ∨ I q j = I q j := fun _ _ => Or.inr rfl
  have FJ : ∀ q j : Nat, (False) ∨ J q j = J q j := fun _ _ => Or.inr rfl
  have A_100_12 : A 100 12 = some 106 := gc_bA_100_12 hb
  have A_100_13 : A 100 13 = some 110 := gc_bA_100_13 hb
  have A_100_15 : A 100 15 = some 111 := gc_bA_100_15 hb
  have A_100_16 : A 100 16 = some 112 := gc_bA_100_16 hb
  have B_100 := gz_hi (show 100 < 1000000 from by decide)
  have B_106 := gz_hi (show 106 < 1000000 from by decide)
  have B_110 := gz_hi (show 110 < 1000000 from by decide)
  have B_111 := gz_hi (show 111 < 1000000 from by decide)
  have B_112 := gz_hi (show 112 < 1000000 from by decide)
  have R_100 := gz_hi (show ro 100 = 75 from gc_bR_100 hb)
  have R_106 := gz_hi (show ro 106 = 3 from gc_bR_106 hb)
  have R_110 := gz_hi (show ro 110 = 0 from gc_bR_110 hb)
  have R_111 := gz_hi (show ro 111 = 67 from gc_bR_111 hb)
  have R_112 := gz_hi (show ro 112 = 65 from gc_bR_112 hb)
  have S_100 : sh[100]? = some (false, 1, 19) := gc_bS_100 hb
  have S_106 : sh[106]? = some (false, 9, 10) := gc_bS_106 hb
  have S_110 : sh[110]? = some (true, 1, 24) := gc_bS_110 hb
  have S_111 : sh[111]? = some (true, 1, 2400) := gc_bS_111 hb
  have S_112 : sh[112]? = some (true, 1, 2400) := gc_bS_112 hb
  obtain ⟨S_a2, R_a2, B_a2, A_a2_0, h_a2_1, A_a2_1, h_a2_3, A_a2_2, S_a2_5, R_a2_5, B_a2_5, A_a2_3, S_a2_6, R_a2_6, B_a2_6, A_a2_4, h_a2_7, A_a2_5, S_a2_9, R_a2_9, B_a2_9, A_a2_7, S_a2_10, R_a2_10, B_a2_10, A_a2_8, h_a2_11, A_a2_9, S_a2_13, R_a2_13, B_a2_13, A_a2_10, S_a2_14, R_a2_14, B_a2_14, A_a2_12, S_a2_15, R_a2_15, B_a2_15, A_a2_14, S_a2_16, R_a2_16, B_a2_16, A_a2_15, h_a2_17⟩ := id h_a2
  replace R_a2 := gz_hi R_a2
  replace B_a2 := gz_hi B_a2
  replace R_a2_5 := gz_hi R_a2_5
  replace B_a2_5 := gz_hi B_a2_5
  replace R_a2_6 := gz_hi R_a2_6
  replace B_a2_6 := gz_hi B_a2_6
  replace R_a2_9 := gz_hi R_a2_9
  replace B_a2_9 := gz_hi B_a2_9
  replace R_a2_10 := gz_hi R_a2_10
  replace B_a2_10 := gz_hi B_a2_10
  replace R_a2_13 := gz_hi R_a2_13
  replace B_a2_13 := gz_hi B_a2_13
  replace R_a2_14 := gz_hi R_a2_14
  replace B_a2_14 := gz_hi B_a2_14
  replace R_a2_15 := gz_hi R_a2_15
  replace B_a2_15 := gz_hi B_a2_15
  replace R_a2_16 := gz_hi R_a2_16
  replace B_a2_16 := gz_hi B_a2_16
  obtain ⟨S_a2_1, R_a2_1, B_a2_1, A_a2_1_0, S_a2_1_1, R_a2_1_1, B_a2_1_1, Q0_a2_1, Q1_a2_1, Q2_a2_1⟩ := id h_a2_1
  replace R_a2_1 := gz_hi R_a2_1
  replace B_a2_1 := gz_hi B_a2_1
  replace R_a2_1_1 := gz_hi R_a2_1_1
  replace B_a2_1_1 := gz_hi B_a2_1_1
  obtain ⟨S_a2_3, R_a2_3, B_a2_3, A_a2_3_0, S_a2_3_1, R_a2_3_1, B_a2_3_1, Q0_a2_3, Q1_a2_3, Q2_a2_3⟩ := id h_a2_3
  replace R_a2_3 := gz_hi R_a2_3
  replace B_a2_3 := gz_hi B_a2_3
  replace R_a2_3_1 := gz_hi R_a2_3_1
  replace B_a2_3_1 := gz_hi B_a2_3_1
  obtain ⟨S_a2_7, R_a2_7, B_a2_7, A_a2_7_0, S_a2_7_1, R_a2_7_1, B_a2_7_1, Q0_a2_7, Q1_a2_7, Q2_a2_7⟩ := id h_a2_7
  replace R_a2_7 := gz_hi R_a2_7
  replace B_a2_7 := gz_hi B_a2_7
  replace R_a2_7_1 := gz_hi R_a2_7_1
  replace B_a2_7_1 := gz_hi B_a2_7_1
  obtain ⟨S_a2_11, R_a2_11, B_a2_11, A_a2_11_0, S_a2_11_1, R_a2_11_1, B_a2_11_1, Q0_a2_11, Q1_a2_11, Q2_a2_11⟩ := id h_a2_11
  replace R_a2_11 := gz_hi R_a2_11
  replace B_a2_11 := gz_hi B_a2_11
  replace R_a2_11_1 := gz_hi R_a2_11_1
  replace B_a2_11_1 := gz_hi B_a2_11_1
  obtain ⟨S_a2_17, R_a2_17, B_a2_17, A_a2_17_0, S_20, R_20, B_20, A_a2_17_1, S_a2_17_1, R_a2_17_1, B_a2_17_1, A_a2_17_2, S_a2_17_2, R_a2_17_2, B_a2_17_2, A_a2_17_3, S_a2_17_3, R_a2_17_3, B_a2_17_3, A_a2_17_4, S_a2_17_4, R_a2_17_4, B_a2_17_4, A_a2_17_5, S_a2_17_5, R_a2_17_5, B_a2_17_5, S_a2_17_6, R_a2_17_6, B_a2_17_6, S_a2_17_7, R_a2_17_7, B_a2_17_7⟩ := id h_a2_17
  replace R_a2_17 := gz_hi R_a2_17
  replace B_a2_17 := gz_hi B_a2_17
  replace R_20 := gz_hi R_20
  replace B_20 := gz_hi B_20
  replace R_a2_17_1 := gz_hi R_a2_17_1
  replace B_a2_17_1 := gz_hi B_a2_17_1
  replace R_a2_17_2 := gz_hi R_a2_17_2
  replace B_a2_17_2 := gz_hi B_a2_17_2
  replace R_a2_17_3 := gz_hi R_a2_17_3
  replace B_a2_17_3 := gz_hi B_a2_17_3
  replace R_a2_17_4 := gz_hi R_a2_17_4
  replace B_a2_17_4 := gz_hi B_a2_17_4
  replace R_a2_17_5 := gz_hi R_a2_17_5
  replace B_a2_17_5 := gz_hi B_a2_17_5
  replace R_a2_17_6 := gz_hi R_a2_17_6
  replace B_a2_17_6 := gz_hi B_a2_17_6
  replace R_a2_17_7 := gz_hi R_a2_17_7
  replace B_a2_17_7 := gz_hi B_a2_17_7
  obtain ⟨S_a3, R_a3, B_a3, A_a3_0, S_a3_1, R_a3_1, B_a3_1, A_a3_2, S_a3_2, R_a3_2, B_a3_2, A_a3_3, S_a3_3, R_a3_3, B_a3_3⟩ := id h_a3
  replace R_a3 := gz_hi R_a3
  replace B_a3 := gz_hi B_a3
  replace R_a3_1 := gz_hi R_a3_1
  replace B_a3_1 := gz_hi B_a3_1
  replace R_a3_2 := gz_hi R_a3_2
  replace B_a3_2 := gz_hi B_a3_2
  replace R_a3_3 := gz_hi R_a3_3
  replace B_a3_3 := gz_hi B_a3_3
  have hD : gv_D (gc_E1 ws0 tb 3 (yX1_searchWords, cX1_searchWords, 7, none) kX1_searchWords) := gq_of oX1_searchWords
  refine gc_ev1 (d := 3) (l := kX1_searchWords) (Po := fun r hₚ => (∃ (Iₚ : gr_I) (Jₚ : gr_J), hₚ = gc_h sh Iₚ Jₚ A ∧ gc_Inv ro Iₚ ∧ (∀ q j : Nat, (q = 110 ∨ q = 111 ∨ q = 112 ∨ (q = 100 ∧ j = 14) ∨ q = (a2 + 22)) ∨ Iₚ q j = I q j) ∧ (∀ q j : Nat, (False) ∨ Jₚ q j = J q j) ∧ r = none)) htb rfl (Nat.le_of_ble_eq_true rfl) ?_
  have N_106__a2_22 := gz_hi (show ¬ (106 = (a2 + 22)) from by (/-0-/first | (have o1 := gz_sh B_a2; have o2 := gz_sh B_a2_10; have o3 := gz_sh B_a2_13; have o4 := gz_sh B_a2_14; have o5 := gz_sh B_a2_15; have o6 := gz_sh B_a2_16; have o7 := gz_sh B_a2_17; have o8 := gz_sh B_a2_17_1; have o9 := gz_sh B_a2_17_2; have o10 := gz_sh B_a2_17_3; have o11 := gz_sh B_a2_17_4; have o12 := gz_sh B_a2_17_5; have o13 := gz_sh B_a2_17_6; have o14 := gz_sh B_a2_17_7; have o15 := gz_sh B_a2_5; have o16 := gz_sh B_a2_6; have o17 := gz_sh B_a2_9; omega) | (simp only [gz_hd] at *; omega)))
  have N_106_2__110 := gz_hi (show ¬ ((106 + 2) = 110) from by (/-1-/first | omega | (simp only [gz_hd] at *; omega)))
  have N_106_2__111 := gz_hi (show ¬ ((106 + 2) = 111) from by (/-2-/first | omega | (simp only [gz_hd] at *; omega)))
  have N_106_2__112 := gz_hi (show ¬ ((106 + 2) = 112) from by (/-3-/first | omega | (simp only [gz_hd] at *; omega)))
  have N_106_2__100 := gz_hi (show ¬ ((106 + 2) = 100) from by (/-4-/first | omega | (simp only [gz_hd] at *; omega)))
  have N_106_2__a2_22 := gz_hi (show ¬ ((106 + 2) = (a2 + 22)) from by (/-5-/first | (have o1 := gz_sh B_a2; have o2 := gz_sh B_a2_10; have o3 := gz_sh B_a2_13; have o4 := gz_sh B_a2_14; have o5 := gz_sh B_a2_15; have o6 := gz_sh B_a2_16; have o7 := gz_sh B_a2_17; have o8 := gz_sh B_a2_17_1; have o9 := gz_sh B_a2_17_2; have o10 := gz_sh B_a2_17_3; have o11 := gz_sh B_a2_17_4; have o12 := gz_sh B_a2_17_5; have o13 := gz_sh B_a2_17_6; have o14 := gz_sh B_a2_17_7; have o15 := gz_sh B_a2_5; have o16 := gz_sh B_a2_6; have o17 := gz_sh B_a2_9; omega) | (simp only [gz_hd] at *; omega)))
  have N_106_3__110 := gz_hi (show ¬ ((106 + 3) = 110) from by (/-6-/first | omega | (simp only [gz_hd] at *; omega)))
  have N_106_3__111 := gz_hi (show ¬ ((106 + 3) = 111) from by (/-7-/first | omega | (simp only [gz_hd] at *; omega)))
  have N_106_3__112 := gz_hi (show ¬ ((106 + 3) = 112) from by (/-8-/first | omega | (simp only [gz_hd] at *; omega)))
  have N_106_3__100 := gz_hi (show ¬ ((106 + 3) = 100) from by (/-9-/first | omega | (simp only [gz_hd] at *; omega)))
  have N_106_3__a2_22 := gz_hi (show ¬ ((106 + 3) = (a2 + 22)) from by (/-10-/first | (have o1 := gz_sh B_a2; have o2 := gz_sh B_a2_10; have o3 := gz_sh B_a2_13; have o4 := gz_sh B_a2_14; have o5 := gz_sh B_a2_15; have o6 := gz_sh B_a2_16; have o7 := gz_sh B_a2_17; have o8 := gz_sh B_a2_17_1; have o9 := gz_sh B_a2_17_2; have o10 := gz_sh B_a2_17_3; have o11 := gz_sh B_a2_17_4; have o12 := gz_sh B_a2_17_5; have o13 := gz_sh B_a2_17_6; have o14 := gz_sh B_a2_17_7; have o15 := gz_sh B_a2_5; have o16 := gz_sh B_a2_6; have o17 := gz_sh B_a2_9; omega) | (simp only [gz_hd] at *; omega)))
  have N_100__a2_22 := gz_hi (show ¬ (100 = (a2 + 22)) from by (/-11-/first | (have o1 := gz_sh B_a2; have o2 := gz_sh B_a2_10; have o3 := gz_sh B_a2_13; have o4 := gz_sh B_a2_14; have o5 := gz_sh B_a2_15; have o6 := gz_sh B_a2_16; have o7 := gz_sh B_a2_17; have o8 := gz_sh B_a2_17_1; have o9 := gz_sh B_a2_17_2; have o10 := gz_sh B_a2_17_3; have o11 := gz_sh B_a2_17_4; have o12 := gz_sh B_a2_17_5; have o13 := gz_sh B_a2_17_6; have o14 := gz_sh B_a2_17_7; have o15 := gz_sh B_a2_5; have o16 := gz_sh B_a2_6; have o17 := gz_sh B_a2_9; omega) | (simp only [gz_hd] at *; omega)))
  have N_113__a2_22 := gz_hi (show ¬ (113 = (a2 + 22)) from by (/-12-/first | (have o1 := gz_sh B_a2; have o2 := gz_sh B_a2_10; have o3 := gz_sh B_a2_13; have o4 := gz_sh B_a2_14; have o5 := gz_sh B_a2_15; have o6 := gz_sh B_a2_16; have o7 := gz_sh B_a2_17; have o8 := gz_sh B_a2_17_1; have o9 := gz_sh B_a2_17_2; have o10 := gz_sh B_a2_17_3; have o11 := gz_sh B_a2_17_4; have o12 := gz_sh B_a2_17_5; have o13 := gz_sh B_a2_17_6; have o14 := gz_sh B_a2_17_7; have o15 := gz_sh B_a2_5; have o16 := gz_sh B_a2_6; have o17 := gz_sh B_a2_9; omega) | (simp only [gz_hd] at *; omega)))
  have f1 := gz_hi ((gc_b_3_4 hI (gz_sh R_106)))
  have f2 := gz_hi ((gc_b_75_17 hI (gz_sh R_100)))
  have L3 : ∀ (n9 : Nat) (I4 : gr_I) (J5 : gr_J) (v4_6 : Int), (25 - v4_6).toNat < n9 → gc_Inv ro I4 → (∀ q j : Nat, (q = 110 ∨ q = 111 ∨ q = 112 ∨ (q = 100 ∧ j = 14) ∨ q = (a2 + 22)) ∨ I4 q j = I q j) → (∀ q j : Nat, (False) ∨ J5 q j = J q j) → ((0 ≤ a1 ∧ a1 ≤ 99) ∧ (0 ≤ v4_6 ∧ v4_6 ≤ 24) ∧ (I4 106 4 = I 106 4) ∧ (I4 100 17 = I 100 17)) → gv_X (gc_E1 ws0 tb 3 (yX1_searchWords, cX1_searchWords, 7, none) kX1_searchWords) (gv_Q cX1_searchWords none sh (fun r hₚ => (∃ (Iₚ : gr_I) (Jₚ : gr_J), hₚ = gc_h sh Iₚ Jₚ A ∧ gc_Inv ro Iₚ ∧ (∀ q j : Nat, (q = 110 ∨ q = 111 ∨ q = 112 ∨ (q = 100 ∧ j = 14) ∨ q = (a2 + 22)) ∨ Iₚ q j = I q j) ∧ (∀ q j : Nat, (False) ∨ Jₚ q j = J q j) ∧ r = none))) (3, [(0, .inr (.inr (some 100))), (1, .inl a1), (2, .inr (.inr (some a2))), (3, .inr (.inr (some a3))), (4, .inl v4_6)], [], sh, gc_h sh I4 J5 A) := by
    intro n9
    induction n9 with
    | zero => intro I4 J5 v4_6 hn; (/-13-/first | omega | (simp only [gz_hd] at *; omega))
    | succ n9 ih3 =>
      intro I4 J5 v4_6 hn hI4 FI4 FJ5 m_6
      obtain ⟨ha1_6, hv4_6, e0_6, e1_6⟩ := gz_h4 m_6
      have L38 : ∀ (n9 : Nat) (I10 : gr_I) (J11 : gr_J) (v4_12 : Int), (25 - v4_12).toNat < n9 → gc_Inv ro I10 → (∀ q j : Nat, (q = 110 ∨ q = 111 ∨ q = 112 ∨ (q = 100 ∧ j = 14) ∨ q = (a2 + 22)) ∨ I10 q j = I q j) → (∀ q j : Nat, (False) ∨ J11 q j = J q j) → ((0 ≤ a1 ∧ a1 ≤ 99) ∧ (0 ≤ v4_12 ∧ v4_12 ≤ 24) ∧ (I10 106 4 = I 106 4) ∧ (I10 100 17 = I 100 17)) → gv_X (gc_E1 ws0 tb 3 (yX1_searchWords, cX1_searchWords, 7, none) kX1_searchWords) (gv_Q cX1_searchWords none sh (fun r hₚ => (∃ (Iₚ : gr_I) (Jₚ : gr_J), hₚ = gc_h sh Iₚ Jₚ A ∧ gc_Inv ro Iₚ ∧ (∀ q j : Nat, (q = 110 ∨ q = 111 ∨ q = 112 ∨ (q = 100 ∧ j = 14) ∨ q = (a2 + 22)) ∨ Iₚ q j = I q j) ∧ (∀ q j : Nat, (False) ∨ Jₚ q j = J q j) ∧ r = none))) (38, [(0, .inr (.inr (some 100))), (1, .inl a1), (3, .inr (.inr (some a3))), (4, .inl v4_12)], [], sh, gc_h sh I10 J11 A) := by
        intro n9
        induction n9 with
        | zero => intro I10 J11 v4_12 hn; (/-14-/first | omega | (simp only [gz_hd] at *; omega))
        | succ n9 ih38 =>
          intro I10 J11 v4_12 hn hI10 FI10 FJ11 m_12
          clear ha1_6 hv4_6 e0_6 e1_6
          obtain ⟨ha1_12, hv4_12, e0_12, e1_12⟩ := gz_h4 m_12
          have f15 := gz_hi ((gc_b_75_14 hI10 (gz_sh R_100)))
          have L61 : ∀ (n9 : Nat) (v5_16 : Int) (v6_16 : Int), (9 - v6_16).toNat < n9 → ((0 ≤ a1 ∧ a1 ≤ 99) ∧ (0 ≤ v4_12 ∧ v4_12 ≤ 24) ∧ (0 ≤ v5_16 ∧ v5_16 ≤ 1) ∧ (0 ≤ v6_16 ∧ v6_16 ≤ 8) ∧ (v4_12 + I10 100 17 ≤ I10 106 4) ∧ (v6_16 ≤ I10 100 17) ∧ (I10 106 4 = I 106 4) ∧ (I10 100 17 = I 100 17)) → gv_X (gc_E1 ws0 tb 3 (yX1_searchWords, cX1_searchWords, 7, none) kX1_searchWords) (gv_Q cX1_searchWords none sh (fun r hₚ => (∃ (Iₚ : gr_I) (Jₚ : gr_J), hₚ = gc_h sh Iₚ Jₚ A ∧ gc_Inv ro Iₚ ∧ (∀ q j : Nat, (q = 110 ∨ q = 111 ∨ q = 112 ∨ (q = 100 ∧ j = 14) ∨ q = (a2 + 22)) ∨ Iₚ q j = I q j) ∧ (∀ q j : Nat, (False) ∨ Jₚ q j = J q j) ∧ r = none))) (61, [(0, .inr (.inr (some 100))), (1, .inl a1), (3, .inr (.inr (some a3))), (4, .inl v4_12), (5, .inl v5_16), (6, .inl v6_16)], [], sh, gc_h sh I10 J11 A) := by
            intro n9
            induction n9 with
            | zero => intro v5_16 v6_16 hn; (/-15-/first | omega | (simp only [gz_hd] at *; omega))
            | succ n9 ih61 =>
              intro v5_16 v6_16 hn m_16
              obtain ⟨ha1_16, hv4_12_16, hv5_16, hv6_16, e0_16, e1_16, e2_16, e3_16⟩ := gz_h8 m_16
              have L95 : ((0 ≤ a1 ∧ a1 ≤ 99) ∧ (0 ≤ v4_12 ∧ v4_12 ≤ 24) ∧ (0 ≤ v5_16 ∧ v5_16 ≤ 1) ∧ (v4_12 + I10 100 17 ≤ I10 106 4) ∧ (I10 106 4 = I 106 4) ∧ (I10 100 17 = I 100 17)) → gv_X (gc_E1 ws0 tb 3 (yX1_searchWords, cX1_searchWords, 7, none) kX1_searchWords) (gv_Q cX1_searchWords none sh (fun r hₚ => (∃ (Iₚ : gr_I) (Jₚ : gr_J), hₚ = gc_h sh Iₚ Jₚ A ∧ gc_Inv ro Iₚ ∧ (∀ q j : Nat, (q = 110 ∨ q = 111 ∨ q = 112 ∨ (q = 100 ∧ j = 14) ∨ q = (a2 + 22)) ∨ Iₚ q j = I q j) ∧ (∀ q j : Nat, (False) ∨ Jₚ q j = J q j) ∧ r = none))) (95, [(0, .inr (.inr (some 100))), (1, .inl a1), (3, .inr (.inr (some a3))), (4, .inl v4_12), (5, .inl v5_16)], [], sh, gc_h sh I10 J11 A) := by
                intro m_20
                obtain ⟨ha1_20, hv4_12_20, hv5_16_20, e0_20, e1_20, e2_20⟩ := gz_h6 m_20
                have L143 : ∀ (I24 : gr_I) (J25 : gr_J) , gc_Inv ro I24 → (∀ q j : Nat, (q = 110 ∨ q = 111 ∨ q = 112 ∨ (q = 100 ∧ j = 14) ∨ q = (a2 + 22)) ∨ I24 q j = I q j) → (∀ q j : Nat, (False) ∨ J25 q j = J q j) → ((0 ≤ a1 ∧ a1 ≤ 99) ∧ (0 ≤ v4_12 ∧ v4_12 ≤ 24) ∧ (v4_12 + I24 100 17 ≤ I24 106 4) ∧ (I24 106 4 = I 106 4) ∧ (I24 100 17 = I 100 17)) → gv_X (gc_E1 ws0 tb 3 (yX1_searchWords, cX1_searchWords, 7, none) kX1_searchWords) (gv_Q cX1_searchWords none sh (fun r hₚ => (∃ (Iₚ : gr_I) (Jₚ : gr_J), hₚ = gc_h sh Iₚ Jₚ A ∧ gc_Inv ro Iₚ ∧ (∀ q j : Nat, (q = 110 ∨ q = 111 ∨ q = 112 ∨ (q = 100 ∧ j = 14) ∨ q = (a2 + 22)) ∨ Iₚ q j = I q j) ∧ (∀ q j : Nat, (False) ∨ Jₚ q j = J q j) ∧ r = none))) (143, [(0, .inr (.inr (some 100))), (1, .inl a1), (3, .inr (.inr (some a3))), (4, .inl v4_12)], [], sh, gc_h sh I24 J25 A) := by
                  intro I24 J25 hI24 FI24 FJ25 m_26
                  clear ha1_20 hv4_12_20 hv5_16_20 e0_20 e1_20 e2_20 ha1_16 hv4_12_16 hv5_16 hv6_16 e0_16 e1_16 e2_16 e3_16 ha1_12 hv4_12 e0_12 e1_12 f15
                  obtain ⟨ha1_26, hv4_12_26, e0_26, e1_26, e2_26⟩ := gz_h5 m_26
                  refine gv_run 2 true hD (pcₚ := 38) (lvₚ := [(4, .inl (v4_12 + 1)), (0, .inr (.inr (some 100))), (1, .inl a1), (3, .inr (.inr (some a3)))]) (stₚ := []) (hₚ := gc_h sh I24 J25 A) (C := ((True ∧ True) ∧ True)) rfl ⟨⟨trivial, trivial⟩, trivial⟩ ?_
                  refine gv_pick [1, 2, 3, 0] rfl ?_
                  exact ih38 I24 J25 (v4_12 + 1) (by (/-16-/first | (have o1 := gz_sh e0_26; have o2 := gz_sh e1_26; have o3 := gz_sh e2_26; have o4 := gz_sh f1; have o5 := gz_sh f2; have o6 := gz_sh hv4_12_26; omega) | (simp only [gz_hd] at *; omega))) hI24 FI24 FJ25 (by (/-17-/first | (and_intros; (omega); (omega); (have o1 := gz_sh hv4_12_26; omega); (have o1 := gz_sh e0_26; have o2 := gz_sh e1_26; have o3 := gz_sh e2_26; have o4 := gz_sh f1; omega); (have o1 := gz_sh e1_26; omega); (have o1 := gz_sh e2_26; omega)) | (simp only [gz_hd] at *; omega)))
                refine gv_run 1 true hD (pcₚ := 97) (lvₚ := [(0, .inr (.inr (some 100))), (1, .inl a1), (3, .inr (.inr (some a3))), (4, .inl v4_12), (5, .inl v5_16)]) (stₚ := [.inl v5_16]) (hₚ := gc_h sh I10 J11 A) (C := (True ∧ True)) rfl ⟨trivial, trivial⟩ ?_
                refine gv_if_eq (t := 143) hD rfl rfl ⟨by (/-18-/first | (have o1 := gz_sh hv5_16; omega) | (simp only [gz_hd] at *; omega)), by (/-19-/first | (have o1 := gz_sh hv5_16; omega) | (simp only [gz_hd] at *; omega))⟩ (fun c30 => ?_) (fun c30 => ?_)
                · show gv_X _ _ (143, [(0, .inr (.inr (some 100))), (1, .inl a1), (3, .inr (.inr (some a3))), (4, .inl v4_12), (5, .inl v5_16)], [], sh, gc_h sh I10 J11 A)
                  refine gv_pick [0, 1, 2, 3] rfl ?_
                  exact L143 I10 J11 hI10 FI10 FJ11 (by (/-20-/first | (and_intros; (omega); (omega); (have o1 := gz_sh hv4_12; omega); (have o1 := gz_sh hv4_12; omega); (have o1 := gz_sh e0_16; omega); (have o1 := gz_sh e0_12; omega); (have o1 := gz_sh e1_12; omega)) | (simp only [gz_hd] at *; omega)))
                · show gv_X _ _ (100, [(0, .inr (.inr (some 100))), (1, .inl a1), (3, .inr (.inr (some a3))), (4, .inl v4_12), (5, .inl v5_16)], [], sh, gc_h sh I10 J11 A)
                  refine gv_run 1 true hD (pcₚ := 101) (lvₚ := [(0, .inr (.inr (some 100))), (1, .inl a1), (3, .inr (.inr (some a3))), (4, .inl v4_12), (5, .inl v5_16)]) (stₚ := [.inr (.inr (some 100))]) (hₚ := gc_h sh I10 J11 A) (C := (True ∧ True)) rfl ⟨trivial, trivial⟩ ?_
                  refine gv_get hD rfl rfl S_100 ⟨by decide, (gz_sh B_100)⟩ (gc_hI S_100 rfl) ?_
                  show gv_X _ _ (104, [(0, .inr (.inr (some 100))), (1, .inl a1), (3, .inr (.inr (some a3))), (4, .inl v4_12), (5, .inl v5_16)], [.inl (I10 100 14)], sh, gc_h sh I10 J11 A)
                  refine gv_run 1 true hD (pcₚ := 105) (lvₚ := [(0, .inr (.inr (some 100))), (1, .inl a1), (3, .inr (.inr (some a3))), (4, .inl v4_12), (5, .inl v5_16)]) (stₚ := [.inr (.inr (some 100)), .inl (I10 100 14)]) (hₚ := gc_h sh I10 J11 A) (C := (True ∧ True)) rfl ⟨trivial, trivial⟩ ?_
                  refine gv_get hD rfl rfl S_100 ⟨by decide, (gz_sh B_100)⟩ (gc_hA S_100 rfl A_100_16) ?_
                  show gv_X _ _ (108, [(0, .inr (.inr (some 100))), (1, .inl a1), (3, .inr (.inr (some a3))), (4, .inl v4_12), (5, .inl v5_16)], [.inr (.inr (some 112)), .inl (I10 100 14)], sh, gc_h sh I10 J11 A)
                  refine gv_len hD rfl S_112 ⟨by decide, (gz_sh B_112)⟩ ?_
                  show gv_X _ _ (109, [(0, .inr (.inr (some 100))), (1, .inl a1), (3, .inr (.inr (some a3))), (4, .inl v4_12), (5, .inl v5_16)], [.inl 2400, .inl (I10 100 14)], sh, gc_h sh I10 J11 A)
                  refine gv_icmp_ge (t := 143) hD rfl rfl ⟨⟨by (/-21-/first | (have o1 := gz_sh f15; omega) | (simp only [gz_hd] at *; omega)), by (/-22-/first | (have o1 := gz_sh f15; omega) | (simp only [gz_hd] at *; omega))⟩, ⟨by (/-23-/first | omega | (simp only [gz_hd] at *; omega)), by (/-24-/first | omega | (simp only [gz_hd] at *; omega))⟩⟩ (fun c32 => ?_) (fun c32 => ?_)
                  · show gv_X _ _ (143, [(0, .inr (.inr (some 100))), (1, .inl a1), (3, .inr (.inr (some a3))), (4, .inl v4_12), (5, .inl v5_16)], [], sh, gc_h sh I10 J11 A)
                    refine gv_pick [0, 1, 2, 3] rfl ?_
                    exact L143 I10 J11 hI10 FI10 FJ11 (by (/-25-/first | (and_intros; (omega); (omega); (have o1 := gz_sh hv4_12; omega); (have o1 := gz_sh hv4_12; omega); (have o1 := gz_sh e0_16; omega); (have o1 := gz_sh e0_12; omega); (have o1 := gz_sh e1_12; omega)) | (simp only [gz_hd] at *; omega)))
                  · show gv_X _ _ (112, [(0, .inr (.inr (some 100))), (1, .inl a1), (3, .inr (.inr (some a3))), (4, .inl v4_12), (5, .inl v5_16)], [], sh, gc_h sh I10 J11 A)
                    refine gv_run 1 true hD (pcₚ := 113) (lvₚ := [(0, .inr (.inr (some 100))), (1, .inl a1), (3, .inr (.inr (some a3))), (4, .inl v4_12), (5, .inl v5_16)]) (stₚ := [.inr (.inr (some 100))]) (hₚ := gc_h sh I10 J11 A) (C := (True ∧ True)) rfl ⟨trivial, trivial⟩ ?_
                    refine gv_get hD rfl rfl S_100 ⟨by decide, (gz_sh B_100)⟩ (gc_hA S_100 rfl A_100_15) ?_
                    show gv_X _ _ (116, [(0, .inr (.inr (some 100))), (1, .inl a1), (3, .inr (.inr (some a3))), (4, .inl v4_12), (5, .inl v5_16)], [.inr (.inr (some 111))], sh, gc_h sh I10 J11 A)
                    refine gv_run 1 true hD (pcₚ := 117) (lvₚ := [(0, .inr (.inr (some 100))), (1, .inl a1), (3, .inr (.inr (some a3))), (4, .inl v4_12), (5, .inl v5_16)]) (stₚ := [.inr (.inr (some 100)), .inr (.inr (some 111))]) (hₚ := gc_h sh I10 J11 A) (C := (True ∧ True)) rfl ⟨trivial, trivial⟩ ?_
                    refine gv_get hD rfl rfl S_100 ⟨by decide, (gz_sh B_100)⟩ (gc_hI S_100 rfl) ?_
                    show gv_X _ _ (120, [(0, .inr (.inr (some 100))), (1, .inl a1), (3, .inr (.inr (some a3))), (4, .inl v4_12), (5, .inl v5_16)], [.inl (I10 100 14), .inr (.inr (some 111))], sh, gc_h sh I10 J11 A)
                    refine gv_run 1 true hD (pcₚ := 121) (lvₚ := [(0, .inr (.inr (some 100))), (1, .inl a1), (3, .inr (.inr (some a3))), (4, .inl v4_12), (5, .inl v5_16)]) (stₚ := [.inl a1, .inl (I10 100 14), .inr (.inr (some 111))]) (hₚ := gc_h sh I10 J11 A) (C := (True ∧ True)) rfl ⟨trivial, trivial⟩ ?_
                    refine gv_iast hD rfl S_111 ⟨by decide, (gz_sh B_111)⟩ ⟨by (/-26-/first | (have o1 := gz_sh f15; omega) | (simp only [gz_hd] at *; omega)), by (/-27-/first | omega | (simp only [gz_hd] at *; omega))⟩ ?_
                    refine gc_st hI10 S_111 rfl (gz_sh R_111) (lo := 0) (hi := 99) rfl rfl (by (/-28-/first | omega | (simp only [gz_hd] at *; omega))) (by (/-29-/first | omega | (simp only [gz_hd] at *; omega))) (fun I34 hI34 q35 p35 => ?_)
                    have FI34 := gc_frs (W := fun q j => q = 110 ∨ q = 111 ∨ q = 112 ∨ (q = 100 ∧ j = 14) ∨ q = (a2 + 22)) FI10 (Or.inr (Or.inl rfl)) p35
                    have t36 := gz_hi (p35 106 4 (fun h => absurd h.1 (by first | exact gz_ne rfl | decide)))
                    have t37 := gz_hi (p35 100 17 (fun h => absurd h.1 (by first | exact gz_ne rfl | decide)))
                    have t38 := gz_hi (p35 100 14 (fun h => absurd h.1 (by first | exact gz_ne rfl | decide)))
                    show gv_X _ _ (122, [(0, .inr (.inr (some 100))), (1, .inl a1), (3, .inr (.inr (some a3))), (4, .inl v4_12), (5, .inl v5_16)], [], sh, gc_h sh I34 J11 A)
                    refine gv_run 1 true hD (pcₚ := 123) (lvₚ := [(0, .inr (.inr (some 100))), (1, .inl a1), (3, .inr (.inr (some a3))), (4, .inl v4_12), (5, .inl v5_16)]) (stₚ := [.inr (.inr (some 100))]) (hₚ := gc_h sh I34 J11 A) (C := (True ∧ True)) rfl ⟨trivial, trivial⟩ ?_
                    refine gv_get hD rfl rfl S_100 ⟨by decide, (gz_sh B_100)⟩ (gc_hA S_100 rfl A_100_16) ?_
                    show gv_X _ _ (126, [(0, .inr (.inr (some 100))), (1, .inl a1), (3, .inr (.inr (some a3))), (4, .inl v4_12), (5, .inl v5_16)], [.inr (.inr (some 112))], sh, gc_h sh I34 J11 A)
                    refine gv_run 1 true hD (pcₚ := 127) (lvₚ := [(0, .inr (.inr (some 100))), (1, .inl a1), (3, .inr (.inr (some a3))), (4, .inl v4_12), (5, .inl v5_16)]) (stₚ := [.inr (.inr (some 100)), .inr (.inr (some 112))]) (hₚ := gc_h sh I34 J11 A) (C := (True ∧ True)) rfl ⟨trivial, trivial⟩ ?_
                    refine gv_get hD rfl rfl S_100 ⟨by decide, (gz_sh B_100)⟩ (gc_hI S_100 rfl) ?_
                    show gv_X _ _ (130, [(0, .inr (.inr (some 100))), (1, .inl a1), (3, .inr (.inr (some a3))), (4, .inl v4_12), (5, .inl v5_16)], [.inl (I34 100 14), .inr (.inr (some 112))], sh, gc_h sh I34 J11 A)
                    refine gv_run 1 true hD (pcₚ := 132) (lvₚ := [(0, .inr (.inr (some 100))), (1, .inl a1), (3, .inr (.inr (some a3))), (4, .inl v4_12), (5, .inl v5_16)]) (stₚ := [.inl v4_12, .inl (I34 100 14), .inr (.inr (some 112))]) (hₚ := gc_h sh I34 J11 A) (C := (True ∧ True)) rfl ⟨trivial, trivial⟩ ?_
                    refine gv_iast hD rfl S_112 ⟨by decide, (gz_sh B_112)⟩ ⟨by (/-30-/first | (have o1 := gz_sh f15; have o2 := gz_sh t38; omega) | (simp only [gz_hd] at *; omega)), by (/-31-/first | (have o1 := gz_sh t38; omega) | (simp only [gz_hd] at *; omega))⟩ ?_
                    refine gc_st hI34 S_112 rfl (gz_sh R_112) (lo := 0) (hi := 23) rfl rfl (by (/-32-/first | (have o1 := gz_sh hv4_12; omega) | (simp only [gz_hd] at *; omega))) (by (/-33-/first | (have o1 := gz_sh e0_12; have o2 := gz_sh e0_16; have o3 := gz_sh e1_12; have o4 := gz_sh f1; omega) | (simp only [gz_hd] at *; omega))) (fun I40 hI40 q41 p41 => ?_)
                    have FI40 := gc_frs (W := fun q j => q = 110 ∨ q = 111 ∨ q = 112 ∨ (q = 100 ∧ j = 14) ∨ q = (a2 + 22)) FI34 (Or.inr (Or.inr (Or.inl rfl))) p41
                    have t42 := gz_hi (p41 106 4 (fun h => absurd h.1 (by first | exact gz_ne rfl | decide)))
                    have t43 := gz_hi (p41 100 17 (fun h => absurd h.1 (by first | exact gz_ne rfl | decide)))
                    have t44 := gz_hi (p41 100 14 (fun h => absurd h.1 (by first | exact gz_ne rfl | decide)))
                    show gv_X _ _ (133, [(0, .inr (.inr (some 100))), (1, .inl a1), (3, .inr (.inr (some a3))), (4, .inl v4_12), (5, .inl v5_16)], [], sh, gc_h sh I40 J11 A)
                    refine gv_run 2 true hD (pcₚ := 135) (lvₚ := [(0, .inr (.inr (some 100))), (1, .inl a1), (3, .inr (.inr (some a3))), (4, .inl v4_12), (5, .inl v5_16)]) (stₚ := [.inr (.inr (some 100)), .inr (.inr (some 100))]) (hₚ := gc_h sh I40 J11 A) (C := ((True ∧ True) ∧ True)) rfl ⟨⟨trivial, trivial⟩, trivial⟩ ?_
                    refine gv_get hD rfl rfl S_100 ⟨by decide, (gz_sh B_100)⟩ (gc_hI S_100 rfl) ?_
                    show gv_X _ _ (138, [(0, .inr (.inr (some 100))), (1, .inl a1), (3, .inr (.inr (some a3))), (4, .inl v4_12), (5, .inl v5_16)], [.inl (I40 100 14), .inr (.inr (some 100))], sh, gc_h sh I40 J11 A)
                    refine gv_run 2 true hD (pcₚ := 140) (lvₚ := [(0, .inr (.inr (some 100))), (1, .inl a1), (3, .inr (.inr (some a3))), (4, .inl v4_12), (5, .inl v5_16)]) (stₚ := [.inl ((I40 100 14) + 1), .inr (.inr (some 100))]) (hₚ := gc_h sh I40 J11 A) (C := ((True ∧ True) ∧ True)) rfl ⟨⟨trivial, trivial⟩, trivial⟩ ?_
                    refine gv_put hD rfl rfl S_100 ⟨by decide, (gz_sh B_100)⟩ rfl trivial ?_
                    refine gc_st (k := 14) hI40 S_100 rfl (gz_sh R_100) (lo := 0) (hi := 2400) rfl rfl (by (/-34-/first | (have o1 := gz_sh f15; have o2 := gz_sh t38; have o3 := gz_sh t44; omega) | (simp only [gz_hd] at *; omega))) (by (/-35-/first | (have o1 := gz_sh t38; have o2 := gz_sh t44; omega) | (simp only [gz_hd] at *; omega))) (fun I46 hI46 q47 p47 => ?_)
                    have FI46 := gc_frs (W := fun q j => q = 110 ∨ q = 111 ∨ q = 112 ∨ (q = 100 ∧ j = 14) ∨ q = (a2 + 22)) FI40 (Or.inr (Or.inr (Or.inr (Or.inl ⟨rfl, rfl⟩)))) p47
                    have t48 := gz_hi (p47 106 4 (fun h => absurd h.2 (by first | exact gz_ne rfl | decide)))
                    have t49 := gz_hi (p47 100 17 (fun h => absurd h.2 (by first | exact gz_ne rfl | decide)))
                    show gv_X _ _ (143, [(0, .inr (.inr (some 100))), (1, .inl a1), (3, .inr (.inr (some a3))), (4, .inl v4_12), (5, .inl v5_16)], [], sh, gc_h sh I46 J11 A)
                    refine gv_pick [0, 1, 2, 3] rfl ?_
                    exact L143 I46 J11 hI46 FI46 FJ11 (by (/-36-/first | (and_intros; (omega); (omega); (have o1 := gz_sh hv4_12; omega); (have o1 := gz_sh hv4_12; omega); (have o1 := gz_sh e0_16; have o2 := gz_sh t36; have o3 := gz_sh t37; have o4 := gz_sh t42; have o5 := gz_sh t43; have o6 := gz_sh t48; have o7 := gz_sh t49; omega); (have o1 := gz_sh e0_12; have o2 := gz_sh t36; have o3 := gz_sh t42; have o4 := gz_sh t48; omega); (have o1 := gz_sh e1_12; have o2 := gz_sh t37; have o3 := gz_sh t43; have o4 := gz_sh t49; omega)) | (simp only [gz_hd] at *; omega)))
              refine gv_run 2 true hD (pcₚ := 64) (lvₚ := [(0, .inr (.inr (some 100))), (1, .inl a1), (3, .inr (.inr (some a3))), (4, .inl v4_12), (5, .inl v5_16), (6, .inl v6_16)]) (stₚ := [.inr (.inr (some 100)), .inl v6_16]) (hₚ := gc_h sh I10 J11 A) (C := ((True ∧ True) ∧ True)) rfl ⟨⟨trivial, trivial⟩, trivial⟩ ?_
              refine gv_get hD rfl rfl S_100 ⟨by decide, (gz_sh B_100)⟩ (gc_hI S_100 rfl) ?_
              show gv_X _ _ (67, [(0, .inr (.inr (some 100))), (1, .inl a1), (3, .inr (.inr (some a3))), (4, .inl v4_12), (5, .inl v5_16), (6, .inl v6_16)], [.inl (I10 100 17), .inl v6_16], sh, gc_h sh I10 J11 A)
              refine gv_icmp_ge (t := 95) hD rfl rfl ⟨⟨by (/-37-/first | (have o1 := gz_sh hv6_16; omega) | (simp only [gz_hd] at *; omega)), by (/-38-/first | (have o1 := gz_sh hv6_16; omega) | (simp only [gz_hd] at *; omega))⟩, ⟨by (/-39-/first | (have o1 := gz_sh e1_12; omega) | (simp only [gz_hd] at *; omega)), by (/-40-/first | (have o1 := gz_sh e1_12; have o2 := gz_sh f2; omega) | (simp only [gz_hd] at *; omega))⟩⟩ (fun c52 => ?_) (fun c52 => ?_)
              · show gv_X _ _ (95, [(0, .inr (.inr (some 100))), (1, .inl a1), (3, .inr (.inr (some a3))), (4, .inl v4_12), (5, .inl v5_16), (6, .inl v6_16)], [], sh, gc_h sh I10 J11 A)
                refine gv_pick [0, 1, 2, 3, 4] rfl ?_
                exact L95 (by (/-41-/first | (and_intros; (omega); (omega); (have o1 := gz_sh hv4_12; omega); (have o1 := gz_sh hv4_12; omega); (have o1 := gz_sh hv5_16; omega); (have o1 := gz_sh hv5_16; omega); (have o1 := gz_sh e0_16; omega); (have o1 := gz_sh e0_12; omega); (have o1 := gz_sh e1_12; omega)) | (simp only [gz_hd] at *; omega)))
              · show gv_X _ _ (70, [(0, .inr (.inr (some 100))), (1, .inl a1), (3, .inr (.inr (some a3))), (4, .inl v4_12), (5, .inl v5_16), (6, .inl v6_16)], [], sh, gc_h sh I10 J11 A)
                refine gv_run 1 true hD (pcₚ := 72) (lvₚ := [(0, .inr (.inr (some 100))), (1, .inl a1), (3, .inr (.inr (some a3))), (4, .inl v4_12), (5, .inl v5_16), (6, .inl v6_16)]) (stₚ := [.inl v5_16]) (hₚ := gc_h sh I10 J11 A) (C := (True ∧ True)) rfl ⟨trivial, trivial⟩ ?_
                refine gv_if_eq (t := 95) hD rfl rfl ⟨by (/-42-/first | (have o1 := gz_sh hv5_16; omega) | (simp only [gz_hd] at *; omega)), by (/-43-/first | (have o1 := gz_sh hv5_16; omega) | (simp only [gz_hd] at *; omega))⟩ (fun c53 => ?_) (fun c53 => ?_)
                · show gv_X _ _ (95, [(0, .inr (.inr (some 100))), (1, .inl a1), (3, .inr (.inr (some a3))), (4, .inl v4_12), (5, .inl v5_16), (6, .inl v6_16)], [], sh, gc_h sh I10 J11 A)
                  refine gv_pick [0, 1, 2, 3, 4] rfl ?_
                  exact L95 (by (/-44-/first | (and_intros; (omega); (omega); (have o1 := gz_sh hv4_12; omega); (have o1 := gz_sh hv4_12; omega); (omega); (omega); (have o1 := gz_sh e0_16; omega); (have o1 := gz_sh e0_12; omega); (have o1 := gz_sh e1_12; omega)) | (simp only [gz_hd] at *; omega)))
                · show gv_X _ _ (75, [(0, .inr (.inr (some 100))), (1, .inl a1), (3, .inr (.inr (some a3))), (4, .inl v4_12), (5, .inl v5_16), (6, .inl v6_16)], [], sh, gc_h sh I10 J11 A)
                  refine gv_run 6 true hD (pcₚ := 84) (lvₚ := [(0, .inr (.inr (some 100))), (1, .inl a1), (3, .inr (.inr (some a3))), (4, .inl v4_12), (5, .inl v5_16), (6, .inl v6_16)]) (stₚ := [.inr (.inr (some a3)), .inl (v4_12 + v6_16), .inl v6_16, .inr (.inr (some 100))]) (hₚ := gc_h sh I10 J11 A) (C := ((((((True ∧ True) ∧ True) ∧ True) ∧ True) ∧ True) ∧ True)) rfl ⟨⟨⟨⟨⟨⟨trivial, trivial⟩, trivial⟩, trivial⟩, trivial⟩, trivial⟩, trivial⟩ ?_
                  obtain ⟨r54, h54, E54, P54⟩ := d_X1_fitsAt (ws0 := ws0) (tb := tb) hws htb sh ro I10 J11 A hI10  v6_16 (v4_12 + v6_16) a3 hb h_a3  ⟨by (/-45-/first | (have o1 := gz_sh hv6_16; omega) | (simp only [gz_hd] at *; omega)), by (/-46-/first | (have o1 := gz_sh e1_12; have o2 := gz_sh f2; omega) | (simp only [gz_hd] at *; omega))⟩ ⟨by (/-47-/first | (have o1 := gz_sh hv4_12; have o2 := gz_sh hv6_16; omega) | (simp only [gz_hd] at *; omega)), by (/-48-/first | (have o1 := gz_sh e0_12; have o2 := gz_sh e0_16; have o3 := gz_sh f1; omega) | (simp only [gz_hd] at *; omega))⟩ (gc_SP_fr x0 ((FI10 106 4).resolve_left (fun h => h.elim (fun h => absurd h (by first | exact gz_ne rfl | decide)) (fun h => h.elim (fun h => absurd h (by first | exact gz_ne rfl | decide)) (fun h => h.elim (fun h => absurd h (by first | exact gz_ne rfl | decide)) (fun h => h.elim (fun h => absurd h.2 (by first | exact gz_ne rfl | decide)) (fun h => absurd h (gz_sh N_106__a2_22))))))) (fun k => (FI10 (106 + 2) k).resolve_left (fun h => h.elim (fun h => absurd h (gz_sh N_106_2__110)) (fun h => h.elim (fun h => absurd h (gz_sh N_106_2__111)) (fun h => h.elim (fun h => absurd h (gz_sh N_106_2__112)) (fun h => h.elim (fun h => absurd h.1 (gz_sh N_106_2__100)) (fun h => absurd h (gz_sh N_106_2__a2_22))))))) (fun k => (FI10 (106 + 3) k).resolve_left (fun h => h.elim (fun h => absurd h (gz_sh N_106_3__110)) (fun h => h.elim (fun h => absurd h (gz_sh N_106_3__111)) (fun h => h.elim (fun h => absurd h (gz_sh N_106_3__112)) (fun h => h.elim (fun h => absurd h.1 (gz_sh N_106_3__100)) (fun h => absurd h (gz_sh N_106_3__a2_22)))))))) (by (/-49-/first | (have o1 := gz_sh e0_16; omega) | (simp only [gz_hd] at *; omega))) ((gc_QU_fr x1 ((FI10 100 17).resolve_left (fun h => h.elim (fun h => absurd h (by first | exact gz_ne rfl | decide)) (fun h => h.elim (fun h => absurd h (by first | exact gz_ne rfl | decide)) (fun h => h.elim (fun h => absurd h (by first | exact gz_ne rfl | decide)) (fun h => h.elim (fun h => absurd h.2 (by first | exact gz_ne rfl | decide)) (fun h => absurd h (gz_sh N_100__a2_22))))))) (fun k => (FI10 113 k).resolve_left (fun h => h.elim (fun h => absurd h (by first | exact gz_ne rfl | decide)) (fun h => h.elim (fun h => absurd h (by first | exact gz_ne rfl | decide)) (fun h => h.elim (fun h => absurd h (by first | exact gz_ne rfl | decide)) (fun h => h.elim (fun h => absurd h.1 (by first | exact gz_ne rfl | decide)) (fun h => absurd h (gz_sh N_113__a2_22)))))))) v6_16 (by (/-50-/first | (have o1 := gz_sh hv6_16; omega) | (simp only [gz_hd] at *; omega))) (by (/-51-/first | omega | (simp only [gz_hd] at *; omega)))) 
                  obtain ⟨rfl, ⟨z54, rfl, q54⟩⟩ := P54
                  replace q54 := gz_hi q54
                  refine gv_callV hD rfl (As := [.inl v6_16, .inl (v4_12 + v6_16), .inr (.inr (some a3))]) (st := []) rfl (gz_sh B_100) S_100 rfl (gc_lV1 hws rfl) (Nat.le_of_ble_eq_true rfl) (gz_Ev_mono (d := 1) (by decide) E54) ?_
                  show gv_X _ _ (87, [(0, .inr (.inr (some 100))), (1, .inl a1), (3, .inr (.inr (some a3))), (4, .inl v4_12), (5, .inl v5_16), (6, .inl v6_16)], [.inl z54], sh, gc_h sh I10 J11 A)
                  refine gv_run 3 true hD (pcₚ := 61) (lvₚ := [(6, .inl (v6_16 + 1)), (5, .inl z54), (0, .inr (.inr (some 100))), (1, .inl a1), (3, .inr (.inr (some a3))), (4, .inl v4_12)]) (stₚ := []) (hₚ := gc_h sh I10 J11 A) (C := (((True ∧ True) ∧ True) ∧ True)) rfl ⟨⟨⟨trivial, trivial⟩, trivial⟩, trivial⟩ ?_
                  refine gv_pick [2, 3, 4, 5, 1, 0] rfl ?_
                  exact ih61 z54 (v6_16 + 1) (by (/-52-/first | (have o1 := gz_sh e0_12; have o2 := gz_sh e0_16; have o3 := gz_sh e1_12; have o4 := gz_sh f2; have o5 := gz_sh hv4_12; have o6 := gz_sh hv5_16; have o7 := gz_sh hv6_16; omega) | (simp only [gz_hd] at *; omega))) (by (/-53-/first | (and_intros; (omega); (omega); (have o1 := gz_sh hv4_12; omega); (have o1 := gz_sh hv4_12; omega); (have o1 := gz_sh q54; omega); (have o1 := gz_sh q54; omega); (have o1 := gz_sh hv6_16; omega); (have o1 := gz_sh e1_12; have o2 := gz_sh f2; omega); (have o1 := gz_sh e0_16; omega); (omega); (have o1 := gz_sh e0_12; omega); (have o1 := gz_sh e1_12; omega)) | (simp only [gz_hd] at *; omega)))
          refine gv_run 2 true hD (pcₚ := 41) (lvₚ := [(0, .inr (.inr (some 100))), (1, .inl a1), (3, .inr (.inr (some a3))), (4, .inl v4_12)]) (stₚ := [.inr (.inr (some 100)), .inl v4_12]) (hₚ := gc_h sh I10 J11 A) (C := ((True ∧ True) ∧ True)) rfl ⟨⟨trivial, trivial⟩, trivial⟩ ?_
          refine gv_get hD rfl rfl S_100 ⟨by decide, (gz_sh B_100)⟩ (gc_hI S_100 rfl) ?_
          show gv_X _ _ (44, [(0, .inr (.inr (some 100))), (1, .inl a1), (3, .inr (.inr (some a3))), (4, .inl v4_12)], [.inl (I10 100 17), .inl v4_12], sh, gc_h sh I10 J11 A)
          refine gv_run 2 true hD (pcₚ := 46) (lvₚ := [(0, .inr (.inr (some 100))), (1, .inl a1), (3, .inr (.inr (some a3))), (4, .inl v4_12)]) (stₚ := [.inr (.inr (some 100)), .inl (v4_12 + (I10 100 17))]) (hₚ := gc_h sh I10 J11 A) (C := ((True ∧ True) ∧ True)) rfl ⟨⟨trivial, trivial⟩, trivial⟩ ?_
          refine gv_get hD rfl rfl S_100 ⟨by decide, (gz_sh B_100)⟩ (gc_hA S_100 rfl A_100_12) ?_
          show gv_X _ _ (49, [(0, .inr (.inr (some 100))), (1, .inl a1), (3, .inr (.inr (some a3))), (4, .inl v4_12)], [.inr (.inr (some 106)), .inl (v4_12 + (I10 100 17))], sh, gc_h sh I10 J11 A)
          refine gv_get hD rfl rfl S_106 ⟨by decide, (gz_sh B_106)⟩ (gc_hI S_106 rfl) ?_
          show gv_X _ _ (52, [(0, .inr (.inr (some 100))), (1, .inl a1), (3, .inr (.inr (some a3))), (4, .inl v4_12)], [.inl (I10 106 4), .inl (v4_12 + (I10 100 17))], sh, gc_h sh I10 J11 A)
          refine gv_icmp_gt (t := 149) hD rfl rfl ⟨⟨by (/-54-/first | (have o1 := gz_sh e1_12; have o2 := gz_sh hv4_12; omega) | (simp only [gz_hd] at *; omega)), by (/-55-/first | (have o1 := gz_sh e1_12; have o2 := gz_sh f2; have o3 := gz_sh hv4_12; omega) | (simp only [gz_hd] at *; omega))⟩, ⟨by (/-56-/first | (have o1 := gz_sh e0_12; have o2 := gz_sh f1; omega) | (simp only [gz_hd] at *; omega)), by (/-57-/first | (have o1 := gz_sh e0_12; have o2 := gz_sh f1; omega) | (simp only [gz_hd] at *; omega))⟩⟩ (fun c57 => ?_) (fun c57 => ?_)
          · show gv_X _ _ (149, [(0, .inr (.inr (some 100))), (1, .inl a1), (3, .inr (.inr (some a3))), (4, .inl v4_12)], [], sh, gc_h sh I10 J11 A)
            exact gv_vret hD rfl ⟨I10, J11, rfl, hI10, FI10, FJ11, rfl⟩
          · show gv_X _ _ (55, [(0, .inr (.inr (some 100))), (1, .inl a1), (3, .inr (.inr (some a3))), (4, .inl v4_12)], [], sh, gc_h sh I10 J11 A)
            refine gv_run 4 true hD (pcₚ := 61) (lvₚ := [(6, .inl 0), (5, .inl 1), (0, .inr (.inr (some 100))), (1, .inl a1), (3, .inr (.inr (some a3))), (4, .inl v4_12)]) (stₚ := []) (hₚ := gc_h sh I10 J11 A) (C := ((((True ∧ True) ∧ True) ∧ True) ∧ True)) rfl ⟨⟨⟨⟨trivial, trivial⟩, trivial⟩, trivial⟩, trivial⟩ ?_
            refine gv_pick [2, 3, 4, 5, 1, 0] rfl ?_
            exact L61 _ 1 0 (Nat.lt_succ_self _) (by (/-58-/first | (and_intros; (omega); (omega); (have o1 := gz_sh hv4_12; omega); (have o1 := gz_sh hv4_12; omega); (omega); (omega); (omega); (omega); (omega); (have o1 := gz_sh e1_12; omega); (have o1 := gz_sh e0_12; omega); (have o1 := gz_sh e1_12; omega)) | (simp only [gz_hd] at *; omega)))
      refine gv_run 2 true hD (pcₚ := 6) (lvₚ := [(0, .inr (.inr (some 100))), (1, .inl a1), (2, .inr (.inr (some a2))), (3, .inr (.inr (some a3))), (4, .inl v4_6)]) (stₚ := [.inr (.inr (some 100)), .inl v4_6]) (hₚ := gc_h sh I4 J5 A) (C := ((True ∧ True) ∧ True)) rfl ⟨⟨trivial, trivial⟩, trivial⟩ ?_
      refine gv_get hD rfl rfl S_100 ⟨by decide, (gz_sh B_100)⟩ (gc_hA S_100 rfl A_100_12) ?_
      show gv_X _ _ (9, [(0, .inr (.inr (some 100))), (1, .inl a1), (2, .inr (.inr (some a2))), (3, .inr (.inr (some a3))), (4, .inl v4_6)], [.inr (.inr (some 106)), .inl v4_6], sh, gc_h sh I4 J5 A)
      refine gv_get hD rfl rfl S_106 ⟨by decide, (gz_sh B_106)⟩ (gc_hI S_106 rfl) ?_
      show gv_X _ _ (12, [(0, .inr (.inr (some 100))), (1, .inl a1), (2, .inr (.inr (some a2))), (3, .inr (.inr (some a3))), (4, .inl v4_6)], [.inl (I4 106 4), .inl v4_6], sh, gc_h sh I4 J5 A)
      refine gv_icmp_ge (t := 35) hD rfl rfl ⟨⟨by (/-59-/first | (have o1 := gz_sh hv4_6; omega) | (simp only [gz_hd] at *; omega)), by (/-60-/first | (have o1 := gz_sh hv4_6; omega) | (simp only [gz_hd] at *; omega))⟩, ⟨by (/-61-/first | (have o1 := gz_sh e0_6; have o2 := gz_sh f1; omega) | (simp only [gz_hd] at *; omega)), by (/-62-/first | (have o1 := gz_sh e0_6; have o2 := gz_sh f1; omega) | (simp only [gz_hd] at *; omega))⟩⟩ (fun c59 => ?_) (fun c59 => ?_)
      · show gv_X _ _ (35, [(0, .inr (.inr (some 100))), (1, .inl a1), (2, .inr (.inr (some a2))), (3, .inr (.inr (some a3))), (4, .inl v4_6)], [], sh, gc_h sh I4 J5 A)
        refine gv_run 2 true hD (pcₚ := 38) (lvₚ := [(4, .inl 0), (0, .inr (.inr (some 100))), (1, .inl a1), (2, .inr (.inr (some a2))), (3, .inr (.inr (some a3)))]) (stₚ := []) (hₚ := gc_h sh I4 J5 A) (C := ((True ∧ True) ∧ True)) rfl ⟨⟨trivial, trivial⟩, trivial⟩ ?_
        refine gv_pick [1, 2, 4, 0] rfl ?_
        exact L38 _ I4 J5 0 (Nat.lt_succ_self _) hI4 FI4 FJ5 (by (/-63-/first | (and_intros; (omega); (omega); (omega); (omega); (have o1 := gz_sh e0_6; omega); (have o1 := gz_sh e1_6; omega)) | (simp only [gz_hd] at *; omega)))
      · show gv_X _ _ (15, [(0, .inr (.inr (some 100))), (1, .inl a1), (2, .inr (.inr (some a2))), (3, .inr (.inr (some a3))), (4, .inl v4_6)], [], sh, gc_h sh I4 J5 A)
        refine gv_run 1 true hD (pcₚ := 16) (lvₚ := [(0, .inr (.inr (some 100))), (1, .inl a1), (2, .inr (.inr (some a2))), (3, .inr (.inr (some a3))), (4, .inl v4_6)]) (stₚ := [.inr (.inr (some 100))]) (hₚ := gc_h sh I4 J5 A) (C := (True ∧ True)) rfl ⟨trivial, trivial⟩ ?_
        refine gv_get hD rfl rfl S_100 ⟨by decide, (gz_sh B_100)⟩ (gc_hA S_100 rfl A_100_13) ?_
        show gv_X _ _ (19, [(0, .inr (.inr (some 100))), (1, .inl a1), (2, .inr (.inr (some a2))), (3, .inr (.inr (some a3))), (4, .inl v4_6)], [.inr (.inr (some 110))], sh, gc_h sh I4 J5 A)
        refine gv_run 4 true hD (pcₚ := 25) (lvₚ := [(0, .inr (.inr (some 100))), (1, .inl a1), (2, .inr (.inr (some a2))), (3, .inr (.inr (some a3))), (4, .inl v4_6)]) (stₚ := [.inl v4_6, .inr (.inr (some a2)), .inr (.inr (some 100)), .inl v4_6, .inr (.inr (some 110))]) (hₚ := gc_h sh I4 J5 A) (C := ((((True ∧ True) ∧ True) ∧ True) ∧ True)) rfl ⟨⟨⟨⟨trivial, trivial⟩, trivial⟩, trivial⟩, trivial⟩ ?_
        obtain ⟨r60, h60, E60, P60⟩ := d_X1_kindsOf (ws0 := ws0) (tb := tb) hws htb sh ro I4 J5 A hI4  a2 v4_6 hb h_a2 G_a2  ⟨by (/-64-/first | (have o1 := gz_sh hv4_6; omega) | (simp only [gz_hd] at *; omega)), by (/-65-/first | (have o1 := gz_sh e0_6; have o2 := gz_sh f1; omega) | (simp only [gz_hd] at *; omega))⟩ (gc_SP_fr x0 ((FI4 106 4).resolve_left (fun h => h.elim (fun h => absurd h (by first | exact gz_ne rfl | decide)) (fun h => h.elim (fun h => absurd h (by first | exact gz_ne rfl | decide)) (fun h => h.elim (fun h => absurd h (by first | exact gz_ne rfl | decide)) (fun h => h.elim (fun h => absurd h.2 (by first | exact gz_ne rfl | decide)) (fun h => absurd h (gz_sh N_106__a2_22))))))) (fun k => (FI4 (106 + 2) k).resolve_left (fun h => h.elim (fun h => absurd h (gz_sh N_106_2__110)) (fun h => h.elim (fun h => absurd h (gz_sh N_106_2__111)) (fun h => h.elim (fun h => absurd h (gz_sh N_106_2__112)) (fun h => h.elim (fun h => absurd h.1 (gz_sh N_106_2__100)) (fun h => absurd h (gz_sh N_106_2__a2_22))))))) (fun k => (FI4 (106 + 3) k).resolve_left (fun h => h.elim (fun h => absurd h (gz_sh N_106_3__110)) (fun h => h.elim (fun h => absurd h (gz_sh N_106_3__111)) (fun h => h.elim (fun h => absurd h (gz_sh N_106_3__112)) (fun h => h.elim (fun h => absurd h.1 (gz_sh N_106_3__100)) (fun h => absurd h (gz_sh N_106_3__a2_22)))))))) (by (/-66-/first | omega | (simp only [gz_hd] at *; omega))) 
        obtain ⟨I61, J62, rfl, hI61, g60, k60, ⟨z60, rfl, q60⟩⟩ := P60
        replace q60 := gz_hi q60
        have FI61 := gc_frc (W := fun q j => q = 110 ∨ q = 111 ∨ q = 112 ∨ (q = 100 ∧ j = 14) ∨ q = (a2 + 22)) (V := fun q j => q = (a2 + 22)) FI4 (fun q j h => (Or.inr (Or.inr (Or.inr (Or.inr h))))) g60
        have t63 := gz_hi ((g60 106 4).resolve_left (fun h => absurd h (gz_sh N_106__a2_22)))
        have t64 := gz_hi ((g60 100 17).resolve_left (fun h => absurd h (gz_sh N_100__a2_22)))
        obtain rfl : J5 = J62 := funext fun q => funext fun j => ((k60 q j).resolve_left id).symm
        refine gv_callV hD rfl (As := [.inr (.inr (some a2)), .inl v4_6]) (st := [.inl v4_6, .inr (.inr (some 110))]) rfl (gz_sh B_100) S_100 rfl (gc_lV1 hws rfl) (Nat.le_of_ble_eq_true rfl) (gz_Ev_mono (d := 3) (by decide) E60) ?_
        show gv_X _ _ (28, [(0, .inr (.inr (some 100))), (1, .inl a1), (2, .inr (.inr (some a2))), (3, .inr (.inr (some a3))), (4, .inl v4_6)], [.inl z60, .inl v4_6, .inr (.inr (some 110))], sh, gc_h sh I61 J5 A)
        refine gv_iast hD rfl S_110 ⟨by decide, (gz_sh B_110)⟩ ⟨by (/-67-/first | (have o1 := gz_sh hv4_6; omega) | (simp only [gz_hd] at *; omega)), by (/-68-/first | (have o1 := gz_sh e0_6; have o2 := gz_sh f1; omega) | (simp only [gz_hd] at *; omega))⟩ ?_
        refine gc_st hI61 S_110 rfl (gz_sh R_110) (lo := (-2147483648)) (hi := 2147483647) rfl rfl (by (/-69-/first | (have o1 := gz_sh q60; omega) | (simp only [gz_hd] at *; omega))) (by (/-70-/first | (have o1 := gz_sh q60; omega) | (simp only [gz_hd] at *; omega))) (fun I66 hI66 q67 p67 => ?_)
        have FI66 := gc_frs (W := fun q j => q = 110 ∨ q = 111 ∨ q = 112 ∨ (q = 100 ∧ j = 14) ∨ q = (a2 + 22)) FI61 (Or.inl rfl) p67
        have t68 := gz_hi (p67 106 4 (fun h => absurd h.1 (by first | exact gz_ne rfl | decide)))
        have t69 := gz_hi (p67 100 17 (fun h => absurd h.1 (by first | exact gz_ne rfl | decide)))
        show gv_X _ _ (29, [(0, .inr (.inr (some 100))), (1, .inl a1), (2, .inr (.inr (some a2))), (3, .inr (.inr (some a3))), (4, .inl v4_6)], [], sh, gc_h sh I66 J5 A)
        refine gv_run 2 true hD (pcₚ := 3) (lvₚ := [(4, .inl (v4_6 + 1)), (0, .inr (.inr (some 100))), (1, .inl a1), (2, .inr (.inr (some a2))), (3, .inr (.inr (some a3)))]) (stₚ := []) (hₚ := gc_h sh I66 J5 A) (C := ((True ∧ True) ∧ True)) rfl ⟨⟨trivial, trivial⟩, trivial⟩ ?_
        refine gv_pick [1, 2, 3, 4, 0] rfl ?_
        exact ih3 I66 J5 (v4_6 + 1) (by (/-71-/first | (have o1 := gz_sh e0_6; have o2 := gz_sh f1; have o3 := gz_sh hv4_6; have o4 := gz_sh t63; have o5 := gz_sh t68; omega) | (simp only [gz_hd] at *; omega))) hI66 FI66 FJ5 (by (/-72-/first | (and_intros; (omega); (omega); (have o1 := gz_sh hv4_6; omega); (have o1 := gz_sh e0_6; have o2 := gz_sh f1; omega); (have o1 := gz_sh e0_6; have o2 := gz_sh t63; have o3 := gz_sh t68; omega); (have o1 := gz_sh e1_6; have o2 := gz_sh t64; have o3 := gz_sh t69; omega)) | (simp only [gz_hd] at *; omega)))
  refine gv_run 2 true hD (pcₚ := 3) (lvₚ := [(4, .inl 0), (0, .inr (.inr (some 100))), (1, .inl a1), (2, .inr (.inr (some a2))), (3, .inr (.inr (some a3)))]) (stₚ := []) (hₚ := gc_h sh I J A) (C := ((True ∧ True) ∧ True)) rfl ⟨⟨trivial, trivial⟩, trivial⟩ ?_
  refine gv_pick [1, 2, 3, 4, 0] rfl ?_
  exact L3 _ I J 0 (Nat.lt_succ_self _) hI FI FJ (by (/-73-/first | (and_intros <;> omega) | (simp only [gz_hd] at *; omega)))
