set_option maxHeartbeats 8000000 in
set_option maxRecDepth 100000 in
theorem d_X2_soundOnce_L30 {ws0 : List Cond} {tb : String → gz_T} (hws : gc_Ws ws0) (htb : gc_tbs tb) (sh : gz_Sh) (ro : Nat → Nat) (I : gr_I) (J : gr_J) (A : gc_A) (hI : gc_Inv ro I) (p : Nat) (a1 : Nat) (a2 : Int) (a3 : Int) (hp : gc_isForms sh ro A p) (h_a1 : gc_isTongue sh ro A a1) (G_a1 : 144 ≤ a1) (ha2 : 0 ≤ a2 ∧ a2 ≤ 575) (ha3 : 0 ≤ a3 ∧ a3 ≤ 24) (x0 : a2 % 25 = 0) (x1 : gc_sc (a1 + 10) I) (x2 : p = a1 + 17) : ∀ (n9 : Nat) (I2 : gr_I) (J3 : gr_J) (v4_4 : Int) (v5_4 : Int) (v6_4 : Int), (25 - v6_4).toNat < n9 → gc_Inv ro I2 → (∀ q j : Nat, (q = (p + 6) ∨ q = (p + 7)) ∨ I2 q j = I q j) → (∀ q j : Nat, (False) ∨ J3 q j = J q j) → ((0 ≤ a2 ∧ a2 ≤ 575) ∧ (0 ≤ a3 ∧ a3 ≤ 24) ∧ (0 ≤ v4_4 ∧ v4_4 ≤ 12) ∧ (0 ≤ v5_4 ∧ v5_4 ≤ 24) ∧ (0 ≤ v6_4 ∧ v6_4 ≤ 24) ∧ (v6_4 ≤ a3)) → gv_X (gc_E2 ws0 tb 2 (yX2_soundOnce, cX2_soundOnce, 9, (some .int)) kX2_soundOnce) (gv_Q cX2_soundOnce (some .int) sh (fun r hₚ => (∃ (Iₚ : gr_I) (Jₚ : gr_J), hₚ = gc_h sh Iₚ Jₚ A ∧ gc_Inv ro Iₚ ∧ (∀ q j : Nat, (q = (p + 6) ∨ q = (p + 7)) ∨ Iₚ q j = I q j) ∧ (∀ q j : Nat, (False) ∨ Jₚ q j = J q j) ∧ (∃ z : Int, r = some (.inl z) ∧ (-1) ≤ z ∧ z ≤ 24)))) (30, [(0, .inr (.inr (some p))), (1, .inr (.inr (some a1))), (2, .inl a2), (3, .inl a3), (4, .inl v4_4), (5, .inl v5_4), (6, .inl v6_4)], [], sh, gc_h sh I2 J3 A) := by
  have FI : ∀ q j : Nat, (q = (p + 6) ∨ q = (p + 7)) ∨ I q j = I q j := fun _ _ => Or.inr rfl
  have FJ : ∀ q j : Nat, (False) ∨ J q j = J q j := fun _ _ => Or.inr rfl
  obtain ⟨S_p, R_p, B_p, A_p_0, S_20, R_20, B_20, A_p_1, S_p_1, R_p_1, B_p_1, A_p_2, S_p_2, R_p_2, B_p_2, A_p_3, S_p_3, R_p_3, B_p_3, A_p_4, S_p_4, R_p_4, B_p_4, A_p_5, S_p_5, R_p_5, B_p_5, S_p_6, R_p_6, B_p_6, S_p_7, R_p_7, B_p_7⟩ := id hp
  replace R_p := gz_hi R_p
  replace B_p := gz_hi B_p
  replace R_20 := gz_hi R_20
  replace B_20 := gz_hi B_20
  replace R_p_1 := gz_hi R_p_1
  replace B_p_1 := gz_hi B_p_1
  replace R_p_2 := gz_hi R_p_2
  replace B_p_2 := gz_hi B_p_2
  replace R_p_3 := gz_hi R_p_3
  replace B_p_3 := gz_hi B_p_3
  replace R_p_4 := gz_hi R_p_4
  replace B_p_4 := gz_hi B_p_4
  replace R_p_5 := gz_hi R_p_5
  replace B_p_5 := gz_hi B_p_5
  replace R_p_6 := gz_hi R_p_6
  replace B_p_6 := gz_hi B_p_6
  replace R_p_7 := gz_hi R_p_7
  replace B_p_7 := gz_hi B_p_7
  obtain ⟨S_a1, R_a1, B_a1, A_a1_0, h_a1_1, A_a1_1, h_a1_3, A_a1_2, S_a1_5, R_a1_5, B_a1_5, A_a1_3, S_a1_6, R_a1_6, B_a1_6, A_a1_4, h_a1_7, A_a1_5, S_a1_9, R_a1_9, B_a1_9, A_a1_7, S_a1_10, R_a1_10, B_a1_10, A_a1_8, h_a1_11, A_a1_9, S_a1_13, R_a1_13, B_a1_13, A_a1_10, S_a1_14, R_a1_14, B_a1_14, A_a1_12, S_a1_15, R_a1_15, B_a1_15, A_a1_14, S_a1_16, R_a1_16, B_a1_16, A_a1_15, h_a1_17⟩ := id h_a1
  replace R_a1 := gz_hi R_a1
  replace B_a1 := gz_hi B_a1
  replace R_a1_5 := gz_hi R_a1_5
  replace B_a1_5 := gz_hi B_a1_5
  replace R_a1_6 := gz_hi R_a1_6
  replace B_a1_6 := gz_hi B_a1_6
  replace R_a1_9 := gz_hi R_a1_9
  replace B_a1_9 := gz_hi B_a1_9
  replace R_a1_10 := gz_hi R_a1_10
  replace B_a1_10 := gz_hi B_a1_10
  replace R_a1_13 := gz_hi R_a1_13
  replace B_a1_13 := gz_hi B_a1_13
  replace R_a1_14 := gz_hi R_a1_14
  replace B_a1_14 := gz_hi B_a1_14
  replace R_a1_15 := gz_hi R_a1_15
  replace B_a1_15 := gz_hi B_a1_15
  replace R_a1_16 := gz_hi R_a1_16
  replace B_a1_16 := gz_hi B_a1_16
  obtain ⟨S_a1_1, R_a1_1, B_a1_1, A_a1_1_0, S_a1_1_1, R_a1_1_1, B_a1_1_1, Q0_a1_1, Q1_a1_1, Q2_a1_1⟩ := id h_a1_1
  replace R_a1_1 := gz_hi R_a1_1
  replace B_a1_1 := gz_hi B_a1_1
  replace R_a1_1_1 := gz_hi R_a1_1_1
  replace B_a1_1_1 := gz_hi B_a1_1_1
  obtain ⟨S_a1_3, R_a1_3, B_a1_3, A_a1_3_0, S_a1_3_1, R_a1_3_1, B_a1_3_1, Q0_a1_3, Q1_a1_3, Q2_a1_3⟩ := id h_a1_3
  replace R_a1_3 := gz_hi R_a1_3
  replace B_a1_3 := gz_hi B_a1_3
  replace R_a1_3_1 := gz_hi R_a1_3_1
  replace B_a1_3_1 := gz_hi B_a1_3_1
  obtain ⟨S_a1_7, R_a1_7, B_a1_7, A_a1_7_0, S_a1_7_1, R_a1_7_1, B_a1_7_1, Q0_a1_7, Q1_a1_7, Q2_a1_7⟩ := id h_a1_7
  replace R_a1_7 := gz_hi R_a1_7
  replace B_a1_7 := gz_hi B_a1_7
  replace R_a1_7_1 := gz_hi R_a1_7_1
  replace B_a1_7_1 := gz_hi B_a1_7_1
  obtain ⟨S_a1_11, R_a1_11, B_a1_11, A_a1_11_0, S_a1_11_1, R_a1_11_1, B_a1_11_1, Q0_a1_11, Q1_a1_11, Q2_a1_11⟩ := id h_a1_11
  replace R_a1_11 := gz_hi R_a1_11
  replace B_a1_11 := gz_hi B_a1_11
  replace R_a1_11_1 := gz_hi R_a1_11_1
  replace B_a1_11_1 := gz_hi B_a1_11_1
  obtain ⟨S_a1_17, R_a1_17, B_a1_17, A_a1_17_0, S_20, R_20, B_20, A_a1_17_1, S_a1_17_1, R_a1_17_1, B_a1_17_1, A_a1_17_2, S_a1_17_2, R_a1_17_2, B_a1_17_2, A_a1_17_3, S_a1_17_3, R_a1_17_3, B_a1_17_3, A_a1_17_4, S_a1_17_4, R_a1_17_4, B_a1_17_4, A_a1_17_5, S_a1_17_5, R_a1_17_5, B_a1_17_5, S_a1_17_6, R_a1_17_6, B_a1_17_6, S_a1_17_7, R_a1_17_7, B_a1_17_7⟩ := id h_a1_17
  replace R_a1_17 := gz_hi R_a1_17
  replace B_a1_17 := gz_hi B_a1_17
  replace R_20 := gz_hi R_20
  replace B_20 := gz_hi B_20
  replace R_a1_17_1 := gz_hi R_a1_17_1
  replace B_a1_17_1 := gz_hi B_a1_17_1
  replace R_a1_17_2 := gz_hi R_a1_17_2
  replace B_a1_17_2 := gz_hi B_a1_17_2
  replace R_a1_17_3 := gz_hi R_a1_17_3
  replace B_a1_17_3 := gz_hi B_a1_17_3
  replace R_a1_17_4 := gz_hi R_a1_17_4
  replace B_a1_17_4 := gz_hi B_a1_17_4
  replace R_a1_17_5 := gz_hi R_a1_17_5
  replace B_a1_17_5 := gz_hi B_a1_17_5
  replace R_a1_17_6 := gz_hi R_a1_17_6
  replace B_a1_17_6 := gz_hi B_a1_17_6
  replace R_a1_17_7 := gz_hi R_a1_17_7
  replace B_a1_17_7 := gz_hi B_a1_17_7
  have hD : gv_D (gc_E2 ws0 tb 2 (yX2_soundOnce, cX2_soundOnce, 9, (some .int)) kX2_soundOnce) := gq_of oX2_soundOnce
  intro n9
  induction n9 with
  | zero => intro I2 J3 v4_4 v5_4 v6_4 hn; (/-0-/first | omega | (simp only [gz_hd] at *; omega))
  | succ n9 ih30 =>
    intro I2 J3 v4_4 v5_4 v6_4 hn hI2 FI2 FJ3 m_4
    obtain ⟨ha2_4, ha3_4, hv4_4, hv5_4, hv6_4, e0_4⟩ := gz_h6 m_4
    have L88 : ∀ (s0_5 : Int), ((0 ≤ a2 ∧ a2 ≤ 575) ∧ (1 ≤ a3 ∧ a3 ≤ 24) ∧ (0 ≤ v4_4 ∧ v4_4 ≤ 12) ∧ (0 ≤ v5_4 ∧ v5_4 ≤ 24) ∧ (0 ≤ v6_4 ∧ v6_4 ≤ 23) ∧ (0 ≤ s0_5 ∧ s0_5 ≤ 1) ∧ (v6_4 < a3) ∧ (s0_5 = 0 ∨ v6_4 + v4_4 ≤ a3)) → gv_X (gc_E2 ws0 tb 2 (yX2_soundOnce, cX2_soundOnce, 9, (some .int)) kX2_soundOnce) (gv_Q cX2_soundOnce (some .int) sh (fun r hₚ => (∃ (Iₚ : gr_I) (Jₚ : gr_J), hₚ = gc_h sh Iₚ Jₚ A ∧ gc_Inv ro Iₚ ∧ (∀ q j : Nat, (q = (p + 6) ∨ q = (p + 7)) ∨ Iₚ q j = I q j) ∧ (∀ q j : Nat, (False) ∨ Jₚ q j = J q j) ∧ (∃ z : Int, r = some (.inl z) ∧ (-1) ≤ z ∧ z ≤ 24)))) (88, [(0, .inr (.inr (some p))), (1, .inr (.inr (some a1))), (2, .inl a2), (3, .inl a3), (4, .inl v4_4), (5, .inl v5_4), (6, .inl v6_4)], [.inl s0_5], sh, gc_h sh I2 J3 A) := by
      intro s0_5 m_5
      obtain ⟨ha2_5, ha3_5, hv4_4_5, hv5_4_5, hv6_4_5, hs0_5, e0_5, e1_5⟩ := gz_h8 m_5
      have L107 : ∀ (v7_6 : Int) (s0_6 : Int), ((0 ≤ a2 ∧ a2 ≤ 575) ∧ (1 ≤ a3 ∧ a3 ≤ 24) ∧ (0 ≤ v4_4 ∧ v4_4 ≤ 12) ∧ (0 ≤ v5_4 ∧ v5_4 ≤ 24) ∧ (0 ≤ v6_4 ∧ v6_4 ≤ 23) ∧ (0 ≤ v7_6 ∧ v7_6 ≤ 1) ∧ (0 ≤ s0_6 ∧ s0_6 ≤ 12) ∧ (v6_4 < a3) ∧ (v7_6 = 0 ∨ v6_4 + v4_4 ≤ a3) ∧ (v6_4 = v6_4) ∧ (v7_6 = 1 ∨ s0_6 = 1)) → gv_X (gc_E2 ws0 tb 2 (yX2_soundOnce, cX2_soundOnce, 9, (some .int)) kX2_soundOnce) (gv_Q cX2_soundOnce (some .int) sh (fun r hₚ => (∃ (Iₚ : gr_I) (Jₚ : gr_J), hₚ = gc_h sh Iₚ Jₚ A ∧ gc_Inv ro Iₚ ∧ (∀ q j : Nat, (q = (p + 6) ∨ q = (p + 7)) ∨ Iₚ q j = I q j) ∧ (∀ q j : Nat, (False) ∨ Jₚ q j = J q j) ∧ (∃ z : Int, r = some (.inl z) ∧ (-1) ≤ z ∧ z ≤ 24)))) (107, [(0, .inr (.inr (some p))), (1, .inr (.inr (some a1))), (2, .inl a2), (3, .inl a3), (4, .inl v4_4), (5, .inl v5_4), (6, .inl v6_4), (7, .inl v7_6)], [.inl s0_6], sh, gc_h sh I2 J3 A) := by
        intro v7_6 s0_6 m_6
        obtain ⟨ha2_6, ha3_6, hv4_4_6, hv5_4_6, hv6_4_6, hv7_6, hs0_6, e0_6, e1_6, e2_6, e3_6⟩ := gz_h11 m_6
        have L166 : ∀ (I7 : gr_I) (J8 : gr_J) (v8_9 : Int), gc_Inv ro I7 → (∀ q j : Nat, (q = (p + 6) ∨ q = (p + 7)) ∨ I7 q j = I q j) → (∀ q j : Nat, (False) ∨ J8 q j = J q j) → ((0 ≤ a2 ∧ a2 ≤ 575) ∧ (1 ≤ a3 ∧ a3 ≤ 24) ∧ (0 ≤ v4_4 ∧ v4_4 ≤ 12) ∧ (0 ≤ v5_4 ∧ v5_4 ≤ 24) ∧ (0 ≤ v6_4 ∧ v6_4 ≤ 23) ∧ (0 ≤ v7_6 ∧ v7_6 ≤ 1) ∧ (0 ≤ v8_9 ∧ v8_9 ≤ 12) ∧ (v6_4 < a3) ∧ (v7_6 = 0 ∨ v6_4 + v4_4 ≤ a3) ∧ (v6_4 = v6_4) ∧ (v5_4 + v8_9 ≤ 24)) → gv_X (gc_E2 ws0 tb 2 (yX2_soundOnce, cX2_soundOnce, 9, (some .int)) kX2_soundOnce) (gv_Q cX2_soundOnce (some .int) sh (fun r hₚ => (∃ (Iₚ : gr_I) (Jₚ : gr_J), hₚ = gc_h sh Iₚ Jₚ A ∧ gc_Inv ro Iₚ ∧ (∀ q j : Nat, (q = (p + 6) ∨ q = (p + 7)) ∨ Iₚ q j = I q j) ∧ (∀ q j : Nat, (False) ∨ Jₚ q j = J q j) ∧ (∃ z : Int, r = some (.inl z) ∧ (-1) ≤ z ∧ z ≤ 24)))) (166, [(0, .inr (.inr (some p))), (1, .inr (.inr (some a1))), (2, .inl a2), (3, .inl a3), (4, .inl v4_4), (5, .inl v5_4), (6, .inl v6_4), (7, .inl v7_6), (8, .inl v8_9)], [], sh, gc_h sh I7 J8 A) := by
          intro I7 J8 v8_9 hI7 FI7 FJ8 m_9
          clear ha2_6 ha3_6 hv4_4_6 hv5_4_6 hv6_4_6 hv7_6 hs0_6 e0_6 e1_6 e2_6 e3_6 ha2_5 ha3_5 hv4_4_5 hv5_4_5 hv6_4_5 hs0_5 e0_5 e1_5 ha2_4 ha3_4 hv4_4 hv5_4 hv6_4 e0_4
          obtain ⟨ha2_9, ha3_9, hv4_4_9, hv5_4_9, hv6_4_9, hv7_6_9, hv8_9, e0_9, e1_9, e2_9, e3_9⟩ := gz_h11 m_9
          have L191 : ∀ (v5_10 : Int) (s0_10 : Int) (s1_10 : Int), ((0 ≤ a2 ∧ a2 ≤ 575) ∧ (1 ≤ a3 ∧ a3 ≤ 24) ∧ (0 ≤ v4_4 ∧ v4_4 ≤ 12) ∧ (0 ≤ v5_10 ∧ v5_10 ≤ 24) ∧ (0 ≤ s0_10 ∧ s0_10 ≤ 23) ∧ (1 ≤ s1_10 ∧ s1_10 ≤ 12) ∧ (s0_10 = v6_4) ∧ (s0_10 + s1_10 ≤ a3) ∧ (1 ≤ s1_10)) → gv_X (gc_E2 ws0 tb 2 (yX2_soundOnce, cX2_soundOnce, 9, (some .int)) kX2_soundOnce) (gv_Q cX2_soundOnce (some .int) sh (fun r hₚ => (∃ (Iₚ : gr_I) (Jₚ : gr_J), hₚ = gc_h sh Iₚ Jₚ A ∧ gc_Inv ro Iₚ ∧ (∀ q j : Nat, (q = (p + 6) ∨ q = (p + 7)) ∨ Iₚ q j = I q j) ∧ (∀ q j : Nat, (False) ∨ Jₚ q j = J q j) ∧ (∃ z : Int, r = some (.inl z) ∧ (-1) ≤ z ∧ z ≤ 24)))) (191, [(0, .inr (.inr (some p))), (1, .inr (.inr (some a1))), (2, .inl a2), (3, .inl a3), (4, .inl v4_4), (5, .inl v5_10)], [.inl s1_10, .inl s0_10], sh, gc_h sh I7 J8 A) := by
            intro v5_10 s0_10 s1_10 m_10
            obtain ⟨ha2_10, ha3_10, hv4_4_10, hv5_10, hs0_10, hs1_10, e0_10, e1_10, e2_10⟩ := gz_h9 m_10
            refine gv_run 3 true hD (pcₚ := 30) (lvₚ := [(6, .inl (s0_10 + s1_10)), (0, .inr (.inr (some p))), (1, .inr (.inr (some a1))), (2, .inl a2), (3, .inl a3), (4, .inl v4_4), (5, .inl v5_10)]) (stₚ := []) (hₚ := gc_h sh I7 J8 A) (C := (((True ∧ True) ∧ True) ∧ True)) rfl ⟨⟨⟨trivial, trivial⟩, trivial⟩, trivial⟩ ?_
            refine gv_pick [1, 2, 3, 4, 5, 6, 0] rfl ?_
            exact ih30 I7 J8 v4_4 v5_10 (s0_10 + s1_10) (by (/-1-/first | (have o1 := gz_sh e0_10; have o2 := gz_sh e1_10; have o3 := gz_sh e1_9; have o4 := gz_sh ha3_9; have o5 := gz_sh hs1_10; have o6 := gz_sh hv6_4_9; omega) | (simp only [gz_hd] at *; omega))) hI7 FI7 FJ8 (by (/-2-/first | (and_intros; (omega); (omega); (have o1 := gz_sh ha3_9; omega); (omega); (have o1 := gz_sh hv4_4_9; omega); (have o1 := gz_sh hv4_4_9; omega); (have o1 := gz_sh hv5_10; omega); (have o1 := gz_sh hv5_10; omega); (have o1 := gz_sh e0_10; have o2 := gz_sh hs1_10; have o3 := gz_sh hv6_4_9; omega); (have o1 := gz_sh e1_10; omega); (have o1 := gz_sh e1_10; omega)) | (simp only [gz_hd] at *; omega)))
          have L190 : ∀ (v5_11 : Int) (s0_11 : Int), ((0 ≤ a2 ∧ a2 ≤ 575) ∧ (1 ≤ a3 ∧ a3 ≤ 24) ∧ (0 ≤ v4_4 ∧ v4_4 ≤ 12) ∧ (0 ≤ v5_11 ∧ v5_11 ≤ 24) ∧ (0 ≤ s0_11 ∧ s0_11 ≤ 23) ∧ (s0_11 = v6_4) ∧ (s0_11 < a3)) → gv_X (gc_E2 ws0 tb 2 (yX2_soundOnce, cX2_soundOnce, 9, (some .int)) kX2_soundOnce) (gv_Q cX2_soundOnce (some .int) sh (fun r hₚ => (∃ (Iₚ : gr_I) (Jₚ : gr_J), hₚ = gc_h sh Iₚ Jₚ A ∧ gc_Inv ro Iₚ ∧ (∀ q j : Nat, (q = (p + 6) ∨ q = (p + 7)) ∨ Iₚ q j = I q j) ∧ (∀ q j : Nat, (False) ∨ Jₚ q j = J q j) ∧ (∃ z : Int, r = some (.inl z) ∧ (-1) ≤ z ∧ z ≤ 24)))) (190, [(0, .inr (.inr (some p))), (1, .inr (.inr (some a1))), (2, .inl a2), (3, .inl a3), (4, .inl v4_4), (5, .inl v5_11)], [.inl s0_11], sh, gc_h sh I7 J8 A) := by
            intro v5_11 s0_11 m_11
            obtain ⟨ha2_11, ha3_11, hv4_4_11, hv5_11, hs0_11, e0_11, e1_11⟩ := gz_h7 m_11
            refine gv_run 1 true hD (pcₚ := 191) (lvₚ := [(0, .inr (.inr (some p))), (1, .inr (.inr (some a1))), (2, .inl a2), (3, .inl a3), (4, .inl v4_4), (5, .inl v5_11)]) (stₚ := [.inl 1, .inl s0_11]) (hₚ := gc_h sh I7 J8 A) (C := (True ∧ True)) rfl ⟨trivial, trivial⟩ ?_
            exact L191 v5_11 s0_11 1 (by (/-3-/first | (and_intros; (omega); (omega); (have o1 := gz_sh ha3_9; omega); (omega); (have o1 := gz_sh hv4_4_9; omega); (have o1 := gz_sh hv4_4_9; omega); (have o1 := gz_sh hv5_11; omega); (have o1 := gz_sh hv5_11; omega); (have o1 := gz_sh e0_11; have o2 := gz_sh hv6_4_9; omega); (have o1 := gz_sh e0_11; have o2 := gz_sh hv6_4_9; omega); (omega); (omega); (have o1 := gz_sh e0_11; omega); (have o1 := gz_sh e0_11; have o2 := gz_sh e0_9; omega); (omega)) | (simp only [gz_hd] at *; omega)))
          refine gv_run 6 true hD (pcₚ := 177) (lvₚ := [(5, .inl (v5_4 + v8_9)), (0, .inr (.inr (some p))), (1, .inr (.inr (some a1))), (2, .inl a2), (3, .inl a3), (4, .inl v4_4), (6, .inl v6_4), (7, .inl v7_6), (8, .inl v8_9)]) (stₚ := [.inl v7_6, .inl v6_4]) (hₚ := gc_h sh I7 J8 A) (C := ((((((True ∧ True) ∧ True) ∧ True) ∧ True) ∧ True) ∧ True)) rfl ⟨⟨⟨⟨⟨⟨trivial, trivial⟩, trivial⟩, trivial⟩, trivial⟩, trivial⟩, trivial⟩ ?_
          refine gv_if_eq (t := 190) hD rfl rfl ⟨by (/-4-/first | (have o1 := gz_sh hv7_6_9; omega) | (simp only [gz_hd] at *; omega)), by (/-5-/first | (have o1 := gz_sh hv7_6_9; omega) | (simp only [gz_hd] at *; omega))⟩ (fun c12 => ?_) (fun c12 => ?_)
          · show gv_X _ _ (190, [(5, .inl (v5_4 + v8_9)), (0, .inr (.inr (some p))), (1, .inr (.inr (some a1))), (2, .inl a2), (3, .inl a3), (4, .inl v4_4), (6, .inl v6_4), (7, .inl v7_6), (8, .inl v8_9)], [.inl v6_4], sh, gc_h sh I7 J8 A)
            refine gv_pick [1, 2, 3, 4, 5, 0] rfl ?_
            exact L190 (v5_4 + v8_9) v6_4 (by (/-6-/first | (and_intros; (omega); (omega); (have o1 := gz_sh ha3_9; omega); (omega); (have o1 := gz_sh hv4_4_9; omega); (have o1 := gz_sh hv4_4_9; omega); (have o1 := gz_sh hv5_4_9; have o2 := gz_sh hv8_9; omega); (have o1 := gz_sh e3_9; omega); (have o1 := gz_sh hv6_4_9; omega); (have o1 := gz_sh hv6_4_9; omega); (omega); (have o1 := gz_sh e0_9; omega)) | (simp only [gz_hd] at *; omega)))
          · show gv_X _ _ (180, [(5, .inl (v5_4 + v8_9)), (0, .inr (.inr (some p))), (1, .inr (.inr (some a1))), (2, .inl a2), (3, .inl a3), (4, .inl v4_4), (6, .inl v6_4), (7, .inl v7_6), (8, .inl v8_9)], [.inl v6_4], sh, gc_h sh I7 J8 A)
            refine gv_run 1 true hD (pcₚ := 182) (lvₚ := [(5, .inl (v5_4 + v8_9)), (0, .inr (.inr (some p))), (1, .inr (.inr (some a1))), (2, .inl a2), (3, .inl a3), (4, .inl v4_4), (6, .inl v6_4), (7, .inl v7_6), (8, .inl v8_9)]) (stₚ := [.inl v4_4, .inl v6_4]) (hₚ := gc_h sh I7 J8 A) (C := (True ∧ True)) rfl ⟨trivial, trivial⟩ ?_
            refine gv_if_le (t := 190) hD rfl rfl ⟨by (/-7-/first | (have o1 := gz_sh hv4_4_9; omega) | (simp only [gz_hd] at *; omega)), by (/-8-/first | (have o1 := gz_sh hv4_4_9; omega) | (simp only [gz_hd] at *; omega))⟩ (fun c13 => ?_) (fun c13 => ?_)
            · show gv_X _ _ (190, [(5, .inl (v5_4 + v8_9)), (0, .inr (.inr (some p))), (1, .inr (.inr (some a1))), (2, .inl a2), (3, .inl a3), (4, .inl v4_4), (6, .inl v6_4), (7, .inl v7_6), (8, .inl v8_9)], [.inl v6_4], sh, gc_h sh I7 J8 A)
              refine gv_pick [1, 2, 3, 4, 5, 0] rfl ?_
              exact L190 (v5_4 + v8_9) v6_4 (by (/-9-/first | (and_intros; (omega); (omega); (have o1 := gz_sh ha3_9; omega); (omega); (have o1 := gz_sh hv4_4_9; omega); (omega); (have o1 := gz_sh hv5_4_9; have o2 := gz_sh hv8_9; omega); (have o1 := gz_sh e3_9; omega); (have o1 := gz_sh hv6_4_9; omega); (have o1 := gz_sh hv6_4_9; omega); (omega); (have o1 := gz_sh e0_9; omega)) | (simp only [gz_hd] at *; omega)))
            · show gv_X _ _ (185, [(5, .inl (v5_4 + v8_9)), (0, .inr (.inr (some p))), (1, .inr (.inr (some a1))), (2, .inl a2), (3, .inl a3), (4, .inl v4_4), (6, .inl v6_4), (7, .inl v7_6), (8, .inl v8_9)], [.inl v6_4], sh, gc_h sh I7 J8 A)
              refine gv_run 2 true hD (pcₚ := 191) (lvₚ := [(5, .inl (v5_4 + v8_9)), (0, .inr (.inr (some p))), (1, .inr (.inr (some a1))), (2, .inl a2), (3, .inl a3), (4, .inl v4_4), (6, .inl v6_4), (7, .inl v7_6), (8, .inl v8_9)]) (stₚ := [.inl v4_4, .inl v6_4]) (hₚ := gc_h sh I7 J8 A) (C := ((True ∧ True) ∧ True)) rfl ⟨⟨trivial, trivial⟩, trivial⟩ ?_
              refine gv_pick [1, 2, 3, 4, 5, 0] rfl ?_
              exact L191 (v5_4 + v8_9) v6_4 v4_4 (by (/-10-/first | (and_intros; (omega); (omega); (have o1 := gz_sh ha3_9; omega); (omega); (omega); (have o1 := gz_sh hv4_4_9; omega); (have o1 := gz_sh hv5_4_9; have o2 := gz_sh hv8_9; omega); (have o1 := gz_sh e3_9; omega); (have o1 := gz_sh hv6_4_9; omega); (have o1 := gz_sh hv6_4_9; omega); (omega); (have o1 := gz_sh hv4_4_9; omega); (omega); (have o1 := gz_sh e1_9; have o2 := gz_sh hv7_6_9; omega); (omega)) | (simp only [gz_hd] at *; omega)))
        refine gv_run 5 true hD (pcₚ := 116) (lvₚ := [(8, .inl s0_6), (0, .inr (.inr (some p))), (1, .inr (.inr (some a1))), (2, .inl a2), (3, .inl a3), (4, .inl v4_4), (5, .inl v5_4), (6, .inl v6_4), (7, .inl v7_6)]) (stₚ := [.inl 24, .inl (v5_4 + s0_6)]) (hₚ := gc_h sh I2 J3 A) (C := (((((True ∧ True) ∧ True) ∧ True) ∧ True) ∧ True)) rfl ⟨⟨⟨⟨⟨trivial, trivial⟩, trivial⟩, trivial⟩, trivial⟩, trivial⟩ ?_
        refine gv_icmp_le (t := 121) hD rfl rfl ⟨⟨by (/-11-/first | (have o1 := gz_sh hs0_6; have o2 := gz_sh hv5_4; omega) | (simp only [gz_hd] at *; omega)), by (/-12-/first | (have o1 := gz_sh hs0_6; have o2 := gz_sh hv5_4; omega) | (simp only [gz_hd] at *; omega))⟩, ⟨by (/-13-/first | omega | (simp only [gz_hd] at *; omega)), by (/-14-/first | omega | (simp only [gz_hd] at *; omega))⟩⟩ (fun c14 => ?_) (fun c14 => ?_)
        · show gv_X _ _ (121, [(8, .inl s0_6), (0, .inr (.inr (some p))), (1, .inr (.inr (some a1))), (2, .inl a2), (3, .inl a3), (4, .inl v4_4), (5, .inl v5_4), (6, .inl v6_4), (7, .inl v7_6)], [], sh, gc_h sh I2 J3 A)
          refine gv_run 1 true hD (pcₚ := 123) (lvₚ := [(8, .inl s0_6), (0, .inr (.inr (some p))), (1, .inr (.inr (some a1))), (2, .inl a2), (3, .inl a3), (4, .inl v4_4), (5, .inl v5_4), (6, .inl v6_4), (7, .inl v7_6)]) (stₚ := [.inl v7_6]) (hₚ := gc_h sh I2 J3 A) (C := (True ∧ True)) rfl ⟨trivial, trivial⟩ ?_
          refine gv_if_eq (t := 152) hD rfl rfl ⟨by (/-15-/first | (have o1 := gz_sh hv7_6; omega) | (simp only [gz_hd] at *; omega)), by (/-16-/first | (have o1 := gz_sh hv7_6; omega) | (simp only [gz_hd] at *; omega))⟩ (fun c15 => ?_) (fun c15 => ?_)
          · show gv_X _ _ (152, [(8, .inl s0_6), (0, .inr (.inr (some p))), (1, .inr (.inr (some a1))), (2, .inl a2), (3, .inl a3), (4, .inl v4_4), (5, .inl v5_4), (6, .inl v6_4), (7, .inl v7_6)], [], sh, gc_h sh I2 J3 A)
            refine gv_run 1 true hD (pcₚ := 153) (lvₚ := [(8, .inl s0_6), (0, .inr (.inr (some p))), (1, .inr (.inr (some a1))), (2, .inl a2), (3, .inl a3), (4, .inl v4_4), (5, .inl v5_4), (6, .inl v6_4), (7, .inl v7_6)]) (stₚ := [.inr (.inr (some p))]) (hₚ := gc_h sh I2 J3 A) (C := (True ∧ True)) rfl ⟨trivial, trivial⟩ ?_
            have f17 := gz_hi ((show 0 ≤ I2 p 7 ∧ I2 p 7 ≤ 1 from gc_in2 hI2 (gz_sh R_p) rfl rfl rfl))
            obtain ⟨f16_, hq_f16_, S_f16, R_f16, B_f16, D_f16⟩ := gc_sw (p := p) (d := 6) (s := 1) (z := I2 p 7) (show 0 ≤ I2 p 7 ∧ I2 p 7 ≤ 1 from gc_in2 hI2 (gz_sh R_p) rfl rfl rfl) S_p_6 (gz_sh R_p_6) (gz_sh B_p_6) S_p_7 (gz_sh R_p_7) (gz_sh B_p_7)
            refine gv_get hD rfl rfl S_p ⟨by decide, (gz_sh B_p)⟩ (gc_hS (n := 6) S_p rfl hq_f16_) ?_
            show gv_X _ _ (156, [(8, .inl s0_6), (0, .inr (.inr (some p))), (1, .inr (.inr (some a1))), (2, .inl a2), (3, .inl a3), (4, .inl v4_4), (5, .inl v5_4), (6, .inl v6_4), (7, .inl v7_6)], [.inr (.inr (some f16_))], sh, gc_h sh I2 J3 A)
            refine gv_run 2 true hD (pcₚ := 159) (lvₚ := [(8, .inl s0_6), (0, .inr (.inr (some p))), (1, .inr (.inr (some a1))), (2, .inl a2), (3, .inl a3), (4, .inl v4_4), (5, .inl v5_4), (6, .inl v6_4), (7, .inl v7_6)]) (stₚ := [.inr (.inr (some p)), .inl v5_4, .inr (.inr (some f16_))]) (hₚ := gc_h sh I2 J3 A) (C := ((True ∧ True) ∧ True)) rfl ⟨⟨trivial, trivial⟩, trivial⟩ ?_
            have f19 := gz_hi ((show 0 ≤ I2 p 6 ∧ I2 p 6 ≤ 1 from gc_in2 hI2 (gz_sh R_p) rfl rfl rfl))
            obtain ⟨f18_, hq_f18_, S_f18, R_f18, B_f18, D_f18⟩ := gc_sw (p := p) (d := 6) (s := 1) (z := I2 p 6) (show 0 ≤ I2 p 6 ∧ I2 p 6 ≤ 1 from gc_in2 hI2 (gz_sh R_p) rfl rfl rfl) S_p_6 (gz_sh R_p_6) (gz_sh B_p_6) S_p_7 (gz_sh R_p_7) (gz_sh B_p_7)
            refine gv_get hD rfl rfl S_p ⟨by decide, (gz_sh B_p)⟩ (gc_hS (n := 6) S_p rfl hq_f18_) ?_
            show gv_X _ _ (162, [(8, .inl s0_6), (0, .inr (.inr (some p))), (1, .inr (.inr (some a1))), (2, .inl a2), (3, .inl a3), (4, .inl v4_4), (5, .inl v5_4), (6, .inl v6_4), (7, .inl v7_6)], [.inr (.inr (some f18_)), .inl v5_4, .inr (.inr (some f16_))], sh, gc_h sh I2 J3 A)
            refine gv_run 1 true hD (pcₚ := 164) (lvₚ := [(8, .inl s0_6), (0, .inr (.inr (some p))), (1, .inr (.inr (some a1))), (2, .inl a2), (3, .inl a3), (4, .inl v4_4), (5, .inl v5_4), (6, .inl v6_4), (7, .inl v7_6)]) (stₚ := [.inl v6_4, .inr (.inr (some f18_)), .inl v5_4, .inr (.inr (some f16_))]) (hₚ := gc_h sh I2 J3 A) (C := (True ∧ True)) rfl ⟨trivial, trivial⟩ ?_
            have f20 := gz_hi ((show (-128) ≤ I2 f18_ (Int.toNat v6_4) ∧ I2 f18_ (Int.toNat v6_4) ≤ 127 from gc_in2 hI2 R_f18 rfl rfl rfl))
            refine gv_bald hD rfl S_f18 (Or.inl rfl) ⟨by decide, B_f18⟩ ⟨by (/-17-/first | (have o1 := gz_sh hv6_4; omega) | (simp only [gz_hd] at *; omega)), by (/-18-/first | (have o1 := gz_sh hv6_4_5; omega) | (simp only [gz_hd] at *; omega))⟩ (gc_iI S_f18 rfl) ?_
            show gv_X _ _ (165, [(8, .inl s0_6), (0, .inr (.inr (some p))), (1, .inr (.inr (some a1))), (2, .inl a2), (3, .inl a3), (4, .inl v4_4), (5, .inl v5_4), (6, .inl v6_4), (7, .inl v7_6)], [.inl (I2 f18_ (Int.toNat v6_4)), .inl v5_4, .inr (.inr (some f16_))], sh, gc_h sh I2 J3 A)
            have f21 := gz_hi (gc_nar (x := ((I2 f18_ (Int.toNat v6_4)))) ⟨by (/-19-/first | (have o1 := gz_sh f20; omega) | (simp only [gz_hd] at *; omega)), by (/-20-/first | (have o1 := gz_sh f20; omega) | (simp only [gz_hd] at *; omega))⟩)
            refine gv_bast hD rfl S_f16 ⟨by decide, B_f16⟩ ⟨by (/-21-/first | (have o1 := gz_sh hv5_4; omega) | (simp only [gz_hd] at *; omega)), by (/-22-/first | (have o1 := gz_sh e3_6; omega) | (simp only [gz_hd] at *; omega))⟩ ?_
            refine gc_st hI2 S_f16 rfl R_f16 (lo := (-128)) (hi := 127) rfl rfl (by (/-23-/first | (have o1 := gz_sh f20; have o2 := gz_sh f21; omega) | (simp only [gz_hd] at *; omega))) (by (/-24-/first | (have o1 := gz_sh f20; have o2 := gz_sh f21; omega) | (simp only [gz_hd] at *; omega))) (fun I22 hI22 q23 p23 => ?_)
            have FI22 := gc_frs (W := fun q j => q = (p + 6) ∨ q = (p + 7)) FI2 (show f16_ = (p + 6) ∨ f16_ = (p + 7) from by (/-25-/first | omega | (simp only [gz_hd] at *; omega))) p23
            show gv_X _ _ (166, [(8, .inl s0_6), (0, .inr (.inr (some p))), (1, .inr (.inr (some a1))), (2, .inl a2), (3, .inl a3), (4, .inl v4_4), (5, .inl v5_4), (6, .inl v6_4), (7, .inl v7_6)], [], sh, gc_h sh I22 J3 A)
            refine gv_pick [1, 2, 3, 4, 5, 6, 7, 8, 0] rfl ?_
            exact L166 I22 J3 s0_6 hI22 FI22 FJ3 (by (/-26-/first | (and_intros; (omega); (omega); (have o1 := gz_sh ha3_5; omega); (omega); (have o1 := gz_sh hv4_4; omega); (have o1 := gz_sh hv4_4; omega); (have o1 := gz_sh hv5_4; omega); (have o1 := gz_sh hv5_4; omega); (have o1 := gz_sh hv6_4; omega); (have o1 := gz_sh hv6_4_5; omega); (omega); (omega); (have o1 := gz_sh hs0_6; omega); (have o1 := gz_sh hs0_6; omega); (have o1 := gz_sh e0_5; omega); (omega); (omega); (omega)) | (simp only [gz_hd] at *; omega)))
          · show gv_X _ _ (126, [(8, .inl s0_6), (0, .inr (.inr (some p))), (1, .inr (.inr (some a1))), (2, .inl a2), (3, .inl a3), (4, .inl v4_4), (5, .inl v5_4), (6, .inl v6_4), (7, .inl v7_6)], [], sh, gc_h sh I2 J3 A)
            refine gv_run 1 true hD (pcₚ := 127) (lvₚ := [(8, .inl s0_6), (0, .inr (.inr (some p))), (1, .inr (.inr (some a1))), (2, .inl a2), (3, .inl a3), (4, .inl v4_4), (5, .inl v5_4), (6, .inl v6_4), (7, .inl v7_6)]) (stₚ := [.inr (.inr (some p))]) (hₚ := gc_h sh I2 J3 A) (C := (True ∧ True)) rfl ⟨trivial, trivial⟩ ?_
            refine gv_get hD rfl rfl S_p ⟨by decide, (gz_sh B_p)⟩ (gc_hA S_p rfl A_p_0) ?_
            show gv_X _ _ (130, [(8, .inl s0_6), (0, .inr (.inr (some p))), (1, .inr (.inr (some a1))), (2, .inl a2), (3, .inl a3), (4, .inl v4_4), (5, .inl v5_4), (6, .inl v6_4), (7, .inl v7_6)], [.inr (.inr (some 20))], sh, gc_h sh I2 J3 A)
            refine gv_run 1 true hD (pcₚ := 131) (lvₚ := [(8, .inl s0_6), (0, .inr (.inr (some p))), (1, .inr (.inr (some a1))), (2, .inl a2), (3, .inl a3), (4, .inl v4_4), (5, .inl v5_4), (6, .inl v6_4), (7, .inl v7_6)]) (stₚ := [.inr (.inr (some a1)), .inr (.inr (some 20))]) (hₚ := gc_h sh I2 J3 A) (C := (True ∧ True)) rfl ⟨trivial, trivial⟩ ?_
            refine gv_get hD rfl rfl S_a1 ⟨by decide, (gz_sh B_a1)⟩ (gc_hA S_a1 rfl A_a1_7) ?_
            show gv_X _ _ (134, [(8, .inl s0_6), (0, .inr (.inr (some p))), (1, .inr (.inr (some a1))), (2, .inl a2), (3, .inl a3), (4, .inl v4_4), (5, .inl v5_4), (6, .inl v6_4), (7, .inl v7_6)], [.inr (.inr (some (a1 + 10))), .inr (.inr (some 20))], sh, gc_h sh I2 J3 A)
            refine gv_run 3 true hD (pcₚ := 137) (lvₚ := [(8, .inl s0_6), (0, .inr (.inr (some p))), (1, .inr (.inr (some a1))), (2, .inl a2), (3, .inl a3), (4, .inl v4_4), (5, .inl v5_4), (6, .inl v6_4), (7, .inl v7_6)]) (stₚ := [.inl (a2 + 3), .inr (.inr (some (a1 + 10))), .inr (.inr (some 20))]) (hₚ := gc_h sh I2 J3 A) (C := (((True ∧ True) ∧ True) ∧ True)) rfl ⟨⟨⟨trivial, trivial⟩, trivial⟩, trivial⟩ ?_
            have f24 := gz_hi ((show 0 ≤ I2 (a1 + 10) (Int.toNat (a2 + 3)) ∧ I2 (a1 + 10) (Int.toNat (a2 + 3)) ≤ 2000 from gc_inm (c := 3) hI2 (gz_sh R_a1_10) rfl rfl (by (/-27-/first | omega | (simp only [gz_hd] at *; omega))) rfl rfl))
            refine gv_iald hD rfl S_a1_10 rfl ⟨by decide, (gz_sh B_a1_10)⟩ ⟨by (/-28-/first | omega | (simp only [gz_hd] at *; omega)), by (/-29-/first | omega | (simp only [gz_hd] at *; omega))⟩ (gc_iI S_a1_10 rfl) ?_
            show gv_X _ _ (138, [(8, .inl s0_6), (0, .inr (.inr (some p))), (1, .inr (.inr (some a1))), (2, .inl a2), (3, .inl a3), (4, .inl v4_4), (5, .inl v5_4), (6, .inl v6_4), (7, .inl v7_6)], [.inl (I2 (a1 + 10) (Int.toNat (a2 + 3))), .inr (.inr (some 20))], sh, gc_h sh I2 J3 A)
            refine gv_run 1 true hD (pcₚ := 139) (lvₚ := [(8, .inl s0_6), (0, .inr (.inr (some p))), (1, .inr (.inr (some a1))), (2, .inl a2), (3, .inl a3), (4, .inl v4_4), (5, .inl v5_4), (6, .inl v6_4), (7, .inl v7_6)]) (stₚ := [.inr (.inr (some p)), .inl (I2 (a1 + 10) (Int.toNat (a2 + 3))), .inr (.inr (some 20))]) (hₚ := gc_h sh I2 J3 A) (C := (True ∧ True)) rfl ⟨trivial, trivial⟩ ?_
            have f26 := gz_hi ((show 0 ≤ I2 p 7 ∧ I2 p 7 ≤ 1 from gc_in2 hI2 (gz_sh R_p) rfl rfl rfl))
            obtain ⟨f25_, hq_f25_, S_f25, R_f25, B_f25, D_f25⟩ := gc_sw (p := p) (d := 6) (s := 1) (z := I2 p 7) (show 0 ≤ I2 p 7 ∧ I2 p 7 ≤ 1 from gc_in2 hI2 (gz_sh R_p) rfl rfl rfl) S_p_6 (gz_sh R_p_6) (gz_sh B_p_6) S_p_7 (gz_sh R_p_7) (gz_sh B_p_7)
            refine gv_get hD rfl rfl S_p ⟨by decide, (gz_sh B_p)⟩ (gc_hS (n := 6) S_p rfl hq_f25_) ?_
            show gv_X _ _ (142, [(8, .inl s0_6), (0, .inr (.inr (some p))), (1, .inr (.inr (some a1))), (2, .inl a2), (3, .inl a3), (4, .inl v4_4), (5, .inl v5_4), (6, .inl v6_4), (7, .inl v7_6)], [.inr (.inr (some f25_)), .inl (I2 (a1 + 10) (Int.toNat (a2 + 3))), .inr (.inr (some 20))], sh, gc_h sh I2 J3 A)
            refine gv_run 2 true hD (pcₚ := 146) (lvₚ := [(8, .inl s0_6), (0, .inr (.inr (some p))), (1, .inr (.inr (some a1))), (2, .inl a2), (3, .inl a3), (4, .inl v4_4), (5, .inl v5_4), (6, .inl v6_4), (7, .inl v7_6)]) (stₚ := [.inl s0_6, .inl v5_4, .inr (.inr (some f25_)), .inl (I2 (a1 + 10) (Int.toNat (a2 + 3))), .inr (.inr (some 20))]) (hₚ := gc_h sh I2 J3 A) (C := ((True ∧ True) ∧ True)) rfl ⟨⟨trivial, trivial⟩, trivial⟩ ?_
            refine gv_copy hD rfl (gc_lC2_71 hws) (Nat.le_of_ble_eq_true rfl) ⟨(gz_sh B_20), B_f25⟩ S_20 S_f25 (by decide) ⟨by decide, by decide⟩ ⟨by (/-30-/first | (have o1 := gz_sh f24; omega) | (simp only [gz_hd] at *; omega)), by (/-31-/first | (have o1 := gz_sh hv5_4; omega) | (simp only [gz_hd] at *; omega)), by (/-32-/first | (have o1 := gz_sh hs0_6; omega) | (simp only [gz_hd] at *; omega))⟩ (by (/-33-/first | (have o1 := gz_sh f24; have o2 := gz_sh hs0_6; omega) | (simp only [gz_hd] at *; omega))) (by (/-34-/first | omega | (simp only [gz_hd] at *; omega))) (fun _ k _ => by rw [gc_iI S_20 rfl]; have h9 := (gc_b_36 hI2 (gz_sh R_20) (Int.toNat ((I2 (a1 + 10) (Int.toNat (a2 + 3)))) + k)); exact ⟨by (/-35-/first | omega | (simp only [gz_hd] at *; omega)), by (/-36-/first | omega | (simp only [gz_hd] at *; omega))⟩) ?_
            refine gc_cp hI2 S_20 S_f25 (by decide) (fun j hj => by have h9 := (gc_b_36 hI2 (gz_sh R_20) (Int.toNat ((I2 (a1 + 10) (Int.toNat (a2 + 3)))) + j)); rw [R_f25]; exact ⟨by show (-128) ≤ _; (/-37-/first | omega | (simp only [gz_hd] at *; omega)), by show _ ≤ 127; (/-38-/first | omega | (simp only [gz_hd] at *; omega))⟩) (fun I28 hI28 p27 q27 => ?_)
            have FI28 := gc_frp (W := fun q j => q = (p + 6) ∨ q = (p + 7)) (V := fun q j => q = f25_ ∧ Int.toNat v5_4 ≤ j ∧ j < Int.toNat v5_4 + Int.toNat s0_6) FI2 (fun q j h => (show q = (p + 6) ∨ q = (p + 7) from by have := h.1; (/-39-/first | omega | (simp only [gz_hd] at *; omega)))) p27
            show gv_X _ _ (149, [(8, .inl s0_6), (0, .inr (.inr (some p))), (1, .inr (.inr (some a1))), (2, .inl a2), (3, .inl a3), (4, .inl v4_4), (5, .inl v5_4), (6, .inl v6_4), (7, .inl v7_6)], [], sh, gc_h sh I28 J3 A)
            refine gv_run 1 true hD (pcₚ := 166) (lvₚ := [(8, .inl s0_6), (0, .inr (.inr (some p))), (1, .inr (.inr (some a1))), (2, .inl a2), (3, .inl a3), (4, .inl v4_4), (5, .inl v5_4), (6, .inl v6_4), (7, .inl v7_6)]) (stₚ := []) (hₚ := gc_h sh I28 J3 A) (C := (True ∧ True)) rfl ⟨trivial, trivial⟩ ?_
            refine gv_pick [1, 2, 3, 4, 5, 6, 7, 8, 0] rfl ?_
            exact L166 I28 J3 s0_6 hI28 FI28 FJ3 (by (/-40-/first | (and_intros; (omega); (omega); (have o1 := gz_sh ha3_5; omega); (omega); (have o1 := gz_sh hv4_4; omega); (have o1 := gz_sh hv4_4; omega); (have o1 := gz_sh hv5_4; omega); (have o1 := gz_sh hv5_4; omega); (have o1 := gz_sh hv6_4; omega); (have o1 := gz_sh hv6_4_5; omega); (have o1 := gz_sh hv7_6; omega); (have o1 := gz_sh hv7_6; omega); (have o1 := gz_sh hs0_6; omega); (have o1 := gz_sh hs0_6; omega); (have o1 := gz_sh e0_5; omega); (have o1 := gz_sh e1_6; have o2 := gz_sh hv7_6; omega); (omega); (omega)) | (simp only [gz_hd] at *; omega)))
        · show gv_X _ _ (119, [(8, .inl s0_6), (0, .inr (.inr (some p))), (1, .inr (.inr (some a1))), (2, .inl a2), (3, .inl a3), (4, .inl v4_4), (5, .inl v5_4), (6, .inl v6_4), (7, .inl v7_6)], [], sh, gc_h sh I2 J3 A)
          refine gv_run 1 true hD (pcₚ := 120) (lvₚ := [(8, .inl s0_6), (0, .inr (.inr (some p))), (1, .inr (.inr (some a1))), (2, .inl a2), (3, .inl a3), (4, .inl v4_4), (5, .inl v5_4), (6, .inl v6_4), (7, .inl v7_6)]) (stₚ := [.inl (-1)]) (hₚ := gc_h sh I2 J3 A) (C := (True ∧ True)) rfl ⟨trivial, trivial⟩ ?_
          exact gv_iret hD rfl ⟨I2, J3, rfl, hI2, FI2, FJ3, ⟨_, rfl, by (/-41-/first | (and_intros <;> omega) | (simp only [gz_hd] at *; omega))⟩⟩
      refine gv_run 2 true hD (pcₚ := 92) (lvₚ := [(7, .inl s0_5), (0, .inr (.inr (some p))), (1, .inr (.inr (some a1))), (2, .inl a2), (3, .inl a3), (4, .inl v4_4), (5, .inl v5_4), (6, .inl v6_4)]) (stₚ := [.inl s0_5]) (hₚ := gc_h sh I2 J3 A) (C := ((True ∧ True) ∧ True)) rfl ⟨⟨trivial, trivial⟩, trivial⟩ ?_
      refine gv_if_eq (t := 106) hD rfl rfl ⟨by (/-42-/first | (have o1 := gz_sh hs0_5; omega) | (simp only [gz_hd] at *; omega)), by (/-43-/first | (have o1 := gz_sh hs0_5; omega) | (simp only [gz_hd] at *; omega))⟩ (fun c30 => ?_) (fun c30 => ?_)
      · show gv_X _ _ (106, [(7, .inl s0_5), (0, .inr (.inr (some p))), (1, .inr (.inr (some a1))), (2, .inl a2), (3, .inl a3), (4, .inl v4_4), (5, .inl v5_4), (6, .inl v6_4)], [], sh, gc_h sh I2 J3 A)
        refine gv_run 1 true hD (pcₚ := 107) (lvₚ := [(7, .inl s0_5), (0, .inr (.inr (some p))), (1, .inr (.inr (some a1))), (2, .inl a2), (3, .inl a3), (4, .inl v4_4), (5, .inl v5_4), (6, .inl v6_4)]) (stₚ := [.inl 1]) (hₚ := gc_h sh I2 J3 A) (C := (True ∧ True)) rfl ⟨trivial, trivial⟩ ?_
        refine gv_pick [1, 2, 3, 4, 5, 6, 7, 0] rfl ?_
        exact L107 s0_5 1 (by (/-44-/first | (and_intros; (omega); (omega); (have o1 := gz_sh ha3_5; omega); (omega); (have o1 := gz_sh hv4_4; omega); (have o1 := gz_sh hv4_4; omega); (have o1 := gz_sh hv5_4; omega); (have o1 := gz_sh hv5_4; omega); (have o1 := gz_sh hv6_4; omega); (have o1 := gz_sh hv6_4_5; omega); (omega); (omega); (omega); (omega); (have o1 := gz_sh e0_5; omega); (omega); (omega); (omega)) | (simp only [gz_hd] at *; omega)))
      · show gv_X _ _ (95, [(7, .inl s0_5), (0, .inr (.inr (some p))), (1, .inr (.inr (some a1))), (2, .inl a2), (3, .inl a3), (4, .inl v4_4), (5, .inl v5_4), (6, .inl v6_4)], [], sh, gc_h sh I2 J3 A)
        refine gv_run 1 true hD (pcₚ := 96) (lvₚ := [(7, .inl s0_5), (0, .inr (.inr (some p))), (1, .inr (.inr (some a1))), (2, .inl a2), (3, .inl a3), (4, .inl v4_4), (5, .inl v5_4), (6, .inl v6_4)]) (stₚ := [.inr (.inr (some a1))]) (hₚ := gc_h sh I2 J3 A) (C := (True ∧ True)) rfl ⟨trivial, trivial⟩ ?_
        refine gv_get hD rfl rfl S_a1 ⟨by decide, (gz_sh B_a1)⟩ (gc_hA S_a1 rfl A_a1_7) ?_
        show gv_X _ _ (99, [(7, .inl s0_5), (0, .inr (.inr (some p))), (1, .inr (.inr (some a1))), (2, .inl a2), (3, .inl a3), (4, .inl v4_4), (5, .inl v5_4), (6, .inl v6_4)], [.inr (.inr (some (a1 + 10)))], sh, gc_h sh I2 J3 A)
        refine gv_run 3 true hD (pcₚ := 102) (lvₚ := [(7, .inl s0_5), (0, .inr (.inr (some p))), (1, .inr (.inr (some a1))), (2, .inl a2), (3, .inl a3), (4, .inl v4_4), (5, .inl v5_4), (6, .inl v6_4)]) (stₚ := [.inl (a2 + 4), .inr (.inr (some (a1 + 10)))]) (hₚ := gc_h sh I2 J3 A) (C := (((True ∧ True) ∧ True) ∧ True)) rfl ⟨⟨⟨trivial, trivial⟩, trivial⟩, trivial⟩ ?_
        have f31 := gz_hi ((show 0 ≤ I2 (a1 + 10) (Int.toNat (a2 + 4)) ∧ I2 (a1 + 10) (Int.toNat (a2 + 4)) ≤ 12 from gc_inm (c := 4) hI2 (gz_sh R_a1_10) rfl rfl (by (/-45-/first | omega | (simp only [gz_hd] at *; omega))) rfl rfl))
        refine gv_iald hD rfl S_a1_10 rfl ⟨by decide, (gz_sh B_a1_10)⟩ ⟨by (/-46-/first | omega | (simp only [gz_hd] at *; omega)), by (/-47-/first | omega | (simp only [gz_hd] at *; omega))⟩ (gc_iI S_a1_10 rfl) ?_
        show gv_X _ _ (103, [(7, .inl s0_5), (0, .inr (.inr (some p))), (1, .inr (.inr (some a1))), (2, .inl a2), (3, .inl a3), (4, .inl v4_4), (5, .inl v5_4), (6, .inl v6_4)], [.inl (I2 (a1 + 10) (Int.toNat (a2 + 4)))], sh, gc_h sh I2 J3 A)
        refine gv_run 1 true hD (pcₚ := 107) (lvₚ := [(7, .inl s0_5), (0, .inr (.inr (some p))), (1, .inr (.inr (some a1))), (2, .inl a2), (3, .inl a3), (4, .inl v4_4), (5, .inl v5_4), (6, .inl v6_4)]) (stₚ := [.inl (I2 (a1 + 10) (Int.toNat (a2 + 4)))]) (hₚ := gc_h sh I2 J3 A) (C := (True ∧ True)) rfl ⟨trivial, trivial⟩ ?_
        refine gv_pick [1, 2, 3, 4, 5, 6, 7, 0] rfl ?_
        exact L107 s0_5 ((I2 (a1 + 10) (Int.toNat (a2 + 4)))) (by (/-48-/first | (and_intros; (omega); (omega); (have o1 := gz_sh ha3_5; omega); (omega); (have o1 := gz_sh hv4_4; omega); (have o1 := gz_sh hv4_4; omega); (have o1 := gz_sh hv5_4; omega); (have o1 := gz_sh hv5_4; omega); (have o1 := gz_sh hv6_4; omega); (have o1 := gz_sh hv6_4_5; omega); (have o1 := gz_sh hs0_5; omega); (have o1 := gz_sh hs0_5; omega); (have o1 := gz_sh f31; omega); (have o1 := gz_sh f31; omega); (have o1 := gz_sh e0_5; omega); (have o1 := gz_sh e1_5; have o2 := gz_sh hs0_5; omega); (omega); (have o1 := gz_sh hs0_5; omega)) | (simp only [gz_hd] at *; omega)))
    have L87 : ((0 ≤ a2 ∧ a2 ≤ 575) ∧ (1 ≤ a3 ∧ a3 ≤ 24) ∧ (0 ≤ v4_4 ∧ v4_4 ≤ 12) ∧ (0 ≤ v5_4 ∧ v5_4 ≤ 24) ∧ (0 ≤ v6_4 ∧ v6_4 ≤ 23) ∧ (v6_4 < a3)) → gv_X (gc_E2 ws0 tb 2 (yX2_soundOnce, cX2_soundOnce, 9, (some .int)) kX2_soundOnce) (gv_Q cX2_soundOnce (some .int) sh (fun r hₚ => (∃ (Iₚ : gr_I) (Jₚ : gr_J), hₚ = gc_h sh Iₚ Jₚ A ∧ gc_Inv ro Iₚ ∧ (∀ q j : Nat, (q = (p + 6) ∨ q = (p + 7)) ∨ Iₚ q j = I q j) ∧ (∀ q j : Nat, (False) ∨ Jₚ q j = J q j) ∧ (∃ z : Int, r = some (.inl z) ∧ (-1) ≤ z ∧ z ≤ 24)))) (87, [(0, .inr (.inr (some p))), (1, .inr (.inr (some a1))), (2, .inl a2), (3, .inl a3), (4, .inl v4_4), (5, .inl v5_4), (6, .inl v6_4)], [], sh, gc_h sh I2 J3 A) := by
      intro m_32
      obtain ⟨ha2_32, ha3_32, hv4_4_32, hv5_4_32, hv6_4_32, e0_32⟩ := gz_h6 m_32
      refine gv_run 1 true hD (pcₚ := 88) (lvₚ := [(0, .inr (.inr (some p))), (1, .inr (.inr (some a1))), (2, .inl a2), (3, .inl a3), (4, .inl v4_4), (5, .inl v5_4), (6, .inl v6_4)]) (stₚ := [.inl 0]) (hₚ := gc_h sh I2 J3 A) (C := (True ∧ True)) rfl ⟨trivial, trivial⟩ ?_
      exact L88 0 (by (/-49-/first | (and_intros; (omega); (omega); (have o1 := gz_sh ha3_32; omega); (omega); (have o1 := gz_sh hv4_4; omega); (have o1 := gz_sh hv4_4; omega); (have o1 := gz_sh hv5_4; omega); (have o1 := gz_sh hv5_4; omega); (have o1 := gz_sh hv6_4; omega); (have o1 := gz_sh hv6_4_32; omega); (omega); (omega); (have o1 := gz_sh e0_32; omega); (omega)) | (simp only [gz_hd] at *; omega)))
    refine gv_run 2 true hD (pcₚ := 33) (lvₚ := [(0, .inr (.inr (some p))), (1, .inr (.inr (some a1))), (2, .inl a2), (3, .inl a3), (4, .inl v4_4), (5, .inl v5_4), (6, .inl v6_4)]) (stₚ := [.inl a3, .inl v6_4]) (hₚ := gc_h sh I2 J3 A) (C := ((True ∧ True) ∧ True)) rfl ⟨⟨trivial, trivial⟩, trivial⟩ ?_
    refine gv_icmp_ge (t := 197) hD rfl rfl ⟨⟨by (/-50-/first | (have o1 := gz_sh hv6_4; omega) | (simp only [gz_hd] at *; omega)), by (/-51-/first | (have o1 := gz_sh hv6_4; omega) | (simp only [gz_hd] at *; omega))⟩, ⟨by (/-52-/first | omega | (simp only [gz_hd] at *; omega)), by (/-53-/first | omega | (simp only [gz_hd] at *; omega))⟩⟩ (fun c33 => ?_) (fun c33 => ?_)
    · show gv_X _ _ (197, [(0, .inr (.inr (some p))), (1, .inr (.inr (some a1))), (2, .inl a2), (3, .inl a3), (4, .inl v4_4), (5, .inl v5_4), (6, .inl v6_4)], [], sh, gc_h sh I2 J3 A)
      refine gv_run 1 true hD (pcₚ := 199) (lvₚ := [(0, .inr (.inr (some p))), (1, .inr (.inr (some a1))), (2, .inl a2), (3, .inl a3), (4, .inl v4_4), (5, .inl v5_4), (6, .inl v6_4)]) (stₚ := [.inl v5_4]) (hₚ := gc_h sh I2 J3 A) (C := (True ∧ True)) rfl ⟨trivial, trivial⟩ ?_
      exact gv_iret hD rfl ⟨I2, J3, rfl, hI2, FI2, FJ3, ⟨_, rfl, by (/-54-/first | (and_intros; (have o1 := gz_sh hv5_4; omega); (have o1 := gz_sh hv5_4; omega)) | (simp only [gz_hd] at *; omega))⟩⟩
    · show gv_X _ _ (36, [(0, .inr (.inr (some p))), (1, .inr (.inr (some a1))), (2, .inl a2), (3, .inl a3), (4, .inl v4_4), (5, .inl v5_4), (6, .inl v6_4)], [], sh, gc_h sh I2 J3 A)
      refine gv_run 4 true hD (pcₚ := 40) (lvₚ := [(0, .inr (.inr (some p))), (1, .inr (.inr (some a1))), (2, .inl a2), (3, .inl a3), (4, .inl v4_4), (5, .inl v5_4), (6, .inl v6_4)]) (stₚ := [.inr (.inr (some p)), .inl a2, .inr (.inr (some a1)), .inr (.inr (some p))]) (hₚ := gc_h sh I2 J3 A) (C := ((((True ∧ True) ∧ True) ∧ True) ∧ True)) rfl ⟨⟨⟨⟨trivial, trivial⟩, trivial⟩, trivial⟩, trivial⟩ ?_
      obtain ⟨f34_, hq_f34_, S_f34, R_f34, B_f34, D_f34⟩ := gc_sw (p := p) (d := 6) (s := 1) (z := I2 p 6) (show 0 ≤ I2 p 6 ∧ I2 p 6 ≤ 1 from gc_in2 hI2 (gz_sh R_p) rfl rfl rfl) S_p_6 (gz_sh R_p_6) (gz_sh B_p_6) S_p_7 (gz_sh R_p_7) (gz_sh B_p_7)
      refine gv_get hD rfl rfl S_p ⟨by decide, (gz_sh B_p)⟩ (gc_hS (n := 6) S_p rfl hq_f34_) ?_
      show gv_X _ _ (43, [(0, .inr (.inr (some p))), (1, .inr (.inr (some a1))), (2, .inl a2), (3, .inl a3), (4, .inl v4_4), (5, .inl v5_4), (6, .inl v6_4)], [.inr (.inr (some f34_)), .inl a2, .inr (.inr (some a1)), .inr (.inr (some p))], sh, gc_h sh I2 J3 A)
      refine gv_run 2 true hD (pcₚ := 46) (lvₚ := [(0, .inr (.inr (some p))), (1, .inr (.inr (some a1))), (2, .inl a2), (3, .inl a3), (4, .inl v4_4), (5, .inl v5_4), (6, .inl v6_4)]) (stₚ := [.inl a3, .inl v6_4, .inr (.inr (some f34_)), .inl a2, .inr (.inr (some a1)), .inr (.inr (some p))]) (hₚ := gc_h sh I2 J3 A) (C := ((True ∧ True) ∧ True)) rfl ⟨⟨trivial, trivial⟩, trivial⟩ ?_
      obtain ⟨r36, h36, E36, P36⟩ := d_X2_fitsAt (ws0 := ws0) (tb := tb) hws htb sh ro I2 J3 A hI2 p 24 a1 a2 f34_ v6_4 a3 hp h_a1 G_a1 S_f34 R_f34 B_f34 (by decide)  ⟨by (/-55-/first | omega | (simp only [gz_hd] at *; omega)), by (/-56-/first | omega | (simp only [gz_hd] at *; omega))⟩ ⟨by (/-57-/first | (have o1 := gz_sh hv6_4; omega) | (simp only [gz_hd] at *; omega)), by (/-58-/first | (have o1 := gz_sh hv6_4; omega) | (simp only [gz_hd] at *; omega))⟩ ⟨by (/-59-/first | omega | (simp only [gz_hd] at *; omega)), by (/-60-/first | omega | (simp only [gz_hd] at *; omega))⟩ (by (/-61-/first | omega | (simp only [gz_hd] at *; omega))) (by (/-62-/first | omega | (simp only [gz_hd] at *; omega))) ((gc_sc_fr x1 (fun k => (FI2 (a1 + 10) k).resolve_left (by (/-63-/first | omega | (simp only [gz_hd] at *; omega))))) _ (by (/-64-/first | omega | (simp only [gz_hd] at *; omega))) (by (/-65-/first | omega | (simp only [gz_hd] at *; omega))) (by (/-66-/first | omega | (simp only [gz_hd] at *; omega)))) 
      obtain ⟨rfl, ⟨z36, rfl, q36⟩⟩ := P36
      replace q36 := gz_hi q36
      refine gv_callV hD rfl (As := [.inr (.inr (some a1)), .inl a2, .inr (.inr (some f34_)), .inl v6_4, .inl a3]) (st := []) rfl (gz_sh B_p) S_p rfl (gc_lV2 hws rfl) (Nat.le_of_ble_eq_true rfl) (gz_Ev_mono (d := 1) (by decide) E36) ?_
      show gv_X _ _ (49, [(0, .inr (.inr (some p))), (1, .inr (.inr (some a1))), (2, .inl a2), (3, .inl a3), (4, .inl v4_4), (5, .inl v5_4), (6, .inl v6_4)], [.inl z36], sh, gc_h sh I2 J3 A)
      refine gv_run 3 true hD (pcₚ := 54) (lvₚ := [(0, .inr (.inr (some p))), (1, .inr (.inr (some a1))), (2, .inl a2), (3, .inl a3), (4, .inl v4_4), (5, .inl v5_4), (6, .inl v6_4)]) (stₚ := [.inl (v6_4 + v4_4), .inl z36]) (hₚ := gc_h sh I2 J3 A) (C := (((True ∧ True) ∧ True) ∧ True)) rfl ⟨⟨⟨trivial, trivial⟩, trivial⟩, trivial⟩ ?_
      refine gv_icmp_ne (t := 87) hD rfl rfl ⟨⟨by (/-67-/first | (have o1 := gz_sh q36; omega) | (simp only [gz_hd] at *; omega)), by (/-68-/first | (have o1 := gz_sh q36; omega) | (simp only [gz_hd] at *; omega))⟩, ⟨by (/-69-/first | (have o1 := gz_sh hv4_4; have o2 := gz_sh hv6_4; omega) | (simp only [gz_hd] at *; omega)), by (/-70-/first | (have o1 := gz_sh hv4_4; have o2 := gz_sh hv6_4; omega) | (simp only [gz_hd] at *; omega))⟩⟩ (fun c37 => ?_) (fun c37 => ?_)
      · show gv_X _ _ (87, [(0, .inr (.inr (some p))), (1, .inr (.inr (some a1))), (2, .inl a2), (3, .inl a3), (4, .inl v4_4), (5, .inl v5_4), (6, .inl v6_4)], [], sh, gc_h sh I2 J3 A)
        exact L87 (by (/-71-/first | (and_intros; (omega); (omega); (have o1 := gz_sh hv6_4; omega); (omega); (have o1 := gz_sh hv4_4; omega); (have o1 := gz_sh hv4_4; omega); (have o1 := gz_sh hv5_4; omega); (have o1 := gz_sh hv5_4; omega); (have o1 := gz_sh hv6_4; omega); (omega); (omega)) | (simp only [gz_hd] at *; omega)))
      · show gv_X _ _ (57, [(0, .inr (.inr (some p))), (1, .inr (.inr (some a1))), (2, .inl a2), (3, .inl a3), (4, .inl v4_4), (5, .inl v5_4), (6, .inl v6_4)], [], sh, gc_h sh I2 J3 A)
        refine gv_run 4 true hD (pcₚ := 62) (lvₚ := [(0, .inr (.inr (some p))), (1, .inr (.inr (some a1))), (2, .inl a2), (3, .inl a3), (4, .inl v4_4), (5, .inl v5_4), (6, .inl v6_4)]) (stₚ := [.inl v5_4, .inl a2, .inr (.inr (some a1)), .inr (.inr (some p))]) (hₚ := gc_h sh I2 J3 A) (C := ((((True ∧ True) ∧ True) ∧ True) ∧ True)) rfl ⟨⟨⟨⟨trivial, trivial⟩, trivial⟩, trivial⟩, trivial⟩ ?_
        obtain ⟨r38, h38, E38, P38⟩ := d_X2_leftFits (ws0 := ws0) (tb := tb) hws htb sh ro I2 J3 A hI2 p a1 a2 v5_4 hp h_a1 G_a1  ⟨by (/-72-/first | omega | (simp only [gz_hd] at *; omega)), by (/-73-/first | omega | (simp only [gz_hd] at *; omega))⟩ ⟨by (/-74-/first | (have o1 := gz_sh hv5_4; omega) | (simp only [gz_hd] at *; omega)), by (/-75-/first | (have o1 := gz_sh hv5_4; omega) | (simp only [gz_hd] at *; omega))⟩ (by (/-76-/first | omega | (simp only [gz_hd] at *; omega))) (gc_sc_fr x1 (fun k => (FI2 (a1 + 10) k).resolve_left (by (/-77-/first | omega | (simp only [gz_hd] at *; omega))))) 
        obtain ⟨rfl, ⟨z38, rfl, q38⟩⟩ := P38
        replace q38 := gz_hi q38
        refine gv_callV hD rfl (As := [.inr (.inr (some a1)), .inl a2, .inl v5_4]) (st := []) rfl (gz_sh B_p) S_p rfl (gc_lV2 hws rfl) (Nat.le_of_ble_eq_true rfl) (gz_Ev_mono (d := 2) (by decide) E38) ?_
        show gv_X _ _ (65, [(0, .inr (.inr (some p))), (1, .inr (.inr (some a1))), (2, .inl a2), (3, .inl a3), (4, .inl v4_4), (5, .inl v5_4), (6, .inl v6_4)], [.inl z38], sh, gc_h sh I2 J3 A)
        refine gv_if_eq (t := 87) hD rfl rfl ⟨by (/-78-/first | (have o1 := gz_sh q38; omega) | (simp only [gz_hd] at *; omega)), by (/-79-/first | (have o1 := gz_sh q38; omega) | (simp only [gz_hd] at *; omega))⟩ (fun c39 => ?_) (fun c39 => ?_)
        · show gv_X _ _ (87, [(0, .inr (.inr (some p))), (1, .inr (.inr (some a1))), (2, .inl a2), (3, .inl a3), (4, .inl v4_4), (5, .inl v5_4), (6, .inl v6_4)], [], sh, gc_h sh I2 J3 A)
          exact L87 (by (/-80-/first | (and_intros; (omega); (omega); (have o1 := gz_sh hv6_4; omega); (omega); (have o1 := gz_sh hv4_4; omega); (have o1 := gz_sh hv4_4; omega); (have o1 := gz_sh hv5_4; omega); (have o1 := gz_sh hv5_4; omega); (have o1 := gz_sh hv6_4; omega); (omega); (omega)) | (simp only [gz_hd] at *; omega)))
        · show gv_X _ _ (68, [(0, .inr (.inr (some p))), (1, .inr (.inr (some a1))), (2, .inl a2), (3, .inl a3), (4, .inl v4_4), (5, .inl v5_4), (6, .inl v6_4)], [], sh, gc_h sh I2 J3 A)
          refine gv_run 7 true hD (pcₚ := 77) (lvₚ := [(0, .inr (.inr (some p))), (1, .inr (.inr (some a1))), (2, .inl a2), (3, .inl a3), (4, .inl v4_4), (5, .inl v5_4), (6, .inl v6_4)]) (stₚ := [.inl a3, .inl (v6_4 + v4_4), .inl a2, .inr (.inr (some a1)), .inr (.inr (some p))]) (hₚ := gc_h sh I2 J3 A) (C := (((((((True ∧ True) ∧ True) ∧ True) ∧ True) ∧ True) ∧ True) ∧ True)) rfl ⟨⟨⟨⟨⟨⟨⟨trivial, trivial⟩, trivial⟩, trivial⟩, trivial⟩, trivial⟩, trivial⟩, trivial⟩ ?_
          obtain ⟨r40, h40, E40, P40⟩ := d_X2_rightFits (ws0 := ws0) (tb := tb) hws htb sh ro I2 J3 A hI2 p a1 a2 (v6_4 + v4_4) a3 hp h_a1 G_a1  ⟨by (/-81-/first | omega | (simp only [gz_hd] at *; omega)), by (/-82-/first | omega | (simp only [gz_hd] at *; omega))⟩ ⟨by (/-83-/first | (have o1 := gz_sh hv4_4; have o2 := gz_sh hv6_4; omega) | (simp only [gz_hd] at *; omega)), by (/-84-/first | (have o1 := gz_sh q36; omega) | (simp only [gz_hd] at *; omega))⟩ ⟨by (/-85-/first | omega | (simp only [gz_hd] at *; omega)), by (/-86-/first | omega | (simp only [gz_hd] at *; omega))⟩ (by (/-87-/first | omega | (simp only [gz_hd] at *; omega))) (gc_sc_fr x1 (fun k => (FI2 (a1 + 10) k).resolve_left (by (/-88-/first | omega | (simp only [gz_hd] at *; omega))))) 
          obtain ⟨rfl, ⟨z40, rfl, q40⟩⟩ := P40
          replace q40 := gz_hi q40
          refine gv_callV hD rfl (As := [.inr (.inr (some a1)), .inl a2, .inl (v6_4 + v4_4), .inl a3]) (st := []) rfl (gz_sh B_p) S_p rfl (gc_lV2 hws rfl) (Nat.le_of_ble_eq_true rfl) (gz_Ev_mono (d := 2) (by decide) E40) ?_
          show gv_X _ _ (80, [(0, .inr (.inr (some p))), (1, .inr (.inr (some a1))), (2, .inl a2), (3, .inl a3), (4, .inl v4_4), (5, .inl v5_4), (6, .inl v6_4)], [.inl z40], sh, gc_h sh I2 J3 A)
          refine gv_if_eq (t := 87) hD rfl rfl ⟨by (/-89-/first | (have o1 := gz_sh q40; omega) | (simp only [gz_hd] at *; omega)), by (/-90-/first | (have o1 := gz_sh q40; omega) | (simp only [gz_hd] at *; omega))⟩ (fun c41 => ?_) (fun c41 => ?_)
          · show gv_X _ _ (87, [(0, .inr (.inr (some p))), (1, .inr (.inr (some a1))), (2, .inl a2), (3, .inl a3), (4, .inl v4_4), (5, .inl v5_4), (6, .inl v6_4)], [], sh, gc_h sh I2 J3 A)
            exact L87 (by (/-91-/first | (and_intros; (omega); (omega); (have o1 := gz_sh hv6_4; omega); (omega); (have o1 := gz_sh hv4_4; omega); (have o1 := gz_sh hv4_4; omega); (have o1 := gz_sh hv5_4; omega); (have o1 := gz_sh hv5_4; omega); (have o1 := gz_sh hv6_4; omega); (omega); (omega)) | (simp only [gz_hd] at *; omega)))
          · show gv_X _ _ (83, [(0, .inr (.inr (some p))), (1, .inr (.inr (some a1))), (2, .inl a2), (3, .inl a3), (4, .inl v4_4), (5, .inl v5_4), (6, .inl v6_4)], [], sh, gc_h sh I2 J3 A)
            refine gv_run 2 true hD (pcₚ := 88) (lvₚ := [(0, .inr (.inr (some p))), (1, .inr (.inr (some a1))), (2, .inl a2), (3, .inl a3), (4, .inl v4_4), (5, .inl v5_4), (6, .inl v6_4)]) (stₚ := [.inl 1]) (hₚ := gc_h sh I2 J3 A) (C := ((True ∧ True) ∧ True)) rfl ⟨⟨trivial, trivial⟩, trivial⟩ ?_
            exact L88 1 (by (/-92-/first | (and_intros; (omega); (omega); (have o1 := gz_sh hv6_4; omega); (omega); (have o1 := gz_sh hv4_4; omega); (have o1 := gz_sh hv4_4; omega); (have o1 := gz_sh hv5_4; omega); (have o1 := gz_sh hv5_4; omega); (have o1 := gz_sh hv6_4; omega); (omega); (omega); (omega); (omega); (have o1 := gz_sh q36; omega)) | (simp only [gz_hd] at *; omega)))
set_option maxHeartbeats 8000000 in
set_option maxRecDepth 100000 in
theorem d_X2_soundOnce {ws0 : List Cond} {tb : String → gz_T} (hws : gc_Ws ws0) (htb : gc_tbs tb) (sh : gz_Sh) (ro : Nat → Nat) (I : gr_I) (J : gr_J) (A : gc_A) (hI : gc_Inv ro I) (p : Nat) (a1 : Nat) (a2 : Int) (a3 : Int) (hp : gc_isForms sh ro A p) (h_a1 : gc_isTongue sh ro A a1) (G_a1 : 144 ≤ a1) (ha2 : 0 ≤ a2 ∧ a2 ≤ 575) (ha3 : 0 ≤ a3 ∧ a3 ≤ 24) (x0 : a2 % 25 = 0) (x1 : gc_sc (a1 + 10) I) (x2 : p = a1 + 17) : ∃ r hₚ, gz_Ev ws0 tb 3 (yX2_soundOnce, cX2_soundOnce, 9, (some .int)) [.inr (.inr (some p)), .inr (.inr (some a1)), .inl a2, .inl a3] sh (gc_h sh I J A) r sh hₚ 0 0 ∧ (∃ (Iₚ : gr_I) (Jₚ : gr_J), hₚ = gc_h sh Iₚ Jₚ A ∧ gc_Inv ro Iₚ ∧ (∀ q j : Nat, (q = (p + 6) ∨ q = (p + 7)) ∨ Iₚ q j = I q j) ∧ (∀ q j : Nat, (False) ∨ Jₚ q j = J q j) ∧ (∃ z : Int, r = some (.inl z) ∧ (-1) ≤ z ∧ z ≤ 24)) := by
  have FI : ∀ q j : Nat, (q = (p + 6) ∨ q = (p + 7)) ∨ I q j = I q j := fun _ _ => Or.inr rfl
  have FJ : ∀ q j : Nat, (False) ∨ J q j = J q j := fun _ _ => Or.inr rfl
  obtain ⟨S_p, R_p, B_p, A_p_0, S_20, R_20, B_20, A_p_1, S_p_1, R_p_1, B_p_1, A_p_2, S_p_2, R_p_2, B_p_2, A_p_3, S_p_3, R_p_3, B_p_3, A_p_4, S_p_4, R_p_4, B_p_4, A_p_5, S_p_5, R_p_5, B_p_5, S_p_6, R_p_6, B_p_6, S_p_7, R_p_7, B_p_7⟩ := id hp
  replace R_p := gz_hi R_p
  replace B_p := gz_hi B_p
  replace R_20 := gz_hi R_20
  replace B_20 := gz_hi B_20
  replace R_p_1 := gz_hi R_p_1
  replace B_p_1 := gz_hi B_p_1
  replace R_p_2 := gz_hi R_p_2
  replace B_p_2 := gz_hi B_p_2
  replace R_p_3 := gz_hi R_p_3
  replace B_p_3 := gz_hi B_p_3
  replace R_p_4 := gz_hi R_p_4
  replace B_p_4 := gz_hi B_p_4
  replace R_p_5 := gz_hi R_p_5
  replace B_p_5 := gz_hi B_p_5
  replace R_p_6 := gz_hi R_p_6
  replace B_p_6 := gz_hi B_p_6
  replace R_p_7 := gz_hi R_p_7
  replace B_p_7 := gz_hi B_p_7
  obtain ⟨S_a1, R_a1, B_a1, A_a1_0, h_a1_1, A_a1_1, h_a1_3, A_a1_2, S_a1_5, R_a1_5, B_a1_5, A_a1_3, S_a1_6, R_a1_6, B_a1_6, A_a1_4, h_a1_7, A_a1_5, S_a1_9, R_a1_9, B_a1_9, A_a1_7, S_a1_10, R_a1_10, B_a1_10, A_a1_8, h_a1_11, A_a1_9, S_a1_13, R_a1_13, B_a1_13, A_a1_10, S_a1_14, R_a1_14, B_a1_14, A_a1_12, S_a1_15, R_a1_15, B_a1_15, A_a1_14, S_a1_16, R_a1_16, B_a1_16, A_a1_15, h_a1_17⟩ := id h_a1
  replace R_a1 := gz_hi R_a1
  replace B_a1 := gz_hi B_a1
  replace R_a1_5 := gz_hi R_a1_5
  replace B_a1_5 := gz_hi B_a1_5
  replace R_a1_6 := gz_hi R_a1_6
  replace B_a1_6 := gz_hi B_a1_6
  replace R_a1_9 := gz_hi R_a1_9
  replace B_a1_9 := gz_hi B_a1_9
  replace R_a1_10 := gz_hi R_a1_10
  replace B_a1_10 := gz_hi B_a1_10
  replace R_a1_13 := gz_hi R_a1_13
  replace B_a1_13 := gz_hi B_a1_13
  replace R_a1_14 := gz_hi R_a1_14
  replace B_a1_14 := gz_hi B_a1_14
  replace R_a1_15 := gz_hi R_a1_15
  replace B_a1_15 := gz_hi B_a1_15
  replace R_a1_16 := gz_hi R_a1_16
  replace B_a1_16 := gz_hi B_a1_16
  obtain ⟨S_a1_1, R_a1_1, B_a1_1, A_a1_1_0, S_a1_1_1, R_a1_1_1, B_a1_1_1, Q0_a1_1, Q1_a1_1, Q2_a1_1⟩ := id h_a1_1
  replace R_a1_1 := gz_hi R_a1_1
  replace B_a1_1 := gz_hi B_a1_1
  replace R_a1_1_1 := gz_hi R_a1_1_1
  replace B_a1_1_1 := gz_hi B_a1_1_1
  obtain ⟨S_a1_3, R_a1_3, B_a1_3, A_a1_3_0, S_a1_3_1, R_a1_3_1, B_a1_3_1, Q0_a1_3, Q1_a1_3, Q2_a1_3⟩ := id h_a1_3
  replace R_a1_3 := gz_hi R_a1_3
  replace B_a1_3 := gz_hi B_a1_3
  replace R_a1_3_1 := gz_hi R_a1_3_1
  replace B_a1_3_1 := gz_hi B_a1_3_1
  obtain ⟨S_a1_7, R_a1_7, B_a1_7, A_a1_7_0, S_a1_7_1, R_a1_7_1, B_a1_7_1, Q0_a1_7, Q1_a1_7, Q2_a1_7⟩ := id h_a1_7
  replace R_a1_7 := gz_hi R_a1_7
  replace B_a1_7 := gz_hi B_a1_7
  replace R_a1_7_1 := gz_hi R_a1_7_1
  replace B_a1_7_1 := gz_hi B_a1_7_1
  obtain ⟨S_a1_11, R_a1_11, B_a1_11, A_a1_11_0, S_a1_11_1, R_a1_11_1, B_a1_11_1, Q0_a1_11, Q1_a1_11, Q2_a1_11⟩ := id h_a1_11
  replace R_a1_11 := gz_hi R_a1_11
  replace B_a1_11 := gz_hi B_a1_11
  replace R_a1_11_1 := gz_hi R_a1_11_1
  replace B_a1_11_1 := gz_hi B_a1_11_1
  obtain ⟨S_a1_17, R_a1_17, B_a1_17, A_a1_17_0, S_20, R_20, B_20, A_a1_17_1, S_a1_17_1, R_a1_17_1, B_a1_17_1, A_a1_17_2, S_a1_17_2, R_a1_17_2, B_a1_17_2, A_a1_17_3, S_a1_17_3, R_a1_17_3, B_a1_17_3, A_a1_17_4, S_a1_17_4, R_a1_17_4, B_a1_17_4, A_a1_17_5, S_a1_17_5, R_a1_17_5, B_a1_17_5, S_a1_17_6, R_a1_17_6, B_a1_17_6, S_a1_17_7, R_a1_17_7, B_a1_17_7⟩ := id h_a1_17
  replace R_a1_17 := gz_hi R_a1_17
  replace B_a1_17 := gz_hi B_a1_17
  replace R_20 := gz_hi R_20
  replace B_20 := gz_hi B_20
  replace R_a1_17_1 := gz_hi R_a1_17_1
  replace B_a1_17_1 := gz_hi B_a1_17_1
  replace R_a1_17_2 := gz_hi R_a1_17_2
  replace B_a1_17_2 := gz_hi B_a1_17_2
  replace R_a1_17_3 := gz_hi R_a1_17_3
  replace B_a1_17_3 := gz_hi B_a1_17_3
  replace R_a1_17_4 := gz_hi R_a1_17_4
  replace B_a1_17_4 := gz_hi B_a1_17_4
  replace R_a1_17_5 := gz_hi R_a1_17_5
  replace B_a1_17_5 := gz_hi B_a1_17_5
  replace R_a1_17_6 := gz_hi R_a1_17_6
  replace B_a1_17_6 := gz_hi B_a1_17_6
  replace R_a1_17_7 := gz_hi R_a1_17_7
  replace B_a1_17_7 := gz_hi B_a1_17_7
  have hD : gv_D (gc_E2 ws0 tb 2 (yX2_soundOnce, cX2_soundOnce, 9, (some .int)) kX2_soundOnce) := gq_of oX2_soundOnce
  refine gc_ev2 (d := 2) (l := kX2_soundOnce) (Po := fun r hₚ => (∃ (Iₚ : gr_I) (Jₚ : gr_J), hₚ = gc_h sh Iₚ Jₚ A ∧ gc_Inv ro Iₚ ∧ (∀ q j : Nat, (q = (p + 6) ∨ q = (p + 7)) ∨ Iₚ q j = I q j) ∧ (∀ q j : Nat, (False) ∨ Jₚ q j = J q j) ∧ (∃ z : Int, r = some (.inl z) ∧ (-1) ≤ z ∧ z ≤ 24))) htb rfl (Nat.le_of_ble_eq_true rfl) ?_
  have L22 : ∀ (s0_1 : Int), ((0 ≤ a2 ∧ a2 ≤ 575) ∧ (0 ≤ a3 ∧ a3 ≤ 24) ∧ (0 ≤ s0_1 ∧ s0_1 ≤ 12)) → gv_X (gc_E2 ws0 tb 2 (yX2_soundOnce, cX2_soundOnce, 9, (some .int)) kX2_soundOnce) (gv_Q cX2_soundOnce (some .int) sh (fun r hₚ => (∃ (Iₚ : gr_I) (Jₚ : gr_J), hₚ = gc_h sh Iₚ Jₚ A ∧ gc_Inv ro Iₚ ∧ (∀ q j : Nat, (q = (p + 6) ∨ q = (p + 7)) ∨ Iₚ q j = I q j) ∧ (∀ q j : Nat, (False) ∨ Jₚ q j = J q j) ∧ (∃ z : Int, r = some (.inl z) ∧ (-1) ≤ z ∧ z ≤ 24)))) (22, [(0, .inr (.inr (some p))), (1, .inr (.inr (some a1))), (2, .inl a2), (3, .inl a3)], [.inl s0_1], sh, gc_h sh I J A) := by
    intro s0_1 m_1
    obtain ⟨ha2_1, ha3_1, hs0_1⟩ := gz_h3 m_1
    have L30 : ∀ (n9 : Nat) (I2 : gr_I) (J3 : gr_J) (v4_4 : Int) (v5_4 : Int) (v6_4 : Int), (25 - v6_4).toNat < n9 → gc_Inv ro I2 → (∀ q j : Nat, (q = (p + 6) ∨ q = (p + 7)) ∨ I2 q j = I q j) → (∀ q j : Nat, (False) ∨ J3 q j = J q j) → ((0 ≤ a2 ∧ a2 ≤ 575) ∧ (0 ≤ a3 ∧ a3 ≤ 24) ∧ (0 ≤ v4_4 ∧ v4_4 ≤ 12) ∧ (0 ≤ v5_4 ∧ v5_4 ≤ 24) ∧ (0 ≤ v6_4 ∧ v6_4 ≤ 24) ∧ (v6_4 ≤ a3)) → gv_X (gc_E2 ws0 tb 2 (yX2_soundOnce, cX2_soundOnce, 9, (some .int)) kX2_soundOnce) (gv_Q cX2_soundOnce (some .int) sh (fun r hₚ => (∃ (Iₚ : gr_I) (Jₚ : gr_J), hₚ = gc_h sh Iₚ Jₚ A ∧ gc_Inv ro Iₚ ∧ (∀ q j : Nat, (q = (p + 6) ∨ q = (p + 7)) ∨ Iₚ q j = I q j) ∧ (∀ q j : Nat, (False) ∨ Jₚ q j = J q j) ∧ (∃ z : Int, r = some (.inl z) ∧ (-1) ≤ z ∧ z ≤ 24)))) (30, [(0, .inr (.inr (some p))), (1, .inr (.inr (some a1))), (2, .inl a2), (3, .inl a3), (4, .inl v4_4), (5, .inl v5_4), (6, .inl v6_4)], [], sh, gc_h sh I2 J3 A) := d_X2_soundOnce_L30 (ws0 := ws0) (tb := tb) hws htb sh ro I J A hI p a1 a2 a3 hp h_a1 G_a1 ha2 ha3 x0 x1 x2
    refine gv_run 5 true hD (pcₚ := 30) (lvₚ := [(6, .inl 0), (5, .inl 0), (4, .inl s0_1), (0, .inr (.inr (some p))), (1, .inr (.inr (some a1))), (2, .inl a2), (3, .inl a3)]) (stₚ := []) (hₚ := gc_h sh I J A) (C := (((((True ∧ True) ∧ True) ∧ True) ∧ True) ∧ True)) rfl ⟨⟨⟨⟨⟨trivial, trivial⟩, trivial⟩, trivial⟩, trivial⟩, trivial⟩ ?_
    refine gv_pick [3, 4, 5, 6, 2, 1, 0] rfl ?_
    exact L30 _ I J s0_1 0 0 (Nat.lt_succ_self _) hI FI FJ (by (/-93-/first | (and_intros; (omega); (omega); (omega); (omega); (have o1 := gz_sh hs0_1; omega); (have o1 := gz_sh hs0_1; omega); (omega); (omega); (omega); (omega); (omega)) | (simp only [gz_hd] at *; omega)))
  refine gv_run 1 true hD (pcₚ := 1) (lvₚ := [(0, .inr (.inr (some p))), (1, .inr (.inr (some a1))), (2, .inl a2), (3, .inl a3)]) (stₚ := [.inr (.inr (some a1))]) (hₚ := gc_h sh I J A) (C := (True ∧ True)) rfl ⟨trivial, trivial⟩ ?_
  refine gv_get hD rfl rfl S_a1 ⟨by decide, (gz_sh B_a1)⟩ (gc_hA S_a1 rfl A_a1_7) ?_
  show gv_X _ _ (4, [(0, .inr (.inr (some p))), (1, .inr (.inr (some a1))), (2, .inl a2), (3, .inl a3)], [.inr (.inr (some (a1 + 10)))], sh, gc_h sh I J A)
  refine gv_run 1 true hD (pcₚ := 5) (lvₚ := [(0, .inr (.inr (some p))), (1, .inr (.inr (some a1))), (2, .inl a2), (3, .inl a3)]) (stₚ := [.inl a2, .inr (.inr (some (a1 + 10)))]) (hₚ := gc_h sh I J A) (C := (True ∧ True)) rfl ⟨trivial, trivial⟩ ?_
  have f42 := gz_hi ((show 0 ≤ I (a1 + 10) (Int.toNat a2) ∧ I (a1 + 10) (Int.toNat a2) ≤ 2 from gc_inm (c := 0) hI (gz_sh R_a1_10) rfl rfl (by (/-94-/first | omega | (simp only [gz_hd] at *; omega))) rfl rfl))
  refine gv_iald hD rfl S_a1_10 rfl ⟨by decide, (gz_sh B_a1_10)⟩ ⟨by (/-95-/first | omega | (simp only [gz_hd] at *; omega)), by (/-96-/first | omega | (simp only [gz_hd] at *; omega))⟩ (gc_iI S_a1_10 rfl) ?_
  show gv_X _ _ (6, [(0, .inr (.inr (some p))), (1, .inr (.inr (some a1))), (2, .inl a2), (3, .inl a3)], [.inl (I (a1 + 10) (Int.toNat a2))], sh, gc_h sh I J A)
  refine gv_run 1 true hD (pcₚ := 7) (lvₚ := [(0, .inr (.inr (some p))), (1, .inr (.inr (some a1))), (2, .inl a2), (3, .inl a3)]) (stₚ := [.inl 1, .inl (I (a1 + 10) (Int.toNat a2))]) (hₚ := gc_h sh I J A) (C := (True ∧ True)) rfl ⟨trivial, trivial⟩ ?_
  refine gv_icmp_ne (t := 14) hD rfl rfl ⟨⟨by (/-97-/first | (have o1 := gz_sh f42; omega) | (simp only [gz_hd] at *; omega)), by (/-98-/first | (have o1 := gz_sh f42; omega) | (simp only [gz_hd] at *; omega))⟩, ⟨by (/-99-/first | omega | (simp only [gz_hd] at *; omega)), by (/-100-/first | omega | (simp only [gz_hd] at *; omega))⟩⟩ (fun c43 => ?_) (fun c43 => ?_)
  · show gv_X _ _ (14, [(0, .inr (.inr (some p))), (1, .inr (.inr (some a1))), (2, .inl a2), (3, .inl a3)], [], sh, gc_h sh I J A)
    refine gv_run 1 true hD (pcₚ := 15) (lvₚ := [(0, .inr (.inr (some p))), (1, .inr (.inr (some a1))), (2, .inl a2), (3, .inl a3)]) (stₚ := [.inr (.inr (some a1))]) (hₚ := gc_h sh I J A) (C := (True ∧ True)) rfl ⟨trivial, trivial⟩ ?_
    refine gv_get hD rfl rfl S_a1 ⟨by decide, (gz_sh B_a1)⟩ (gc_hA S_a1 rfl A_a1_7) ?_
    show gv_X _ _ (18, [(0, .inr (.inr (some p))), (1, .inr (.inr (some a1))), (2, .inl a2), (3, .inl a3)], [.inr (.inr (some (a1 + 10)))], sh, gc_h sh I J A)
    refine gv_run 3 true hD (pcₚ := 21) (lvₚ := [(0, .inr (.inr (some p))), (1, .inr (.inr (some a1))), (2, .inl a2), (3, .inl a3)]) (stₚ := [.inl (a2 + 2), .inr (.inr (some (a1 + 10)))]) (hₚ := gc_h sh I J A) (C := (((True ∧ True) ∧ True) ∧ True)) rfl ⟨⟨⟨trivial, trivial⟩, trivial⟩, trivial⟩ ?_
    have f44 := gz_hi ((show 0 ≤ I (a1 + 10) (Int.toNat (a2 + 2)) ∧ I (a1 + 10) (Int.toNat (a2 + 2)) ≤ 12 from gc_inm (c := 2) hI (gz_sh R_a1_10) rfl rfl (by (/-101-/first | omega | (simp only [gz_hd] at *; omega))) rfl rfl))
    refine gv_iald hD rfl S_a1_10 rfl ⟨by decide, (gz_sh B_a1_10)⟩ ⟨by (/-102-/first | omega | (simp only [gz_hd] at *; omega)), by (/-103-/first | omega | (simp only [gz_hd] at *; omega))⟩ (gc_iI S_a1_10 rfl) ?_
    show gv_X _ _ (22, [(0, .inr (.inr (some p))), (1, .inr (.inr (some a1))), (2, .inl a2), (3, .inl a3)], [.inl (I (a1 + 10) (Int.toNat (a2 + 2)))], sh, gc_h sh I J A)
    exact L22 ((I (a1 + 10) (Int.toNat (a2 + 2)))) (by (/-104-/first | (and_intros; (omega); (omega); (omega); (omega); (have o1 := gz_sh f44; omega); (have o1 := gz_sh f44; omega)) | (simp only [gz_hd] at *; omega)))
  · show gv_X _ _ (10, [(0, .inr (.inr (some p))), (1, .inr (.inr (some a1))), (2, .inl a2), (3, .inl a3)], [], sh, gc_h sh I J A)
    refine gv_run 2 true hD (pcₚ := 22) (lvₚ := [(0, .inr (.inr (some p))), (1, .inr (.inr (some a1))), (2, .inl a2), (3, .inl a3)]) (stₚ := [.inl 1]) (hₚ := gc_h sh I J A) (C := ((True ∧ True) ∧ True)) rfl ⟨⟨trivial, trivial⟩, trivial⟩ ?_
    exact L22 1 (by (/-105-/first | (and_intros <;> omega) | (simp only [gz_hd] at *; omega)))
set_option maxHeartbeats 8000000 in
set_option maxRecDepth 100000 in
theorem d_X2_soundAll {ws0 : List Cond} {tb : String → gz_T} (hws : gc_Ws ws0) (htb : gc_tbs tb) (sh : gz_Sh) (ro : Nat → Nat) (I : gr_I) (J : gr_J) (A : gc_A) (hI : gc_Inv ro I) (p : Nat) (a1 : Nat) (a2 : Int) (hp : gc_isForms sh ro A p) (h_a1 : gc_isTongue sh ro A a1) (G_a1 : 144 ≤ a1) (ha2 : 0 ≤ a2 ∧ a2 ≤ 24) (x0 : gc_sc (a1 + 10) I) (x1 : p = a1 + 17) : ∃ r hₚ, gz_Ev ws0 tb 4 (yX2_soundAll, cX2_soundAll, 6, (some .int)) [.inr (.inr (some p)), .inr (.inr (some a1)), .inl a2] sh (gc_h sh I J A) r sh hₚ 0 0 ∧ (∃ (Iₚ : gr_I) (Jₚ : gr_J), hₚ = gc_h sh Iₚ Jₚ A ∧ gc_Inv ro Iₚ ∧ (∀ q j : Nat, ((q = p ∧ j = 6) ∨ (q = p ∧ j = 7) ∨ q = (p + 6) ∨ q = (p + 7)) ∨ Iₚ q j = I q j) ∧ (∀ q j : Nat, (False) ∨ Jₚ q j = J q j) ∧ (∃ z : Int, r = some (.inl z) ∧ (-1) ≤ z ∧ z ≤ 24 ∧ (z = -1 ∨ 1 ≤ z) ∧ (I p 6 = I p 7 ∨ ¬ Iₚ p 6 = Iₚ p 7))) := by
  have FI : ∀ q j : Nat, ((q = p ∧ j = 6) ∨ (q = p ∧ j = 7) ∨ q = (p + 6) ∨ q = (p + 7)) ∨ I q j = I q j := fun _ _ => Or.inr rfl
  have FJ : ∀ q j : Nat, (False) ∨ J q j = J q j := fun _ _ => Or.inr rfl
  obtain ⟨S_p, R_p, B_p, A_p_0, S_20, R_20, B_20, A_p_1, S_p_1, R_p_1, B_p_1, A_p_2, S_p_2, R_p_2, B_p_2, A_p_3, S_p_3, R_p_3, B_p_3, A_p_4, S_p_4, R_p_4, B_p_4, A_p_5, S_p_5, R_p_5, B_p_5, S_p_6, R_p_6, B_p_6, S_p_7, R_p_7, B_p_7⟩ := id hp
  replace R_p := gz_hi R_p
  replace B_p := gz_hi B_p
  replace R_20 := gz_hi R_20
  replace B_20 := gz_hi B_20
  replace R_p_1 := gz_hi R_p_1
  replace B_p_1 := gz_hi B_p_1
  replace R_p_2 := gz_hi R_p_2
  replace B_p_2 := gz_hi B_p_2
  replace R_p_3 := gz_hi R_p_3
  replace B_p_3 := gz_hi B_p_3
  replace R_p_4 := gz_hi R_p_4
  replace B_p_4 := gz_hi B_p_4
  replace R_p_5 := gz_hi R_p_5
  replace B_p_5 := gz_hi B_p_5
  replace R_p_6 := gz_hi R_p_6
  replace B_p_6 := gz_hi B_p_6
  replace R_p_7 := gz_hi R_p_7
  replace B_p_7 := gz_hi B_p_7
  obtain ⟨S_a1, R_a1, B_a1, A_a1_0, h_a1_1, A_a1_1, h_a1_3, A_a1_2, S_a1_5, R_a1_5, B_a1_5, A_a1_3, S_a1_6, R_a1_6, B_a1_6, A_a1_4, h_a1_7, A_a1_5, S_a1_9, R_a1_9, B_a1_9, A_a1_7, S_a1_10, R_a1_10, B_a1_10, A_a1_8, h_a1_11, A_a1_9, S_a1_13, R_a1_13, B_a1_13, A_a1_10, S_a1_14, R_a1_14, B_a1_14, A_a1_12, S_a1_15, R_a1_15, B_a1_15, A_a1_14, S_a1_16, R_a1_16, B_a1_16, A_a1_15, h_a1_17⟩ := id h_a1
  replace R_a1 := gz_hi R_a1
  replace B_a1 := gz_hi B_a1
  replace R_a1_5 := gz_hi R_a1_5
  replace B_a1_5 := gz_hi B_a1_5
  replace R_a1_6 := gz_hi R_a1_6
  replace B_a1_6 := gz_hi B_a1_6
  replace R_a1_9 := gz_hi R_a1_9
  replace B_a1_9 := gz_hi B_a1_9
  replace R_a1_10 := gz_hi R_a1_10
  replace B_a1_10 := gz_hi B_a1_10
  replace R_a1_13 := gz_hi R_a1_13
  replace B_a1_13 := gz_hi B_a1_13
  replace R_a1_14 := gz_hi R_a1_14
  replace B_a1_14 := gz_hi B_a1_14
  replace R_a1_15 := gz_hi R_a1_15
  replace B_a1_15 := gz_hi B_a1_15
  replace R_a1_16 := gz_hi R_a1_16
  replace B_a1_16 := gz_hi B_a1_16
  obtain ⟨S_a1_1, R_a1_1, B_a1_1, A_a1_1_0, S_a1_1_1, R_a1_1_1, B_a1_1_1, Q0_a1_1, Q1_a1_1, Q2_a1_1⟩ := id h_a1_1
  replace R_a1_1 := gz_hi R_a1_1
  replace B_a1_1 := gz_hi B_a1_1
  replace R_a1_1_1 := gz_hi R_a1_1_1
  replace B_a1_1_1 := gz_hi B_a1_1_1
  obtain ⟨S_a1_3, R_a1_3, B_a1_3, A_a1_3_0, S_a1_3_1, R_a1_3_1, B_a1_3_1, Q0_a1_3, Q1_a1_3, Q2_a1_3⟩ := id h_a1_3
  replace R_a1_3 := gz_hi R_a1_3
  replace B_a1_3 := gz_hi B_a1_3
  replace R_a1_3_1 := gz_hi R_a1_3_1
  replace B_a1_3_1 := gz_hi B_a1_3_1
  obtain ⟨S_a1_7, R_a1_7, B_a1_7, A_a1_7_0, S_a1_7_1, R_a1_7_1, B_a1_7_1, Q0_a1_7, Q1_a1_7, Q2_a1_7⟩ := id h_a1_7
  replace R_a1_7 := gz_hi R_a1_7
  replace B_a1_7 := gz_hi B_a1_7
  replace R_a1_7_1 := gz_hi R_a1_7_1
  replace B_a1_7_1 := gz_hi B_a1_7_1
  obtain ⟨S_a1_11, R_a1_11, B_a1_11, A_a1_11_0, S_a1_11_1, R_a1_11_1, B_a1_11_1, Q0_a1_11, Q1_a1_11, Q2_a1_11⟩ := id h_a1_11
  replace R_a1_11 := gz_hi R_a1_11
  replace B_a1_11 := gz_hi B_a1_11
  replace R_a1_11_1 := gz_hi R_a1_11_1
  replace B_a1_11_1 := gz_hi B_a1_11_1
  obtain ⟨S_a1_17, R_a1_17, B_a1_17, A_a1_17_0, S_20, R_20, B_20, A_a1_17_1, S_a1_17_1, R_a1_17_1, B_a1_17_1, A_a1_17_2, S_a1_17_2, R_a1_17_2, B_a1_17_2, A_a1_17_3, S_a1_17_3, R_a1_17_3, B_a1_17_3, A_a1_17_4, S_a1_17_4, R_a1_17_4, B_a1_17_4, A_a1_17_5, S_a1_17_5, R_a1_17_5, B_a1_17_5, S_a1_17_6, R_a1_17_6, B_a1_17_6, S_a1_17_7, R_a1_17_7, B_a1_17_7⟩ := id h_a1_17
  replace R_a1_17 := gz_hi R_a1_17
  replace B_a1_17 := gz_hi B_a1_17
  replace R_20 := gz_hi R_20
  replace B_20 := gz_hi B_20
  replace R_a1_17_1 := gz_hi R_a1_17_1
  replace B_a1_17_1 := gz_hi B_a1_17_1
  replace R_a1_17_2 := gz_hi R_a1_17_2
  replace B_a1_17_2 := gz_hi B_a1_17_2
  replace R_a1_17_3 := gz_hi R_a1_17_3
  replace B_a1_17_3 := gz_hi B_a1_17_3
  replace R_a1_17_4 := gz_hi R_a1_17_4
  replace B_a1_17_4 := gz_hi B_a1_17_4
  replace R_a1_17_5 := gz_hi R_a1_17_5
  replace B_a1_17_5 := gz_hi B_a1_17_5
  replace R_a1_17_6 := gz_hi R_a1_17_6
  replace B_a1_17_6 := gz_hi B_a1_17_6
  replace R_a1_17_7 := gz_hi R_a1_17_7
  replace B_a1_17_7 := gz_hi B_a1_17_7
  have hD : gv_D (gc_E2 ws0 tb 3 (yX2_soundAll, cX2_soundAll, 6, (some .int)) kX2_soundAll) := gq_of oX2_soundAll
  refine gc_ev2 (d := 3) (l := kX2_soundAll) (Po := fun r hₚ => (∃ (Iₚ : gr_I) (Jₚ : gr_J), hₚ = gc_h sh Iₚ Jₚ A ∧ gc_Inv ro Iₚ ∧ (∀ q j : Nat, ((q = p ∧ j = 6) ∨ (q = p ∧ j = 7) ∨ q = (p + 6) ∨ q = (p + 7)) ∨ Iₚ q j = I q j) ∧ (∀ q j : Nat, (False) ∨ Jₚ q j = J q j) ∧ (∃ z : Int, r = some (.inl z) ∧ (-1) ≤ z ∧ z ≤ 24 ∧ (z = -1 ∨ 1 ≤ z) ∧ (I p 6 = I p 7 ∨ ¬ Iₚ p 6 = Iₚ p 7)))) htb rfl (Nat.le_of_ble_eq_true rfl) ?_
  have N_p__p_6 := gz_hi (show ¬ (p = (p + 6)) from by (/-0-/first | omega | (simp only [gz_hd] at *; omega)))
  have N_p__p_7 := gz_hi (show ¬ (p = (p + 7)) from by (/-1-/first | omega | (simp only [gz_hd] at *; omega)))
  have L5 : ∀ (n9 : Nat) (I3 : gr_I) (J4 : gr_J) (v3_5 : Int) (v4_5 : Int), (25 - v4_5).toNat < n9 → gc_Inv ro I3 → (∀ q j : Nat, ((q = p ∧ j = 6) ∨ (q = p ∧ j = 7) ∨ q = (p + 6) ∨ q = (p + 7)) ∨ I3 q j = I q j) → (∀ q j : Nat, (False) ∨ J4 q j = J q j) → (((-1) ≤ v3_5 ∧ v3_5 ≤ 24) ∧ (0 ≤ v4_5 ∧ v4_5 ≤ 24) ∧ (I p 6 = I p 7 ∨ ¬ I3 p 6 = I3 p 7)) → gv_X (gc_E2 ws0 tb 3 (yX2_soundAll, cX2_soundAll, 6, (some .int)) kX2_soundAll) (gv_Q cX2_soundAll (some .int) sh (fun r hₚ => (∃ (Iₚ : gr_I) (Jₚ : gr_J), hₚ = gc_h sh Iₚ Jₚ A ∧ gc_Inv ro Iₚ ∧ (∀ q j : Nat, ((q = p ∧ j = 6) ∨ (q = p ∧ j = 7) ∨ q = (p + 6) ∨ q = (p + 7)) ∨ Iₚ q j = I q j) ∧ (∀ q j : Nat, (False) ∨ Jₚ q j = J q j) ∧ (∃ z : Int, r = some (.inl z) ∧ (-1) ≤ z ∧ z ≤ 24 ∧ (z = -1 ∨ 1 ≤ z) ∧ (I p 6 = I p 7 ∨ ¬ Iₚ p 6 = Iₚ p 7))))) (5, [(0, .inr (.inr (some p))), (1, .inr (.inr (some a1))), (3, .inl v3_5), (4, .inl v4_5)], [], sh, gc_h sh I3 J4 A) := by
    intro n9
    induction n9 with
    | zero => intro I3 J4 v3_5 v4_5 hn; (/-2-/first | omega | (simp only [gz_hd] at *; omega))
    | succ n9 ih5 =>
      intro I3 J4 v3_5 v4_5 hn hI3 FI3 FJ4 m_5
      obtain ⟨hv3_5, hv4_5, e0_5⟩ := gz_h3 m_5
      have f6 := gz_hi ((show 0 ≤ I3 p 6 ∧ I3 p 6 ≤ 1 from gc_in2 hI3 (gz_sh R_p) rfl rfl rfl))
      have f7 := gz_hi ((show 0 ≤ I3 p 7 ∧ I3 p 7 ≤ 1 from gc_in2 hI3 (gz_sh R_p) rfl rfl rfl))
      have L56 : (((-1) ≤ v3_5 ∧ v3_5 ≤ 24) ∧ (I p 6 = I p 7 ∨ ¬ I3 p 6 = I3 p 7)) → gv_X (gc_E2 ws0 tb 3 (yX2_soundAll, cX2_soundAll, 6, (some .int)) kX2_soundAll) (gv_Q cX2_soundAll (some .int) sh (fun r hₚ => (∃ (Iₚ : gr_I) (Jₚ : gr_J), hₚ = gc_h sh Iₚ Jₚ A ∧ gc_Inv ro Iₚ ∧ (∀ q j : Nat, ((q = p ∧ j = 6) ∨ (q = p ∧ j = 7) ∨ q = (p + 6) ∨ q = (p + 7)) ∨ Iₚ q j = I q j) ∧ (∀ q j : Nat, (False) ∨ Jₚ q j = J q j) ∧ (∃ z : Int, r = some (.inl z) ∧ (-1) ≤ z ∧ z ≤ 24 ∧ (z = -1 ∨ 1 ≤ z) ∧ (I p 6 = I p 7 ∨ ¬ Iₚ p 6 = Iₚ p 7))))) (56, [(3, .inl v3_5)], [], sh, gc_h sh I3 J4 A) := by
        intro m_8
        obtain ⟨hv3_5_8, e0_8⟩ := gz_h2 m_8
        have L65 : ∀ (s0_11 : Int), (((-1) ≤ s0_11 ∧ s0_11 ≤ 24) ∧ (s0_11 = -1 ∨ 1 ≤ s0_11) ∧ (I p 6 = I p 7 ∨ ¬ I3 p 6 = I3 p 7)) → gv_X (gc_E2 ws0 tb 3 (yX2_soundAll, cX2_soundAll, 6, (some .int)) kX2_soundAll) (gv_Q cX2_soundAll (some .int) sh (fun r hₚ => (∃ (Iₚ : gr_I) (Jₚ : gr_J), hₚ = gc_h sh Iₚ Jₚ A ∧ gc_Inv ro Iₚ ∧ (∀ q j : Nat, ((q = p ∧ j = 6) ∨ (q = p ∧ j = 7) ∨ q = (p + 6) ∨ q = (p + 7)) ∨ Iₚ q j = I q j) ∧ (∀ q j : Nat, (False) ∨ Jₚ q j = J q j) ∧ (∃ z : Int, r = some (.inl z) ∧ (-1) ≤ z ∧ z ≤ 24 ∧ (z = -1 ∨ 1 ≤ z) ∧ (I p 6 = I p 7 ∨ ¬ Iₚ p 6 = Iₚ p 7))))) (65, [], [.inl s0_11], sh, gc_h sh I3 J4 A) := by
          intro s0_11 m_11
          obtain ⟨hs0_11, e0_11, e1_11⟩ := gz_h3 m_11
          exact gv_iret hD rfl ⟨I3, J4, rfl, hI3, FI3, FJ4, ⟨_, rfl, by (/-3-/first | (and_intros; (have o1 := gz_sh hs0_11; omega); (have o1 := gz_sh hs0_11; omega); (have o1 := gz_sh e0_11; have o2 := gz_sh e1_11; have o3 := gz_sh hs0_11; omega); (have o1 := gz_sh e1_11; omega)) | (simp only [gz_hd] at *; omega))⟩⟩
        refine gv_run 1 true hD (pcₚ := 57) (lvₚ := [(3, .inl v3_5)]) (stₚ := [.inl v3_5]) (hₚ := gc_h sh I3 J4 A) (C := (True ∧ True)) rfl ⟨trivial, trivial⟩ ?_
        refine gv_if_le (t := 64) hD rfl rfl ⟨by (/-4-/first | (have o1 := gz_sh hv3_5; omega) | (simp only [gz_hd] at *; omega)), by (/-5-/first | (have o1 := gz_sh hv3_5; omega) | (simp only [gz_hd] at *; omega))⟩ (fun c14 => ?_) (fun c14 => ?_)
        · show gv_X _ _ (64, [(3, .inl v3_5)], [], sh, gc_h sh I3 J4 A)
          refine gv_run 1 true hD (pcₚ := 65) (lvₚ := [(3, .inl v3_5)]) (stₚ := [.inl (-1)]) (hₚ := gc_h sh I3 J4 A) (C := (True ∧ True)) rfl ⟨trivial, trivial⟩ ?_
          refine gv_pick [] rfl ?_
          exact L65 (-1) (by (/-6-/first | (and_intros; (omega); (omega); (omega); (have o1 := gz_sh e0_8; omega)) | (simp only [gz_hd] at *; omega)))
        · show gv_X _ _ (60, [(3, .inl v3_5)], [], sh, gc_h sh I3 J4 A)
          refine gv_run 2 true hD (pcₚ := 65) (lvₚ := [(3, .inl v3_5)]) (stₚ := [.inl v3_5]) (hₚ := gc_h sh I3 J4 A) (C := ((True ∧ True) ∧ True)) rfl ⟨⟨trivial, trivial⟩, trivial⟩ ?_
          refine gv_pick [] rfl ?_
          exact L65 v3_5 (by (/-7-/first | (and_intros; (have o1 := gz_sh hv3_5; omega); (have o1 := gz_sh hv3_5; omega); (have o1 := gz_sh hv3_5; omega); (have o1 := gz_sh e0_8; omega)) | (simp only [gz_hd] at *; omega)))
      refine gv_run 2 true hD (pcₚ := 8) (lvₚ := [(0, .inr (.inr (some p))), (1, .inr (.inr (some a1))), (3, .inl v3_5), (4, .inl v4_5)]) (stₚ := [.inr (.inr (some a1)), .inl v4_5]) (hₚ := gc_h sh I3 J4 A) (C := ((True ∧ True) ∧ True)) rfl ⟨⟨trivial, trivial⟩, trivial⟩ ?_
      have f15 := gz_hi ((show 0 ≤ I3 a1 6 ∧ I3 a1 6 ≤ 24 from gc_in2 hI3 (gz_sh R_a1) rfl rfl rfl))
      refine gv_get hD rfl rfl S_a1 ⟨by decide, (gz_sh B_a1)⟩ (gc_hI S_a1 rfl) ?_
      show gv_X _ _ (11, [(0, .inr (.inr (some p))), (1, .inr (.inr (some a1))), (3, .inl v3_5), (4, .inl v4_5)], [.inl (I3 a1 6), .inl v4_5], sh, gc_h sh I3 J4 A)
      refine gv_icmp_ge (t := 56) hD rfl rfl ⟨⟨by (/-8-/first | (have o1 := gz_sh hv4_5; omega) | (simp only [gz_hd] at *; omega)), by (/-9-/first | (have o1 := gz_sh hv4_5; omega) | (simp only [gz_hd] at *; omega))⟩, ⟨by (/-10-/first | (have o1 := gz_sh f15; omega) | (simp only [gz_hd] at *; omega)), by (/-11-/first | (have o1 := gz_sh f15; omega) | (simp only [gz_hd] at *; omega))⟩⟩ (fun c16 => ?_) (fun c16 => ?_)
      · show gv_X _ _ (56, [(0, .inr (.inr (some p))), (1, .inr (.inr (some a1))), (3, .inl v3_5), (4, .inl v4_5)], [], sh, gc_h sh I3 J4 A)
        refine gv_pick [2] rfl ?_
        exact L56 (by (/-12-/first | (and_intros; (have o1 := gz_sh hv3_5; omega); (have o1 := gz_sh hv3_5; omega); (have o1 := gz_sh e0_5; have o2 := gz_sh hv3_5; omega)) | (simp only [gz_hd] at *; omega)))
      · show gv_X _ _ (14, [(0, .inr (.inr (some p))), (1, .inr (.inr (some a1))), (3, .inl v3_5), (4, .inl v4_5)], [], sh, gc_h sh I3 J4 A)
        refine gv_run 1 true hD (pcₚ := 15) (lvₚ := [(0, .inr (.inr (some p))), (1, .inr (.inr (some a1))), (3, .inl v3_5), (4, .inl v4_5)]) (stₚ := [.inl v3_5]) (hₚ := gc_h sh I3 J4 A) (C := (True ∧ True)) rfl ⟨trivial, trivial⟩ ?_
        refine gv_if_le (t := 56) hD rfl rfl ⟨by (/-13-/first | (have o1 := gz_sh hv3_5; omega) | (simp only [gz_hd] at *; omega)), by (/-14-/first | (have o1 := gz_sh hv3_5; omega) | (simp only [gz_hd] at *; omega))⟩ (fun c17 => ?_) (fun c17 => ?_)
        · show gv_X _ _ (56, [(0, .inr (.inr (some p))), (1, .inr (.inr (some a1))), (3, .inl v3_5), (4, .inl v4_5)], [], sh, gc_h sh I3 J4 A)
          refine gv_pick [2] rfl ?_
          exact L56 (by (/-15-/first | (and_intros; (have o1 := gz_sh hv3_5; omega); (have o1 := gz_sh hv3_5; omega); (have o1 := gz_sh e0_5; have o2 := gz_sh hv3_5; omega)) | (simp only [gz_hd] at *; omega)))
        · show gv_X _ _ (18, [(0, .inr (.inr (some p))), (1, .inr (.inr (some a1))), (3, .inl v3_5), (4, .inl v4_5)], [], sh, gc_h sh I3 J4 A)
          refine gv_run 6 true hD (pcₚ := 26) (lvₚ := [(0, .inr (.inr (some p))), (1, .inr (.inr (some a1))), (3, .inl v3_5), (4, .inl v4_5)]) (stₚ := [.inl v3_5, .inl (v4_5 * 25), .inr (.inr (some a1)), .inr (.inr (some p))]) (hₚ := gc_h sh I3 J4 A) (C := ((((((True ∧ True) ∧ True) ∧ True) ∧ True) ∧ True) ∧ True)) rfl ⟨⟨⟨⟨⟨⟨trivial, trivial⟩, trivial⟩, trivial⟩, trivial⟩, trivial⟩, trivial⟩ ?_
          obtain ⟨r18, h18, E18, P18⟩ := d_X2_soundOnce (ws0 := ws0) (tb := tb) hws htb sh ro I3 J4 A hI3 p a1 (v4_5 * 25) v3_5 hp h_a1 G_a1  ⟨by (/-16-/first | (have o1 := gz_sh hv4_5; omega) | (simp only [gz_hd] at *; omega)), by (/-17-/first | (have o1 := gz_sh f15; have o2 := gz_sh hv4_5; omega) | (simp only [gz_hd] at *; omega))⟩ ⟨by (/-18-/first | (have o1 := gz_sh hv3_5; omega) | (simp only [gz_hd] at *; omega)), by (/-19-/first | (have o1 := gz_sh hv3_5; omega) | (simp only [gz_hd] at *; omega))⟩ (by (/-20-/first | omega | (simp only [gz_hd] at *; omega))) (gc_sc_fr x0 (fun k => (FI3 (a1 + 10) k).resolve_left (by (/-21-/first | omega | (simp only [gz_hd] at *; omega))))) (by (/-22-/first | omega | (simp only [gz_hd] at *; omega))) 
          obtain ⟨I19, J20, rfl, hI19, g18, k18, ⟨z18, rfl, q18⟩⟩ := P18
          replace q18 := gz_hi q18
          have FI19 := gc_frc (W := fun q j => (q = p ∧ j = 6) ∨ (q = p ∧ j = 7) ∨ q = (p + 6) ∨ q = (p + 7)) (V := fun q j => q = (p + 6) ∨ q = (p + 7)) FI3 (fun q j h => (h.elim (fun h => (Or.inr (Or.inr (Or.inl h)))) (fun h => (Or.inr (Or.inr (Or.inr h)))))) g18
          have t21 := gz_hi ((g18 p 6).resolve_left (fun h => h.elim (fun h => absurd h (gz_sh N_p__p_6)) (fun h => absurd h (gz_sh N_p__p_7))))
          have t22 := gz_hi ((g18 p 7).resolve_left (fun h => h.elim (fun h => absurd h (gz_sh N_p__p_6)) (fun h => absurd h (gz_sh N_p__p_7))))
          obtain rfl : J4 = J20 := funext fun q => funext fun j => ((k18 q j).resolve_left id).symm
          refine gv_callV hD rfl (As := [.inr (.inr (some a1)), .inl (v4_5 * 25), .inl v3_5]) (st := []) rfl (gz_sh B_p) S_p rfl (gc_lV2 hws rfl) (Nat.le_of_ble_eq_true rfl) (gz_Ev_mono (d := 3) (by decide) E18) ?_
          show gv_X _ _ (29, [(0, .inr (.inr (some p))), (1, .inr (.inr (some a1))), (3, .inl v3_5), (4, .inl v4_5)], [.inl z18], sh, gc_h sh I19 J4 A)
          refine gv_run 2 true hD (pcₚ := 31) (lvₚ := [(3, .inl z18), (0, .inr (.inr (some p))), (1, .inr (.inr (some a1))), (4, .inl v4_5)]) (stₚ := [.inr (.inr (some p))]) (hₚ := gc_h sh I19 J4 A) (C := ((True ∧ True) ∧ True)) rfl ⟨⟨trivial, trivial⟩, trivial⟩ ?_
          obtain ⟨f23_, hq_f23_, S_f23, R_f23, B_f23, D_f23⟩ := gc_sw (p := p) (d := 6) (s := 1) (z := I19 p 6) (show 0 ≤ I19 p 6 ∧ I19 p 6 ≤ 1 from gc_in2 hI19 (gz_sh R_p) rfl rfl rfl) S_p_6 (gz_sh R_p_6) (gz_sh B_p_6) S_p_7 (gz_sh R_p_7) (gz_sh B_p_7)
          refine gv_get hD rfl rfl S_p ⟨by decide, (gz_sh B_p)⟩ (gc_hS (n := 6) S_p rfl hq_f23_) ?_
          show gv_X _ _ (34, [(3, .inl z18), (0, .inr (.inr (some p))), (1, .inr (.inr (some a1))), (4, .inl v4_5)], [.inr (.inr (some f23_))], sh, gc_h sh I19 J4 A)
          refine gv_run 3 true hD (pcₚ := 38) (lvₚ := [(5, .inr (.inr (some f23_))), (3, .inl z18), (0, .inr (.inr (some p))), (1, .inr (.inr (some a1))), (4, .inl v4_5)]) (stₚ := [.inr (.inr (some p)), .inr (.inr (some p))]) (hₚ := gc_h sh I19 J4 A) (C := (((True ∧ True) ∧ True) ∧ True)) rfl ⟨⟨⟨trivial, trivial⟩, trivial⟩, trivial⟩ ?_
          obtain ⟨f25_, hq_f25_, S_f25, R_f25, B_f25, D_f25⟩ := gc_sw (p := p) (d := 6) (s := 1) (z := I19 p 7) (show 0 ≤ I19 p 7 ∧ I19 p 7 ≤ 1 from gc_in2 hI19 (gz_sh R_p) rfl rfl rfl) S_p_6 (gz_sh R_p_6) (gz_sh B_p_6) S_p_7 (gz_sh R_p_7) (gz_sh B_p_7)
          refine gv_get hD rfl rfl S_p ⟨by decide, (gz_sh B_p)⟩ (gc_hS (n := 6) S_p rfl hq_f25_) ?_
          show gv_X _ _ (41, [(5, .inr (.inr (some f23_))), (3, .inl z18), (0, .inr (.inr (some p))), (1, .inr (.inr (some a1))), (4, .inl v4_5)], [.inr (.inr (some f25_)), .inr (.inr (some p))], sh, gc_h sh I19 J4 A)
          refine gv_put hD rfl rfl S_p ⟨by decide, (gz_sh B_p)⟩ rfl trivial ?_
          refine gc_stS (n := 6) (b0 := (f25_ - (p + 6)) / 1) hI19 S_p rfl (by (/-23-/first | (have o1 := gz_sh B_p; have o2 := gz_sh B_p_1; have o3 := gz_sh B_p_2; have o4 := gz_sh B_p_3; have o5 := gz_sh B_p_4; have o6 := gz_sh B_p_5; have o7 := gz_sh B_p_6; have o8 := gz_sh B_p_7; omega) | (simp only [gz_hd] at *; omega))) (gz_sh R_p) (lo := 0) (hi := 1) rfl rfl (by (/-24-/first | omega | (simp only [gz_hd] at *; omega))) (by (/-25-/first | omega | (simp only [gz_hd] at *; omega))) (fun I27 hI27 q28 p28 => ?_)
          have FI27 := gc_frs (W := fun q j => (q = p ∧ j = 6) ∨ (q = p ∧ j = 7) ∨ q = (p + 6) ∨ q = (p + 7)) FI19 (Or.inl ⟨rfl, rfl⟩) p28
          have t29 := gz_hi (p28 p 7 (fun h => absurd h.2 (by first | exact gz_ne rfl | decide)))
          show gv_X _ _ (44, [(5, .inr (.inr (some f23_))), (3, .inl z18), (0, .inr (.inr (some p))), (1, .inr (.inr (some a1))), (4, .inl v4_5)], [], sh, gc_h sh I27 J4 A)
          refine gv_run 2 true hD (pcₚ := 47) (lvₚ := [(5, .inr (.inr (some f23_))), (3, .inl z18), (0, .inr (.inr (some p))), (1, .inr (.inr (some a1))), (4, .inl v4_5)]) (stₚ := [.inr (.inr (some f23_)), .inr (.inr (some p))]) (hₚ := gc_h sh I27 J4 A) (C := ((True ∧ True) ∧ True)) rfl ⟨⟨trivial, trivial⟩, trivial⟩ ?_
          refine gv_put hD rfl rfl S_p ⟨by decide, (gz_sh B_p)⟩ rfl trivial ?_
          refine gc_stS (n := 6) (b0 := (f23_ - (p + 6)) / 1) hI27 S_p rfl (by (/-26-/first | omega | (simp only [gz_hd] at *; omega))) (gz_sh R_p) (lo := 0) (hi := 1) rfl rfl (by (/-27-/first | omega | (simp only [gz_hd] at *; omega))) (by (/-28-/first | (have o1 := gz_sh f7; have o2 := gz_sh t22; have o3 := gz_sh t29; omega) | (simp only [gz_hd] at *; omega))) (fun I31 hI31 q32 p32 => ?_)
          have FI31 := gc_frs (W := fun q j => (q = p ∧ j = 6) ∨ (q = p ∧ j = 7) ∨ q = (p + 6) ∨ q = (p + 7)) FI27 (Or.inr (Or.inl ⟨rfl, rfl⟩)) p32
          have t33 := gz_hi (p32 p 6 (fun h => absurd h.2 (by first | exact gz_ne rfl | decide)))
          show gv_X _ _ (50, [(5, .inr (.inr (some f23_))), (3, .inl z18), (0, .inr (.inr (some p))), (1, .inr (.inr (some a1))), (4, .inl v4_5)], [], sh, gc_h sh I31 J4 A)
          refine gv_run 2 true hD (pcₚ := 5) (lvₚ := [(4, .inl (v4_5 + 1)), (5, .inr (.inr (some f23_))), (3, .inl z18), (0, .inr (.inr (some p))), (1, .inr (.inr (some a1)))]) (stₚ := []) (hₚ := gc_h sh I31 J4 A) (C := ((True ∧ True) ∧ True)) rfl ⟨⟨trivial, trivial⟩, trivial⟩ ?_
          refine gv_pick [3, 4, 2, 0] rfl ?_
          exact ih5 I31 J4 z18 (v4_5 + 1) (by (/-29-/first | (have o1 := gz_sh e0_5; have o2 := gz_sh f15; have o3 := gz_sh f6; have o4 := gz_sh f7; have o5 := gz_sh hv3_5; have o6 := gz_sh hv4_5; have o7 := gz_sh t21; have o8 := gz_sh t22; have o9 := gz_sh t29; have o10 := gz_sh t33; omega) | (simp only [gz_hd] at *; omega))) hI31 FI31 FJ4 (by (/-30-/first | (and_intros; (have o1 := gz_sh q18; omega); (have o1 := gz_sh q18; omega); (have o1 := gz_sh hv4_5; omega); (have o1 := gz_sh f15; have o2 := gz_sh hv4_5; omega); (have o1 := gz_sh e0_5; have o2 := gz_sh f6; have o3 := gz_sh f7; have o4 := gz_sh hv3_5; have o5 := gz_sh t21; have o6 := gz_sh t22; have o7 := gz_sh t29; have o8 := gz_sh t33; omega)) | (simp only [gz_hd] at *; omega)))
  refine gv_run 4 true hD (pcₚ := 5) (lvₚ := [(4, .inl 0), (3, .inl a2), (0, .inr (.inr (some p))), (1, .inr (.inr (some a1))), (2, .inl a2)]) (stₚ := []) (hₚ := gc_h sh I J A) (C := ((((True ∧ True) ∧ True) ∧ True) ∧ True)) rfl ⟨⟨⟨⟨trivial, trivial⟩, trivial⟩, trivial⟩, trivial⟩ ?_
  refine gv_pick [2, 3, 1, 0] rfl ?_
  exact L5 _ I J a2 0 (Nat.lt_succ_self _) hI FI FJ (by (/-31-/first | (and_intros <;> omega) | (simp only [gz_hd] at *; omega)))
set_option maxHeartbeats 8000000 in
set_option maxRecDepth 100000 in
theorem d_X2_join {ws0 : List Cond} {tb : String → gz_T} (hws : gc_Ws ws0) (htb : gc_tbs tb) (sh : gz_Sh) (ro : Nat → Nat) (I : gr_I) (J : gr_J) (A : gc_A) (hI : gc_Inv ro I) (p : Nat) (a1 : Nat) (a2 : Int) (a3 : Int) (hp : gc_isForms sh ro A p) (h_a1 : gc_isTongue sh ro A a1) (G_a1 : 144 ≤ a1) (ha2 : 0 ≤ a2 ∧ a2 ≤ 63) (ha3 : 0 ≤ a3 ∧ a3 ≤ 23) (x0 : p = a1 + 17) : ∃ r hₚ, gz_Ev ws0 tb 2 (yX2_join, cX2_join, 13, (some .int)) [.inr (.inr (some p)), .inr (.inr (some a1)), .inl a2, .inl a3] sh (gc_h sh I J A) r sh hₚ 0 0 ∧ (∃ (Iₚ : gr_I) (Jₚ : gr_J), hₚ = gc_h sh Iₚ Jₚ A ∧ gc_Inv ro Iₚ ∧ (∀ q j : Nat, (q = (p + 6) ∨ q = (p + 7)) ∨ Iₚ q j = I q j) ∧ (∀ q j : Nat, (False) ∨ Jₚ q j = J q j) ∧ (∃ z : Int, r = some (.inl z) ∧ (-1) ≤ z ∧ z ≤ 24)) := by
  have FI : ∀ q j : Nat, (q = (p + 6) ∨ q = (p + 7)) ∨ I q j = I q j := fun _ _ => Or.inr rfl
  have FJ : ∀ q j : Nat, (False) ∨ J q j = J q j := fun _ _ => Or.inr rfl
  obtain ⟨S_p, R_p, B_p, A_p_0, S_20, R_20, B_20, A_p_1, S_p_1, R_p_1, B_p_1, A_p_2, S_p_2, R_p_2, B_p_2, A_p_3, S_p_3, R_p_3, B_p_3, A_p_4, S_p_4, R_p_4, B_p_4, A_p_5, S_p_5, R_p_5, B_p_5, S_p_6, R_p_6, B_p_6, S_p_7, R_p_7, B_p_7⟩ := id hp
  replace R_p := gz_hi R_p
  replace B_p := gz_hi B_p
  replace R_20 := gz_hi R_20
  replace B_20 := gz_hi B_20
  replace R_p_1 := gz_hi R_p_1
  replace B_p_1 := gz_hi B_p_1
  replace R_p_2 := gz_hi R_p_2
  replace B_p_2 := gz_hi B_p_2
  replace R_p_3 := gz_hi R_p_3
  replace B_p_3 := gz_hi B_p_3
  replace R_p_4 := gz_hi R_p_4
  replace B_p_4 := gz_hi B_p_4
  replace R_p_5 := gz_hi R_p_5
  replace B_p_5 := gz_hi B_p_5
  replace R_p_6 := gz_hi R_p_6
  replace B_p_6 := gz_hi B_p_6
  replace R_p_7 := gz_hi R_p_7
  replace B_p_7 := gz_hi B_p_7
  obtain ⟨S_a1, R_a1, B_a1, A_a1_0, h_a1_1, A_a1_1, h_a1_3, A_a1_2, S_a1_5, R_a1_5, B_a1_5, A_a1_3, S_a1_6, R_a1_6, B_a1_6, A_a1_4, h_a1_7, A_a1_5, S_a1_9, R_a1_9, B_a1_9, A_a1_7, S_a1_10, R_a1_10, B_a1_10, A_a1_8, h_a1_11, A_a1_9, S_a1_13, R_a1_13, B_a1_13, A_a1_10, S_a1_14, R_a1_14, B_a1_14, A_a1_12, S_a1_15, R_a1_15, B_a1_15, A_a1_14, S_a1_16, R_a1_16, B_a1_16, A_a1_15, h_a1_17⟩ := id h_a1
  replace R_a1 := gz_hi R_a1
  replace B_a1 := gz_hi B_a1
  replace R_a1_5 := gz_hi R_a1_5
  replace B_a1_5 := gz_hi B_a1_5
  replace R_a1_6 := gz_hi R_a1_6
  replace B_a1_6 := gz_hi B_a1_6
  replace R_a1_9 := gz_hi R_a1_9
  replace B_a1_9 := gz_hi B_a1_9
  replace R_a1_10 := gz_hi R_a1_10
  replace B_a1_10 := gz_hi B_a1_10
  replace R_a1_13 := gz_hi R_a1_13
  replace B_a1_13 := gz_hi B_a1_13
  replace R_a1_14 := gz_hi R_a1_14
  replace B_a1_14 := gz_hi B_a1_14
  replace R_a1_15 := gz_hi R_a1_15
  replace B_a1_15 := gz_hi B_a1_15
  replace R_a1_16 := gz_hi R_a1_16
  replace B_a1_16 := gz_hi B_a1_16
  obtain ⟨S_a1_1, R_a1_1, B_a1_1, A_a1_1_0, S_a1_1_1, R_a1_1_1, B_a1_1_1, Q0_a1_1, Q1_a1_1, Q2_a1_1⟩ := id h_a1_1
  replace R_a1_1 := gz_hi R_a1_1
  replace B_a1_1 := gz_hi B_a1_1
  replace R_a1_1_1 := gz_hi R_a1_1_1
  replace B_a1_1_1 := gz_hi B_a1_1_1
  obtain ⟨S_a1_3, R_a1_3, B_a1_3, A_a1_3_0, S_a1_3_1, R_a1_3_1, B_a1_3_1, Q0_a1_3, Q1_a1_3, Q2_a1_3⟩ := id h_a1_3
  replace R_a1_3 := gz_hi R_a1_3
  replace B_a1_3 := gz_hi B_a1_3
  replace R_a1_3_1 := gz_hi R_a1_3_1
  replace B_a1_3_1 := gz_hi B_a1_3_1
  obtain ⟨S_a1_7, R_a1_7, B_a1_7, A_a1_7_0, S_a1_7_1, R_a1_7_1, B_a1_7_1, Q0_a1_7, Q1_a1_7, Q2_a1_7⟩ := id h_a1_7
  replace R_a1_7 := gz_hi R_a1_7
  replace B_a1_7 := gz_hi B_a1_7
  replace R_a1_7_1 := gz_hi R_a1_7_1
  replace B_a1_7_1 := gz_hi B_a1_7_1
  obtain ⟨S_a1_11, R_a1_11, B_a1_11, A_a1_11_0, S_a1_11_1, R_a1_11_1, B_a1_11_1, Q0_a1_11, Q1_a1_11, Q2_a1_11⟩ := id h_a1_11
  replace R_a1_11 := gz_hi R_a1_11
  replace B_a1_11 := gz_hi B_a1_11
  replace R_a1_11_1 := gz_hi R_a1_11_1
  replace B_a1_11_1 := gz_hi B_a1_11_1
  obtain ⟨S_a1_17, R_a1_17, B_a1_17, A_a1_17_0, S_20, R_20, B_20, A_a1_17_1, S_a1_17_1, R_a1_17_1, B_a1_17_1, A_a1_17_2, S_a1_17_2, R_a1_17_2, B_a1_17_2, A_a1_17_3, S_a1_17_3, R_a1_17_3, B_a1_17_3, A_a1_17_4, S_a1_17_4, R_a1_17_4, B_a1_17_4, A_a1_17_5, S_a1_17_5, R_a1_17_5, B_a1_17_5, S_a1_17_6, R_a1_17_6, B_a1_17_6, S_a1_17_7, R_a1_17_7, B_a1_17_7⟩ := id h_a1_17
  replace R_a1_17 := gz_hi R_a1_17
  replace B_a1_17 := gz_hi B_a1_17
  replace R_20 := gz_hi R_20
  replace B_20 := gz_hi B_20
  replace R_a1_17_1 := gz_hi R_a1_17_1
  replace B_a1_17_1 := gz_hi B_a1_17_1
  replace R_a1_17_2 := gz_hi R_a1_17_2
  replace B_a1_17_2 := gz_hi B_a1_17_2
  replace R_a1_17_3 := gz_hi R_a1_17_3
  replace B_a1_17_3 := gz_hi B_a1_17_3
  replace R_a1_17_4 := gz_hi R_a1_17_4
  replace B_a1_17_4 := gz_hi B_a1_17_4
  replace R_a1_17_5 := gz_hi R_a1_17_5
  replace B_a1_17_5 := gz_hi B_a1_17_5
  replace R_a1_17_6 := gz_hi R_a1_17_6
  replace B_a1_17_6 := gz_hi B_a1_17_6
  replace R_a1_17_7 := gz_hi R_a1_17_7
  replace B_a1_17_7 := gz_hi B_a1_17_7
  have hD : gv_D (gc_E2 ws0 tb 1 (yX2_join, cX2_join, 13, (some .int)) kX2_join) := gq_of oX2_join
  refine gc_ev2 (d := 1) (l := kX2_join) (Po := fun r hₚ => (∃ (Iₚ : gr_I) (Jₚ : gr_J), hₚ = gc_h sh Iₚ Jₚ A ∧ gc_Inv ro Iₚ ∧ (∀ q j : Nat, (q = (p + 6) ∨ q = (p + 7)) ∨ Iₚ q j = I q j) ∧ (∀ q j : Nat, (False) ∨ Jₚ q j = J q j) ∧ (∃ z : Int, r = some (.inl z) ∧ (-1) ≤ z ∧ z ≤ 24))) htb rfl (Nat.le_of_ble_eq_true rfl) ?_
  have L54 : ∀ (n9 : Nat) (I1 : gr_I) (J2 : gr_J) (v5_3 : Int) (v6_3 : Int) (v7_3 : Int) (v8_3 : Int) (v9_3 : Int), (4001 - v9_3).toNat < n9 → gc_Inv ro I1 → (∀ q j : Nat, (q = (p + 6) ∨ q = (p + 7)) ∨ I1 q j = I q j) → (∀ q j : Nat, (False) ∨ J2 q j = J q j) → ((5 ≤ v5_3 ∧ v5_3 ≤ 698) ∧ (0 ≤ v6_3 ∧ v6_3 ≤ 2000) ∧ ((-1) ≤ v7_3 ∧ v7_3 ≤ 4000) ∧ (0 ≤ v8_3 ∧ v8_3 ≤ 24) ∧ (0 ≤ v9_3 ∧ v9_3 ≤ 4000) ∧ (v5_3 = 11 * a2 + 5)) → gv_X (gc_E2 ws0 tb 1 (yX2_join, cX2_join, 13, (some .int)) kX2_join) (gv_Q cX2_join (some .int) sh (fun r hₚ => (∃ (Iₚ : gr_I) (Jₚ : gr_J), hₚ = gc_h sh Iₚ Jₚ A ∧ gc_Inv ro Iₚ ∧ (∀ q j : Nat, (q = (p + 6) ∨ q = (p + 7)) ∨ Iₚ q j = I q j) ∧ (∀ q j : Nat, (False) ∨ Jₚ q j = J q j) ∧ (∃ z : Int, r = some (.inl z) ∧ (-1) ≤ z ∧ z ≤ 24)))) (54, [(0, .inr (.inr (some p))), (1, .inr (.inr (some a1))), (5, .inl v5_3), (6, .inl v6_3), (7, .inl v7_3), (8, .inl v8_3), (9, .inl v9_3)], [], sh, gc_h sh I1 J2 A) := by
    intro n9
    induction n9 with
    | zero => intro I1 J2 v5_3 v6_3 v7_3 v8_3 v9_3 hn; (/-0-/first | omega | (simp only [gz_hd] at *; omega))
    | succ n9 ih54 =>
      intro I1 J2 v5_3 v6_3 v7_3 v8_3 v9_3 hn hI1 FI1 FJ2 m_3
      obtain ⟨hv5_3, hv6_3, hv7_3, hv8_3, hv9_3, e0_3⟩ := gz_h6 m_3
      have L131 : ∀ (v11_4 : Int) (v12_4 : Int), ((5 ≤ v5_3 ∧ v5_3 ≤ 698) ∧ (0 ≤ v6_3 ∧ v6_3 ≤ 2000) ∧ (1 ≤ v7_3 ∧ v7_3 ≤ 4000) ∧ (0 ≤ v8_3 ∧ v8_3 ≤ 24) ∧ (0 ≤ v9_3 ∧ v9_3 ≤ 3999) ∧ (0 ≤ v11_4 ∧ v11_4 ≤ 10000) ∧ (0 ≤ v12_4 ∧ v12_4 ≤ 12) ∧ (v5_3 = 11 * a2 + 5) ∧ (v9_3 < v7_3)) → gv_X (gc_E2 ws0 tb 1 (yX2_join, cX2_join, 13, (some .int)) kX2_join) (gv_Q cX2_join (some .int) sh (fun r hₚ => (∃ (Iₚ : gr_I) (Jₚ : gr_J), hₚ = gc_h sh Iₚ Jₚ A ∧ gc_Inv ro Iₚ ∧ (∀ q j : Nat, (q = (p + 6) ∨ q = (p + 7)) ∨ Iₚ q j = I q j) ∧ (∀ q j : Nat, (False) ∨ Jₚ q j = J q j) ∧ (∃ z : Int, r = some (.inl z) ∧ (-1) ≤ z ∧ z ≤ 24)))) (131, [(0, .inr (.inr (some p))), (1, .inr (.inr (some a1))), (5, .inl v5_3), (6, .inl v6_3), (7, .inl v7_3), (8, .inl v8_3), (9, .inl v9_3), (11, .inl v11_4), (12, .inl v12_4)], [], sh, gc_h sh I1 J2 A) := by
        intro v11_4 v12_4 m_4
        obtain ⟨hv5_3_4, hv6_3_4, hv7_3_4, hv8_3_4, hv9_3_4, hv11_4, hv12_4, e0_4, e1_4⟩ := gz_h9 m_4
        refine gv_run 4 true hD (pcₚ := 138) (lvₚ := [(0, .inr (.inr (some p))), (1, .inr (.inr (some a1))), (5, .inl v5_3), (6, .inl v6_3), (7, .inl v7_3), (8, .inl v8_3), (9, .inl v9_3), (11, .inl v11_4), (12, .inl v12_4)]) (stₚ := [.inl 24, .inl (v8_3 + v12_4)]) (hₚ := gc_h sh I1 J2 A) (C := ((((True ∧ True) ∧ True) ∧ True) ∧ True)) rfl ⟨⟨⟨⟨trivial, trivial⟩, trivial⟩, trivial⟩, trivial⟩ ?_
        refine gv_icmp_le (t := 143) hD rfl rfl ⟨⟨by (/-1-/first | (have o1 := gz_sh hv12_4; have o2 := gz_sh hv8_3; omega) | (simp only [gz_hd] at *; omega)), by (/-2-/first | (have o1 := gz_sh hv12_4; have o2 := gz_sh hv8_3; omega) | (simp only [gz_hd] at *; omega))⟩, ⟨by (/-3-/first | omega | (simp only [gz_hd] at *; omega)), by (/-4-/first | omega | (simp only [gz_hd] at *; omega))⟩⟩ (fun c5 => ?_) (fun c5 => ?_)
        · show gv_X _ _ (143, [(0, .inr (.inr (some p))), (1, .inr (.inr (some a1))), (5, .inl v5_3), (6, .inl v6_3), (7, .inl v7_3), (8, .inl v8_3), (9, .inl v9_3), (11, .inl v11_4), (12, .inl v12_4)], [], sh, gc_h sh I1 J2 A)
          refine gv_run 1 true hD (pcₚ := 144) (lvₚ := [(0, .inr (.inr (some p))), (1, .inr (.inr (some a1))), (5, .inl v5_3), (6, .inl v6_3), (7, .inl v7_3), (8, .inl v8_3), (9, .inl v9_3), (11, .inl v11_4), (12, .inl v12_4)]) (stₚ := [.inr (.inr (some p))]) (hₚ := gc_h sh I1 J2 A) (C := (True ∧ True)) rfl ⟨trivial, trivial⟩ ?_
          refine gv_get hD rfl rfl S_p ⟨by decide, (gz_sh B_p)⟩ (gc_hA S_p rfl A_p_0) ?_
          show gv_X _ _ (147, [(0, .inr (.inr (some p))), (1, .inr (.inr (some a1))), (5, .inl v5_3), (6, .inl v6_3), (7, .inl v7_3), (8, .inl v8_3), (9, .inl v9_3), (11, .inl v11_4), (12, .inl v12_4)], [.inr (.inr (some 20))], sh, gc_h sh I1 J2 A)
          refine gv_run 2 true hD (pcₚ := 150) (lvₚ := [(0, .inr (.inr (some p))), (1, .inr (.inr (some a1))), (5, .inl v5_3), (6, .inl v6_3), (7, .inl v7_3), (8, .inl v8_3), (9, .inl v9_3), (11, .inl v11_4), (12, .inl v12_4)]) (stₚ := [.inr (.inr (some p)), .inl v11_4, .inr (.inr (some 20))]) (hₚ := gc_h sh I1 J2 A) (C := ((True ∧ True) ∧ True)) rfl ⟨⟨trivial, trivial⟩, trivial⟩ ?_
          have f7 := gz_hi ((show 0 ≤ I1 p 6 ∧ I1 p 6 ≤ 1 from gc_in2 hI1 (gz_sh R_p) rfl rfl rfl))
          obtain ⟨f6_, hq_f6_, S_f6, R_f6, B_f6, D_f6⟩ := gc_sw (p := p) (d := 6) (s := 1) (z := I1 p 6) (show 0 ≤ I1 p 6 ∧ I1 p 6 ≤ 1 from gc_in2 hI1 (gz_sh R_p) rfl rfl rfl) S_p_6 (gz_sh R_p_6) (gz_sh B_p_6) S_p_7 (gz_sh R_p_7) (gz_sh B_p_7)
          refine gv_get hD rfl rfl S_p ⟨by decide, (gz_sh B_p)⟩ (gc_hS (n := 6) S_p rfl hq_f6_) ?_
          show gv_X _ _ (153, [(0, .inr (.inr (some p))), (1, .inr (.inr (some a1))), (5, .inl v5_3), (6, .inl v6_3), (7, .inl v7_3), (8, .inl v8_3), (9, .inl v9_3), (11, .inl v11_4), (12, .inl v12_4)], [.inr (.inr (some f6_)), .inl v11_4, .inr (.inr (some 20))], sh, gc_h sh I1 J2 A)
          refine gv_run 2 true hD (pcₚ := 157) (lvₚ := [(0, .inr (.inr (some p))), (1, .inr (.inr (some a1))), (5, .inl v5_3), (6, .inl v6_3), (7, .inl v7_3), (8, .inl v8_3), (9, .inl v9_3), (11, .inl v11_4), (12, .inl v12_4)]) (stₚ := [.inl v12_4, .inl v8_3, .inr (.inr (some f6_)), .inl v11_4, .inr (.inr (some 20))]) (hₚ := gc_h sh I1 J2 A) (C := ((True ∧ True) ∧ True)) rfl ⟨⟨trivial, trivial⟩, trivial⟩ ?_
          refine gv_copy hD rfl (gc_lC2_71 hws) (Nat.le_of_ble_eq_true rfl) ⟨(gz_sh B_20), B_f6⟩ S_20 S_f6 (by decide) ⟨by decide, by decide⟩ ⟨by (/-5-/first | (have o1 := gz_sh hv11_4; omega) | (simp only [gz_hd] at *; omega)), by (/-6-/first | (have o1 := gz_sh hv8_3; omega) | (simp only [gz_hd] at *; omega)), by (/-7-/first | (have o1 := gz_sh hv12_4; omega) | (simp only [gz_hd] at *; omega))⟩ (by (/-8-/first | (have o1 := gz_sh hv11_4; have o2 := gz_sh hv12_4; omega) | (simp only [gz_hd] at *; omega))) (by (/-9-/first | omega | (simp only [gz_hd] at *; omega))) (fun _ k _ => by rw [gc_iI S_20 rfl]; have h9 := (gc_b_36 hI1 (gz_sh R_20) (Int.toNat v11_4 + k)); exact ⟨by (/-10-/first | omega | (simp only [gz_hd] at *; omega)), by (/-11-/first | omega | (simp only [gz_hd] at *; omega))⟩) ?_
          refine gc_cp hI1 S_20 S_f6 (by decide) (fun j hj => by have h9 := (gc_b_36 hI1 (gz_sh R_20) (Int.toNat v11_4 + j)); rw [R_f6]; exact ⟨by show (-128) ≤ _; (/-12-/first | omega | (simp only [gz_hd] at *; omega)), by show _ ≤ 127; (/-13-/first | omega | (simp only [gz_hd] at *; omega))⟩) (fun I9 hI9 p8 q8 => ?_)
          have FI9 := gc_frp (W := fun q j => q = (p + 6) ∨ q = (p + 7)) (V := fun q j => q = f6_ ∧ Int.toNat v8_3 ≤ j ∧ j < Int.toNat v8_3 + Int.toNat v12_4) FI1 (fun q j h => (show q = (p + 6) ∨ q = (p + 7) from by have := h.1; (/-14-/first | omega | (simp only [gz_hd] at *; omega)))) p8
          show gv_X _ _ (160, [(0, .inr (.inr (some p))), (1, .inr (.inr (some a1))), (5, .inl v5_3), (6, .inl v6_3), (7, .inl v7_3), (8, .inl v8_3), (9, .inl v9_3), (11, .inl v11_4), (12, .inl v12_4)], [], sh, gc_h sh I9 J2 A)
          refine gv_run 6 true hD (pcₚ := 54) (lvₚ := [(9, .inl (v9_3 + 1)), (8, .inl (v8_3 + v12_4)), (0, .inr (.inr (some p))), (1, .inr (.inr (some a1))), (5, .inl v5_3), (6, .inl v6_3), (7, .inl v7_3), (11, .inl v11_4), (12, .inl v12_4)]) (stₚ := []) (hₚ := gc_h sh I9 J2 A) (C := ((((((True ∧ True) ∧ True) ∧ True) ∧ True) ∧ True) ∧ True)) rfl ⟨⟨⟨⟨⟨⟨trivial, trivial⟩, trivial⟩, trivial⟩, trivial⟩, trivial⟩, trivial⟩ ?_
          refine gv_pick [2, 3, 4, 5, 6, 1, 0] rfl ?_
          exact ih54 I9 J2 v5_3 v6_3 v7_3 (v8_3 + v12_4) (v9_3 + 1) (by (/-15-/first | (have o1 := gz_sh f7; have o2 := gz_sh hv9_3; have o3 := gz_sh hv9_3_4; omega) | (simp only [gz_hd] at *; omega))) hI9 FI9 FJ2 (by (/-16-/first | (and_intros; (have o1 := gz_sh hv5_3; omega); (have o1 := gz_sh hv5_3; omega); (have o1 := gz_sh hv6_3; omega); (have o1 := gz_sh hv6_3; omega); (have o1 := gz_sh hv7_3_4; omega); (have o1 := gz_sh hv7_3; omega); (have o1 := gz_sh hv12_4; have o2 := gz_sh hv8_3; omega); (omega); (have o1 := gz_sh hv9_3; omega); (have o1 := gz_sh hv9_3_4; omega); (have o1 := gz_sh e0_3; omega)) | (simp only [gz_hd] at *; omega)))
        · show gv_X _ _ (141, [(0, .inr (.inr (some p))), (1, .inr (.inr (some a1))), (5, .inl v5_3), (6, .inl v6_3), (7, .inl v7_3), (8, .inl v8_3), (9, .inl v9_3), (11, .inl v11_4), (12, .inl v12_4)], [], sh, gc_h sh I1 J2 A)
          refine gv_run 1 true hD (pcₚ := 142) (lvₚ := [(0, .inr (.inr (some p))), (1, .inr (.inr (some a1))), (5, .inl v5_3), (6, .inl v6_3), (7, .inl v7_3), (8, .inl v8_3), (9, .inl v9_3), (11, .inl v11_4), (12, .inl v12_4)]) (stₚ := [.inl (-1)]) (hₚ := gc_h sh I1 J2 A) (C := (True ∧ True)) rfl ⟨trivial, trivial⟩ ?_
          exact gv_iret hD rfl ⟨I1, J2, rfl, hI1, FI1, FJ2, ⟨_, rfl, by (/-17-/first | (and_intros <;> omega) | (simp only [gz_hd] at *; omega))⟩⟩
      have L186 : ∀ (s0_11 : Int), (((-1) ≤ s0_11 ∧ s0_11 ≤ 24)) → gv_X (gc_E2 ws0 tb 1 (yX2_join, cX2_join, 13, (some .int)) kX2_join) (gv_Q cX2_join (some .int) sh (fun r hₚ => (∃ (Iₚ : gr_I) (Jₚ : gr_J), hₚ = gc_h sh Iₚ Jₚ A ∧ gc_Inv ro Iₚ ∧ (∀ q j : Nat, (q = (p + 6) ∨ q = (p + 7)) ∨ Iₚ q j = I q j) ∧ (∀ q j : Nat, (False) ∨ Jₚ q j = J q j) ∧ (∃ z : Int, r = some (.inl z) ∧ (-1) ≤ z ∧ z ≤ 24)))) (186, [], [.inl s0_11], sh, gc_h sh I1 J2 A) := by
        intro s0_11 m_11
        have hs0_11 := m_11
        exact gv_iret hD rfl ⟨I1, J2, rfl, hI1, FI1, FJ2, ⟨_, rfl, by (/-18-/first | omega | (simp only [gz_hd] at *; omega))⟩⟩
      refine gv_run 2 true hD (pcₚ := 58) (lvₚ := [(0, .inr (.inr (some p))), (1, .inr (.inr (some a1))), (5, .inl v5_3), (6, .inl v6_3), (7, .inl v7_3), (8, .inl v8_3), (9, .inl v9_3)]) (stₚ := [.inl v7_3, .inl v9_3]) (hₚ := gc_h sh I1 J2 A) (C := ((True ∧ True) ∧ True)) rfl ⟨⟨trivial, trivial⟩, trivial⟩ ?_
      refine gv_icmp_ge (t := 173) hD rfl rfl ⟨⟨by (/-19-/first | (have o1 := gz_sh hv9_3; omega) | (simp only [gz_hd] at *; omega)), by (/-20-/first | (have o1 := gz_sh hv9_3; omega) | (simp only [gz_hd] at *; omega))⟩, ⟨by (/-21-/first | (have o1 := gz_sh hv7_3; omega) | (simp only [gz_hd] at *; omega)), by (/-22-/first | (have o1 := gz_sh hv7_3; omega) | (simp only [gz_hd] at *; omega))⟩⟩ (fun c12 => ?_) (fun c12 => ?_)
      · show gv_X _ _ (173, [(0, .inr (.inr (some p))), (1, .inr (.inr (some a1))), (5, .inl v5_3), (6, .inl v6_3), (7, .inl v7_3), (8, .inl v8_3), (9, .inl v9_3)], [], sh, gc_h sh I1 J2 A)
        refine gv_run 2 true hD (pcₚ := 177) (lvₚ := [(0, .inr (.inr (some p))), (1, .inr (.inr (some a1))), (5, .inl v5_3), (6, .inl v6_3), (7, .inl v7_3), (8, .inl v8_3), (9, .inl v9_3)]) (stₚ := [.inl v6_3, .inl v7_3]) (hₚ := gc_h sh I1 J2 A) (C := ((True ∧ True) ∧ True)) rfl ⟨⟨trivial, trivial⟩, trivial⟩ ?_
        refine gv_icmp_ge (t := 184) hD rfl rfl ⟨⟨by (/-23-/first | (have o1 := gz_sh hv7_3; omega) | (simp only [gz_hd] at *; omega)), by (/-24-/first | (have o1 := gz_sh hv7_3; omega) | (simp only [gz_hd] at *; omega))⟩, ⟨by (/-25-/first | (have o1 := gz_sh hv6_3; omega) | (simp only [gz_hd] at *; omega)), by (/-26-/first | (have o1 := gz_sh hv6_3; omega) | (simp only [gz_hd] at *; omega))⟩⟩ (fun c13 => ?_) (fun c13 => ?_)
        · show gv_X _ _ (184, [(0, .inr (.inr (some p))), (1, .inr (.inr (some a1))), (5, .inl v5_3), (6, .inl v6_3), (7, .inl v7_3), (8, .inl v8_3), (9, .inl v9_3)], [], sh, gc_h sh I1 J2 A)
          refine gv_run 1 true hD (pcₚ := 186) (lvₚ := [(0, .inr (.inr (some p))), (1, .inr (.inr (some a1))), (5, .inl v5_3), (6, .inl v6_3), (7, .inl v7_3), (8, .inl v8_3), (9, .inl v9_3)]) (stₚ := [.inl v8_3]) (hₚ := gc_h sh I1 J2 A) (C := (True ∧ True)) rfl ⟨trivial, trivial⟩ ?_
          refine gv_pick [] rfl ?_
          exact L186 v8_3 (by (/-27-/first | (and_intros; (have o1 := gz_sh hv8_3; omega); (have o1 := gz_sh hv8_3; omega)) | (simp only [gz_hd] at *; omega)))
        · show gv_X _ _ (180, [(0, .inr (.inr (some p))), (1, .inr (.inr (some a1))), (5, .inl v5_3), (6, .inl v6_3), (7, .inl v7_3), (8, .inl v8_3), (9, .inl v9_3)], [], sh, gc_h sh I1 J2 A)
          refine gv_run 2 true hD (pcₚ := 186) (lvₚ := [(0, .inr (.inr (some p))), (1, .inr (.inr (some a1))), (5, .inl v5_3), (6, .inl v6_3), (7, .inl v7_3), (8, .inl v8_3), (9, .inl v9_3)]) (stₚ := [.inl (-1)]) (hₚ := gc_h sh I1 J2 A) (C := ((True ∧ True) ∧ True)) rfl ⟨⟨trivial, trivial⟩, trivial⟩ ?_
          refine gv_pick [] rfl ?_
          exact L186 (-1) (by (/-28-/first | (and_intros <;> omega) | (simp only [gz_hd] at *; omega)))
      · show gv_X _ _ (61, [(0, .inr (.inr (some p))), (1, .inr (.inr (some a1))), (5, .inl v5_3), (6, .inl v6_3), (7, .inl v7_3), (8, .inl v8_3), (9, .inl v9_3)], [], sh, gc_h sh I1 J2 A)
        refine gv_run 1 true hD (pcₚ := 62) (lvₚ := [(0, .inr (.inr (some p))), (1, .inr (.inr (some a1))), (5, .inl v5_3), (6, .inl v6_3), (7, .inl v7_3), (8, .inl v8_3), (9, .inl v9_3)]) (stₚ := [.inr (.inr (some p))]) (hₚ := gc_h sh I1 J2 A) (C := (True ∧ True)) rfl ⟨trivial, trivial⟩ ?_
        refine gv_get hD rfl rfl S_p ⟨by decide, (gz_sh B_p)⟩ (gc_hA S_p rfl A_p_0) ?_
        show gv_X _ _ (65, [(0, .inr (.inr (some p))), (1, .inr (.inr (some a1))), (5, .inl v5_3), (6, .inl v6_3), (7, .inl v7_3), (8, .inl v8_3), (9, .inl v9_3)], [.inr (.inr (some 20))], sh, gc_h sh I1 J2 A)
        refine gv_run 1 true hD (pcₚ := 67) (lvₚ := [(0, .inr (.inr (some p))), (1, .inr (.inr (some a1))), (5, .inl v5_3), (6, .inl v6_3), (7, .inl v7_3), (8, .inl v8_3), (9, .inl v9_3)]) (stₚ := [.inl v9_3, .inr (.inr (some 20))]) (hₚ := gc_h sh I1 J2 A) (C := (True ∧ True)) rfl ⟨trivial, trivial⟩ ?_
        have f14 := gz_hi ((gc_b_36 hI1 (gz_sh R_20) (Int.toNat v9_3)))
        refine gv_bald hD rfl S_20 (Or.inl rfl) ⟨by decide, (gz_sh B_20)⟩ ⟨by (/-29-/first | (have o1 := gz_sh hv9_3; omega) | (simp only [gz_hd] at *; omega)), by (/-30-/first | (have o1 := gz_sh hv9_3; omega) | (simp only [gz_hd] at *; omega))⟩ (gc_iI S_20 rfl) ?_
        show gv_X _ _ (68, [(0, .inr (.inr (some p))), (1, .inr (.inr (some a1))), (5, .inl v5_3), (6, .inl v6_3), (7, .inl v7_3), (8, .inl v8_3), (9, .inl v9_3)], [.inl (I1 20 (Int.toNat v9_3))], sh, gc_h sh I1 J2 A)
        refine gv_run 7 true hD (pcₚ := 80) (lvₚ := [(12, .inl 1), (11, .inl v9_3), (10, .inl (I1 20 (Int.toNat v9_3))), (0, .inr (.inr (some p))), (1, .inr (.inr (some a1))), (5, .inl v5_3), (6, .inl v6_3), (7, .inl v7_3), (8, .inl v8_3), (9, .inl v9_3)]) (stₚ := [.inl 3, .inl (I1 20 (Int.toNat v9_3))]) (hₚ := gc_h sh I1 J2 A) (C := (((((((True ∧ True) ∧ True) ∧ True) ∧ True) ∧ True) ∧ True) ∧ True)) rfl ⟨⟨⟨⟨⟨⟨⟨trivial, trivial⟩, trivial⟩, trivial⟩, trivial⟩, trivial⟩, trivial⟩, trivial⟩ ?_
        refine gv_icmp_gt (t := 131) hD rfl rfl ⟨⟨by (/-31-/first | (have o1 := gz_sh f14; omega) | (simp only [gz_hd] at *; omega)), by (/-32-/first | (have o1 := gz_sh f14; omega) | (simp only [gz_hd] at *; omega))⟩, ⟨by (/-33-/first | omega | (simp only [gz_hd] at *; omega)), by (/-34-/first | omega | (simp only [gz_hd] at *; omega))⟩⟩ (fun c15 => ?_) (fun c15 => ?_)
        · show gv_X _ _ (131, [(12, .inl 1), (11, .inl v9_3), (10, .inl (I1 20 (Int.toNat v9_3))), (0, .inr (.inr (some p))), (1, .inr (.inr (some a1))), (5, .inl v5_3), (6, .inl v6_3), (7, .inl v7_3), (8, .inl v8_3), (9, .inl v9_3)], [], sh, gc_h sh I1 J2 A)
          refine gv_pick [3, 4, 5, 6, 7, 8, 9, 1, 0] rfl ?_
          exact L131 v9_3 1 (by (/-35-/first | (and_intros; (have o1 := gz_sh hv5_3; omega); (have o1 := gz_sh hv5_3; omega); (have o1 := gz_sh hv6_3; omega); (have o1 := gz_sh hv6_3; omega); (have o1 := gz_sh hv9_3; omega); (have o1 := gz_sh hv7_3; omega); (have o1 := gz_sh hv8_3; omega); (have o1 := gz_sh hv8_3; omega); (have o1 := gz_sh hv9_3; omega); (have o1 := gz_sh hv7_3; omega); (have o1 := gz_sh hv9_3; omega); (have o1 := gz_sh hv9_3; omega); (omega); (omega); (have o1 := gz_sh e0_3; omega); (omega)) | (simp only [gz_hd] at *; omega)))
        · show gv_X _ _ (83, [(12, .inl 1), (11, .inl v9_3), (10, .inl (I1 20 (Int.toNat v9_3))), (0, .inr (.inr (some p))), (1, .inr (.inr (some a1))), (5, .inl v5_3), (6, .inl v6_3), (7, .inl v7_3), (8, .inl v8_3), (9, .inl v9_3)], [], sh, gc_h sh I1 J2 A)
          refine gv_run 2 true hD (pcₚ := 86) (lvₚ := [(12, .inl 1), (11, .inl v9_3), (10, .inl (I1 20 (Int.toNat v9_3))), (0, .inr (.inr (some p))), (1, .inr (.inr (some a1))), (5, .inl v5_3), (6, .inl v6_3), (7, .inl v7_3), (8, .inl v8_3), (9, .inl v9_3)]) (stₚ := [.inr (.inr (some a1)), .inl (I1 20 (Int.toNat v9_3))]) (hₚ := gc_h sh I1 J2 A) (C := ((True ∧ True) ∧ True)) rfl ⟨⟨trivial, trivial⟩, trivial⟩ ?_
          refine gv_get hD rfl rfl S_a1 ⟨by decide, (gz_sh B_a1)⟩ (gc_hA S_a1 rfl A_a1_12) ?_
          show gv_X _ _ (89, [(12, .inl 1), (11, .inl v9_3), (10, .inl (I1 20 (Int.toNat v9_3))), (0, .inr (.inr (some p))), (1, .inr (.inr (some a1))), (5, .inl v5_3), (6, .inl v6_3), (7, .inl v7_3), (8, .inl v8_3), (9, .inl v9_3)], [.inr (.inr (some (a1 + 15))), .inl (I1 20 (Int.toNat v9_3))], sh, gc_h sh I1 J2 A)
          refine gv_run 3 true hD (pcₚ := 93) (lvₚ := [(12, .inl 1), (11, .inl v9_3), (10, .inl (I1 20 (Int.toNat v9_3))), (0, .inr (.inr (some p))), (1, .inr (.inr (some a1))), (5, .inl v5_3), (6, .inl v6_3), (7, .inl v7_3), (8, .inl v8_3), (9, .inl v9_3)]) (stₚ := [.inl (v5_3 - 1), .inr (.inr (some (a1 + 15))), .inl (I1 20 (Int.toNat v9_3))]) (hₚ := gc_h sh I1 J2 A) (C := (((True ∧ True) ∧ True) ∧ True)) rfl ⟨⟨⟨trivial, trivial⟩, trivial⟩, trivial⟩ ?_
          have f16 := gz_hi ((show 0 ≤ I1 (a1 + 15) (Int.toNat (v5_3 - 1)) ∧ I1 (a1 + 15) (Int.toNat (v5_3 - 1)) ≤ 3 from gc_inm (c := 4) hI1 (gz_sh R_a1_15) rfl rfl (by (/-36-/first | (have o1 := gz_sh e0_3; have o2 := gz_sh hv5_3; omega) | (simp only [gz_hd] at *; omega))) rfl rfl))
          refine gv_iald hD rfl S_a1_15 rfl ⟨by decide, (gz_sh B_a1_15)⟩ ⟨by (/-37-/first | (have o1 := gz_sh hv5_3; omega) | (simp only [gz_hd] at *; omega)), by (/-38-/first | (have o1 := gz_sh hv5_3; omega) | (simp only [gz_hd] at *; omega))⟩ (gc_iI S_a1_15 rfl) ?_
          show gv_X _ _ (94, [(12, .inl 1), (11, .inl v9_3), (10, .inl (I1 20 (Int.toNat v9_3))), (0, .inr (.inr (some p))), (1, .inr (.inr (some a1))), (5, .inl v5_3), (6, .inl v6_3), (7, .inl v7_3), (8, .inl v8_3), (9, .inl v9_3)], [.inl (I1 (a1 + 15) (Int.toNat (v5_3 - 1))), .inl (I1 20 (Int.toNat v9_3))], sh, gc_h sh I1 J2 A)
          refine gv_icmp_le (t := 99) hD rfl rfl ⟨⟨by (/-39-/first | (have o1 := gz_sh f14; omega) | (simp only [gz_hd] at *; omega)), by (/-40-/first | omega | (simp only [gz_hd] at *; omega))⟩, ⟨by (/-41-/first | (have o1 := gz_sh f16; omega) | (simp only [gz_hd] at *; omega)), by (/-42-/first | (have o1 := gz_sh f16; omega) | (simp only [gz_hd] at *; omega))⟩⟩ (fun c17 => ?_) (fun c17 => ?_)
          · show gv_X _ _ (99, [(12, .inl 1), (11, .inl v9_3), (10, .inl (I1 20 (Int.toNat v9_3))), (0, .inr (.inr (some p))), (1, .inr (.inr (some a1))), (5, .inl v5_3), (6, .inl v6_3), (7, .inl v7_3), (8, .inl v8_3), (9, .inl v9_3)], [], sh, gc_h sh I1 J2 A)
            refine gv_run 1 true hD (pcₚ := 100) (lvₚ := [(12, .inl 1), (11, .inl v9_3), (10, .inl (I1 20 (Int.toNat v9_3))), (0, .inr (.inr (some p))), (1, .inr (.inr (some a1))), (5, .inl v5_3), (6, .inl v6_3), (7, .inl v7_3), (8, .inl v8_3), (9, .inl v9_3)]) (stₚ := [.inr (.inr (some a1))]) (hₚ := gc_h sh I1 J2 A) (C := (True ∧ True)) rfl ⟨trivial, trivial⟩ ?_
            refine gv_get hD rfl rfl S_a1 ⟨by decide, (gz_sh B_a1)⟩ (gc_hA S_a1 rfl A_a1_12) ?_
            show gv_X _ _ (103, [(12, .inl 1), (11, .inl v9_3), (10, .inl (I1 20 (Int.toNat v9_3))), (0, .inr (.inr (some p))), (1, .inr (.inr (some a1))), (5, .inl v5_3), (6, .inl v6_3), (7, .inl v7_3), (8, .inl v8_3), (9, .inl v9_3)], [.inr (.inr (some (a1 + 15)))], sh, gc_h sh I1 J2 A)
            refine gv_run 7 true hD (pcₚ := 112) (lvₚ := [(12, .inl 1), (11, .inl v9_3), (10, .inl (I1 20 (Int.toNat v9_3))), (0, .inr (.inr (some p))), (1, .inr (.inr (some a1))), (5, .inl v5_3), (6, .inl v6_3), (7, .inl v7_3), (8, .inl v8_3), (9, .inl v9_3)]) (stₚ := [.inl ((v5_3 + (2 * (I1 20 (Int.toNat v9_3)))) - 2), .inr (.inr (some (a1 + 15)))]) (hₚ := gc_h sh I1 J2 A) (C := (((((((True ∧ True) ∧ True) ∧ True) ∧ True) ∧ True) ∧ True) ∧ True)) rfl ⟨⟨⟨⟨⟨⟨⟨trivial, trivial⟩, trivial⟩, trivial⟩, trivial⟩, trivial⟩, trivial⟩, trivial⟩ ?_
            have t18 := gz_hi ((show I1 20 (Int.toNat v9_3) = 0 ∨ I1 20 (Int.toNat v9_3) = 1 ∨ I1 20 (Int.toNat v9_3) = 2 ∨ I1 20 (Int.toNat v9_3) = 3 from by (/-43-/first | (have o1 := gz_sh f14; omega) | (simp only [gz_hd] at *; omega))))
            have f19 := gz_hi ((show 0 ≤ I1 (a1 + 15) (Int.toNat (((v5_3 + (2 * (I1 20 (Int.toNat v9_3)))) - 2))) ∧ I1 (a1 + 15) (Int.toNat (((v5_3 + (2 * (I1 20 (Int.toNat v9_3)))) - 2))) ≤ 10000 from ((fun hc => hc.elim (fun hc => (have h9 : 0 ≤ I1 (a1 + 15) (Int.toNat (((v5_3 + (2 * (I1 20 (Int.toNat v9_3)))) - 2))) ∧ I1 (a1 + 15) (Int.toNat (((v5_3 + (2 * (I1 20 (Int.toNat v9_3)))) - 2))) ≤ 10000 := gc_inm hI1 (gz_sh R_a1_15) rfl rfl hc rfl rfl; ⟨by (/-44-/first | omega | (simp only [gz_hd] at *; omega)), by (/-45-/first | omega | (simp only [gz_hd] at *; omega))⟩)) (fun hc => hc.elim (fun hc => (have h9 : 0 ≤ I1 (a1 + 15) (Int.toNat (((v5_3 + (2 * (I1 20 (Int.toNat v9_3)))) - 2))) ∧ I1 (a1 + 15) (Int.toNat (((v5_3 + (2 * (I1 20 (Int.toNat v9_3)))) - 2))) ≤ 2000 := gc_inm hI1 (gz_sh R_a1_15) rfl rfl hc rfl rfl; ⟨by (/-46-/first | omega | (simp only [gz_hd] at *; omega)), by (/-47-/first | omega | (simp only [gz_hd] at *; omega))⟩)) (fun hc => hc.elim (fun hc => (have h9 : 0 ≤ I1 (a1 + 15) (Int.toNat (((v5_3 + (2 * (I1 20 (Int.toNat v9_3)))) - 2))) ∧ I1 (a1 + 15) (Int.toNat (((v5_3 + (2 * (I1 20 (Int.toNat v9_3)))) - 2))) ≤ 2000 := gc_inm hI1 (gz_sh R_a1_15) rfl rfl hc rfl rfl; ⟨by (/-48-/first | omega | (simp only [gz_hd] at *; omega)), by (/-49-/first | omega | (simp only [gz_hd] at *; omega))⟩)) (fun hc => (have h9 : 0 ≤ I1 (a1 + 15) (Int.toNat (((v5_3 + (2 * (I1 20 (Int.toNat v9_3)))) - 2))) ∧ I1 (a1 + 15) (Int.toNat (((v5_3 + (2 * (I1 20 (Int.toNat v9_3)))) - 2))) ≤ 2000 := gc_inm hI1 (gz_sh R_a1_15) rfl rfl hc rfl rfl; ⟨by (/-50-/first | omega | (simp only [gz_hd] at *; omega)), by (/-51-/first | omega | (simp only [gz_hd] at *; omega))⟩))))) (show (Int.toNat (((v5_3 + (2 * (I1 20 (Int.toNat v9_3)))) - 2))) % 11 = 3 ∨ (Int.toNat (((v5_3 + (2 * (I1 20 (Int.toNat v9_3)))) - 2))) % 11 = 5 ∨ (Int.toNat (((v5_3 + (2 * (I1 20 (Int.toNat v9_3)))) - 2))) % 11 = 7 ∨ (Int.toNat (((v5_3 + (2 * (I1 20 (Int.toNat v9_3)))) - 2))) % 11 = 9 from by (/-52-/first | (have o1 := gz_sh e0_3; have o2 := gz_sh f14; have o3 := gz_sh t18; omega) | (simp only [gz_hd] at *; omega))))))
            refine gv_iald hD rfl S_a1_15 rfl ⟨by decide, (gz_sh B_a1_15)⟩ ⟨by (/-53-/first | (have o1 := gz_sh e0_3; have o2 := gz_sh f14; omega) | (simp only [gz_hd] at *; omega)), by (/-54-/first | (have o1 := gz_sh e0_3; omega) | (simp only [gz_hd] at *; omega))⟩ (gc_iI S_a1_15 rfl) ?_
            show gv_X _ _ (113, [(12, .inl 1), (11, .inl v9_3), (10, .inl (I1 20 (Int.toNat v9_3))), (0, .inr (.inr (some p))), (1, .inr (.inr (some a1))), (5, .inl v5_3), (6, .inl v6_3), (7, .inl v7_3), (8, .inl v8_3), (9, .inl v9_3)], [.inl (I1 (a1 + 15) (Int.toNat (((v5_3 + (2 * (I1 20 (Int.toNat v9_3)))) - 2))))], sh, gc_h sh I1 J2 A)
            refine gv_run 2 true hD (pcₚ := 116) (lvₚ := [(11, .inl (I1 (a1 + 15) (Int.toNat (((v5_3 + (2 * (I1 20 (Int.toNat v9_3)))) - 2))))), (12, .inl 1), (10, .inl (I1 20 (Int.toNat v9_3))), (0, .inr (.inr (some p))), (1, .inr (.inr (some a1))), (5, .inl v5_3), (6, .inl v6_3), (7, .inl v7_3), (8, .inl v8_3), (9, .inl v9_3)]) (stₚ := [.inr (.inr (some a1))]) (hₚ := gc_h sh I1 J2 A) (C := ((True ∧ True) ∧ True)) rfl ⟨⟨trivial, trivial⟩, trivial⟩ ?_
            refine gv_get hD rfl rfl S_a1 ⟨by decide, (gz_sh B_a1)⟩ (gc_hA S_a1 rfl A_a1_12) ?_
            show gv_X _ _ (119, [(11, .inl (I1 (a1 + 15) (Int.toNat (((v5_3 + (2 * (I1 20 (Int.toNat v9_3)))) - 2))))), (12, .inl 1), (10, .inl (I1 20 (Int.toNat v9_3))), (0, .inr (.inr (some p))), (1, .inr (.inr (some a1))), (5, .inl v5_3), (6, .inl v6_3), (7, .inl v7_3), (8, .inl v8_3), (9, .inl v9_3)], [.inr (.inr (some (a1 + 15)))], sh, gc_h sh I1 J2 A)
            refine gv_run 7 true hD (pcₚ := 128) (lvₚ := [(11, .inl (I1 (a1 + 15) (Int.toNat (((v5_3 + (2 * (I1 20 (Int.toNat v9_3)))) - 2))))), (12, .inl 1), (10, .inl (I1 20 (Int.toNat v9_3))), (0, .inr (.inr (some p))), (1, .inr (.inr (some a1))), (5, .inl v5_3), (6, .inl v6_3), (7, .inl v7_3), (8, .inl v8_3), (9, .inl v9_3)]) (stₚ := [.inl ((v5_3 + (2 * (I1 20 (Int.toNat v9_3)))) - 1), .inr (.inr (some (a1 + 15)))]) (hₚ := gc_h sh I1 J2 A) (C := (((((((True ∧ True) ∧ True) ∧ True) ∧ True) ∧ True) ∧ True) ∧ True)) rfl ⟨⟨⟨⟨⟨⟨⟨trivial, trivial⟩, trivial⟩, trivial⟩, trivial⟩, trivial⟩, trivial⟩, trivial⟩ ?_
            have t20 := gz_hi ((show I1 20 (Int.toNat v9_3) = 0 ∨ I1 20 (Int.toNat v9_3) = 1 ∨ I1 20 (Int.toNat v9_3) = 2 ∨ I1 20 (Int.toNat v9_3) = 3 from by (/-55-/first | (have o1 := gz_sh t18; omega) | (simp only [gz_hd] at *; omega))))
            have f21 := gz_hi ((show 0 ≤ I1 (a1 + 15) (Int.toNat (((v5_3 + (2 * (I1 20 (Int.toNat v9_3)))) - 1))) ∧ I1 (a1 + 15) (Int.toNat (((v5_3 + (2 * (I1 20 (Int.toNat v9_3)))) - 1))) ≤ 12 from ((fun hc => hc.elim (fun hc => (have h9 : 0 ≤ I1 (a1 + 15) (Int.toNat (((v5_3 + (2 * (I1 20 (Int.toNat v9_3)))) - 1))) ∧ I1 (a1 + 15) (Int.toNat (((v5_3 + (2 * (I1 20 (Int.toNat v9_3)))) - 1))) ≤ 3 := gc_inm hI1 (gz_sh R_a1_15) rfl rfl hc rfl rfl; ⟨by (/-56-/first | omega | (simp only [gz_hd] at *; omega)), by (/-57-/first | omega | (simp only [gz_hd] at *; omega))⟩)) (fun hc => hc.elim (fun hc => (have h9 : 0 ≤ I1 (a1 + 15) (Int.toNat (((v5_3 + (2 * (I1 20 (Int.toNat v9_3)))) - 1))) ∧ I1 (a1 + 15) (Int.toNat (((v5_3 + (2 * (I1 20 (Int.toNat v9_3)))) - 1))) ≤ 12 := gc_inm hI1 (gz_sh R_a1_15) rfl rfl hc rfl rfl; ⟨by (/-58-/first | omega | (simp only [gz_hd] at *; omega)), by (/-59-/first | omega | (simp only [gz_hd] at *; omega))⟩)) (fun hc => hc.elim (fun hc => (have h9 : 0 ≤ I1 (a1 + 15) (Int.toNat (((v5_3 + (2 * (I1 20 (Int.toNat v9_3)))) - 1))) ∧ I1 (a1 + 15) (Int.toNat (((v5_3 + (2 * (I1 20 (Int.toNat v9_3)))) - 1))) ≤ 12 := gc_inm hI1 (gz_sh R_a1_15) rfl rfl hc rfl rfl; ⟨by (/-60-/first | omega | (simp only [gz_hd] at *; omega)), by (/-61-/first | omega | (simp only [gz_hd] at *; omega))⟩)) (fun hc => (have h9 : 0 ≤ I1 (a1 + 15) (Int.toNat (((v5_3 + (2 * (I1 20 (Int.toNat v9_3)))) - 1))) ∧ I1 (a1 + 15) (Int.toNat (((v5_3 + (2 * (I1 20 (Int.toNat v9_3)))) - 1))) ≤ 12 := gc_inm hI1 (gz_sh R_a1_15) rfl rfl hc rfl rfl; ⟨by (/-62-/first | omega | (simp only [gz_hd] at *; omega)), by (/-63-/first | omega | (simp only [gz_hd] at *; omega))⟩))))) (show (Int.toNat (((v5_3 + (2 * (I1 20 (Int.toNat v9_3)))) - 1))) % 11 = 4 ∨ (Int.toNat (((v5_3 + (2 * (I1 20 (Int.toNat v9_3)))) - 1))) % 11 = 6 ∨ (Int.toNat (((v5_3 + (2 * (I1 20 (Int.toNat v9_3)))) - 1))) % 11 = 8 ∨ (Int.toNat (((v5_3 + (2 * (I1 20 (Int.toNat v9_3)))) - 1))) % 11 = 10 from by (/-64-/first | (have o1 := gz_sh e0_3; have o2 := gz_sh f14; have o3 := gz_sh t20; omega) | (simp only [gz_hd] at *; omega))))))
            refine gv_iald hD rfl S_a1_15 rfl ⟨by decide, (gz_sh B_a1_15)⟩ ⟨by (/-65-/first | (have o1 := gz_sh e0_3; have o2 := gz_sh f14; omega) | (simp only [gz_hd] at *; omega)), by (/-66-/first | (have o1 := gz_sh e0_3; omega) | (simp only [gz_hd] at *; omega))⟩ (gc_iI S_a1_15 rfl) ?_
            show gv_X _ _ (129, [(11, .inl (I1 (a1 + 15) (Int.toNat (((v5_3 + (2 * (I1 20 (Int.toNat v9_3)))) - 2))))), (12, .inl 1), (10, .inl (I1 20 (Int.toNat v9_3))), (0, .inr (.inr (some p))), (1, .inr (.inr (some a1))), (5, .inl v5_3), (6, .inl v6_3), (7, .inl v7_3), (8, .inl v8_3), (9, .inl v9_3)], [.inl (I1 (a1 + 15) (Int.toNat (((v5_3 + (2 * (I1 20 (Int.toNat v9_3)))) - 1))))], sh, gc_h sh I1 J2 A)
            refine gv_run 1 true hD (pcₚ := 131) (lvₚ := [(12, .inl (I1 (a1 + 15) (Int.toNat (((v5_3 + (2 * (I1 20 (Int.toNat v9_3)))) - 1))))), (11, .inl (I1 (a1 + 15) (Int.toNat (((v5_3 + (2 * (I1 20 (Int.toNat v9_3)))) - 2))))), (10, .inl (I1 20 (Int.toNat v9_3))), (0, .inr (.inr (some p))), (1, .inr (.inr (some a1))), (5, .inl v5_3), (6, .inl v6_3), (7, .inl v7_3), (8, .inl v8_3), (9, .inl v9_3)]) (stₚ := []) (hₚ := gc_h sh I1 J2 A) (C := (True ∧ True)) rfl ⟨trivial, trivial⟩ ?_
            refine gv_pick [3, 4, 5, 6, 7, 8, 9, 1, 0] rfl ?_
            exact L131 ((I1 (a1 + 15) (Int.toNat (((v5_3 + (2 * (I1 20 (Int.toNat v9_3)))) - 2))))) ((I1 (a1 + 15) (Int.toNat (((v5_3 + (2 * (I1 20 (Int.toNat v9_3)))) - 1))))) (by (/-67-/first | (and_intros; (have o1 := gz_sh hv5_3; omega); (have o1 := gz_sh hv5_3; omega); (have o1 := gz_sh hv6_3; omega); (have o1 := gz_sh hv6_3; omega); (have o1 := gz_sh hv9_3; omega); (have o1 := gz_sh hv7_3; omega); (have o1 := gz_sh hv8_3; omega); (have o1 := gz_sh hv8_3; omega); (have o1 := gz_sh hv9_3; omega); (have o1 := gz_sh hv7_3; omega); (have o1 := gz_sh f19; omega); (have o1 := gz_sh f19; omega); (have o1 := gz_sh f21; omega); (have o1 := gz_sh f21; omega); (have o1 := gz_sh e0_3; omega); (omega)) | (simp only [gz_hd] at *; omega)))
          · show gv_X _ _ (97, [(12, .inl 1), (11, .inl v9_3), (10, .inl (I1 20 (Int.toNat v9_3))), (0, .inr (.inr (some p))), (1, .inr (.inr (some a1))), (5, .inl v5_3), (6, .inl v6_3), (7, .inl v7_3), (8, .inl v8_3), (9, .inl v9_3)], [], sh, gc_h sh I1 J2 A)
            refine gv_run 1 true hD (pcₚ := 98) (lvₚ := [(12, .inl 1), (11, .inl v9_3), (10, .inl (I1 20 (Int.toNat v9_3))), (0, .inr (.inr (some p))), (1, .inr (.inr (some a1))), (5, .inl v5_3), (6, .inl v6_3), (7, .inl v7_3), (8, .inl v8_3), (9, .inl v9_3)]) (stₚ := [.inl (-1)]) (hₚ := gc_h sh I1 J2 A) (C := (True ∧ True)) rfl ⟨trivial, trivial⟩ ?_
            exact gv_iret hD rfl ⟨I1, J2, rfl, hI1, FI1, FJ2, ⟨_, rfl, by (/-68-/first | (and_intros <;> omega) | (simp only [gz_hd] at *; omega))⟩⟩
  refine gv_run 2 true hD (pcₚ := 2) (lvₚ := [(0, .inr (.inr (some p))), (1, .inr (.inr (some a1))), (2, .inl a2), (3, .inl a3)]) (stₚ := [.inl a2, .inr (.inr (some a1))]) (hₚ := gc_h sh I J A) (C := ((True ∧ True) ∧ True)) rfl ⟨⟨trivial, trivial⟩, trivial⟩ ?_
  obtain ⟨r22, h22, E22, P22⟩ := d_X11_wordPattern (ws0 := ws0) (tb := tb) hws htb sh ro I J A hI a1 a2 h_a1   ⟨by (/-69-/first | omega | (simp only [gz_hd] at *; omega)), by (/-70-/first | omega | (simp only [gz_hd] at *; omega))⟩  
  obtain ⟨rfl, ⟨z22, rfl, q22⟩⟩ := P22
  replace q22 := gz_hi q22
  refine gv_callV hD rfl (As := [.inl a2]) (st := []) rfl (gz_sh B_a1) S_a1 rfl (gc_lV2 hws rfl) (Nat.le_of_ble_eq_true rfl) (gz_Ev_mono (d := 1) (by decide) E22) ?_
  show gv_X _ _ (5, [(0, .inr (.inr (some p))), (1, .inr (.inr (some a1))), (2, .inl a2), (3, .inl a3)], [.inl z22], sh, gc_h sh I J A)
  refine gv_run 7 true hD (pcₚ := 14) (lvₚ := [(4, .inl (((z22 * 24) + a3) * 3)), (0, .inr (.inr (some p))), (1, .inr (.inr (some a1))), (2, .inl a2), (3, .inl a3)]) (stₚ := []) (hₚ := gc_h sh I J A) (C := (((((((True ∧ True) ∧ True) ∧ True) ∧ True) ∧ True) ∧ True) ∧ True)) rfl ⟨⟨⟨⟨⟨⟨⟨trivial, trivial⟩, trivial⟩, trivial⟩, trivial⟩, trivial⟩, trivial⟩, trivial⟩ ?_
  refine gv_run 7 true hD (pcₚ := 23) (lvₚ := [(5, .inl ((a2 * 11) + 5)), (4, .inl (((z22 * 24) + a3) * 3)), (0, .inr (.inr (some p))), (1, .inr (.inr (some a1))), (2, .inl a2), (3, .inl a3)]) (stₚ := [.inr (.inr (some a1))]) (hₚ := gc_h sh I J A) (C := (((((((True ∧ True) ∧ True) ∧ True) ∧ True) ∧ True) ∧ True) ∧ True)) rfl ⟨⟨⟨⟨⟨⟨⟨trivial, trivial⟩, trivial⟩, trivial⟩, trivial⟩, trivial⟩, trivial⟩, trivial⟩ ?_
  refine gv_get hD rfl rfl S_a1 ⟨by decide, (gz_sh B_a1)⟩ (gc_hA S_a1 rfl A_a1_10) ?_
  show gv_X _ _ (26, [(5, .inl ((a2 * 11) + 5)), (4, .inl (((z22 * 24) + a3) * 3)), (0, .inr (.inr (some p))), (1, .inr (.inr (some a1))), (2, .inl a2), (3, .inl a3)], [.inr (.inr (some (a1 + 14)))], sh, gc_h sh I J A)
  refine gv_run 3 true hD (pcₚ := 30) (lvₚ := [(5, .inl ((a2 * 11) + 5)), (4, .inl (((z22 * 24) + a3) * 3)), (0, .inr (.inr (some p))), (1, .inr (.inr (some a1))), (2, .inl a2), (3, .inl a3)]) (stₚ := [.inl ((((z22 * 24) + a3) * 3) + 1), .inr (.inr (some (a1 + 14)))]) (hₚ := gc_h sh I J A) (C := (((True ∧ True) ∧ True) ∧ True)) rfl ⟨⟨⟨trivial, trivial⟩, trivial⟩, trivial⟩ ?_
  have f23 := gz_hi ((show 0 ≤ I (a1 + 14) (Int.toNat (((((z22 * 24) + a3) * 3) + 1))) ∧ I (a1 + 14) (Int.toNat (((((z22 * 24) + a3) * 3) + 1))) ≤ 2000 from gc_inm (c := 1) hI (gz_sh R_a1_14) rfl rfl (by (/-71-/first | (have o1 := gz_sh q22; omega) | (simp only [gz_hd] at *; omega))) rfl rfl))
  refine gv_iald hD rfl S_a1_14 rfl ⟨by decide, (gz_sh B_a1_14)⟩ ⟨by (/-72-/first | (have o1 := gz_sh q22; omega) | (simp only [gz_hd] at *; omega)), by (/-73-/first | (have o1 := gz_sh q22; omega) | (simp only [gz_hd] at *; omega))⟩ (gc_iI S_a1_14 rfl) ?_
  show gv_X _ _ (31, [(5, .inl ((a2 * 11) + 5)), (4, .inl (((z22 * 24) + a3) * 3)), (0, .inr (.inr (some p))), (1, .inr (.inr (some a1))), (2, .inl a2), (3, .inl a3)], [.inl (I (a1 + 14) (Int.toNat (((((z22 * 24) + a3) * 3) + 1))))], sh, gc_h sh I J A)
  refine gv_run 3 true hD (pcₚ := 36) (lvₚ := [(6, .inl (I (a1 + 14) (Int.toNat (((((z22 * 24) + a3) * 3) + 1))))), (5, .inl ((a2 * 11) + 5)), (4, .inl (((z22 * 24) + a3) * 3)), (0, .inr (.inr (some p))), (1, .inr (.inr (some a1))), (2, .inl a2), (3, .inl a3)]) (stₚ := [.inr (.inr (some a1)), .inl (I (a1 + 14) (Int.toNat (((((z22 * 24) + a3) * 3) + 1))))]) (hₚ := gc_h sh I J A) (C := (((True ∧ True) ∧ True) ∧ True)) rfl ⟨⟨⟨trivial, trivial⟩, trivial⟩, trivial⟩ ?_
  refine gv_get hD rfl rfl S_a1 ⟨by decide, (gz_sh B_a1)⟩ (gc_hA S_a1 rfl A_a1_10) ?_
  show gv_X _ _ (39, [(6, .inl (I (a1 + 14) (Int.toNat (((((z22 * 24) + a3) * 3) + 1))))), (5, .inl ((a2 * 11) + 5)), (4, .inl (((z22 * 24) + a3) * 3)), (0, .inr (.inr (some p))), (1, .inr (.inr (some a1))), (2, .inl a2), (3, .inl a3)], [.inr (.inr (some (a1 + 14))), .inl (I (a1 + 14) (Int.toNat (((((z22 * 24) + a3) * 3) + 1))))], sh, gc_h sh I J A)
  refine gv_run 3 true hD (pcₚ := 43) (lvₚ := [(6, .inl (I (a1 + 14) (Int.toNat (((((z22 * 24) + a3) * 3) + 1))))), (5, .inl ((a2 * 11) + 5)), (4, .inl (((z22 * 24) + a3) * 3)), (0, .inr (.inr (some p))), (1, .inr (.inr (some a1))), (2, .inl a2), (3, .inl a3)]) (stₚ := [.inl ((((z22 * 24) + a3) * 3) + 2), .inr (.inr (some (a1 + 14))), .inl (I (a1 + 14) (Int.toNat (((((z22 * 24) + a3) * 3) + 1))))]) (hₚ := gc_h sh I J A) (C := (((True ∧ True) ∧ True) ∧ True)) rfl ⟨⟨⟨trivial, trivial⟩, trivial⟩, trivial⟩ ?_
  have f24 := gz_hi ((show (-1) ≤ I (a1 + 14) (Int.toNat (((((z22 * 24) + a3) * 3) + 2))) ∧ I (a1 + 14) (Int.toNat (((((z22 * 24) + a3) * 3) + 2))) ≤ 2000 from gc_inm (c := 2) hI (gz_sh R_a1_14) rfl rfl (by (/-74-/first | (have o1 := gz_sh q22; omega) | (simp only [gz_hd] at *; omega))) rfl rfl))
  refine gv_iald hD rfl S_a1_14 rfl ⟨by decide, (gz_sh B_a1_14)⟩ ⟨by (/-75-/first | (have o1 := gz_sh q22; omega) | (simp only [gz_hd] at *; omega)), by (/-76-/first | (have o1 := gz_sh q22; omega) | (simp only [gz_hd] at *; omega))⟩ (gc_iI S_a1_14 rfl) ?_
  show gv_X _ _ (44, [(6, .inl (I (a1 + 14) (Int.toNat (((((z22 * 24) + a3) * 3) + 1))))), (5, .inl ((a2 * 11) + 5)), (4, .inl (((z22 * 24) + a3) * 3)), (0, .inr (.inr (some p))), (1, .inr (.inr (some a1))), (2, .inl a2), (3, .inl a3)], [.inl (I (a1 + 14) (Int.toNat (((((z22 * 24) + a3) * 3) + 2)))), .inl (I (a1 + 14) (Int.toNat (((((z22 * 24) + a3) * 3) + 1))))], sh, gc_h sh I J A)
  refine gv_run 6 true hD (pcₚ := 54) (lvₚ := [(9, .inl (I (a1 + 14) (Int.toNat (((((z22 * 24) + a3) * 3) + 1))))), (8, .inl 0), (7, .inl ((I (a1 + 14) (Int.toNat (((((z22 * 24) + a3) * 3) + 1)))) + (I (a1 + 14) (Int.toNat (((((z22 * 24) + a3) * 3) + 2)))))), (6, .inl (I (a1 + 14) (Int.toNat (((((z22 * 24) + a3) * 3) + 1))))), (5, .inl ((a2 * 11) + 5)), (4, .inl (((z22 * 24) + a3) * 3)), (0, .inr (.inr (some p))), (1, .inr (.inr (some a1))), (2, .inl a2), (3, .inl a3)]) (stₚ := []) (hₚ := gc_h sh I J A) (C := ((((((True ∧ True) ∧ True) ∧ True) ∧ True) ∧ True) ∧ True)) rfl ⟨⟨⟨⟨⟨⟨trivial, trivial⟩, trivial⟩, trivial⟩, trivial⟩, trivial⟩, trivial⟩ ?_
  refine gv_pick [6, 7, 4, 3, 2, 1, 0] rfl ?_
  exact L54 _ I J (((a2 * 11) + 5)) ((I (a1 + 14) (Int.toNat (((((z22 * 24) + a3) * 3) + 1))))) (((I (a1 + 14) (Int.toNat (((((z22 * 24) + a3) * 3) + 1)))) + (I (a1 + 14) (Int.toNat (((((z22 * 24) + a3) * 3) + 2)))))) 0 ((I (a1 + 14) (Int.toNat (((((z22 * 24) + a3) * 3) + 1))))) (Nat.lt_succ_self _) hI FI FJ (by (/-77-/first | (and_intros; (omega); (omega); (have o1 := gz_sh f23; omega); (have o1 := gz_sh f23; omega); (have o1 := gz_sh f23; have o2 := gz_sh f24; omega); (have o1 := gz_sh f23; have o2 := gz_sh f24; omega); (omega); (omega); (have o1 := gz_sh f23; omega); (have o1 := gz_sh f23; omega); (omega)) | (simp only [gz_hd] at *; omega)))
