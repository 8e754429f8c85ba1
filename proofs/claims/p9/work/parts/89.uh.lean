def gc_LP (σ : Nat → Int) (ς : Nat → Int → Int) (A : gc_A) (t : Nat) (I : gr_I) : Prop := ∀ i q : Nat, (i : Int) < I t 13 → A (t + 16) i = some q → 1 ≤ I q 4 ∧ σ i = I q 8 ∧ (∀ s : Int, 0 ≤ s → s < 4 → ς i s = I (q + 4) (Int.toNat s)) ∧ (∀ s : Int, 0 ≤ s → s < I q 8 → I (q + 4) (Int.toNat s) < I 12 (Int.toNat (I q 1)))
set_option maxHeartbeats 8000000 in
set_option maxRecDepth 100000 in
theorem d_X7_pickLins {ws0 : List Cond} {tb : String → gz_T} (hws : gc_Ws ws0) (htb : gc_tbs tb) (sh : gz_Sh) (ro : Nat → Nat) (I : gr_I) (J : gr_J) (A : gc_A) (hI : gc_Inv ro I) (t : Nat) (σ : Nat → Int) (ς : Nat → Int → Int) (L : Int) (lo : Int) (hi : Int) (a1 : Int) (hb : gc_Base sh ro A) (h_t : gc_isTongue sh ro A t) (G_t : 144 ≤ t) (ha1 : 0 ≤ a1 ∧ a1 ≤ 95) (x0 : gc_OE σ ς L lo hi (-1) I) (x1 : 0 ≤ I 74 9) (x2 : lo ≤ I 74 9 ∧ I 74 9 < hi) (x3 : gc_Ls sh ro A t I) (x4 : gc_LP σ ς A t I) (x5 : I t 13 ≤ L) (x6 : ∀ k : Int, 0 ≤ k → k < I 12 (Int.toNat a1) → I 74 9 < I 75 (Int.toNat (I 74 9 * 4 + k)) ∧ I 75 (Int.toNat (I 74 9 * 4 + k)) < hi) (x7 : I 74 1 = (t : Int)) : ∃ r hₚ, gz_Ev ws0 tb 9 (yX7_pickLins, cX7_pickLins, 6, none) [.inr (.inr (some 74)), .inl a1] sh (gc_h sh I J A) r sh hₚ 0 0 ∧ (∃ (Iₚ : gr_I) (Jₚ : gr_J), hₚ = gc_h sh Iₚ Jₚ A ∧ gc_Inv ro Iₚ ∧ (∀ q j : Nat, (q = 76 ∨ q = 77 ∨ q = 78 ∨ q = 79 ∨ q = 80 ∨ q = 81 ∨ q = 82 ∨ q = 83) ∨ Iₚ q j = I q j) ∧ (∀ q j : Nat, (False) ∨ Jₚ q j = J q j) ∧ r = none ∧ (gc_OE σ ς L lo hi (-1) Iₚ) ∧ (∀ k : Nat, I 76 k ≤ Iₚ 76 k)) := by
  have FI : ∀ q j : Nat, (q = 76 ∨ q = 77 ∨ q = 78 ∨ q = 79 ∨ q = 80 ∨ q = 81 ∨ q = 82 ∨ q = 83) ∨ I q j = I q j := fun _ _ => Or.inr rfl
  have FJ : ∀ q j : Nat, (False) ∨ J q j = J q j := fun _ _ => Or.inr rfl
  have A_1_9 : A 1 9 = some 14 := gc_bA_1_9 hb
  have A_74_0 : A 74 0 = some 1 := gc_bA_74_0 hb
  have B_1 := gz_hi (show 1 < 1000000 from by decide)
  have B_14 := gz_hi (show 14 < 1000000 from by decide)
  have B_74 := gz_hi (show 74 < 1000000 from by decide)
  have R_14 := gz_hi (show ro 14 = 27 from gc_bR_14 hb)
  have R_74 := gz_hi (show ro 74 = 73 from gc_bR_74 hb)
  have S_1 : sh[1]? = some (false, 8, 21) := gc_bS_1 hb
  have S_14 : sh[14]? = some (true, 1, 96) := gc_bS_14 hb
  have S_74 : sh[74]? = some (false, 7, 14) := gc_bS_74 hb
  obtain ⟨S_t, R_t, B_t, A_t_0, h_t_1, A_t_1, h_t_3, A_t_2, S_t_5, R_t_5, B_t_5, A_t_3, S_t_6, R_t_6, B_t_6, A_t_4, h_t_7, A_t_5, S_t_9, R_t_9, B_t_9, A_t_7, S_t_10, R_t_10, B_t_10, A_t_8, h_t_11, A_t_9, S_t_13, R_t_13, B_t_13, A_t_10, S_t_14, R_t_14, B_t_14, A_t_12, S_t_15, R_t_15, B_t_15, A_t_14, S_t_16, R_t_16, B_t_16, A_t_15, h_t_17⟩ := id h_t
  replace R_t := gz_hi R_t
  replace B_t := gz_hi B_t
  replace R_t_5 := gz_hi R_t_5
  replace B_t_5 := gz_hi B_t_5
  replace R_t_6 := gz_hi R_t_6
  replace B_t_6 := gz_hi B_t_6
  replace R_t_9 := gz_hi R_t_9
  replace B_t_9 := gz_hi B_t_9
  replace R_t_10 := gz_hi R_t_10
  replace B_t_10 := gz_hi B_t_10
  replace R_t_13 := gz_hi R_t_13
  replace B_t_13 := gz_hi B_t_13
  replace R_t_14 := gz_hi R_t_14
  replace B_t_14 := gz_hi B_t_14
  replace R_t_15 := gz_hi R_t_15
  replace B_t_15 := gz_hi B_t_15
  replace R_t_16 := gz_hi R_t_16
  replace B_t_16 := gz_hi B_t_16
  obtain ⟨S_t_1, R_t_1, B_t_1, A_t_1_0, S_t_1_1, R_t_1_1, B_t_1_1, Q0_t_1, Q1_t_1, Q2_t_1⟩ := id h_t_1
  replace R_t_1 := gz_hi R_t_1
  replace B_t_1 := gz_hi B_t_1
  replace R_t_1_1 := gz_hi R_t_1_1
  replace B_t_1_1 := gz_hi B_t_1_1
  obtain ⟨S_t_3, R_t_3, B_t_3, A_t_3_0, S_t_3_1, R_t_3_1, B_t_3_1, Q0_t_3, Q1_t_3, Q2_t_3⟩ := id h_t_3
  replace R_t_3 := gz_hi R_t_3
  replace B_t_3 := gz_hi B_t_3
  replace R_t_3_1 := gz_hi R_t_3_1
  replace B_t_3_1 := gz_hi B_t_3_1
  obtain ⟨S_t_7, R_t_7, B_t_7, A_t_7_0, S_t_7_1, R_t_7_1, B_t_7_1, Q0_t_7, Q1_t_7, Q2_t_7⟩ := id h_t_7
  replace R_t_7 := gz_hi R_t_7
  replace B_t_7 := gz_hi B_t_7
  replace R_t_7_1 := gz_hi R_t_7_1
  replace B_t_7_1 := gz_hi B_t_7_1
  obtain ⟨S_t_11, R_t_11, B_t_11, A_t_11_0, S_t_11_1, R_t_11_1, B_t_11_1, Q0_t_11, Q1_t_11, Q2_t_11⟩ := id h_t_11
  replace R_t_11 := gz_hi R_t_11
  replace B_t_11 := gz_hi B_t_11
  replace R_t_11_1 := gz_hi R_t_11_1
  replace B_t_11_1 := gz_hi B_t_11_1
  obtain ⟨S_t_17, R_t_17, B_t_17, A_t_17_0, S_20, R_20, B_20, A_t_17_1, S_t_17_1, R_t_17_1, B_t_17_1, A_t_17_2, S_t_17_2, R_t_17_2, B_t_17_2, A_t_17_3, S_t_17_3, R_t_17_3, B_t_17_3, A_t_17_4, S_t_17_4, R_t_17_4, B_t_17_4, A_t_17_5, S_t_17_5, R_t_17_5, B_t_17_5, S_t_17_6, R_t_17_6, B_t_17_6, S_t_17_7, R_t_17_7, B_t_17_7⟩ := id h_t_17
  replace R_t_17 := gz_hi R_t_17
  replace B_t_17 := gz_hi B_t_17
  replace R_20 := gz_hi R_20
  replace B_20 := gz_hi B_20
  replace R_t_17_1 := gz_hi R_t_17_1
  replace B_t_17_1 := gz_hi B_t_17_1
  replace R_t_17_2 := gz_hi R_t_17_2
  replace B_t_17_2 := gz_hi B_t_17_2
  replace R_t_17_3 := gz_hi R_t_17_3
  replace B_t_17_3 := gz_hi B_t_17_3
  replace R_t_17_4 := gz_hi R_t_17_4
  replace B_t_17_4 := gz_hi B_t_17_4
  replace R_t_17_5 := gz_hi R_t_17_5
  replace B_t_17_5 := gz_hi B_t_17_5
  replace R_t_17_6 := gz_hi R_t_17_6
  replace B_t_17_6 := gz_hi B_t_17_6
  replace R_t_17_7 := gz_hi R_t_17_7
  replace B_t_17_7 := gz_hi B_t_17_7
  have hD : gv_D (gc_E7 ws0 tb 8 (yX7_pickLins, cX7_pickLins, 6, none) kX7_pickLins) := gq_of oX7_pickLins
  refine gc_ev7 (d := 8) (l := kX7_pickLins) (Po := fun r hₚ => (∃ (Iₚ : gr_I) (Jₚ : gr_J), hₚ = gc_h sh Iₚ Jₚ A ∧ gc_Inv ro Iₚ ∧ (∀ q j : Nat, (q = 76 ∨ q = 77 ∨ q = 78 ∨ q = 79 ∨ q = 80 ∨ q = 81 ∨ q = 82 ∨ q = 83) ∨ Iₚ q j = I q j) ∧ (∀ q j : Nat, (False) ∨ Jₚ q j = J q j) ∧ r = none ∧ (gc_OE σ ς L lo hi (-1) Iₚ) ∧ (∀ k : Nat, I 76 k ≤ Iₚ 76 k))) htb rfl (Nat.le_of_ble_eq_true rfl) ?_
  have N_t__76 := gz_hi (show ¬ (t = 76) from by (/-0-/first | (have o1 := gz_sh B_t; have o2 := gz_sh B_t_10; have o3 := gz_sh B_t_13; have o4 := gz_sh B_t_14; have o5 := gz_sh B_t_15; have o6 := gz_sh B_t_16; have o7 := gz_sh B_t_17; have o8 := gz_sh B_t_17_1; have o9 := gz_sh B_t_17_2; have o10 := gz_sh B_t_17_3; have o11 := gz_sh B_t_17_4; have o12 := gz_sh B_t_17_5; have o13 := gz_sh B_t_17_6; have o14 := gz_sh B_t_17_7; have o15 := gz_sh B_t_5; have o16 := gz_sh B_t_6; have o17 := gz_sh B_t_9; omega) | (simp only [gz_hd] at *; omega)))
  have N_t__77 := gz_hi (show ¬ (t = 77) from by (/-1-/first | (have o1 := gz_sh B_t; have o2 := gz_sh B_t_10; have o3 := gz_sh B_t_13; have o4 := gz_sh B_t_14; have o5 := gz_sh B_t_15; have o6 := gz_sh B_t_16; have o7 := gz_sh B_t_17; have o8 := gz_sh B_t_17_1; have o9 := gz_sh B_t_17_2; have o10 := gz_sh B_t_17_3; have o11 := gz_sh B_t_17_4; have o12 := gz_sh B_t_17_5; have o13 := gz_sh B_t_17_6; have o14 := gz_sh B_t_17_7; have o15 := gz_sh B_t_5; have o16 := gz_sh B_t_6; have o17 := gz_sh B_t_9; omega) | (simp only [gz_hd] at *; omega)))
  have N_t__78 := gz_hi (show ¬ (t = 78) from by (/-2-/first | (have o1 := gz_sh B_t; have o2 := gz_sh B_t_10; have o3 := gz_sh B_t_13; have o4 := gz_sh B_t_14; have o5 := gz_sh B_t_15; have o6 := gz_sh B_t_16; have o7 := gz_sh B_t_17; have o8 := gz_sh B_t_17_1; have o9 := gz_sh B_t_17_2; have o10 := gz_sh B_t_17_3; have o11 := gz_sh B_t_17_4; have o12 := gz_sh B_t_17_5; have o13 := gz_sh B_t_17_6; have o14 := gz_sh B_t_17_7; have o15 := gz_sh B_t_5; have o16 := gz_sh B_t_6; have o17 := gz_sh B_t_9; omega) | (simp only [gz_hd] at *; omega)))
  have N_t__79 := gz_hi (show ¬ (t = 79) from by (/-3-/first | (have o1 := gz_sh B_t; have o2 := gz_sh B_t_10; have o3 := gz_sh B_t_13; have o4 := gz_sh B_t_14; have o5 := gz_sh B_t_15; have o6 := gz_sh B_t_16; have o7 := gz_sh B_t_17; have o8 := gz_sh B_t_17_1; have o9 := gz_sh B_t_17_2; have o10 := gz_sh B_t_17_3; have o11 := gz_sh B_t_17_4; have o12 := gz_sh B_t_17_5; have o13 := gz_sh B_t_17_6; have o14 := gz_sh B_t_17_7; have o15 := gz_sh B_t_5; have o16 := gz_sh B_t_6; have o17 := gz_sh B_t_9; omega) | (simp only [gz_hd] at *; omega)))
  have N_t__80 := gz_hi (show ¬ (t = 80) from by (/-4-/first | (have o1 := gz_sh B_t; have o2 := gz_sh B_t_10; have o3 := gz_sh B_t_13; have o4 := gz_sh B_t_14; have o5 := gz_sh B_t_15; have o6 := gz_sh B_t_16; have o7 := gz_sh B_t_17; have o8 := gz_sh B_t_17_1; have o9 := gz_sh B_t_17_2; have o10 := gz_sh B_t_17_3; have o11 := gz_sh B_t_17_4; have o12 := gz_sh B_t_17_5; have o13 := gz_sh B_t_17_6; have o14 := gz_sh B_t_17_7; have o15 := gz_sh B_t_5; have o16 := gz_sh B_t_6; have o17 := gz_sh B_t_9; omega) | (simp only [gz_hd] at *; omega)))
  have N_t__81 := gz_hi (show ¬ (t = 81) from by (/-5-/first | (have o1 := gz_sh B_t; have o2 := gz_sh B_t_10; have o3 := gz_sh B_t_13; have o4 := gz_sh B_t_14; have o5 := gz_sh B_t_15; have o6 := gz_sh B_t_16; have o7 := gz_sh B_t_17; have o8 := gz_sh B_t_17_1; have o9 := gz_sh B_t_17_2; have o10 := gz_sh B_t_17_3; have o11 := gz_sh B_t_17_4; have o12 := gz_sh B_t_17_5; have o13 := gz_sh B_t_17_6; have o14 := gz_sh B_t_17_7; have o15 := gz_sh B_t_5; have o16 := gz_sh B_t_6; have o17 := gz_sh B_t_9; omega) | (simp only [gz_hd] at *; omega)))
  have N_t__82 := gz_hi (show ¬ (t = 82) from by (/-6-/first | (have o1 := gz_sh B_t; have o2 := gz_sh B_t_10; have o3 := gz_sh B_t_13; have o4 := gz_sh B_t_14; have o5 := gz_sh B_t_15; have o6 := gz_sh B_t_16; have o7 := gz_sh B_t_17; have o8 := gz_sh B_t_17_1; have o9 := gz_sh B_t_17_2; have o10 := gz_sh B_t_17_3; have o11 := gz_sh B_t_17_4; have o12 := gz_sh B_t_17_5; have o13 := gz_sh B_t_17_6; have o14 := gz_sh B_t_17_7; have o15 := gz_sh B_t_5; have o16 := gz_sh B_t_6; have o17 := gz_sh B_t_9; omega) | (simp only [gz_hd] at *; omega)))
  have N_t__83 := gz_hi (show ¬ (t = 83) from by (/-7-/first | (have o1 := gz_sh B_t; have o2 := gz_sh B_t_10; have o3 := gz_sh B_t_13; have o4 := gz_sh B_t_14; have o5 := gz_sh B_t_15; have o6 := gz_sh B_t_16; have o7 := gz_sh B_t_17; have o8 := gz_sh B_t_17_1; have o9 := gz_sh B_t_17_2; have o10 := gz_sh B_t_17_3; have o11 := gz_sh B_t_17_4; have o12 := gz_sh B_t_17_5; have o13 := gz_sh B_t_17_6; have o14 := gz_sh B_t_17_7; have o15 := gz_sh B_t_5; have o16 := gz_sh B_t_6; have o17 := gz_sh B_t_9; omega) | (simp only [gz_hd] at *; omega)))
  have f1 := gz_hi ((gc_b_73_9 hI (gz_sh R_74)))
  have f2 := gz_hi ((show 0 ≤ I t 13 ∧ I t 13 ≤ 384 from gc_in2 hI (gz_sh R_t) rfl rfl rfl))
  have L2 : ∀ (n9 : Nat) (I4 : gr_I) (J5 : gr_J) (v2_6 : Int), (385 - v2_6).toNat < n9 → gc_Inv ro I4 → (∀ q j : Nat, (q = 76 ∨ q = 77 ∨ q = 78 ∨ q = 79 ∨ q = 80 ∨ q = 81 ∨ q = 82 ∨ q = 83) ∨ I4 q j = I q j) → (∀ q j : Nat, (False) ∨ J5 q j = J q j) → ((0 ≤ a1 ∧ a1 ≤ 95) ∧ (0 ≤ v2_6 ∧ v2_6 ≤ 384) ∧ (I4 74 9 = I 74 9) ∧ (I4 t 13 = I t 13) ∧ (I4 74 1 = (t : Int))) → (gc_OE σ ς L lo hi (-1) I4) → (∀ k : Nat, I 76 k ≤ I4 76 k) → gv_X (gc_E7 ws0 tb 8 (yX7_pickLins, cX7_pickLins, 6, none) kX7_pickLins) (gv_Q cX7_pickLins none sh (fun r hₚ => (∃ (Iₚ : gr_I) (Jₚ : gr_J), hₚ = gc_h sh Iₚ Jₚ A ∧ gc_Inv ro Iₚ ∧ (∀ q j : Nat, (q = 76 ∨ q = 77 ∨ q = 78 ∨ q = 79 ∨ q = 80 ∨ q = 81 ∨ q = 82 ∨ q = 83) ∨ Iₚ q j = I q j) ∧ (∀ q j : Nat, (False) ∨ Jₚ q j = J q j) ∧ r = none ∧ (gc_OE σ ς L lo hi (-1) Iₚ) ∧ (∀ k : Nat, I 76 k ≤ Iₚ 76 k)))) (2, [(0, .inr (.inr (some 74))), (1, .inl a1), (2, .inl v2_6)], [], sh, gc_h sh I4 J5 A) := by
    intro n9
    induction n9 with
    | zero => intro I4 J5 v2_6 hn; (/-8-/first | omega | (simp only [gz_hd] at *; omega))
    | succ n9 ih2 =>
      intro I4 J5 v2_6 hn hI4 FI4 FJ5 m_6 e0_6 e1_6
      obtain ⟨ha1_6, hv2_6, e2_6, e3_6, e4_6⟩ := gz_h5 m_6
      have L106 : ∀ (I10 : gr_I) (J11 : gr_J) , gc_Inv ro I10 → (∀ q j : Nat, (q = 76 ∨ q = 77 ∨ q = 78 ∨ q = 79 ∨ q = 80 ∨ q = 81 ∨ q = 82 ∨ q = 83) ∨ I10 q j = I q j) → (∀ q j : Nat, (False) ∨ J11 q j = J q j) → ((0 ≤ a1 ∧ a1 ≤ 95) ∧ (0 ≤ v2_6 ∧ v2_6 ≤ 383) ∧ (I10 74 9 = I 74 9) ∧ (I10 t 13 = I t 13) ∧ (I10 74 1 = (t : Int))) → (gc_OE σ ς L lo hi (-1) I10) → (∀ k : Nat, I 76 k ≤ I10 76 k) → gv_X (gc_E7 ws0 tb 8 (yX7_pickLins, cX7_pickLins, 6, none) kX7_pickLins) (gv_Q cX7_pickLins none sh (fun r hₚ => (∃ (Iₚ : gr_I) (Jₚ : gr_J), hₚ = gc_h sh Iₚ Jₚ A ∧ gc_Inv ro Iₚ ∧ (∀ q j : Nat, (q = 76 ∨ q = 77 ∨ q = 78 ∨ q = 79 ∨ q = 80 ∨ q = 81 ∨ q = 82 ∨ q = 83) ∨ Iₚ q j = I q j) ∧ (∀ q j : Nat, (False) ∨ Jₚ q j = J q j) ∧ r = none ∧ (gc_OE σ ς L lo hi (-1) Iₚ) ∧ (∀ k : Nat, I 76 k ≤ Iₚ 76 k)))) (106, [(0, .inr (.inr (some 74))), (1, .inl a1), (2, .inl v2_6)], [], sh, gc_h sh I10 J11 A) := by
        intro I10 J11 hI10 FI10 FJ11 m_12 e0_12 e1_12
        clear ha1_6 hv2_6 e2_6 e3_6 e4_6
        obtain ⟨ha1_12, hv2_6_12, e2_12, e3_12, e4_12⟩ := gz_h5 m_12
        refine gv_run 2 true hD (pcₚ := 2) (lvₚ := [(2, .inl (v2_6 + 1)), (0, .inr (.inr (some 74))), (1, .inl a1)]) (stₚ := []) (hₚ := gc_h sh I10 J11 A) (C := ((True ∧ True) ∧ True)) rfl ⟨⟨trivial, trivial⟩, trivial⟩ ?_
        refine gv_pick [1, 2, 0] rfl ?_
        exact ih2 I10 J11 (v2_6 + 1) (by (/-9-/first | (have o1 := gz_sh hv2_6_12; omega) | (simp only [gz_hd] at *; omega))) hI10 FI10 FJ11 (by (/-10-/first | (and_intros; (omega); (omega); (have o1 := gz_sh hv2_6_12; omega); (have o1 := gz_sh hv2_6_12; omega); (have o1 := gz_sh e2_12; omega); (have o1 := gz_sh e3_12; omega); (have o1 := gz_sh e4_12; omega)) | (simp only [gz_hd] at *; omega))) e0_12 e1_12
      have L42 : ∀ (n9 : Nat) (r3_16 : Nat) (v4_16 : Int) (v5_16 : Int), (7 - v5_16).toNat < n9 → gc_isLin sh ro A r3_16 → 144 ≤ r3_16 → ((0 ≤ a1 ∧ a1 ≤ 95) ∧ (0 ≤ v2_6 ∧ v2_6 ≤ 383) ∧ (0 ≤ v4_16 ∧ v4_16 ≤ 1000) ∧ (0 ≤ v5_16 ∧ v5_16 ≤ 6) ∧ (I4 74 9 = I 74 9) ∧ (I4 r3_16 0 = v2_6) ∧ (I4 r3_16 1 = a1) ∧ (v2_6 < I t 13) ∧ (v4_16 ≤ 5 + 24 * v5_16) ∧ (I4 t 13 = I t 13) ∧ (I4 74 1 = (t : Int))) → (gc_OE σ ς L lo hi (-1) I4) → (∀ k : Nat, I 76 k ≤ I4 76 k) → (A (t + 16) (Int.toNat v2_6) = some r3_16) → gv_X (gc_E7 ws0 tb 8 (yX7_pickLins, cX7_pickLins, 6, none) kX7_pickLins) (gv_Q cX7_pickLins none sh (fun r hₚ => (∃ (Iₚ : gr_I) (Jₚ : gr_J), hₚ = gc_h sh Iₚ Jₚ A ∧ gc_Inv ro Iₚ ∧ (∀ q j : Nat, (q = 76 ∨ q = 77 ∨ q = 78 ∨ q = 79 ∨ q = 80 ∨ q = 81 ∨ q = 82 ∨ q = 83) ∨ Iₚ q j = I q j) ∧ (∀ q j : Nat, (False) ∨ Jₚ q j = J q j) ∧ r = none ∧ (gc_OE σ ς L lo hi (-1) Iₚ) ∧ (∀ k : Nat, I 76 k ≤ Iₚ 76 k)))) (42, [(0, .inr (.inr (some 74))), (1, .inl a1), (2, .inl v2_6), (3, .inr (.inr (some r3_16))), (4, .inl v4_16), (5, .inl v5_16)], [], sh, gc_h sh I4 J5 A) := by
        intro n9
        induction n9 with
        | zero => intro r3_16 v4_16 v5_16 hn; (/-11-/first | omega | (simp only [gz_hd] at *; omega))
        | succ n9 ih42 =>
          intro r3_16 v4_16 v5_16 hn h_r3_16 G_r3_16 m_16 e0_16 e1_16 e2_16
          obtain ⟨ha1_16, hv2_6_16, hv4_16, hv5_16, e3_16, e4_16, e5_16, e6_16, e7_16, e8_16, e9_16⟩ := gz_h11 m_16
          obtain ⟨S_r3_16, R_r3_16, B_r3_16, A_r3_16_5, S_r3_16_1, R_r3_16_1, B_r3_16_1, A_r3_16_6, S_r3_16_2, R_r3_16_2, B_r3_16_2, A_r3_16_7, S_r3_16_3, R_r3_16_3, B_r3_16_3, A_r3_16_9, S_r3_16_4, R_r3_16_4, B_r3_16_4, A_r3_16_10, S_r3_16_5, R_r3_16_5, B_r3_16_5, A_r3_16_11, S_r3_16_6, R_r3_16_6, B_r3_16_6, A_r3_16_13, S_r3_16_7, R_r3_16_7, B_r3_16_7, A_r3_16_15, S_r3_16_8, R_r3_16_8, B_r3_16_8⟩ := id h_r3_16
          replace R_r3_16 := gz_hi R_r3_16
          replace B_r3_16 := gz_hi B_r3_16
          replace R_r3_16_1 := gz_hi R_r3_16_1
          replace B_r3_16_1 := gz_hi B_r3_16_1
          replace R_r3_16_2 := gz_hi R_r3_16_2
          replace B_r3_16_2 := gz_hi B_r3_16_2
          replace R_r3_16_3 := gz_hi R_r3_16_3
          replace B_r3_16_3 := gz_hi B_r3_16_3
          replace R_r3_16_4 := gz_hi R_r3_16_4
          replace B_r3_16_4 := gz_hi B_r3_16_4
          replace R_r3_16_5 := gz_hi R_r3_16_5
          replace B_r3_16_5 := gz_hi B_r3_16_5
          replace R_r3_16_6 := gz_hi R_r3_16_6
          replace B_r3_16_6 := gz_hi B_r3_16_6
          replace R_r3_16_7 := gz_hi R_r3_16_7
          replace B_r3_16_7 := gz_hi B_r3_16_7
          replace R_r3_16_8 := gz_hi R_r3_16_8
          replace B_r3_16_8 := gz_hi B_r3_16_8
          have L74 : ∀ (s0_20 : Int) (s1_20 : Int), ((0 ≤ a1 ∧ a1 ≤ 95) ∧ (0 ≤ v2_6 ∧ v2_6 ≤ 383) ∧ (0 ≤ v5_16 ∧ v5_16 ≤ 5) ∧ (0 ≤ s0_20 ∧ s0_20 ≤ 1000) ∧ (0 ≤ s1_20 ∧ s1_20 ≤ 24) ∧ (I4 74 9 = I 74 9) ∧ (s0_20 ≤ 5 + 24 * v5_16) ∧ (I4 t 13 = I t 13) ∧ (I4 74 1 = (t : Int))) → (gc_OE σ ς L lo hi (-1) I4) → (∀ k : Nat, I 76 k ≤ I4 76 k) → gv_X (gc_E7 ws0 tb 8 (yX7_pickLins, cX7_pickLins, 6, none) kX7_pickLins) (gv_Q cX7_pickLins none sh (fun r hₚ => (∃ (Iₚ : gr_I) (Jₚ : gr_J), hₚ = gc_h sh Iₚ Jₚ A ∧ gc_Inv ro Iₚ ∧ (∀ q j : Nat, (q = 76 ∨ q = 77 ∨ q = 78 ∨ q = 79 ∨ q = 80 ∨ q = 81 ∨ q = 82 ∨ q = 83) ∨ Iₚ q j = I q j) ∧ (∀ q j : Nat, (False) ∨ Jₚ q j = J q j) ∧ r = none ∧ (gc_OE σ ς L lo hi (-1) Iₚ) ∧ (∀ k : Nat, I 76 k ≤ Iₚ 76 k)))) (74, [(0, .inr (.inr (some 74))), (1, .inl a1), (2, .inl v2_6), (3, .inr (.inr (some r3_16))), (5, .inl v5_16)], [.inl s1_20, .inl s0_20], sh, gc_h sh I4 J5 A) := by
            intro s0_20 s1_20 m_20 e0_20 e1_20
            obtain ⟨ha1_20, hv2_6_20, hv5_16_20, hs0_20, hs1_20, e2_20, e3_20, e4_20, e5_20⟩ := gz_h9 m_20
            refine gv_run 4 true hD (pcₚ := 42) (lvₚ := [(5, .inl (v5_16 + 1)), (4, .inl (s0_20 + s1_20)), (0, .inr (.inr (some 74))), (1, .inl a1), (2, .inl v2_6), (3, .inr (.inr (some r3_16)))]) (stₚ := []) (hₚ := gc_h sh I4 J5 A) (C := ((((True ∧ True) ∧ True) ∧ True) ∧ True)) rfl ⟨⟨⟨⟨trivial, trivial⟩, trivial⟩, trivial⟩, trivial⟩ ?_
            refine gv_pick [2, 3, 4, 5, 1, 0] rfl ?_
            exact ih42 r3_16 (s0_20 + s1_20) (v5_16 + 1) (by (/-12-/first | (have o1 := gz_sh hv5_16; have o2 := gz_sh hv5_16_20; omega) | (simp only [gz_hd] at *; omega))) h_r3_16 G_r3_16 (by (/-13-/first | (and_intros; (omega); (omega); (have o1 := gz_sh hv2_6; omega); (have o1 := gz_sh hv2_6_16; omega); (have o1 := gz_sh hs0_20; have o2 := gz_sh hs1_20; omega); (have o1 := gz_sh e3_20; have o2 := gz_sh hs1_20; have o3 := gz_sh hv5_16_20; omega); (have o1 := gz_sh hv5_16; omega); (have o1 := gz_sh hv5_16_20; omega); (have o1 := gz_sh e2_6; omega); (have o1 := gz_sh e4_16; omega); (have o1 := gz_sh e5_16; omega); (have o1 := gz_sh e6_16; omega); (have o1 := gz_sh e3_20; have o2 := gz_sh hs1_20; omega); (have o1 := gz_sh e3_6; omega); (have o1 := gz_sh e4_6; omega)) | (simp only [gz_hd] at *; omega))) e0_20 e1_20 e2_16
          refine gv_run 2 true hD (pcₚ := 45) (lvₚ := [(0, .inr (.inr (some 74))), (1, .inl a1), (2, .inl v2_6), (3, .inr (.inr (some r3_16))), (4, .inl v4_16), (5, .inl v5_16)]) (stₚ := [.inr (.inr (some r3_16)), .inl v5_16]) (hₚ := gc_h sh I4 J5 A) (C := ((True ∧ True) ∧ True)) rfl ⟨⟨trivial, trivial⟩, trivial⟩ ?_
          have f24 := gz_hi ((show 0 ≤ I4 r3_16 4 ∧ I4 r3_16 4 ≤ 6 from gc_in2 hI4 (gz_sh R_r3_16) rfl rfl rfl))
          refine gv_get hD rfl rfl S_r3_16 ⟨by decide, (gz_sh B_r3_16)⟩ (gc_hI S_r3_16 rfl) ?_
          show gv_X _ _ (48, [(0, .inr (.inr (some 74))), (1, .inl a1), (2, .inl v2_6), (3, .inr (.inr (some r3_16))), (4, .inl v4_16), (5, .inl v5_16)], [.inl (I4 r3_16 4), .inl v5_16], sh, gc_h sh I4 J5 A)
          refine gv_icmp_ge (t := 83) hD rfl rfl ⟨⟨by (/-14-/first | (have o1 := gz_sh hv5_16; omega) | (simp only [gz_hd] at *; omega)), by (/-15-/first | (have o1 := gz_sh hv5_16; omega) | (simp only [gz_hd] at *; omega))⟩, ⟨by (/-16-/first | (have o1 := gz_sh f24; omega) | (simp only [gz_hd] at *; omega)), by (/-17-/first | (have o1 := gz_sh f24; omega) | (simp only [gz_hd] at *; omega))⟩⟩ (fun c25 => ?_) (fun c25 => ?_)
          · show gv_X _ _ (83, [(0, .inr (.inr (some 74))), (1, .inl a1), (2, .inl v2_6), (3, .inr (.inr (some r3_16))), (4, .inl v4_16), (5, .inl v5_16)], [], sh, gc_h sh I4 J5 A)
            refine gv_run 4 true hD (pcₚ := 87) (lvₚ := [(0, .inr (.inr (some 74))), (1, .inl a1), (2, .inl v2_6), (3, .inr (.inr (some r3_16))), (4, .inl v4_16), (5, .inl v5_16)]) (stₚ := [.inr (.inr (some r3_16)), .inl 0, .inr (.inr (some r3_16)), .inr (.inr (some 74))]) (hₚ := gc_h sh I4 J5 A) (C := ((((True ∧ True) ∧ True) ∧ True) ∧ True)) rfl ⟨⟨⟨⟨trivial, trivial⟩, trivial⟩, trivial⟩, trivial⟩ ?_
            have f26 := gz_hi ((show 0 ≤ I4 r3_16 3 ∧ I4 r3_16 3 ≤ 10000 from gc_in2 hI4 (gz_sh R_r3_16) rfl rfl rfl))
            refine gv_get hD rfl rfl S_r3_16 ⟨by decide, (gz_sh B_r3_16)⟩ (gc_hI S_r3_16 rfl) ?_
            show gv_X _ _ (90, [(0, .inr (.inr (some 74))), (1, .inl a1), (2, .inl v2_6), (3, .inr (.inr (some r3_16))), (4, .inl v4_16), (5, .inl v5_16)], [.inl (I4 r3_16 3), .inl 0, .inr (.inr (some r3_16)), .inr (.inr (some 74))], sh, gc_h sh I4 J5 A)
            refine gv_run 1 true hD (pcₚ := 91) (lvₚ := [(0, .inr (.inr (some 74))), (1, .inl a1), (2, .inl v2_6), (3, .inr (.inr (some r3_16))), (4, .inl v4_16), (5, .inl v5_16)]) (stₚ := [.inr (.inr (some 74)), .inl (I4 r3_16 3), .inl 0, .inr (.inr (some r3_16)), .inr (.inr (some 74))]) (hₚ := gc_h sh I4 J5 A) (C := (True ∧ True)) rfl ⟨trivial, trivial⟩ ?_
            refine gv_get hD rfl rfl S_74 ⟨by decide, (gz_sh B_74)⟩ (gc_hA S_74 rfl A_74_0) ?_
            show gv_X _ _ (94, [(0, .inr (.inr (some 74))), (1, .inl a1), (2, .inl v2_6), (3, .inr (.inr (some r3_16))), (4, .inl v4_16), (5, .inl v5_16)], [.inr (.inr (some 1)), .inl (I4 r3_16 3), .inl 0, .inr (.inr (some r3_16)), .inr (.inr (some 74))], sh, gc_h sh I4 J5 A)
            refine gv_get hD rfl rfl S_1 ⟨by decide, (gz_sh B_1)⟩ (gc_hA S_1 rfl A_1_9) ?_
            show gv_X _ _ (97, [(0, .inr (.inr (some 74))), (1, .inl a1), (2, .inl v2_6), (3, .inr (.inr (some r3_16))), (4, .inl v4_16), (5, .inl v5_16)], [.inr (.inr (some 14)), .inl (I4 r3_16 3), .inl 0, .inr (.inr (some r3_16)), .inr (.inr (some 74))], sh, gc_h sh I4 J5 A)
            refine gv_run 1 true hD (pcₚ := 98) (lvₚ := [(0, .inr (.inr (some 74))), (1, .inl a1), (2, .inl v2_6), (3, .inr (.inr (some r3_16))), (4, .inl v4_16), (5, .inl v5_16)]) (stₚ := [.inl a1, .inr (.inr (some 14)), .inl (I4 r3_16 3), .inl 0, .inr (.inr (some r3_16)), .inr (.inr (some 74))]) (hₚ := gc_h sh I4 J5 A) (C := (True ∧ True)) rfl ⟨trivial, trivial⟩ ?_
            have f27 := gz_hi ((gc_b_27 hI4 (gz_sh R_14) (Int.toNat a1)))
            refine gv_iald hD rfl S_14 rfl ⟨by decide, (gz_sh B_14)⟩ ⟨by (/-18-/first | omega | (simp only [gz_hd] at *; omega)), by (/-19-/first | omega | (simp only [gz_hd] at *; omega))⟩ (gc_iI S_14 rfl) ?_
            show gv_X _ _ (99, [(0, .inr (.inr (some 74))), (1, .inl a1), (2, .inl v2_6), (3, .inr (.inr (some r3_16))), (4, .inl v4_16), (5, .inl v5_16)], [.inl (I4 14 (Int.toNat a1)), .inl (I4 r3_16 3), .inl 0, .inr (.inr (some r3_16)), .inr (.inr (some 74))], sh, gc_h sh I4 J5 A)
            refine gv_run 3 true hD (pcₚ := 103) (lvₚ := [(0, .inr (.inr (some 74))), (1, .inl a1), (2, .inl v2_6), (3, .inr (.inr (some r3_16))), (4, .inl v4_16), (5, .inl v5_16)]) (stₚ := [.inl 0, .inl v4_16, .inl ((I4 r3_16 3) + (I4 14 (Int.toNat a1))), .inl 0, .inr (.inr (some r3_16)), .inr (.inr (some 74))]) (hₚ := gc_h sh I4 J5 A) (C := (((True ∧ True) ∧ True) ∧ True)) rfl ⟨⟨⟨trivial, trivial⟩, trivial⟩, trivial⟩ ?_
            have t28 := gz_hi ((show 0 ≤ I4 r3_16 8 ∧ I4 r3_16 8 ≤ 4 from gc_in2 hI4 (gz_sh R_r3_16) rfl rfl rfl))
            obtain ⟨r29, h29, E29, P29⟩ := d_X7_pick (ws0 := ws0) (tb := tb) hws htb sh ro A  σ ς L lo hi r3_16 hb h_r3_16 G_r3_16  6 I4 J5 hI4 0 (((I4 r3_16 3) + (I4 14 (Int.toNat a1)))) v4_16 0 ⟨by (/-20-/first | omega | (simp only [gz_hd] at *; omega)), by (/-21-/first | omega | (simp only [gz_hd] at *; omega))⟩ ⟨by (/-22-/first | (have o1 := gz_sh f26; have o2 := gz_sh f27; omega) | (simp only [gz_hd] at *; omega)), by (/-23-/first | (have o1 := gz_sh f26; have o2 := gz_sh f27; omega) | (simp only [gz_hd] at *; omega))⟩ ⟨by (/-24-/first | (have o1 := gz_sh hv4_16; omega) | (simp only [gz_hd] at *; omega)), by (/-25-/first | (have o1 := gz_sh hv4_16; omega) | (simp only [gz_hd] at *; omega))⟩ ⟨by (/-26-/first | omega | (simp only [gz_hd] at *; omega)), by (/-27-/first | omega | (simp only [gz_hd] at *; omega))⟩ e0_16 (by (/-28-/first | (have o1 := gz_sh e2_6; omega) | (simp only [gz_hd] at *; omega))) (by (/-29-/first | (and_intros; (have o1 := gz_sh e2_6; omega); (have o1 := gz_sh e2_6; omega)) | (simp only [gz_hd] at *; omega))) (by (/-30-/first | (and_intros; (have o1 := gz_sh e4_16; have o2 := gz_sh e6_16; omega); (have o1 := gz_sh e4_16; have o2 := gz_sh hv2_6_16; omega)) | (simp only [gz_hd] at *; omega))) (by rw [show Int.toNat (I4 r3_16 0) = Int.toNat v2_6 from by (/-31-/first | (have o1 := gz_sh e4_16; have o2 := gz_sh hv2_6; have o3 := gz_sh hv2_6_16; omega) | (simp only [gz_hd] at *; omega)), (FI4 r3_16 8).resolve_left (by (/-32-/first | (have o1 := gz_sh B_r3_16; have o2 := gz_sh B_r3_16_1; have o3 := gz_sh B_r3_16_2; have o4 := gz_sh B_r3_16_3; have o5 := gz_sh B_r3_16_4; have o6 := gz_sh B_r3_16_5; have o7 := gz_sh B_r3_16_6; have o8 := gz_sh B_r3_16_7; have o9 := gz_sh B_r3_16_8; omega) | (simp only [gz_hd] at *; omega)))]; exact (x4 (Int.toNat v2_6) r3_16 (by (/-33-/first | (have o1 := gz_sh e6_16; have o2 := gz_sh hv2_6; omega) | (simp only [gz_hd] at *; omega))) e2_16).2.1) (fun s h0 h1 => by rw [show Int.toNat (I4 r3_16 0) = Int.toNat v2_6 from by (/-34-/first | (have o1 := gz_sh e4_16; have o2 := gz_sh hv2_6; have o3 := gz_sh hv2_6_16; omega) | (simp only [gz_hd] at *; omega)), show I4 (r3_16 + 4) _ = I (r3_16 + 4) _ from (FI4 (r3_16 + 4) _).resolve_left (by (/-35-/first | (have o1 := gz_sh B_r3_16; have o2 := gz_sh B_r3_16_1; have o3 := gz_sh B_r3_16_2; have o4 := gz_sh B_r3_16_3; have o5 := gz_sh B_r3_16_4; have o6 := gz_sh B_r3_16_5; have o7 := gz_sh B_r3_16_6; have o8 := gz_sh B_r3_16_7; have o9 := gz_sh B_r3_16_8; omega) | (simp only [gz_hd] at *; omega)))]; exact (x4 (Int.toNat v2_6) r3_16 (by (/-36-/first | (have o1 := gz_sh e6_16; have o2 := gz_sh hv2_6; omega) | (simp only [gz_hd] at *; omega))) e2_16).2.2.1 s h0 h1) gc_PK_0 (by (/-37-/first | (have o1 := gz_sh t28; omega) | (simp only [gz_hd] at *; omega))) (fun k hk => by (/-38-/first | omega | (simp only [gz_hd] at *; omega))) (fun s h0 h1 => by have h8 := (x4 (Int.toNat v2_6) r3_16 (by (/-39-/first | (have o1 := gz_sh e6_16; have o2 := gz_sh hv2_6; omega) | (simp only [gz_hd] at *; omega))) e2_16).2.2.2 s h0 (by rw [← (FI4 r3_16 8).resolve_left (by (/-40-/first | (have o1 := gz_sh B_r3_16; have o2 := gz_sh B_r3_16_1; have o3 := gz_sh B_r3_16_2; have o4 := gz_sh B_r3_16_3; have o5 := gz_sh B_r3_16_4; have o6 := gz_sh B_r3_16_5; have o7 := gz_sh B_r3_16_6; have o8 := gz_sh B_r3_16_7; have o9 := gz_sh B_r3_16_8; omega) | (simp only [gz_hd] at *; omega)))]; exact h1); have h7 : 0 ≤ I (r3_16 + 4) (Int.toNat s) ∧ I (r3_16 + 4) (Int.toNat s) ≤ 3 := gc_in hI (gz_sh R_r3_16_4) rfl rfl; rw [show I4 74 9 = I 74 9 from by (/-41-/first | (have o1 := gz_sh e3_16; omega) | (simp only [gz_hd] at *; omega)), show I4 (r3_16 + 4) _ = I (r3_16 + 4) _ from (FI4 (r3_16 + 4) _).resolve_left (by (/-42-/first | (have o1 := gz_sh B_r3_16; have o2 := gz_sh B_r3_16_1; have o3 := gz_sh B_r3_16_2; have o4 := gz_sh B_r3_16_3; have o5 := gz_sh B_r3_16_4; have o6 := gz_sh B_r3_16_5; have o7 := gz_sh B_r3_16_6; have o8 := gz_sh B_r3_16_7; have o9 := gz_sh B_r3_16_8; omega) | (simp only [gz_hd] at *; omega))), show I4 75 _ = I 75 _ from (FI4 75 _).resolve_left (by (/-43-/first | omega | (simp only [gz_hd] at *; omega)))]; exact x6 _ h7.1 (by rw [show a1 = I r3_16 1 from by have := (FI4 r3_16 1).resolve_left (by (/-44-/first | (have o1 := gz_sh B_r3_16; have o2 := gz_sh B_r3_16_1; have o3 := gz_sh B_r3_16_2; have o4 := gz_sh B_r3_16_3; have o5 := gz_sh B_r3_16_4; have o6 := gz_sh B_r3_16_5; have o7 := gz_sh B_r3_16_6; have o8 := gz_sh B_r3_16_7; have o9 := gz_sh B_r3_16_8; omega) | (simp only [gz_hd] at *; omega))); (/-45-/first | (have o1 := gz_sh e5_16; omega) | (simp only [gz_hd] at *; omega))]; exact h8))  (by (/-46-/first | omega | (simp only [gz_hd] at *; omega)))
            obtain ⟨I30, J31, rfl, hI30, g29, k29, ⟨rfl, q29⟩⟩ := P29
            replace q29 := gz_hi q29
            have FI30 := gc_frc (W := fun q j => q = 76 ∨ q = 77 ∨ q = 78 ∨ q = 79 ∨ q = 80 ∨ q = 81 ∨ q = 82 ∨ q = 83) (V := fun q j => q = 76 ∨ q = 77 ∨ q = 78 ∨ q = 79 ∨ q = 80 ∨ q = 81 ∨ q = 82 ∨ q = 83) FI4 (fun q j h => (h.elim (fun h => (Or.inl h)) (fun h => (h.elim (fun h => (Or.inr (Or.inl h))) (fun h => (h.elim (fun h => (Or.inr (Or.inr (Or.inl h)))) (fun h => (h.elim (fun h => (Or.inr (Or.inr (Or.inr (Or.inl h))))) (fun h => (h.elim (fun h => (Or.inr (Or.inr (Or.inr (Or.inr (Or.inl h)))))) (fun h => (h.elim (fun h => (Or.inr (Or.inr (Or.inr (Or.inr (Or.inr (Or.inl h))))))) (fun h => (h.elim (fun h => (Or.inr (Or.inr (Or.inr (Or.inr (Or.inr (Or.inr (Or.inl h)))))))) (fun h => (Or.inr (Or.inr (Or.inr (Or.inr (Or.inr (Or.inr (Or.inr h)))))))))))))))))))))) g29
            have t32 := gz_hi ((g29 74 9).resolve_left (fun h => h.elim (fun h => absurd h (by first | exact gz_ne rfl | decide)) (fun h => h.elim (fun h => absurd h (by first | exact gz_ne rfl | decide)) (fun h => h.elim (fun h => absurd h (by first | exact gz_ne rfl | decide)) (fun h => h.elim (fun h => absurd h (by first | exact gz_ne rfl | decide)) (fun h => h.elim (fun h => absurd h (by first | exact gz_ne rfl | decide)) (fun h => h.elim (fun h => absurd h (by first | exact gz_ne rfl | decide)) (fun h => h.elim (fun h => absurd h (by first | exact gz_ne rfl | decide)) (fun h => absurd h (by first | exact gz_ne rfl | decide))))))))))
            have t33 := gz_hi ((g29 t 13).resolve_left (fun h => h.elim (fun h => absurd h (gz_sh N_t__76)) (fun h => h.elim (fun h => absurd h (gz_sh N_t__77)) (fun h => h.elim (fun h => absurd h (gz_sh N_t__78)) (fun h => h.elim (fun h => absurd h (gz_sh N_t__79)) (fun h => h.elim (fun h => absurd h (gz_sh N_t__80)) (fun h => h.elim (fun h => absurd h (gz_sh N_t__81)) (fun h => h.elim (fun h => absurd h (gz_sh N_t__82)) (fun h => absurd h (gz_sh N_t__83))))))))))
            have t34 := gz_hi ((g29 74 1).resolve_left (fun h => h.elim (fun h => absurd h (by first | exact gz_ne rfl | decide)) (fun h => h.elim (fun h => absurd h (by first | exact gz_ne rfl | decide)) (fun h => h.elim (fun h => absurd h (by first | exact gz_ne rfl | decide)) (fun h => h.elim (fun h => absurd h (by first | exact gz_ne rfl | decide)) (fun h => h.elim (fun h => absurd h (by first | exact gz_ne rfl | decide)) (fun h => h.elim (fun h => absurd h (by first | exact gz_ne rfl | decide)) (fun h => h.elim (fun h => absurd h (by first | exact gz_ne rfl | decide)) (fun h => absurd h (by first | exact gz_ne rfl | decide))))))))))
            obtain rfl : J5 = J31 := funext fun q => funext fun j => ((k29 q j).resolve_left id).symm
            refine gv_callV hD rfl (As := [.inr (.inr (some r3_16)), .inl 0, .inl ((I4 r3_16 3) + (I4 14 (Int.toNat a1))), .inl v4_16, .inl 0]) (st := []) rfl (gz_sh B_74) S_74 rfl (gc_lV7 hws rfl) (Nat.le_of_ble_eq_true rfl) (gz_Ev_mono (d := 8) (by decide) E29) ?_
            show gv_X _ _ (106, [(0, .inr (.inr (some 74))), (1, .inl a1), (2, .inl v2_6), (3, .inr (.inr (some r3_16))), (4, .inl v4_16), (5, .inl v5_16)], [], sh, gc_h sh I30 J5 A)
            refine gv_pick [0, 1, 2] rfl ?_
            exact L106 I30 J5 hI30 FI30 FJ5 (by (/-47-/first | (and_intros; (omega); (omega); (have o1 := gz_sh hv2_6; omega); (have o1 := gz_sh hv2_6_16; omega); (have o1 := gz_sh e2_6; have o2 := gz_sh t32; omega); (have o1 := gz_sh e3_6; have o2 := gz_sh t33; omega); (have o1 := gz_sh e4_6; have o2 := gz_sh t34; omega)) | (simp only [gz_hd] at *; omega))) (gz_sh q29).1 (fun k => Int.le_trans (e1_16 k) ((gz_sh q29).2.1 k))
          · show gv_X _ _ (51, [(0, .inr (.inr (some 74))), (1, .inl a1), (2, .inl v2_6), (3, .inr (.inr (some r3_16))), (4, .inl v4_16), (5, .inl v5_16)], [], sh, gc_h sh I4 J5 A)
            refine gv_run 2 true hD (pcₚ := 54) (lvₚ := [(0, .inr (.inr (some 74))), (1, .inl a1), (2, .inl v2_6), (3, .inr (.inr (some r3_16))), (4, .inl v4_16), (5, .inl v5_16)]) (stₚ := [.inr (.inr (some r3_16)), .inl v4_16]) (hₚ := gc_h sh I4 J5 A) (C := ((True ∧ True) ∧ True)) rfl ⟨⟨trivial, trivial⟩, trivial⟩ ?_
            refine gv_get hD rfl rfl S_r3_16 ⟨by decide, (gz_sh B_r3_16)⟩ (gc_hA S_r3_16 rfl A_r3_16_5) ?_
            show gv_X _ _ (57, [(0, .inr (.inr (some 74))), (1, .inl a1), (2, .inl v2_6), (3, .inr (.inr (some r3_16))), (4, .inl v4_16), (5, .inl v5_16)], [.inr (.inr (some (r3_16 + 1))), .inl v4_16], sh, gc_h sh I4 J5 A)
            refine gv_run 1 true hD (pcₚ := 59) (lvₚ := [(0, .inr (.inr (some 74))), (1, .inl a1), (2, .inl v2_6), (3, .inr (.inr (some r3_16))), (4, .inl v4_16), (5, .inl v5_16)]) (stₚ := [.inl v5_16, .inr (.inr (some (r3_16 + 1))), .inl v4_16]) (hₚ := gc_h sh I4 J5 A) (C := (True ∧ True)) rfl ⟨trivial, trivial⟩ ?_
            have f35 := gz_hi ((show (-1) ≤ I4 (r3_16 + 1) (Int.toNat v5_16) ∧ I4 (r3_16 + 1) (Int.toNat v5_16) ≤ 3 from gc_in2 hI4 (gz_sh R_r3_16_1) rfl rfl rfl))
            refine gv_iald hD rfl S_r3_16_1 rfl ⟨by decide, (gz_sh B_r3_16_1)⟩ ⟨by (/-48-/first | (have o1 := gz_sh hv5_16; omega) | (simp only [gz_hd] at *; omega)), by (/-49-/first | (have o1 := gz_sh f24; omega) | (simp only [gz_hd] at *; omega))⟩ (gc_iI S_r3_16_1 rfl) ?_
            show gv_X _ _ (60, [(0, .inr (.inr (some 74))), (1, .inl a1), (2, .inl v2_6), (3, .inr (.inr (some r3_16))), (4, .inl v4_16), (5, .inl v5_16)], [.inl (I4 (r3_16 + 1) (Int.toNat v5_16)), .inl v4_16], sh, gc_h sh I4 J5 A)
            refine gv_if_ge (t := 73) hD rfl rfl ⟨by (/-50-/first | (have o1 := gz_sh f35; omega) | (simp only [gz_hd] at *; omega)), by (/-51-/first | (have o1 := gz_sh f35; omega) | (simp only [gz_hd] at *; omega))⟩ (fun c36 => ?_) (fun c36 => ?_)
            · show gv_X _ _ (73, [(0, .inr (.inr (some 74))), (1, .inl a1), (2, .inl v2_6), (3, .inr (.inr (some r3_16))), (4, .inl v4_16), (5, .inl v5_16)], [.inl v4_16], sh, gc_h sh I4 J5 A)
              refine gv_run 1 true hD (pcₚ := 74) (lvₚ := [(0, .inr (.inr (some 74))), (1, .inl a1), (2, .inl v2_6), (3, .inr (.inr (some r3_16))), (4, .inl v4_16), (5, .inl v5_16)]) (stₚ := [.inl 0, .inl v4_16]) (hₚ := gc_h sh I4 J5 A) (C := (True ∧ True)) rfl ⟨trivial, trivial⟩ ?_
              refine gv_pick [0, 1, 2, 3, 5] rfl ?_
              exact L74 v4_16 0 (by (/-52-/first | (and_intros; (omega); (omega); (have o1 := gz_sh hv2_6; omega); (have o1 := gz_sh hv2_6_16; omega); (have o1 := gz_sh hv5_16; omega); (have o1 := gz_sh f24; omega); (have o1 := gz_sh hv4_16; omega); (have o1 := gz_sh hv4_16; omega); (omega); (omega); (have o1 := gz_sh e2_6; omega); (have o1 := gz_sh e7_16; omega); (have o1 := gz_sh e3_6; omega); (have o1 := gz_sh e4_6; omega)) | (simp only [gz_hd] at *; omega))) e0_16 e1_16
            · show gv_X _ _ (63, [(0, .inr (.inr (some 74))), (1, .inl a1), (2, .inl v2_6), (3, .inr (.inr (some r3_16))), (4, .inl v4_16), (5, .inl v5_16)], [.inl v4_16], sh, gc_h sh I4 J5 A)
              refine gv_run 1 true hD (pcₚ := 64) (lvₚ := [(0, .inr (.inr (some 74))), (1, .inl a1), (2, .inl v2_6), (3, .inr (.inr (some r3_16))), (4, .inl v4_16), (5, .inl v5_16)]) (stₚ := [.inr (.inr (some r3_16)), .inl v4_16]) (hₚ := gc_h sh I4 J5 A) (C := (True ∧ True)) rfl ⟨trivial, trivial⟩ ?_
              refine gv_get hD rfl rfl S_r3_16 ⟨by decide, (gz_sh B_r3_16)⟩ (gc_hA S_r3_16 rfl A_r3_16_7) ?_
              show gv_X _ _ (67, [(0, .inr (.inr (some 74))), (1, .inl a1), (2, .inl v2_6), (3, .inr (.inr (some r3_16))), (4, .inl v4_16), (5, .inl v5_16)], [.inr (.inr (some (r3_16 + 3))), .inl v4_16], sh, gc_h sh I4 J5 A)
              refine gv_run 1 true hD (pcₚ := 69) (lvₚ := [(0, .inr (.inr (some 74))), (1, .inl a1), (2, .inl v2_6), (3, .inr (.inr (some r3_16))), (4, .inl v4_16), (5, .inl v5_16)]) (stₚ := [.inl v5_16, .inr (.inr (some (r3_16 + 3))), .inl v4_16]) (hₚ := gc_h sh I4 J5 A) (C := (True ∧ True)) rfl ⟨trivial, trivial⟩ ?_
              have f37 := gz_hi ((show 0 ≤ I4 (r3_16 + 3) (Int.toNat v5_16) ∧ I4 (r3_16 + 3) (Int.toNat v5_16) ≤ 24 from gc_in2 hI4 (gz_sh R_r3_16_3) rfl rfl rfl))
              refine gv_iald hD rfl S_r3_16_3 rfl ⟨by decide, (gz_sh B_r3_16_3)⟩ ⟨by (/-53-/first | (have o1 := gz_sh hv5_16; omega) | (simp only [gz_hd] at *; omega)), by (/-54-/first | (have o1 := gz_sh f24; omega) | (simp only [gz_hd] at *; omega))⟩ (gc_iI S_r3_16_3 rfl) ?_
              show gv_X _ _ (70, [(0, .inr (.inr (some 74))), (1, .inl a1), (2, .inl v2_6), (3, .inr (.inr (some r3_16))), (4, .inl v4_16), (5, .inl v5_16)], [.inl (I4 (r3_16 + 3) (Int.toNat v5_16)), .inl v4_16], sh, gc_h sh I4 J5 A)
              refine gv_run 1 true hD (pcₚ := 74) (lvₚ := [(0, .inr (.inr (some 74))), (1, .inl a1), (2, .inl v2_6), (3, .inr (.inr (some r3_16))), (4, .inl v4_16), (5, .inl v5_16)]) (stₚ := [.inl (I4 (r3_16 + 3) (Int.toNat v5_16)), .inl v4_16]) (hₚ := gc_h sh I4 J5 A) (C := (True ∧ True)) rfl ⟨trivial, trivial⟩ ?_
              refine gv_pick [0, 1, 2, 3, 5] rfl ?_
              exact L74 v4_16 ((I4 (r3_16 + 3) (Int.toNat v5_16))) (by (/-55-/first | (and_intros; (omega); (omega); (have o1 := gz_sh hv2_6; omega); (have o1 := gz_sh hv2_6_16; omega); (have o1 := gz_sh hv5_16; omega); (have o1 := gz_sh f24; omega); (have o1 := gz_sh hv4_16; omega); (have o1 := gz_sh hv4_16; omega); (have o1 := gz_sh f37; omega); (have o1 := gz_sh f37; omega); (have o1 := gz_sh e2_6; omega); (have o1 := gz_sh e7_16; omega); (have o1 := gz_sh e3_6; omega); (have o1 := gz_sh e4_6; omega)) | (simp only [gz_hd] at *; omega))) e0_16 e1_16
      refine gv_run 2 true hD (pcₚ := 4) (lvₚ := [(0, .inr (.inr (some 74))), (1, .inl a1), (2, .inl v2_6)]) (stₚ := [.inr (.inr (some 74)), .inl v2_6]) (hₚ := gc_h sh I4 J5 A) (C := ((True ∧ True) ∧ True)) rfl ⟨⟨trivial, trivial⟩, trivial⟩ ?_
      refine gv_get hD rfl rfl S_74 ⟨by decide, (gz_sh B_74)⟩ (gc_h5 (t := t) S_74 rfl (by (/-56-/first | (have o1 := gz_sh e4_6; omega) | (simp only [gz_hd] at *; omega)))) ?_
      show gv_X _ _ (7, [(0, .inr (.inr (some 74))), (1, .inl a1), (2, .inl v2_6)], [.inr (.inr (some t)), .inl v2_6], sh, gc_h sh I4 J5 A)
      refine gv_get hD rfl rfl S_t ⟨by decide, (gz_sh B_t)⟩ (gc_hI S_t rfl) ?_
      show gv_X _ _ (10, [(0, .inr (.inr (some 74))), (1, .inl a1), (2, .inl v2_6)], [.inl (I4 t 13), .inl v2_6], sh, gc_h sh I4 J5 A)
      refine gv_icmp_ge (t := 112) hD rfl rfl ⟨⟨by (/-57-/first | (have o1 := gz_sh hv2_6; omega) | (simp only [gz_hd] at *; omega)), by (/-58-/first | (have o1 := gz_sh hv2_6; omega) | (simp only [gz_hd] at *; omega))⟩, ⟨by (/-59-/first | (have o1 := gz_sh e3_6; have o2 := gz_sh f2; omega) | (simp only [gz_hd] at *; omega)), by (/-60-/first | (have o1 := gz_sh e3_6; have o2 := gz_sh f2; omega) | (simp only [gz_hd] at *; omega))⟩⟩ (fun c39 => ?_) (fun c39 => ?_)
      · show gv_X _ _ (112, [(0, .inr (.inr (some 74))), (1, .inl a1), (2, .inl v2_6)], [], sh, gc_h sh I4 J5 A)
        exact gv_vret hD rfl ⟨I4, J5, rfl, hI4, FI4, FJ5, ⟨rfl, e0_6, e1_6⟩⟩
      · show gv_X _ _ (13, [(0, .inr (.inr (some 74))), (1, .inl a1), (2, .inl v2_6)], [], sh, gc_h sh I4 J5 A)
        refine gv_run 1 true hD (pcₚ := 14) (lvₚ := [(0, .inr (.inr (some 74))), (1, .inl a1), (2, .inl v2_6)]) (stₚ := [.inr (.inr (some 74))]) (hₚ := gc_h sh I4 J5 A) (C := (True ∧ True)) rfl ⟨trivial, trivial⟩ ?_
        refine gv_get hD rfl rfl S_74 ⟨by decide, (gz_sh B_74)⟩ (gc_h5 (t := t) S_74 rfl (by (/-61-/first | (have o1 := gz_sh e4_6; omega) | (simp only [gz_hd] at *; omega)))) ?_
        show gv_X _ _ (17, [(0, .inr (.inr (some 74))), (1, .inl a1), (2, .inl v2_6)], [.inr (.inr (some t))], sh, gc_h sh I4 J5 A)
        refine gv_get hD rfl rfl S_t ⟨by decide, (gz_sh B_t)⟩ (gc_hA S_t rfl A_t_14) ?_
        show gv_X _ _ (20, [(0, .inr (.inr (some 74))), (1, .inl a1), (2, .inl v2_6)], [.inr (.inr (some (t + 16)))], sh, gc_h sh I4 J5 A)
        refine gv_run 1 true hD (pcₚ := 21) (lvₚ := [(0, .inr (.inr (some 74))), (1, .inl a1), (2, .inl v2_6)]) (stₚ := [.inl v2_6, .inr (.inr (some (t + 16)))]) (hₚ := gc_h sh I4 J5 A) (C := (True ∧ True)) rfl ⟨trivial, trivial⟩ ?_
        obtain ⟨t40_, A_t40, h_t40, G_t40, U_t40, _⟩ := (gc_Ls_fr x3 ((FI4 t 13).resolve_left (by (/-62-/first | (have o1 := gz_sh B_t; have o2 := gz_sh B_t_10; have o3 := gz_sh B_t_13; have o4 := gz_sh B_t_14; have o5 := gz_sh B_t_15; have o6 := gz_sh B_t_16; have o7 := gz_sh B_t_17; have o8 := gz_sh B_t_17_1; have o9 := gz_sh B_t_17_2; have o10 := gz_sh B_t_17_3; have o11 := gz_sh B_t_17_4; have o12 := gz_sh B_t_17_5; have o13 := gz_sh B_t_17_6; have o14 := gz_sh B_t_17_7; have o15 := gz_sh B_t_5; have o16 := gz_sh B_t_6; have o17 := gz_sh B_t_9; have o18 := gz_sh e4_6; omega) | (simp only [gz_hd] at *; omega)))) (fun q hL hq d k hd => (FI4 (q + d) k).resolve_left (by have := gc_dj_LT hL h_t; (/-63-/first | omega | (simp only [gz_hd] at *; omega))))) (Int.toNat v2_6) (by (/-64-/first | (have o1 := gz_sh hv2_6; omega) | (simp only [gz_hd] at *; omega))); have Z_t40 : 1 ≤ I4 t40_ 4 := (by rw [(FI4 t40_ 4).resolve_left (by (/-65-/first | omega | (simp only [gz_hd] at *; omega)))]; exact (x4 (Int.toNat v2_6) t40_ (by (/-66-/first | (have o1 := gz_sh e3_6; have o2 := gz_sh hv2_6; omega) | (simp only [gz_hd] at *; omega))) A_t40).1)
        obtain ⟨S_t40, R_t40, B_t40, A_t40_5, S_t40__1, R_t40__1, B_t40__1, A_t40_6, S_t40__2, R_t40__2, B_t40__2, A_t40_7, S_t40__3, R_t40__3, B_t40__3, A_t40_9, S_t40__4, R_t40__4, B_t40__4, A_t40_10, S_t40__5, R_t40__5, B_t40__5, A_t40_11, S_t40__6, R_t40__6, B_t40__6, A_t40_13, S_t40__7, R_t40__7, B_t40__7, A_t40_15, S_t40__8, R_t40__8, B_t40__8⟩ := id h_t40
        replace R_t40 := gz_hi R_t40
        replace B_t40 := gz_hi B_t40
        replace R_t40__1 := gz_hi R_t40__1
        replace B_t40__1 := gz_hi B_t40__1
        replace R_t40__2 := gz_hi R_t40__2
        replace B_t40__2 := gz_hi B_t40__2
        replace R_t40__3 := gz_hi R_t40__3
        replace B_t40__3 := gz_hi B_t40__3
        replace R_t40__4 := gz_hi R_t40__4
        replace B_t40__4 := gz_hi B_t40__4
        replace R_t40__5 := gz_hi R_t40__5
        replace B_t40__5 := gz_hi B_t40__5
        replace R_t40__6 := gz_hi R_t40__6
        replace B_t40__6 := gz_hi B_t40__6
        replace R_t40__7 := gz_hi R_t40__7
        replace B_t40__7 := gz_hi B_t40__7
        replace R_t40__8 := gz_hi R_t40__8
        replace B_t40__8 := gz_hi B_t40__8
        refine gv_aald hD rfl S_t_16 ⟨by decide, by decide⟩ ⟨by decide, (gz_sh B_t_16)⟩ ⟨by (/-67-/first | (have o1 := gz_sh hv2_6; omega) | (simp only [gz_hd] at *; omega)), by (/-68-/first | (have o1 := gz_sh e3_6; have o2 := gz_sh f2; omega) | (simp only [gz_hd] at *; omega))⟩ ((gc_aA S_t_16 rfl).trans A_t40) ?_
        show gv_X _ _ (22, [(0, .inr (.inr (some 74))), (1, .inl a1), (2, .inl v2_6)], [.inr (.inr (some t40_))], sh, gc_h sh I4 J5 A)
        refine gv_run 2 true hD (pcₚ := 24) (lvₚ := [(3, .inr (.inr (some t40_))), (0, .inr (.inr (some 74))), (1, .inl a1), (2, .inl v2_6)]) (stₚ := [.inr (.inr (some t40_))]) (hₚ := gc_h sh I4 J5 A) (C := ((True ∧ True) ∧ True)) rfl ⟨⟨trivial, trivial⟩, trivial⟩ ?_
        have f41 := gz_hi ((show 0 ≤ I4 t40_ 1 ∧ I4 t40_ 1 ≤ 95 from gc_in2 hI4 (gz_sh R_t40) rfl rfl rfl))
        refine gv_get hD rfl rfl S_t40 ⟨by decide, (gz_sh B_t40)⟩ (gc_hI S_t40 rfl) ?_
        show gv_X _ _ (27, [(3, .inr (.inr (some t40_))), (0, .inr (.inr (some 74))), (1, .inl a1), (2, .inl v2_6)], [.inl (I4 t40_ 1)], sh, gc_h sh I4 J5 A)
        refine gv_run 1 true hD (pcₚ := 28) (lvₚ := [(3, .inr (.inr (some t40_))), (0, .inr (.inr (some 74))), (1, .inl a1), (2, .inl v2_6)]) (stₚ := [.inl a1, .inl (I4 t40_ 1)]) (hₚ := gc_h sh I4 J5 A) (C := (True ∧ True)) rfl ⟨trivial, trivial⟩ ?_
        refine gv_icmp_ne (t := 106) hD rfl rfl ⟨⟨by (/-69-/first | (have o1 := gz_sh f41; omega) | (simp only [gz_hd] at *; omega)), by (/-70-/first | (have o1 := gz_sh f41; omega) | (simp only [gz_hd] at *; omega))⟩, ⟨by (/-71-/first | omega | (simp only [gz_hd] at *; omega)), by (/-72-/first | omega | (simp only [gz_hd] at *; omega))⟩⟩ (fun c42 => ?_) (fun c42 => ?_)
        · show gv_X _ _ (106, [(3, .inr (.inr (some t40_))), (0, .inr (.inr (some 74))), (1, .inl a1), (2, .inl v2_6)], [], sh, gc_h sh I4 J5 A)
          refine gv_pick [1, 2, 3] rfl ?_
          exact L106 I4 J5 hI4 FI4 FJ5 (by (/-73-/first | (and_intros; (omega); (omega); (have o1 := gz_sh hv2_6; omega); (have o1 := gz_sh e3_6; have o2 := gz_sh f2; omega); (have o1 := gz_sh e2_6; omega); (have o1 := gz_sh e3_6; omega); (have o1 := gz_sh e4_6; omega)) | (simp only [gz_hd] at *; omega))) e0_6 e1_6
        · show gv_X _ _ (31, [(3, .inr (.inr (some t40_))), (0, .inr (.inr (some 74))), (1, .inl a1), (2, .inl v2_6)], [], sh, gc_h sh I4 J5 A)
          refine gv_run 1 true hD (pcₚ := 32) (lvₚ := [(3, .inr (.inr (some t40_))), (0, .inr (.inr (some 74))), (1, .inl a1), (2, .inl v2_6)]) (stₚ := [.inr (.inr (some t40_))]) (hₚ := gc_h sh I4 J5 A) (C := (True ∧ True)) rfl ⟨trivial, trivial⟩ ?_
          have f43 := gz_hi ((show 0 ≤ I4 t40_ 4 ∧ I4 t40_ 4 ≤ 6 from gc_in2 hI4 (gz_sh R_t40) rfl rfl rfl))
          refine gv_get hD rfl rfl S_t40 ⟨by decide, (gz_sh B_t40)⟩ (gc_hI S_t40 rfl) ?_
          show gv_X _ _ (35, [(3, .inr (.inr (some t40_))), (0, .inr (.inr (some 74))), (1, .inl a1), (2, .inl v2_6)], [.inl (I4 t40_ 4)], sh, gc_h sh I4 J5 A)
          refine gv_run 5 true hD (pcₚ := 42) (lvₚ := [(5, .inl 0), (4, .inl ((I4 t40_ 4) - 1)), (3, .inr (.inr (some t40_))), (0, .inr (.inr (some 74))), (1, .inl a1), (2, .inl v2_6)]) (stₚ := []) (hₚ := gc_h sh I4 J5 A) (C := (((((True ∧ True) ∧ True) ∧ True) ∧ True) ∧ True)) rfl ⟨⟨⟨⟨⟨trivial, trivial⟩, trivial⟩, trivial⟩, trivial⟩, trivial⟩ ?_
          refine gv_pick [3, 4, 5, 2, 1, 0] rfl ?_
          exact L42 _ t40_ (((I4 t40_ 4) - 1)) 0 (Nat.lt_succ_self _) h_t40 G_t40 (by (/-74-/first | (and_intros; (have o1 := gz_sh f41; omega); (have o1 := gz_sh f41; omega); (have o1 := gz_sh hv2_6; omega); (have o1 := gz_sh e3_6; have o2 := gz_sh f2; omega); (omega); (have o1 := gz_sh f43; omega); (omega); (omega); (have o1 := gz_sh e2_6; omega); (have o1 := gz_sh hv2_6; omega); (omega); (have o1 := gz_sh e3_6; omega); (have o1 := gz_sh f43; omega); (have o1 := gz_sh e3_6; omega); (have o1 := gz_sh e4_6; omega)) | (simp only [gz_hd] at *; omega))) e0_6 e1_6 A_t40
  refine gv_run 2 true hD (pcₚ := 2) (lvₚ := [(2, .inl 0), (0, .inr (.inr (some 74))), (1, .inl a1)]) (stₚ := []) (hₚ := gc_h sh I J A) (C := ((True ∧ True) ∧ True)) rfl ⟨⟨trivial, trivial⟩, trivial⟩ ?_
  refine gv_pick [1, 2, 0] rfl ?_
  exact L2 _ I J 0 (Nat.lt_succ_self _) hI FI FJ (by (/-75-/first | (and_intros <;> omega) | (simp only [gz_hd] at *; omega))) x0 (fun k => Int.le_refl _)
