set_option maxHeartbeats 8000000 in
set_option maxRecDepth 100000 in
theorem d_X7_pickWords {ws0 : List Cond} {tb : String → gz_T} (hws : gc_Ws ws0) (htb : gc_tbs tb) (sh : gz_Sh) (ro : Nat → Nat) (I : gr_I) (J : gr_J) (A : gc_A) (hI : gc_Inv ro I) (t : Nat) (σ : Nat → Int) (ς : Nat → Int → Int) (L : Int) (lo : Int) (hi : Int) (a1 : Int) (hb : gc_Base sh ro A) (h_t : gc_isTongue sh ro A t) (G_t : 144 ≤ t) (ha1 : 0 ≤ a1 ∧ a1 ≤ 95) (x0 : gc_OE σ ς L lo hi (-1) I) (x1 : 0 ≤ I 74 9) (x2 : lo ≤ I 74 9 ∧ I 74 9 < hi) (x3 : I 74 1 = (t : Int)) : ∃ r hₚ, gz_Ev ws0 tb 3 (yX7_pickWords, cX7_pickWords, 6, none) [.inr (.inr (some 74)), .inl a1] sh (gc_h sh I J A) r sh hₚ 0 0 ∧ (∃ (Iₚ : gr_I) (Jₚ : gr_J), hₚ = gc_h sh Iₚ Jₚ A ∧ gc_Inv ro Iₚ ∧ (∀ q j : Nat, (q = 76 ∨ q = 77 ∨ q = 78 ∨ q = 79 ∨ q = 80 ∨ q = 81) ∨ Iₚ q j = I q j) ∧ (∀ q j : Nat, (False) ∨ Jₚ q j = J q j) ∧ r = none ∧ (gc_OE σ ς L lo hi (-1) Iₚ) ∧ (∀ k : Nat, I 76 k ≤ Iₚ 76 k)) := by
  have FI : ∀ q j : Nat, (q = 76 ∨ q = 77 ∨ q = 78 ∨ q = 79 ∨ q = 80 ∨ q = 81) ∨ I q j = I q j := fun _ _ => Or.inr rfl
  have FJ : ∀ q j : Nat, (False) ∨ J q j = J q j := fun _ _ => Or.inr rfl
  have A_1_9 : A 1 9 = some 14 := gc_bA_1_9 hb
  have A_74_0 : A 74 0 = some 1 := gc_bA_74_0 hb
  have B_1 := gz_hi (show 1 < 1000000 from by decide)
  have B_14 := gz_hi (show 14 < 1000000 from by decide)
  have B_74 := gz_hi (show 74 < 1000000 from by decide)
  have R_14 := gz_hi (show ro 14 = 27 from gc_bR_14 hb)
  have R_74 := gz_hi (show ro 74 = 73 from gc_bR_74 hb)
  have S_1 : sh[1]? = some (false, 8, 21) := gc_bS_1 hb
  have S_14 : sh[14]? = some (true, 1, 96) := gc_bS_14 hb
  have S_74 : sh[74]? = some (false, 7, 14) := gc_bS_74 hb
  obtain ⟨S_t, R_t, B_t, A_t_0, h_t_1, A_t_1, h_t_3, A_t_2, S_t_5, R_t_5, B_t_5, A_t_3, S_t_6, R_t_6, B_t_6, A_t_4, h_t_7, A_t_5, S_t_9, R_t_9, B_t_9, A_t_7, S_t_10, R_t_10, B_t_10, A_t_8, h_t_11, A_t_9, S_t_13, R_t_13, B_t_13, A_t_10, S_t_14, R_t_14, B_t_14, A_t_12, S_t_15, R_t_15, B_t_15, A_t_14, S_t_16, R_t_16, B_t_16, A_t_15, h_t_17⟩ := id h_t
  replace R_t := gz_hi R_t
  replace B_t := gz_hi B_t
  replace R_t_5 := gz_hi R_t_5
  replace B_t_5 := gz_hi B_t_5
  replace R_t_6 := gz_hi R_t_6
  replace B_t_6 := gz_hi B_t_6
  replace R_t_9 := gz_hi R_t_9
  replace B_t_9 := gz_hi B_t_9
  replace R_t_10 := gz_hi R_t_10
  replace B_t_10 := gz_hi B_t_10
  replace R_t_13 := gz_hi R_t_13
  replace B_t_13 := gz_hi B_t_13
  replace R_t_14 := gz_hi R_t_14
  replace B_t_14 := gz_hi B_t_14
  replace R_t_15 := gz_hi R_t_15
  replace B_t_15 := gz_hi B_t_15
  replace R_t_16 := gz_hi R_t_16
  replace B_t_16 := gz_hi B_t_16
  obtain ⟨S_t_1, R_t_1, B_t_1, A_t_1_0, S_t_1_1, R_t_1_1, B_t_1_1, Q0_t_1, Q1_t_1, Q2_t_1⟩ := id h_t_1
  replace R_t_1 := gz_hi R_t_1
  replace B_t_1 := gz_hi B_t_1
  replace R_t_1_1 := gz_hi R_t_1_1
  replace B_t_1_1 := gz_hi B_t_1_1
  obtain ⟨S_t_3, R_t_3, B_t_3, A_t_3_0, S_t_3_1, R_t_3_1, B_t_3_1, Q0_t_3, Q1_t_3, Q2_t_3⟩ := id h_t_3
  replace R_t_3 := gz_hi R_t_3
  replace B_t_3 := gz_hi B_t_3
  replace R_t_3_1 := gz_hi R_t_3_1
  replace B_t_3_1 := gz_hi B_t_3_1
  obtain ⟨S_t_7, R_t_7, B_t_7, A_t_7_0, S_t_7_1, R_t_7_1, B_t_7_1, Q0_t_7, Q1_t_7, Q2_t_7⟩ := id h_t_7
  replace R_t_7 := gz_hi R_t_7
  replace B_t_7 := gz_hi B_t_7
  replace R_t_7_1 := gz_hi R_t_7_1
  replace B_t_7_1 := gz_hi B_t_7_1
  obtain ⟨S_t_11, R_t_11, B_t_11, A_t_11_0, S_t_11_1, R_t_11_1, B_t_11_1, Q0_t_11, Q1_t_11, Q2_t_11⟩ := id h_t_11
  replace R_t_11 := gz_hi R_t_11
  replace B_t_11 := gz_hi B_t_11
  replace R_t_11_1 := gz_hi R_t_11_1
  replace B_t_11_1 := gz_hi B_t_11_1
  obtain ⟨S_t_17, R_t_17, B_t_17, A_t_17_0, S_20, R_20, B_20, A_t_17_1, S_t_17_1, R_t_17_1, B_t_17_1, A_t_17_2, S_t_17_2, R_t_17_2, B_t_17_2, A_t_17_3, S_t_17_3, R_t_17_3, B_t_17_3, A_t_17_4, S_t_17_4, R_t_17_4, B_t_17_4, A_t_17_5, S_t_17_5, R_t_17_5, B_t_17_5, S_t_17_6, R_t_17_6, B_t_17_6, S_t_17_7, R_t_17_7, B_t_17_7⟩ := id h_t_17
  replace R_t_17 := gz_hi R_t_17
  replace B_t_17 := gz_hi B_t_17
  replace R_20 := gz_hi R_20
  replace B_20 := gz_hi B_20
  replace R_t_17_1 := gz_hi R_t_17_1
  replace B_t_17_1 := gz_hi B_t_17_1
  replace R_t_17_2 := gz_hi R_t_17_2
  replace B_t_17_2 := gz_hi B_t_17_2
  replace R_t_17_3 := gz_hi R_t_17_3
  replace B_t_17_3 := gz_hi B_t_17_3
  replace R_t_17_4 := gz_hi R_t_17_4
  replace B_t_17_4 := gz_hi B_t_17_4
  replace R_t_17_5 := gz_hi R_t_17_5
  replace B_t_17_5 := gz_hi B_t_17_5
  replace R_t_17_6 := gz_hi R_t_17_6
  replace B_t_17_6 := gz_hi B_t_17_6
  replace R_t_17_7 := gz_hi R_t_17_7
  replace B_t_17_7 := gz_hi B_t_17_7
  have hD : gv_D (gc_E7 ws0 tb 2 (yX7_pickWords, cX7_pickWords, 6, none) kX7_pickWords) := gq_of oX7_pickWords
  refine gc_ev7 (d := 2) (l := kX7_pickWords) (Po := fun r hₚ => (∃ (Iₚ : gr_I) (Jₚ : gr_J), hₚ = gc_h sh Iₚ Jₚ A ∧ gc_Inv ro Iₚ ∧ (∀ q j : Nat, (q = 76 ∨ q = 77 ∨ q = 78 ∨ q = 79 ∨ q = 80 ∨ q = 81) ∨ Iₚ q j = I q j) ∧ (∀ q j : Nat, (False) ∨ Jₚ q j = J q j) ∧ r = none ∧ (gc_OE σ ς L lo hi (-1) Iₚ) ∧ (∀ k : Nat, I 76 k ≤ Iₚ 76 k))) htb rfl (Nat.le_of_ble_eq_true rfl) ?_
  have N_t__76 := gz_hi (show ¬ (t = 76) from by (/-0-/first | (have o1 := gz_sh B_t; have o2 := gz_sh B_t_10; have o3 := gz_sh B_t_13; have o4 := gz_sh B_t_14; have o5 := gz_sh B_t_15; have o6 := gz_sh B_t_16; have o7 := gz_sh B_t_17; have o8 := gz_sh B_t_17_1; have o9 := gz_sh B_t_17_2; have o10 := gz_sh B_t_17_3; have o11 := gz_sh B_t_17_4; have o12 := gz_sh B_t_17_5; have o13 := gz_sh B_t_17_6; have o14 := gz_sh B_t_17_7; have o15 := gz_sh B_t_5; have o16 := gz_sh B_t_6; have o17 := gz_sh B_t_9; omega) | (simp only [gz_hd] at *; omega)))
  have N_t__77 := gz_hi (show ¬ (t = 77) from by (/-1-/first | (have o1 := gz_sh B_t; have o2 := gz_sh B_t_10; have o3 := gz_sh B_t_13; have o4 := gz_sh B_t_14; have o5 := gz_sh B_t_15; have o6 := gz_sh B_t_16; have o7 := gz_sh B_t_17; have o8 := gz_sh B_t_17_1; have o9 := gz_sh B_t_17_2; have o10 := gz_sh B_t_17_3; have o11 := gz_sh B_t_17_4; have o12 := gz_sh B_t_17_5; have o13 := gz_sh B_t_17_6; have o14 := gz_sh B_t_17_7; have o15 := gz_sh B_t_5; have o16 := gz_sh B_t_6; have o17 := gz_sh B_t_9; omega) | (simp only [gz_hd] at *; omega)))
  have N_t__78 := gz_hi (show ¬ (t = 78) from by (/-2-/first | (have o1 := gz_sh B_t; have o2 := gz_sh B_t_10; have o3 := gz_sh B_t_13; have o4 := gz_sh B_t_14; have o5 := gz_sh B_t_15; have o6 := gz_sh B_t_16; have o7 := gz_sh B_t_17; have o8 := gz_sh B_t_17_1; have o9 := gz_sh B_t_17_2; have o10 := gz_sh B_t_17_3; have o11 := gz_sh B_t_17_4; have o12 := gz_sh B_t_17_5; have o13 := gz_sh B_t_17_6; have o14 := gz_sh B_t_17_7; have o15 := gz_sh B_t_5; have o16 := gz_sh B_t_6; have o17 := gz_sh B_t_9; omega) | (simp only [gz_hd] at *; omega)))
  have N_t__79 := gz_hi (show ¬ (t = 79) from by (/-3-/first | (have o1 := gz_sh B_t; have o2 := gz_sh B_t_10; have o3 := gz_sh B_t_13; have o4 := gz_sh B_t_14; have o5 := gz_sh B_t_15; have o6 := gz_sh B_t_16; have o7 := gz_sh B_t_17; have o8 := gz_sh B_t_17_1; have o9 := gz_sh B_t_17_2; have o10 := gz_sh B_t_17_3; have o11 := gz_sh B_t_17_4; have o12 := gz_sh B_t_17_5; have o13 := gz_sh B_t_17_6; have o14 := gz_sh B_t_17_7; have o15 := gz_sh B_t_5; have o16 := gz_sh B_t_6; have o17 := gz_sh B_t_9; omega) | (simp only [gz_hd] at *; omega)))
  have N_t__80 := gz_hi (show ¬ (t = 80) from by (/-4-/first | (have o1 := gz_sh B_t; have o2 := gz_sh B_t_10; have o3 := gz_sh B_t_13; have o4 := gz_sh B_t_14; have o5 := gz_sh B_t_15; have o6 := gz_sh B_t_16; have o7 := gz_sh B_t_17; have o8 := gz_sh B_t_17_1; have o9 := gz_sh B_t_17_2; have o10 := gz_sh B_t_17_3; have o11 := gz_sh B_t_17_4; have o12 := gz_sh B_t_17_5; have o13 := gz_sh B_t_17_6; have o14 := gz_sh B_t_17_7; have o15 := gz_sh B_t_5; have o16 := gz_sh B_t_6; have o17 := gz_sh B_t_9; omega) | (simp only [gz_hd] at *; omega)))
  have N_t__81 := gz_hi (show ¬ (t = 81) from by (/-5-/first | (have o1 := gz_sh B_t; have o2 := gz_sh B_t_10; have o3 := gz_sh B_t_13; have o4 := gz_sh B_t_14; have o5 := gz_sh B_t_15; have o6 := gz_sh B_t_16; have o7 := gz_sh B_t_17; have o8 := gz_sh B_t_17_1; have o9 := gz_sh B_t_17_2; have o10 := gz_sh B_t_17_3; have o11 := gz_sh B_t_17_4; have o12 := gz_sh B_t_17_5; have o13 := gz_sh B_t_17_6; have o14 := gz_sh B_t_17_7; have o15 := gz_sh B_t_5; have o16 := gz_sh B_t_6; have o17 := gz_sh B_t_9; omega) | (simp only [gz_hd] at *; omega)))
  have f1 := gz_hi ((gc_b_73_9 hI (gz_sh R_74)))
  have L2 : ∀ (n9 : Nat) (I4 : gr_I) (J5 : gr_J) (v2_6 : Int), (65 - v2_6).toNat < n9 → gc_Inv ro I4 → (∀ q j : Nat, (q = 76 ∨ q = 77 ∨ q = 78 ∨ q = 79 ∨ q = 80 ∨ q = 81) ∨ I4 q j = I q j) → (∀ q j : Nat, (False) ∨ J5 q j = J q j) → ((0 ≤ a1 ∧ a1 ≤ 95) ∧ (0 ≤ v2_6 ∧ v2_6 ≤ 64) ∧ (I4 74 9 = I 74 9) ∧ (I4 74 1 = (t : Int))) → (gc_OE σ ς L lo hi (-1) I4) → (∀ k : Nat, I 76 k ≤ I4 76 k) → gv_X (gc_E7 ws0 tb 2 (yX7_pickWords, cX7_pickWords, 6, none) kX7_pickWords) (gv_Q cX7_pickWords none sh (fun r hₚ => (∃ (Iₚ : gr_I) (Jₚ : gr_J), hₚ = gc_h sh Iₚ Jₚ A ∧ gc_Inv ro Iₚ ∧ (∀ q j : Nat, (q = 76 ∨ q = 77 ∨ q = 78 ∨ q = 79 ∨ q = 80 ∨ q = 81) ∨ Iₚ q j = I q j) ∧ (∀ q j : Nat, (False) ∨ Jₚ q j = J q j) ∧ r = none ∧ (gc_OE σ ς L lo hi (-1) Iₚ) ∧ (∀ k : Nat, I 76 k ≤ Iₚ 76 k)))) (2, [(0, .inr (.inr (some 74))), (1, .inl a1), (2, .inl v2_6)], [], sh, gc_h sh I4 J5 A) := by
    intro n9
    induction n9 with
    | zero => intro I4 J5 v2_6 hn; (/-6-/first | omega | (simp only [gz_hd] at *; omega))
    | succ n9 ih2 =>
      intro I4 J5 v2_6 hn hI4 FI4 FJ5 m_6 e0_6 e1_6
      obtain ⟨ha1_6, hv2_6, e2_6, e3_6⟩ := gz_h4 m_6
      have f8 := gz_hi ((show 0 ≤ I4 t 11 ∧ I4 t 11 ≤ 64 from gc_in2 hI4 (gz_sh R_t) rfl rfl rfl))
      have L112 : ∀ (I10 : gr_I) (J11 : gr_J) , gc_Inv ro I10 → (∀ q j : Nat, (q = 76 ∨ q = 77 ∨ q = 78 ∨ q = 79 ∨ q = 80 ∨ q = 81) ∨ I10 q j = I q j) → (∀ q j : Nat, (False) ∨ J11 q j = J q j) → ((0 ≤ a1 ∧ a1 ≤ 95) ∧ (0 ≤ v2_6 ∧ v2_6 ≤ 63) ∧ (I10 74 9 = I 74 9) ∧ (v2_6 ≤ 63) ∧ (I10 74 1 = (t : Int))) → (gc_OE σ ς L lo hi (-1) I10) → (∀ k : Nat, I 76 k ≤ I10 76 k) → gv_X (gc_E7 ws0 tb 2 (yX7_pickWords, cX7_pickWords, 6, none) kX7_pickWords) (gv_Q cX7_pickWords none sh (fun r hₚ => (∃ (Iₚ : gr_I) (Jₚ : gr_J), hₚ = gc_h sh Iₚ Jₚ A ∧ gc_Inv ro Iₚ ∧ (∀ q j : Nat, (q = 76 ∨ q = 77 ∨ q = 78 ∨ q = 79 ∨ q = 80 ∨ q = 81) ∨ Iₚ q j = I q j) ∧ (∀ q j : Nat, (False) ∨ Jₚ q j = J q j) ∧ r = none ∧ (gc_OE σ ς L lo hi (-1) Iₚ) ∧ (∀ k : Nat, I 76 k ≤ Iₚ 76 k)))) (112, [(0, .inr (.inr (some 74))), (1, .inl a1), (2, .inl v2_6)], [], sh, gc_h sh I10 J11 A) := by
        intro I10 J11 hI10 FI10 FJ11 m_12 e0_12 e1_12
        clear ha1_6 hv2_6 e2_6 e3_6 f8
        obtain ⟨ha1_12, hv2_6_12, e2_12, e3_12, e4_12⟩ := gz_h5 m_12
        refine gv_run 2 true hD (pcₚ := 2) (lvₚ := [(2, .inl (v2_6 + 1)), (0, .inr (.inr (some 74))), (1, .inl a1)]) (stₚ := []) (hₚ := gc_h sh I10 J11 A) (C := ((True ∧ True) ∧ True)) rfl ⟨⟨trivial, trivial⟩, trivial⟩ ?_
        refine gv_pick [1, 2, 0] rfl ?_
        exact ih2 I10 J11 (v2_6 + 1) (by (/-7-/first | (have o1 := gz_sh hv2_6_12; omega) | (simp only [gz_hd] at *; omega))) hI10 FI10 FJ11 (by (/-8-/first | (and_intros; (omega); (omega); (have o1 := gz_sh hv2_6_12; omega); (have o1 := gz_sh hv2_6_12; omega); (have o1 := gz_sh e2_12; omega); (have o1 := gz_sh e4_12; omega)) | (simp only [gz_hd] at *; omega))) e0_12 e1_12
      have L30 : ∀ (n9 : Nat) (I16 : gr_I) (J17 : gr_J) (v3_18 : Int), (25 - v3_18).toNat < n9 → gc_Inv ro I16 → (∀ q j : Nat, (q = 76 ∨ q = 77 ∨ q = 78 ∨ q = 79 ∨ q = 80 ∨ q = 81) ∨ I16 q j = I q j) → (∀ q j : Nat, (False) ∨ J17 q j = J q j) → ((0 ≤ a1 ∧ a1 ≤ 95) ∧ (0 ≤ v2_6 ∧ v2_6 ≤ 63) ∧ (0 ≤ v3_18 ∧ v3_18 ≤ 24) ∧ (I16 74 9 = I 74 9) ∧ (v2_6 ≤ 63) ∧ (I16 74 1 = (t : Int))) → (gc_OE σ ς L lo hi (-1) I16) → (∀ k : Nat, I 76 k ≤ I16 76 k) → gv_X (gc_E7 ws0 tb 2 (yX7_pickWords, cX7_pickWords, 6, none) kX7_pickWords) (gv_Q cX7_pickWords none sh (fun r hₚ => (∃ (Iₚ : gr_I) (Jₚ : gr_J), hₚ = gc_h sh Iₚ Jₚ A ∧ gc_Inv ro Iₚ ∧ (∀ q j : Nat, (q = 76 ∨ q = 77 ∨ q = 78 ∨ q = 79 ∨ q = 80 ∨ q = 81) ∨ Iₚ q j = I q j) ∧ (∀ q j : Nat, (False) ∨ Jₚ q j = J q j) ∧ r = none ∧ (gc_OE σ ς L lo hi (-1) Iₚ) ∧ (∀ k : Nat, I 76 k ≤ Iₚ 76 k)))) (30, [(0, .inr (.inr (some 74))), (1, .inl a1), (2, .inl v2_6), (3, .inl v3_18)], [], sh, gc_h sh I16 J17 A) := by
        intro n9
        induction n9 with
        | zero => intro I16 J17 v3_18 hn; (/-9-/first | omega | (simp only [gz_hd] at *; omega))
        | succ n9 ih30 =>
          intro I16 J17 v3_18 hn hI16 FI16 FJ17 m_18 e0_18 e1_18
          clear ha1_6 hv2_6 e2_6 e3_6 f8
          obtain ⟨ha1_18, hv2_6_18, hv3_18, e2_18, e3_18, e4_18⟩ := gz_h6 m_18
          have L106 : ∀ (I22 : gr_I) (J23 : gr_J) , gc_Inv ro I22 → (∀ q j : Nat, (q = 76 ∨ q = 77 ∨ q = 78 ∨ q = 79 ∨ q = 80 ∨ q = 81) ∨ I22 q j = I q j) → (∀ q j : Nat, (False) ∨ J23 q j = J q j) → ((0 ≤ a1 ∧ a1 ≤ 95) ∧ (0 ≤ v2_6 ∧ v2_6 ≤ 63) ∧ (0 ≤ v3_18 ∧ v3_18 ≤ 23) ∧ (I22 74 9 = I 74 9) ∧ (v2_6 ≤ 63) ∧ (v3_18 ≤ 23) ∧ (I22 74 1 = (t : Int))) → (gc_OE σ ς L lo hi (-1) I22) → (∀ k : Nat, I 76 k ≤ I22 76 k) → gv_X (gc_E7 ws0 tb 2 (yX7_pickWords, cX7_pickWords, 6, none) kX7_pickWords) (gv_Q cX7_pickWords none sh (fun r hₚ => (∃ (Iₚ : gr_I) (Jₚ : gr_J), hₚ = gc_h sh Iₚ Jₚ A ∧ gc_Inv ro Iₚ ∧ (∀ q j : Nat, (q = 76 ∨ q = 77 ∨ q = 78 ∨ q = 79 ∨ q = 80 ∨ q = 81) ∨ Iₚ q j = I q j) ∧ (∀ q j : Nat, (False) ∨ Jₚ q j = J q j) ∧ r = none ∧ (gc_OE σ ς L lo hi (-1) Iₚ) ∧ (∀ k : Nat, I 76 k ≤ Iₚ 76 k)))) (106, [(0, .inr (.inr (some 74))), (1, .inl a1), (2, .inl v2_6), (3, .inl v3_18)], [], sh, gc_h sh I22 J23 A) := by
            intro I22 J23 hI22 FI22 FJ23 m_24 e0_24 e1_24
            clear ha1_18 hv2_6_18 hv3_18 e2_18 e3_18 e4_18
            obtain ⟨ha1_24, hv2_6_24, hv3_18_24, e2_24, e3_24, e4_24, e5_24⟩ := gz_h7 m_24
            refine gv_run 2 true hD (pcₚ := 30) (lvₚ := [(3, .inl (v3_18 + 1)), (0, .inr (.inr (some 74))), (1, .inl a1), (2, .inl v2_6)]) (stₚ := []) (hₚ := gc_h sh I22 J23 A) (C := ((True ∧ True) ∧ True)) rfl ⟨⟨trivial, trivial⟩, trivial⟩ ?_
            refine gv_pick [1, 2, 3, 0] rfl ?_
            exact ih30 I22 J23 (v3_18 + 1) (by (/-10-/first | (have o1 := gz_sh hv3_18_24; omega) | (simp only [gz_hd] at *; omega))) hI22 FI22 FJ23 (by (/-11-/first | (and_intros; (omega); (omega); (have o1 := gz_sh hv2_6_24; omega); (have o1 := gz_sh hv2_6_24; omega); (have o1 := gz_sh hv3_18_24; omega); (have o1 := gz_sh hv3_18_24; omega); (have o1 := gz_sh e2_24; omega); (have o1 := gz_sh hv2_6_24; omega); (have o1 := gz_sh e5_24; omega)) | (simp only [gz_hd] at *; omega))) e0_24 e1_24
          refine gv_run 2 true hD (pcₚ := 32) (lvₚ := [(0, .inr (.inr (some 74))), (1, .inl a1), (2, .inl v2_6), (3, .inl v3_18)]) (stₚ := [.inr (.inr (some 74)), .inl v3_18]) (hₚ := gc_h sh I16 J17 A) (C := ((True ∧ True) ∧ True)) rfl ⟨⟨trivial, trivial⟩, trivial⟩ ?_
          refine gv_get hD rfl rfl S_74 ⟨by decide, (gz_sh B_74)⟩ (gc_h5 (t := t) S_74 rfl (by (/-12-/first | (have o1 := gz_sh e4_18; omega) | (simp only [gz_hd] at *; omega)))) ?_
          show gv_X _ _ (35, [(0, .inr (.inr (some 74))), (1, .inl a1), (2, .inl v2_6), (3, .inl v3_18)], [.inr (.inr (some t)), .inl v3_18], sh, gc_h sh I16 J17 A)
          refine gv_run 1 true hD (pcₚ := 36) (lvₚ := [(0, .inr (.inr (some 74))), (1, .inl a1), (2, .inl v2_6), (3, .inl v3_18)]) (stₚ := [.inl v2_6, .inr (.inr (some t)), .inl v3_18]) (hₚ := gc_h sh I16 J17 A) (C := (True ∧ True)) rfl ⟨trivial, trivial⟩ ?_
          obtain ⟨r28, h28, E28, P28⟩ := d_X11_cellsOf (ws0 := ws0) (tb := tb) hws htb sh ro I16 J17 A hI16 t v2_6 h_t   ⟨by (/-13-/first | (have o1 := gz_sh hv2_6_18; omega) | (simp only [gz_hd] at *; omega)), by (/-14-/first | (have o1 := gz_sh e3_18; omega) | (simp only [gz_hd] at *; omega))⟩  
          obtain ⟨rfl, ⟨z28, rfl, q28⟩⟩ := P28
          replace q28 := gz_hi q28
          refine gv_callV hD rfl (As := [.inl v2_6]) (st := [.inl v3_18]) rfl (gz_sh B_t) S_t rfl (gc_lV7 hws rfl) (Nat.le_of_ble_eq_true rfl) (gz_Ev_mono (d := 2) (by decide) E28) ?_
          show gv_X _ _ (39, [(0, .inr (.inr (some 74))), (1, .inl a1), (2, .inl v2_6), (3, .inl v3_18)], [.inl z28, .inl v3_18], sh, gc_h sh I16 J17 A)
          refine gv_icmp_ge (t := 112) hD rfl rfl ⟨⟨by (/-15-/first | (have o1 := gz_sh hv3_18; omega) | (simp only [gz_hd] at *; omega)), by (/-16-/first | (have o1 := gz_sh hv3_18; omega) | (simp only [gz_hd] at *; omega))⟩, ⟨by (/-17-/first | (have o1 := gz_sh q28; omega) | (simp only [gz_hd] at *; omega)), by (/-18-/first | (have o1 := gz_sh q28; omega) | (simp only [gz_hd] at *; omega))⟩⟩ (fun c29 => ?_) (fun c29 => ?_)
          · show gv_X _ _ (112, [(0, .inr (.inr (some 74))), (1, .inl a1), (2, .inl v2_6), (3, .inl v3_18)], [], sh, gc_h sh I16 J17 A)
            refine gv_pick [0, 1, 2] rfl ?_
            exact L112 I16 J17 hI16 FI16 FJ17 (by (/-19-/first | (and_intros; (omega); (omega); (have o1 := gz_sh hv2_6_18; omega); (have o1 := gz_sh hv2_6_18; omega); (have o1 := gz_sh e2_18; omega); (have o1 := gz_sh hv2_6_18; omega); (have o1 := gz_sh e4_18; omega)) | (simp only [gz_hd] at *; omega))) e0_18 e1_18
          · show gv_X _ _ (42, [(0, .inr (.inr (some 74))), (1, .inl a1), (2, .inl v2_6), (3, .inl v3_18)], [], sh, gc_h sh I16 J17 A)
            refine gv_run 7 true hD (pcₚ := 51) (lvₚ := [(4, .inl ((v2_6 * 24) + v3_18)), (0, .inr (.inr (some 74))), (1, .inl a1), (2, .inl v2_6), (3, .inl v3_18)]) (stₚ := [.inr (.inr (some 74))]) (hₚ := gc_h sh I16 J17 A) (C := (((((((True ∧ True) ∧ True) ∧ True) ∧ True) ∧ True) ∧ True) ∧ True)) rfl ⟨⟨⟨⟨⟨⟨⟨trivial, trivial⟩, trivial⟩, trivial⟩, trivial⟩, trivial⟩, trivial⟩, trivial⟩ ?_
            refine gv_get hD rfl rfl S_74 ⟨by decide, (gz_sh B_74)⟩ (gc_h5 (t := t) S_74 rfl (by (/-20-/first | (have o1 := gz_sh e4_18; omega) | (simp only [gz_hd] at *; omega)))) ?_
            show gv_X _ _ (54, [(4, .inl ((v2_6 * 24) + v3_18)), (0, .inr (.inr (some 74))), (1, .inl a1), (2, .inl v2_6), (3, .inl v3_18)], [.inr (.inr (some t))], sh, gc_h sh I16 J17 A)
            refine gv_get hD rfl rfl S_t ⟨by decide, (gz_sh B_t)⟩ (gc_hA S_t rfl A_t_15) ?_
            show gv_X _ _ (57, [(4, .inl ((v2_6 * 24) + v3_18)), (0, .inr (.inr (some 74))), (1, .inl a1), (2, .inl v2_6), (3, .inl v3_18)], [.inr (.inr (some (t + 17)))], sh, gc_h sh I16 J17 A)
            refine gv_get hD rfl rfl S_t_17 ⟨by decide, (gz_sh B_t_17)⟩ (gc_hA S_t_17 rfl A_t_17_2) ?_
            show gv_X _ _ (60, [(4, .inl ((v2_6 * 24) + v3_18)), (0, .inr (.inr (some 74))), (1, .inl a1), (2, .inl v2_6), (3, .inl v3_18)], [.inr (.inr (some ((t + 17) + 2)))], sh, gc_h sh I16 J17 A)
            refine gv_run 1 true hD (pcₚ := 62) (lvₚ := [(4, .inl ((v2_6 * 24) + v3_18)), (0, .inr (.inr (some 74))), (1, .inl a1), (2, .inl v2_6), (3, .inl v3_18)]) (stₚ := [.inl ((v2_6 * 24) + v3_18), .inr (.inr (some ((t + 17) + 2)))]) (hₚ := gc_h sh I16 J17 A) (C := (True ∧ True)) rfl ⟨trivial, trivial⟩ ?_
            have f30 := gz_hi ((show (-1) ≤ I16 ((t + 17) + 2) (Int.toNat (((v2_6 * 24) + v3_18))) ∧ I16 ((t + 17) + 2) (Int.toNat (((v2_6 * 24) + v3_18))) ≤ 24 from gc_in2 hI16 (gz_sh R_t_17_2) rfl rfl rfl))
            refine gv_iald hD rfl S_t_17_2 rfl ⟨by decide, (gz_sh B_t_17_2)⟩ ⟨by (/-21-/first | (have o1 := gz_sh hv2_6_18; have o2 := gz_sh hv3_18; omega) | (simp only [gz_hd] at *; omega)), by (/-22-/first | (have o1 := gz_sh hv2_6_18; have o2 := gz_sh q28; omega) | (simp only [gz_hd] at *; omega))⟩ (gc_iI S_t_17_2 rfl) ?_
            show gv_X _ _ (63, [(4, .inl ((v2_6 * 24) + v3_18)), (0, .inr (.inr (some 74))), (1, .inl a1), (2, .inl v2_6), (3, .inl v3_18)], [.inl (I16 ((t + 17) + 2) (Int.toNat (((v2_6 * 24) + v3_18))))], sh, gc_h sh I16 J17 A)
            refine gv_run 2 true hD (pcₚ := 67) (lvₚ := [(5, .inl (I16 ((t + 17) + 2) (Int.toNat (((v2_6 * 24) + v3_18))))), (4, .inl ((v2_6 * 24) + v3_18)), (0, .inr (.inr (some 74))), (1, .inl a1), (2, .inl v2_6), (3, .inl v3_18)]) (stₚ := [.inl (I16 ((t + 17) + 2) (Int.toNat (((v2_6 * 24) + v3_18))))]) (hₚ := gc_h sh I16 J17 A) (C := ((True ∧ True) ∧ True)) rfl ⟨⟨trivial, trivial⟩, trivial⟩ ?_
            refine gv_if_le (t := 106) hD rfl rfl ⟨by (/-23-/first | (have o1 := gz_sh f30; omega) | (simp only [gz_hd] at *; omega)), by (/-24-/first | (have o1 := gz_sh f30; omega) | (simp only [gz_hd] at *; omega))⟩ (fun c31 => ?_) (fun c31 => ?_)
            · show gv_X _ _ (106, [(5, .inl (I16 ((t + 17) + 2) (Int.toNat (((v2_6 * 24) + v3_18))))), (4, .inl ((v2_6 * 24) + v3_18)), (0, .inr (.inr (some 74))), (1, .inl a1), (2, .inl v2_6), (3, .inl v3_18)], [], sh, gc_h sh I16 J17 A)
              refine gv_pick [2, 3, 4, 5] rfl ?_
              exact L106 I16 J17 hI16 FI16 FJ17 (by (/-25-/first | (and_intros; (omega); (omega); (have o1 := gz_sh hv2_6_18; omega); (have o1 := gz_sh hv2_6_18; omega); (have o1 := gz_sh hv3_18; omega); (have o1 := gz_sh q28; omega); (have o1 := gz_sh e2_18; omega); (have o1 := gz_sh hv2_6_18; omega); (have o1 := gz_sh q28; omega); (have o1 := gz_sh e4_18; omega)) | (simp only [gz_hd] at *; omega))) e0_18 e1_18
            · show gv_X _ _ (70, [(5, .inl (I16 ((t + 17) + 2) (Int.toNat (((v2_6 * 24) + v3_18))))), (4, .inl ((v2_6 * 24) + v3_18)), (0, .inr (.inr (some 74))), (1, .inl a1), (2, .inl v2_6), (3, .inl v3_18)], [], sh, gc_h sh I16 J17 A)
              refine gv_run 3 true hD (pcₚ := 74) (lvₚ := [(5, .inl (I16 ((t + 17) + 2) (Int.toNat (((v2_6 * 24) + v3_18))))), (4, .inl ((v2_6 * 24) + v3_18)), (0, .inr (.inr (some 74))), (1, .inl a1), (2, .inl v2_6), (3, .inl v3_18)]) (stₚ := [.inr (.inr (some 74)), .inl ((v2_6 * 24) + v3_18), .inr (.inr (some 74))]) (hₚ := gc_h sh I16 J17 A) (C := (((True ∧ True) ∧ True) ∧ True)) rfl ⟨⟨⟨trivial, trivial⟩, trivial⟩, trivial⟩ ?_
              refine gv_get hD rfl rfl S_74 ⟨by decide, (gz_sh B_74)⟩ (gc_h5 (t := t) S_74 rfl (by (/-26-/first | (have o1 := gz_sh e4_18; omega) | (simp only [gz_hd] at *; omega)))) ?_
              show gv_X _ _ (77, [(5, .inl (I16 ((t + 17) + 2) (Int.toNat (((v2_6 * 24) + v3_18))))), (4, .inl ((v2_6 * 24) + v3_18)), (0, .inr (.inr (some 74))), (1, .inl a1), (2, .inl v2_6), (3, .inl v3_18)], [.inr (.inr (some t)), .inl ((v2_6 * 24) + v3_18), .inr (.inr (some 74))], sh, gc_h sh I16 J17 A)
              refine gv_run 1 true hD (pcₚ := 78) (lvₚ := [(5, .inl (I16 ((t + 17) + 2) (Int.toNat (((v2_6 * 24) + v3_18))))), (4, .inl ((v2_6 * 24) + v3_18)), (0, .inr (.inr (some 74))), (1, .inl a1), (2, .inl v2_6), (3, .inl v3_18)]) (stₚ := [.inl v2_6, .inr (.inr (some t)), .inl ((v2_6 * 24) + v3_18), .inr (.inr (some 74))]) (hₚ := gc_h sh I16 J17 A) (C := (True ∧ True)) rfl ⟨trivial, trivial⟩ ?_
              obtain ⟨r32, h32, E32, P32⟩ := d_X11_wordCost (ws0 := ws0) (tb := tb) hws htb sh ro I16 J17 A hI16 t v2_6 h_t   ⟨by (/-27-/first | (have o1 := gz_sh hv2_6_18; omega) | (simp only [gz_hd] at *; omega)), by (/-28-/first | (have o1 := gz_sh e3_18; omega) | (simp only [gz_hd] at *; omega))⟩  
              obtain ⟨rfl, ⟨z32, rfl, q32⟩⟩ := P32
              replace q32 := gz_hi q32
              refine gv_callV hD rfl (As := [.inl v2_6]) (st := [.inl ((v2_6 * 24) + v3_18), .inr (.inr (some 74))]) rfl (gz_sh B_t) S_t rfl (gc_lV7 hws rfl) (Nat.le_of_ble_eq_true rfl) (gz_Ev_mono (d := 1) (by decide) E32) ?_
              show gv_X _ _ (81, [(5, .inl (I16 ((t + 17) + 2) (Int.toNat (((v2_6 * 24) + v3_18))))), (4, .inl ((v2_6 * 24) + v3_18)), (0, .inr (.inr (some 74))), (1, .inl a1), (2, .inl v2_6), (3, .inl v3_18)], [.inl z32, .inl ((v2_6 * 24) + v3_18), .inr (.inr (some 74))], sh, gc_h sh I16 J17 A)
              refine gv_run 1 true hD (pcₚ := 82) (lvₚ := [(5, .inl (I16 ((t + 17) + 2) (Int.toNat (((v2_6 * 24) + v3_18))))), (4, .inl ((v2_6 * 24) + v3_18)), (0, .inr (.inr (some 74))), (1, .inl a1), (2, .inl v2_6), (3, .inl v3_18)]) (stₚ := [.inr (.inr (some 74)), .inl z32, .inl ((v2_6 * 24) + v3_18), .inr (.inr (some 74))]) (hₚ := gc_h sh I16 J17 A) (C := (True ∧ True)) rfl ⟨trivial, trivial⟩ ?_
              refine gv_get hD rfl rfl S_74 ⟨by decide, (gz_sh B_74)⟩ (gc_hA S_74 rfl A_74_0) ?_
              show gv_X _ _ (85, [(5, .inl (I16 ((t + 17) + 2) (Int.toNat (((v2_6 * 24) + v3_18))))), (4, .inl ((v2_6 * 24) + v3_18)), (0, .inr (.inr (some 74))), (1, .inl a1), (2, .inl v2_6), (3, .inl v3_18)], [.inr (.inr (some 1)), .inl z32, .inl ((v2_6 * 24) + v3_18), .inr (.inr (some 74))], sh, gc_h sh I16 J17 A)
              refine gv_get hD rfl rfl S_1 ⟨by decide, (gz_sh B_1)⟩ (gc_hA S_1 rfl A_1_9) ?_
              show gv_X _ _ (88, [(5, .inl (I16 ((t + 17) + 2) (Int.toNat (((v2_6 * 24) + v3_18))))), (4, .inl ((v2_6 * 24) + v3_18)), (0, .inr (.inr (some 74))), (1, .inl a1), (2, .inl v2_6), (3, .inl v3_18)], [.inr (.inr (some 14)), .inl z32, .inl ((v2_6 * 24) + v3_18), .inr (.inr (some 74))], sh, gc_h sh I16 J17 A)
              refine gv_run 1 true hD (pcₚ := 89) (lvₚ := [(5, .inl (I16 ((t + 17) + 2) (Int.toNat (((v2_6 * 24) + v3_18))))), (4, .inl ((v2_6 * 24) + v3_18)), (0, .inr (.inr (some 74))), (1, .inl a1), (2, .inl v2_6), (3, .inl v3_18)]) (stₚ := [.inl a1, .inr (.inr (some 14)), .inl z32, .inl ((v2_6 * 24) + v3_18), .inr (.inr (some 74))]) (hₚ := gc_h sh I16 J17 A) (C := (True ∧ True)) rfl ⟨trivial, trivial⟩ ?_
              have f33 := gz_hi ((gc_b_27 hI16 (gz_sh R_14) (Int.toNat a1)))
              refine gv_iald hD rfl S_14 rfl ⟨by decide, (gz_sh B_14)⟩ ⟨by (/-29-/first | omega | (simp only [gz_hd] at *; omega)), by (/-30-/first | omega | (simp only [gz_hd] at *; omega))⟩ (gc_iI S_14 rfl) ?_
              show gv_X _ _ (90, [(5, .inl (I16 ((t + 17) + 2) (Int.toNat (((v2_6 * 24) + v3_18))))), (4, .inl ((v2_6 * 24) + v3_18)), (0, .inr (.inr (some 74))), (1, .inl a1), (2, .inl v2_6), (3, .inl v3_18)], [.inl (I16 14 (Int.toNat a1)), .inl z32, .inl ((v2_6 * 24) + v3_18), .inr (.inr (some 74))], sh, gc_h sh I16 J17 A)
              refine gv_run 2 true hD (pcₚ := 92) (lvₚ := [(5, .inl (I16 ((t + 17) + 2) (Int.toNat (((v2_6 * 24) + v3_18))))), (4, .inl ((v2_6 * 24) + v3_18)), (0, .inr (.inr (some 74))), (1, .inl a1), (2, .inl v2_6), (3, .inl v3_18)]) (stₚ := [.inr (.inr (some 74)), .inl (z32 + (I16 14 (Int.toNat a1))), .inl ((v2_6 * 24) + v3_18), .inr (.inr (some 74))]) (hₚ := gc_h sh I16 J17 A) (C := ((True ∧ True) ∧ True)) rfl ⟨⟨trivial, trivial⟩, trivial⟩ ?_
              refine gv_get hD rfl rfl S_74 ⟨by decide, (gz_sh B_74)⟩ (gc_h5 (t := t) S_74 rfl (by (/-31-/first | (have o1 := gz_sh e4_18; omega) | (simp only [gz_hd] at *; omega)))) ?_
              show gv_X _ _ (95, [(5, .inl (I16 ((t + 17) + 2) (Int.toNat (((v2_6 * 24) + v3_18))))), (4, .inl ((v2_6 * 24) + v3_18)), (0, .inr (.inr (some 74))), (1, .inl a1), (2, .inl v2_6), (3, .inl v3_18)], [.inr (.inr (some t)), .inl (z32 + (I16 14 (Int.toNat a1))), .inl ((v2_6 * 24) + v3_18), .inr (.inr (some 74))], sh, gc_h sh I16 J17 A)
              refine gv_run 1 true hD (pcₚ := 97) (lvₚ := [(5, .inl (I16 ((t + 17) + 2) (Int.toNat (((v2_6 * 24) + v3_18))))), (4, .inl ((v2_6 * 24) + v3_18)), (0, .inr (.inr (some 74))), (1, .inl a1), (2, .inl v2_6), (3, .inl v3_18)]) (stₚ := [.inl ((v2_6 * 24) + v3_18), .inr (.inr (some t)), .inl (z32 + (I16 14 (Int.toNat a1))), .inl ((v2_6 * 24) + v3_18), .inr (.inr (some 74))]) (hₚ := gc_h sh I16 J17 A) (C := (True ∧ True)) rfl ⟨trivial, trivial⟩ ?_
              obtain ⟨r34, h34, E34, P34⟩ := d_X11_formValues (ws0 := ws0) (tb := tb) hws htb sh ro I16 J17 A hI16 t (((v2_6 * 24) + v3_18)) h_t   ⟨by (/-32-/first | (have o1 := gz_sh hv2_6_18; have o2 := gz_sh hv3_18; omega) | (simp only [gz_hd] at *; omega)), by (/-33-/first | (have o1 := gz_sh hv2_6_18; have o2 := gz_sh q28; omega) | (simp only [gz_hd] at *; omega))⟩  
              obtain ⟨rfl, ⟨z34, rfl, q34⟩⟩ := P34
              replace q34 := gz_hi q34
              refine gv_callV hD rfl (As := [.inl ((v2_6 * 24) + v3_18)]) (st := [.inl (z32 + (I16 14 (Int.toNat a1))), .inl ((v2_6 * 24) + v3_18), .inr (.inr (some 74))]) rfl (gz_sh B_t) S_t rfl (gc_lV7 hws rfl) (Nat.le_of_ble_eq_true rfl) (gz_Ev_mono (d := 2) (by decide) E34) ?_
              show gv_X _ _ (100, [(5, .inl (I16 ((t + 17) + 2) (Int.toNat (((v2_6 * 24) + v3_18))))), (4, .inl ((v2_6 * 24) + v3_18)), (0, .inr (.inr (some 74))), (1, .inl a1), (2, .inl v2_6), (3, .inl v3_18)], [.inl z34, .inl (z32 + (I16 14 (Int.toNat a1))), .inl ((v2_6 * 24) + v3_18), .inr (.inr (some 74))], sh, gc_h sh I16 J17 A)
              refine gv_run 2 true hD (pcₚ := 103) (lvₚ := [(5, .inl (I16 ((t + 17) + 2) (Int.toNat (((v2_6 * 24) + v3_18))))), (4, .inl ((v2_6 * 24) + v3_18)), (0, .inr (.inr (some 74))), (1, .inl a1), (2, .inl v2_6), (3, .inl v3_18)]) (stₚ := [.inl 0, .inl (I16 ((t + 17) + 2) (Int.toNat (((v2_6 * 24) + v3_18)))), .inl z34, .inl (z32 + (I16 14 (Int.toNat a1))), .inl ((v2_6 * 24) + v3_18), .inr (.inr (some 74))]) (hₚ := gc_h sh I16 J17 A) (C := ((True ∧ True) ∧ True)) rfl ⟨⟨trivial, trivial⟩, trivial⟩ ?_
              obtain ⟨r35, h35, E35, P35⟩ := d_X7_putOption (ws0 := ws0) (tb := tb) hws htb sh ro I16 J17 A hI16  σ ς L lo hi (((v2_6 * 24) + v3_18)) ((z32 + (I16 14 (Int.toNat a1)))) z34 ((I16 ((t + 17) + 2) (Int.toNat (((v2_6 * 24) + v3_18))))) 0 hb   ⟨by (/-34-/first | (have o1 := gz_sh hv2_6_18; have o2 := gz_sh hv3_18; omega) | (simp only [gz_hd] at *; omega)), by (/-35-/first | (have o1 := gz_sh hv2_6_18; have o2 := gz_sh q28; omega) | (simp only [gz_hd] at *; omega))⟩ ⟨by (/-36-/first | (have o1 := gz_sh f33; have o2 := gz_sh q32; omega) | (simp only [gz_hd] at *; omega)), by (/-37-/first | (have o1 := gz_sh f33; have o2 := gz_sh q32; omega) | (simp only [gz_hd] at *; omega))⟩ ⟨by (/-38-/first | (have o1 := gz_sh q34; omega) | (simp only [gz_hd] at *; omega)), by (/-39-/first | (have o1 := gz_sh q34; omega) | (simp only [gz_hd] at *; omega))⟩ ⟨by (/-40-/first | omega | (simp only [gz_hd] at *; omega)), by (/-41-/first | (have o1 := gz_sh f30; omega) | (simp only [gz_hd] at *; omega))⟩ ⟨by (/-42-/first | omega | (simp only [gz_hd] at *; omega)), by (/-43-/first | omega | (simp only [gz_hd] at *; omega))⟩ e0_18 (Or.inl (by (/-44-/first | (have o1 := gz_sh hv2_6_18; have o2 := gz_sh hv3_18; omega) | (simp only [gz_hd] at *; omega)))) (by (/-45-/first | (have o1 := gz_sh e2_18; omega) | (simp only [gz_hd] at *; omega))) (by (/-46-/first | (and_intros; (have o1 := gz_sh e2_18; omega); (have o1 := gz_sh e2_18; omega)) | (simp only [gz_hd] at *; omega))) 
              obtain ⟨I36, J37, rfl, hI36, g35, k35, ⟨rfl, q35⟩⟩ := P35
              replace q35 := gz_hi q35
              have FI36 := gc_frc (W := fun q j => q = 76 ∨ q = 77 ∨ q = 78 ∨ q = 79 ∨ q = 80 ∨ q = 81) (V := fun q j => q = 76 ∨ q = 77 ∨ q = 78 ∨ q = 79 ∨ q = 80 ∨ q = 81) FI16 (fun q j h => (h.elim (fun h => (Or.inl h)) (fun h => (h.elim (fun h => (Or.inr (Or.inl h))) (fun h => (h.elim (fun h => (Or.inr (Or.inr (Or.inl h)))) (fun h => (h.elim (fun h => (Or.inr (Or.inr (Or.inr (Or.inl h))))) (fun h => (h.elim (fun h => (Or.inr (Or.inr (Or.inr (Or.inr (Or.inl h)))))) (fun h => (Or.inr (Or.inr (Or.inr (Or.inr (Or.inr h)))))))))))))))) g35
              have t38 := gz_hi ((g35 74 9).resolve_left (fun h => h.elim (fun h => absurd h (by first | exact gz_ne rfl | decide)) (fun h => h.elim (fun h => absurd h (by first | exact gz_ne rfl | decide)) (fun h => h.elim (fun h => absurd h (by first | exact gz_ne rfl | decide)) (fun h => h.elim (fun h => absurd h (by first | exact gz_ne rfl | decide)) (fun h => h.elim (fun h => absurd h (by first | exact gz_ne rfl | decide)) (fun h => absurd h (by first | exact gz_ne rfl | decide))))))))
              have t40 := gz_hi ((g35 74 1).resolve_left (fun h => h.elim (fun h => absurd h (by first | exact gz_ne rfl | decide)) (fun h => h.elim (fun h => absurd h (by first | exact gz_ne rfl | decide)) (fun h => h.elim (fun h => absurd h (by first | exact gz_ne rfl | decide)) (fun h => h.elim (fun h => absurd h (by first | exact gz_ne rfl | decide)) (fun h => h.elim (fun h => absurd h (by first | exact gz_ne rfl | decide)) (fun h => absurd h (by first | exact gz_ne rfl | decide))))))))
              obtain rfl : J17 = J37 := funext fun q => funext fun j => ((k35 q j).resolve_left id).symm
              refine gv_callV hD rfl (As := [.inl ((v2_6 * 24) + v3_18), .inl (z32 + (I16 14 (Int.toNat a1))), .inl z34, .inl (I16 ((t + 17) + 2) (Int.toNat (((v2_6 * 24) + v3_18)))), .inl 0]) (st := []) rfl (gz_sh B_74) S_74 rfl (gc_lV7 hws rfl) (Nat.le_of_ble_eq_true rfl) (gz_Ev_mono (d := 1) (by decide) E35) ?_
              show gv_X _ _ (106, [(5, .inl (I16 ((t + 17) + 2) (Int.toNat (((v2_6 * 24) + v3_18))))), (4, .inl ((v2_6 * 24) + v3_18)), (0, .inr (.inr (some 74))), (1, .inl a1), (2, .inl v2_6), (3, .inl v3_18)], [], sh, gc_h sh I36 J17 A)
              refine gv_pick [2, 3, 4, 5] rfl ?_
              exact L106 I36 J17 hI36 FI36 FJ17 (by (/-47-/first | (and_intros; (omega); (omega); (have o1 := gz_sh hv2_6_18; omega); (have o1 := gz_sh hv2_6_18; omega); (have o1 := gz_sh hv3_18; omega); (have o1 := gz_sh q28; omega); (have o1 := gz_sh e2_18; have o2 := gz_sh t38; omega); (have o1 := gz_sh hv2_6_18; omega); (have o1 := gz_sh q28; omega); (have o1 := gz_sh e4_18; have o2 := gz_sh t40; omega)) | (simp only [gz_hd] at *; omega))) (gz_sh q35).1 (fun k => Int.le_trans (e1_18 k) ((gz_sh q35).2 k))
      refine gv_run 2 true hD (pcₚ := 4) (lvₚ := [(0, .inr (.inr (some 74))), (1, .inl a1), (2, .inl v2_6)]) (stₚ := [.inr (.inr (some 74)), .inl v2_6]) (hₚ := gc_h sh I4 J5 A) (C := ((True ∧ True) ∧ True)) rfl ⟨⟨trivial, trivial⟩, trivial⟩ ?_
      refine gv_get hD rfl rfl S_74 ⟨by decide, (gz_sh B_74)⟩ (gc_h5 (t := t) S_74 rfl (by (/-48-/first | (have o1 := gz_sh e3_6; omega) | (simp only [gz_hd] at *; omega)))) ?_
      show gv_X _ _ (7, [(0, .inr (.inr (some 74))), (1, .inl a1), (2, .inl v2_6)], [.inr (.inr (some t)), .inl v2_6], sh, gc_h sh I4 J5 A)
      refine gv_get hD rfl rfl S_t ⟨by decide, (gz_sh B_t)⟩ (gc_hI S_t rfl) ?_
      show gv_X _ _ (10, [(0, .inr (.inr (some 74))), (1, .inl a1), (2, .inl v2_6)], [.inl (I4 t 11), .inl v2_6], sh, gc_h sh I4 J5 A)
      refine gv_icmp_ge (t := 118) hD rfl rfl ⟨⟨by (/-49-/first | (have o1 := gz_sh hv2_6; omega) | (simp only [gz_hd] at *; omega)), by (/-50-/first | (have o1 := gz_sh hv2_6; omega) | (simp only [gz_hd] at *; omega))⟩, ⟨by (/-51-/first | (have o1 := gz_sh f8; omega) | (simp only [gz_hd] at *; omega)), by (/-52-/first | (have o1 := gz_sh f8; omega) | (simp only [gz_hd] at *; omega))⟩⟩ (fun c42 => ?_) (fun c42 => ?_)
      · show gv_X _ _ (118, [(0, .inr (.inr (some 74))), (1, .inl a1), (2, .inl v2_6)], [], sh, gc_h sh I4 J5 A)
        exact gv_vret hD rfl ⟨I4, J5, rfl, hI4, FI4, FJ5, ⟨rfl, e0_6, e1_6⟩⟩
      · show gv_X _ _ (13, [(0, .inr (.inr (some 74))), (1, .inl a1), (2, .inl v2_6)], [], sh, gc_h sh I4 J5 A)
        refine gv_run 1 true hD (pcₚ := 14) (lvₚ := [(0, .inr (.inr (some 74))), (1, .inl a1), (2, .inl v2_6)]) (stₚ := [.inr (.inr (some 74))]) (hₚ := gc_h sh I4 J5 A) (C := (True ∧ True)) rfl ⟨trivial, trivial⟩ ?_
        refine gv_get hD rfl rfl S_74 ⟨by decide, (gz_sh B_74)⟩ (gc_h5 (t := t) S_74 rfl (by (/-53-/first | (have o1 := gz_sh e3_6; omega) | (simp only [gz_hd] at *; omega)))) ?_
        show gv_X _ _ (17, [(0, .inr (.inr (some 74))), (1, .inl a1), (2, .inl v2_6)], [.inr (.inr (some t))], sh, gc_h sh I4 J5 A)
        refine gv_run 1 true hD (pcₚ := 18) (lvₚ := [(0, .inr (.inr (some 74))), (1, .inl a1), (2, .inl v2_6)]) (stₚ := [.inl v2_6, .inr (.inr (some t))]) (hₚ := gc_h sh I4 J5 A) (C := (True ∧ True)) rfl ⟨trivial, trivial⟩ ?_
        obtain ⟨r43, h43, E43, P43⟩ := d_X11_wordFun_w (ws0 := ws0) (tb := tb) hws htb sh ro I4 J5 A hI4 t v2_6 h_t   ⟨by (/-54-/first | (have o1 := gz_sh hv2_6; omega) | (simp only [gz_hd] at *; omega)), by (/-55-/first | (have o1 := gz_sh f8; omega) | (simp only [gz_hd] at *; omega))⟩  
        obtain ⟨rfl, ⟨z43, rfl, q43⟩⟩ := P43
        replace q43 := gz_hi q43
        refine gv_callV hD rfl (As := [.inl v2_6]) (st := []) rfl (gz_sh B_t) S_t rfl (gc_lV7 hws rfl) (Nat.le_of_ble_eq_true rfl) (gz_Ev_mono (d := 1) (by decide) E43) ?_
        show gv_X _ _ (21, [(0, .inr (.inr (some 74))), (1, .inl a1), (2, .inl v2_6)], [.inl z43], sh, gc_h sh I4 J5 A)
        refine gv_run 1 true hD (pcₚ := 22) (lvₚ := [(0, .inr (.inr (some 74))), (1, .inl a1), (2, .inl v2_6)]) (stₚ := [.inl a1, .inl z43]) (hₚ := gc_h sh I4 J5 A) (C := (True ∧ True)) rfl ⟨trivial, trivial⟩ ?_
        refine gv_icmp_eq (t := 28) hD rfl rfl ⟨⟨by (/-56-/first | (have o1 := gz_sh q43; omega) | (simp only [gz_hd] at *; omega)), by (/-57-/first | (have o1 := gz_sh q43; omega) | (simp only [gz_hd] at *; omega))⟩, ⟨by (/-58-/first | omega | (simp only [gz_hd] at *; omega)), by (/-59-/first | omega | (simp only [gz_hd] at *; omega))⟩⟩ (fun c44 => ?_) (fun c44 => ?_)
        · show gv_X _ _ (28, [(0, .inr (.inr (some 74))), (1, .inl a1), (2, .inl v2_6)], [], sh, gc_h sh I4 J5 A)
          refine gv_run 2 true hD (pcₚ := 30) (lvₚ := [(3, .inl 0), (0, .inr (.inr (some 74))), (1, .inl a1), (2, .inl v2_6)]) (stₚ := []) (hₚ := gc_h sh I4 J5 A) (C := ((True ∧ True) ∧ True)) rfl ⟨⟨trivial, trivial⟩, trivial⟩ ?_
          refine gv_pick [1, 2, 3, 0] rfl ?_
          exact L30 _ I4 J5 0 (Nat.lt_succ_self _) hI4 FI4 FJ5 (by (/-60-/first | (and_intros; (have o1 := gz_sh q43; omega); (have o1 := gz_sh q43; omega); (have o1 := gz_sh hv2_6; omega); (have o1 := gz_sh f8; omega); (omega); (omega); (have o1 := gz_sh e2_6; omega); (have o1 := gz_sh f8; omega); (have o1 := gz_sh e3_6; omega)) | (simp only [gz_hd] at *; omega))) e0_6 e1_6
        · show gv_X _ _ (25, [(0, .inr (.inr (some 74))), (1, .inl a1), (2, .inl v2_6)], [], sh, gc_h sh I4 J5 A)
          refine gv_run 1 true hD (pcₚ := 112) (lvₚ := [(0, .inr (.inr (some 74))), (1, .inl a1), (2, .inl v2_6)]) (stₚ := []) (hₚ := gc_h sh I4 J5 A) (C := (True ∧ True)) rfl ⟨trivial, trivial⟩ ?_
          exact L112 I4 J5 hI4 FI4 FJ5 (by (/-61-/first | (and_intros; (omega); (omega); (have o1 := gz_sh hv2_6; omega); (have o1 := gz_sh f8; omega); (have o1 := gz_sh e2_6; omega); (have o1 := gz_sh f8; omega); (have o1 := gz_sh e3_6; omega)) | (simp only [gz_hd] at *; omega))) e0_6 e1_6
  refine gv_run 2 true hD (pcₚ := 2) (lvₚ := [(2, .inl 0), (0, .inr (.inr (some 74))), (1, .inl a1)]) (stₚ := []) (hₚ := gc_h sh I J A) (C := ((True ∧ True) ∧ True)) rfl ⟨⟨trivial, trivial⟩, trivial⟩ ?_
  refine gv_pick [1, 2, 0] rfl ?_
  exact L2 _ I J 0 (Nat.lt_succ_self _) hI FI FJ (by (/-62-/first | (and_intros <;> omega) | (simp only [gz_hd] at *; omega))) x0 (fun k => Int.le_refl _)
