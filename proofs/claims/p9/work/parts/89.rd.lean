theorem gc_pw_le (k : Nat) : gc_pw k ≤ 65536 := by
  unfold gc_pw
  split <;> decide
set_option maxHeartbeats 8000000 in
set_option maxRecDepth 100000 in
theorem d_X5_choose {ws0 : List Cond} {tb : String → gz_T} (hws : gc_Ws ws0) (htb : gc_tbs tb) (sh : gz_Sh) (ro : Nat → Nat) (A : gc_A) (t : Nat) (σ : Nat → Int)  (hb : gc_Base sh ro A) (h_t : gc_isTongue sh ro A t) (G_t : 144 ≤ t) : ∀ (nr : Nat) (I : gr_I) (J : gr_J) (hI : gc_Inv ro I) (a1 : Int) (a2 : Int) (a3 : Int) (a4 : Int) (a5 : Int) (ha1 : 0 ≤ a1 ∧ a1 ≤ 8999) (ha2 : 0 ≤ a2 ∧ a2 ≤ 4) (ha3 : 1 ≤ a3 ∧ a3 ≤ 16) (ha4 : (-2147483648) ≤ a4 ∧ a4 ≤ 2147483647) (ha5 : 0 ≤ a5 ∧ a5 ≤ 65535) (x0 : gc_Ls sh ro A t I) (x1 : gc_WV t I) (x2 : ∀ i q : Nat, (i : Int) < I t 13 → A (t + 16) i = some q → I q 8 = σ i) (x3 : gc_WA σ I) (x4 : gc_LH σ (-1) I) (x5 : gc_RK a1 a2 a5 I) (x6 : a1 < I 48 6) (x7 : I 61 2 = (t : Int)) (_ : (5 - a2).toNat < nr), ∃ r hₚ, gz_Ev ws0 tb (1 + nr) (yX5_choose, cX5_choose, 9, none) [.inr (.inr (some 61)), .inl a1, .inl a2, .inl a3, .inl a4, .inl a5] sh (gc_h sh I J A) r sh hₚ 0 0 ∧ (∃ (Iₚ : gr_I) (Jₚ : gr_J), hₚ = gc_h sh Iₚ Jₚ A ∧ gc_Inv ro Iₚ ∧ (∀ q j : Nat, (q = 67 ∨ q = 68 ∨ q = 69 ∨ q = 70) ∨ Iₚ q j = I q j) ∧ (∀ q j : Nat, (False) ∨ Jₚ q j = J q j) ∧ r = none ∧ (gc_LH σ (-1) Iₚ) ∧ (∀ k : Nat, I 67 k ≤ Iₚ 67 k)) := by
  intro nr
  induction nr with
  | zero => intro I J hI a1 a2 a3 a4 a5 ha1 ha2 ha3 ha4 ha5 x0 x1 x2 x3 x4 x5 x6 x7 hnr; (/-0-/first | omega | (simp only [gz_hd] at *; omega))
  | succ nr ihR =>
  intro I J hI a1 a2 a3 a4 a5 ha1 ha2 ha3 ha4 ha5 x0 x1 x2 x3 x4 x5 x6 x7 hnr
  have FI : ∀ q j : Nat, (q = 67 ∨ q = 68 ∨ q = 69 ∨ q = 70) ∨ I q j = I q j := fun _ _ => Or.inr rfl
  have FJ : ∀ q j : Nat, (False) ∨ J q j = J q j := fun _ _ => Or.inr rfl
  have A_48_9 : A 48 9 = some 55 := gc_bA_48_9 hb
  have A_61_1 : A 61 1 = some 48 := gc_bA_61_1 hb
  have A_61_11 : A 61 11 = some 67 := gc_bA_61_11 hb
  have A_61_12 : A 61 12 = some 68 := gc_bA_61_12 hb
  have B_48 := gz_hi (show 48 < 1000000 from by decide)
  have B_55 := gz_hi (show 55 < 1000000 from by decide)
  have B_61 := gz_hi (show 61 < 1000000 from by decide)
  have B_67 := gz_hi (show 67 < 1000000 from by decide)
  have B_68 := gz_hi (show 68 < 1000000 from by decide)
  have R_48 := gz_hi (show ro 48 = 49 from gc_bR_48 hb)
  have R_55 := gz_hi (show ro 55 = 44 from gc_bR_55 hb)
  have R_61 := gz_hi (show ro 61 = 72 from gc_bR_61 hb)
  have R_67 := gz_hi (show ro 67 = 52 from gc_bR_67 hb)
  have R_68 := gz_hi (show ro 68 = 0 from gc_bR_68 hb)
  have S_48 : sh[48]? = some (false, 0, 22) := gc_bS_48 hb
  have S_55 : sh[55]? = some (true, 1, 36000) := gc_bS_55 hb
  have S_61 : sh[61]? = some (false, 5, 19) := gc_bS_61 hb
  have S_67 : sh[67]? = some (true, 1, 3000) := gc_bS_67 hb
  have S_68 : sh[68]? = some (true, 1, 48000) := gc_bS_68 hb
  obtain ⟨S_t, R_t, B_t, A_t_0, h_t_1, A_t_1, h_t_3, A_t_2, S_t_5, R_t_5, B_t_5, A_t_3, S_t_6, R_t_6, B_t_6, A_t_4, h_t_7, A_t_5, S_t_9, R_t_9, B_t_9, A_t_7, S_t_10, R_t_10, B_t_10, A_t_8, h_t_11, A_t_9, S_t_13, R_t_13, B_t_13, A_t_10, S_t_14, R_t_14, B_t_14, A_t_12, S_t_15, R_t_15, B_t_15, A_t_14, S_t_16, R_t_16, B_t_16, A_t_15, h_t_17⟩ := id h_t
  replace R_t := gz_hi R_t
  replace B_t := gz_hi B_t
  replace R_t_5 := gz_hi R_t_5
  replace B_t_5 := gz_hi B_t_5
  replace R_t_6 := gz_hi R_t_6
  replace B_t_6 := gz_hi B_t_6
  replace R_t_9 := gz_hi R_t_9
  replace B_t_9 := gz_hi B_t_9
  replace R_t_10 := gz_hi R_t_10
  replace B_t_10 := gz_hi B_t_10
  replace R_t_13 := gz_hi R_t_13
  replace B_t_13 := gz_hi B_t_13
  replace R_t_14 := gz_hi R_t_14
  replace B_t_14 := gz_hi B_t_14
  replace R_t_15 := gz_hi R_t_15
  replace B_t_15 := gz_hi B_t_15
  replace R_t_16 := gz_hi R_t_16
  replace B_t_16 := gz_hi B_t_16
  obtain ⟨S_t_1, R_t_1, B_t_1, A_t_1_0, S_t_1_1, R_t_1_1, B_t_1_1, Q0_t_1, Q1_t_1, Q2_t_1⟩ := id h_t_1
  replace R_t_1 := gz_hi R_t_1
  replace B_t_1 := gz_hi B_t_1
  replace R_t_1_1 := gz_hi R_t_1_1
  replace B_t_1_1 := gz_hi B_t_1_1
  obtain ⟨S_t_3, R_t_3, B_t_3, A_t_3_0, S_t_3_1, R_t_3_1, B_t_3_1, Q0_t_3, Q1_t_3, Q2_t_3⟩ := id h_t_3
  replace R_t_3 := gz_hi R_t_3
  replace B_t_3 := gz_hi B_t_3
  replace R_t_3_1 := gz_hi R_t_3_1
  replace B_t_3_1 := gz_hi B_t_3_1
  obtain ⟨S_t_7, R_t_7, B_t_7, A_t_7_0, S_t_7_1, R_t_7_1, B_t_7_1, Q0_t_7, Q1_t_7, Q2_t_7⟩ := id h_t_7
  replace R_t_7 := gz_hi R_t_7
  replace B_t_7 := gz_hi B_t_7
  replace R_t_7_1 := gz_hi R_t_7_1
  replace B_t_7_1 := gz_hi B_t_7_1
  obtain ⟨S_t_11, R_t_11, B_t_11, A_t_11_0, S_t_11_1, R_t_11_1, B_t_11_1, Q0_t_11, Q1_t_11, Q2_t_11⟩ := id h_t_11
  replace R_t_11 := gz_hi R_t_11
  replace B_t_11 := gz_hi B_t_11
  replace R_t_11_1 := gz_hi R_t_11_1
  replace B_t_11_1 := gz_hi B_t_11_1
  obtain ⟨S_t_17, R_t_17, B_t_17, A_t_17_0, S_20, R_20, B_20, A_t_17_1, S_t_17_1, R_t_17_1, B_t_17_1, A_t_17_2, S_t_17_2, R_t_17_2, B_t_17_2, A_t_17_3, S_t_17_3, R_t_17_3, B_t_17_3, A_t_17_4, S_t_17_4, R_t_17_4, B_t_17_4, A_t_17_5, S_t_17_5, R_t_17_5, B_t_17_5, S_t_17_6, R_t_17_6, B_t_17_6, S_t_17_7, R_t_17_7, B_t_17_7⟩ := id h_t_17
  replace R_t_17 := gz_hi R_t_17
  replace B_t_17 := gz_hi B_t_17
  replace R_20 := gz_hi R_20
  replace B_20 := gz_hi B_20
  replace R_t_17_1 := gz_hi R_t_17_1
  replace B_t_17_1 := gz_hi B_t_17_1
  replace R_t_17_2 := gz_hi R_t_17_2
  replace B_t_17_2 := gz_hi B_t_17_2
  replace R_t_17_3 := gz_hi R_t_17_3
  replace B_t_17_3 := gz_hi B_t_17_3
  replace R_t_17_4 := gz_hi R_t_17_4
  replace B_t_17_4 := gz_hi B_t_17_4
  replace R_t_17_5 := gz_hi R_t_17_5
  replace B_t_17_5 := gz_hi B_t_17_5
  replace R_t_17_6 := gz_hi R_t_17_6
  replace B_t_17_6 := gz_hi B_t_17_6
  replace R_t_17_7 := gz_hi R_t_17_7
  replace B_t_17_7 := gz_hi B_t_17_7
  have hD : gv_D (gc_E5 ws0 tb (1 + nr) (yX5_choose, cX5_choose, 9, none) kX5_choose) := gq_of oX5_choose
  refine gc_ev5 (d := (1 + nr)) (l := kX5_choose) (Po := fun r hₚ => (∃ (Iₚ : gr_I) (Jₚ : gr_J), hₚ = gc_h sh Iₚ Jₚ A ∧ gc_Inv ro Iₚ ∧ (∀ q j : Nat, (q = 67 ∨ q = 68 ∨ q = 69 ∨ q = 70) ∨ Iₚ q j = I q j) ∧ (∀ q j : Nat, (False) ∨ Jₚ q j = J q j) ∧ r = none ∧ (gc_LH σ (-1) Iₚ) ∧ (∀ k : Nat, I 67 k ≤ Iₚ 67 k))) htb rfl (Nat.le_of_ble_eq_true rfl) ?_
  have N_t__67 := gz_hi (show ¬ (t = 67) from by (/-1-/first | (have o1 := gz_sh B_t; have o2 := gz_sh B_t_10; have o3 := gz_sh B_t_13; have o4 := gz_sh B_t_14; have o5 := gz_sh B_t_15; have o6 := gz_sh B_t_16; have o7 := gz_sh B_t_17; have o8 := gz_sh B_t_17_1; have o9 := gz_sh B_t_17_2; have o10 := gz_sh B_t_17_3; have o11 := gz_sh B_t_17_4; have o12 := gz_sh B_t_17_5; have o13 := gz_sh B_t_17_6; have o14 := gz_sh B_t_17_7; have o15 := gz_sh B_t_5; have o16 := gz_sh B_t_6; have o17 := gz_sh B_t_9; omega) | (simp only [gz_hd] at *; omega)))
  have N_t__68 := gz_hi (show ¬ (t = 68) from by (/-2-/first | (have o1 := gz_sh B_t; have o2 := gz_sh B_t_10; have o3 := gz_sh B_t_13; have o4 := gz_sh B_t_14; have o5 := gz_sh B_t_15; have o6 := gz_sh B_t_16; have o7 := gz_sh B_t_17; have o8 := gz_sh B_t_17_1; have o9 := gz_sh B_t_17_2; have o10 := gz_sh B_t_17_3; have o11 := gz_sh B_t_17_4; have o12 := gz_sh B_t_17_5; have o13 := gz_sh B_t_17_6; have o14 := gz_sh B_t_17_7; have o15 := gz_sh B_t_5; have o16 := gz_sh B_t_6; have o17 := gz_sh B_t_9; omega) | (simp only [gz_hd] at *; omega)))
  have N_t__69 := gz_hi (show ¬ (t = 69) from by (/-3-/first | (have o1 := gz_sh B_t; have o2 := gz_sh B_t_10; have o3 := gz_sh B_t_13; have o4 := gz_sh B_t_14; have o5 := gz_sh B_t_15; have o6 := gz_sh B_t_16; have o7 := gz_sh B_t_17; have o8 := gz_sh B_t_17_1; have o9 := gz_sh B_t_17_2; have o10 := gz_sh B_t_17_3; have o11 := gz_sh B_t_17_4; have o12 := gz_sh B_t_17_5; have o13 := gz_sh B_t_17_6; have o14 := gz_sh B_t_17_7; have o15 := gz_sh B_t_5; have o16 := gz_sh B_t_6; have o17 := gz_sh B_t_9; omega) | (simp only [gz_hd] at *; omega)))
  have N_t__70 := gz_hi (show ¬ (t = 70) from by (/-4-/first | (have o1 := gz_sh B_t; have o2 := gz_sh B_t_10; have o3 := gz_sh B_t_13; have o4 := gz_sh B_t_14; have o5 := gz_sh B_t_15; have o6 := gz_sh B_t_16; have o7 := gz_sh B_t_17; have o8 := gz_sh B_t_17_1; have o9 := gz_sh B_t_17_2; have o10 := gz_sh B_t_17_3; have o11 := gz_sh B_t_17_4; have o12 := gz_sh B_t_17_5; have o13 := gz_sh B_t_17_6; have o14 := gz_sh B_t_17_7; have o15 := gz_sh B_t_5; have o16 := gz_sh B_t_6; have o17 := gz_sh B_t_9; omega) | (simp only [gz_hd] at *; omega)))
  have f2 := gz_hi ((gc_b_49_6 hI (gz_sh R_48)))
  have L37 : ∀ (n9 : Nat) (I5 : gr_I) (J6 : gr_J) (v6_7 : Int) (v7_7 : Int), (17 - v7_7).toNat < n9 → gc_Inv ro I5 → (∀ q j : Nat, (q = 67 ∨ q = 68 ∨ q = 69 ∨ q = 70) ∨ I5 q j = I q j) → (∀ q j : Nat, (False) ∨ J6 q j = J q j) → ((0 ≤ a1 ∧ a1 ≤ 8999) ∧ (0 ≤ a2 ∧ a2 ≤ 3) ∧ (1 ≤ a3 ∧ a3 ≤ 16) ∧ ((-2147483648) ≤ a4 ∧ a4 ≤ 2147483647) ∧ (0 ≤ a5 ∧ a5 ≤ 65535) ∧ (0 ≤ v6_7 ∧ v6_7 ≤ 2999) ∧ (0 ≤ v7_7 ∧ v7_7 ≤ 16) ∧ (v6_7 = I 55 (Int.toNat (a1 * 4 + a2))) ∧ (a2 ≤ 3) ∧ (a2 < gc_ws σ I (Int.toNat a1)) ∧ (I5 48 3 = I 48 3) ∧ (I5 48 6 = I 48 6) ∧ (I5 t 13 = I t 13) ∧ (I5 61 2 = (t : Int))) → (gc_LH σ (-1) I5) → (∀ k : Nat, I 67 k ≤ I5 67 k) → gv_X (gc_E5 ws0 tb (1 + nr) (yX5_choose, cX5_choose, 9, none) kX5_choose) (gv_Q cX5_choose none sh (fun r hₚ => (∃ (Iₚ : gr_I) (Jₚ : gr_J), hₚ = gc_h sh Iₚ Jₚ A ∧ gc_Inv ro Iₚ ∧ (∀ q j : Nat, (q = 67 ∨ q = 68 ∨ q = 69 ∨ q = 70) ∨ Iₚ q j = I q j) ∧ (∀ q j : Nat, (False) ∨ Jₚ q j = J q j) ∧ r = none ∧ (gc_LH σ (-1) Iₚ) ∧ (∀ k : Nat, I 67 k ≤ Iₚ 67 k)))) (37, [(0, .inr (.inr (some 61))), (1, .inl a1), (2, .inl a2), (3, .inl a3), (4, .inl a4), (5, .inl a5), (6, .inl v6_7), (7, .inl v7_7)], [], sh, gc_h sh I5 J6 A) := by
    intro n9
    induction n9 with
    | zero => intro I5 J6 v6_7 v7_7 hn; (/-5-/first | omega | (simp only [gz_hd] at *; omega))
    | succ n9 ih37 =>
      intro I5 J6 v6_7 v7_7 hn hI5 FI5 FJ6 m_7 e0_7 e1_7
      obtain ⟨ha1_7, ha2_7, ha3_7, ha4_7, ha5_7, hv6_7, hv7_7, e2_7, e3_7, e4_7, e5_7, e6_7, e7_7, e8_7⟩ := gz_h14 m_7
      have L109 : ((I5 61 2 = (t : Int))) → gv_X (gc_E5 ws0 tb (1 + nr) (yX5_choose, cX5_choose, 9, none) kX5_choose) (gv_Q cX5_choose none sh (fun r hₚ => (∃ (Iₚ : gr_I) (Jₚ : gr_J), hₚ = gc_h sh Iₚ Jₚ A ∧ gc_Inv ro Iₚ ∧ (∀ q j : Nat, (q = 67 ∨ q = 68 ∨ q = 69 ∨ q = 70) ∨ Iₚ q j = I q j) ∧ (∀ q j : Nat, (False) ∨ Jₚ q j = J q j) ∧ r = none ∧ (gc_LH σ (-1) Iₚ) ∧ (∀ k : Nat, I 67 k ≤ Iₚ 67 k)))) (109, [], [], sh, gc_h sh I5 J6 A) := by
        intro m_12
        have e0_12 := m_12
        exact gv_vret hD rfl ⟨I5, J6, rfl, hI5, FI5, FJ6, ⟨rfl, e0_7, e1_7⟩⟩
      refine gv_run 2 true hD (pcₚ := 40) (lvₚ := [(0, .inr (.inr (some 61))), (1, .inl a1), (2, .inl a2), (3, .inl a3), (4, .inl a4), (5, .inl a5), (6, .inl v6_7), (7, .inl v7_7)]) (stₚ := [.inr (.inr (some 61)), .inl v7_7]) (hₚ := gc_h sh I5 J6 A) (C := ((True ∧ True) ∧ True)) rfl ⟨⟨trivial, trivial⟩, trivial⟩ ?_
      refine gv_get hD rfl rfl S_61 ⟨by decide, (gz_sh B_61)⟩ (gc_hA S_61 rfl A_61_11) ?_
      show gv_X _ _ (43, [(0, .inr (.inr (some 61))), (1, .inl a1), (2, .inl a2), (3, .inl a3), (4, .inl a4), (5, .inl a5), (6, .inl v6_7), (7, .inl v7_7)], [.inr (.inr (some 67)), .inl v7_7], sh, gc_h sh I5 J6 A)
      refine gv_run 1 true hD (pcₚ := 45) (lvₚ := [(0, .inr (.inr (some 61))), (1, .inl a1), (2, .inl a2), (3, .inl a3), (4, .inl a4), (5, .inl a5), (6, .inl v6_7), (7, .inl v7_7)]) (stₚ := [.inl v6_7, .inr (.inr (some 67)), .inl v7_7]) (hₚ := gc_h sh I5 J6 A) (C := (True ∧ True)) rfl ⟨trivial, trivial⟩ ?_
      have f17 := gz_hi ((gc_b_52 hI5 (gz_sh R_67) (Int.toNat v6_7)))
      refine gv_iald hD rfl S_67 rfl ⟨by decide, (gz_sh B_67)⟩ ⟨by (/-6-/first | (have o1 := gz_sh hv6_7; omega) | (simp only [gz_hd] at *; omega)), by (/-7-/first | (have o1 := gz_sh hv6_7; omega) | (simp only [gz_hd] at *; omega))⟩ (gc_iI S_67 rfl) ?_
      show gv_X _ _ (46, [(0, .inr (.inr (some 61))), (1, .inl a1), (2, .inl a2), (3, .inl a3), (4, .inl a4), (5, .inl a5), (6, .inl v6_7), (7, .inl v7_7)], [.inl (I5 67 (Int.toNat v6_7)), .inl v7_7], sh, gc_h sh I5 J6 A)
      refine gv_icmp_ge (t := 109) hD rfl rfl ⟨⟨by (/-8-/first | (have o1 := gz_sh hv7_7; omega) | (simp only [gz_hd] at *; omega)), by (/-9-/first | (have o1 := gz_sh hv7_7; omega) | (simp only [gz_hd] at *; omega))⟩, ⟨by (/-10-/first | (have o1 := gz_sh f17; omega) | (simp only [gz_hd] at *; omega)), by (/-11-/first | (have o1 := gz_sh f17; omega) | (simp only [gz_hd] at *; omega))⟩⟩ (fun c18 => ?_) (fun c18 => ?_)
      · show gv_X _ _ (109, [(0, .inr (.inr (some 61))), (1, .inl a1), (2, .inl a2), (3, .inl a3), (4, .inl a4), (5, .inl a5), (6, .inl v6_7), (7, .inl v7_7)], [], sh, gc_h sh I5 J6 A)
        refine gv_pick [] rfl ?_
        exact L109 (by (/-12-/first | (have o1 := gz_sh e8_7; omega) | (simp only [gz_hd] at *; omega)))
      · show gv_X _ _ (49, [(0, .inr (.inr (some 61))), (1, .inl a1), (2, .inl a2), (3, .inl a3), (4, .inl a4), (5, .inl a5), (6, .inl v6_7), (7, .inl v7_7)], [], sh, gc_h sh I5 J6 A)
        have f19 := gz_hi (gc_mulb (x := a3) (y := (v7_7 + 1)) ⟨by (/-13-/first | omega | (simp only [gz_hd] at *; omega)), by (/-14-/first | omega | (simp only [gz_hd] at *; omega))⟩ ⟨by (/-15-/first | (have o1 := gz_sh hv7_7; omega) | (simp only [gz_hd] at *; omega)), by (/-16-/first | (have o1 := gz_sh hv7_7; omega) | (simp only [gz_hd] at *; omega))⟩)
        refine gv_run 6 true hD (pcₚ := 57) (lvₚ := [(0, .inr (.inr (some 61))), (1, .inl a1), (2, .inl a2), (3, .inl a3), (4, .inl a4), (5, .inl a5), (6, .inl v6_7), (7, .inl v7_7)]) (stₚ := [.inl 16, .inl (a3 * (v7_7 + 1))]) (hₚ := gc_h sh I5 J6 A) (C := ((((((True ∧ True) ∧ True) ∧ True) ∧ True) ∧ True) ∧ True)) rfl ⟨⟨⟨⟨⟨⟨trivial, trivial⟩, trivial⟩, trivial⟩, trivial⟩, trivial⟩, trivial⟩ ?_
        refine gv_icmp_gt (t := 109) hD rfl rfl ⟨⟨by (/-17-/first | (have o1 := gz_sh f19; omega) | (simp only [gz_hd] at *; omega)), by (/-18-/first | (have o1 := gz_sh f19; omega) | (simp only [gz_hd] at *; omega))⟩, ⟨by (/-19-/first | omega | (simp only [gz_hd] at *; omega)), by (/-20-/first | omega | (simp only [gz_hd] at *; omega))⟩⟩ (fun c20 => ?_) (fun c20 => ?_)
        · show gv_X _ _ (109, [(0, .inr (.inr (some 61))), (1, .inl a1), (2, .inl a2), (3, .inl a3), (4, .inl a4), (5, .inl a5), (6, .inl v6_7), (7, .inl v7_7)], [], sh, gc_h sh I5 J6 A)
          refine gv_pick [] rfl ?_
          exact L109 (by (/-21-/first | (have o1 := gz_sh e8_7; omega) | (simp only [gz_hd] at *; omega)))
        · show gv_X _ _ (60, [(0, .inr (.inr (some 61))), (1, .inl a1), (2, .inl a2), (3, .inl a3), (4, .inl a4), (5, .inl a5), (6, .inl v6_7), (7, .inl v7_7)], [], sh, gc_h sh I5 J6 A)
          refine gv_run 1 true hD (pcₚ := 61) (lvₚ := [(0, .inr (.inr (some 61))), (1, .inl a1), (2, .inl a2), (3, .inl a3), (4, .inl a4), (5, .inl a5), (6, .inl v6_7), (7, .inl v7_7)]) (stₚ := [.inr (.inr (some 61))]) (hₚ := gc_h sh I5 J6 A) (C := (True ∧ True)) rfl ⟨trivial, trivial⟩ ?_
          refine gv_get hD rfl rfl S_61 ⟨by decide, (gz_sh B_61)⟩ (gc_hA S_61 rfl A_61_12) ?_
          show gv_X _ _ (64, [(0, .inr (.inr (some 61))), (1, .inl a1), (2, .inl a2), (3, .inl a3), (4, .inl a4), (5, .inl a5), (6, .inl v6_7), (7, .inl v7_7)], [.inr (.inr (some 68))], sh, gc_h sh I5 J6 A)
          refine gv_run 5 true hD (pcₚ := 72) (lvₚ := [(0, .inr (.inr (some 61))), (1, .inl a1), (2, .inl a2), (3, .inl a3), (4, .inl a4), (5, .inl a5), (6, .inl v6_7), (7, .inl v7_7)]) (stₚ := [.inl ((v6_7 * 16) + v7_7), .inr (.inr (some 68))]) (hₚ := gc_h sh I5 J6 A) (C := (((((True ∧ True) ∧ True) ∧ True) ∧ True) ∧ True)) rfl ⟨⟨⟨⟨⟨trivial, trivial⟩, trivial⟩, trivial⟩, trivial⟩, trivial⟩ ?_
          refine gv_iald hD rfl S_68 rfl ⟨by decide, (gz_sh B_68)⟩ ⟨by (/-22-/first | (have o1 := gz_sh hv6_7; have o2 := gz_sh hv7_7; omega) | (simp only [gz_hd] at *; omega)), by (/-23-/first | (have o1 := gz_sh f17; have o2 := gz_sh hv6_7; omega) | (simp only [gz_hd] at *; omega))⟩ (gc_iI S_68 rfl) ?_
          show gv_X _ _ (73, [(0, .inr (.inr (some 61))), (1, .inl a1), (2, .inl a2), (3, .inl a3), (4, .inl a4), (5, .inl a5), (6, .inl v6_7), (7, .inl v7_7)], [.inl (I5 68 (Int.toNat (((v6_7 * 16) + v7_7))))], sh, gc_h sh I5 J6 A)
          refine gv_run 7 true hD (pcₚ := 81) (lvₚ := [(8, .inl (I5 68 (Int.toNat (((v6_7 * 16) + v7_7))))), (0, .inr (.inr (some 61))), (1, .inl a1), (2, .inl a2), (3, .inl a3), (4, .inl a4), (5, .inl a5), (6, .inl v6_7), (7, .inl v7_7)]) (stₚ := [.inl a3, .inl (a2 + 1), .inl a1, .inr (.inr (some 61))]) (hₚ := gc_h sh I5 J6 A) (C := (((((((True ∧ True) ∧ True) ∧ True) ∧ True) ∧ True) ∧ True) ∧ True)) rfl ⟨⟨⟨⟨⟨⟨⟨trivial, trivial⟩, trivial⟩, trivial⟩, trivial⟩, trivial⟩, trivial⟩, trivial⟩ ?_
          refine gv_run 7 true hD (pcₚ := 91) (lvₚ := [(8, .inl (I5 68 (Int.toNat (((v6_7 * 16) + v7_7))))), (0, .inr (.inr (some 61))), (1, .inl a1), (2, .inl a2), (3, .inl a3), (4, .inl a4), (5, .inl a5), (6, .inl v6_7), (7, .inl v7_7)]) (stₚ := [.inl (a4 + ((I5 68 (Int.toNat (((v6_7 * 16) + v7_7)))))), .inl (a3 * (v7_7 + 1)), .inl (a2 + 1), .inl a1, .inr (.inr (some 61))]) (hₚ := gc_h sh I5 J6 A) (C := (((((((True ∧ True) ∧ True) ∧ True) ∧ True) ∧ True) ∧ True) ∧ True)) rfl ⟨⟨⟨⟨⟨⟨⟨trivial, trivial⟩, trivial⟩, trivial⟩, trivial⟩, trivial⟩, trivial⟩, trivial⟩ ?_
          have f23 := gz_hi (gw_any (Int32.ofInt (a4 + ((I5 68 (Int.toNat (((v6_7 * 16) + v7_7))))))))
          refine gv_wr ?_
          show gv_X _ _ (91, [(8, .inl (I5 68 (Int.toNat (((v6_7 * 16) + v7_7))))), (0, .inr (.inr (some 61))), (1, .inl a1), (2, .inl a2), (3, .inl a3), (4, .inl a4), (5, .inl a5), (6, .inl v6_7), (7, .inl v7_7)], [.inl ((Int32.ofInt (a4 + ((I5 68 (Int.toNat (((v6_7 * 16) + v7_7))))))).toInt), .inl (a3 * (v7_7 + 1)), .inl (a2 + 1), .inl a1, .inr (.inr (some 61))], sh, gc_h sh I5 J6 A)
          have f25 := gz_hi (gw_any ((Int32.ofInt a5 ||| Int32.ofInt (((Int32.ofInt v7_7 <<< (Int32.ofInt (4 * a2) &&& 31)).toInt)))))
          refine gv_run 7 true hD (pcₚ := 100) (lvₚ := [(8, .inl (I5 68 (Int.toNat (((v6_7 * 16) + v7_7))))), (0, .inr (.inr (some 61))), (1, .inl a1), (2, .inl a2), (3, .inl a3), (4, .inl a4), (5, .inl a5), (6, .inl v6_7), (7, .inl v7_7)]) (stₚ := [.inl ((Int32.ofInt a5 ||| Int32.ofInt (((Int32.ofInt v7_7 <<< (Int32.ofInt (4 * a2) &&& 31)).toInt))).toInt), .inl ((Int32.ofInt (a4 + ((I5 68 (Int.toNat (((v6_7 * 16) + v7_7))))))).toInt), .inl (a3 * (v7_7 + 1)), .inl (a2 + 1), .inl a1, .inr (.inr (some 61))]) (hₚ := gc_h sh I5 J6 A) (C := (((((((True ∧ True) ∧ True) ∧ True) ∧ True) ∧ True) ∧ True) ∧ True)) rfl ⟨⟨⟨⟨⟨⟨⟨trivial, trivial⟩, trivial⟩, trivial⟩, trivial⟩, trivial⟩, trivial⟩, trivial⟩ ?_
          have t26 := gz_hi ((gc_RK_nx (r := v7_7) (gc_RK_mo x5 (fun k => (FI5 55 k).resolve_left (fun h => h.elim (fun h => absurd h (by first | exact gz_ne rfl | decide)) (fun h => h.elim (fun h => absurd h (by first | exact gz_ne rfl | decide)) (fun h => h.elim (fun h => absurd h (by first | exact gz_ne rfl | decide)) (fun h => absurd h (by first | exact gz_ne rfl | decide)))))) e1_7) (by (/-28-/first | (have o1 := gz_sh ha2_7; omega) | (simp only [gz_hd] at *; omega))) (by (/-29-/first | (and_intros; (have o1 := gz_sh hv7_7; omega); (have o1 := gz_sh f17; omega)) | (simp only [gz_hd] at *; omega))) (by rw [show I5 55 (Int.toNat (a1 * 4 + a2)) = v6_7 from ((FI5 55 _).resolve_left (fun h => h.elim (fun h => absurd h (by first | exact gz_ne rfl | decide)) (fun h => h.elim (fun h => absurd h (by first | exact gz_ne rfl | decide)) (fun h => h.elim (fun h => absurd h (by first | exact gz_ne rfl | decide)) (fun h => absurd h (by first | exact gz_ne rfl | decide)))))).trans (gz_sh e2_7).symm]; (/-30-/first | omega | (simp only [gz_hd] at *; omega)))).1)
          have t27 := gz_hi ((gc_RK_nx (r := v7_7) (gc_RK_mo x5 (fun k => (FI5 55 k).resolve_left (fun h => h.elim (fun h => absurd h (by first | exact gz_ne rfl | decide)) (fun h => h.elim (fun h => absurd h (by first | exact gz_ne rfl | decide)) (fun h => h.elim (fun h => absurd h (by first | exact gz_ne rfl | decide)) (fun h => absurd h (by first | exact gz_ne rfl | decide)))))) e1_7) (by (/-31-/first | (have o1 := gz_sh ha2_7; omega) | (simp only [gz_hd] at *; omega))) (by (/-32-/first | (and_intros; (have o1 := gz_sh hv7_7; omega); (have o1 := gz_sh f17; omega)) | (simp only [gz_hd] at *; omega))) (by rw [show I5 55 (Int.toNat (a1 * 4 + a2)) = v6_7 from ((FI5 55 _).resolve_left (fun h => h.elim (fun h => absurd h (by first | exact gz_ne rfl | decide)) (fun h => h.elim (fun h => absurd h (by first | exact gz_ne rfl | decide)) (fun h => h.elim (fun h => absurd h (by first | exact gz_ne rfl | decide)) (fun h => absurd h (by first | exact gz_ne rfl | decide)))))).trans (gz_sh e2_7).symm]; (/-33-/first | omega | (simp only [gz_hd] at *; omega)))).2.1)
          have t28 := gz_hi (gc_pw_le (Int.toNat (a2 + 1)))
          obtain ⟨r29, h29, E29, P29⟩ := ihR I5 J6 hI5 a1 (a2 + 1) ((a3 * (v7_7 + 1))) (((Int32.ofInt (a4 + ((I5 68 (Int.toNat (((v6_7 * 16) + v7_7))))))).toInt)) (((Int32.ofInt a5 ||| Int32.ofInt (((Int32.ofInt v7_7 <<< (Int32.ofInt (4 * a2) &&& 31)).toInt))).toInt)) ⟨by (/-34-/first | omega | (simp only [gz_hd] at *; omega)), by (/-35-/first | omega | (simp only [gz_hd] at *; omega))⟩ ⟨by (/-36-/first | omega | (simp only [gz_hd] at *; omega)), by (/-37-/first | (have o1 := gz_sh ha2_7; omega) | (simp only [gz_hd] at *; omega))⟩ ⟨by (/-38-/first | (have o1 := gz_sh f19; omega) | (simp only [gz_hd] at *; omega)), by (/-39-/first | omega | (simp only [gz_hd] at *; omega))⟩ ⟨by (/-40-/first | (have o1 := gz_sh f23; omega) | (simp only [gz_hd] at *; omega)), by (/-41-/first | (have o1 := gz_sh f23; omega) | (simp only [gz_hd] at *; omega))⟩ ⟨by (/-42-/first | (have o1 := gz_sh t26; omega) | (simp only [gz_hd] at *; omega)), by (/-43-/first | (have o1 := gz_sh t27; have o2 := gz_sh t28; omega) | (simp only [gz_hd] at *; omega))⟩ (gc_Ls_fr x0 ((FI5 t 13).resolve_left (by (/-44-/first | (have o1 := gz_sh B_t; have o2 := gz_sh B_t_10; have o3 := gz_sh B_t_13; have o4 := gz_sh B_t_14; have o5 := gz_sh B_t_15; have o6 := gz_sh B_t_16; have o7 := gz_sh B_t_17; have o8 := gz_sh B_t_17_1; have o9 := gz_sh B_t_17_2; have o10 := gz_sh B_t_17_3; have o11 := gz_sh B_t_17_4; have o12 := gz_sh B_t_17_5; have o13 := gz_sh B_t_17_6; have o14 := gz_sh B_t_17_7; have o15 := gz_sh B_t_5; have o16 := gz_sh B_t_6; have o17 := gz_sh B_t_9; have o18 := gz_sh e8_7; omega) | (simp only [gz_hd] at *; omega)))) (fun q hL hq d k hd => (FI5 (q + d) k).resolve_left (by have := gc_dj_LT hL h_t; (/-45-/first | omega | (simp only [gz_hd] at *; omega))))) (gc_WV_fr x1 ((FI5 48 6).resolve_left (fun h => h.elim (fun h => absurd h (by first | exact gz_ne rfl | decide)) (fun h => h.elim (fun h => absurd h (by first | exact gz_ne rfl | decide)) (fun h => h.elim (fun h => absurd h (by first | exact gz_ne rfl | decide)) (fun h => absurd h (by first | exact gz_ne rfl | decide)))))) ((FI5 t 13).resolve_left (fun h => h.elim (fun h => absurd h (gz_sh N_t__67)) (fun h => h.elim (fun h => absurd h (gz_sh N_t__68)) (fun h => h.elim (fun h => absurd h (gz_sh N_t__69)) (fun h => absurd h (gz_sh N_t__70)))))) (fun k => (FI5 54 k).resolve_left (fun h => h.elim (fun h => absurd h (by first | exact gz_ne rfl | decide)) (fun h => h.elim (fun h => absurd h (by first | exact gz_ne rfl | decide)) (fun h => h.elim (fun h => absurd h (by first | exact gz_ne rfl | decide)) (fun h => absurd h (by first | exact gz_ne rfl | decide))))))) (fun i q hi hA => by obtain ⟨q9, b1, b2, b3, _, _⟩ := x0 i (by (/-46-/first | (have o1 := gz_sh e7_7; omega) | (simp only [gz_hd] at *; omega))); cases b1.symm.trans hA; have b4 := gc_dj_LT b2 h_t; exact ((FI5 _ 8).resolve_left (by (/-47-/first | omega | (simp only [gz_hd] at *; omega)))).trans (x2 i _ (by (/-48-/first | (have o1 := gz_sh e7_7; omega) | (simp only [gz_hd] at *; omega))) hA)) (gc_WA_fr x3 ((FI5 48 6).resolve_left (fun h => h.elim (fun h => absurd h (by first | exact gz_ne rfl | decide)) (fun h => h.elim (fun h => absurd h (by first | exact gz_ne rfl | decide)) (fun h => h.elim (fun h => absurd h (by first | exact gz_ne rfl | decide)) (fun h => absurd h (by first | exact gz_ne rfl | decide)))))) (by (/-49-/first | (have o1 := gz_sh e5_7; omega) | (simp only [gz_hd] at *; omega))) (fun k => (FI5 53 k).resolve_left (fun h => h.elim (fun h => absurd h (by first | exact gz_ne rfl | decide)) (fun h => h.elim (fun h => absurd h (by first | exact gz_ne rfl | decide)) (fun h => h.elim (fun h => absurd h (by first | exact gz_ne rfl | decide)) (fun h => absurd h (by first | exact gz_ne rfl | decide)))))) (fun k => (FI5 54 k).resolve_left (fun h => h.elim (fun h => absurd h (by first | exact gz_ne rfl | decide)) (fun h => h.elim (fun h => absurd h (by first | exact gz_ne rfl | decide)) (fun h => h.elim (fun h => absurd h (by first | exact gz_ne rfl | decide)) (fun h => absurd h (by first | exact gz_ne rfl | decide)))))) (fun k => (FI5 55 k).resolve_left (fun h => h.elim (fun h => absurd h (by first | exact gz_ne rfl | decide)) (fun h => h.elim (fun h => absurd h (by first | exact gz_ne rfl | decide)) (fun h => h.elim (fun h => absurd h (by first | exact gz_ne rfl | decide)) (fun h => absurd h (by first | exact gz_ne rfl | decide))))))) e0_7 (gc_RK_nx (r := v7_7) (gc_RK_mo x5 (fun k => (FI5 55 k).resolve_left (fun h => h.elim (fun h => absurd h (by first | exact gz_ne rfl | decide)) (fun h => h.elim (fun h => absurd h (by first | exact gz_ne rfl | decide)) (fun h => h.elim (fun h => absurd h (by first | exact gz_ne rfl | decide)) (fun h => absurd h (by first | exact gz_ne rfl | decide)))))) e1_7) (by (/-50-/first | (have o1 := gz_sh ha2_7; omega) | (simp only [gz_hd] at *; omega))) (by (/-51-/first | (and_intros; (have o1 := gz_sh hv7_7; omega); (have o1 := gz_sh f17; omega)) | (simp only [gz_hd] at *; omega))) (by rw [show I5 55 (Int.toNat (a1 * 4 + a2)) = v6_7 from ((FI5 55 _).resolve_left (fun h => h.elim (fun h => absurd h (by first | exact gz_ne rfl | decide)) (fun h => h.elim (fun h => absurd h (by first | exact gz_ne rfl | decide)) (fun h => h.elim (fun h => absurd h (by first | exact gz_ne rfl | decide)) (fun h => absurd h (by first | exact gz_ne rfl | decide)))))).trans (gz_sh e2_7).symm]; (/-52-/first | omega | (simp only [gz_hd] at *; omega)))) (by (/-53-/first | (have o1 := gz_sh e6_7; omega) | (simp only [gz_hd] at *; omega))) (by (/-54-/first | (have o1 := gz_sh e8_7; omega) | (simp only [gz_hd] at *; omega)))  (by (/-55-/first | (have o1 := gz_sh B_t; have o2 := gz_sh B_t_10; have o3 := gz_sh B_t_13; have o4 := gz_sh B_t_14; have o5 := gz_sh B_t_15; have o6 := gz_sh B_t_16; have o7 := gz_sh B_t_17; have o8 := gz_sh B_t_17_1; have o9 := gz_sh B_t_17_2; have o10 := gz_sh B_t_17_3; have o11 := gz_sh B_t_17_4; have o12 := gz_sh B_t_17_5; have o13 := gz_sh B_t_17_6; have o14 := gz_sh B_t_17_7; have o15 := gz_sh B_t_5; have o16 := gz_sh B_t_6; have o17 := gz_sh B_t_9; have o18 := gz_sh N_t__67; have o19 := gz_sh N_t__68; have o20 := gz_sh N_t__69; have o21 := gz_sh N_t__70; have o22 := gz_sh e8_7; have o23 := gz_sh ha2_7; have o24 := gz_sh hv7_7; omega) | (simp only [gz_hd] at *; omega)))
          obtain ⟨I30, J31, rfl, hI30, g29, k29, ⟨rfl, q29⟩⟩ := P29
          replace q29 := gz_hi q29
          have FI30 := gc_frc (W := fun q j => q = 67 ∨ q = 68 ∨ q = 69 ∨ q = 70) (V := fun q j => q = 67 ∨ q = 68 ∨ q = 69 ∨ q = 70) FI5 (fun q j h => (h.elim (fun h => (Or.inl h)) (fun h => (h.elim (fun h => (Or.inr (Or.inl h))) (fun h => (h.elim (fun h => (Or.inr (Or.inr (Or.inl h)))) (fun h => (Or.inr (Or.inr (Or.inr h)))))))))) g29
          have t32 := gz_hi ((g29 48 3).resolve_left (fun h => h.elim (fun h => absurd h (by first | exact gz_ne rfl | decide)) (fun h => h.elim (fun h => absurd h (by first | exact gz_ne rfl | decide)) (fun h => h.elim (fun h => absurd h (by first | exact gz_ne rfl | decide)) (fun h => absurd h (by first | exact gz_ne rfl | decide))))))
          have t33 := gz_hi ((g29 48 6).resolve_left (fun h => h.elim (fun h => absurd h (by first | exact gz_ne rfl | decide)) (fun h => h.elim (fun h => absurd h (by first | exact gz_ne rfl | decide)) (fun h => h.elim (fun h => absurd h (by first | exact gz_ne rfl | decide)) (fun h => absurd h (by first | exact gz_ne rfl | decide))))))
          have t34 := gz_hi ((g29 t 13).resolve_left (fun h => h.elim (fun h => absurd h (gz_sh N_t__67)) (fun h => h.elim (fun h => absurd h (gz_sh N_t__68)) (fun h => h.elim (fun h => absurd h (gz_sh N_t__69)) (fun h => absurd h (gz_sh N_t__70))))))
          have t35 := gz_hi ((g29 61 2).resolve_left (fun h => h.elim (fun h => absurd h (by first | exact gz_ne rfl | decide)) (fun h => h.elim (fun h => absurd h (by first | exact gz_ne rfl | decide)) (fun h => h.elim (fun h => absurd h (by first | exact gz_ne rfl | decide)) (fun h => absurd h (by first | exact gz_ne rfl | decide))))))
          obtain rfl : J6 = J31 := funext fun q => funext fun j => ((k29 q j).resolve_left id).symm
          refine gv_callV hD rfl (As := [.inl a1, .inl (a2 + 1), .inl (a3 * (v7_7 + 1)), .inl ((Int32.ofInt (a4 + ((I5 68 (Int.toNat (((v6_7 * 16) + v7_7))))))).toInt), .inl ((Int32.ofInt a5 ||| Int32.ofInt (((Int32.ofInt v7_7 <<< (Int32.ofInt (4 * a2) &&& 31)).toInt))).toInt)]) (st := []) rfl (gz_sh B_61) S_61 rfl (gc_lV5 hws rfl) (Nat.le_of_ble_eq_true rfl) (gz_Ev_mono (d := (1 + nr)) (Nat.le_refl _) E29) ?_
          show gv_X _ _ (103, [(8, .inl (I5 68 (Int.toNat (((v6_7 * 16) + v7_7))))), (0, .inr (.inr (some 61))), (1, .inl a1), (2, .inl a2), (3, .inl a3), (4, .inl a4), (5, .inl a5), (6, .inl v6_7), (7, .inl v7_7)], [], sh, gc_h sh I30 J6 A)
          refine gv_run 2 true hD (pcₚ := 37) (lvₚ := [(7, .inl (v7_7 + 1)), (8, .inl (I5 68 (Int.toNat (((v6_7 * 16) + v7_7))))), (0, .inr (.inr (some 61))), (1, .inl a1), (2, .inl a2), (3, .inl a3), (4, .inl a4), (5, .inl a5), (6, .inl v6_7)]) (stₚ := []) (hₚ := gc_h sh I30 J6 A) (C := ((True ∧ True) ∧ True)) rfl ⟨⟨trivial, trivial⟩, trivial⟩ ?_
          refine gv_pick [2, 3, 4, 5, 6, 7, 8, 0] rfl ?_
          exact ih37 I30 J6 v6_7 (v7_7 + 1) (by (/-56-/first | (have o1 := gz_sh e8_7; have o2 := gz_sh f17; have o3 := gz_sh hv7_7; omega) | (simp only [gz_hd] at *; omega))) hI30 FI30 FJ6 (by (/-57-/first | (and_intros; (omega); (omega); (omega); (have o1 := gz_sh ha2_7; omega); (omega); (omega); (omega); (omega); (omega); (omega); (have o1 := gz_sh hv6_7; omega); (have o1 := gz_sh hv6_7; omega); (have o1 := gz_sh hv7_7; omega); (have o1 := gz_sh f17; omega); (have o1 := gz_sh e2_7; omega); (have o1 := gz_sh ha2_7; omega); (have o1 := gz_sh e4_7; omega); (have o1 := gz_sh e5_7; have o2 := gz_sh t32; omega); (have o1 := gz_sh e6_7; have o2 := gz_sh t33; omega); (have o1 := gz_sh e7_7; have o2 := gz_sh t34; omega); (have o1 := gz_sh e8_7; have o2 := gz_sh t35; omega)) | (simp only [gz_hd] at *; omega))) (gz_sh q29).1 (fun k => Int.le_trans (e1_7 k) ((gz_sh q29).2 k))
  refine gv_run 3 true hD (pcₚ := 3) (lvₚ := [(0, .inr (.inr (some 61))), (1, .inl a1), (2, .inl a2), (3, .inl a3), (4, .inl a4), (5, .inl a5)]) (stₚ := [.inl a1, .inr (.inr (some 61)), .inl a2]) (hₚ := gc_h sh I J A) (C := (((True ∧ True) ∧ True) ∧ True)) rfl ⟨⟨⟨trivial, trivial⟩, trivial⟩, trivial⟩ ?_
  obtain ⟨r36, h36, E36, P36⟩ := d_X5_slotsOf (ws0 := ws0) (tb := tb) hws htb sh ro I J A hI  t a1 hb  h_t G_t  ⟨by (/-58-/first | omega | (simp only [gz_hd] at *; omega)), by (/-59-/first | omega | (simp only [gz_hd] at *; omega))⟩ x0 x1 (by (/-60-/first | omega | (simp only [gz_hd] at *; omega))) (by (/-61-/first | omega | (simp only [gz_hd] at *; omega))) 
  obtain ⟨rfl, ⟨z36, rfl, q36⟩⟩ := P36
  replace q36 := gz_hi q36
  refine gv_callV hD rfl (As := [.inl a1]) (st := [.inl a2]) rfl (gz_sh B_61) S_61 rfl (gc_lV5 hws rfl) (Nat.le_of_ble_eq_true rfl) (gz_Ev_mono (d := 1) (by (/-62-/first | omega | (simp only [gz_hd] at *; omega))) E36) ?_
  show gv_X _ _ (6, [(0, .inr (.inr (some 61))), (1, .inl a1), (2, .inl a2), (3, .inl a3), (4, .inl a4), (5, .inl a5)], [.inl z36, .inl a2], sh, gc_h sh I J A)
  have t37 := gz_hi (gc_sl_ws (k := Int.toNat a1) x0 x1 x2 (by (/-63-/first | omega | (simp only [gz_hd] at *; omega))))
  refine gv_icmp_lt (t := 19) hD rfl rfl ⟨⟨by (/-64-/first | omega | (simp only [gz_hd] at *; omega)), by (/-65-/first | omega | (simp only [gz_hd] at *; omega))⟩, ⟨by (/-66-/first | (have o1 := gz_sh q36; omega) | (simp only [gz_hd] at *; omega)), by (/-67-/first | (have o1 := gz_sh q36; omega) | (simp only [gz_hd] at *; omega))⟩⟩ (fun c38 => ?_) (fun c38 => ?_)
  · show gv_X _ _ (19, [(0, .inr (.inr (some 61))), (1, .inl a1), (2, .inl a2), (3, .inl a3), (4, .inl a4), (5, .inl a5)], [], sh, gc_h sh I J A)
    refine gv_run 1 true hD (pcₚ := 20) (lvₚ := [(0, .inr (.inr (some 61))), (1, .inl a1), (2, .inl a2), (3, .inl a3), (4, .inl a4), (5, .inl a5)]) (stₚ := [.inr (.inr (some 61))]) (hₚ := gc_h sh I J A) (C := (True ∧ True)) rfl ⟨trivial, trivial⟩ ?_
    refine gv_get hD rfl rfl S_61 ⟨by decide, (gz_sh B_61)⟩ (gc_hA S_61 rfl A_61_1) ?_
    show gv_X _ _ (23, [(0, .inr (.inr (some 61))), (1, .inl a1), (2, .inl a2), (3, .inl a3), (4, .inl a4), (5, .inl a5)], [.inr (.inr (some 48))], sh, gc_h sh I J A)
    refine gv_get hD rfl rfl S_48 ⟨by decide, (gz_sh B_48)⟩ (gc_hA S_48 rfl A_48_9) ?_
    show gv_X _ _ (26, [(0, .inr (.inr (some 61))), (1, .inl a1), (2, .inl a2), (3, .inl a3), (4, .inl a4), (5, .inl a5)], [.inr (.inr (some 55))], sh, gc_h sh I J A)
    refine gv_run 5 true hD (pcₚ := 31) (lvₚ := [(0, .inr (.inr (some 61))), (1, .inl a1), (2, .inl a2), (3, .inl a3), (4, .inl a4), (5, .inl a5)]) (stₚ := [.inl ((a1 * 4) + a2), .inr (.inr (some 55))]) (hₚ := gc_h sh I J A) (C := (((((True ∧ True) ∧ True) ∧ True) ∧ True) ∧ True)) rfl ⟨⟨⟨⟨⟨trivial, trivial⟩, trivial⟩, trivial⟩, trivial⟩, trivial⟩ ?_
    have f39 := gz_hi ((gc_b_44 hI (gz_sh R_55) (Int.toNat (((a1 * 4) + a2)))))
    refine gv_iald hD rfl S_55 rfl ⟨by decide, (gz_sh B_55)⟩ ⟨by (/-68-/first | omega | (simp only [gz_hd] at *; omega)), by (/-69-/first | (have o1 := gz_sh q36; omega) | (simp only [gz_hd] at *; omega))⟩ (gc_iI S_55 rfl) ?_
    show gv_X _ _ (32, [(0, .inr (.inr (some 61))), (1, .inl a1), (2, .inl a2), (3, .inl a3), (4, .inl a4), (5, .inl a5)], [.inl (I 55 (Int.toNat (((a1 * 4) + a2))))], sh, gc_h sh I J A)
    refine gv_run 3 true hD (pcₚ := 37) (lvₚ := [(7, .inl 0), (6, .inl (I 55 (Int.toNat (((a1 * 4) + a2))))), (0, .inr (.inr (some 61))), (1, .inl a1), (2, .inl a2), (3, .inl a3), (4, .inl a4), (5, .inl a5)]) (stₚ := []) (hₚ := gc_h sh I J A) (C := (((True ∧ True) ∧ True) ∧ True)) rfl ⟨⟨⟨trivial, trivial⟩, trivial⟩, trivial⟩ ?_
    refine gv_pick [2, 3, 4, 5, 6, 7, 1, 0] rfl ?_
    exact L37 _ I J ((I 55 (Int.toNat (((a1 * 4) + a2))))) 0 (Nat.lt_succ_self _) hI FI FJ (by (/-70-/first | (and_intros; (omega); (omega); (omega); (have o1 := gz_sh q36; omega); (omega); (omega); (omega); (omega); (omega); (omega); (have o1 := gz_sh f39; omega); (have o1 := gz_sh f39; omega); (omega); (omega); (omega); (have o1 := gz_sh q36; omega); (have o1 := gz_sh q36; have o2 := gz_sh t37; omega); (omega); (omega); (omega); (omega)) | (simp only [gz_hd] at *; omega))) x4 (fun k => Int.le_refl _)
  · show gv_X _ _ (9, [(0, .inr (.inr (some 61))), (1, .inl a1), (2, .inl a2), (3, .inl a3), (4, .inl a4), (5, .inl a5)], [], sh, gc_h sh I J A)
    refine gv_run 4 true hD (pcₚ := 15) (lvₚ := [(0, .inr (.inr (some 61))), (1, .inl a1), (2, .inl a2), (3, .inl a3), (4, .inl a4), (5, .inl a5)]) (stₚ := [.inl a5, .inl a4, .inl a1, .inr (.inr (some 61))]) (hₚ := gc_h sh I J A) (C := ((((True ∧ True) ∧ True) ∧ True) ∧ True)) rfl ⟨⟨⟨⟨trivial, trivial⟩, trivial⟩, trivial⟩, trivial⟩ ?_
    obtain ⟨r40, h40, E40, P40⟩ := d_X5_putList (ws0 := ws0) (tb := tb) hws htb sh ro I J A hI  σ a1 a4 a5 hb   ⟨by (/-71-/first | omega | (simp only [gz_hd] at *; omega)), by (/-72-/first | omega | (simp only [gz_hd] at *; omega))⟩ ⟨by (/-73-/first | omega | (simp only [gz_hd] at *; omega)), by (/-74-/first | omega | (simp only [gz_hd] at *; omega))⟩ ⟨by (/-75-/first | omega | (simp only [gz_hd] at *; omega)), by (/-76-/first | omega | (simp only [gz_hd] at *; omega))⟩ x4 (show gc_va σ I a1 a5 from ⟨by (/-77-/first | omega | (simp only [gz_hd] at *; omega)), fun s h0 h4 hs => x5.2.2 s h0 (by (/-78-/first | (have o1 := gz_sh q36; have o2 := gz_sh t37; omega) | (simp only [gz_hd] at *; omega)))⟩) (x3 (Int.toNat a1) (by (/-79-/first | omega | (simp only [gz_hd] at *; omega)))).1 
    obtain ⟨I41, J42, rfl, hI41, g40, k40, ⟨rfl, q40⟩⟩ := P40
    replace q40 := gz_hi q40
    have FI41 := gc_frc (W := fun q j => q = 67 ∨ q = 68 ∨ q = 69 ∨ q = 70) (V := fun q j => q = 67 ∨ q = 68 ∨ q = 69 ∨ q = 70) FI (fun q j h => (h.elim (fun h => (Or.inl h)) (fun h => (h.elim (fun h => (Or.inr (Or.inl h))) (fun h => (h.elim (fun h => (Or.inr (Or.inr (Or.inl h)))) (fun h => (Or.inr (Or.inr (Or.inr h)))))))))) g40
    obtain rfl : J = J42 := funext fun q => funext fun j => ((k40 q j).resolve_left id).symm
    refine gv_callV hD rfl (As := [.inl a1, .inl a4, .inl a5]) (st := []) rfl (gz_sh B_61) S_61 rfl (gc_lV5 hws rfl) (Nat.le_of_ble_eq_true rfl) (gz_Ev_mono (d := 1) (by (/-80-/first | omega | (simp only [gz_hd] at *; omega))) E40) ?_
    show gv_X _ _ (18, [(0, .inr (.inr (some 61))), (1, .inl a1), (2, .inl a2), (3, .inl a3), (4, .inl a4), (5, .inl a5)], [], sh, gc_h sh I41 J A)
    exact gv_vret hD rfl ⟨I41, J, rfl, hI41, FI41, FJ, ⟨rfl, (gz_sh q40).1, (gz_sh q40).2⟩⟩
