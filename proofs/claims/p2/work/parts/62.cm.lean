theorem gc_shT {sh : gz_Sh} {ro : Nat → Nat} {A : gc_A} {t : Nat} (h : gc_isTongue sh ro A t) : sh[t]? = some (false, 11, 16) ∧ sh[t + 1]? = some (false, 4, 2) ∧ sh[t + 2]? = some (true, 2, 8) ∧ sh[t + 3]? = some (false, 4, 2) ∧ sh[t + 4]? = some (true, 2, 48) ∧ sh[t + 5]? = some (true, 1, 48) ∧ sh[t + 6]? = some (true, 1, 48) ∧ sh[t + 7]? = some (false, 4, 2) ∧ sh[t + 8]? = some (true, 2, 16) ∧ sh[t + 9]? = some (true, 1, 16) ∧ sh[t + 10]? = some (true, 1, 600) ∧ sh[t + 11]? = some (false, 4, 2) ∧ sh[t + 12]? = some (true, 2, 24) ∧ sh[t + 13]? = some (true, 1, 24) ∧ sh[t + 14]? = some (true, 1, 1728) ∧ sh[t + 15]? = some (true, 1, 704) ∧ sh[t + 16]? = some (true, 4, 384) ∧ sh[t + 17]? = some (false, 2, 10) ∧ sh[t + 18]? = some (true, 0, 36864) ∧ sh[t + 19]? = some (true, 1, 1536) ∧ sh[t + 20]? = some (true, 1, 1536) ∧ sh[t + 21]? = some (true, 1, 512) ∧ sh[t + 22]? = some (true, 1, 1536) ∧ sh[t + 23]? = some (true, 0, 24) ∧ sh[t + 24]? = some (true, 0, 24) := by
  obtain ⟨S_t, R_t, B_t, A_t_0, h_t_1, A_t_1, h_t_3, A_t_2, S_t_5, R_t_5, B_t_5, A_t_3, S_t_6, R_t_6, B_t_6, A_t_4, h_t_7, A_t_5, S_t_9, R_t_9, B_t_9, A_t_7, S_t_10, R_t_10, B_t_10, A_t_8, h_t_11, A_t_9, S_t_13, R_t_13, B_t_13, A_t_10, S_t_14, R_t_14, B_t_14, A_t_12, S_t_15, R_t_15, B_t_15, A_t_14, S_t_16, R_t_16, B_t_16, A_t_15, h_t_17⟩ := id h
  obtain ⟨S_t_1, R_t_1, B_t_1, A_t_1_0, S_t_1_1, R_t_1_1, B_t_1_1, Q0_t_1, Q1_t_1, Q2_t_1⟩ := id h_t_1
  obtain ⟨S_t_3, R_t_3, B_t_3, A_t_3_0, S_t_3_1, R_t_3_1, B_t_3_1, Q0_t_3, Q1_t_3, Q2_t_3⟩ := id h_t_3
  obtain ⟨S_t_7, R_t_7, B_t_7, A_t_7_0, S_t_7_1, R_t_7_1, B_t_7_1, Q0_t_7, Q1_t_7, Q2_t_7⟩ := id h_t_7
  obtain ⟨S_t_11, R_t_11, B_t_11, A_t_11_0, S_t_11_1, R_t_11_1, B_t_11_1, Q0_t_11, Q1_t_11, Q2_t_11⟩ := id h_t_11
  obtain ⟨S_t_17, R_t_17, B_t_17, A_t_17_0, S_20, R_20, B_20, A_t_17_1, S_t_17_1, R_t_17_1, B_t_17_1, A_t_17_2, S_t_17_2, R_t_17_2, B_t_17_2, A_t_17_3, S_t_17_3, R_t_17_3, B_t_17_3, A_t_17_4, S_t_17_4, R_t_17_4, B_t_17_4, A_t_17_5, S_t_17_5, R_t_17_5, B_t_17_5, S_t_17_6, R_t_17_6, B_t_17_6, S_t_17_7, R_t_17_7, B_t_17_7⟩ := id h_t_17
  exact ⟨S_t, S_t_1, S_t_1_1, S_t_3, S_t_3_1, S_t_5, S_t_6, S_t_7, S_t_7_1, S_t_9, S_t_10, S_t_11, S_t_11_1, S_t_13, S_t_14, S_t_15, S_t_16, S_t_17, S_t_17_1, S_t_17_2, S_t_17_3, S_t_17_4, S_t_17_5, S_t_17_6, S_t_17_7⟩
theorem gc_shL {sh : gz_Sh} {ro : Nat → Nat} {A : gc_A} {t : Nat} (h : gc_isLin sh ro A t) : sh[t]? = some (false, 3, 16) ∧ sh[t + 1]? = some (true, 1, 6) ∧ sh[t + 2]? = some (true, 1, 6) ∧ sh[t + 3]? = some (true, 1, 6) ∧ sh[t + 4]? = some (true, 1, 4) ∧ sh[t + 5]? = some (true, 1, 4) ∧ sh[t + 6]? = some (true, 1, 4) ∧ sh[t + 7]? = some (true, 1, 18) ∧ sh[t + 8]? = some (true, 1, 18) := by
  obtain ⟨S_t, R_t, B_t, A_t_5, S_t_1, R_t_1, B_t_1, A_t_6, S_t_2, R_t_2, B_t_2, A_t_7, S_t_3, R_t_3, B_t_3, A_t_9, S_t_4, R_t_4, B_t_4, A_t_10, S_t_5, R_t_5, B_t_5, A_t_11, S_t_6, R_t_6, B_t_6, A_t_13, S_t_7, R_t_7, B_t_7, A_t_15, S_t_8, R_t_8, B_t_8⟩ := id h
  exact ⟨S_t, S_t_1, S_t_2, S_t_3, S_t_4, S_t_5, S_t_6, S_t_7, S_t_8⟩
theorem gc_dj_LT {sh : gz_Sh} {ro : Nat → Nat} {A : gc_A} {a b : Nat} (ha : gc_isLin sh ro A a) (hb : gc_isTongue sh ro A b) : a + 9 ≤ b ∨ b + 25 ≤ a := by
  obtain ⟨X0, X1, X2, X3, X4, X5, X6, X7, X8⟩ := gc_shL ha
  obtain ⟨Y0, Y1, Y2, Y3, Y4, Y5, Y6, Y7, Y8, Y9, Y10, Y11, Y12, Y13, Y14, Y15, Y16, Y17, Y18, Y19, Y20, Y21, Y22, Y23, Y24⟩ := gc_shT hb
  refine Classical.byContradiction fun hn => ?_
  rcases (show b = a + 8 ∨ b = a + 7 ∨ b = a + 6 ∨ b = a + 5 ∨ b = a + 4 ∨ b = a + 3 ∨ b = a + 2 ∨ b = a + 1 ∨ a = b + 0 ∨ a = b + 1 ∨ a = b + 2 ∨ a = b + 3 ∨ a = b + 4 ∨ a = b + 5 ∨ a = b + 6 ∨ a = b + 7 ∨ a = b + 8 ∨ a = b + 9 ∨ a = b + 10 ∨ a = b + 11 ∨ a = b + 12 ∨ a = b + 13 ∨ a = b + 14 ∨ a = b + 15 ∨ a = b + 16 ∨ a = b + 17 ∨ a = b + 18 ∨ a = b + 19 ∨ a = b + 20 ∨ a = b + 21 ∨ a = b + 22 ∨ a = b + 23 ∨ a = b + 24 from by omega) with h9 | h9 | h9 | h9 | h9 | h9 | h9 | h9 | h9 | h9 | h9 | h9 | h9 | h9 | h9 | h9 | h9 | h9 | h9 | h9 | h9 | h9 | h9 | h9 | h9 | h9 | h9 | h9 | h9 | h9 | h9 | h9 | h9
  · rw [h9] at Y0; cases Y0.symm.trans X8
  · rw [h9] at Y0; cases Y0.symm.trans X7
  · rw [h9] at Y0; cases Y0.symm.trans X6
  · rw [h9] at Y0; cases Y0.symm.trans X5
  · rw [h9] at Y0; cases Y0.symm.trans X4
  · rw [h9] at Y0; cases Y0.symm.trans X3
  · rw [h9] at Y0; cases Y0.symm.trans X2
  · rw [h9] at Y0; cases Y0.symm.trans X1
  · rw [h9] at X0; cases X0.symm.trans Y0
  · rw [h9] at X0; cases X0.symm.trans Y1
  · rw [h9] at X0; cases X0.symm.trans Y2
  · rw [h9] at X0; cases X0.symm.trans Y3
  · rw [h9] at X0; cases X0.symm.trans Y4
  · rw [h9] at X0; cases X0.symm.trans Y5
  · rw [h9] at X0; cases X0.symm.trans Y6
  · rw [h9] at X0; cases X0.symm.trans Y7
  · rw [h9] at X0; cases X0.symm.trans Y8
  · rw [h9] at X0; cases X0.symm.trans Y9
  · rw [h9] at X0; cases X0.symm.trans Y10
  · rw [h9] at X0; cases X0.symm.trans Y11
  · rw [h9] at X0; cases X0.symm.trans Y12
  · rw [h9] at X0; cases X0.symm.trans Y13
  · rw [h9] at X0; cases X0.symm.trans Y14
  · rw [h9] at X0; cases X0.symm.trans Y15
  · rw [h9] at X0; cases X0.symm.trans Y16
  · rw [h9] at X0; cases X0.symm.trans Y17
  · rw [h9] at X0; cases X0.symm.trans Y18
  · rw [h9] at X0; cases X0.symm.trans Y19
  · rw [h9] at X0; cases X0.symm.trans Y20
  · rw [h9] at X0; cases X0.symm.trans Y21
  · rw [h9] at X0; cases X0.symm.trans Y22
  · rw [h9] at X0; cases X0.symm.trans Y23
  · rw [h9] at X0; cases X0.symm.trans Y24
theorem gc_dj_TT {sh : gz_Sh} {ro : Nat → Nat} {A : gc_A} {a b : Nat} (ha : gc_isTongue sh ro A a) (hb : gc_isTongue sh ro A b) : a = b ∨ a + 25 ≤ b ∨ b + 25 ≤ a := by
  obtain ⟨X0, X1, X2, X3, X4, X5, X6, X7, X8, X9, X10, X11, X12, X13, X14, X15, X16, X17, X18, X19, X20, X21, X22, X23, X24⟩ := gc_shT ha
  obtain ⟨Y0, Y1, Y2, Y3, Y4, Y5, Y6, Y7, Y8, Y9, Y10, Y11, Y12, Y13, Y14, Y15, Y16, Y17, Y18, Y19, Y20, Y21, Y22, Y23, Y24⟩ := gc_shT hb
  refine Classical.byContradiction fun hn => ?_
  rcases (show b = a + 24 ∨ b = a + 23 ∨ b = a + 22 ∨ b = a + 21 ∨ b = a + 20 ∨ b = a + 19 ∨ b = a + 18 ∨ b = a + 17 ∨ b = a + 16 ∨ b = a + 15 ∨ b = a + 14 ∨ b = a + 13 ∨ b = a + 12 ∨ b = a + 11 ∨ b = a + 10 ∨ b = a + 9 ∨ b = a + 8 ∨ b = a + 7 ∨ b = a + 6 ∨ b = a + 5 ∨ b = a + 4 ∨ b = a + 3 ∨ b = a + 2 ∨ b = a + 1 ∨ a = b + 1 ∨ a = b + 2 ∨ a = b + 3 ∨ a = b + 4 ∨ a = b + 5 ∨ a = b + 6 ∨ a = b + 7 ∨ a = b + 8 ∨ a = b + 9 ∨ a = b + 10 ∨ a = b + 11 ∨ a = b + 12 ∨ a = b + 13 ∨ a = b + 14 ∨ a = b + 15 ∨ a = b + 16 ∨ a = b + 17 ∨ a = b + 18 ∨ a = b + 19 ∨ a = b + 20 ∨ a = b + 21 ∨ a = b + 22 ∨ a = b + 23 ∨ a = b + 24 from by omega) with h9 | h9 | h9 | h9 | h9 | h9 | h9 | h9 | h9 | h9 | h9 | h9 | h9 | h9 | h9 | h9 | h9 | h9 | h9 | h9 | h9 | h9 | h9 | h9 | h9 | h9 | h9 | h9 | h9 | h9 | h9 | h9 | h9 | h9 | h9 | h9 | h9 | h9 | h9 | h9 | h9 | h9 | h9 | h9 | h9 | h9 | h9 | h9
  · rw [h9] at Y0; cases Y0.symm.trans X24
  · rw [h9] at Y0; cases Y0.symm.trans X23
  · rw [h9] at Y0; cases Y0.symm.trans X22
  · rw [h9] at Y0; cases Y0.symm.trans X21
  · rw [h9] at Y0; cases Y0.symm.trans X20
  · rw [h9] at Y0; cases Y0.symm.trans X19
  · rw [h9] at Y0; cases Y0.symm.trans X18
  · rw [h9] at Y0; cases Y0.symm.trans X17
  · rw [h9] at Y0; cases Y0.symm.trans X16
  · rw [h9] at Y0; cases Y0.symm.trans X15
  · rw [h9] at Y0; cases Y0.symm.trans X14
  · rw [h9] at Y0; cases Y0.symm.trans X13
  · rw [h9] at Y0; cases Y0.symm.trans X12
  · rw [h9] at Y0; cases Y0.symm.trans X11
  · rw [h9] at Y0; cases Y0.symm.trans X10
  · rw [h9] at Y0; cases Y0.symm.trans X9
  · rw [h9] at Y0; cases Y0.symm.trans X8
  · rw [h9] at Y0; cases Y0.symm.trans X7
  · rw [h9] at Y0; cases Y0.symm.trans X6
  · rw [h9] at Y0; cases Y0.symm.trans X5
  · rw [h9] at Y0; cases Y0.symm.trans X4
  · rw [h9] at Y0; cases Y0.symm.trans X3
  · rw [h9] at Y0; cases Y0.symm.trans X2
  · rw [h9] at Y0; cases Y0.symm.trans X1
  · rw [h9] at X0; cases X0.symm.trans Y1
  · rw [h9] at X0; cases X0.symm.trans Y2
  · rw [h9] at X0; cases X0.symm.trans Y3
  · rw [h9] at X0; cases X0.symm.trans Y4
  · rw [h9] at X0; cases X0.symm.trans Y5
  · rw [h9] at X0; cases X0.symm.trans Y6
  · rw [h9] at X0; cases X0.symm.trans Y7
  · rw [h9] at X0; cases X0.symm.trans Y8
  · rw [h9] at X0; cases X0.symm.trans Y9
  · rw [h9] at X0; cases X0.symm.trans Y10
  · rw [h9] at X0; cases X0.symm.trans Y11
  · rw [h9] at X0; cases X0.symm.trans Y12
  · rw [h9] at X0; cases X0.symm.trans Y13
  · rw [h9] at X0; cases X0.symm.trans Y14
  · rw [h9] at X0; cases X0.symm.trans Y15
  · rw [h9] at X0; cases X0.symm.trans Y16
  · rw [h9] at X0; cases X0.symm.trans Y17
  · rw [h9] at X0; cases X0.symm.trans Y18
  · rw [h9] at X0; cases X0.symm.trans Y19
  · rw [h9] at X0; cases X0.symm.trans Y20
  · rw [h9] at X0; cases X0.symm.trans Y21
  · rw [h9] at X0; cases X0.symm.trans Y22
  · rw [h9] at X0; cases X0.symm.trans Y23
  · rw [h9] at X0; cases X0.symm.trans Y24
theorem gc_dj_LL {sh : gz_Sh} {ro : Nat → Nat} {A : gc_A} {a b : Nat} (ha : gc_isLin sh ro A a) (hb : gc_isLin sh ro A b) : a = b ∨ a + 9 ≤ b ∨ b + 9 ≤ a := by
  obtain ⟨X0, X1, X2, X3, X4, X5, X6, X7, X8⟩ := gc_shL ha
  obtain ⟨Y0, Y1, Y2, Y3, Y4, Y5, Y6, Y7, Y8⟩ := gc_shL hb
  refine Classical.byContradiction fun hn => ?_
  rcases (show b = a + 8 ∨ b = a + 7 ∨ b = a + 6 ∨ b = a + 5 ∨ b = a + 4 ∨ b = a + 3 ∨ b = a + 2 ∨ b = a + 1 ∨ a = b + 1 ∨ a = b + 2 ∨ a = b + 3 ∨ a = b + 4 ∨ a = b + 5 ∨ a = b + 6 ∨ a = b + 7 ∨ a = b + 8 from by omega) with h9 | h9 | h9 | h9 | h9 | h9 | h9 | h9 | h9 | h9 | h9 | h9 | h9 | h9 | h9 | h9
  · rw [h9] at Y0; cases Y0.symm.trans X8
  · rw [h9] at Y0; cases Y0.symm.trans X7
  · rw [h9] at Y0; cases Y0.symm.trans X6
  · rw [h9] at Y0; cases Y0.symm.trans X5
  · rw [h9] at Y0; cases Y0.symm.trans X4
  · rw [h9] at Y0; cases Y0.symm.trans X3
  · rw [h9] at Y0; cases Y0.symm.trans X2
  · rw [h9] at Y0; cases Y0.symm.trans X1
  · rw [h9] at X0; cases X0.symm.trans Y1
  · rw [h9] at X0; cases X0.symm.trans Y2
  · rw [h9] at X0; cases X0.symm.trans Y3
  · rw [h9] at X0; cases X0.symm.trans Y4
  · rw [h9] at X0; cases X0.symm.trans Y5
  · rw [h9] at X0; cases X0.symm.trans Y6
  · rw [h9] at X0; cases X0.symm.trans Y7
  · rw [h9] at X0; cases X0.symm.trans Y8
def gc_c1 (z : Int) : Int := if 0 ≤ z then 1 else 0
theorem gc_c1p {z : Int} (h : 0 ≤ z) : gc_c1 z = 1 := if_pos h
theorem gc_c1n {z : Int} (h : z < 0) : gc_c1 z = 0 := if_neg (by omega)
theorem gc_c1r (z : Int) : 0 ≤ gc_c1 z ∧ gc_c1 z ≤ 1 := by
  unfold gc_c1
  split <;> omega
def gc_ac (f : Nat → Int) : Nat → Int
  | 0 => 0
  | n + 1 => gc_ac f n + gc_c1 (f n)
theorem gc_ac_nx1 {f : Nat → Int} {n : Nat} (h : 0 ≤ f n) : gc_ac f (n + 1) = gc_ac f n + 1 := by
  show gc_ac f n + gc_c1 (f n) = _
  rw [gc_c1p h]
theorem gc_ac_nx0 {f : Nat → Int} {n : Nat} (h : f n < 0) : gc_ac f (n + 1) = gc_ac f n := by
  show gc_ac f n + gc_c1 (f n) = _
  rw [gc_c1n h, Int.add_zero]
theorem gc_ac_mono {f : Nat → Int} {n : Nat} : ∀ {m : Nat}, n ≤ m → gc_ac f n ≤ gc_ac f m
  | 0, h => by rw [show n = 0 from by omega]; exact Int.le_refl _
  | m + 1, h => by
    by_cases e : n = m + 1
    · rw [e]; exact Int.le_refl _
    · have h1 := gc_ac_mono (f := f) (n := n) (m := m) (by omega)
      have h2 := gc_c1r (f m)
      show _ ≤ gc_ac f m + gc_c1 (f m)
      omega
theorem gc_ac_lt {f : Nat → Int} {n m : Nat} (h : n < m) (hz : 0 ≤ f n) : gc_ac f n + 1 ≤ gc_ac f m := by
  rw [← gc_ac_nx1 hz]
  exact gc_ac_mono h
theorem gc_ac_eq {f g : Nat → Int} : ∀ {n : Nat}, (∀ k, k < n → f k = g k) → gc_ac f n = gc_ac g n
  | 0, _ => rfl
  | n + 1, h => by
    show gc_ac f n + gc_c1 (f n) = gc_ac g n + gc_c1 (g n)
    rw [gc_ac_eq (n := n) (fun k hk => h k (by omega)), h n (by omega)]
def gc_lv (q : Nat) (I : gr_I) : Prop := I q 8 = gc_ac (I (q + 1)) (Int.toNat (I q 4))
theorem gc_lv_fr {q : Nat} {I I' : gr_I} (h : gc_lv q I) (h8 : I' q 8 = I q 8) (h4 : I' q 4 = I q 4) (hf : ∀ k, I' (q + 1) k = I (q + 1) k) : gc_lv q I' := by
  unfold gc_lv at h ⊢
  rw [h8, h4, gc_ac_eq (g := I (q + 1)) (fun k _ => hf k)]
  exact h
def gc_Ls (sh : gz_Sh) (ro : Nat → Nat) (A : gc_A) (p : Nat) (I : gr_I) : Prop := ∀ i : Nat, (i : Int) < I p 13 → ∃ q, A (p + 16) i = some q ∧ gc_isLin sh ro A q ∧ 144 ≤ q ∧ I q 0 = (i : Int) ∧ gc_lv q I
theorem gc_Ls_fr {sh : gz_Sh} {ro : Nat → Nat} {A : gc_A} {p : Nat} {I I' : gr_I} (h : gc_Ls sh ro A p I) (e : I' p 13 = I p 13) (hf : ∀ q, gc_isLin sh ro A q → 144 ≤ q → ∀ d k, d ≤ 8 → I' (q + d) k = I (q + d) k) : gc_Ls sh ro A p I' := fun i hi => by
  obtain ⟨q, h1, h2, h3, h4, h5⟩ := h i (by omega)
  refine ⟨q, h1, h2, h3, ?_, gc_lv_fr h5 (hf q h2 h3 0 8 (by omega)) (hf q h2 h3 0 4 (by omega)) (fun k => hf q h2 h3 1 k (by omega))⟩
  rw [← h4]
  exact hf q h2 h3 0 0 (by omega)
def gc_Ts (sh : gz_Sh) (ro : Nat → Nat) (A : gc_A) (I : gr_I) : Prop := ∀ i : Nat, (i : Int) < I 8 1 → ∃ q, A 10 i = some q ∧ gc_isTongue sh ro A q ∧ 144 ≤ q
theorem gc_Ts_fr {sh : gz_Sh} {ro : Nat → Nat} {A : gc_A} {I I' : gr_I} (h : gc_Ts sh ro A I) (e : I' 8 1 = I 8 1) : gc_Ts sh ro A I' := fun i hi => h i (by omega)
set_option maxHeartbeats 4000000 in
set_option maxRecDepth 100000 in
theorem d_X11_linsOf {ws0 : List Cond} {tb : String → gz_T} (hws : gc_Ws ws0) (htb : gc_tbs tb) (sh : gz_Sh) (ro : Nat → Nat) (I : gr_I) (J : gr_J) (A : gc_A) (hI : gc_Inv ro I) (p : Nat) (a1 : Int) (hp : gc_isTongue sh ro A p) (ha1 : (-2147483648) ≤ a1 ∧ a1 ≤ 2147483647) (x0 : gc_Ls sh ro A p I) : ∃ r h', gz_Ev ws0 tb 1 (yX11_linsOf, cX11_linsOf, 4, (some .int)) [.inr (.inr (some p)), .inl a1] sh (gc_h sh I J A) r sh h' 0 0 ∧ (h' = gc_h sh I J A ∧ (∃ z : Int, r = some (.inl z) ∧ 0 ≤ z ∧ z ≤ 384)) := by
  obtain ⟨S_p, R_p, B_p, A_p_0, h_p_1, A_p_1, h_p_3, A_p_2, S_p_5, R_p_5, B_p_5, A_p_3, S_p_6, R_p_6, B_p_6, A_p_4, h_p_7, A_p_5, S_p_9, R_p_9, B_p_9, A_p_7, S_p_10, R_p_10, B_p_10, A_p_8, h_p_11, A_p_9, S_p_13, R_p_13, B_p_13, A_p_10, S_p_14, R_p_14, B_p_14, A_p_12, S_p_15, R_p_15, B_p_15, A_p_14, S_p_16, R_p_16, B_p_16, A_p_15, h_p_17⟩ := id hp
  obtain ⟨S_p_1, R_p_1, B_p_1, A_p_1_0, S_p_1_1, R_p_1_1, B_p_1_1, Q0_p_1, Q1_p_1, Q2_p_1⟩ := id h_p_1
  obtain ⟨S_p_3, R_p_3, B_p_3, A_p_3_0, S_p_3_1, R_p_3_1, B_p_3_1, Q0_p_3, Q1_p_3, Q2_p_3⟩ := id h_p_3
  obtain ⟨S_p_7, R_p_7, B_p_7, A_p_7_0, S_p_7_1, R_p_7_1, B_p_7_1, Q0_p_7, Q1_p_7, Q2_p_7⟩ := id h_p_7
  obtain ⟨S_p_11, R_p_11, B_p_11, A_p_11_0, S_p_11_1, R_p_11_1, B_p_11_1, Q0_p_11, Q1_p_11, Q2_p_11⟩ := id h_p_11
  obtain ⟨S_p_17, R_p_17, B_p_17, A_p_17_0, S_20, R_20, B_20, A_p_17_1, S_p_17_1, R_p_17_1, B_p_17_1, A_p_17_2, S_p_17_2, R_p_17_2, B_p_17_2, A_p_17_3, S_p_17_3, R_p_17_3, B_p_17_3, A_p_17_4, S_p_17_4, R_p_17_4, B_p_17_4, A_p_17_5, S_p_17_5, R_p_17_5, B_p_17_5, S_p_17_6, R_p_17_6, B_p_17_6, S_p_17_7, R_p_17_7, B_p_17_7⟩ := id h_p_17
  have hD : gv_D (gc_E11 ws0 tb 0 (yX11_linsOf, cX11_linsOf, 4, (some .int)) kX11_linsOf) := gq_ok oX11_linsOf
  refine gc_ev11 (d := 0) (l := kX11_linsOf) (Po := fun r h' => (h' = gc_h sh I J A ∧ (∃ z : Int, r = some (.inl z) ∧ 0 ≤ z ∧ z ≤ 384))) htb rfl (Nat.le_of_ble_eq_true rfl) ?_
  have f1 := (show 0 ≤ I p 13 ∧ I p 13 ≤ 384 from gc_in hI R_p rfl rfl)
  have L4 : ∀ (n9 : Nat) (v2_2 : Int) (v3_2 : Int), (385 - v3_2).toNat < n9 → (((-2147483648) ≤ a1 ∧ a1 ≤ 2147483647) ∧ (0 ≤ v2_2 ∧ v2_2 ≤ 384) ∧ (0 ≤ v3_2 ∧ v3_2 ≤ 384) ∧ (v2_2 ≤ v3_2)) → gv_X (gc_E11 ws0 tb 0 (yX11_linsOf, cX11_linsOf, 4, (some .int)) kX11_linsOf) (gv_Q cX11_linsOf (some .int) sh (fun r h' => (h' = gc_h sh I J A ∧ (∃ z : Int, r = some (.inl z) ∧ 0 ≤ z ∧ z ≤ 384)))) (4, [(0, .inr (.inr (some p))), (1, .inl a1), (2, .inl v2_2), (3, .inl v3_2)], [], sh, gc_h sh I J A) := by
    intro n9
    induction n9 with
    | zero => intro v2_2 v3_2 hn; omega
    | succ n9 ih4 =>
      intro v2_2 v3_2 hn m_2
      obtain ⟨ha1_2, hv2_2, hv3_2, e0_2⟩ := m_2
      have f3 := (show 0 ≤ I p 13 ∧ I p 13 ≤ 384 from gc_in hI R_p rfl rfl)
      have L28 : ∀ (v2_4 : Int), (((-2147483648) ≤ a1 ∧ a1 ≤ 2147483647) ∧ (0 ≤ v2_4 ∧ v2_4 ≤ 384) ∧ (0 ≤ v3_2 ∧ v3_2 ≤ 383) ∧ (v2_4 ≤ v3_2 + 1)) → gv_X (gc_E11 ws0 tb 0 (yX11_linsOf, cX11_linsOf, 4, (some .int)) kX11_linsOf) (gv_Q cX11_linsOf (some .int) sh (fun r h' => (h' = gc_h sh I J A ∧ (∃ z : Int, r = some (.inl z) ∧ 0 ≤ z ∧ z ≤ 384)))) (28, [(0, .inr (.inr (some p))), (1, .inl a1), (2, .inl v2_4), (3, .inl v3_2)], [], sh, gc_h sh I J A) := by
        intro v2_4 m_4
        obtain ⟨ha1_4, hv2_4, hv3_2_4, e0_4⟩ := m_4
        have f5 := (show 0 ≤ I p 13 ∧ I p 13 ≤ 384 from gc_in hI R_p rfl rfl)
        refine gv_run 2 true hD (pc' := 4) (lv' := [(3, .inl (v3_2 + 1)), (0, .inr (.inr (some p))), (1, .inl a1), (2, .inl v2_4)]) (st' := []) (h' := gc_h sh I J A) (C := ((True ∧ True) ∧ True)) rfl ⟨⟨trivial, trivial⟩, trivial⟩ ?_
        refine gv_pick [1, 2, 3, 0] rfl ?_
        exact ih4 v2_4 (v3_2 + 1) (by omega) (by omega)
      refine gv_run 2 true hD (pc' := 6) (lv' := [(0, .inr (.inr (some p))), (1, .inl a1), (2, .inl v2_2), (3, .inl v3_2)]) (st' := [.inr (.inr (some p)), .inl v3_2]) (h' := gc_h sh I J A) (C := ((True ∧ True) ∧ True)) rfl ⟨⟨trivial, trivial⟩, trivial⟩ ?_
      have f6 := (show 0 ≤ I p 13 ∧ I p 13 ≤ 384 from gc_in hI R_p rfl rfl)
      refine gv_get hD rfl rfl S_p ⟨by decide, B_p⟩ (gc_hI S_p rfl) ?_
      show gv_X _ _ (9, [(0, .inr (.inr (some p))), (1, .inl a1), (2, .inl v2_2), (3, .inl v3_2)], [.inl (I p 13), .inl v3_2], sh, gc_h sh I J A)
      refine gv_icmp_ge (t := 34) hD rfl rfl ⟨⟨by omega, by omega⟩, ⟨by omega, by omega⟩⟩ (fun c7 => ?_) (fun c7 => ?_)
      · show gv_X _ _ (34, [(0, .inr (.inr (some p))), (1, .inl a1), (2, .inl v2_2), (3, .inl v3_2)], [], sh, gc_h sh I J A)
        refine gv_run 1 true hD (pc' := 35) (lv' := [(0, .inr (.inr (some p))), (1, .inl a1), (2, .inl v2_2), (3, .inl v3_2)]) (st' := [.inl v2_2]) (h' := gc_h sh I J A) (C := (True ∧ True)) rfl ⟨trivial, trivial⟩ ?_
        exact gv_iret hD rfl ⟨rfl, ⟨_, rfl, by omega⟩⟩
      · show gv_X _ _ (12, [(0, .inr (.inr (some p))), (1, .inl a1), (2, .inl v2_2), (3, .inl v3_2)], [], sh, gc_h sh I J A)
        refine gv_run 1 true hD (pc' := 13) (lv' := [(0, .inr (.inr (some p))), (1, .inl a1), (2, .inl v2_2), (3, .inl v3_2)]) (st' := [.inr (.inr (some p))]) (h' := gc_h sh I J A) (C := (True ∧ True)) rfl ⟨trivial, trivial⟩ ?_
        refine gv_get hD rfl rfl S_p ⟨by decide, B_p⟩ (gc_hA S_p rfl A_p_14) ?_
        show gv_X _ _ (16, [(0, .inr (.inr (some p))), (1, .inl a1), (2, .inl v2_2), (3, .inl v3_2)], [.inr (.inr (some (p + 16)))], sh, gc_h sh I J A)
        refine gv_run 1 true hD (pc' := 17) (lv' := [(0, .inr (.inr (some p))), (1, .inl a1), (2, .inl v2_2), (3, .inl v3_2)]) (st' := [.inl v3_2, .inr (.inr (some (p + 16)))]) (h' := gc_h sh I J A) (C := (True ∧ True)) rfl ⟨trivial, trivial⟩ ?_
        obtain ⟨t8_, A_t8, h_t8, G_t8, U_t8, V_t8⟩ := x0 (Int.toNat v3_2) (by omega)
        obtain ⟨S_t8, R_t8, B_t8, A_t8_5, S_t8__1, R_t8__1, B_t8__1, A_t8_6, S_t8__2, R_t8__2, B_t8__2, A_t8_7, S_t8__3, R_t8__3, B_t8__3, A_t8_9, S_t8__4, R_t8__4, B_t8__4, A_t8_10, S_t8__5, R_t8__5, B_t8__5, A_t8_11, S_t8__6, R_t8__6, B_t8__6, A_t8_13, S_t8__7, R_t8__7, B_t8__7, A_t8_15, S_t8__8, R_t8__8, B_t8__8⟩ := id h_t8
        refine gv_aald hD rfl S_p_16 ⟨by decide, by decide⟩ ⟨by decide, B_p_16⟩ ⟨by omega, by omega⟩ ((gc_aA S_p_16 rfl).trans A_t8) ?_
        show gv_X _ _ (18, [(0, .inr (.inr (some p))), (1, .inl a1), (2, .inl v2_2), (3, .inl v3_2)], [.inr (.inr (some t8_))], sh, gc_h sh I J A)
        have f9 := (show 0 ≤ I t8_ 1 ∧ I t8_ 1 ≤ 95 from gc_in hI R_t8 rfl rfl)
        refine gv_get hD rfl rfl S_t8 ⟨by decide, B_t8⟩ (gc_hI S_t8 rfl) ?_
        show gv_X _ _ (21, [(0, .inr (.inr (some p))), (1, .inl a1), (2, .inl v2_2), (3, .inl v3_2)], [.inl (I t8_ 1)], sh, gc_h sh I J A)
        refine gv_run 1 true hD (pc' := 22) (lv' := [(0, .inr (.inr (some p))), (1, .inl a1), (2, .inl v2_2), (3, .inl v3_2)]) (st' := [.inl a1, .inl (I t8_ 1)]) (h' := gc_h sh I J A) (C := (True ∧ True)) rfl ⟨trivial, trivial⟩ ?_
        refine gv_icmp_ne (t := 28) hD rfl rfl ⟨⟨by omega, by omega⟩, ⟨by omega, by omega⟩⟩ (fun c10 => ?_) (fun c10 => ?_)
        · show gv_X _ _ (28, [(0, .inr (.inr (some p))), (1, .inl a1), (2, .inl v2_2), (3, .inl v3_2)], [], sh, gc_h sh I J A)
          exact L28 v2_2 (by omega)
        · show gv_X _ _ (25, [(0, .inr (.inr (some p))), (1, .inl a1), (2, .inl v2_2), (3, .inl v3_2)], [], sh, gc_h sh I J A)
          refine gv_run 1 true hD (pc' := 28) (lv' := [(2, .inl (v2_2 + 1)), (0, .inr (.inr (some p))), (1, .inl a1), (3, .inl v3_2)]) (st' := []) (h' := gc_h sh I J A) (C := (True ∧ True)) rfl ⟨trivial, trivial⟩ ?_
          refine gv_pick [1, 2, 0, 3] rfl ?_
          exact L28 (v2_2 + 1) (by omega)
  refine gv_run 4 true hD (pc' := 4) (lv' := [(3, .inl 0), (2, .inl 0), (0, .inr (.inr (some p))), (1, .inl a1)]) (st' := []) (h' := gc_h sh I J A) (C := ((((True ∧ True) ∧ True) ∧ True) ∧ True)) rfl ⟨⟨⟨⟨trivial, trivial⟩, trivial⟩, trivial⟩, trivial⟩ ?_
  refine gv_pick [2, 3, 1, 0] rfl ?_
  exact L4 _ 0 0 (Nat.lt_succ_self _) (by omega)
set_option maxHeartbeats 4000000 in
set_option maxRecDepth 100000 in
theorem d_X8_mark {ws0 : List Cond} {tb : String → gz_T} (hws : gc_Ws ws0) (htb : gc_tbs tb) (sh : gz_Sh) (ro : Nat → Nat) (I : gr_I) (J : gr_J) (A : gc_A) (hI : gc_Inv ro I)  (hb : gc_Base sh ro A)  (x0 : gc_Ts sh ro A I) : ∃ r h', gz_Ev ws0 tb 2 (yX8_mark, cX8_mark, 2, none) [.inr (.inr (some 1))] sh (gc_h sh I J A) r sh h' 0 0 ∧ (∃ (I' : gr_I) (J' : gr_J), h' = gc_h sh I' J' A ∧ gc_Inv ro I' ∧ (∀ q j : Nat, ((q = 1 ∧ j = 18) ∨ q = 21) ∨ I' q j = I q j) ∧ (∀ q j : Nat, (False) ∨ J' q j = J q j) ∧ r = none) := by
  have FI : ∀ q j : Nat, ((q = 1 ∧ j = 18) ∨ q = 21) ∨ I q j = I q j := fun _ _ => Or.inr rfl
  have FJ : ∀ q j : Nat, (False) ∨ J q j = J q j := fun _ _ => Or.inr rfl
  have A_1_0 : A 1 0 = some 2 := gc_bA hb rfl
  have A_1_1 : A 1 1 = some 4 := gc_bA hb rfl
  have A_1_10 : A 1 10 = some 15 := gc_bA hb rfl
  have A_1_19 : A 1 19 = some 21 := gc_bA hb rfl
  have A_1_2 : A 1 2 = some 6 := gc_bA hb rfl
  have A_1_3 : A 1 3 = some 8 := gc_bA hb rfl
  have A_1_4 : A 1 4 = some 10 := gc_bA hb rfl
  have B_1 : 1 < 1000000 := by decide
  have B_10 : 10 < 1000000 := by decide
  have B_15 : 15 < 1000000 := by decide
  have B_2 : 2 < 1000000 := by decide
  have B_21 : 21 < 1000000 := by decide
  have B_4 : 4 < 1000000 := by decide
  have B_6 : 6 < 1000000 := by decide
  have B_8 : 8 < 1000000 := by decide
  have R_1 : ro 1 = 22 := gc_bR hb (by decide) rfl
  have R_15 : ro 15 = 28 := gc_bR hb (by decide) rfl
  have R_2 : ro 2 = 9 := gc_bR hb (by decide) rfl
  have R_21 : ro 21 = 70 := gc_bR hb (by decide) rfl
  have R_4 : ro 4 = 11 := gc_bR hb (by decide) rfl
  have R_6 : ro 6 = 6 := gc_bR hb (by decide) rfl
  have R_8 : ro 8 = 6 := gc_bR hb (by decide) rfl
  have S_1 : sh[1]? = some (false, 8, 21) := gc_bS hb rfl
  have S_10 : sh[10]? = some (true, 5, 8) := gc_bS hb rfl
  have S_15 : sh[15]? = some (true, 1, 96) := gc_bS hb rfl
  have S_2 : sh[2]? = some (false, 4, 2) := gc_bS hb rfl
  have S_21 : sh[21]? = some (true, 1, 159) := gc_bS hb rfl
  have S_4 : sh[4]? = some (false, 4, 2) := gc_bS hb rfl
  have S_6 : sh[6]? = some (false, 4, 2) := gc_bS hb rfl
  have S_8 : sh[8]? = some (false, 4, 2) := gc_bS hb rfl
  have hD : gv_D (gc_E8 ws0 tb 1 (yX8_mark, cX8_mark, 2, none) kX8_mark) := gq_ok oX8_mark
  refine gc_ev8 (d := 1) (l := kX8_mark) (Po := fun r h' => (∃ (I' : gr_I) (J' : gr_J), h' = gc_h sh I' J' A ∧ gc_Inv ro I' ∧ (∀ q j : Nat, ((q = 1 ∧ j = 18) ∨ q = 21) ∨ I' q j = I q j) ∧ (∀ q j : Nat, (False) ∨ J' q j = J q j) ∧ r = none)) htb rfl (Nat.le_of_ble_eq_true rfl) ?_
  have L90 : ∀ (n9 : Nat) (I1 : gr_I) (J2 : gr_J) (v1_3 : Int), (9 - v1_3).toNat < n9 → gc_Inv ro I1 → (∀ q j : Nat, ((q = 1 ∧ j = 18) ∨ q = 21) ∨ I1 q j = I q j) → (∀ q j : Nat, (False) ∨ J2 q j = J q j) → ((0 ≤ v1_3 ∧ v1_3 ≤ 8)) → gv_X (gc_E8 ws0 tb 1 (yX8_mark, cX8_mark, 2, none) kX8_mark) (gv_Q cX8_mark none sh (fun r h' => (∃ (I' : gr_I) (J' : gr_J), h' = gc_h sh I' J' A ∧ gc_Inv ro I' ∧ (∀ q j : Nat, ((q = 1 ∧ j = 18) ∨ q = 21) ∨ I' q j = I q j) ∧ (∀ q j : Nat, (False) ∨ J' q j = J q j) ∧ r = none))) (90, [(0, .inr (.inr (some 1))), (1, .inl v1_3)], [], sh, gc_h sh I1 J2 A) := by
    intro n9
    induction n9 with
    | zero => intro I1 J2 v1_3 hn; omega
    | succ n9 ih90 =>
      intro I1 J2 v1_3 hn hI1 FI1 FJ2 m_3
      have hv1_3 := m_3
      refine gv_run 2 true hD (pc' := 92) (lv' := [(0, .inr (.inr (some 1))), (1, .inl v1_3)]) (st' := [.inr (.inr (some 1)), .inl v1_3]) (h' := gc_h sh I1 J2 A) (C := ((True ∧ True) ∧ True)) rfl ⟨⟨trivial, trivial⟩, trivial⟩ ?_
      refine gv_get hD rfl rfl S_1 ⟨by decide, B_1⟩ (gc_hA S_1 rfl A_1_3) ?_
      show gv_X _ _ (95, [(0, .inr (.inr (some 1))), (1, .inl v1_3)], [.inr (.inr (some 8)), .inl v1_3], sh, gc_h sh I1 J2 A)
      have f4 := (show 0 ≤ I1 8 1 ∧ I1 8 1 ≤ 8 from gc_in hI1 R_8 rfl rfl)
      refine gv_get hD rfl rfl S_8 ⟨by decide, B_8⟩ (gc_hI S_8 rfl) ?_
      show gv_X _ _ (98, [(0, .inr (.inr (some 1))), (1, .inl v1_3)], [.inl (I1 8 1), .inl v1_3], sh, gc_h sh I1 J2 A)
      refine gv_icmp_ge (t := 127) hD rfl rfl ⟨⟨by omega, by omega⟩, ⟨by omega, by omega⟩⟩ (fun c5 => ?_) (fun c5 => ?_)
      · show gv_X _ _ (127, [(0, .inr (.inr (some 1))), (1, .inl v1_3)], [], sh, gc_h sh I1 J2 A)
        refine gv_run 1 true hD (pc' := 128) (lv' := [(0, .inr (.inr (some 1))), (1, .inl v1_3)]) (st' := [.inr (.inr (some 1))]) (h' := gc_h sh I1 J2 A) (C := (True ∧ True)) rfl ⟨trivial, trivial⟩ ?_
        refine gv_get hD rfl rfl S_1 ⟨by decide, B_1⟩ (gc_hA S_1 rfl A_1_10) ?_
        show gv_X _ _ (131, [(0, .inr (.inr (some 1))), (1, .inl v1_3)], [.inr (.inr (some 15))], sh, gc_h sh I1 J2 A)
        refine gv_run 2 true hD (pc' := 133) (lv' := [(0, .inr (.inr (some 1))), (1, .inl v1_3)]) (st' := [.inr (.inr (some 1)), .inl 0, .inr (.inr (some 15))]) (h' := gc_h sh I1 J2 A) (C := ((True ∧ True) ∧ True)) rfl ⟨⟨trivial, trivial⟩, trivial⟩ ?_
        refine gv_get hD rfl rfl S_1 ⟨by decide, B_1⟩ (gc_hA S_1 rfl A_1_19) ?_
        show gv_X _ _ (136, [(0, .inr (.inr (some 1))), (1, .inl v1_3)], [.inr (.inr (some 21)), .inl 0, .inr (.inr (some 15))], sh, gc_h sh I1 J2 A)
        refine gv_run 2 true hD (pc' := 140) (lv' := [(0, .inr (.inr (some 1))), (1, .inl v1_3)]) (st' := [.inl 96, .inl 63, .inr (.inr (some 21)), .inl 0, .inr (.inr (some 15))]) (h' := gc_h sh I1 J2 A) (C := ((True ∧ True) ∧ True)) rfl ⟨⟨trivial, trivial⟩, trivial⟩ ?_
        refine gv_copy hD rfl (gc_lC8_95 hws) (Nat.le_of_ble_eq_true rfl) ⟨B_15, B_21⟩ S_15 S_21 (by decide) ⟨by decide, by decide⟩ ⟨by omega, by omega, by omega⟩ (by omega) (by omega) (fun h => absurd h (by decide)) ?_
        refine gc_cp hI1 S_15 S_21 (by decide) (fun j hj => by have h9 := (show 0 ≤ I1 15 (Int.toNat 0 + j) ∧ I1 15 (Int.toNat 0 + j) ≤ 40 from gc_in hI1 R_15 rfl rfl); rw [R_21]; exact ⟨by show (-1) ≤ _; omega, by show _ ≤ 12000; omega⟩) (fun I7 hI7 p6 q6 => ?_)
        have FI7 := gc_frp (W := fun q j => (q = 1 ∧ j = 18) ∨ q = 21) (V := fun q j => q = 21 ∧ Int.toNat 63 ≤ j ∧ j < Int.toNat 63 + Int.toNat 96) FI1 (fun q j h => (Or.inr h.1)) p6
        show gv_X _ _ (143, [(0, .inr (.inr (some 1))), (1, .inl v1_3)], [], sh, gc_h sh I7 J2 A)
        exact gv_vret hD rfl ⟨I7, J2, rfl, hI7, FI7, FJ2, rfl⟩
      · show gv_X _ _ (101, [(0, .inr (.inr (some 1))), (1, .inl v1_3)], [], sh, gc_h sh I1 J2 A)
        refine gv_run 1 true hD (pc' := 102) (lv' := [(0, .inr (.inr (some 1))), (1, .inl v1_3)]) (st' := [.inr (.inr (some 1))]) (h' := gc_h sh I1 J2 A) (C := (True ∧ True)) rfl ⟨trivial, trivial⟩ ?_
        refine gv_get hD rfl rfl S_1 ⟨by decide, B_1⟩ (gc_hA S_1 rfl A_1_4) ?_
        show gv_X _ _ (105, [(0, .inr (.inr (some 1))), (1, .inl v1_3)], [.inr (.inr (some 10))], sh, gc_h sh I1 J2 A)
        refine gv_run 1 true hD (pc' := 106) (lv' := [(0, .inr (.inr (some 1))), (1, .inl v1_3)]) (st' := [.inl v1_3, .inr (.inr (some 10))]) (h' := gc_h sh I1 J2 A) (C := (True ∧ True)) rfl ⟨trivial, trivial⟩ ?_
        obtain ⟨t9_, A_t9, h_t9, G_t9⟩ := (gc_Ts_fr x0 ((FI1 8 1).resolve_left (by omega))) (Int.toNat v1_3) (by omega)
        obtain ⟨S_t9, R_t9, B_t9, A_t9_0, h_t9__1, A_t9_1, h_t9__3, A_t9_2, S_t9__5, R_t9__5, B_t9__5, A_t9_3, S_t9__6, R_t9__6, B_t9__6, A_t9_4, h_t9__7, A_t9_5, S_t9__9, R_t9__9, B_t9__9, A_t9_7, S_t9__10, R_t9__10, B_t9__10, A_t9_8, h_t9__11, A_t9_9, S_t9__13, R_t9__13, B_t9__13, A_t9_10, S_t9__14, R_t9__14, B_t9__14, A_t9_12, S_t9__15, R_t9__15, B_t9__15, A_t9_14, S_t9__16, R_t9__16, B_t9__16, A_t9_15, h_t9__17⟩ := id h_t9
        obtain ⟨S_t9__1, R_t9__1, B_t9__1, A_t9__1_0, S_t9__1_1, R_t9__1_1, B_t9__1_1, Q0_t9__1, Q1_t9__1, Q2_t9__1⟩ := id h_t9__1
        obtain ⟨S_t9__3, R_t9__3, B_t9__3, A_t9__3_0, S_t9__3_1, R_t9__3_1, B_t9__3_1, Q0_t9__3, Q1_t9__3, Q2_t9__3⟩ := id h_t9__3
        obtain ⟨S_t9__7, R_t9__7, B_t9__7, A_t9__7_0, S_t9__7_1, R_t9__7_1, B_t9__7_1, Q0_t9__7, Q1_t9__7, Q2_t9__7⟩ := id h_t9__7
        obtain ⟨S_t9__11, R_t9__11, B_t9__11, A_t9__11_0, S_t9__11_1, R_t9__11_1, B_t9__11_1, Q0_t9__11, Q1_t9__11, Q2_t9__11⟩ := id h_t9__11
        obtain ⟨S_t9__17, R_t9__17, B_t9__17, A_t9__17_0, S_20, R_20, B_20, A_t9__17_1, S_t9__17_1, R_t9__17_1, B_t9__17_1, A_t9__17_2, S_t9__17_2, R_t9__17_2, B_t9__17_2, A_t9__17_3, S_t9__17_3, R_t9__17_3, B_t9__17_3, A_t9__17_4, S_t9__17_4, R_t9__17_4, B_t9__17_4, A_t9__17_5, S_t9__17_5, R_t9__17_5, B_t9__17_5, S_t9__17_6, R_t9__17_6, B_t9__17_6, S_t9__17_7, R_t9__17_7, B_t9__17_7⟩ := id h_t9__17
        refine gv_aald hD rfl S_10 ⟨by decide, by decide⟩ ⟨by decide, B_10⟩ ⟨by omega, by omega⟩ ((gc_aA S_10 rfl).trans A_t9) ?_
        show gv_X _ _ (107, [(0, .inr (.inr (some 1))), (1, .inl v1_3)], [.inr (.inr (some t9_))], sh, gc_h sh I1 J2 A)
        refine gv_run 1 true hD (pc' := 108) (lv' := [(0, .inr (.inr (some 1))), (1, .inl v1_3)]) (st' := [.inr (.inr (some 1)), .inr (.inr (some t9_))]) (h' := gc_h sh I1 J2 A) (C := (True ∧ True)) rfl ⟨trivial, trivial⟩ ?_
        refine gv_get hD rfl rfl S_1 ⟨by decide, B_1⟩ (gc_hA S_1 rfl A_1_19) ?_
        show gv_X _ _ (111, [(0, .inr (.inr (some 1))), (1, .inl v1_3)], [.inr (.inr (some 21)), .inr (.inr (some t9_))], sh, gc_h sh I1 J2 A)
        refine gv_run 5 true hD (pc' := 118) (lv' := [(0, .inr (.inr (some 1))), (1, .inl v1_3)]) (st' := [.inl (7 + (v1_3 * 7)), .inr (.inr (some 21)), .inr (.inr (some t9_))]) (h' := gc_h sh I1 J2 A) (C := (((((True ∧ True) ∧ True) ∧ True) ∧ True) ∧ True)) rfl ⟨⟨⟨⟨⟨trivial, trivial⟩, trivial⟩, trivial⟩, trivial⟩, trivial⟩ ?_
        obtain ⟨r10, h10, E10, P10⟩ := d_X11_saveSizes (ws0 := ws0) (tb := tb) hws htb sh ro I1 J2 A hI1 t9_ 159 21 ((7 + (v1_3 * 7))) h_t9 S_21 R_21 B_21 (by decide)  ⟨by omega, by omega⟩ (by omega) 
        obtain ⟨I11, J12, rfl, hI11, g10, k10, rfl⟩ := P10
        have FI11 := gc_frc (W := fun q j => (q = 1 ∧ j = 18) ∨ q = 21) (V := fun q j => q = 21) FI1 (fun q j h => (Or.inr h)) g10
        obtain rfl : J2 = J12 := funext fun q => funext fun j => ((k10 q j).resolve_left id).symm
        refine gv_callV hD rfl (As := [.inr (.inr (some 21)), .inl (7 + (v1_3 * 7))]) (st := []) rfl B_t9 S_t9 rfl (gc_lV8 hws rfl) (Nat.le_of_ble_eq_true rfl) (gz_Ev_mono (d := 1) (by decide) E10) ?_
        show gv_X _ _ (121, [(0, .inr (.inr (some 1))), (1, .inl v1_3)], [], sh, gc_h sh I11 J2 A)
        refine gv_run 2 true hD (pc' := 90) (lv' := [(1, .inl (v1_3 + 1)), (0, .inr (.inr (some 1)))]) (st' := []) (h' := gc_h sh I11 J2 A) (C := ((True ∧ True) ∧ True)) rfl ⟨⟨trivial, trivial⟩, trivial⟩ ?_
        refine gv_pick [1, 0] rfl ?_
        exact ih90 I11 J2 (v1_3 + 1) (by omega) hI11 FI11 FJ2 (by omega)
  refine gv_run 2 true hD (pc' := 2) (lv' := [(0, .inr (.inr (some 1)))]) (st' := [.inl 0, .inr (.inr (some 1))]) (h' := gc_h sh I J A) (C := ((True ∧ True) ∧ True)) rfl ⟨⟨trivial, trivial⟩, trivial⟩ ?_
  refine gv_put hD rfl rfl S_1 ⟨by decide, B_1⟩ rfl (by omega) ?_
  refine gc_st (k := 18) hI S_1 rfl R_1 (lo := 0) (hi := 1) rfl rfl (by omega) (by omega) (fun I13 hI13 q14 p14 => ?_)
  have FI13 := gc_frs (W := fun q j => (q = 1 ∧ j = 18) ∨ q = 21) FI (Or.inl ⟨rfl, rfl⟩) p14
  show gv_X _ _ (5, [(0, .inr (.inr (some 1)))], [], sh, gc_h sh I13 J A)
  refine gv_run 1 true hD (pc' := 6) (lv' := [(0, .inr (.inr (some 1)))]) (st' := [.inr (.inr (some 1))]) (h' := gc_h sh I13 J A) (C := (True ∧ True)) rfl ⟨trivial, trivial⟩ ?_
  refine gv_get hD rfl rfl S_1 ⟨by decide, B_1⟩ (gc_hA S_1 rfl A_1_19) ?_
  show gv_X _ _ (9, [(0, .inr (.inr (some 1)))], [.inr (.inr (some 21))], sh, gc_h sh I13 J A)
  refine gv_run 2 true hD (pc' := 11) (lv' := [(0, .inr (.inr (some 1)))]) (st' := [.inr (.inr (some 1)), .inl 0, .inr (.inr (some 21))]) (h' := gc_h sh I13 J A) (C := ((True ∧ True) ∧ True)) rfl ⟨⟨trivial, trivial⟩, trivial⟩ ?_
  refine gv_get hD rfl rfl S_1 ⟨by decide, B_1⟩ (gc_hA S_1 rfl A_1_0) ?_
  show gv_X _ _ (14, [(0, .inr (.inr (some 1)))], [.inr (.inr (some 2)), .inl 0, .inr (.inr (some 21))], sh, gc_h sh I13 J A)
  have f15 := (show 0 ≤ I13 2 1 ∧ I13 2 1 ≤ 32 from gc_in hI13 R_2 rfl rfl)
  refine gv_get hD rfl rfl S_2 ⟨by decide, B_2⟩ (gc_hI S_2 rfl) ?_
  show gv_X _ _ (17, [(0, .inr (.inr (some 1)))], [.inl (I13 2 1), .inl 0, .inr (.inr (some 21))], sh, gc_h sh I13 J A)
  refine gv_iast hD rfl S_21 ⟨by decide, B_21⟩ ⟨by omega, by omega⟩ ?_
  refine gc_st (k := 0) hI13 S_21 rfl R_21 (lo := (-1)) (hi := 12000) rfl rfl (by omega) (by omega) (fun I16 hI16 q17 p17 => ?_)
  have FI16 := gc_frs (W := fun q j => (q = 1 ∧ j = 18) ∨ q = 21) FI13 (Or.inr rfl) p17
  show gv_X _ _ (18, [(0, .inr (.inr (some 1)))], [], sh, gc_h sh I16 J A)
  refine gv_run 1 true hD (pc' := 19) (lv' := [(0, .inr (.inr (some 1)))]) (st' := [.inr (.inr (some 1))]) (h' := gc_h sh I16 J A) (C := (True ∧ True)) rfl ⟨trivial, trivial⟩ ?_
  refine gv_get hD rfl rfl S_1 ⟨by decide, B_1⟩ (gc_hA S_1 rfl A_1_19) ?_
  show gv_X _ _ (22, [(0, .inr (.inr (some 1)))], [.inr (.inr (some 21))], sh, gc_h sh I16 J A)
  refine gv_run 2 true hD (pc' := 24) (lv' := [(0, .inr (.inr (some 1)))]) (st' := [.inr (.inr (some 1)), .inl 1, .inr (.inr (some 21))]) (h' := gc_h sh I16 J A) (C := ((True ∧ True) ∧ True)) rfl ⟨⟨trivial, trivial⟩, trivial⟩ ?_
  refine gv_get hD rfl rfl S_1 ⟨by decide, B_1⟩ (gc_hA S_1 rfl A_1_1) ?_
  show gv_X _ _ (27, [(0, .inr (.inr (some 1)))], [.inr (.inr (some 4)), .inl 1, .inr (.inr (some 21))], sh, gc_h sh I16 J A)
  have f18 := (show 0 ≤ I16 4 1 ∧ I16 4 1 ≤ 96 from gc_in hI16 R_4 rfl rfl)
  refine gv_get hD rfl rfl S_4 ⟨by decide, B_4⟩ (gc_hI S_4 rfl) ?_
  show gv_X _ _ (30, [(0, .inr (.inr (some 1)))], [.inl (I16 4 1), .inl 1, .inr (.inr (some 21))], sh, gc_h sh I16 J A)
  refine gv_iast hD rfl S_21 ⟨by decide, B_21⟩ ⟨by omega, by omega⟩ ?_
  refine gc_st (k := 1) hI16 S_21 rfl R_21 (lo := (-1)) (hi := 12000) rfl rfl (by omega) (by omega) (fun I19 hI19 q20 p20 => ?_)
  have FI19 := gc_frs (W := fun q j => (q = 1 ∧ j = 18) ∨ q = 21) FI16 (Or.inr rfl) p20
  show gv_X _ _ (31, [(0, .inr (.inr (some 1)))], [], sh, gc_h sh I19 J A)
  refine gv_run 1 true hD (pc' := 32) (lv' := [(0, .inr (.inr (some 1)))]) (st' := [.inr (.inr (some 1))]) (h' := gc_h sh I19 J A) (C := (True ∧ True)) rfl ⟨trivial, trivial⟩ ?_
  refine gv_get hD rfl rfl S_1 ⟨by decide, B_1⟩ (gc_hA S_1 rfl A_1_19) ?_
  show gv_X _ _ (35, [(0, .inr (.inr (some 1)))], [.inr (.inr (some 21))], sh, gc_h sh I19 J A)
  refine gv_run 2 true hD (pc' := 37) (lv' := [(0, .inr (.inr (some 1)))]) (st' := [.inr (.inr (some 1)), .inl 2, .inr (.inr (some 21))]) (h' := gc_h sh I19 J A) (C := ((True ∧ True) ∧ True)) rfl ⟨⟨trivial, trivial⟩, trivial⟩ ?_
  refine gv_get hD rfl rfl S_1 ⟨by decide, B_1⟩ (gc_hA S_1 rfl A_1_2) ?_
  show gv_X _ _ (40, [(0, .inr (.inr (some 1)))], [.inr (.inr (some 6)), .inl 2, .inr (.inr (some 21))], sh, gc_h sh I19 J A)
  have f21 := (show 0 ≤ I19 6 1 ∧ I19 6 1 ≤ 8 from gc_in hI19 R_6 rfl rfl)
  refine gv_get hD rfl rfl S_6 ⟨by decide, B_6⟩ (gc_hI S_6 rfl) ?_
  show gv_X _ _ (43, [(0, .inr (.inr (some 1)))], [.inl (I19 6 1), .inl 2, .inr (.inr (some 21))], sh, gc_h sh I19 J A)
  refine gv_iast hD rfl S_21 ⟨by decide, B_21⟩ ⟨by omega, by omega⟩ ?_
  refine gc_st (k := 2) hI19 S_21 rfl R_21 (lo := (-1)) (hi := 12000) rfl rfl (by omega) (by omega) (fun I22 hI22 q23 p23 => ?_)
  have FI22 := gc_frs (W := fun q j => (q = 1 ∧ j = 18) ∨ q = 21) FI19 (Or.inr rfl) p23
  show gv_X _ _ (44, [(0, .inr (.inr (some 1)))], [], sh, gc_h sh I22 J A)
  refine gv_run 1 true hD (pc' := 45) (lv' := [(0, .inr (.inr (some 1)))]) (st' := [.inr (.inr (some 1))]) (h' := gc_h sh I22 J A) (C := (True ∧ True)) rfl ⟨trivial, trivial⟩ ?_
  refine gv_get hD rfl rfl S_1 ⟨by decide, B_1⟩ (gc_hA S_1 rfl A_1_19) ?_
  show gv_X _ _ (48, [(0, .inr (.inr (some 1)))], [.inr (.inr (some 21))], sh, gc_h sh I22 J A)
  refine gv_run 2 true hD (pc' := 50) (lv' := [(0, .inr (.inr (some 1)))]) (st' := [.inr (.inr (some 1)), .inl 3, .inr (.inr (some 21))]) (h' := gc_h sh I22 J A) (C := ((True ∧ True) ∧ True)) rfl ⟨⟨trivial, trivial⟩, trivial⟩ ?_
  refine gv_get hD rfl rfl S_1 ⟨by decide, B_1⟩ (gc_hA S_1 rfl A_1_3) ?_
  show gv_X _ _ (53, [(0, .inr (.inr (some 1)))], [.inr (.inr (some 8)), .inl 3, .inr (.inr (some 21))], sh, gc_h sh I22 J A)
  have f24 := (show 0 ≤ I22 8 1 ∧ I22 8 1 ≤ 8 from gc_in hI22 R_8 rfl rfl)
  refine gv_get hD rfl rfl S_8 ⟨by decide, B_8⟩ (gc_hI S_8 rfl) ?_
  show gv_X _ _ (56, [(0, .inr (.inr (some 1)))], [.inl (I22 8 1), .inl 3, .inr (.inr (some 21))], sh, gc_h sh I22 J A)
  refine gv_iast hD rfl S_21 ⟨by decide, B_21⟩ ⟨by omega, by omega⟩ ?_
  refine gc_st (k := 3) hI22 S_21 rfl R_21 (lo := (-1)) (hi := 12000) rfl rfl (by omega) (by omega) (fun I25 hI25 q26 p26 => ?_)
  have FI25 := gc_frs (W := fun q j => (q = 1 ∧ j = 18) ∨ q = 21) FI22 (Or.inr rfl) p26
  show gv_X _ _ (57, [(0, .inr (.inr (some 1)))], [], sh, gc_h sh I25 J A)
  refine gv_run 1 true hD (pc' := 58) (lv' := [(0, .inr (.inr (some 1)))]) (st' := [.inr (.inr (some 1))]) (h' := gc_h sh I25 J A) (C := (True ∧ True)) rfl ⟨trivial, trivial⟩ ?_
  refine gv_get hD rfl rfl S_1 ⟨by decide, B_1⟩ (gc_hA S_1 rfl A_1_19) ?_
  show gv_X _ _ (61, [(0, .inr (.inr (some 1)))], [.inr (.inr (some 21))], sh, gc_h sh I25 J A)
  refine gv_run 2 true hD (pc' := 63) (lv' := [(0, .inr (.inr (some 1)))]) (st' := [.inr (.inr (some 1)), .inl 4, .inr (.inr (some 21))]) (h' := gc_h sh I25 J A) (C := ((True ∧ True) ∧ True)) rfl ⟨⟨trivial, trivial⟩, trivial⟩ ?_
  have f27 := (show 0 ≤ I25 1 13 ∧ I25 1 13 ≤ 64 from gc_in hI25 R_1 rfl rfl)
  refine gv_get hD rfl rfl S_1 ⟨by decide, B_1⟩ (gc_hI S_1 rfl) ?_
  show gv_X _ _ (66, [(0, .inr (.inr (some 1)))], [.inl (I25 1 13), .inl 4, .inr (.inr (some 21))], sh, gc_h sh I25 J A)
  refine gv_iast hD rfl S_21 ⟨by decide, B_21⟩ ⟨by omega, by omega⟩ ?_
  refine gc_st (k := 4) hI25 S_21 rfl R_21 (lo := (-1)) (hi := 12000) rfl rfl (by omega) (by omega) (fun I28 hI28 q29 p29 => ?_)
  have FI28 := gc_frs (W := fun q j => (q = 1 ∧ j = 18) ∨ q = 21) FI25 (Or.inr rfl) p29
  show gv_X _ _ (67, [(0, .inr (.inr (some 1)))], [], sh, gc_h sh I28 J A)
  refine gv_run 1 true hD (pc' := 68) (lv' := [(0, .inr (.inr (some 1)))]) (st' := [.inr (.inr (some 1))]) (h' := gc_h sh I28 J A) (C := (True ∧ True)) rfl ⟨trivial, trivial⟩ ?_
  refine gv_get hD rfl rfl S_1 ⟨by decide, B_1⟩ (gc_hA S_1 rfl A_1_19) ?_
  show gv_X _ _ (71, [(0, .inr (.inr (some 1)))], [.inr (.inr (some 21))], sh, gc_h sh I28 J A)
  refine gv_run 2 true hD (pc' := 73) (lv' := [(0, .inr (.inr (some 1)))]) (st' := [.inr (.inr (some 1)), .inl 5, .inr (.inr (some 21))]) (h' := gc_h sh I28 J A) (C := ((True ∧ True) ∧ True)) rfl ⟨⟨trivial, trivial⟩, trivial⟩ ?_
  have f30 := (show 0 ≤ I28 1 17 ∧ I28 1 17 ≤ 12000 from gc_in hI28 R_1 rfl rfl)
  refine gv_get hD rfl rfl S_1 ⟨by decide, B_1⟩ (gc_hI S_1 rfl) ?_
  show gv_X _ _ (76, [(0, .inr (.inr (some 1)))], [.inl (I28 1 17), .inl 5, .inr (.inr (some 21))], sh, gc_h sh I28 J A)
  refine gv_iast hD rfl S_21 ⟨by decide, B_21⟩ ⟨by omega, by omega⟩ ?_
  refine gc_st (k := 5) hI28 S_21 rfl R_21 (lo := (-1)) (hi := 12000) rfl rfl (by omega) (by omega) (fun I31 hI31 q32 p32 => ?_)
  have FI31 := gc_frs (W := fun q j => (q = 1 ∧ j = 18) ∨ q = 21) FI28 (Or.inr rfl) p32
  show gv_X _ _ (77, [(0, .inr (.inr (some 1)))], [], sh, gc_h sh I31 J A)
  refine gv_run 1 true hD (pc' := 78) (lv' := [(0, .inr (.inr (some 1)))]) (st' := [.inr (.inr (some 1))]) (h' := gc_h sh I31 J A) (C := (True ∧ True)) rfl ⟨trivial, trivial⟩ ?_
  refine gv_get hD rfl rfl S_1 ⟨by decide, B_1⟩ (gc_hA S_1 rfl A_1_19) ?_
  show gv_X _ _ (81, [(0, .inr (.inr (some 1)))], [.inr (.inr (some 21))], sh, gc_h sh I31 J A)
  refine gv_run 2 true hD (pc' := 84) (lv' := [(0, .inr (.inr (some 1)))]) (st' := [.inr (.inr (some 1)), .inl 6, .inr (.inr (some 21))]) (h' := gc_h sh I31 J A) (C := ((True ∧ True) ∧ True)) rfl ⟨⟨trivial, trivial⟩, trivial⟩ ?_
  have f33 := (show (-1) ≤ I31 1 5 ∧ I31 1 5 ≤ 7 from gc_in hI31 R_1 rfl rfl)
  refine gv_get hD rfl rfl S_1 ⟨by decide, B_1⟩ (gc_hI S_1 rfl) ?_
  show gv_X _ _ (87, [(0, .inr (.inr (some 1)))], [.inl (I31 1 5), .inl 6, .inr (.inr (some 21))], sh, gc_h sh I31 J A)
  refine gv_iast hD rfl S_21 ⟨by decide, B_21⟩ ⟨by omega, by omega⟩ ?_
  refine gc_st (k := 6) hI31 S_21 rfl R_21 (lo := (-1)) (hi := 12000) rfl rfl (by omega) (by omega) (fun I34 hI34 q35 p35 => ?_)
  have FI34 := gc_frs (W := fun q j => (q = 1 ∧ j = 18) ∨ q = 21) FI31 (Or.inr rfl) p35
  show gv_X _ _ (88, [(0, .inr (.inr (some 1)))], [], sh, gc_h sh I34 J A)
  refine gv_run 2 true hD (pc' := 90) (lv' := [(1, .inl 0), (0, .inr (.inr (some 1)))]) (st' := []) (h' := gc_h sh I34 J A) (C := ((True ∧ True) ∧ True)) rfl ⟨⟨trivial, trivial⟩, trivial⟩ ?_
  refine gv_pick [1, 0] rfl ?_
  exact L90 _ I34 J 0 (Nat.lt_succ_self _) hI34 FI34 FJ (by omega)
