theorem gc_shT {sh : gz_Sh} {ro : Nat → Nat} {A : gc_A} {t : Nat} (h : gc_isTongue sh ro A t) : sh[t]? = some (false, 11, 16) ∧ sh[t + 1]? = some (false, 4, 2) ∧ sh[t + 2]? = some (true, 2, 8) ∧ sh[t + 3]? = some (false, 4, 2) ∧ sh[t + 4]? = some (true, 2, 48) ∧ sh[t + 5]? = some (true, 1, 48) ∧ sh[t + 6]? = some (true, 1, 48) ∧ sh[t + 7]? = some (false, 4, 2) ∧ sh[t + 8]? = some (true, 2, 16) ∧ sh[t + 9]? = some (true, 1, 16) ∧ sh[t + 10]? = some (true, 1, 600) ∧ sh[t + 11]? = some (false, 4, 2) ∧ sh[t + 12]? = some (true, 2, 24) ∧ sh[t + 13]? = some (true, 1, 24) ∧ sh[t + 14]? = some (true, 1, 1728) ∧ sh[t + 15]? = some (true, 1, 704) ∧ sh[t + 16]? = some (true, 4, 384) ∧ sh[t + 17]? = some (false, 2, 10) ∧ sh[t + 18]? = some (true, 0, 36864) ∧ sh[t + 19]? = some (true, 1, 1536) ∧ sh[t + 20]? = some (true, 1, 1536) ∧ sh[t + 21]? = some (true, 1, 512) ∧ sh[t + 22]? = some (true, 1, 1536) ∧ sh[t + 23]? = some (true, 0, 24) ∧ sh[t + 24]? = some (true, 0, 24) := by
  obtain ⟨S_t, R_t, B_t, A_t_0, h_t_1, A_t_1, h_t_3, A_t_2, S_t_5, R_t_5, B_t_5, A_t_3, S_t_6, R_t_6, B_t_6, A_t_4, h_t_7, A_t_5, S_t_9, R_t_9, B_t_9, A_t_7, S_t_10, R_t_10, B_t_10, A_t_8, h_t_11, A_t_9, S_t_13, R_t_13, B_t_13, A_t_10, S_t_14, R_t_14, B_t_14, A_t_12, S_t_15, R_t_15, B_t_15, A_t_14, S_t_16, R_t_16, B_t_16, A_t_15, h_t_17⟩ := id h
  obtain ⟨S_t_1, R_t_1, B_t_1, A_t_1_0, S_t_1_1, R_t_1_1, B_t_1_1, Q0_t_1, Q1_t_1, Q2_t_1⟩ := id h_t_1
  obtain ⟨S_t_3, R_t_3, B_t_3, A_t_3_0, S_t_3_1, R_t_3_1, B_t_3_1, Q0_t_3, Q1_t_3, Q2_t_3⟩ := id h_t_3
  obtain ⟨S_t_7, R_t_7, B_t_7, A_t_7_0, S_t_7_1, R_t_7_1, B_t_7_1, Q0_t_7, Q1_t_7, Q2_t_7⟩ := id h_t_7
  obtain ⟨S_t_11, R_t_11, B_t_11, A_t_11_0, S_t_11_1, R_t_11_1, B_t_11_1, Q0_t_11, Q1_t_11, Q2_t_11⟩ := id h_t_11
  obtain ⟨S_t_17, R_t_17, B_t_17, A_t_17_0, S_20, R_20, B_20, A_t_17_1, S_t_17_1, R_t_17_1, B_t_17_1, A_t_17_2, S_t_17_2, R_t_17_2, B_t_17_2, A_t_17_3, S_t_17_3, R_t_17_3, B_t_17_3, A_t_17_4, S_t_17_4, R_t_17_4, B_t_17_4, A_t_17_5, S_t_17_5, R_t_17_5, B_t_17_5, S_t_17_6, R_t_17_6, B_t_17_6, S_t_17_7, R_t_17_7, B_t_17_7⟩ := id h_t_17
  exact ⟨S_t, S_t_1, S_t_1_1, S_t_3, S_t_3_1, S_t_5, S_t_6, S_t_7, S_t_7_1, S_t_9, S_t_10, S_t_11, S_t_11_1, S_t_13, S_t_14, S_t_15, S_t_16, S_t_17, S_t_17_1, S_t_17_2, S_t_17_3, S_t_17_4, S_t_17_5, S_t_17_6, S_t_17_7⟩
theorem gc_shL {sh : gz_Sh} {ro : Nat → Nat} {A : gc_A} {t : Nat} (h : gc_isLin sh ro A t) : sh[t]? = some (false, 3, 16) ∧ sh[t + 1]? = some (true, 1, 6) ∧ sh[t + 2]? = some (true, 1, 6) ∧ sh[t + 3]? = some (true, 1, 6) ∧ sh[t + 4]? = some (true, 1, 4) ∧ sh[t + 5]? = some (true, 1, 4) ∧ sh[t + 6]? = some (true, 1, 4) ∧ sh[t + 7]? = some (true, 1, 18) ∧ sh[t + 8]? = some (true, 1, 18) := by
  obtain ⟨S_t, R_t, B_t, A_t_5, S_t_1, R_t_1, B_t_1, A_t_6, S_t_2, R_t_2, B_t_2, A_t_7, S_t_3, R_t_3, B_t_3, A_t_9, S_t_4, R_t_4, B_t_4, A_t_10, S_t_5, R_t_5, B_t_5, A_t_11, S_t_6, R_t_6, B_t_6, A_t_13, S_t_7, R_t_7, B_t_7, A_t_15, S_t_8, R_t_8, B_t_8⟩ := id h
  exact ⟨S_t, S_t_1, S_t_2, S_t_3, S_t_4, S_t_5, S_t_6, S_t_7, S_t_8⟩
theorem gc_dj_LT {sh : gz_Sh} {ro : Nat → Nat} {A : gc_A} {a b : Nat} (ha : gc_isLin sh ro A a) (hb : gc_isTongue sh ro A b) : a + 9 ≤ b ∨ b + 25 ≤ a := by
  obtain ⟨X0, X1, X2, X3, X4, X5, X6, X7, X8⟩ := gc_shL ha
  obtain ⟨Y0, Y1, Y2, Y3, Y4, Y5, Y6, Y7, Y8, Y9, Y10, Y11, Y12, Y13, Y14, Y15, Y16, Y17, Y18, Y19, Y20, Y21, Y22, Y23, Y24⟩ := gc_shT hb
  refine Classical.byContradiction fun hn => ?_
  rcases (show b = a + 8 ∨ b = a + 7 ∨ b = a + 6 ∨ b = a + 5 ∨ b = a + 4 ∨ b = a + 3 ∨ b = a + 2 ∨ b = a + 1 ∨ a = b + 0 ∨ a = b + 1 ∨ a = b + 2 ∨ a = b + 3 ∨ a = b + 4 ∨ a = b + 5 ∨ a = b + 6 ∨ a = b + 7 ∨ a = b + 8 ∨ a = b + 9 ∨ a = b + 10 ∨ a = b + 11 ∨ a = b + 12 ∨ a = b + 13 ∨ a = b + 14 ∨ a = b + 15 ∨ a = b + 16 ∨ a = b + 17 ∨ a = b + 18 ∨ a = b + 19 ∨ a = b + 20 ∨ a = b + 21 ∨ a = b + 22 ∨ a = b + 23 ∨ a = b + 24 from by omega) with h9 | h9 | h9 | h9 | h9 | h9 | h9 | h9 | h9 | h9 | h9 | h9 | h9 | h9 | h9 | h9 | h9 | h9 | h9 | h9 | h9 | h9 | h9 | h9 | h9 | h9 | h9 | h9 | h9 | h9 | h9 | h9 | h9
  · rw [h9] at Y0; cases Y0.symm.trans X8
  · rw [h9] at Y0; cases Y0.symm.trans X7
  · rw [h9] at Y0; cases Y0.symm.trans X6
  · rw [h9] at Y0; cases Y0.symm.trans X5
  · rw [h9] at Y0; cases Y0.symm.trans X4
  · rw [h9] at Y0; cases Y0.symm.trans X3
  · rw [h9] at Y0; cases Y0.symm.trans X2
  · rw [h9] at Y0; cases Y0.symm.trans X1
  · rw [h9] at X0; cases X0.symm.trans Y0
  · rw [h9] at X0; cases X0.symm.trans Y1
  · rw [h9] at X0; cases X0.symm.trans Y2
  · rw [h9] at X0; cases X0.symm.trans Y3
  · rw [h9] at X0; cases X0.symm.trans Y4
  · rw [h9] at X0; cases X0.symm.trans Y5
  · rw [h9] at X0; cases X0.symm.trans Y6
  · rw [h9] at X0; cases X0.symm.trans Y7
  · rw [h9] at X0; cases X0.symm.trans Y8
  · rw [h9] at X0; cases X0.symm.trans Y9
  · rw [h9] at X0; cases X0.symm.trans Y10
  · rw [h9] at X0; cases X0.symm.trans Y11
  · rw [h9] at X0; cases X0.symm.trans Y12
  · rw [h9] at X0; cases X0.symm.trans Y13
  · rw [h9] at X0; cases X0.symm.trans Y14
  · rw [h9] at X0; cases X0.symm.trans Y15
  · rw [h9] at X0; cases X0.symm.trans Y16
  · rw [h9] at X0; cases X0.symm.trans Y17
  · rw [h9] at X0; cases X0.symm.trans Y18
  · rw [h9] at X0; cases X0.symm.trans Y19
  · rw [h9] at X0; cases X0.symm.trans Y20
  · rw [h9] at X0; cases X0.symm.trans Y21
  · rw [h9] at X0; cases X0.symm.trans Y22
  · rw [h9] at X0; cases X0.symm.trans Y23
  · rw [h9] at X0; cases X0.symm.trans Y24
theorem gc_dj_TT {sh : gz_Sh} {ro : Nat → Nat} {A : gc_A} {a b : Nat} (ha : gc_isTongue sh ro A a) (hb : gc_isTongue sh ro A b) : a = b ∨ a + 25 ≤ b ∨ b + 25 ≤ a := by
  obtain ⟨X0, X1, X2, X3, X4, X5, X6, X7, X8, X9, X10, X11, X12, X13, X14, X15, X16, X17, X18, X19, X20, X21, X22, X23, X24⟩ := gc_shT ha
  obtain ⟨Y0, Y1, Y2, Y3, Y4, Y5, Y6, Y7, Y8, Y9, Y10, Y11, Y12, Y13, Y14, Y15, Y16, Y17, Y18, Y19, Y20, Y21, Y22, Y23, Y24⟩ := gc_shT hb
  refine Classical.byContradiction fun hn => ?_
  rcases (show b = a + 24 ∨ b = a + 23 ∨ b = a + 22 ∨ b = a + 21 ∨ b = a + 20 ∨ b = a + 19 ∨ b = a + 18 ∨ b = a + 17 ∨ b = a + 16 ∨ b = a + 15 ∨ b = a + 14 ∨ b = a + 13 ∨ b = a + 12 ∨ b = a + 11 ∨ b = a + 10 ∨ b = a + 9 ∨ b = a + 8 ∨ b = a + 7 ∨ b = a + 6 ∨ b = a + 5 ∨ b = a + 4 ∨ b = a + 3 ∨ b = a + 2 ∨ b = a + 1 ∨ a = b + 1 ∨ a = b + 2 ∨ a = b + 3 ∨ a = b + 4 ∨ a = b + 5 ∨ a = b + 6 ∨ a = b + 7 ∨ a = b + 8 ∨ a = b + 9 ∨ a = b + 10 ∨ a = b + 11 ∨ a = b + 12 ∨ a = b + 13 ∨ a = b + 14 ∨ a = b + 15 ∨ a = b + 16 ∨ a = b + 17 ∨ a = b + 18 ∨ a = b + 19 ∨ a = b + 20 ∨ a = b + 21 ∨ a = b + 22 ∨ a = b + 23 ∨ a = b + 24 from by omega) with h9 | h9 | h9 | h9 | h9 | h9 | h9 | h9 | h9 | h9 | h9 | h9 | h9 | h9 | h9 | h9 | h9 | h9 | h9 | h9 | h9 | h9 | h9 | h9 | h9 | h9 | h9 | h9 | h9 | h9 | h9 | h9 | h9 | h9 | h9 | h9 | h9 | h9 | h9 | h9 | h9 | h9 | h9 | h9 | h9 | h9 | h9 | h9
  · rw [h9] at Y0; cases Y0.symm.trans X24
  · rw [h9] at Y0; cases Y0.symm.trans X23
  · rw [h9] at Y0; cases Y0.symm.trans X22
  · rw [h9] at Y0; cases Y0.symm.trans X21
  · rw [h9] at Y0; cases Y0.symm.trans X20
  · rw [h9] at Y0; cases Y0.symm.trans X19
  · rw [h9] at Y0; cases Y0.symm.trans X18
  · rw [h9] at Y0; cases Y0.symm.trans X17
  · rw [h9] at Y0; cases Y0.symm.trans X16
  · rw [h9] at Y0; cases Y0.symm.trans X15
  · rw [h9] at Y0; cases Y0.symm.trans X14
  · rw [h9] at Y0; cases Y0.symm.trans X13
  · rw [h9] at Y0; cases Y0.symm.trans X12
  · rw [h9] at Y0; cases Y0.symm.trans X11
  · rw [h9] at Y0; cases Y0.symm.trans X10
  · rw [h9] at Y0; cases Y0.symm.trans X9
  · rw [h9] at Y0; cases Y0.symm.trans X8
  · rw [h9] at Y0; cases Y0.symm.trans X7
  · rw [h9] at Y0; cases Y0.symm.trans X6
  · rw [h9] at Y0; cases Y0.symm.trans X5
  · rw [h9] at Y0; cases Y0.symm.trans X4
  · rw [h9] at Y0; cases Y0.symm.trans X3
  · rw [h9] at Y0; cases Y0.symm.trans X2
  · rw [h9] at Y0; cases Y0.symm.trans X1
  · rw [h9] at X0; cases X0.symm.trans Y1
  · rw [h9] at X0; cases X0.symm.trans Y2
  · rw [h9] at X0; cases X0.symm.trans Y3
  · rw [h9] at X0; cases X0.symm.trans Y4
  · rw [h9] at X0; cases X0.symm.trans Y5
  · rw [h9] at X0; cases X0.symm.trans Y6
  · rw [h9] at X0; cases X0.symm.trans Y7
  · rw [h9] at X0; cases X0.symm.trans Y8
  · rw [h9] at X0; cases X0.symm.trans Y9
  · rw [h9] at X0; cases X0.symm.trans Y10
  · rw [h9] at X0; cases X0.symm.trans Y11
  · rw [h9] at X0; cases X0.symm.trans Y12
  · rw [h9] at X0; cases X0.symm.trans Y13
  · rw [h9] at X0; cases X0.symm.trans Y14
  · rw [h9] at X0; cases X0.symm.trans Y15
  · rw [h9] at X0; cases X0.symm.trans Y16
  · rw [h9] at X0; cases X0.symm.trans Y17
  · rw [h9] at X0; cases X0.symm.trans Y18
  · rw [h9] at X0; cases X0.symm.trans Y19
  · rw [h9] at X0; cases X0.symm.trans Y20
  · rw [h9] at X0; cases X0.symm.trans Y21
  · rw [h9] at X0; cases X0.symm.trans Y22
  · rw [h9] at X0; cases X0.symm.trans Y23
  · rw [h9] at X0; cases X0.symm.trans Y24
def gc_c1 (z : Int) : Int := if 0 ≤ z then 1 else 0
theorem gc_c1p {z : Int} (h : 0 ≤ z) : gc_c1 z = 1 := if_pos h
theorem gc_c1n {z : Int} (h : z < 0) : gc_c1 z = 0 := if_neg (by omega)
theorem gc_c1r (z : Int) : 0 ≤ gc_c1 z ∧ gc_c1 z ≤ 1 := by
  unfold gc_c1
  split <;> omega
def gc_ac (f : Nat → Int) : Nat → Int
  | 0 => 0
  | n + 1 => gc_ac f n + gc_c1 (f n)
theorem gc_ac_nx1 {f : Nat → Int} {n : Nat} (h : 0 ≤ f n) : gc_ac f (n + 1) = gc_ac f n + 1 := by
  show gc_ac f n + gc_c1 (f n) = _
  rw [gc_c1p h]
theorem gc_ac_nx0 {f : Nat → Int} {n : Nat} (h : f n < 0) : gc_ac f (n + 1) = gc_ac f n := by
  show gc_ac f n + gc_c1 (f n) = _
  rw [gc_c1n h, Int.add_zero]
set_option maxHeartbeats 8000000 in
theorem gc_ac_mono {f : Nat → Int} {n : Nat} : ∀ {m : Nat}, n ≤ m → gc_ac f n ≤ gc_ac f m
  | 0, h => by rw [show n = 0 from by exact gz_m 0 (by omega)]; exact Int.le_refl _
  | m + 1, h => by
    by_cases e : n = m + 1
    · rw [e]; exact Int.le_refl _
    · have h1 := gc_ac_mono (f := f) (n := n) (m := m) (by exact gz_m 1 (by omega))
      have h2 := gc_c1r (f m)
      show _ ≤ gc_ac f m + gc_c1 (f m)
      exact gz_m 2 (by omega)
theorem gc_ac_lt {f : Nat → Int} {n m : Nat} (h : n < m) (hz : 0 ≤ f n) : gc_ac f n + 1 ≤ gc_ac f m := by
  rw [← gc_ac_nx1 hz]
  exact gc_ac_mono h
theorem gc_ac_eq {f g : Nat → Int} : ∀ {n : Nat}, (∀ k, k < n → f k = g k) → gc_ac f n = gc_ac g n
  | 0, _ => rfl
  | n + 1, h => by
    show gc_ac f n + gc_c1 (f n) = gc_ac g n + gc_c1 (g n)
    rw [gc_ac_eq (n := n) (fun k hk => h k (by omega)), h n (by omega)]
def gc_lv (q : Nat) (I : gr_I) : Prop := I q 8 = gc_ac (I (q + 1)) (Int.toNat (I q 4))
theorem gc_lv_fr {q : Nat} {I Iₚ : gr_I} (h : gc_lv q I) (h8 : Iₚ q 8 = I q 8) (h4 : Iₚ q 4 = I q 4) (hf : ∀ k, Iₚ (q + 1) k = I (q + 1) k) : gc_lv q Iₚ := by
  unfold gc_lv at h ⊢
  rw [h8, h4, gc_ac_eq (g := I (q + 1)) (fun k _ => hf k)]
  exact h
def gc_Ls (sh : gz_Sh) (ro : Nat → Nat) (A : gc_A) (p : Nat) (I : gr_I) : Prop := ∀ i : Nat, (i : Int) < I p 13 → ∃ q, A (p + 16) i = some q ∧ gc_isLin sh ro A q ∧ 144 ≤ q ∧ I q 0 = (i : Int) ∧ gc_lv q I
theorem gc_Ls_fr {sh : gz_Sh} {ro : Nat → Nat} {A : gc_A} {p : Nat} {I Iₚ : gr_I} (h : gc_Ls sh ro A p I) (e : Iₚ p 13 = I p 13) (hf : ∀ q, gc_isLin sh ro A q → 144 ≤ q → ∀ d k, d ≤ 8 → Iₚ (q + d) k = I (q + d) k) : gc_Ls sh ro A p Iₚ := fun i hi => by
  obtain ⟨q, h1, h2, h3, h4, h5⟩ := h i (by omega)
  refine ⟨q, h1, h2, h3, ?_, gc_lv_fr h5 (hf q h2 h3 0 8 (by omega)) (hf q h2 h3 0 4 (by omega)) (fun k => hf q h2 h3 1 k (by omega))⟩
  rw [← h4]
  exact hf q h2 h3 0 0 (by omega)
def gc_Ts (sh : gz_Sh) (ro : Nat → Nat) (A : gc_A) (I : gr_I) : Prop := ∀ i : Nat, (i : Int) < I 8 1 → ∃ q, A 10 i = some q ∧ gc_isTongue sh ro A q ∧ 144 ≤ q
theorem gc_Ts_fr {sh : gz_Sh} {ro : Nat → Nat} {A : gc_A} {I Iₚ : gr_I} (h : gc_Ts sh ro A I) (e : Iₚ 8 1 = I 8 1) : gc_Ts sh ro A Iₚ := fun i hi => h i (by omega)
