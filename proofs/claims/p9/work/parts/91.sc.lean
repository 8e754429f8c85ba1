/-! READING A LINEARIZATION: its items and what is said of them. -/
def gr_b1 (z : Int) : Int := if 0 ≤ z then 1 else 0
def gr_s4 (g : Nat → Int) : Int := gr_b1 (g 0) + gr_b1 (g 1) + gr_b1 (g 2) + gr_b1 (g 3)
theorem gr_b1_1 {z : Int} (h : 0 ≤ z) : gr_b1 z = 1 := if_pos h
theorem gr_b1_0 {z : Int} (h : ¬ 0 ≤ z) : gr_b1 z = 0 := if_neg h
def gr_AT (f m : Int) (I : gr_I) : Prop := gr_ng (I 68) 0 (Int.toNat m) = gr_s4 (I 74) ∧ ∀ a : Nat, a < 4 → 0 ≤ I 74 a → (a : Int) < I 6 (Int.toNat f) ∧ ∃ k : Nat, (k : Int) < m ∧ I 68 k = -1 - (a : Int)
theorem gr_AT_fr {f m : Int} {I Iₚ : gr_I} (h : gr_AT f m I) (h1 : ∀ k, Iₚ 68 k = I 68 k) (h2 : ∀ k, Iₚ 74 k = I 74 k) (h3 : ∀ k, Iₚ 6 k = I 6 k) : gr_AT f m Iₚ := by
  have e1 : Iₚ 68 = I 68 := funext h1
  have e2 : Iₚ 74 = I 74 := funext h2
  have e3 : Iₚ 6 = I 6 := funext h3
  unfold gr_AT
  rw [e1, e2, e3]
  exact h
theorem gr_AT_t {f m : Int} {I Iₚ : gr_I} (h : gr_AT f m I) (hm : 0 ≤ m) (h1 : ∀ k, ¬ k = Int.toNat m → Iₚ 68 k = I 68 k) (h0 : 0 ≤ Iₚ 68 (Int.toNat m)) (h2 : ∀ k, Iₚ 74 k = I 74 k) (h3 : ∀ k, Iₚ 6 k = I 6 k) : gr_AT f (m + 1) Iₚ := by
  have e2 : Iₚ 74 = I 74 := funext h2
  have e4 : Int.toNat (m + 1) = Int.toNat m + 1 := by omega
  refine ⟨?_, fun a ha hb => ?_⟩
  · rw [e2, e4, gr_ng_n (by rw [Nat.zero_add]; omega), ← h.1]
    exact gr_ng_c _ (fun j hj => by rw [Nat.zero_add]; exact h1 j (by omega))
  · rw [h2] at hb
    obtain ⟨z, k, k1, k2⟩ := h.2 a ha hb
    exact ⟨by rw [h3]; exact z, k, by omega, by rw [h1 k (by omega)]; exact k2⟩
theorem gr_AT_a {f m : Int} {b : Nat} {I Iₚ : gr_I} (h : gr_AT f m I) (hm : 0 ≤ m) (hb : b < 4) (hbf : (b : Int) < I 6 (Int.toNat f)) (h0 : I 74 b < 0) (h1 : ∀ k, ¬ k = Int.toNat m → Iₚ 68 k = I 68 k) (h4 : Iₚ 68 (Int.toNat m) = -1 - (b : Int)) (h2 : ∀ k, ¬ k = b → Iₚ 74 k = I 74 k) (h5 : 0 ≤ Iₚ 74 b) (h3 : ∀ k, Iₚ 6 k = I 6 k) : gr_AT f (m + 1) Iₚ := by
  have e4 : Int.toNat (m + 1) = Int.toNat m + 1 := by omega
  refine ⟨?_, fun a ha hc => ?_⟩
  · rw [e4, gr_ng_s (by rw [Nat.zero_add]; omega), gr_ng_c (g := I 68) (o := 0) _ (fun j hj => by rw [Nat.zero_add]; exact h1 j (by omega)), h.1]
    have z1 := gr_b1_1 h5
    have z0 := gr_b1_0 (z := I 74 b) (by omega)
    have hc : b = 0 ∨ b = 1 ∨ b = 2 ∨ b = 3 := by omega
    unfold gr_s4
    rcases hc with e | e | e | e <;> subst e
    · rw [h2 1 (by decide), h2 2 (by decide), h2 3 (by decide)]; omega
    · rw [h2 0 (by decide), h2 2 (by decide), h2 3 (by decide)]; omega
    · rw [h2 0 (by decide), h2 1 (by decide), h2 3 (by decide)]; omega
    · rw [h2 0 (by decide), h2 1 (by decide), h2 2 (by decide)]; omega
  · by_cases e : a = b
    · subst e
      exact ⟨by rw [h3]; exact hbf, Int.toNat m, by omega, h4⟩
    · rw [h2 a e] at hc
      obtain ⟨z, k, k1, k2⟩ := h.2 a ha hc
      exact ⟨by rw [h3]; exact z, k, by omega, by rw [h1 k (by omega)]; exact k2⟩
def gr_SE (I : gr_I) : Prop := ∀ k : Nat, (k : Int) < I 0 119 → I 70 k = 2 ∨ I 71 k ≤ 3
theorem gr_SE_fr {I Iₚ : gr_I} (h : gr_SE I) (h1 : ∀ k, Iₚ 70 k = I 70 k) (h2 : ∀ k, Iₚ 71 k = I 71 k) (h3 : Iₚ 0 119 = I 0 119) : gr_SE Iₚ := fun k hk => by
  rw [h1, h2]
  exact h k (by omega)
theorem gr_SE_o {I Iₚ : gr_I} (h : gr_SE I) (h1 : ∀ k : Nat, (k : Int) < I 0 119 → Iₚ 70 k = I 70 k) (h2 : ∀ k : Nat, (k : Int) < I 0 119 → Iₚ 71 k = I 71 k) (h3 : Iₚ 0 119 = I 0 119) : gr_SE Iₚ := fun k hk => by
  rw [h1 k (by omega), h2 k (by omega)]
  exact h k (by omega)
theorem gr_SE_n {I Iₚ : gr_I} (h : gr_SE I) (h1 : ∀ k, Iₚ 70 k = I 70 k) (h2 : ∀ k, Iₚ 71 k = I 71 k) (h3 : Iₚ 0 119 = I 0 119 + 1) (h4 : I 70 (Int.toNat (I 0 119)) = 2 ∨ I 71 (Int.toNat (I 0 119)) ≤ 3) : gr_SE Iₚ := fun k hk => by
  rw [h1, h2]
  by_cases e : (k : Int) < I 0 119
  · exact h k e
  · have e9 : k = Int.toNat (I 0 119) := by omega
    subst e9
    exact h4
/-- R1: what holds while items and sayings are read; L1: the rule of a sole argument; LI: all that was read -/
def gr_R1 (f : Int) (I : gr_I) : Prop := gr_AT f (I 0 118) I ∧ gr_SE I
theorem gr_R1_fr {f : Int} {I Iₚ : gr_I} (h : gr_R1 f I) (h1 : ∀ k, Iₚ 68 k = I 68 k) (h2 : ∀ k, Iₚ 74 k = I 74 k) (h3 : ∀ k, Iₚ 6 k = I 6 k) (h4 : ∀ k, Iₚ 70 k = I 70 k) (h5 : ∀ k, Iₚ 71 k = I 71 k) (h6 : Iₚ 0 118 = I 0 118) (h7 : Iₚ 0 119 = I 0 119) : gr_R1 f Iₚ := ⟨by rw [h6]; exact gr_AT_fr h.1 h1 h2 h3, gr_SE_fr h.2 h4 h5 h7⟩
def gr_A1 (k : Int) (I : gr_I) : Prop := ∀ j : Nat, (j : Int) < k → I 74 j < 0
theorem gr_R1_0 {f : Int} {I : gr_I} (h : gr_A1 4 I) (h1 : I 0 118 = 0) (h2 : I 0 119 = 0) : gr_R1 f I := by
  refine ⟨?_, fun k hk => by omega⟩
  rw [h1]
  refine ⟨?_, fun a ha hb => ?_⟩
  · show (0 : Int) = gr_s4 (I 74)
    unfold gr_s4
    rw [gr_b1_0 (by have := h 0 (by omega); omega), gr_b1_0 (by have := h 1 (by omega); omega), gr_b1_0 (by have := h 2 (by omega); omega), gr_b1_0 (by have := h 3 (by omega); omega)]
    rfl
  · have := h a (by omega)
    omega
def gr_L1 (f : Int) (I : gr_I) : Prop := I 0 118 = 1 → I 68 0 < 0 → I 7 (Int.toNat (4 * f - 1 - I 68 0)) < I 8 (Int.toNat f)
def gr_LI (f : Int) (I : gr_I) : Prop := (∀ a : Nat, (a : Int) < I 6 (Int.toNat f) → ∃ k : Nat, (k : Int) < I 0 118 ∧ I 68 k = -1 - (a : Int)) ∧ gr_ng (I 68) 0 (Int.toNat (I 0 118)) = I 6 (Int.toNat f) ∧ gr_L1 f I ∧ gr_SE I
def gr_R3 (f k : Int) (I : gr_I) : Prop := gr_R1 f I ∧ gr_L1 f I ∧ ∀ j : Nat, (j : Int) < k → 0 ≤ I 74 j
theorem gr_LI_of {f k : Int} {I : gr_I} (h : gr_R3 f k I) (hk : I 6 (Int.toNat f) ≤ k) (h0 : 0 ≤ I 6 (Int.toNat f)) (h4 : I 6 (Int.toNat f) ≤ 4) : gr_LI f I := by
  obtain ⟨⟨a1, a2⟩, a3, a4⟩ := h
  refine ⟨fun a ha => ?_, ?_, a3, a2⟩
  · exact (a1.2 a (by omega) (a4 a (by omega))).2
  · rw [a1.1]
    have u : ∀ j : Nat, j < 4 → gr_b1 (I 74 j) = if (j : Int) < I 6 (Int.toNat f) then 1 else 0 := fun j hj => by
      by_cases e : (j : Int) < I 6 (Int.toNat f)
      · rw [if_pos e]
        exact gr_b1_1 (a4 j (by omega))
      · rw [if_neg e]
        refine gr_b1_0 (fun q => ?_)
        have := (a1.2 j hj q).1
        omega
    unfold gr_s4
    rw [u 0 (by omega), u 1 (by omega), u 2 (by omega), u 3 (by omega)]
    generalize I 6 (Int.toNat f) = z at *
    have hz : z = 0 ∨ z = 1 ∨ z = 2 ∨ z = 3 ∨ z = 4 := by omega
    rcases hz with e | e | e | e | e <;> subst e <;> decide
theorem gr_LI_fr {f : Int} {I Iₚ : gr_I} (h : gr_LI f I) (h1 : ∀ k, Iₚ 68 k = I 68 k) (h3 : ∀ k, Iₚ 6 k = I 6 k) (h4 : ∀ k, Iₚ 70 k = I 70 k) (h5 : ∀ k, Iₚ 71 k = I 71 k) (h8 : ∀ k, Iₚ 7 k = I 7 k) (h9 : ∀ k, Iₚ 8 k = I 8 k) (h6 : Iₚ 0 118 = I 0 118) (h7 : Iₚ 0 119 = I 0 119) : gr_LI f Iₚ := by
  have e1 : Iₚ 68 = I 68 := funext h1
  obtain ⟨a, b, c, d⟩ := h
  refine ⟨fun q hq => ?_, by rw [e1, h6, h3]; exact b, ?_, gr_SE_fr d h4 h5 h7⟩
  · rw [h3] at hq
    obtain ⟨k, k1, k2⟩ := a q hq
    exact ⟨k, by rw [h6]; exact k1, by rw [h1]; exact k2⟩
  · unfold gr_L1
    rw [h6, h1, h8, h9]
    exact c
theorem gr_R3_nx {f k : Int} {I : gr_I} (h : gr_R3 f k I) (h0 : 0 ≤ k) (hk : 0 ≤ I 74 (Int.toNat k)) : gr_R3 f (k + 1) I := ⟨h.1, h.2.1, fun j hj => by
  by_cases e : (j : Int) < k
  · exact h.2.2 j e
  · have e9 : j = Int.toNat k := by omega
    subst e9
    exact hk⟩
