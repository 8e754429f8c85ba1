def gc_TK (I : gr_I) : Prop := I 23 5 ≤ I 23 6 ∧ (I 23 7 = 5 ∨ I 23 6 ≤ I 23 1) ∧ I 23 5 ≤ I 23 1 ∧ (I 23 7 = 4 ∨ (I 23 5 < I 23 6 ∧ I 23 5 < I 23 1)) ∧ (I 23 7 = 3 → 2 ≤ I 23 6 - I 23 5 ∧ I 23 6 - I 23 5 ≤ 14)
theorem gc_TK_fr {I Iₚ : gr_I} (h : gc_TK I) (h1 : Iₚ 23 1 = I 23 1) (h5 : Iₚ 23 5 = I 23 5) (h6 : Iₚ 23 6 = I 23 6) (h7 : Iₚ 23 7 = I 23 7) : gc_TK Iₚ := by
  unfold gc_TK at h ⊢
  rw [h1, h5, h6, h7]
  exact h
theorem gc_TK_nx {I : gr_I} (h : gc_TK I) (h5 : ¬ I 23 7 = 5) : I 23 6 ≤ I 23 1 := h.2.1.resolve_left h5
theorem gc_TK_mo {I : gr_I} (h : gc_TK I) : I 23 5 ≤ I 23 6 ∧ I 23 5 ≤ I 23 1 := ⟨h.1, h.2.2.1⟩
theorem gc_TK_st {I : gr_I} (h : gc_TK I) (h4 : ¬ I 23 7 = 4) : I 23 5 < I 23 6 ∧ I 23 5 < I 23 1 := h.2.2.2.1.resolve_left h4
theorem gc_TK_l3 {I : gr_I} (h : gc_TK I) (h3 : I 23 7 = 3) : 2 ≤ I 23 6 - I 23 5 ∧ I 23 6 - I 23 5 ≤ 14 := h.2.2.2.2 h3
def gc_LT (I : gr_I) : Prop := I 23 7 = 3 → ∀ k : Int, I 23 5 < k → k < I 23 6 - 1 → 97 ≤ I 24 (Int.toNat k) ∧ I 24 (Int.toNat k) ≤ 122
theorem gc_LT_fr {I Iₚ : gr_I} (h : gc_LT I) (h1 : Iₚ 23 5 = I 23 5) (h2 : Iₚ 23 6 = I 23 6) (h3 : Iₚ 23 7 = I 23 7) (h4 : ∀ k, Iₚ 24 k = I 24 k) : gc_LT Iₚ := fun h9 k a b => by
  rw [h4]
  exact h (by omega) k (by omega) (by omega)
