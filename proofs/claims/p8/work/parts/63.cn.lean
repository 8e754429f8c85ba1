def gc_TK (I : gr_I) : Prop := I 23 5 ≤ I 23 6 ∧ (I 23 7 = 5 ∨ I 23 6 ≤ I 23 1) ∧ I 23 5 ≤ I 23 1 ∧ (I 23 7 = 4 ∨ (I 23 5 < I 23 6 ∧ I 23 5 < I 23 1)) ∧ (I 23 7 = 3 → 2 ≤ I 23 6 - I 23 5 ∧ I 23 6 - I 23 5 ≤ 14)
theorem gc_TK_fr {I I' : gr_I} (h : gc_TK I) (h1 : I' 23 1 = I 23 1) (h5 : I' 23 5 = I 23 5) (h6 : I' 23 6 = I 23 6) (h7 : I' 23 7 = I 23 7) : gc_TK I' := by
  unfold gc_TK at h ⊢
  rw [h1, h5, h6, h7]
  exact h
theorem gc_TK_nx {I : gr_I} (h : gc_TK I) (h5 : ¬ I 23 7 = 5) : I 23 6 ≤ I 23 1 := h.2.1.resolve_left h5
theorem gc_TK_mo {I : gr_I} (h : gc_TK I) : I 23 5 ≤ I 23 6 ∧ I 23 5 ≤ I 23 1 := ⟨h.1, h.2.2.1⟩
theorem gc_TK_st {I : gr_I} (h : gc_TK I) (h4 : ¬ I 23 7 = 4) : I 23 5 < I 23 6 ∧ I 23 5 < I 23 1 := h.2.2.2.1.resolve_left h4
theorem gc_TK_l3 {I : gr_I} (h : gc_TK I) (h3 : I 23 7 = 3) : 2 ≤ I 23 6 - I 23 5 ∧ I 23 6 - I 23 5 ≤ 14 := h.2.2.2.2 h3
def gc_LT (I : gr_I) : Prop := I 23 7 = 3 → ∀ k : Int, I 23 5 < k → k < I 23 6 - 1 → 97 ≤ I 24 (Int.toNat k) ∧ I 24 (Int.toNat k) ≤ 122
set_option maxHeartbeats 8000000 in
theorem gc_LT_fr {I I' : gr_I} (h : gc_LT I) (h1 : I' 23 5 = I 23 5) (h2 : I' 23 6 = I 23 6) (h3 : I' 23 7 = I 23 7) (h4 : ∀ k, I' 24 k = I 24 k) : gc_LT I' := fun h9 k a b => by
  rw [h4]
  exact h (by exact gz_m 0 (by omega)) k (by exact gz_m 1 (by omega)) (by exact gz_m 2 (by omega))
