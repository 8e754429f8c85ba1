def gc_MS (I : gr_I) : Prop := ∀ f : Nat, f < 96 → 0 < I 15 f → (f : Int) < I 4 1 ∧ gc_MT I f
theorem gc_MT_fr {I Iₚ : gr_I} {f : Nat} (h : gc_MT I f) (r12 : ∀ k, Iₚ 12 k = I 12 k) (r15 : Iₚ 15 f = I 15 f) (r16 : ∀ k : Nat, (k : Int) < I 15 f → Iₚ 16 (f * 40 + k) = I 16 (f * 40 + k)) : gc_MT Iₚ f := ⟨by rw [r15]; exact gc_TC_eq h.1 (fun k hk => r16 k (by omega)), fun k hk => by
  rw [r15] at hk
  rw [r12]
  show -3 - I 12 f ≤ Iₚ 16 (f * 40 + k)
  rw [r16 k hk]
  exact h.2 k hk⟩
theorem gc_MS_fr {I Iₚ : gr_I} (h : gc_MS I) (h4 : I 4 1 ≤ Iₚ 4 1) (r12 : ∀ k, Iₚ 12 k = I 12 k) (r15 : ∀ k, Iₚ 15 k = I 15 k) (r16 : ∀ k, Iₚ 16 k = I 16 k) : gc_MS Iₚ := fun f h1 h2 => by
  rw [r15] at h2
  have h9 := h f h1 h2
  exact ⟨by omega, gc_MT_fr h9.2 r12 (r15 f) (fun k _ => r16 _)⟩
def gc_TZ (I : gr_I) : Prop := I 39 12 ≤ 40 → gc_TC (I 43) (I 39 12)
theorem gc_TZ_of {I Iₚ : gr_I} (h : gc_TD I Iₚ) (h0 : I 39 12 = 0) : gc_TZ Iₚ := fun h4 => by
  have h9 := (h h4).2
  rw [show Iₚ 39 12 - I 39 12 = Iₚ 39 12 from by omega] at h9
  refine gc_TC_eq h9 (fun k _ => ?_)
  show Iₚ 43 k = Iₚ 43 (Int.toNat (I 39 12) + k)
  rw [show Int.toNat (I 39 12) + k = k from by omega]
theorem gc_MS_put {I Iₚ : gr_I} {f0 : Nat} {n : Int} {g : Nat → Int} (h : gc_MS I) (h4 : I 4 1 ≤ Iₚ 4 1) (r12 : ∀ k, Iₚ 12 k = I 12 k) (r15 : ∀ k, ¬ k = f0 → Iₚ 15 k = I 15 k) (r16 : ∀ k, ¬ (f0 * 40 ≤ k ∧ k < f0 * 40 + 40) → Iₚ 16 k = I 16 k) (hr : ∀ k, I 15 k ≤ 40) (h15 : Iₚ 15 f0 = n) (hf : (f0 : Int) < Iₚ 4 1) (hc : gc_TC g n) (he : ∀ k : Nat, (k : Int) < n → Iₚ 16 (f0 * 40 + k) = g k) (hb : ∀ k : Nat, (k : Int) < n → -3 - Iₚ 12 f0 ≤ g k) : gc_MS Iₚ := fun f h1 h2 => by
  by_cases e : f = f0
  · subst e
    refine ⟨hf, ?_, fun k hk => ?_⟩
    · rw [h15]
      exact gc_TC_eq hc (fun k hk => he k (by omega))
    · rw [h15] at hk
      show -3 - Iₚ 12 f ≤ Iₚ 16 (f * 40 + k)
      rw [he k hk]
      exact hb k hk
  · rw [r15 f e] at h2
    have h9 := h f h1 h2
    refine ⟨by omega, gc_MT_fr h9.2 r12 (r15 f e) (fun k hk => r16 _ (fun h8 => ?_))⟩
    have := hr f
    omega
