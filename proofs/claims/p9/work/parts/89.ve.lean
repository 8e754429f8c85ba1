theorem gc_Ls_fr2 {sh : gz_Sh} {ro : Nat → Nat} {A : gc_A} {p : Nat} {I Iₚ : gr_I} (h : gc_Ls sh ro A p I) (e : Iₚ p 13 = I p 13) (hf : ∀ i q : Nat, (i : Int) < I p 13 → A (p + 16) i = some q → 144 ≤ q → ∀ d k, d ≤ 8 → Iₚ (q + d) k = I (q + d) k) : gc_Ls sh ro A p Iₚ := fun i hi => by
  rw [e] at hi
  obtain ⟨q, a, b, c, d, g⟩ := h i hi
  have f := hf i q hi a c
  have f0 : ∀ k, Iₚ q k = I q k := fun k => f 0 k (by decide)
  refine ⟨q, a, b, c, by rw [f0]; exact d, ?_⟩
  unfold gc_lv at g ⊢
  rw [f0, f0, gc_ac_e (g := I (q + 1)) (fun k _ => f 1 k (by decide))]
  exact g
theorem gc_CT_0 {p : Nat} {I : gr_I} (h8 : I p 8 = 0) (h : ∀ j, j < 4 → I (p + 6) j = -1) : gc_CT p I := by
  unfold gc_CT
  rw [h 0 (by decide), h 1 (by decide), h 2 (by decide), h 3 (by decide), h8]
  rfl
theorem gc_LI_1 {q : Nat} {n : Int} {I : gr_I} (h : gc_LI q n I) (hn : n = 1) : (0 ≤ I (q + 1) 0 ∧ I q 8 = 1) ∨ (I (q + 1) 0 < 0 ∧ I q 8 = 0) := by
  have h1 := h.1
  rw [hn] at h1
  have h2 : gc_ac (I (q + 1)) (Int.toNat 1) = 0 + gc_c1 (I (q + 1) 0) := rfl
  rw [h2] at h1
  by_cases e : 0 ≤ I (q + 1) 0
  · have := gc_c1p e; exact Or.inl ⟨e, by omega⟩
  · have := gc_c1n (show I (q + 1) 0 < 0 from by omega); exact Or.inr ⟨by omega, by omega⟩
def gc_UN (q : Nat) (I : gr_I) : Prop := gc_un q (I 11 (Int.toNat (I q 1))) I
theorem gc_UN_fr {q : Nat} {I Iₚ : gr_I} (h : gc_UN q I) (e4 : Iₚ q 4 = I q 4) (e1 : Iₚ q 1 = I q 1) (e0 : Iₚ (q + 1) 0 = I (q + 1) 0) (r11 : ∀ k, Iₚ 11 k = I 11 k) (r13 : ∀ k, Iₚ 13 k = I 13 k) : gc_UN q Iₚ := by
  unfold gc_UN gc_un at h ⊢
  rw [e4, e1, e0, r11, r13]
  exact h
