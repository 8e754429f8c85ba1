theorem gc_OE_z {σ : Nat → Int} {ς : Nat → Int → Int} {L hi : Int} {I Iₚ : gr_I} {a : Int} (h : gc_OE σ ς L (a + 1) hi (-1) I) (h0 : 0 ≤ a) (p : ∀ q j, ¬ (q = 76 ∧ j = Int.toNat a) → Iₚ q j = I q j) (hz : Iₚ 76 (Int.toNat a) = 0) : gc_OE σ ς L a hi (-1) Iₚ := fun e h1 h2 h4 h5 => by
  by_cases he : e / 24 = Int.toNat a
  · rw [he, hz] at h5; omega
  · rw [p 76 _ (fun h9 => he h9.2)] at h5
    rw [p 80 _ (fun h9 => absurd h9.1 (by decide)), p 81 _ (fun h9 => absurd h9.1 (by decide))]
    rcases h e h1 (by omega) h4 h5 with h9 | ⟨h8, h9⟩
    · exact Or.inl h9
    · refine Or.inr ⟨h8, fun s a1 b c => ?_⟩
      have h7 := h9 s a1 b c
      rw [p 75 _ (fun h6 => absurd h6.1 (by decide)), p 76 _ (fun h6 => by have h3 := h6.2; have h2' := h7.1.1; omega)]
      exact h7
theorem gc_OE_fr {σ : Nat → Int} {ς : Nat → Int → Int} {L lo hi : Int} {o : Int} {I Iₚ : gr_I} (h : gc_OE σ ς L lo hi o I) (r5 : ∀ k, Iₚ 75 k = I 75 k) (r6 : ∀ k, Iₚ 76 k = I 76 k) (r8 : ∀ k, Iₚ 80 k = I 80 k) (r9 : ∀ k, Iₚ 81 k = I 81 k) : gc_OE σ ς L lo hi o Iₚ := fun e h1 h2 h4 h5 => by
  rw [r6] at h5
  rw [r8, r9]
  exact gc_oe_fr (h e h1 h2 h4 h5) r5 (fun k => by rw [r6]; omega)
theorem gc_LP_fr {σ : Nat → Int} {ς : Nat → Int → Int} {sh : gz_Sh} {ro : Nat → Nat} {A : gc_A} {t : Nat} {I Iₚ : gr_I} (h : gc_LP σ ς A t I) (hL : gc_Ls sh ro A t I) (ht : Iₚ t 13 = I t 13) (hf : ∀ q, gc_isLin sh ro A q → 144 ≤ q → ∀ d k, d ≤ 8 → Iₚ (q + d) k = I (q + d) k) (h12 : ∀ k, Iₚ 12 k = I 12 k) : gc_LP σ ς A t Iₚ := fun i q hi hA => by
  rw [ht] at hi
  obtain ⟨q9, b1, b2, b3, _, _⟩ := hL i hi
  cases b1.symm.trans hA
  have f0 : ∀ k, Iₚ q k = I q k := fun k => hf q b2 b3 0 k (by decide)
  have f4 : ∀ k, Iₚ (q + 4) k = I (q + 4) k := fun k => hf q b2 b3 4 k (by decide)
  have h9 := h i q hi hA
  refine ⟨by rw [f0]; exact h9.1, by rw [f0]; exact h9.2.1, fun s a b => by rw [f4]; exact h9.2.2.1 s a b, fun s a b => ?_⟩
  rw [f4, f0, h12]
  exact h9.2.2.2 s a (by rw [f0] at b; exact b)
theorem gc_wtr_fr {I Iₚ : gr_I} {T : Nat} {n : Int} (h : gc_wtr I T n) (h12 : ∀ k, Iₚ 12 k = I 12 k) (hT : ∀ k, Iₚ T k = I T k) : gc_wtr Iₚ T n := ⟨fun i hi => by rw [gc_op_fr (fun k _ => hT k) h12]; exact h.1 i hi, by rw [gc_op_fr (fun k _ => hT k) h12]; exact h.2⟩
theorem gc_cd_0 {I0 I1 I : gr_I} {T C : Nat} {n v : Int} (h : gc_cd I1 I T C n v) (h12 : ∀ k, I1 12 k = I0 12 k) (hT : ∀ k, I1 T k = I0 T k) : gc_cd I0 I T C n v := fun i k a b c => h i k a b (by rw [h12, hT]; exact c)
