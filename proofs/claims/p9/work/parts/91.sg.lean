theorem gr_GR_w {I I1 Iₚ : gr_I} {t k : Nat} {z : Int} (h : gr_GR I) (ht : t < 8) (p1 : ∀ b j, ¬ (b = 18 ∧ j = t) → I1 b j = I b j) (q1 : I1 18 t = I 18 t + 1) (h0 : 0 ≤ I 18 t) (h63 : I 18 t ≤ 63) (hk : (k : Int) = 64 * (t : Int) + I 18 t) (p : ∀ b j, ¬ (b = 36 ∧ j = k) → Iₚ b j = I1 b j) (q : Iₚ 36 k = z) (hz : 0 ≤ z ∧ z < I 0 3) (h6 : I 6 (Int.toNat z) = 0) : gr_GR Iₚ := by
  have e : ∀ b j, ¬ (b = 18 ∧ j = t) → ¬ (b = 36 ∧ j = k) → Iₚ b j = I b j := fun b j a c => (p b j c).trans (p1 b j a)
  have r : ∀ b j, ¬ b = 18 → ¬ b = 36 → Iₚ b j = I b j := fun b j a c => e b j (fun q => a q.1) (fun q => c q.1)
  refine ⟨fun s i hs hi => ?_, fun s i hs hi => ?_⟩
  · rw [r 19 s (by decide) (by decide)] at hi
    obtain ⟨a, b⟩ := h.1 s i hs hi
    refine ⟨a, fun hc => ?_⟩
    have b9 := b hc
    exact gr_LW_c b9 (r _ _ (by decide) (by decide)) (r _ _ (by decide) (by decide)) (r _ _ (by decide) (by decide)) (fun _ _ => r _ _ (by decide) (by decide)) (fun _ _ => r _ _ (by decide) (by decide)) (fun _ _ => r _ _ (by decide) (by decide)) (by rw [r 0 3 (by decide) (by decide)]; exact b9.1.1) (r _ _ (by decide) (by decide)) (fun _ _ => r _ _ (by decide) (by decide)) (r _ _ (by decide) (by decide))
  · by_cases c : s = t ∧ (i : Int) = I 18 t
    · have ek : 64 * s + i = k := by omega
      refine ⟨by omega, fun _ => ?_⟩
      rw [ek, q, r 0 3 (by decide) (by decide), r 6 _ (by decide) (by decide)]
      exact ⟨by omega, by omega, h6⟩
    · have hi9 : (i : Int) < I 18 s := by
        by_cases c2 : s = t
        · subst c2
          rw [p 18 s (fun q => absurd q.1 (by first | exact gz_ne rfl | decide)), q1] at hi
          omega
        · rw [e 18 s (fun q => c2 q.2) (fun q => absurd q.1 (by first | exact gz_ne rfl | decide))] at hi
          exact hi
      obtain ⟨a, b⟩ := h.2 s i hs hi9
      refine ⟨a, fun hc => ?_⟩
      have b9 := b hc
      have ne : ¬ 64 * s + i = k := by
        intro q
        refine c ⟨by omega, by omega⟩
      rw [e 36 _ (fun q => absurd q.1 (by first | exact gz_ne rfl | decide)) (fun q => ne q.2), r 0 3 (by decide) (by decide), r 6 _ (by decide) (by decide)]
      exact b9
theorem gr_ST_w {I9 I I1 Iₚ : gr_I} {t k : Nat} (h : gr_ST I9 I) (hG : gr_GR I) (ht : t < 8) (p1 : ∀ b j, ¬ (b = 18 ∧ j = t) → I1 b j = I b j) (q1 : I1 18 t = I 18 t + 1) (h0 : 0 ≤ I 18 t) (h63 : I 18 t ≤ 63) (hk : (k : Int) = 64 * (t : Int) + I 18 t) (p : ∀ b j, ¬ (b = 36 ∧ j = k) → Iₚ b j = I1 b j) : gr_ST I9 Iₚ := by
  have e : ∀ b j, ¬ (b = 18 ∧ j = t) → ¬ (b = 36 ∧ j = k) → Iₚ b j = I b j := fun b j a c => (p b j c).trans (p1 b j a)
  have r : ∀ b j, ¬ b = 18 → ¬ b = 36 → Iₚ b j = I b j := fun b j a c => e b j (fun q => a q.1) (fun q => c q.1)
  refine ⟨⟨by rw [r 0 3 (by decide) (by decide)]; exact h.1.1, fun f hf => (r _ _ (by decide) (by decide)).trans (h.1.2 f hf)⟩, fun s hs => ?_⟩
  obtain ⟨⟨a, a2⟩, b, c⟩ := h.2 s hs
  refine ⟨⟨by rw [r 19 s (by decide) (by decide)]; exact a, ?_⟩, fun i hi => (r _ _ (by decide) (by decide)).trans (b i hi), fun i hi => ?_⟩
  · by_cases c2 : s = t
    · subst c2
      rw [p 18 s (fun q => absurd q.1 (by first | exact gz_ne rfl | decide)), q1]
      omega
    · rw [e 18 s (fun q => c2 q.2) (fun q => absurd q.1 (by first | exact gz_ne rfl | decide))]
      exact a2
  · have u := (hG.2 s i hs (by omega)).1
    rw [e 36 _ (fun q => absurd q.1 (by first | exact gz_ne rfl | decide)) (fun q => ?_)]
    · exact c i hi
    · have q2 := q.2
      have z1 : s = t := by omega
      subst z1
      omega
