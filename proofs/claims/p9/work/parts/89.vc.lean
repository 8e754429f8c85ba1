def gc_LI (q : Nat) (n : Int) (I : gr_I) : Prop := I q 8 = gc_ac (I (q + 1)) (Int.toNat n) ∧ (∀ k : Nat, (k : Int) < n → I (q + 1) k < I 12 (Int.toNat (I q 1))) ∧ (∀ s : Nat, (s : Int) < I q 8 → 0 ≤ I (q + 4) s ∧ I (q + 4) s < I 12 (Int.toNat (I q 1))) ∧ (∀ a : Nat, a < 4 → 0 ≤ I (q + 6) a → (a : Int) < I 12 (Int.toNat (I q 1)) ∧ I (q + 6) a < I q 8 ∧ I (q + 4) (Int.toNat (I (q + 6) a)) = (a : Int))
def gc_LE (r : Int) (q : Nat) (n : Int) (I : gr_I) : Prop := r = 0 ∨ gc_LI q n I
theorem gc_ac_e {f g : Nat → Int} : ∀ {n : Nat}, (∀ k, k < n → f k = g k) → gc_ac f n = gc_ac g n
  | 0, _ => rfl
  | n + 1, h => by
    show gc_ac f n + gc_c1 (f n) = gc_ac g n + gc_c1 (g n)
    rw [gc_ac_e (n := n) (fun k hk => h k (by omega)), h n (by omega)]
theorem gc_LI_fr {q : Nat} {n : Int} {I Iₚ : gr_I} (h : gc_LI q n I) (e1 : Iₚ q 1 = I q 1) (e8 : Iₚ q 8 = I q 8) (r1 : ∀ k, Iₚ (q + 1) k = I (q + 1) k) (r4 : ∀ k, Iₚ (q + 4) k = I (q + 4) k) (r6 : ∀ k, Iₚ (q + 6) k = I (q + 6) k) (r12 : ∀ k, Iₚ 12 k = I 12 k) : gc_LI q n Iₚ := by
  obtain ⟨a, b, c, d⟩ := h
  refine ⟨?_, fun k hk => ?_, fun s hs => ?_, fun x h1 h2 => ?_⟩
  · rw [e8, gc_ac_e (g := I (q + 1)) (fun k _ => r1 k)]; exact a
  · rw [r1, e1, r12]; exact b k hk
  · rw [r4, e1, r12]; exact c s (by omega)
  · rw [r6] at h2
    rw [r6, r4, e1, e8, r12]; exact d x h1 h2
theorem gc_LI_arg {q : Nat} {n a : Int} {I Iₚ : gr_I} (h : gc_LI q n I) (hn : 0 ≤ n) (ha : 0 ≤ a ∧ a < I 12 (Int.toNat (I q 1))) (hs : 0 ≤ I q 8) (e1 : Iₚ q 1 = I q 1) (e8 : Iₚ q 8 = I q 8 + 1) (w1 : Iₚ (q + 1) (Int.toNat n) = a) (r1 : ∀ k, ¬ k = Int.toNat n → Iₚ (q + 1) k = I (q + 1) k) (w6 : Iₚ (q + 6) (Int.toNat a) = I q 8) (r6 : ∀ k, ¬ k = Int.toNat a → Iₚ (q + 6) k = I (q + 6) k) (w4 : Iₚ (q + 4) (Int.toNat (I q 8)) = a) (r4 : ∀ k, ¬ k = Int.toNat (I q 8) → Iₚ (q + 4) k = I (q + 4) k) (r12 : ∀ k, Iₚ 12 k = I 12 k) : gc_LI q (n + 1) Iₚ := by
  obtain ⟨A, B, C, D⟩ := h
  refine ⟨?_, fun k hk => ?_, fun s h9 => ?_, fun x h1 h2 => ?_⟩
  · rw [show Int.toNat (n + 1) = Int.toNat n + 1 from by omega]
    show Iₚ q 8 = gc_ac (Iₚ (q + 1)) (Int.toNat n) + gc_c1 (Iₚ (q + 1) (Int.toNat n))
    rw [gc_ac_e (g := I (q + 1)) (fun k hk => r1 k (by omega)), w1, gc_c1p ha.1, ← A, e8]
  · rw [e1, r12]
    by_cases e : k = Int.toNat n
    · rw [e, w1]; exact ha.2
    · rw [r1 k e]; exact B k (by omega)
  · rw [e1, r12]
    by_cases e : s = Int.toNat (I q 8)
    · rw [e, w4]; exact ha
    · rw [r4 s e]; exact C s (by omega)
  · rw [e1, r12]
    by_cases e : x = Int.toNat a
    · rw [e, w6, w4]
      exact ⟨by omega, by omega, by omega⟩
    · rw [r6 x e] at h2 ⊢
      obtain ⟨d1, d2, d3⟩ := D x h1 h2
      refine ⟨d1, by omega, ?_⟩
      rw [r4 _ (by omega)]
      exact d3
theorem gc_LI_txt {q : Nat} {n : Int} {I Iₚ : gr_I} (h : gc_LI q n I) (hn : 0 ≤ n) (ha : 0 ≤ I 12 (Int.toNat (I q 1))) (e1 : Iₚ q 1 = I q 1) (e8 : Iₚ q 8 = I q 8) (w1 : Iₚ (q + 1) (Int.toNat n) = -1) (r1 : ∀ k, ¬ k = Int.toNat n → Iₚ (q + 1) k = I (q + 1) k) (r4 : ∀ k, Iₚ (q + 4) k = I (q + 4) k) (r6 : ∀ k, Iₚ (q + 6) k = I (q + 6) k) (r12 : ∀ k, Iₚ 12 k = I 12 k) : gc_LI q (n + 1) Iₚ := by
  obtain ⟨A, B, C, D⟩ := h
  refine ⟨?_, fun k hk => ?_, fun s h9 => ?_, fun x h1 h2 => ?_⟩
  · rw [show Int.toNat (n + 1) = Int.toNat n + 1 from by omega]
    show Iₚ q 8 = gc_ac (Iₚ (q + 1)) (Int.toNat n) + gc_c1 (Iₚ (q + 1) (Int.toNat n))
    rw [gc_ac_e (g := I (q + 1)) (fun k hk => r1 k (by omega)), w1, gc_c1n (show (-1 : Int) < 0 from by decide), ← A, e8]
    omega
  · rw [e1, r12]
    by_cases e : k = Int.toNat n
    · rw [e, w1]; omega
    · rw [r1 k e]; exact B k (by omega)
  · rw [r4, e1, r12]; exact C s (by omega)
  · rw [r6] at h2
    rw [r6, r4, e1, e8, r12]; exact D x h1 h2
theorem gc_LI_0 {q : Nat} {I : gr_I} (h8 : I q 8 = 0) (h6 : ∀ a : Nat, a < 4 → I (q + 6) a = -1) : gc_LI q 0 I := ⟨h8, fun k hk => by omega, fun s hs => by omega, fun a h1 h2 => by have := h6 a h1; omega⟩
