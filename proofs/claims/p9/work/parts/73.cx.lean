def gc_CT (p : Nat) (I : gr_I) : Prop := I p 8 = gc_c1 (I (p + 6) 0) + gc_c1 (I (p + 6) 1) + gc_c1 (I (p + 6) 2) + gc_c1 (I (p + 6) 3)
theorem gc_CT_fr {p : Nat} {I Iₚ : gr_I} (h : gc_CT p I) (h8 : Iₚ p 8 = I p 8) (hf : ∀ k, Iₚ (p + 6) k = I (p + 6) k) : gc_CT p Iₚ := by
  unfold gc_CT at h ⊢
  rw [hf, hf, hf, hf, h8]
  exact h
theorem gc_CT_lt {p : Nat} {I : gr_I} {a : Int} (h : gc_CT p I) (ha : 0 ≤ a ∧ a ≤ 3) (hz : I (p + 6) (Int.toNat a) < 0) : I p 8 ≤ 3 := by
  unfold gc_CT at h
  have h0 := gc_c1r (I (p + 6) 0)
  have h1 := gc_c1r (I (p + 6) 1)
  have h2 := gc_c1r (I (p + 6) 2)
  have h3 := gc_c1r (I (p + 6) 3)
  have h9 := gc_c1n hz
  rcases (show Int.toNat a = 0 ∨ Int.toNat a = 1 ∨ Int.toNat a = 2 ∨ Int.toNat a = 3 from by omega) with e | e | e | e <;> rw [e] at h9 <;> omega
theorem gc_CT_push {p : Nat} {I Iₚ : gr_I} {a : Int} (h : gc_CT p I) (ha : 0 ≤ a ∧ a ≤ 3) (hz : I (p + 6) (Int.toNat a) < 0) (hz' : 0 ≤ Iₚ (p + 6) (Int.toNat a)) (hs : Iₚ p 8 = I p 8 + 1) (hf : ∀ k, ¬ k = Int.toNat a → Iₚ (p + 6) k = I (p + 6) k) : gc_CT p Iₚ := by
  unfold gc_CT at h ⊢
  have h9 := gc_c1n hz
  have h8 := gc_c1p hz'
  rcases (show Int.toNat a = 0 ∨ Int.toNat a = 1 ∨ Int.toNat a = 2 ∨ Int.toNat a = 3 from by omega) with e | e | e | e
  · rw [hf 1 (by omega), hf 2 (by omega), hf 3 (by omega)]
    rw [e] at h8 h9
    omega
  · rw [hf 0 (by omega), hf 2 (by omega), hf 3 (by omega)]
    rw [e] at h8 h9
    omega
  · rw [hf 0 (by omega), hf 1 (by omega), hf 3 (by omega)]
    rw [e] at h8 h9
    omega
  · rw [hf 0 (by omega), hf 1 (by omega), hf 2 (by omega)]
    rw [e] at h8 h9
    omega
