def gr_S3a (I : gr_I) : Prop := I 71 (Int.toNat (I 0 119)) ≤ 3
def gr_S3 (I : gr_I) : Prop := I 70 (Int.toNat (I 0 119)) = 2 ∨ I 71 (Int.toNat (I 0 119)) ≤ 3
theorem gr_S3a_st {I : gr_I} {k : Nat} {z : Int} (q : I 71 k = z) (hz : z ≤ 3) (hk : k = Int.toNat (I 0 119)) : gr_S3a I := by
  unfold gr_S3a
  rw [← hk, q]
  exact hz
theorem gr_S3a_fr {I Iₚ : gr_I} (h : gr_S3a I) (h1 : ∀ k, Iₚ 71 k = I 71 k) (h2 : Iₚ 0 119 = I 0 119) : gr_S3a Iₚ := by
  unfold gr_S3a
  rw [h2, h1]
  exact h
theorem gr_S3_h {I Iₚ : gr_I} {k : Nat} {z : Int} (q : I 70 k = 2) (h1 : Iₚ 70 k = I 70 k) (hk : k = Int.toNat (Iₚ 0 119)) : gr_S3 Iₚ := Or.inl (by rw [← hk, h1]; exact q)
