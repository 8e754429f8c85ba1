theorem gh_OK5 {sh : gz_Sh} {x : Bool × Nat × Nat} {I : gr_I} {J : gr_J} {A : gc_A} {p k : Nat} {z : Int} (h : gc_OK sh I J A) (hs : sh[p]? = some x) (ht : gc_tx x k = 5) (hz : z < (sh.length : Int)) : gc_OK sh (gr_u I p k z) J A := by
  have hp := gc_x_lt hs
  refine ⟨fun i hi j => ?_, fun i hi j => ?_⟩
  · by_cases e : i = p ∧ j = k
    · obtain ⟨rfl, rfl⟩ := e
      unfold gc_h
      rw [gc_tyx hs, ht]
      show gz_okv sh.length (.inr (.inr (if gr_u I i j z i j < 0 then none else some (Int.toNat (gr_u I i j z i j)))))
      rw [gr_u_eq]
      by_cases h0 : z < 0
      · rw [if_pos h0]; exact trivial
      · rw [if_neg h0]; exact Or.inl (by omega)
    · rw [gc_h_congr (gr_u_ne I z e)]
      exact h.1 i hi j
  · obtain ⟨a, b, c⟩ := h.2 i hi j
    exact ⟨(gr_u_ne I z (fun h9 => by have := h9.1; omega)).trans a, b, c⟩
theorem gh_h5n {sh : gz_Sh} {x : Bool × Nat × Nat} {I : gr_I} {J : gr_J} {A : gc_A} {p k : Nat} (hs : sh[p]? = some x) (ht : gc_tx x k = 5) (hv : I p k < 0) : gc_h sh I J A p k = .inr (.inr none) := by
  unfold gc_h
  rw [gc_tyx hs, ht]
  show Sum.inr (Sum.inr (if I p k < 0 then none else some (Int.toNat (I p k)))) = _
  rw [if_pos hv]
