def gr_NP (p : Nat → Nat) (I : gr_I) : Prop := ∀ x : Nat, (x : Int) < I 0 157 → I 90 x < I 0 157 ∧ (0 ≤ I 90 x → p (Int.toNat (I 90 x)) < p x)
def gr_NX (I : gr_I) : Prop := ∃ p : Nat → Nat, gr_NP p I
def gr_SB (I : gr_I) : Prop := ∀ i j k : Nat, (i : Int) ≤ I 0 143 → (j : Int) ≤ I 0 143 → k < 32 → I 93 ((25 * i + j) * 32 + k) < I 0 157
theorem gr_SB_at {I : gr_I} (h : gr_SB I) {i j k : Int} (hi : 0 ≤ i ∧ i ≤ I 0 143) (hj : 0 ≤ j ∧ j ≤ I 0 143) (hk : 0 ≤ k ∧ k ≤ 31) : I 93 (Int.toNat ((25 * i + j) * 32 + k)) < I 0 157 := by
  rw [show Int.toNat ((25 * i + j) * 32 + k) = (25 * Int.toNat i + Int.toNat j) * 32 + Int.toNat k from by omega]
  exact h _ _ _ (by omega) (by omega) (by omega)
theorem gr_NP_fr {p : Nat → Nat} {I Iₚ : gr_I} (h : gr_NP p I) (h1 : ∀ k, Iₚ 90 k = I 90 k) (h2 : Iₚ 0 157 = I 0 157) : gr_NP p Iₚ := fun x hx => by
  rw [h1, h2]
  exact h x (by omega)
theorem gr_SB_fr {I Iₚ : gr_I} (h : gr_SB I) (h1 : ∀ k, Iₚ 93 k = I 93 k) (h2 : I 0 157 ≤ Iₚ 0 157) (h3 : Iₚ 0 143 = I 0 143) : gr_SB Iₚ := fun i j k hi hj hk => by
  rw [h1]
  have h9 := h i j k (by omega) (by omega) hk
  omega
theorem gr_SB_st {I Iₚ : gr_I} {s : Nat} (h : gr_SB I) (h1 : ∀ k, ¬ k = s → Iₚ 93 k = I 93 k) (h0 : Iₚ 93 s < Iₚ 0 157) (h2 : I 0 157 ≤ Iₚ 0 157) (h3 : Iₚ 0 143 = I 0 143) : gr_SB Iₚ := fun i j k hi hj hk => by
  by_cases e : (25 * i + j) * 32 + k = s
  · rw [e]
    exact h0
  · rw [h1 _ e]
    have h9 := h i j k (by omega) (by omega) hk
    omega
theorem gr_NX_ins {p : Nat → Nat} {I Iₚ : gr_I} {y b : Nat} {x : Int} (h : gr_NP p I) (hy : (y : Int) = I 0 157) (hn : Iₚ 0 157 = I 0 157 + 1) (hx : x < I 0 157) (e1 : Iₚ 90 y = x) (hb : (b : Int) < I 0 157) (e0 : I 90 b = x) (e2 : Iₚ 90 b = (y : Int)) (e3 : ∀ z, ¬ z = y → ¬ z = b → Iₚ 90 z = I 90 z) : gr_NX Iₚ := by
  refine ⟨fun z => if z = y then 2 * p b + 1 else 2 * p z + 2, fun z hz => ?_⟩
  have hb9 := h b hb
  rw [e0] at hb9
  by_cases c1 : z = y
  · subst c1
    rw [e1]
    refine ⟨by omega, fun h0 => ?_⟩
    have h8 := hb9.2 h0
    show (if Int.toNat x = z then 2 * p b + 1 else 2 * p (Int.toNat x) + 2) < (if z = z then 2 * p b + 1 else 2 * p z + 2)
    rw [if_neg (by omega), if_pos rfl]
    omega
  by_cases c2 : z = b
  · subst c2
    rw [e2]
    refine ⟨by omega, fun _ => ?_⟩
    show (if Int.toNat (y : Int) = y then 2 * p z + 1 else 2 * p (Int.toNat (y : Int)) + 2) < (if z = y then 2 * p z + 1 else 2 * p z + 2)
    rw [if_pos (by omega), if_neg c1]
    omega
  have h9 := h z (by omega)
  rw [e3 z c1 c2]
  refine ⟨by omega, fun h0 => ?_⟩
  have h8 := h9.2 h0
  show (if Int.toNat (I 90 z) = y then 2 * p b + 1 else 2 * p (Int.toNat (I 90 z)) + 2) < (if z = y then 2 * p b + 1 else 2 * p z + 2)
  rw [if_neg (by omega), if_neg c1]
  omega
theorem gr_NX_top {p : Nat → Nat} {I Iₚ : gr_I} {y : Nat} {x : Int} (h : gr_NP p I) (hy : (y : Int) = I 0 157) (hn : Iₚ 0 157 = I 0 157 + 1) (hx : x < I 0 157) (e1 : Iₚ 90 y = x) (e3 : ∀ z, ¬ z = y → Iₚ 90 z = I 90 z) : gr_NX Iₚ := by
  refine ⟨fun z => if z = y then 2 * p (Int.toNat x) + 3 else 2 * p z + 2, fun z hz => ?_⟩
  by_cases c1 : z = y
  · subst c1
    rw [e1]
    refine ⟨by omega, fun h0 => ?_⟩
    show (if Int.toNat x = z then 2 * p (Int.toNat x) + 3 else 2 * p (Int.toNat x) + 2) < (if z = z then 2 * p (Int.toNat x) + 3 else 2 * p z + 2)
    rw [if_neg (by omega), if_pos rfl]
    omega
  have h9 := h z (by omega)
  rw [e3 z c1]
  refine ⟨by omega, fun h0 => ?_⟩
  have h8 := h9.2 h0
  show (if Int.toNat (I 90 z) = y then 2 * p (Int.toNat x) + 3 else 2 * p (Int.toNat (I 90 z)) + 2) < (if z = y then 2 * p (Int.toNat x) + 3 else 2 * p z + 2)
  rw [if_neg (by omega), if_neg c1]
  omega
theorem gr_NX_fr {I Iₚ : gr_I} (h : gr_NX I) (h1 : ∀ k, Iₚ 90 k = I 90 k) (h2 : Iₚ 0 157 = I 0 157) : gr_NX Iₚ := h.elim (fun p hp => ⟨p, gr_NP_fr hp h1 h2⟩)
