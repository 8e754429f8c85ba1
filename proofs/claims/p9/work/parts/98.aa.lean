/-! BOTH SIDES AT THE START: what the two constructors leave, as far as the script's state wants it. -/
def gq_I0 : gr_I := fun a k => match a with
  | 0 => if k = 6 ∨ k = 127 ∨ k = 128 ∨ k = 177 then -1 else 0
  | a + 1 => if a = 9 ∧ k < 96 then -1 else 0
theorem gq_ni_le : ∀ (l : List Int) (k : Nat), l.all (fun z => decide (z ≤ 0)) = true → gr_ni l k ≤ 0
  | [], _, _ => Int.le_refl _
  | x :: l, 0, h => by
    rw [List.all_cons, Bool.and_eq_true] at h
    exact of_decide_eq_true h.1
  | x :: l, k + 1, h => by
    rw [List.all_cons, Bool.and_eq_true] at h
    exact gq_ni_le l k h.2
theorem gq_ni_ge : ∀ (l : List Int) (k : Nat), l.all (fun z => decide (0 ≤ z)) = true → 0 ≤ gr_ni l k
  | [], _, _ => Int.le_refl _
  | x :: l, 0, h => by
    rw [List.all_cons, Bool.and_eq_true] at h
    exact of_decide_eq_true h.1
  | x :: l, k + 1, h => by
    rw [List.all_cons, Bool.and_eq_true] at h
    exact gq_ni_ge l k h.2
theorem gq_q0 {a k : Nat} {z : Int} (h : -16 ≤ z ∧ z ≤ 32015) : gr_q a k z := by
  unfold gr_q
  split
  · split
    · trivial
    · exact Or.inr (Or.inr h)
  · split
    · trivial
    · exact Or.inr (Or.inr h)
theorem gq_b0 (a k : Nat) : gq_I0 a k = -1 ∨ gq_I0 a k = 0 := by
  cases a with
  | zero =>
    by_cases c : k = 6 ∨ k = 127 ∨ k = 128 ∨ k = 177
    · exact Or.inl (if_pos c)
    · exact Or.inr (if_neg c)
  | succ a =>
    by_cases c : a = 9 ∧ k < 96
    · exact Or.inl (if_pos c)
    · exact Or.inr (if_neg c)
theorem gq_inv0 : gr_Inv gq_I0 := fun a k => by
  refine ⟨?_, gq_q0 (by have := gq_b0 a k; omega)⟩
  cases a with
  | zero =>
    by_cases c : k = 6 ∨ k = 127 ∨ k = 128 ∨ k = 177
    · have e : gq_I0 0 k = -1 := if_pos c
      rw [e]
      rcases c with rfl | rfl | rfl | rfl <;> decide +kernel
    · have e : gq_I0 0 k = 0 := if_neg c
      rw [e]
      exact ⟨gq_ni_le gr_l0 k (by decide +kernel), gq_ni_ge gr_h0 k (by decide +kernel)⟩
  | succ a =>
    by_cases c : a = 9 ∧ k < 96
    · have e : gq_I0 (a + 1) k = -1 := if_pos c
      rw [e, c.1]
      show gr_ni gr_l1 9 ≤ -1 ∧ -1 ≤ gr_ni gr_h1 9
      decide +kernel
    · have e : gq_I0 (a + 1) k = 0 := if_neg c
      rw [e]
      exact ⟨gq_ni_le gr_l1 a (by decide +kernel), gq_ni_ge gr_h1 a (by decide +kernel)⟩
theorem gq_n0 {k : Nat} : ¬ ((k : Int) < 0) := by omega
theorem gq_st0 : gq_St 0 gq_I0 := by
  refine ⟨⟨gq_inv0, fun k hk => absurd hk (gq_n0 (k := k)), fun t _ => (show (0 : Int) ≤ 6 * 0 by decide), ⟨fun t k _ hk => absurd hk (gq_n0 (k := k)), fun t k _ hk => absurd hk (gq_n0 (k := k))⟩, fun k hk => absurd hk (gq_n0 (k := k)), fun f hf => absurd hf (gq_n0 (k := f)), Or.inl ⟨(show (-1 : Int) < 0 by decide), rfl⟩, fun p _ _ => Or.inl rfl, fun k i _ hi => absurd hi (gq_n0 (k := i))⟩, fun t _ => (show 4 * (0 : Int) + 0 ≤ 20 * ((0 : Nat) : Int) by decide), ?_, ?_, ?_, ?_, ?_⟩
  · exact (show (0 : Int) + 0 ≤ 20 * ((0 : Nat) : Int) by decide)
  · exact (show (0 : Int) + 0 ≤ 20 * ((0 : Nat) : Int) by decide)
  · exact (show (0 : Int) + 0 ≤ 20 * ((0 : Nat) : Int) by decide)
  · exact (show (0 : Int) ≤ ((0 : Nat) : Int) by decide)
  · exact (show (0 : Int) ≤ ((0 : Nat) : Int) by decide)
theorem gs_R0 (J0 : gr_J) : gs_R gk_I0 gk_J0 gk_A0 gq_I0 J0 := by
  have z : ∀ f : Int, 0 ≤ f → ¬ f < 0 := fun f h => by omega
  exact ⟨⟨rfl, fun k hk => absurd hk (gq_n0 (k := k))⟩, ⟨rfl, fun k hk => absurd hk (gq_n0 (k := k))⟩, ⟨rfl, fun k hk => absurd hk (gq_n0 (k := k))⟩, ⟨rfl, fun k hk => absurd hk (gq_n0 (k := k))⟩, ⟨rfl, fun k hk => absurd hk (gq_n0 (k := k))⟩, ⟨fun f h0 h1 => absurd h1 (z f h0), fun f h0 h1 => absurd h1 (z f h0), fun f h0 h1 => absurd h1 (z f h0), fun f h0 h1 => absurd h1 (z f h0)⟩, rfl, fun i t hi _ => absurd hi (gq_n0 (k := i)), fun i _ _ => ⟨rfl, rfl, rfl, rfl, rfl, rfl, rfl⟩⟩
/-- the script's state before the first call -/
theorem gp_P0 {J0 : gr_J} (hk : gr_KW J0) : gp_P 0 0 0 gc_bs gk_r0 gk_I0 gk_J0 gk_A0 gq_I0 J0 := ⟨gk_st0, ⟨gq_st0, hk, ⟨fun t t0 t1 => absurd (show t < 0 from t1) (by omega), fun g _ _ => absurd (show (0 : Int) ≤ -1 from g) (by decide), (show (-1 : Int) ≤ 0 by decide)⟩, ⟨⟨rfl, fun j hj => absurd hj (gq_n0 (k := j)), fun h => absurd (show (0 : Int) < 0 from h) (by decide)⟩, rfl, fun h => absurd rfl h⟩⟩, gs_R0 J0, rfl, fun k hk => absurd hk (gq_n0 (k := k)), ⟨fun i t hi _ => absurd hi (show ¬ (i : Int) < gk_I0 8 1 from gq_n0), ⟨fun i _ _ => ⟨(show (0 : Int) ≤ 0 by decide), (show (0 : Int) ≤ 24 by decide)⟩, fun i f _ _ f0 f1 => absurd (show f < 0 from f1) (by omega)⟩, fun i t hi _ => absurd hi (show ¬ (i : Int) < gk_I0 8 1 from gq_n0)⟩⟩
