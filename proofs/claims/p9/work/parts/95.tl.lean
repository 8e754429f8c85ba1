/-! PARITY, the class's side: cells -/
def gs_part (β : Int → Int) (N p : Int) : Int := if (gs_T β N p = 2 ∧ ¬ (gs_V β N p < 1 ∨ 3 < gs_V β N p)) ∨ gs_T β N p = 3 then gs_X β N p else -1 - gs_A β N p
theorem gs_fm_c {β : Int → Int} {N : Int} {m : Nat} {q : Int} (hA : 0 ≤ gs_A β N q) (h : 0 ≤ gs_part β N q) : gs_fm β N (m + 1) q = (if gs_T β N (gs_part β N q) = 43 then gs_fm β N m (gs_X β N (gs_part β N q)) else gs_part β N q) := by
  by_cases c : (gs_T β N q = 2 ∧ ¬ (gs_V β N q < 1 ∨ 3 < gs_V β N q)) ∨ gs_T β N q = 3
  · have e : gs_part β N q = gs_X β N q := if_pos c
    rw [e]
    show (if _ then _ else _) = _
    rw [if_pos c]
  · have e : gs_part β N q = -1 - gs_A β N q := if_neg c
    omega
theorem gs_fm_d {β : Int → Int} {N : Int} {m : Nat} {q : Int} (h : gs_part β N q < 0) (hX : 0 ≤ gs_X β N q) : gs_fm β N (m + 1) q = gs_part β N q := by
  by_cases c : (gs_T β N q = 2 ∧ ¬ (gs_V β N q < 1 ∨ 3 < gs_V β N q)) ∨ gs_T β N q = 3
  · have e : gs_part β N q = gs_X β N q := if_pos c
    omega
  · have e : gs_part β N q = -1 - gs_A β N q := if_neg c
    rw [e]
    exact if_neg c
def gs_cell (β : Int → Int) (N : Int) (I : gr_I) (J : gr_J) (p : Int) : Int := if gs_rv β N I J 0 p < 0 then gs_rv β N I J 0 p else if gs_need β N 61 (gs_rv β N I J 0 p) < 0 then gs_need β N 61 (gs_rv β N I J 0 p) else gs_pf β N (gs_need β N 61 (gs_rv β N I J 0 p))
/-- the cells at hand, on both sides -/
def gs_CL (I : gr_I) (V : List Int) : Prop := ((V.length : Nat) : Int) = I 39 8 ∧ ∀ j : Nat, j < V.length → gs_PX (I 40 (3 * j)) (V.getD j 0)
theorem gs_CL_fr {I Iₚ : gr_I} {V : List Int} (h : gs_CL I V) (h8 : Iₚ 39 8 = I 39 8) (h40 : ∀ j, Iₚ 40 j = I 40 j) : gs_CL Iₚ V := ⟨by rw [h8]; exact h.1, fun j hj => by rw [h40]; exact h.2 j hj⟩
theorem gs_ll_getD {f : Nat → Int} {n : Int} {j : Nat} (h : (j : Int) < n) : (gs_ll f n).getD j 0 = f j := by
  unfold gs_ll
  rw [List.getD_eq_getElem?_getD, List.getElem?_map, List.getElem?_range (by omega)]
  rfl
/-- a PATTERN's cells, on both sides -/
def gs_PT (Ir I : gr_I) (t : Nat) : Prop := ∀ f : Int, 0 ≤ f → f < I (t + 11) 1 → I (t + 13) (Int.toNat f) = Ir 31 (Int.toNat (24 * Ir 0 6 + f)) ∧ ∀ j : Nat, (j : Int) < I (t + 13) (Int.toNat f) → gs_PX (I (t + 14) (Int.toNat (72 * f) + 3 * j)) (Ir 32 (Int.toNat (24 * (24 * Ir 0 6 + f) + (j : Int))))
theorem gs_PT_fr {Ir I Iₚ : gr_I} {t : Nat} (h : gs_PT Ir I t) (h1 : Iₚ (t + 11) 1 = I (t + 11) 1) (h13 : ∀ k, Iₚ (t + 13) k = I (t + 13) k) (h14 : ∀ k, Iₚ (t + 14) k = I (t + 14) k) : gs_PT Ir Iₚ t := fun f a b => by
  rw [h13]
  have x := h f a (by omega)
  exact ⟨x.1, fun j hj => by rw [h14]; exact x.2 j hj⟩
