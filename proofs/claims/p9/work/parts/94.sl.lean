/-! PARITY: rows of a tongue -/
def gs_putT (row cr : Nat) (m : Int) (w : Int64) (I : gr_I) (J : gr_J) (Iₚ : gr_I) (Jₚ : gr_J) : Prop := Iₚ cr (Int.toNat (I 0 6)) = I cr (Int.toNat (I 0 6)) + 1 ∧ (∀ j, ¬ j = Int.toNat (I 0 6) → Iₚ cr j = I cr j) ∧ Jₚ row (Int.toNat (m * I 0 6 + I cr (Int.toNat (I 0 6)))) = w ∧ ∀ j, ¬ j = Int.toNat (m * I 0 6 + I cr (Int.toNat (I 0 6))) → Jₚ row j = J row j
def gs_sameT (row cr : Nat) (I : gr_I) (J : gr_J) (Iₚ : gr_I) (Jₚ : gr_J) : Prop := ∀ j, Iₚ cr j = I cr j ∧ Jₚ row j = J row j
theorem gs_putT_mk {row cr : Nat} {m : Int} {w : Int64} {I I0 I1 I2 : gr_I} {J J0 J1 : gr_J} {k1 k2 : Nat} (s : ∀ j, I0 cr j = I cr j) (sj : ∀ j, J0 row j = J row j) (e1 : k1 = Int.toNat (m * I 0 6 + I cr (Int.toNat (I 0 6)))) (pj : ∀ b j, ¬ (b = row ∧ j = k1) → J1 b j = J0 b j) (qj : J1 row k1 = w) (e2 : k2 = Int.toNat (I 0 6)) (pi : ∀ b j, ¬ (b = cr ∧ j = k2) → I1 b j = I0 b j) (qi : I1 cr k2 = I cr (Int.toNat (I 0 6)) + 1) (f : ∀ j, I2 cr j = I1 cr j) : gs_putT row cr m w I J I2 J1 := by
  subst e1
  subst e2
  exact ⟨(f _).trans qi, fun j hj => (f j).trans ((pi cr j (fun h => hj h.2)).trans (s j)), qj, fun j hj => (pj row j (fun h => hj h.2)).trans (sj j)⟩
/-- LETTERS -/
def gs_let1 (β : Int → Int) (N : Int) (I : gr_I) (first q : Int) : Int := if gs_T β N q = 3 then gs_done β N (if I 15 (Int.toNat (I 0 6)) < 16 then 1 else 0) first (gs_X β N q) else -1 - gs_A β N q
def gs_let0 (β : Int → Int) (N : Int) (I : gr_I) (first q : Int) : Int := if q < 0 then q else gs_let1 β N I first q
def gs_let (β : Int → Int) (N : Int) (I : gr_I) (J : gr_J) (first p : Int) : Int :=
  if gs_T β N p = 1 then (if 0 ≤ gs_lt J 22 (16 * I 0 6) (I 15 (Int.toNat (I 0 6))) (gs_rn β N p) then -1 - gs_A β N p else gs_let0 β N I first (gs_need β N 61 (gs_X β N p))) else -1 - gs_A β N p
