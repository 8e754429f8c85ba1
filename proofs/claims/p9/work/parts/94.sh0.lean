/-! FACTS. -/
def gs_ifd (I : gr_I) (J : gr_J) (w : Int64) (a b : Int) : Nat → Int → Int
  | 0, _ => 0
  | m + 1, i => if J 5 (Int.toNat i) = w ∧ I 11 (Int.toNat i) = a ∧ I 12 (Int.toNat i) = b then 1 else gs_ifd I J w a b m (i + 1)
def gs_isf (I : gr_I) (J : gr_J) (w : Int64) (a b : Int) : Int := gs_ifd I J w a b (Int.toNat (I 0 5)) 0
theorem gs_ifd_s {I : gr_I} {J : gr_J} {w : Int64} {a b n i : Int} (hi : i < n) (h : ¬ (J 5 (Int.toNat i) = w ∧ I 11 (Int.toNat i) = a ∧ I 12 (Int.toNat i) = b)) : gs_ifd I J w a b (Int.toNat (n - i)) i = gs_ifd I J w a b (Int.toNat (n - (i + 1))) (i + 1) := by
  rw [show Int.toNat (n - i) = Int.toNat (n - (i + 1)) + 1 from by omega]
  show (if _ then _ else _) = _
  rw [if_neg h]
theorem gs_ifd_f {I : gr_I} {J : gr_J} {w : Int64} {a b n i : Int} (hi : i < n) (h : J 5 (Int.toNat i) = w ∧ I 11 (Int.toNat i) = a ∧ I 12 (Int.toNat i) = b) : gs_ifd I J w a b (Int.toNat (n - i)) i = 1 := by
  rw [show Int.toNat (n - i) = Int.toNat (n - (i + 1)) + 1 from by omega]
  show (if _ then _ else _) = _
  rw [if_pos h]
theorem gs_ifd_e {I : gr_I} {J : gr_J} {w : Int64} {a b n i : Int} (hi : n ≤ i) : gs_ifd I J w a b (Int.toNat (n - i)) i = 0 := by
  rw [show Int.toNat (n - i) = 0 from by omega]
  rfl
