def gc_dh (z : Int) : Nat → Int
  | 0 => z % 32
  | 1 => z / 32 % 32
  | 2 => z / 1024 % 32
  | 3 => z / 32768 % 32
  | _ => 0
def gc_pv : Nat → Int
  | 0 => 1
  | 1 => 32
  | 2 => 1024
  | 3 => 32768
  | _ => 1048576
theorem gc_shl5 {r s : Int} (hr : 0 ≤ r ∧ r ≤ 31) (hs : 0 ≤ s ∧ s ≤ 3) : (Int32.ofInt r <<< (Int32.ofInt (5 * s) &&& 31)).toInt = r * gc_pv (Int.toNat s) := by
  have key : ∀ a : Fin 32, ∀ b : Fin 4, (Int32.ofInt (a.val : Int) <<< (Int32.ofInt (5 * (b.val : Int)) &&& 31)).toInt = (a.val : Int) * gc_pv b.val := by decide +kernel
  have h := key ⟨r.toNat, by omega⟩ ⟨s.toNat, by omega⟩
  have e1 : ((r.toNat : Nat) : Int) = r := by omega
  have e2 : ((s.toNat : Nat) : Int) = s := by omega
  dsimp only at h
  rw [e1, e2] at h
  exact h
theorem gc_orsi {a r s : Int} (ha : 0 ≤ a ∧ a < gc_pv (Int.toNat s)) (hr : 0 ≤ r ∧ r ≤ 31) (hs : 0 ≤ s ∧ s ≤ 3) : (Int32.ofInt a ||| Int32.ofInt ((Int32.ofInt r <<< (Int32.ofInt (5 * s) &&& 31)).toInt)).toInt = a + r * gc_pv (Int.toNat s) := by
  rw [gc_shl5 hr hs]
  rcases (show s = 0 ∨ s = 1 ∨ s = 2 ∨ s = 3 from by omega) with rfl | rfl | rfl | rfl
  · have ha : 0 ≤ a ∧ a < 1 := ha
    exact gc_orp 0 ha hr.1 (show a + r * 1 ≤ _ from by omega) (show r * 1 ≤ _ from by omega) (by omega)
  · have ha : 0 ≤ a ∧ a < 32 := ha
    exact gc_orp 5 ha hr.1 (show a + r * 32 ≤ _ from by omega) (show r * 32 ≤ _ from by omega) (by omega)
  · have ha : 0 ≤ a ∧ a < 1024 := ha
    exact gc_orp 10 ha hr.1 (show a + r * 1024 ≤ _ from by omega) (show r * 1024 ≤ _ from by omega) (by omega)
  · have ha : 0 ≤ a ∧ a < 32768 := ha
    exact gc_orp 15 ha hr.1 (show a + r * 32768 ≤ _ from by omega) (show r * 32768 ≤ _ from by omega) (by omega)
theorem gc_and31 {y : Int} (h : 0 ≤ y ∧ y ≤ 2147483647) : (Int32.ofInt y &&& Int32.ofInt 31).toInt = y % 32 := by
  have e : (Int32.ofInt y &&& Int32.ofInt 31).toBitVec.toNat = y.toNat % 32 := by
    show ((Int32.ofInt y).toBitVec &&& (Int32.ofInt 31).toBitVec).toNat = _
    rw [BitVec.toNat_and, gc_nn h, gc_nn (x := 31) ⟨by decide, by decide⟩]
    exact Nat.and_two_pow_sub_one_eq_mod y.toNat 5
  show ((Int32.ofInt y &&& Int32.ofInt 31).toBitVec).toInt = _
  rw [BitVec.toInt_eq_toNat_of_lt (by omega)]
  omega
theorem gc_dhx {z s : Int} (hz : 0 ≤ z ∧ z ≤ 1048575) (hs : 0 ≤ s ∧ s ≤ 3) : (Int32.ofInt ((Int32.ofInt z >>> (Int32.ofInt (5 * s) &&& 31)).toInt) &&& Int32.ofInt 31).toInt = gc_dh z (Int.toNat s) ∧ 0 ≤ gc_dh z (Int.toNat s) ∧ gc_dh z (Int.toNat s) ≤ 31 := by
  rcases (show s = 0 ∨ s = 1 ∨ s = 2 ∨ s = 3 from by omega) with rfl | rfl | rfl | rfl
  · rw [gc_shrk (k := 0) ⟨hz.1, by omega⟩ (by decide +kernel)]
    have e : z / ((2 ^ 0 : Nat) : Int) = z := (show z / 1 = z from by omega)
    rw [e, gc_and31 ⟨by omega, by omega⟩]
    exact ⟨rfl, show 0 ≤ z % 32 from by omega, show z % 32 ≤ 31 from by omega⟩
  · rw [gc_shrk (k := 5) ⟨hz.1, by omega⟩ (by decide +kernel)]
    have e : z / ((2 ^ 5 : Nat) : Int) = z / 32 := rfl
    rw [e, gc_and31 ⟨by omega, by omega⟩]
    exact ⟨rfl, show 0 ≤ z / 32 % 32 from by omega, show z / 32 % 32 ≤ 31 from by omega⟩
  · rw [gc_shrk (k := 10) ⟨hz.1, by omega⟩ (by decide +kernel)]
    have e : z / ((2 ^ 10 : Nat) : Int) = z / 1024 := rfl
    rw [e, gc_and31 ⟨by omega, by omega⟩]
    exact ⟨rfl, show 0 ≤ z / 1024 % 32 from by omega, show z / 1024 % 32 ≤ 31 from by omega⟩
  · rw [gc_shrk (k := 15) ⟨hz.1, by omega⟩ (by decide +kernel)]
    have e : z / ((2 ^ 15 : Nat) : Int) = z / 32768 := rfl
    rw [e, gc_and31 ⟨by omega, by omega⟩]
    exact ⟨rfl, show 0 ≤ z / 32768 % 32 from by omega, show z / 32768 % 32 ≤ 31 from by omega⟩
def gc_PK (K : Int → Int) (sl rk : Int) : Prop := 0 ≤ rk ∧ rk < gc_pv (Int.toNat sl) ∧ ∀ s : Int, 0 ≤ s → s < sl → gc_dh rk (Int.toNat s) < K s
theorem gc_PK_nx {K : Int → Int} {sl rk r : Int} (h : gc_PK K sl rk) (hs : 0 ≤ sl ∧ sl ≤ 3) (hr : 0 ≤ r ∧ r ≤ 31) (hz : r < K sl) : gc_PK K (sl + 1) ((Int32.ofInt rk ||| Int32.ofInt ((Int32.ofInt r <<< (Int32.ofInt (5 * sl) &&& 31)).toInt)).toInt) := by
  obtain ⟨h1, h2, h3⟩ := h
  rw [gc_orsi ⟨h1, h2⟩ hr hs]
  rcases (show sl = 0 ∨ sl = 1 ∨ sl = 2 ∨ sl = 3 from by omega) with rfl | rfl | rfl | rfl
  · have h2 : rk < 1 := h2
    refine ⟨show 0 ≤ rk + r * 1 from by omega, show rk + r * 1 < 32 from by omega, fun s h4 h5 => ?_⟩
    have e : s = 0 := by omega
    subst e
    have e2 : gc_dh (rk + r * gc_pv (Int.toNat 0)) (Int.toNat 0) = r := (show (rk + r * 1) % 32 = r from by omega)
    rw [e2]; exact hz
  · have h2 : rk < 32 := h2
    refine ⟨show 0 ≤ rk + r * 32 from by omega, show rk + r * 32 < 1024 from by omega, fun s h4 h5 => ?_⟩
    rcases (show s = 0 ∨ s = 1 from by omega) with rfl | rfl
    · have e2 : gc_dh (rk + r * gc_pv (Int.toNat 1)) (Int.toNat 0) = gc_dh rk (Int.toNat 0) := (show (rk + r * 32) % 32 = rk % 32 from by omega)
      rw [e2]; exact h3 0 (by omega) (by omega)
    · have e2 : gc_dh (rk + r * gc_pv (Int.toNat 1)) (Int.toNat 1) = r := (show (rk + r * 32) / 32 % 32 = r from by omega)
      rw [e2]; exact hz
  · have h2 : rk < 1024 := h2
    refine ⟨show 0 ≤ rk + r * 1024 from by omega, show rk + r * 1024 < 32768 from by omega, fun s h4 h5 => ?_⟩
    rcases (show s = 0 ∨ s = 1 ∨ s = 2 from by omega) with rfl | rfl | rfl
    · have e2 : gc_dh (rk + r * gc_pv (Int.toNat 2)) (Int.toNat 0) = gc_dh rk (Int.toNat 0) := (show (rk + r * 1024) % 32 = rk % 32 from by omega)
      rw [e2]; exact h3 0 (by omega) (by omega)
    · have e2 : gc_dh (rk + r * gc_pv (Int.toNat 2)) (Int.toNat 1) = gc_dh rk (Int.toNat 1) := (show (rk + r * 1024) / 32 % 32 = rk / 32 % 32 from by omega)
      rw [e2]; exact h3 1 (by omega) (by omega)
    · have e2 : gc_dh (rk + r * gc_pv (Int.toNat 2)) (Int.toNat 2) = r := (show (rk + r * 1024) / 1024 % 32 = r from by omega)
      rw [e2]; exact hz
  · have h2 : rk < 32768 := h2
    refine ⟨show 0 ≤ rk + r * 32768 from by omega, show rk + r * 32768 < 1048576 from by omega, fun s h4 h5 => ?_⟩
    rcases (show s = 0 ∨ s = 1 ∨ s = 2 ∨ s = 3 from by omega) with rfl | rfl | rfl | rfl
    · have e2 : gc_dh (rk + r * gc_pv (Int.toNat 3)) (Int.toNat 0) = gc_dh rk (Int.toNat 0) := (show (rk + r * 32768) % 32 = rk % 32 from by omega)
      rw [e2]; exact h3 0 (by omega) (by omega)
    · have e2 : gc_dh (rk + r * gc_pv (Int.toNat 3)) (Int.toNat 1) = gc_dh rk (Int.toNat 1) := (show (rk + r * 32768) / 32 % 32 = rk / 32 % 32 from by omega)
      rw [e2]; exact h3 1 (by omega) (by omega)
    · have e2 : gc_dh (rk + r * gc_pv (Int.toNat 3)) (Int.toNat 2) = gc_dh rk (Int.toNat 2) := (show (rk + r * 32768) / 1024 % 32 = rk / 1024 % 32 from by omega)
      rw [e2]; exact h3 2 (by omega) (by omega)
    · have e2 : gc_dh (rk + r * gc_pv (Int.toNat 3)) (Int.toNat 3) = r := (show (rk + r * 32768) / 32768 % 32 = r from by omega)
      rw [e2]; exact hz
theorem gc_PK_0 {K : Int → Int} : gc_PK K 0 0 := ⟨Int.le_refl _, (show (0 : Int) < 1 from by decide), fun s h0 h1 => by omega⟩
theorem gc_PK_mo {K K' : Int → Int} {sl rk : Int} (h : gc_PK K sl rk) (hK : ∀ s, 0 ≤ s → s < sl → K s ≤ K' s) : gc_PK K' sl rk := ⟨h.1, h.2.1, fun s h0 h1 => by have h2 := h.2.2 s h0 h1; have h3 := hK s h0 h1; omega⟩
theorem gc_pv_le (k : Nat) : gc_pv k ≤ 1048576 := by
  unfold gc_pv
  split <;> decide
