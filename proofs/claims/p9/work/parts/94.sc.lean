/-! NAMES: as the class packs them (to the right) and as the reference does (to the left). -/
def gs_n (w : Int64) : Nat := w.toBitVec.toNat
def gs_wf (l : Nat) (w : Int64) : Prop := (l = 0 ∧ gs_n w = 0) ∨ (1 ≤ l ∧ 256 ^ (l - 1) ≤ gs_n w ∧ gs_n w < 256 ^ l ∧ ¬ gs_n w % 256 = 0)
theorem gs_w8_n {w : Int64} {c : Int} (hw : gs_n w < 72057594037927936) (hc : 0 ≤ c ∧ c < 256) : gs_n (gs_w8 w c) = gs_n w * 256 + Int.toNat c := by
  have e8 : ((Int32.ofInt 8).toInt64 &&& 63).toBitVec.smod 64 = 8#64 := by decide +kernel
  have e1 : (gs_w8 w c).toBitVec = (w.toBitVec <<< (((Int32.ofInt 8).toInt64 &&& 63).toBitVec.smod 64)) ||| (Int32.ofInt c).toInt64.toBitVec := rfl
  have e2 : (Int32.ofInt c).toInt64.toBitVec.toNat = Int.toNat c := by
    obtain ⟨k, rfl⟩ : ∃ k : Nat, c = (k : Int) := ⟨Int.toNat c, by omega⟩
    have h : ∀ k : Fin 256, (Int32.ofInt ((k.val : Nat) : Int)).toInt64.toBitVec.toNat = k.val := by decide +kernel
    exact h ⟨k, by omega⟩
  unfold gs_n at hw ⊢
  rw [e1, e8, BitVec.toNat_or, e2]
  have e3 : (w.toBitVec <<< 8#64).toNat = w.toBitVec.toNat * 256 := by
    rw [BitVec.shiftLeft_eq', BitVec.toNat_shiftLeft]
    show w.toBitVec.toNat <<< 8 % 2 ^ 64 = _
    rw [Nat.shiftLeft_eq]
    show w.toBitVec.toNat * 256 % 2 ^ 64 = _
    omega
  rw [e3]
  have h9 := Nat.shiftLeft_add_eq_or_of_lt (a := w.toBitVec.toNat) (b := Int.toNat c) (i := 8) (by omega)
  rw [Nat.shiftLeft_eq] at h9
  exact h9.symm
theorem gs_wf_8 {l : Nat} {w : Int64} {c : Int} (h : gs_wf l w) (hl : l ≤ 7) (hc : 1 ≤ c ∧ c < 256) : gs_wf (l + 1) (gs_w8 w c) := by
  have hb : gs_n w < 72057594037927936 := by
    rcases h with ⟨h1, h2⟩ | ⟨h1, h2, h3, h4⟩
    · omega
    · exact Nat.lt_of_lt_of_le h3 (Nat.pow_le_pow_right (by decide) (show l ≤ 7 by omega))
  have e := gs_w8_n (w := w) (c := c) hb (by omega)
  refine Or.inr ⟨by omega, ?_, ?_, by omega⟩
  · show 256 ^ l ≤ _
    rcases h with ⟨h1, h2⟩ | ⟨h1, h2, h3, h4⟩
    · subst h1
      show 1 ≤ _
      omega
    · obtain ⟨m, rfl⟩ : ∃ m, l = m + 1 := ⟨l - 1, by omega⟩
      have : 256 ^ m ≤ gs_n w := h2
      rw [Nat.pow_succ]
      omega
  · rw [Nat.pow_succ]
    rcases h with ⟨h1, h2⟩ | ⟨h1, h2, h3, h4⟩
    · subst h1
      show _ < 1 * 256
      omega
    · omega
set_option maxHeartbeats 8000000 in
theorem gs_nv_wf {β : Int → Int} : ∀ (f l : Nat) (k : Int) (w : Int64), l + f = 8 → gs_wf l w → k ≤ gs_ne β f k ∧ gs_ne β f k ≤ k + f ∧ gs_wf (l + Int.toNat (gs_ne β f k - k)) (gs_nv β f k w)
  | 0, l, k, w, hl, h => ⟨Int.le_refl _, by show k ≤ k + 0; exact gz_m 0 (by omega), by
      show gs_wf (l + Int.toNat (k - k)) w
      rw [show Int.toNat (k - k) = 0 from by exact gz_m 1 (by omega)]
      exact h⟩
  | f + 1, l, k, w, hl, h => by
    show k ≤ (if _ then gs_ne β f (k + 1) else k) ∧ (if _ then gs_ne β f (k + 1) else k) ≤ k + ((f + 1 : Nat) : Int) ∧ gs_wf (l + Int.toNat ((if _ then gs_ne β f (k + 1) else k) - k)) (if _ then gs_nv β f (k + 1) (gs_w8 w (β k)) else w)
    by_cases c : (97 ≤ β k ∧ β k ≤ 122) ∨ (48 ≤ β k ∧ β k ≤ 57)
    · rw [if_pos c, if_pos c]
      obtain ⟨a, b, d⟩ := gs_nv_wf (β := β) f (l + 1) (k + 1) (gs_w8 w (β k)) (by exact gz_m 2 (by omega)) (gs_wf_8 h (by exact gz_m 3 (by omega)) (by exact gz_m 4 (by omega)))
      refine ⟨by exact gz_m 5 (by omega), by exact gz_m 6 (by omega), ?_⟩
      rw [show l + Int.toNat (gs_ne β f (k + 1) - k) = l + 1 + Int.toNat (gs_ne β f (k + 1) - (k + 1)) from by exact gz_m 7 (by omega)]
      exact d
    · rw [if_neg c, if_neg c]
      refine ⟨by exact gz_m 8 (by omega), by exact gz_m 9 (by omega), ?_⟩
      rw [show l + Int.toNat (k - k) = l from by exact gz_m 10 (by omega)]
      exact h
/-- one name, packed to the right and to the left -/
def gs_al (c r : Int64) : Prop := ∃ l : Nat, (1 ≤ l ∧ l ≤ 8) ∧ (256 ^ (l - 1) ≤ gs_n c ∧ gs_n c < 256 ^ l ∧ ¬ gs_n c % 256 = 0) ∧ gs_n r = gs_n c * 256 ^ (8 - l)
theorem gs_n_inj {a b : Int64} (h : gs_n a = gs_n b) : a = b := Int64.toBitVec_inj.mp (BitVec.eq_of_toNat_eq h)
theorem gs_al_eq {c r c' r' : Int64} (h : gs_al c r) (hₚ : gs_al c' r') : c = c' ↔ r = r' := by
  obtain ⟨l, hl, ⟨a1, a2, a3⟩, a4⟩ := h
  obtain ⟨m, hm, ⟨b1, b2, b3⟩, b4⟩ := hₚ
  have key : gs_n c = gs_n c' ↔ gs_n r = gs_n r' := by
    have cl : l = 1 ∨ l = 2 ∨ l = 3 ∨ l = 4 ∨ l = 5 ∨ l = 6 ∨ l = 7 ∨ l = 8 := by omega
    have cm : m = 1 ∨ m = 2 ∨ m = 3 ∨ m = 4 ∨ m = 5 ∨ m = 6 ∨ m = 7 ∨ m = 8 := by omega
    rcases cl with rfl | rfl | rfl | rfl | rfl | rfl | rfl | rfl <;> rcases cm with rfl | rfl | rfl | rfl | rfl | rfl | rfl | rfl <;> simp only [Nat.reducePow, Nat.reduceSub] at a1 a2 a4 b1 b2 b4 <;> omega
  exact ⟨fun q => gs_n_inj (key.mp (by rw [q])), fun q => gs_n_inj (key.mpr (by rw [q]))⟩
theorem gs_sh {w : Int64} {l : Nat} {x : Int} (hl : 1 ≤ l ∧ l ≤ 8) (hx : x = 8 * (8 - (l : Int))) (hw : gs_n w < 256 ^ l) : gs_n (w <<< ((Int32.ofInt x).toInt64 &&& 63)) = gs_n w * 256 ^ (8 - l) := by
  have e1 : (w <<< ((Int32.ofInt x).toInt64 &&& 63)).toBitVec = w.toBitVec <<< (((Int32.ofInt x).toInt64 &&& 63).toBitVec.smod 64) := rfl
  have h : ∀ l : Fin 8, ((Int32.ofInt (8 * (8 - ((l.val + 1 : Nat) : Int)))).toInt64 &&& 63).toBitVec.smod 64 = BitVec.ofNat 64 (8 * (8 - (l.val + 1))) := by decide +kernel
  have e2 := h ⟨l - 1, by omega⟩
  rw [show ((⟨l - 1, by omega⟩ : Fin 8).val + 1 : Nat) = l from by show l - 1 + 1 = l; omega, ← hx] at e2
  unfold gs_n at hw ⊢
  rw [e1, e2, BitVec.shiftLeft_eq', BitVec.toNat_shiftLeft, BitVec.toNat_ofNat, Nat.mod_eq_of_lt (show 8 * (8 - l) < 2 ^ 64 by omega), Nat.shiftLeft_eq]
  have e3 : 2 ^ (8 * (8 - l)) = 256 ^ (8 - l) := by
    rw [Nat.pow_mul]
  rw [e3]
  refine Nat.mod_eq_of_lt ?_
  calc w.toBitVec.toNat * 256 ^ (8 - l) < 256 ^ l * 256 ^ (8 - l) := Nat.mul_lt_mul_of_pos_right hw (Nat.pow_pos (by decide))
    _ = 256 ^ 8 := by rw [← Nat.pow_add]; congr 1; omega
    _ = 2 ^ 64 := by decide
/-- the name at a place, as both tell it -/
theorem gs_al_p {β : Int → Int} {N p : Int} (h : gs_T β N p = 1) : gs_al (gs_M β N p) (gs_rn β N p) := by
  have hc : ¬ N ≤ gs_S β N p ∧ (97 ≤ β (gs_S β N p) ∧ β (gs_S β N p) ≤ 122) := by
    unfold gs_T at h
    by_cases c1 : N ≤ gs_S β N p
    · rw [if_pos c1] at h
      omega
    · rw [if_neg c1] at h
      by_cases c2 : 97 ≤ β (gs_S β N p) ∧ β (gs_S β N p) ≤ 122
      · exact ⟨c1, c2⟩
      · rw [if_neg c2] at h
        by_cases c3 : 48 ≤ β (gs_S β N p) ∧ β (gs_S β N p) ≤ 57
        · rw [if_pos c3] at h
          omega
        · rw [if_neg c3] at h
          by_cases c4 : β (gs_S β N p) = 39
          · rw [if_pos c4] at h
            by_cases c5 : β (gs_le β 12 (gs_S β N p + 1)) = 39
            · rw [if_pos c5] at h
              omega
            · rw [if_neg c5] at h
              omega
          · rw [if_neg c4] at h
            by_cases c5 : 0 ≤ gz_ixf (β (gs_S β N p))
            · rw [if_pos c5] at h
              have := gs_ix c5
              omega
            · rw [if_neg c5] at h
              omega
  obtain ⟨a, b, d⟩ := gs_name (p := p) rfl hc.1 hc.2
  obtain ⟨u, v, w⟩ := gs_nv_wf (β := β) 8 0 (gs_S β N p) (Int64.ofNat 0) rfl (Or.inl ⟨rfl, rfl⟩)
  have g1 : gs_S β N p + 1 ≤ gs_ne β 8 (gs_S β N p) := by
    have h9 : gs_ne β 8 (gs_S β N p) = (if (97 ≤ β (gs_S β N p) ∧ β (gs_S β N p) ≤ 122) ∨ (48 ≤ β (gs_S β N p) ∧ β (gs_S β N p) ≤ 57) then gs_ne β 7 (gs_S β N p + 1) else gs_S β N p) := rfl
    rw [if_pos (Or.inl hc.2)] at h9
    have h8 := (gs_nv_wf (β := β) 7 1 (gs_S β N p + 1) (gs_w8 0 97) rfl (gs_wf_8 (l := 0) (Or.inl ⟨rfl, rfl⟩) (by omega) (by omega))).1
    omega
  rw [Nat.zero_add] at w
  rcases w with ⟨w1, w2⟩ | ⟨w1, w2, w3, w4⟩
  · omega
  · refine ⟨Int.toNat (gs_ne β 8 (gs_S β N p) - gs_S β N p), ⟨w1, by omega⟩, ⟨w2, w3, w4⟩, ?_⟩
    unfold gs_rn
    rw [if_pos a, b, d]
    exact gs_sh ⟨w1, by omega⟩ (by omega) w3
