/-! RANGES of the reference, and what bits and bytes are bound by. -/
def gr_l0 : List Int := [0, 0, 0, 0, 0, 0, -1, 0, 0, 0, 0, 0, 0, 0, 0, 0, 0, 0, 0, 0, 0, 0, 0, 0, 0, 0, 0, 0, 0, 0, 0, 0, 0, 0, 0, 0, 0, 0, 0, 0, 0, 0, 0, 0, 0, 0, 0, 0, 0, 0, 0, 0, 0, 0, 0, 0, 0, 0, 0, 0, 0, 0, 0, 0, 0, 0, 0, 0, 0, 0, 0, 0, 0, 0, 0, 0, 0, 0, 0, 0, 0, 0, 0, 0, 0, 0, 0, 0, 0, 0, 0, 0, 0, 0, 0, 0, 0, 0, 0, 0, 0, 0, 0, 0, -2147483648, 0, 0, 0, 0, 0, 0, 0, 0, 0, 0, 0, 0, 0, 0, 0, 0, 0, 0, 0, 0, 0, 0, -1, -1, 0, 0, 0, 0, 0, 0, 0, 0, 0, 0, 0, 0, 0, 0, 0, 0, 0, 0, 0, 0, 0, 0, 0, 0, 0, 0, 0, 0, 0, 0, 0, 0, 0, 0, 0, 0, 0, 0, 0, 0, 0, 0, 0, 0, 0, 0, 0, 0, -1, -2147483648, 0, 0, 0, 0, 0, 0, 0, 0, 0, 0, 0, 0, 0, 0, 0, 0, 0, 0, 0, 0, 0, 0, 0, 0, 0, 0, 0, 0, 0, 0, 0, 0, 0, 0, 0, 0, 0, 0, 0, 0, 0, 0, 0, 0, 0, 0, 0, 0, 0, 0]
def gr_h0 : List Int := [2, 8, 32, 96, 8, 64, 7, 0, 0, 0, 0, 0, 0, 0, 0, 0, 0, 0, 0, 0, 0, 0, 0, 0, 0, 0, 0, 0, 0, 0, 0, 0, 0, 0, 0, 0, 0, 0, 0, 0, 0, 0, 2000, 0, 0, 0, 0, 0, 0, 0, 0, 0, 0, 0, 0, 0, 0, 0, 0, 2000, 0, 0, 0, 0, 2000, 0, 0, 0, 1000, 1000, 1000, 5, 1000, 1001, 999999, 0, 6, 1001, 1000, 6, 0, 0, 0, 0, 0, 0, 0, 0, 0, 0, 0, 0, 0, 0, 0, 0, 0, 0, 0, 96, 1000000, 10000, 0, 0, 2147483647, 0, 16777215, 0, 0, 0, 0, 0, 0, 0, 0, 0, 0, 0, 6, 6, 3, 0, 47, 95, 0, 0, 24, 7, 1000000, 0, 0, 0, 1536, 7, 0, 0, 24, 1536, 4, 0, 0, 0, 0, 24, 0, 0, 0, 0, 0, 0, 0, 0, 0, 0, 0, 0, 0, 3000, 9000, 7, 1, 400001, 0, 0, 0, 0, 7, 3071, 24, 24, 384, 0, 0, 0, 0, 0, 0, 2999, 2147483647, 3000, 9000, 0, 0, 0, 0, 0, 16, 0, 2000, 0, 0, 0, 0, 0, 0, 0, 0, 0, 0, 0, 0, 16, 0, 0, 0, 0, 100, 0, 0, 0, 0, 2400, 0, 0, 0, 0, 1300, 1300, 1, 0, 399, 20001, 0, 0, 0, 0, 0, 0, 0]
def gr_l1 : List Int := [0, 0, 0, 0, 0, 0, 0, 0, 0, -1, -1, -1, 0, 0, 0, -2147483648, 0, 0, 0, 0, 0, 0, 0, 0, 0, -2147483648, -2147483648, -2147483648, -2147483648, -2147483648, 0, -2147483648, 0, -2147483648, -2147483648, 0, 0, -2147483648, -2147483648, 0, -2147483648, -2147483648, -2147483648, -2147483648, -2147483648, -2147483648, -2147483648, -2147483648, -2147483648, -2147483648, -128, -2147483648, -2147483648, -2147483648, 0, -128, -128, -128, -2147483648, -2147483648, -2147483648, 0, -2147483648, -2147483648, -2147483648, -2147483648, -2147483648, -2147483648, -2147483648, -2147483648, -2147483648, -2147483648, -2147483648, -2147483648, 0, -128, -128, -128, -1, 0, 0, 0, -128, -128, 0, 0, -2147483648, -2147483648, -2147483648, -2147483648, -2147483648, -2147483648, -2147483648, -2147483648, -2147483648, -2147483648, -2147483648, -2147483648, -2147483648, -2147483648, -2147483648, -2147483648, -2147483648, 0, -2147483648, -2147483648, -2147483648, -2147483648, 0, -2147483648, -2147483648, -2147483648, 0, 0, 0, -128, -2147483648, -2147483648, -2147483648, -2147483648, -2147483648, -2147483648, -2147483648, -128, -2147483648, -128, -2147483648, -2147483648, -2147483648, -2147483648, -2147483648, -2147483648, -2147483648, -2147483648, -2147483648, -2147483648, 0, -2147483648]
def gr_h1 : List Int := [0, 0, 0, 0, 0, 4, 31, 31, 10000, 1999, 7, 7, 8, 48, 16, 2147483647, 24, 64, 384, 0, 0, 0, 0, 7, 6, 2147483647, 2147483647, 2147483647, 2147483647, 2147483647, 24, 2147483647, 2000, 2147483647, 2147483647, 95, 23, 2147483647, 2147483647, 10000, 2147483647, 2147483647, 2147483647, 2147483647, 2147483647, 2147483647, 2147483647, 2147483647, 2147483647, 2147483647, 127, 2147483647, 2147483647, 2147483647, 0, 127, 127, 127, 2147483647, 2147483647, 2147483647, 0, 2147483647, 2147483647, 2147483647, 2147483647, 2147483647, 2147483647, 2147483647, 2147483647, 2147483647, 2147483647, 2147483647, 2147483647, 0, 127, 127, 127, 24, 1535, 23, 1536, 127, 127, 24, 24, 2147483647, 2147483647, 2147483647, 2147483647, 2147483647, 2147483647, 2147483647, 2147483647, 2147483647, 2147483647, 2147483647, 2147483647, 2147483647, 2147483647, 2147483647, 2147483647, 2147483647, 0, 2147483647, 2147483647, 2147483647, 2147483647, 1, 2147483647, 2147483647, 2147483647, 95, 95, 60, 127, 2147483647, 2147483647, 2147483647, 2147483647, 2147483647, 2147483647, 2147483647, 127, 2147483647, 127, 2147483647, 2147483647, 2147483647, 2147483647, 2147483647, 2147483647, 2147483647, 2147483647, 2147483647, 2147483647, 0, 2147483647]
def gr_ni : List Int → Nat → Int
  | [], _ => 0
  | x :: _, 0 => x
  | _ :: l, n + 1 => gr_ni l n
def gr_lo (a k : Nat) : Int := match a with
  | 0 => gr_ni gr_l0 k
  | a + 1 => gr_ni gr_l1 a
def gr_hi (a k : Nat) : Int := match a with
  | 0 => gr_ni gr_h0 k
  | a + 1 => gr_ni gr_h1 a
/-- every int within its range (slots that are no ints, and places beyond a row, are of no account: there too) -/
def gr_Inv (I : gr_I) : Prop := ∀ a k, gr_lo a k ≤ I a k ∧ I a k ≤ gr_hi a k
theorem gr_Inv.up {I : gr_I} (h : gr_Inv I) {a k : Nat} {z : Int} (hz : gr_lo a k ≤ z ∧ z ≤ gr_hi a k) : gr_Inv (gr_u I a k z) := fun b j => by
  by_cases hb : b = a ∧ j = k
  · obtain ⟨rfl, rfl⟩ := hb
    rw [gr_u_eq]
    exact hz
  · rw [gr_u_ne I z hb]
    exact h b j
section GI
variable {E : gv_E} {Q : gz_S → Prop} {pc a k : Nat} {lv lv' : List (Nat × gz_V)} {st : List gz_V} {sh : gz_Sh} {I : gr_I} {J : gr_J}
theorem gr_st {z : Int} (hI : gr_Inv I) (ht : gr_ty a k = 0) (hz : gr_lo a k ≤ z ∧ z ≤ gr_hi a k) (kk : ∀ I' : gr_I, gr_Inv I' → gv_X E Q (pc, lv, st, sh, gr_h I' J)) : gv_X E Q (pc, lv, st, sh, gz_up (gr_h I J) a k (.inl z)) := by
  rw [gr_up ht]
  exact kk _ (hI.up hz)
theorem gr_stJ {z : Int64} (ht : gr_ty a k = 1) (kk : ∀ J' : gr_J, gv_X E Q (pc, lv, st, sh, gr_h I J')) : gv_X E Q (pc, lv, st, sh, gz_up (gr_h I J) a k (.inr (.inl z))) := by
  rw [gr_vp ht]
  exact kk _
theorem gv_pick {h : gz_H} (ks : List Nat) (hs : ks.filterMap (fun k => lv[k]?) = lv') (kk : gv_X E Q (pc, lv', st, sh, h)) : gv_X E Q (pc, lv, st, sh, h) := gv_sub (fun q hq => by
  rw [← hs] at hq
  obtain ⟨k, -, hk⟩ := List.mem_filterMap.mp hq
  exact List.mem_of_getElem? hk) kk
end GI
theorem gw_any (w : Int32) : -2147483648 ≤ w.toInt ∧ w.toInt ≤ 2147483647 := ⟨by have := w.le_toInt; omega, by have := w.toInt_lt; omega⟩
theorem gw_neg {x : Int} (hx : -2147483647 ≤ x ∧ x ≤ 2147483647) : (-Int32.ofInt x).toInt = -x := by
  rw [← Int32.ofInt_neg]
  exact gz_toInt ⟨by omega, by omega⟩
theorem gw_and {x y : Int} (hy : 0 ≤ y ∧ y ≤ 2147483647) : 0 ≤ (Int32.ofInt x &&& Int32.ofInt y).toInt ∧ (Int32.ofInt x &&& Int32.ofInt y).toInt ≤ y := by
  have hY : (Int32.ofInt y).toInt = y := gz_toInt ⟨by omega, by omega⟩
  have e : (Int32.ofInt x &&& Int32.ofInt y).toInt = ((Int32.ofInt x).toBitVec &&& (Int32.ofInt y).toBitVec).toInt := rfl
  have e2 : ((Int32.ofInt y).toBitVec).toInt = y := hY
  have hm : (Int32.ofInt y).toBitVec.msb = false := by
    rw [BitVec.msb_eq_toInt, e2]
    simp only [decide_eq_false_iff_not]
    omega
  have hn : ((Int32.ofInt y).toBitVec.toNat : Int) = y := by
    have h9 := BitVec.toInt_eq_toNat_of_msb hm
    rw [e2] at h9
    exact h9.symm
  have hm2 : ((Int32.ofInt x).toBitVec &&& (Int32.ofInt y).toBitVec).msb = false := by
    rw [BitVec.msb_and, hm, Bool.and_false]
  rw [e, BitVec.toInt_eq_toNat_of_msb hm2, BitVec.toNat_and]
  have := @Nat.and_le_right (Int32.ofInt x).toBitVec.toNat (Int32.ofInt y).toBitVec.toNat
  omega
theorem gw_andl {x y : Int} (hx : 0 ≤ x ∧ x ≤ 2147483647) : 0 ≤ (Int32.ofInt x &&& Int32.ofInt y).toInt ∧ (Int32.ofInt x &&& Int32.ofInt y).toInt ≤ x := by
  have e : Int32.ofInt x &&& Int32.ofInt y = Int32.ofInt y &&& Int32.ofInt x := Int32.and_comm _ _
  rw [e]
  exact gw_and hx
theorem gw_nar_byte {x : Int} : -128 ≤ (vp_nar .byte (Int32.ofInt x)).toInt ∧ (vp_nar .byte (Int32.ofInt x)).toInt ≤ 127 := by
  show -128 ≤ (Int32.ofInt x).toInt8.toInt32.toInt ∧ (Int32.ofInt x).toInt8.toInt32.toInt ≤ 127
  rw [Int8.toInt_toInt32]
  have h1 := (Int32.ofInt x).toInt8.le_toInt
  have h2 := (Int32.ofInt x).toInt8.toInt_lt
  omega
theorem gw_i2b {x : Int} : -128 ≤ (Int32.ofInt x).toInt8.toInt32.toInt ∧ (Int32.ofInt x).toInt8.toInt32.toInt ≤ 127 := gw_nar_byte
theorem gw_nar_boolean {x : Int} : 0 ≤ (vp_nar .boolean (Int32.ofInt x)).toInt ∧ (vp_nar .boolean (Int32.ofInt x)).toInt ≤ 1 := gw_and (y := 1) ⟨by decide, by decide⟩
