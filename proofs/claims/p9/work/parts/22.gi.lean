/-! RANGES of the reference, and what bits and bytes are bound by. -/
def gr_sf : List Nat := [0, 0, 0, 0, 0, 0, 0, 0, 0, 0, 0, 0, 0, 0, 0, 0, 0, 0, 0, 0, 0, 0, 0, 0, 0, 0, 0, 0, 0, 0, 0, 0, 0, 0, 0, 0, 0, 0, 0, 0, 0, 0, 0, 0, 0, 0, 0, 0, 0, 0, 0, 0, 0, 0, 0, 0, 0, 0, 0, 0, 0, 0, 0, 0, 0, 0, 0, 0, 0, 0, 0, 0, 0, 0, 0, 0, 0, 0, 0, 0, 0, 0, 0, 0, 0, 0, 0, 0, 0, 0, 0, 0, 0, 0, 0, 0, 0, 0, 0, 0, 0, 0, 0, 0, 1, 0, 0, 0, 0, 0, 0, 0, 0, 0, 0, 0, 0, 0, 0, 0, 0, 0, 0, 0, 0, 0, 0, 0, 0, 0, 0, 0, 0, 0, 0, 0, 0, 0, 0, 0, 0, 0, 0, 0, 0, 0, 0, 0, 0, 0, 0, 0, 0, 0, 0, 0, 0, 0, 0, 0, 0, 0, 0, 0, 0, 0, 0, 0, 0, 0, 0, 0, 0, 0, 0, 0, 0, 0, 0, 0, 0, 0, 0, 0, 0, 0, 0, 0, 0, 0, 0, 0, 0, 0, 0, 0, 0, 0, 0, 0, 0, 0, 0, 0, 0, 0, 0, 0, 0, 0, 0, 0, 0, 0, 0, 0, 0, 0, 0, 0, 0, 0, 0, 0, 0, 0, 0, 0, 0]
def gr_sr : List Nat := [0, 0, 0, 0, 0, 0, 0, 0, 0, 0, 0, 0, 0, 0, 0, 0, 0, 0, 0, 0, 0, 0, 0, 0, 0, 0, 0, 0, 1, 1, 0, 0, 0, 0, 0, 0, 0, 0, 0, 0, 0, 0, 0, 0, 0, 0, 0, 0, 0, 0, 0, 0, 0, 0, 0, 0, 0, 0, 0, 0, 0, 0, 1, 0, 0, 0, 0, 0, 0, 0, 0, 0, 0, 0, 0, 0, 0, 0, 0, 0, 0, 0, 0, 0, 0, 0, 0, 0, 0, 0, 0, 0, 0, 0, 0, 0, 0, 0, 0, 0, 0, 0, 0, 0, 0, 0, 0, 0, 0, 0, 0, 0, 0, 0, 0, 0, 0, 0, 0, 0, 0, 0, 0, 0, 0, 0, 0, 0, 0, 0, 0, 0, 0, 0, 0, 0, 0, 0]
def gr_l0 : List Int := [0, 0, 0, 0, 0, 0, -1, 0, 0, 0, 0, 0, 0, 0, 0, 0, 0, 0, 0, 0, 0, 0, 0, 0, 0, 0, 0, 0, 0, 0, 0, 0, 0, 0, 0, 0, 0, 0, 0, 0, 0, 0, 0, 0, 0, 0, 0, 0, 0, 0, 0, 0, 0, 0, 0, 0, 0, 0, 0, 0, 0, 0, 0, 0, 0, 0, 0, 0, 0, 0, 0, 0, 0, 0, 0, 0, 0, -1, 0, 0, 0, 0, 0, 0, 0, 0, 0, 0, 0, 0, 0, 0, 0, 0, 0, 0, 0, 0, 0, 0, 0, 0, 0, 0, -2147483648, 0, 0, 0, 0, 0, 0, 0, 0, 0, 0, 0, 0, 0, 0, 0, 0, 0, 0, 0, 0, 0, 0, -1, -1, 0, 0, 0, 0, 0, 0, 0, 0, 0, 0, 0, 0, 0, 0, 0, 0, 0, 0, 0, 0, 0, 0, 0, 0, 0, 0, 0, 0, 0, 0, 0, 0, 0, 0, 0, 0, 0, 0, 0, 0, 0, 0, 0, 0, 0, 0, 0, 0, -1, -2147483648, 0, 0, 0, 0, 0, 0, 0, 0, 0, 0, 0, 0, 0, 0, 0, 0, 0, 0, 0, 0, 0, 0, 0, 0, 0, 0, 0, 0, 0, 0, 0, 0, 0, 0, 0, 0, 0, 0, 0, 0, 0, 0, 0, 0, 0, 0, 0, 0, 0, 0]
def gr_h0 : List Int := [2, 8, 32, 96, 8, 64, 7, 0, 0, 0, 0, 0, 0, 0, 0, 0, 0, 0, 0, 0, 0, 0, 0, 0, 0, 0, 0, 0, 0, 0, 0, 0, 0, 0, 0, 0, 0, 0, 0, 0, 0, 0, 2000, 0, 0, 0, 0, 0, 0, 0, 0, 0, 0, 0, 0, 0, 0, 0, 0, 2000, 0, 0, 0, 0, 2000, 0, 0, 0, 1000, 1000, 1000, 5, 1000, 1001, 999999, 0, 6, 1001, 1000, 6, 0, 0, 0, 0, 0, 0, 0, 0, 0, 0, 0, 0, 0, 0, 0, 0, 0, 0, 0, 1000, 1000000, 10000, 0, 0, 2147483647, 0, 16777215, 0, 0, 0, 0, 0, 0, 0, 0, 0, 0, 0, 6, 6, 3, 0, 47, 95, 0, 0, 24, 7, 1000000, 0, 0, 0, 1536, 7, 0, 0, 24, 40000, 4, 0, 0, 0, 0, 24, 0, 0, 0, 0, 0, 0, 0, 0, 0, 0, 0, 0, 0, 3000, 9000, 7, 1, 400001, 0, 0, 0, 0, 7, 3071, 24, 24, 384, 0, 0, 0, 0, 0, 0, 2999, 2147483647, 3000, 9000, 0, 0, 0, 0, 0, 16, 0, 2000, 0, 0, 0, 0, 0, 0, 0, 0, 0, 0, 0, 0, 16, 0, 0, 0, 0, 100, 0, 0, 0, 0, 2400, 0, 0, 0, 0, 1300, 1300, 1, 0, 399, 20001, 0, 0, 0, 0, 0, 0, 0]
def gr_l1 : List Int := [0, 0, 0, 0, 0, 0, 0, 0, 0, -1, -1, -1, 0, 0, 0, 0, 0, 0, 0, 0, 0, 0, 0, 0, 0, -2147483648, -16, 0, -2147483648, -2147483648, 0, 0, 0, -1, -3, 0, 0, -1, 0, 0, 0, 0, -4, 0, 0, 0, 0, 0, 0, 0, -128, 0, 0, 0, 0, -128, -128, -128, -2147483648, 0, 0, 0, -2147483648, 0, 0, -1, -1, -4, 0, 0, 0, 0, 0, -1, 0, -128, -128, -128, -1, 0, 0, 0, -128, -128, 0, 0, 0, 0, 0, -1, 0, 0, -1, 0, 0, 0, -1, 0, 0, 0, 0, 0, 0, 0, 0, -2147483648, 0, 0, 0, 0, 0, -2147483648, 0, 0, 0, -128, 0, 0, -2147483648, 0, 0, 0, 0, -128, 0, -128, 0, 0, 0, -1, -2, 0, 0, -2147483648, -2147483648, -2147483648, 0, -2147483648]
def gr_h1 : List Int := [0, 0, 0, 0, 0, 4, 31, 31, 10000, 1999, 7, 7, 8, 48, 16, 24, 24, 64, 384, 0, 0, 0, 0, 7, 6, 2147483647, 32015, 32015, 2147483647, 2147483647, 24, 16777215, 2000, 2000, 32015, 95, 23, 32015, 16777215, 10000, 95, 6, 32015, 16777215, 6, 2, 6, 3, 7, 10000, 127, 4, 1999, 1999, 95, 127, 127, 127, 2147483647, 95, 31, 0, 2147483647, 16777215, 2000, 2000, 32015, 32015, 16777215, 2, 6, 3, 7, 1000, 0, 127, 127, 127, 24, 1535, 23, 1536, 127, 127, 24, 24, 31, 24, 16777215, 2999, 9000, 9000, 2999, 2999, 95, 384, 3071, 2999, 8999, 16777215, 16777215, 2999, 2999, 24, 16, 2147483647, 8999, 65535, 1, 2999, 15, 2147483647, 95, 95, 60, 127, 200, 16777215, 2147483647, 1439, 24, 60, 1439, 127, 200, 127, 24, 7, 24, 1001, 12, 99, 23, 2147483647, 2147483647, 2147483647, 2000000, 2147483647]
def gr_ni : List Int → Nat → Int
  | [], _ => 0
  | x :: _, 0 => x
  | _ :: l, n + 1 => gr_ni l n
def gr_lo (a k : Nat) : Int := match a with
  | 0 => gr_ni gr_l0 k
  | a + 1 => gr_ni gr_l1 a
def gr_hi (a k : Nat) : Int := match a with
  | 0 => gr_ni gr_h0 k
  | a + 1 => gr_ni gr_h1 a
/-- every int within its range (slots that are no ints, and places beyond a row, are of no account: there too) -/
def gr_sp (z : Int) : Prop := z = -2147483648 ∨ z = 2147483647 ∨ -16 ≤ z ∧ z ≤ 32015
def gr_q (a k : Nat) (z : Int) : Prop := match a with
  | 0 => (match gr_nth gr_sf k with
    | 0 => True
    | _ => gr_sp z)
  | a + 1 => (match gr_nth gr_sr a with
    | 0 => True
    | _ => gr_sp z)
def gr_Inv (I : gr_I) : Prop := ∀ a k, (gr_lo a k ≤ I a k ∧ I a k ≤ gr_hi a k) ∧ gr_q a k (I a k)
theorem gr_Inv.up {I : gr_I} (h : gr_Inv I) {a k : Nat} {z : Int} (hz : (gr_lo a k ≤ z ∧ z ≤ gr_hi a k) ∧ gr_q a k z) : gr_Inv (gr_u I a k z) := fun b j => by
  by_cases hb : b = a ∧ j = k
  · obtain ⟨rfl, rfl⟩ := hb
    rw [gr_u_eq]
    exact hz
  · rw [gr_u_ne I z hb]
    exact h b j
/-- which slots a method may change: fields, rows -/
def gr_in (fs as : List Nat) (a k : Nat) : Bool := match a with
  | 0 => fs.elem k
  | a + 1 => as.elem (a + 1)
def gr_fr (fs as : List Nat) (I Iₚ : gr_I) : Prop := ∀ b j, gr_in fs as b j = false → Iₚ b j = I b j
def gr_fj (fs as : List Nat) (J Jₚ : gr_J) : Prop := ∀ b j, gr_in fs as b j = false → Jₚ b j = J b j
theorem gr_in_sub {fs as fs' as' : List Nat} (h1 : fs'.all (fun x => fs.elem x) = true) (h2 : as'.all (fun x => as.elem x) = true) {b j : Nat} (h : gr_in fs as b j = false) : gr_in fs' as' b j = false := by
  cases hb : gr_in fs' as' b j with
  | false => rfl
  | true =>
    cases b with
    | zero =>
      have h3 := List.all_eq_true.mp h1 j (List.elem_iff.mp hb)
      have h4 : fs.elem j = false := h
      rw [h4] at h3
      cases h3
    | succ b =>
      have h3 := List.all_eq_true.mp h2 (b + 1) (List.elem_iff.mp hb)
      have h4 : as.elem (b + 1) = false := h
      rw [h4] at h3
      cases h3
theorem gr_frt {fs as fs' as' : List Nat} {I0 I Iₚ : gr_I} (h : gr_fr fs as I0 I) (hₚ : gr_fr fs' as' I Iₚ) (h1 : fs'.all (fun x => fs.elem x) = true) (h2 : as'.all (fun x => as.elem x) = true) : gr_fr fs as I0 Iₚ := fun b j hb => (hₚ b j (gr_in_sub h1 h2 hb)).trans (h b j hb)
theorem gr_fjt {fs as fs' as' : List Nat} {J0 J Jₚ : gr_J} (h : gr_fj fs as J0 J) (hₚ : gr_fj fs' as' J Jₚ) (h1 : fs'.all (fun x => fs.elem x) = true) (h2 : as'.all (fun x => as.elem x) = true) : gr_fj fs as J0 Jₚ := fun b j hb => (hₚ b j (gr_in_sub h1 h2 hb)).trans (h b j hb)
section GI
variable {E : gv_E} {Q : gz_S → Prop} {pc a k : Nat} {lv lvₚ : List (Nat × gz_V)} {st : List gz_V} {sh : gz_Sh} {I : gr_I} {J : gr_J}
theorem gr_st {fs as : List Nat} {I0 : gr_I} {z : Int} (hI : gr_Inv I) (hF : gr_fr fs as I0 I) (ht : gr_ty a k = 0) (hm : gr_in fs as a k = true) (hz : (gr_lo a k ≤ z ∧ z ≤ gr_hi a k) ∧ gr_q a k z) (kk : ∀ Iₚ : gr_I, gr_Inv Iₚ → gr_fr fs as I0 Iₚ → Iₚ a k = z → (∀ b j, ¬ (b = a ∧ j = k) → Iₚ b j = I b j) → gv_X E Q (pc, lv, st, sh, gr_h Iₚ J)) : gv_X E Q (pc, lv, st, sh, gz_up (gr_h I J) a k (.inl z)) := by
  rw [gr_up ht]
  refine kk _ (hI.up hz) (fun b j hb => ?_) (gr_u_eq _ _ _ _) (fun b j hb => gr_u_ne _ _ hb)
  rw [gr_u_ne _ _ (fun q => by obtain ⟨rfl, rfl⟩ := q; rw [hm] at hb; cases hb)]
  exact hF b j hb
theorem gr_stJ {fs as : List Nat} {J0 : gr_J} {z : Int64} (hF : gr_fj fs as J0 J) (ht : gr_ty a k = 1) (hm : gr_in fs as a k = true) (kk : ∀ Jₚ : gr_J, gr_fj fs as J0 Jₚ → gv_X E Q (pc, lv, st, sh, gr_h I Jₚ)) : gv_X E Q (pc, lv, st, sh, gz_up (gr_h I J) a k (.inr (.inl z))) := by
  rw [gr_vp ht]
  refine kk _ (fun b j hb => ?_)
  unfold gr_v
  by_cases h1 : b = a
  · by_cases h2 : j = k
    · subst h1 h2
      rw [hm] at hb
      cases hb
    · rw [if_pos h1, if_neg h2]
      exact hF b j hb
  · rw [if_neg h1]
    exact hF b j hb
theorem gv_pick {h : gz_H} (ks : List Nat) (hs : ks.filterMap (fun k => lv[k]?) = lvₚ) (kk : gv_X E Q (pc, lvₚ, st, sh, h)) : gv_X E Q (pc, lv, st, sh, h) := gv_sub (fun q hq => by
  rw [← hs] at hq
  obtain ⟨k, -, hk⟩ := List.mem_filterMap.mp hq
  exact List.mem_of_getElem? hk) kk
end GI
theorem gw_any (w : Int32) : -2147483648 ≤ w.toInt ∧ w.toInt ≤ 2147483647 := ⟨by have := w.le_toInt; omega, by have := w.toInt_lt; omega⟩
theorem gw_neg {x : Int} (hx : -2147483647 ≤ x ∧ x ≤ 2147483647) : (-Int32.ofInt x).toInt = -x := by
  rw [← Int32.ofInt_neg]
  exact gz_toInt ⟨by omega, by omega⟩
theorem gw_and {x y : Int} (hy : 0 ≤ y ∧ y ≤ 2147483647) : 0 ≤ (Int32.ofInt x &&& Int32.ofInt y).toInt ∧ (Int32.ofInt x &&& Int32.ofInt y).toInt ≤ y := by
  have hY : (Int32.ofInt y).toInt = y := gz_toInt ⟨by omega, by omega⟩
  have e : (Int32.ofInt x &&& Int32.ofInt y).toInt = ((Int32.ofInt x).toBitVec &&& (Int32.ofInt y).toBitVec).toInt := rfl
  have e2 : ((Int32.ofInt y).toBitVec).toInt = y := hY
  have hm : (Int32.ofInt y).toBitVec.msb = false := by
    rw [BitVec.msb_eq_toInt, e2]
    simp only [decide_eq_false_iff_not]
    omega
  have hn : ((Int32.ofInt y).toBitVec.toNat : Int) = y := by
    have h9 := BitVec.toInt_eq_toNat_of_msb hm
    rw [e2] at h9
    exact h9.symm
  have hm2 : ((Int32.ofInt x).toBitVec &&& (Int32.ofInt y).toBitVec).msb = false := by
    rw [BitVec.msb_and, hm, Bool.and_false]
  rw [e, BitVec.toInt_eq_toNat_of_msb hm2, BitVec.toNat_and]
  have := @Nat.and_le_right (Int32.ofInt x).toBitVec.toNat (Int32.ofInt y).toBitVec.toNat
  omega
theorem gw_andl {x y : Int} (hx : 0 ≤ x ∧ x ≤ 2147483647) : 0 ≤ (Int32.ofInt x &&& Int32.ofInt y).toInt ∧ (Int32.ofInt x &&& Int32.ofInt y).toInt ≤ x := by
  have e : Int32.ofInt x &&& Int32.ofInt y = Int32.ofInt y &&& Int32.ofInt x := Int32.and_comm _ _
  rw [e]
  exact gw_and hx
theorem gw_nar_byte {x : Int} : -128 ≤ (vp_nar .byte (Int32.ofInt x)).toInt ∧ (vp_nar .byte (Int32.ofInt x)).toInt ≤ 127 := by
  show -128 ≤ (Int32.ofInt x).toInt8.toInt32.toInt ∧ (Int32.ofInt x).toInt8.toInt32.toInt ≤ 127
  rw [Int8.toInt_toInt32]
  have h1 := (Int32.ofInt x).toInt8.le_toInt
  have h2 := (Int32.ofInt x).toInt8.toInt_lt
  omega
theorem gw_i2b {x : Int} : -128 ≤ (Int32.ofInt x).toInt8.toInt32.toInt ∧ (Int32.ofInt x).toInt8.toInt32.toInt ≤ 127 := gw_nar_byte
theorem gw_nar_boolean {x : Int} : 0 ≤ (vp_nar .boolean (Int32.ofInt x)).toInt ∧ (vp_nar .boolean (Int32.ofInt x)).toInt ≤ 1 := gw_and (y := 1) ⟨by decide, by decide⟩
theorem gw_shr {x y : Int} (hx : 0 ≤ x ∧ x ≤ 2147483647) : 0 ≤ (Int32.ofInt x >>> (Int32.ofInt y &&& 31)).toInt ∧ (Int32.ofInt x >>> (Int32.ofInt y &&& 31)).toInt ≤ x := by
  have hX : (Int32.ofInt x).toBitVec.toInt = x := gz_toInt ⟨by omega, by omega⟩
  have e : ∃ k : Nat, (Int32.ofInt x >>> (Int32.ofInt y &&& 31)).toInt = (((Int32.ofInt x).toBitVec).sshiftRight k).toInt := ⟨_, rfl⟩
  obtain ⟨k, e⟩ := e
  rw [e, BitVec.toInt_sshiftRight, hX, Int.shiftRight_eq_div_pow]
  have hp : (0 : Int) < ((2 ^ k : Nat) : Int) := by exact_mod_cast Nat.two_pow_pos k
  exact ⟨Int.ediv_nonneg hx.1 (Int.le_of_lt hp), Int.ediv_le_self _ hx.1⟩
theorem gw_div {x y : Int} (hx : 0 ≤ x ∧ x ≤ 2147483647) (hy : 0 < y ∧ y ≤ 2147483647) : (Int32.ofInt x / Int32.ofInt y).toInt = x / y := by
  have hX : (Int32.ofInt x).toInt = x := gz_toInt ⟨by omega, by omega⟩
  have hY : (Int32.ofInt y).toInt = y := gz_toInt ⟨by omega, by omega⟩
  have hne : Int32.ofInt y ≠ -1 := fun q => by
    have h9 : (Int32.ofInt y).toInt = (-1 : Int32).toInt := congrArg _ q
    have h8 : (-1 : Int32).toInt = -1 := by decide
    rw [hY, h8] at h9
    omega
  rw [Int32.toInt_div_of_ne_right _ _ hne, hX, hY, Int.tdiv_eq_ediv_of_nonneg hx.1]
theorem gw_rem {x y : Int} (hx : 0 ≤ x ∧ x ≤ 2147483647) (hy : 0 < y ∧ y ≤ 2147483647) : (Int32.ofInt x - Int32.ofInt x / Int32.ofInt y * Int32.ofInt y).toInt = x % y ∧ 0 ≤ (Int32.ofInt x - Int32.ofInt x / Int32.ofInt y * Int32.ofInt y).toInt ∧ (Int32.ofInt x - Int32.ofInt x / Int32.ofInt y * Int32.ofInt y).toInt < y := by
  have h1 : Int32.ofInt x / Int32.ofInt y = Int32.ofInt (x / y) := by rw [← gw_div hx hy, gz_back]
  have h2 : x - x / y * y = x % y := by rw [Int.mul_comm, Int.emod_def]
  have h3 := Int.emod_nonneg x (show y ≠ 0 by omega)
  have h4 := Int.emod_lt_of_pos x hy.1
  have e : (Int32.ofInt x - Int32.ofInt x / Int32.ofInt y * Int32.ofInt y).toInt = x % y := by
    rw [h1, ← Int32.ofInt_mul, ← Int32.ofInt_sub, h2]
    exact gz_toInt ⟨by omega, by omega⟩
  exact ⟨e, by rw [e]; exact h3, by rw [e]; exact h4⟩
theorem gw_nn {b : BitVec 32} {k : Nat} (hk : k ≤ 31) (h : b.toNat < 2 ^ k) : b.toInt = (b.toNat : Int) := by
  refine BitVec.toInt_eq_toNat_of_msb ?_
  rw [BitVec.msb_eq_decide]
  simp only [decide_eq_false_iff_not, Nat.not_le]
  exact Nat.lt_of_lt_of_le h (Nat.pow_le_pow_right (by decide) hk)
theorem gw_nat {x : Int} (hx : 0 ≤ x ∧ x ≤ 2147483647) : ((Int32.ofInt x).toBitVec.toNat : Int) = x := by
  have e2 : ((Int32.ofInt x).toBitVec).toInt = x := gz_toInt ⟨by omega, by omega⟩
  have hm : (Int32.ofInt x).toBitVec.msb = false := by
    rw [BitVec.msb_eq_toInt, e2]
    simp only [decide_eq_false_iff_not]
    omega
  have h9 := BitVec.toInt_eq_toNat_of_msb hm
  rw [e2] at h9
  exact h9.symm
theorem gw_or {x y : Int} (hx : 0 ≤ x ∧ x ≤ 16777215) (hy : 0 ≤ y ∧ y ≤ 16777215) : 0 ≤ (Int32.ofInt x ||| Int32.ofInt y).toInt ∧ (Int32.ofInt x ||| Int32.ofInt y).toInt ≤ 16777215 := by
  have hX := gw_nat (x := x) ⟨hx.1, by omega⟩
  have hY := gw_nat (x := y) ⟨hy.1, by omega⟩
  have e : (Int32.ofInt x ||| Int32.ofInt y).toInt = ((Int32.ofInt x).toBitVec ||| (Int32.ofInt y).toBitVec).toInt := rfl
  have hn : ((Int32.ofInt x).toBitVec ||| (Int32.ofInt y).toBitVec).toNat < 2 ^ 24 := by
    rw [BitVec.toNat_or]
    exact Nat.or_lt_two_pow (by omega) (by omega)
  rw [e, gw_nn (by decide) hn]
  omega
theorem gw_shl {x y : Int} (hx : 0 ≤ x ∧ x ≤ 7) (hy : 0 ≤ y ∧ y ≤ 21) : 0 ≤ (Int32.ofInt x <<< (Int32.ofInt y &&& 31)).toInt ∧ (Int32.ofInt x <<< (Int32.ofInt y &&& 31)).toInt ≤ 14680064 := by
  obtain ⟨a, rfl⟩ : ∃ a : Nat, x = (a : Int) := ⟨x.toNat, by omega⟩
  obtain ⟨b, rfl⟩ : ∃ b : Nat, y = (b : Int) := ⟨y.toNat, by omega⟩
  have ha : a < 8 := by omega
  have hb : b < 22 := by omega
  have h : ∀ a < 8, ∀ b < 22, 0 ≤ (Int32.ofInt (a : Nat) <<< (Int32.ofInt (b : Nat) &&& 31)).toInt ∧ (Int32.ofInt (a : Nat) <<< (Int32.ofInt (b : Nat) &&& 31)).toInt ≤ 14680064 := by decide +kernel
  exact h a ha b hb
theorem gw_cmp (x y : Int64) : -1 ≤ (lg_cmp x y).toInt ∧ (lg_cmp x y).toInt ≤ 1 := by
  unfold lg_cmp
  split
  · decide
  · split
    · decide
    · decide
