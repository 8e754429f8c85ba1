theorem gw_sr {z y : Int} {k c : Nat} (hz : 0 ≤ z ∧ z ≤ 65535) (hc : ((Int32.ofInt y &&& 31).toBitVec.smod 32).toNat = c) (hk : 2 ^ c = k) : (Int32.ofInt z >>> (Int32.ofInt y &&& 31)).toInt = z / ((k : Nat) : Int) := by
  have hX : (Int32.ofInt z).toBitVec.toInt = z := gz_toInt ⟨by omega, by omega⟩
  have e : (Int32.ofInt z >>> (Int32.ofInt y &&& 31)).toInt = (((Int32.ofInt z).toBitVec).sshiftRight ((Int32.ofInt y &&& 31).toBitVec.smod 32).toNat).toInt := rfl
  rw [e, BitVec.toInt_sshiftRight, hX, Int.shiftRight_eq_div_pow, hc, ← hk]
theorem gw_a15 {x : Int} (hx : 0 ≤ x ∧ x ≤ 65535) : (Int32.ofInt x &&& Int32.ofInt 15).toInt = x % 16 := by
  have hX := gw_nat (x := x) ⟨by omega, by omega⟩
  have hR := gw_nat (x := 15) ⟨by omega, by omega⟩
  have e : (Int32.ofInt x &&& Int32.ofInt 15).toInt = ((Int32.ofInt x).toBitVec &&& (Int32.ofInt 15).toBitVec).toInt := rfl
  have eb : (Int32.ofInt 15).toBitVec.toNat = 2 ^ 4 - 1 := by omega
  have hn : ((Int32.ofInt x).toBitVec &&& (Int32.ofInt 15).toBitVec).toNat = (Int32.ofInt x).toBitVec.toNat % 2 ^ 4 := by
    rw [BitVec.toNat_and, eb]
    exact Nat.and_two_pow_sub_one_eq_mod _ _
  rw [e, gw_nn (k := 24) (by decide) (by rw [hn]; omega), hn]
  omega
