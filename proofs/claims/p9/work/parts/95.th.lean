/-! VALUES, packed three bits a FEATURE: eight digits -/
theorem gs_or_mid {hi n lo : Nat} {i : Nat} (hl : lo < 2 ^ i) (hn : n < 8) : (hi * 2 ^ (i + 3) + lo) ||| (n * 2 ^ i) = hi * 2 ^ (i + 3) + n * 2 ^ i + lo := by
  have h1 : lo < 2 ^ (i + 3) := Nat.lt_of_lt_of_le hl (Nat.pow_le_pow_right (by decide) (by omega))
  have h2 : n * 2 ^ i + lo < 2 ^ (i + 3) := by
    have h3 : n * 2 ^ i ≤ 7 * 2 ^ i := Nat.mul_le_mul_right _ (by omega)
    rw [show 2 ^ (i + 3) = 8 * 2 ^ i from by rw [Nat.pow_add, Nat.mul_comm]]
    omega
  have e1 : hi * 2 ^ (i + 3) + lo = (hi * 2 ^ (i + 3)) ||| lo := by
    have := Nat.two_pow_add_eq_or_of_lt h1 hi
    rw [Nat.mul_comm] at this
    exact this
  have e2 : n * 2 ^ i + lo = (n * 2 ^ i) ||| lo := by
    have := Nat.two_pow_add_eq_or_of_lt hl n
    rw [Nat.mul_comm] at this
    exact this
  have e3 : hi * 2 ^ (i + 3) + (n * 2 ^ i + lo) = (hi * 2 ^ (i + 3)) ||| (n * 2 ^ i + lo) := by
    have := Nat.two_pow_add_eq_or_of_lt h2 hi
    rw [Nat.mul_comm] at this
    exact this
  rw [Nat.add_assoc, e3, e1, e2, Nat.or_assoc, Nat.or_comm lo]
/-- the digits -/
def gs_dg (x : Int) (d : Nat → Int) : Prop := x = d 0 + 8 * d 1 + 64 * d 2 + 512 * d 3 + 4096 * d 4 + 32768 * d 5 + 262144 * d 6 + 2097152 * d 7 ∧ ∀ f : Nat, 0 ≤ d f ∧ d f ≤ 7
def gs_b0 (z : Int) : Int := if z = 0 then 0 else 1
def gs_gc (d : Nat → Int) : Int := gs_b0 (d 0) + gs_b0 (d 1) + gs_b0 (d 2) + gs_b0 (d 3) + gs_b0 (d 4) + gs_b0 (d 5) + gs_b0 (d 6) + gs_b0 (d 7)
theorem gs_b0_r (z : Int) : 0 ≤ gs_b0 z ∧ gs_b0 z ≤ 1 ∧ (gs_b0 z = 1 → ¬ z = 0) ∧ (¬ z = 0 → gs_b0 z = 1) := by
  unfold gs_b0
  by_cases c : z = 0
  · rw [if_pos c]
    omega
  · rw [if_neg c]
    omega
theorem gs_and7 {z : Int} (h : 0 ≤ z ∧ z ≤ 2147483647) : (Int32.ofInt z &&& Int32.ofInt 7).toInt = z % 8 := by
  have hX := gw_nat (x := z) ⟨h.1, by omega⟩
  have e : (Int32.ofInt z &&& Int32.ofInt 7).toInt = ((Int32.ofInt z).toBitVec &&& (Int32.ofInt 7).toBitVec).toInt := rfl
  have h7 : (Int32.ofInt 7).toBitVec.toNat = 7 := by decide
  have hn : ((Int32.ofInt z).toBitVec &&& (Int32.ofInt 7).toBitVec).toNat = (Int32.ofInt z).toBitVec.toNat % 8 := by
    rw [BitVec.toNat_and, h7]
    exact Nat.and_two_pow_sub_one_eq_mod _ 3
  rw [e, gw_nn (k := 24) (by decide) (by rw [hn]; omega), hn]
  omega
theorem gs_shr {x : Int} (h : 0 ≤ x ∧ x ≤ 16777215) : ∀ f : Nat, f < 8 → (Int32.ofInt x >>> (Int32.ofInt (3 * (f : Int)) &&& 31)).toInt = x / 8 ^ f := by
  have hX : (Int32.ofInt x).toBitVec.toInt = x := gz_toInt ⟨by omega, by omega⟩
  intro f hf
  have e : (Int32.ofInt x >>> (Int32.ofInt (3 * (f : Int)) &&& 31)).toInt = (((Int32.ofInt x).toBitVec).sshiftRight (3 * f)).toInt := by
    have hk : f = 0 ∨ f = 1 ∨ f = 2 ∨ f = 3 ∨ f = 4 ∨ f = 5 ∨ f = 6 ∨ f = 7 := by omega
    rcases hk with h | h | h | h | h | h | h | h <;> (subst h; rfl)
  rw [e, BitVec.toInt_sshiftRight, hX, Int.shiftRight_eq_div_pow, Nat.pow_mul]
  have : (((2 ^ 3) ^ f : Nat) : Int) = 8 ^ f := by
    rw [Int.natCast_pow]
    rfl
  rw [this]
theorem gs_pkb_d {x : Int} {d : Nat → Int} (h : gs_dg x d) {f : Nat} (hf : f < 8) : gs_pkb x (3 * (f : Int)) = d f := by
  obtain ⟨hx, hd⟩ := h
  have h0 := hd 0
  have h1 := hd 1
  have h2 := hd 2
  have h3 := hd 3
  have h4 := hd 4
  have h5 := hd 5
  have h6 := hd 6
  have h7 := hd 7
  have r : 0 ≤ x ∧ x ≤ 16777215 := by omega
  unfold gs_pkb
  rw [gs_shr r f hf]
  have hk : f = 0 ∨ f = 1 ∨ f = 2 ∨ f = 3 ∨ f = 4 ∨ f = 5 ∨ f = 6 ∨ f = 7 := by omega
  rcases hk with h | h | h | h | h | h | h | h
  · subst h; rw [gs_and7 (by show 0 ≤ x / 1 ∧ x / 1 ≤ _; omega)]; show x / 1 % 8 = d 0; omega
  · subst h; rw [gs_and7 (by show 0 ≤ x / 8 ∧ x / 8 ≤ _; omega)]; show x / 8 % 8 = d 1; omega
  · subst h; rw [gs_and7 (by show 0 ≤ x / 64 ∧ x / 64 ≤ _; omega)]; show x / 64 % 8 = d 2; omega
  · subst h; rw [gs_and7 (by show 0 ≤ x / 512 ∧ x / 512 ≤ _; omega)]; show x / 512 % 8 = d 3; omega
  · subst h; rw [gs_and7 (by show 0 ≤ x / 4096 ∧ x / 4096 ≤ _; omega)]; show x / 4096 % 8 = d 4; omega
  · subst h; rw [gs_and7 (by show 0 ≤ x / 32768 ∧ x / 32768 ≤ _; omega)]; show x / 32768 % 8 = d 5; omega
  · subst h; rw [gs_and7 (by show 0 ≤ x / 262144 ∧ x / 262144 ≤ _; omega)]; show x / 262144 % 8 = d 6; omega
  · subst h; rw [gs_and7 (by show 0 ≤ x / 2097152 ∧ x / 2097152 ≤ _; omega)]; show x / 2097152 % 8 = d 7; omega
theorem gs_shl8 : ∀ n : Nat, n < 8 → ∀ f : Nat, f < 8 → (Int32.ofInt (n : Int) <<< (Int32.ofInt (3 * (f : Int)) &&& 31)).toInt = ((n * 2 ^ (3 * f) : Nat) : Int) := by decide +kernel
theorem gs_pko_a {x n : Int} {f : Nat} (hx : 0 ≤ x ∧ x ≤ 16777215) (hn : 0 ≤ n ∧ n ≤ 7) (hf : f < 8) {hi lo : Nat} (e : x = ((hi * 2 ^ (3 * f + 3) + lo : Nat) : Int)) (hl : lo < 2 ^ (3 * f)) (hh : hi * 2 ^ (3 * f + 3) + 7 * 2 ^ (3 * f) + lo < 16777216) : gs_pko x n (3 * (f : Int)) = x + n * ((2 ^ (3 * f) : Nat) : Int) := by
  obtain ⟨m, rfl⟩ : ∃ m : Nat, n = (m : Int) := ⟨n.toNat, by omega⟩
  unfold gs_pko
  rw [gs_shl8 m (by omega) f hf]
  have hm : m * 2 ^ (3 * f) ≤ 7 * 2 ^ (3 * f) := Nat.mul_le_mul_right _ (by omega)
  have hX := gw_nat (x := x) ⟨hx.1, by omega⟩
  have hY := gw_nat (x := ((m * 2 ^ (3 * f) : Nat) : Int)) ⟨by omega, by omega⟩
  have e9 : (Int32.ofInt x ||| Int32.ofInt ((m * 2 ^ (3 * f) : Nat) : Int)).toInt = ((Int32.ofInt x).toBitVec ||| (Int32.ofInt ((m * 2 ^ (3 * f) : Nat) : Int)).toBitVec).toInt := rfl
  have a1 : (Int32.ofInt x).toBitVec.toNat = hi * 2 ^ (3 * f + 3) + lo := by omega
  have a2 : (Int32.ofInt ((m * 2 ^ (3 * f) : Nat) : Int)).toBitVec.toNat = m * 2 ^ (3 * f) := by omega
  have hn9 : ((Int32.ofInt x).toBitVec ||| (Int32.ofInt ((m * 2 ^ (3 * f) : Nat) : Int)).toBitVec).toNat = hi * 2 ^ (3 * f + 3) + m * 2 ^ (3 * f) + lo := by
    rw [BitVec.toNat_or, a1, a2]
    exact gs_or_mid hl (by omega)
  rw [e9, gw_nn (k := 24) (by decide) (by rw [hn9]; omega), hn9, e]
  rw [← Int.natCast_mul, ← Int.natCast_add]
  omega
theorem gs_dg_r {x : Int} {d : Nat → Int} (h : gs_dg x d) : 0 ≤ x ∧ x ≤ 16777215 := by
  obtain ⟨hx, hd⟩ := h
  have h0 := hd 0
  have h1 := hd 1
  have h2 := hd 2
  have h3 := hd 3
  have h4 := hd 4
  have h5 := hd 5
  have h6 := hd 6
  have h7 := hd 7
  omega
theorem gs_dg_put {x n : Int} {d : Nat → Int} (h : gs_dg x d) {f : Nat} (hf : f < 8) (h0 : d f = 0) (hn : 0 ≤ n ∧ n ≤ 7) : gs_dg (gs_pko x n (3 * (f : Int))) (fun g => if g = f then n else d g) := by
  have r := gs_dg_r h
  obtain ⟨hx, hd⟩ := h
  have k0 := hd 0
  have k1 := hd 1
  have k2 := hd 2
  have k3 := hd 3
  have k4 := hd 4
  have k5 := hd 5
  have k6 := hd 6
  have k7 := hd 7
  refine ⟨?_, fun g => ?_⟩
  · have hk : f = 0 ∨ f = 1 ∨ f = 2 ∨ f = 3 ∨ f = 4 ∨ f = 5 ∨ f = 6 ∨ f = 7 := by omega
    rcases hk with q | q | q | q | q | q | q | q
    · subst q
      have e := gs_pko_a (f := 0) (hi := (x / 8).toNat) (lo := (x % 1).toNat) r hn (by decide) (by show x = (((x / 8).toNat * 8 + (x % 1).toNat : Nat) : Int); omega) (by show (x % 1).toNat < 1; omega) (by show (x / 8).toNat * 8 + 7 * 1 + (x % 1).toNat < 16777216; omega)
      rw [e]
      show x + n * ((1 : Nat) : Int) = n + 8 * d 1 + 64 * d 2 + 512 * d 3 + 4096 * d 4 + 32768 * d 5 + 262144 * d 6 + 2097152 * d 7
      omega
    · subst q
      have e := gs_pko_a (f := 1) (hi := (x / 64).toNat) (lo := (x % 8).toNat) r hn (by decide) (by show x = (((x / 64).toNat * 64 + (x % 8).toNat : Nat) : Int); omega) (by show (x % 8).toNat < 8; omega) (by show (x / 64).toNat * 64 + 7 * 8 + (x % 8).toNat < 16777216; omega)
      rw [e]
      show x + n * ((8 : Nat) : Int) = d 0 + 8 * n + 64 * d 2 + 512 * d 3 + 4096 * d 4 + 32768 * d 5 + 262144 * d 6 + 2097152 * d 7
      omega
    · subst q
      have e := gs_pko_a (f := 2) (hi := (x / 512).toNat) (lo := (x % 64).toNat) r hn (by decide) (by show x = (((x / 512).toNat * 512 + (x % 64).toNat : Nat) : Int); omega) (by show (x % 64).toNat < 64; omega) (by show (x / 512).toNat * 512 + 7 * 64 + (x % 64).toNat < 16777216; omega)
      rw [e]
      show x + n * ((64 : Nat) : Int) = d 0 + 8 * d 1 + 64 * n + 512 * d 3 + 4096 * d 4 + 32768 * d 5 + 262144 * d 6 + 2097152 * d 7
      omega
    · subst q
      have e := gs_pko_a (f := 3) (hi := (x / 4096).toNat) (lo := (x % 512).toNat) r hn (by decide) (by show x = (((x / 4096).toNat * 4096 + (x % 512).toNat : Nat) : Int); omega) (by show (x % 512).toNat < 512; omega) (by show (x / 4096).toNat * 4096 + 7 * 512 + (x % 512).toNat < 16777216; omega)
      rw [e]
      show x + n * ((512 : Nat) : Int) = d 0 + 8 * d 1 + 64 * d 2 + 512 * n + 4096 * d 4 + 32768 * d 5 + 262144 * d 6 + 2097152 * d 7
      omega
    · subst q
      have e := gs_pko_a (f := 4) (hi := (x / 32768).toNat) (lo := (x % 4096).toNat) r hn (by decide) (by show x = (((x / 32768).toNat * 32768 + (x % 4096).toNat : Nat) : Int); omega) (by show (x % 4096).toNat < 4096; omega) (by show (x / 32768).toNat * 32768 + 7 * 4096 + (x % 4096).toNat < 16777216; omega)
      rw [e]
      show x + n * ((4096 : Nat) : Int) = d 0 + 8 * d 1 + 64 * d 2 + 512 * d 3 + 4096 * n + 32768 * d 5 + 262144 * d 6 + 2097152 * d 7
      omega
    · subst q
      have e := gs_pko_a (f := 5) (hi := (x / 262144).toNat) (lo := (x % 32768).toNat) r hn (by decide) (by show x = (((x / 262144).toNat * 262144 + (x % 32768).toNat : Nat) : Int); omega) (by show (x % 32768).toNat < 32768; omega) (by show (x / 262144).toNat * 262144 + 7 * 32768 + (x % 32768).toNat < 16777216; omega)
      rw [e]
      show x + n * ((32768 : Nat) : Int) = d 0 + 8 * d 1 + 64 * d 2 + 512 * d 3 + 4096 * d 4 + 32768 * n + 262144 * d 6 + 2097152 * d 7
      omega
    · subst q
      have e := gs_pko_a (f := 6) (hi := (x / 2097152).toNat) (lo := (x % 262144).toNat) r hn (by decide) (by show x = (((x / 2097152).toNat * 2097152 + (x % 262144).toNat : Nat) : Int); omega) (by show (x % 262144).toNat < 262144; omega) (by show (x / 2097152).toNat * 2097152 + 7 * 262144 + (x % 262144).toNat < 16777216; omega)
      rw [e]
      show x + n * ((262144 : Nat) : Int) = d 0 + 8 * d 1 + 64 * d 2 + 512 * d 3 + 4096 * d 4 + 32768 * d 5 + 262144 * n + 2097152 * d 7
      omega
    · subst q
      have e := gs_pko_a (f := 7) (hi := (x / 16777216).toNat) (lo := (x % 2097152).toNat) r hn (by decide) (by show x = (((x / 16777216).toNat * 16777216 + (x % 2097152).toNat : Nat) : Int); omega) (by show (x % 2097152).toNat < 2097152; omega) (by show (x / 16777216).toNat * 16777216 + 7 * 2097152 + (x % 2097152).toNat < 16777216; omega)
      rw [e]
      show x + n * ((2097152 : Nat) : Int) = d 0 + 8 * d 1 + 64 * d 2 + 512 * d 3 + 4096 * d 4 + 32768 * d 5 + 262144 * d 6 + 2097152 * n
      omega
  · show 0 ≤ (if g = f then n else d g) ∧ (if g = f then n else d g) ≤ 7
    by_cases c : g = f
    · rw [if_pos c]
      exact hn
    · rw [if_neg c]
      exact hd g
theorem gs_gc_put {n : Int} {d : Nat → Int} {f : Nat} (hf : f < 8) (h0 : d f = 0) (hn : ¬ n = 0) : gs_gc (fun g => if g = f then n else d g) = gs_gc d + 1 := by
  have b1 : gs_b0 n = 1 := if_neg hn
  have b0 : gs_b0 (d f) = 0 := if_pos h0
  have hk : f = 0 ∨ f = 1 ∨ f = 2 ∨ f = 3 ∨ f = 4 ∨ f = 5 ∨ f = 6 ∨ f = 7 := by omega
  unfold gs_gc
  rcases hk with q | q | q | q | q | q | q | q
  · subst q
    show gs_b0 n + gs_b0 (d 1) + gs_b0 (d 2) + gs_b0 (d 3) + gs_b0 (d 4) + gs_b0 (d 5) + gs_b0 (d 6) + gs_b0 (d 7) = _
    omega
  · subst q
    show gs_b0 (d 0) + gs_b0 n + gs_b0 (d 2) + gs_b0 (d 3) + gs_b0 (d 4) + gs_b0 (d 5) + gs_b0 (d 6) + gs_b0 (d 7) = _
    omega
  · subst q
    show gs_b0 (d 0) + gs_b0 (d 1) + gs_b0 n + gs_b0 (d 3) + gs_b0 (d 4) + gs_b0 (d 5) + gs_b0 (d 6) + gs_b0 (d 7) = _
    omega
  · subst q
    show gs_b0 (d 0) + gs_b0 (d 1) + gs_b0 (d 2) + gs_b0 n + gs_b0 (d 4) + gs_b0 (d 5) + gs_b0 (d 6) + gs_b0 (d 7) = _
    omega
  · subst q
    show gs_b0 (d 0) + gs_b0 (d 1) + gs_b0 (d 2) + gs_b0 (d 3) + gs_b0 n + gs_b0 (d 5) + gs_b0 (d 6) + gs_b0 (d 7) = _
    omega
  · subst q
    show gs_b0 (d 0) + gs_b0 (d 1) + gs_b0 (d 2) + gs_b0 (d 3) + gs_b0 (d 4) + gs_b0 n + gs_b0 (d 6) + gs_b0 (d 7) = _
    omega
  · subst q
    show gs_b0 (d 0) + gs_b0 (d 1) + gs_b0 (d 2) + gs_b0 (d 3) + gs_b0 (d 4) + gs_b0 (d 5) + gs_b0 n + gs_b0 (d 7) = _
    omega
  · subst q
    show gs_b0 (d 0) + gs_b0 (d 1) + gs_b0 (d 2) + gs_b0 (d 3) + gs_b0 (d 4) + gs_b0 (d 5) + gs_b0 (d 6) + gs_b0 n = _
    omega
/-- eight FEATURES are all there are -/
theorem gs_gc_8 {d : Nat → Int} (h : gs_gc d = 8) {f : Nat} (hf : f < 8) : ¬ d f = 0 := by
  have r0 := gs_b0_r (d 0)
  have r1 := gs_b0_r (d 1)
  have r2 := gs_b0_r (d 2)
  have r3 := gs_b0_r (d 3)
  have r4 := gs_b0_r (d 4)
  have r5 := gs_b0_r (d 5)
  have r6 := gs_b0_r (d 6)
  have r7 := gs_b0_r (d 7)
  unfold gs_gc at h
  have hk : f = 0 ∨ f = 1 ∨ f = 2 ∨ f = 3 ∨ f = 4 ∨ f = 5 ∨ f = 6 ∨ f = 7 := by omega
  rcases hk with q | q | q | q | q | q | q | q
  · subst q
    exact r0.2.2.1 (by omega)
  · subst q
    exact r1.2.2.1 (by omega)
  · subst q
    exact r2.2.2.1 (by omega)
  · subst q
    exact r3.2.2.1 (by omega)
  · subst q
    exact r4.2.2.1 (by omega)
  · subst q
    exact r5.2.2.1 (by omega)
  · subst q
    exact r6.2.2.1 (by omega)
  · subst q
    exact r7.2.2.1 (by omega)
theorem gs_dg_0 : gs_dg 0 (fun _ => 0) := ⟨rfl, fun _ => ⟨Int.le_refl _, show (0 : Int) ≤ 7 by decide⟩⟩
theorem gs_dg_c {x : Int} {d e : Nat → Int} (h : gs_dg x d) (c : ∀ f, f < 8 → e f = d f) (r : ∀ f : Nat, 0 ≤ e f ∧ e f ≤ 7) : gs_dg x e := by
  refine ⟨?_, r⟩
  rw [c 0 (by decide), c 1 (by decide), c 2 (by decide), c 3 (by decide), c 4 (by decide), c 5 (by decide), c 6 (by decide), c 7 (by decide)]
  exact h.1
theorem gs_dg_u {x y : Int} {d e : Nat → Int} (h : gs_dg x d) (k : gs_dg y e) (c : ∀ f, f < 8 → d f = e f) : x = y := by
  have h1 := h.1
  rw [c 0 (by decide), c 1 (by decide), c 2 (by decide), c 3 (by decide), c 4 (by decide), c 5 (by decide), c 6 (by decide), c 7 (by decide)] at h1
  rw [h1]
  exact k.1.symm
/-- the class packs its VALUES the other way round; i: how many there are -/
def gs_PV (xc xr i : Int) : Prop := ∃ d : Nat → Int, gs_dg xc d ∧ gs_dg xr (fun f => d (7 - f)) ∧ gs_gc d = i
theorem gs_PV_0 : gs_PV 0 0 0 := ⟨fun _ => 0, gs_dg_0, gs_dg_0, rfl⟩
theorem gs_PV_b {xc xr i f : Int} (h : gs_PV xc xr i) (hf : 0 ≤ f ∧ f ≤ 7) : gs_pkb xc (21 - 3 * f) = gs_pkb xr (3 * f) := by
  obtain ⟨d, a, b, _⟩ := h
  obtain ⟨g, rfl⟩ : ∃ g : Nat, f = (g : Int) := ⟨f.toNat, by omega⟩
  rw [gs_pkb_d b (show g < 8 by omega), show 21 - 3 * (g : Int) = 3 * ((7 - g : Nat) : Int) from by omega, gs_pkb_d a (show 7 - g < 8 by omega)]
theorem gs_PV_8 {xc xr f : Int} (h : gs_PV xc xr 8) (hf : 0 ≤ f ∧ f ≤ 7) : ¬ gs_pkb xr (3 * f) = 0 := by
  obtain ⟨d, a, b, c⟩ := h
  obtain ⟨g, rfl⟩ : ∃ g : Nat, f = (g : Int) := ⟨f.toNat, by omega⟩
  rw [gs_pkb_d b (show g < 8 by omega)]
  exact gs_gc_8 c (by omega)
theorem gs_PV_s {xc xr i f n : Int} (h : gs_PV xc xr i) (hf : 0 ≤ f ∧ f ≤ 7) (h0 : gs_pkb xr (3 * f) = 0) (hn : 1 ≤ n ∧ n ≤ 7) : gs_PV (gs_pko xc n (21 - 3 * f)) (gs_pko xr n (3 * f)) (i + 1) := by
  obtain ⟨d, a, b, c⟩ := h
  obtain ⟨g, rfl⟩ : ∃ g : Nat, f = (g : Int) := ⟨f.toNat, by omega⟩
  have hg : g < 8 := by omega
  rw [gs_pkb_d b hg] at h0
  rw [show 21 - 3 * (g : Int) = 3 * ((7 - g : Nat) : Int) from by omega]
  have a2 := gs_dg_put (n := n) a (f := 7 - g) (by omega) h0 ⟨by omega, by omega⟩
  have b2 := gs_dg_put (n := n) b hg h0 ⟨by omega, by omega⟩
  refine ⟨_, a2, gs_dg_c b2 (fun k hk => ?_) (fun k => a2.2 (7 - k)), ?_⟩
  · show (if 7 - k = 7 - g then n else d (7 - k)) = if k = g then n else d (7 - k)
    by_cases e : k = g
    · rw [if_pos e, if_pos (by omega)]
    · rw [if_neg e, if_neg (by omega)]
  · rw [gs_gc_put (by omega) h0 (by omega), c]
theorem gs_PV_eq {xc xr i xc' xr' i' : Int} (h : gs_PV xc xr i) (hₚ : gs_PV xc' xr' i') : xc = xc' ↔ xr = xr' := by
  obtain ⟨d, a, b, _⟩ := h
  obtain ⟨e, a', b', _⟩ := hₚ
  constructor
  · intro q
    refine gs_dg_u b b' (fun f hf => ?_)
    show d (7 - f) = e (7 - f)
    rw [← gs_pkb_d a (show 7 - f < 8 by omega), ← gs_pkb_d a' (show 7 - f < 8 by omega), q]
  · intro q
    refine gs_dg_u a a' (fun f hf => ?_)
    have u := gs_pkb_d b (show 7 - f < 8 by omega)
    have v := gs_pkb_d b' (show 7 - f < 8 by omega)
    have w : d (7 - (7 - f)) = e (7 - (7 - f)) := by
      rw [← u, ← v, q]
    rw [show 7 - (7 - f) = f from by omega] at w
    exact w
