/-! A change of mend() as one number: its price, its place, its form. -/
def gh_CB (t : Nat) (nw : Int) (I : gr_I) (c : Int) : Prop := ∃ k p d : Int, (1 ≤ k ∧ k ≤ 3) ∧ (0 ≤ p ∧ p < nw) ∧ (k = 2 → p + 1 < nw) ∧ (0 ≤ d ∧ d ≤ 1535) ∧ (k = 1 → 0 < I (t + 17 + 2) (Int.toNat d)) ∧ c = k * 65536 + p * 2048 + d
def gh_CA (t : Nat) (nw n : Int) (I : gr_I) : Prop := ∀ j : Nat, (j : Int) < n → gh_CB t nw I (I 143 j)
theorem gh_CB_fr {t : Nat} {nw c : Int} {I Iₚ : gr_I} (h : gh_CB t nw I c) (e : ∀ k, Iₚ (t + 17 + 2) k = I (t + 17 + 2) k) : gh_CB t nw Iₚ c := by
  obtain ⟨k, p, d, h1, h2, h3, h4, h5, h6⟩ := h
  exact ⟨k, p, d, h1, h2, h3, h4, fun h9 => by rw [e]; exact h5 h9, h6⟩
theorem gh_CA_fr {t : Nat} {nw n : Int} {I Iₚ : gr_I} (h : gh_CA t nw n I) (e1 : ∀ k, Iₚ 143 k = I 143 k) (e : ∀ k, Iₚ (t + 17 + 2) k = I (t + 17 + 2) k) : gh_CA t nw n Iₚ := fun j hj => by
  rw [e1]
  exact gh_CB_fr (h j hj) e
theorem gh_CA_0 {t : Nat} {nw n : Int} {I : gr_I} (h : n ≤ 0) : gh_CA t nw n I := fun j hj => by omega
theorem gh_CA_st {t k : Nat} {nw n n' : Int} {I Iₚ : gr_I} (h : gh_CA t nw n I) (hk : (k : Int) = n) (hn : n' = n + 1) (ht : 144 ≤ t) (hp : ∀ q j, ¬ (q = 143 ∧ j = k) → Iₚ q j = I q j) (hz : gh_CB t nw I (Iₚ 143 k)) : gh_CA t nw n' Iₚ := fun j hj => by
  have e : ∀ i, Iₚ (t + 17 + 2) i = I (t + 17 + 2) i := fun i => hp _ i (fun h9 => by have := h9.1; omega)
  by_cases e9 : j = k
  · rw [e9]
    exact gh_CB_fr hz e
  · rw [hp 143 j (fun h9 => e9 h9.2)]
    exact gh_CB_fr (h j (by omega)) e
theorem gh_b16 {x : Int} (hx : 0 ≤ x ∧ x ≤ 2147483647) : (Int32.ofInt x >>> (Int32.ofInt 16 &&& 31)).toInt = x / 65536 := by
  have hX : (Int32.ofInt x).toBitVec.toInt = x := gz_toInt ⟨by omega, by omega⟩
  have e : (Int32.ofInt x >>> (Int32.ofInt 16 &&& 31)).toInt = (((Int32.ofInt x).toBitVec).sshiftRight ((Int32.ofInt 16 &&& 31).toBitVec.smod 32).toNat).toInt := rfl
  have e2 : ((Int32.ofInt 16 &&& 31).toBitVec.smod 32).toNat = 16 := by decide
  have e3 : ((2 ^ 16 : Nat) : Int) = 65536 := by decide
  rw [e, e2, BitVec.toInt_sshiftRight, hX, Int.shiftRight_eq_div_pow, e3]
theorem gh_b11 {x : Int} (hx : 0 ≤ x ∧ x ≤ 2147483647) : (Int32.ofInt x >>> (Int32.ofInt 11 &&& 31)).toInt = x / 2048 := by
  have hX : (Int32.ofInt x).toBitVec.toInt = x := gz_toInt ⟨by omega, by omega⟩
  have e : (Int32.ofInt x >>> (Int32.ofInt 11 &&& 31)).toInt = (((Int32.ofInt x).toBitVec).sshiftRight ((Int32.ofInt 11 &&& 31).toBitVec.smod 32).toNat).toInt := rfl
  have e2 : ((Int32.ofInt 11 &&& 31).toBitVec.smod 32).toNat = 11 := by decide
  have e3 : ((2 ^ 11 : Nat) : Int) = 2048 := by decide
  rw [e, e2, BitVec.toInt_sshiftRight, hX, Int.shiftRight_eq_div_pow, e3]
theorem gh_n31 {x : Int} (hx : 0 ≤ x ∧ x ≤ 2147483647) : (Int32.ofInt x &&& Int32.ofInt 31).toInt = x % 32 := by
  have hX := gw_nat hx
  have e : (Int32.ofInt x &&& Int32.ofInt 31).toInt = ((Int32.ofInt x).toBitVec &&& (Int32.ofInt 31).toBitVec).toInt := rfl
  have hn : ((Int32.ofInt x).toBitVec &&& (Int32.ofInt 31).toBitVec).toNat = (Int32.ofInt x).toBitVec.toNat % 2 ^ 5 := by
    rw [BitVec.toNat_and, show (Int32.ofInt 31).toBitVec.toNat = 2 ^ 5 - 1 from by decide, Nat.and_two_pow_sub_one_eq_mod]
  rw [e, gw_nn (k := 5) (by decide) (by rw [hn]; exact Nat.mod_lt _ (by decide)), hn]
  omega
theorem gh_n2047 {x : Int} (hx : 0 ≤ x ∧ x ≤ 2147483647) : (Int32.ofInt x &&& Int32.ofInt 2047).toInt = x % 2048 := by
  have hX := gw_nat hx
  have e : (Int32.ofInt x &&& Int32.ofInt 2047).toInt = ((Int32.ofInt x).toBitVec &&& (Int32.ofInt 2047).toBitVec).toInt := rfl
  have hn : ((Int32.ofInt x).toBitVec &&& (Int32.ofInt 2047).toBitVec).toNat = (Int32.ofInt x).toBitVec.toNat % 2 ^ 11 := by
    rw [BitVec.toNat_and, show (Int32.ofInt 2047).toBitVec.toNat = 2 ^ 11 - 1 from by decide, Nat.and_two_pow_sub_one_eq_mod]
  rw [e, gw_nn (k := 11) (by decide) (by rw [hn]; exact Nat.mod_lt _ (by decide)), hn]
  omega
theorem gh_or {x : Int} {m : Nat} {d : Int} (hx : x = (m : Int) * 2048) (hm : m < 4096) (hd : 0 ≤ d ∧ d ≤ 2047) : (Int32.ofInt x ||| Int32.ofInt d).toInt = x + d := by
  have hX := gw_nat (x := x) ⟨by omega, by omega⟩
  have hY := gw_nat (x := d) ⟨hd.1, by omega⟩
  have e : (Int32.ofInt x ||| Int32.ofInt d).toInt = ((Int32.ofInt x).toBitVec ||| (Int32.ofInt d).toBitVec).toInt := rfl
  have hn : ((Int32.ofInt x).toBitVec ||| (Int32.ofInt d).toBitVec).toNat = m <<< 11 + (Int32.ofInt d).toBitVec.toNat := by
    rw [BitVec.toNat_or, show (Int32.ofInt x).toBitVec.toNat = m <<< 11 from by rw [Nat.shiftLeft_eq]; omega, Nat.shiftLeft_add_eq_or_of_lt (by omega)]
  rw [Nat.shiftLeft_eq] at hn
  rw [e, gw_nn (k := 24) (by decide) (by rw [hn]; omega), hn]
  omega
theorem gh_sh1 {p : Int} (hp : 0 ≤ p ∧ p ≤ 31) : (Int32.ofInt 65536 ||| Int32.ofInt (Int32.ofInt p <<< (Int32.ofInt 11 &&& 31)).toInt).toInt = 65536 + p * 2048 := by
  obtain ⟨a, rfl⟩ : ∃ a : Nat, p = (a : Int) := ⟨p.toNat, by omega⟩
  have h : ∀ a < 32, (Int32.ofInt 65536 ||| Int32.ofInt (Int32.ofInt (a : Nat) <<< (Int32.ofInt 11 &&& 31)).toInt).toInt = 65536 + (a : Int) * 2048 := by decide +kernel
  exact h a (by omega)
theorem gh_sh2 {p : Int} (hp : 0 ≤ p ∧ p ≤ 31) : (Int32.ofInt 131072 ||| Int32.ofInt (Int32.ofInt p <<< (Int32.ofInt 11 &&& 31)).toInt).toInt = 131072 + p * 2048 := by
  obtain ⟨a, rfl⟩ : ∃ a : Nat, p = (a : Int) := ⟨p.toNat, by omega⟩
  have h : ∀ a < 32, (Int32.ofInt 131072 ||| Int32.ofInt (Int32.ofInt (a : Nat) <<< (Int32.ofInt 11 &&& 31)).toInt).toInt = 131072 + (a : Int) * 2048 := by decide +kernel
  exact h a (by omega)
theorem gh_sh3 {p : Int} (hp : 0 ≤ p ∧ p ≤ 31) : (Int32.ofInt 196608 ||| Int32.ofInt (Int32.ofInt p <<< (Int32.ofInt 11 &&& 31)).toInt).toInt = 196608 + p * 2048 := by
  obtain ⟨a, rfl⟩ : ∃ a : Nat, p = (a : Int) := ⟨p.toNat, by omega⟩
  have h : ∀ a < 32, (Int32.ofInt 196608 ||| Int32.ofInt (Int32.ofInt (a : Nat) <<< (Int32.ofInt 11 &&& 31)).toInt).toInt = 196608 + (a : Int) * 2048 := by decide +kernel
  exact h a (by omega)
set_option maxHeartbeats 8000000 in
set_option maxRecDepth 100000 in
theorem d_X12_writeChange {ws0 : List Cond} {tb : String → gz_T} (hws : gc_Ws ws0) (htb : gc_tbs tb) (sh : gz_Sh) (ro : Nat → Nat) (I : gr_I) (J : gr_J) (A : gc_A) (hI : gc_Inv ro I) (a1 : Nat) (a2 : Int) (hb : gc_Base sh ro A) (h_a1 : gc_isTongue sh ro A a1) (G_a1 : 144 ≤ a1) (ha2 : (-2147483648) ≤ a2 ∧ a2 ≤ 2147483647) (x0 : gh_CB a1 (I 31 4) I a2) : ∃ r hₚ, gz_Ev ws0 tb 5 (yX12_writeChange, cX12_writeChange, 6, none) [.inr (.inr (some 0)), .inr (.inr (some a1)), .inl a2] sh (gc_h sh I J A) r sh hₚ 0 0 ∧ (∃ (Iₚ : gr_I) (Jₚ : gr_J), hₚ = gc_h sh Iₚ Jₚ A ∧ gc_Inv ro Iₚ ∧ (∀ q j : Nat, ((q = 35 ∧ j = 1) ∨ q = 36) ∨ Iₚ q j = I q j) ∧ (∀ q j : Nat, (False) ∨ Jₚ q j = J q j) ∧ r = none) := by
  have FI : ∀ q j : Nat, ((q = 35 ∧ j = 1) ∨ q = 36) ∨ I q j = I q j := fun _ _ => Or.inr rfl
  have FJ : ∀ q j : Nat, (False) ∨ J q j = J q j := fun _ _ => Or.inr rfl
  have A_0_3 : A 0 3 = some 31 := gc_bA_0_3 hb
  have A_0_4 : A 0 4 = some 35 := gc_bA_0_4 hb
  have B_0 := gz_hi (show 0 < 1000000 from by decide)
  have B_31 := gz_hi (show 31 < 1000000 from by decide)
  have B_35 := gz_hi (show 35 < 1000000 from by decide)
  have R_31 := gz_hi (show ro 31 = 3 from gc_bR_31 hb)
  have R_35 := gz_hi (show ro 35 = 3 from gc_bR_35 hb)
  have S_0 : sh[0]? = some (false, 12, 17) := gc_bS_0 hb
  have S_31 : sh[31]? = some (false, 9, 10) := gc_bS_31 hb
  have S_35 : sh[35]? = some (false, 9, 10) := gc_bS_35 hb
  obtain ⟨S_a1, R_a1, B_a1, A_a1_0, h_a1_1, A_a1_1, h_a1_3, A_a1_2, S_a1_5, R_a1_5, B_a1_5, A_a1_3, S_a1_6, R_a1_6, B_a1_6, A_a1_4, h_a1_7, A_a1_5, S_a1_9, R_a1_9, B_a1_9, A_a1_7, S_a1_10, R_a1_10, B_a1_10, A_a1_8, h_a1_11, A_a1_9, S_a1_13, R_a1_13, B_a1_13, A_a1_10, S_a1_14, R_a1_14, B_a1_14, A_a1_12, S_a1_15, R_a1_15, B_a1_15, A_a1_14, S_a1_16, R_a1_16, B_a1_16, A_a1_15, h_a1_17⟩ := id h_a1
  replace R_a1 := gz_hi R_a1
  replace B_a1 := gz_hi B_a1
  replace R_a1_5 := gz_hi R_a1_5
  replace B_a1_5 := gz_hi B_a1_5
  replace R_a1_6 := gz_hi R_a1_6
  replace B_a1_6 := gz_hi B_a1_6
  replace R_a1_9 := gz_hi R_a1_9
  replace B_a1_9 := gz_hi B_a1_9
  replace R_a1_10 := gz_hi R_a1_10
  replace B_a1_10 := gz_hi B_a1_10
  replace R_a1_13 := gz_hi R_a1_13
  replace B_a1_13 := gz_hi B_a1_13
  replace R_a1_14 := gz_hi R_a1_14
  replace B_a1_14 := gz_hi B_a1_14
  replace R_a1_15 := gz_hi R_a1_15
  replace B_a1_15 := gz_hi B_a1_15
  replace R_a1_16 := gz_hi R_a1_16
  replace B_a1_16 := gz_hi B_a1_16
  obtain ⟨S_a1_1, R_a1_1, B_a1_1, A_a1_1_0, S_a1_1_1, R_a1_1_1, B_a1_1_1, Q0_a1_1, Q1_a1_1, Q2_a1_1⟩ := id h_a1_1
  replace R_a1_1 := gz_hi R_a1_1
  replace B_a1_1 := gz_hi B_a1_1
  replace R_a1_1_1 := gz_hi R_a1_1_1
  replace B_a1_1_1 := gz_hi B_a1_1_1
  obtain ⟨S_a1_3, R_a1_3, B_a1_3, A_a1_3_0, S_a1_3_1, R_a1_3_1, B_a1_3_1, Q0_a1_3, Q1_a1_3, Q2_a1_3⟩ := id h_a1_3
  replace R_a1_3 := gz_hi R_a1_3
  replace B_a1_3 := gz_hi B_a1_3
  replace R_a1_3_1 := gz_hi R_a1_3_1
  replace B_a1_3_1 := gz_hi B_a1_3_1
  obtain ⟨S_a1_7, R_a1_7, B_a1_7, A_a1_7_0, S_a1_7_1, R_a1_7_1, B_a1_7_1, Q0_a1_7, Q1_a1_7, Q2_a1_7⟩ := id h_a1_7
  replace R_a1_7 := gz_hi R_a1_7
  replace B_a1_7 := gz_hi B_a1_7
  replace R_a1_7_1 := gz_hi R_a1_7_1
  replace B_a1_7_1 := gz_hi B_a1_7_1
  obtain ⟨S_a1_11, R_a1_11, B_a1_11, A_a1_11_0, S_a1_11_1, R_a1_11_1, B_a1_11_1, Q0_a1_11, Q1_a1_11, Q2_a1_11⟩ := id h_a1_11
  replace R_a1_11 := gz_hi R_a1_11
  replace B_a1_11 := gz_hi B_a1_11
  replace R_a1_11_1 := gz_hi R_a1_11_1
  replace B_a1_11_1 := gz_hi B_a1_11_1
  obtain ⟨S_a1_17, R_a1_17, B_a1_17, A_a1_17_0, S_20, R_20, B_20, A_a1_17_1, S_a1_17_1, R_a1_17_1, B_a1_17_1, A_a1_17_2, S_a1_17_2, R_a1_17_2, B_a1_17_2, A_a1_17_3, S_a1_17_3, R_a1_17_3, B_a1_17_3, A_a1_17_4, S_a1_17_4, R_a1_17_4, B_a1_17_4, A_a1_17_5, S_a1_17_5, R_a1_17_5, B_a1_17_5, S_a1_17_6, R_a1_17_6, B_a1_17_6, S_a1_17_7, R_a1_17_7, B_a1_17_7⟩ := id h_a1_17
  replace R_a1_17 := gz_hi R_a1_17
  replace B_a1_17 := gz_hi B_a1_17
  replace R_20 := gz_hi R_20
  replace B_20 := gz_hi B_20
  replace R_a1_17_1 := gz_hi R_a1_17_1
  replace B_a1_17_1 := gz_hi B_a1_17_1
  replace R_a1_17_2 := gz_hi R_a1_17_2
  replace B_a1_17_2 := gz_hi B_a1_17_2
  replace R_a1_17_3 := gz_hi R_a1_17_3
  replace B_a1_17_3 := gz_hi B_a1_17_3
  replace R_a1_17_4 := gz_hi R_a1_17_4
  replace B_a1_17_4 := gz_hi B_a1_17_4
  replace R_a1_17_5 := gz_hi R_a1_17_5
  replace B_a1_17_5 := gz_hi B_a1_17_5
  replace R_a1_17_6 := gz_hi R_a1_17_6
  replace B_a1_17_6 := gz_hi B_a1_17_6
  replace R_a1_17_7 := gz_hi R_a1_17_7
  replace B_a1_17_7 := gz_hi B_a1_17_7
  obtain ⟨kk, pp, dd, ⟨y1, y2⟩, ⟨y3, y4⟩, y5, ⟨y6, y7⟩, y8, y9⟩ := x0
  have f31 : 0 ≤ I 31 4 ∧ I 31 4 ≤ 24 := gc_in hI (gc_bR hb (p := 31) (by decide) rfl) rfl rfl
  have b1 := gh_b16 (x := a2) ⟨by (/-0-/first | omega | (simp only [gz_hd] at *; omega)), by (/-1-/first | omega | (simp only [gz_hd] at *; omega))⟩
  have b2 := gh_b11 (x := a2) ⟨by (/-2-/first | omega | (simp only [gz_hd] at *; omega)), by (/-3-/first | omega | (simp only [gz_hd] at *; omega))⟩
  have b3 := gh_n31 (x := (Int32.ofInt a2 >>> (Int32.ofInt 11 &&& 31)).toInt) ⟨by (/-4-/first | omega | (simp only [gz_hd] at *; omega)), by (/-5-/first | omega | (simp only [gz_hd] at *; omega))⟩
  have b4 := gh_n2047 (x := a2) ⟨by (/-6-/first | omega | (simp only [gz_hd] at *; omega)), by (/-7-/first | omega | (simp only [gz_hd] at *; omega))⟩
  have hD : gv_D (gc_E12 ws0 tb 4 (yX12_writeChange, cX12_writeChange, 6, none) kX12_writeChange) := gq_of oX12_writeChange
  refine gc_ev12 (d := 4) (l := kX12_writeChange) (Po := fun r hₚ => (∃ (Iₚ : gr_I) (Jₚ : gr_J), hₚ = gc_h sh Iₚ Jₚ A ∧ gc_Inv ro Iₚ ∧ (∀ q j : Nat, ((q = 35 ∧ j = 1) ∨ q = 36) ∨ Iₚ q j = I q j) ∧ (∀ q j : Nat, (False) ∨ Jₚ q j = J q j) ∧ r = none)) htb rfl (Nat.le_of_ble_eq_true rfl) ?_
  have L121 : ∀ (I2 : gr_I) (J3 : gr_J) (v3_4 : Int) (v4_4 : Int), gc_Inv ro I2 → (∀ q j : Nat, ((q = 35 ∧ j = 1) ∨ q = 36) ∨ I2 q j = I q j) → (∀ q j : Nat, (False) ∨ J3 q j = J q j) → (((-2147483648) ≤ v3_4 ∧ v3_4 ≤ 2147483647) ∧ (0 ≤ v4_4 ∧ v4_4 ≤ 31) ∧ (v4_4 = pp) ∧ (v3_4 = kk) ∧ (I2 31 4 = I 31 4)) → gv_X (gc_E12 ws0 tb 4 (yX12_writeChange, cX12_writeChange, 6, none) kX12_writeChange) (gv_Q cX12_writeChange none sh (fun r hₚ => (∃ (Iₚ : gr_I) (Jₚ : gr_J), hₚ = gc_h sh Iₚ Jₚ A ∧ gc_Inv ro Iₚ ∧ (∀ q j : Nat, ((q = 35 ∧ j = 1) ∨ q = 36) ∨ Iₚ q j = I q j) ∧ (∀ q j : Nat, (False) ∨ Jₚ q j = J q j) ∧ r = none))) (121, [(0, .inr (.inr (some 0))), (3, .inl v3_4), (4, .inl v4_4)], [], sh, gc_h sh I2 J3 A) := by
    intro I2 J3 v3_4 v4_4 hI2 FI2 FJ3 m_4
    obtain ⟨hv3_4, hv4_4, e0_4, e1_4, e2_4⟩ := gz_h5 m_4
    have L145 : ∀ (s2_6 : Int), ((1 ≤ s2_6 ∧ s2_6 ≤ 33) ∧ (s2_6 ≤ pp + 2) ∧ (I2 31 4 = I 31 4)) → gv_X (gc_E12 ws0 tb 4 (yX12_writeChange, cX12_writeChange, 6, none) kX12_writeChange) (gv_Q cX12_writeChange none sh (fun r hₚ => (∃ (Iₚ : gr_I) (Jₚ : gr_J), hₚ = gc_h sh Iₚ Jₚ A ∧ gc_Inv ro Iₚ ∧ (∀ q j : Nat, ((q = 35 ∧ j = 1) ∨ q = 36) ∨ Iₚ q j = I q j) ∧ (∀ q j : Nat, (False) ∨ Jₚ q j = J q j) ∧ r = none))) (145, [(0, .inr (.inr (some 0)))], [.inl s2_6, .inr (.inr (some 31)), .inr (.inr (some 35))], sh, gc_h sh I2 J3 A) := by
      intro s2_6 m_6
      obtain ⟨hs2_6, e0_6, e1_6⟩ := gz_h3 m_6
      refine gv_run 1 true hD (pcₚ := 146) (lvₚ := [(0, .inr (.inr (some 0)))]) (stₚ := [.inr (.inr (some 0)), .inl s2_6, .inr (.inr (some 31)), .inr (.inr (some 35))]) (hₚ := gc_h sh I2 J3 A) (C := (True ∧ True)) rfl ⟨trivial, trivial⟩ ?_
      refine gv_get hD rfl rfl S_0 ⟨by decide, (gz_sh B_0)⟩ (gc_hA S_0 rfl A_0_3) ?_
      show gv_X _ _ (149, [(0, .inr (.inr (some 0)))], [.inr (.inr (some 31)), .inl s2_6, .inr (.inr (some 31)), .inr (.inr (some 35))], sh, gc_h sh I2 J3 A)
      refine gv_get hD rfl rfl S_31 ⟨by decide, (gz_sh B_31)⟩ (gc_hI S_31 rfl) ?_
      show gv_X _ _ (152, [(0, .inr (.inr (some 0)))], [.inl (I2 31 4), .inl s2_6, .inr (.inr (some 31)), .inr (.inr (some 35))], sh, gc_h sh I2 J3 A)
      obtain ⟨r9, h9, E9, P9⟩ := d_X9_putWordsBetween (ws0 := ws0) (tb := tb) hws htb sh ro I2 J3 A hI2 35 31 s2_6 (I2 31 4) (gc_b35 hb) (gc_b31 hb)  ⟨by (/-8-/first | (have o1 := gz_sh hs2_6; omega) | (simp only [gz_hd] at *; omega)), by (/-9-/first | (have o1 := gz_sh e0_6; omega) | (simp only [gz_hd] at *; omega))⟩ ⟨by (/-10-/first | (have o1 := gz_sh e2_4; omega) | (simp only [gz_hd] at *; omega)), by (/-11-/first | (have o1 := gz_sh e2_4; omega) | (simp only [gz_hd] at *; omega))⟩  
      obtain ⟨I10, J11, rfl, hI10, g9, k9, rfl⟩ := P9
      have FI10 := gc_frc (W := fun q j => (q = 35 ∧ j = 1) ∨ q = 36) (V := fun q j => (q = 35 ∧ j = 1) ∨ q = 36) FI2 (fun q j h => (h.elim (fun h => (Or.inl h)) (fun h => (Or.inr h)))) g9
      obtain rfl : J3 = J11 := funext fun q => funext fun j => ((k9 q j).resolve_left id).symm
      refine gv_callV hD rfl (As := [.inr (.inr (some 31)), .inl s2_6, .inl (I2 31 4)]) (st := []) rfl (gz_sh B_35) S_35 rfl (gc_lV12 hws rfl) (Nat.le_of_ble_eq_true rfl) (gz_Ev_mono (d := 4) (by decide) E9) ?_
      show gv_X _ _ (155, [(0, .inr (.inr (some 0)))], [], sh, gc_h sh I10 J3 A)
      exact gv_vret hD rfl ⟨I10, J3, rfl, hI10, FI10, FJ3, rfl⟩
    refine gv_run 1 true hD (pcₚ := 122) (lvₚ := [(0, .inr (.inr (some 0))), (3, .inl v3_4), (4, .inl v4_4)]) (stₚ := [.inr (.inr (some 0))]) (hₚ := gc_h sh I2 J3 A) (C := (True ∧ True)) rfl ⟨trivial, trivial⟩ ?_
    refine gv_get hD rfl rfl S_0 ⟨by decide, (gz_sh B_0)⟩ (gc_hA S_0 rfl A_0_4) ?_
    show gv_X _ _ (125, [(0, .inr (.inr (some 0))), (3, .inl v3_4), (4, .inl v4_4)], [.inr (.inr (some 35))], sh, gc_h sh I2 J3 A)
    refine gv_run 1 true hD (pcₚ := 126) (lvₚ := [(0, .inr (.inr (some 0))), (3, .inl v3_4), (4, .inl v4_4)]) (stₚ := [.inr (.inr (some 0)), .inr (.inr (some 35))]) (hₚ := gc_h sh I2 J3 A) (C := (True ∧ True)) rfl ⟨trivial, trivial⟩ ?_
    refine gv_get hD rfl rfl S_0 ⟨by decide, (gz_sh B_0)⟩ (gc_hA S_0 rfl A_0_3) ?_
    show gv_X _ _ (129, [(0, .inr (.inr (some 0))), (3, .inl v3_4), (4, .inl v4_4)], [.inr (.inr (some 31)), .inr (.inr (some 35))], sh, gc_h sh I2 J3 A)
    refine gv_run 2 true hD (pcₚ := 131) (lvₚ := [(0, .inr (.inr (some 0))), (3, .inl v3_4), (4, .inl v4_4)]) (stₚ := [.inl 2, .inl v3_4, .inr (.inr (some 31)), .inr (.inr (some 35))]) (hₚ := gc_h sh I2 J3 A) (C := ((True ∧ True) ∧ True)) rfl ⟨⟨trivial, trivial⟩, trivial⟩ ?_
    refine gv_icmp_ne (t := 141) hD rfl rfl ⟨⟨by (/-12-/first | (have o1 := gz_sh e1_4; omega) | (simp only [gz_hd] at *; omega)), by (/-13-/first | (have o1 := gz_sh e1_4; omega) | (simp only [gz_hd] at *; omega))⟩, ⟨by (/-14-/first | omega | (simp only [gz_hd] at *; omega)), by (/-15-/first | omega | (simp only [gz_hd] at *; omega))⟩⟩ (fun c13 => ?_) (fun c13 => ?_)
    · show gv_X _ _ (141, [(0, .inr (.inr (some 0))), (3, .inl v3_4), (4, .inl v4_4)], [.inr (.inr (some 31)), .inr (.inr (some 35))], sh, gc_h sh I2 J3 A)
      refine gv_run 3 true hD (pcₚ := 145) (lvₚ := [(0, .inr (.inr (some 0))), (3, .inl v3_4), (4, .inl v4_4)]) (stₚ := [.inl (v4_4 + 1), .inr (.inr (some 31)), .inr (.inr (some 35))]) (hₚ := gc_h sh I2 J3 A) (C := (((True ∧ True) ∧ True) ∧ True)) rfl ⟨⟨⟨trivial, trivial⟩, trivial⟩, trivial⟩ ?_
      refine gv_pick [0] rfl ?_
      exact L145 (v4_4 + 1) (by (/-16-/first | (and_intros; (have o1 := gz_sh hv4_4; omega); (have o1 := gz_sh hv4_4; omega); (have o1 := gz_sh e0_4; omega); (have o1 := gz_sh e2_4; omega)) | (simp only [gz_hd] at *; omega)))
    · show gv_X _ _ (134, [(0, .inr (.inr (some 0))), (3, .inl v3_4), (4, .inl v4_4)], [.inr (.inr (some 31)), .inr (.inr (some 35))], sh, gc_h sh I2 J3 A)
      refine gv_run 4 true hD (pcₚ := 145) (lvₚ := [(0, .inr (.inr (some 0))), (3, .inl v3_4), (4, .inl v4_4)]) (stₚ := [.inl (v4_4 + 2), .inr (.inr (some 31)), .inr (.inr (some 35))]) (hₚ := gc_h sh I2 J3 A) (C := ((((True ∧ True) ∧ True) ∧ True) ∧ True)) rfl ⟨⟨⟨⟨trivial, trivial⟩, trivial⟩, trivial⟩, trivial⟩ ?_
      refine gv_pick [0] rfl ?_
      exact L145 (v4_4 + 2) (by (/-17-/first | (and_intros; (have o1 := gz_sh hv4_4; omega); (have o1 := gz_sh hv4_4; omega); (have o1 := gz_sh e0_4; omega); (have o1 := gz_sh e2_4; omega)) | (simp only [gz_hd] at *; omega)))
  have f14 := gz_hi (gw_any (Int32.ofInt a2 >>> (Int32.ofInt 16 &&& 31)))
  refine gv_run 7 true hD (pcₚ := 9) (lvₚ := [(3, .inl ((Int32.ofInt a2 >>> (Int32.ofInt 16 &&& 31)).toInt)), (0, .inr (.inr (some 0))), (1, .inr (.inr (some a1))), (2, .inl a2)]) (stₚ := [.inl ((Int32.ofInt a2 >>> (Int32.ofInt 11 &&& 31)).toInt)]) (hₚ := gc_h sh I J A) (C := (((((((True ∧ True) ∧ True) ∧ True) ∧ True) ∧ True) ∧ True) ∧ True)) rfl ⟨⟨⟨⟨⟨⟨⟨trivial, trivial⟩, trivial⟩, trivial⟩, trivial⟩, trivial⟩, trivial⟩, trivial⟩ ?_
  have f16 := gz_hi (gw_and (x := (((Int32.ofInt a2 >>> (Int32.ofInt 11 &&& 31)).toInt))) (y := 31) ⟨by (/-18-/first | omega | (simp only [gz_hd] at *; omega)), by (/-19-/first | omega | (simp only [gz_hd] at *; omega))⟩)
  refine gv_run 7 true hD (pcₚ := 21) (lvₚ := [(5, .inl ((Int32.ofInt a2 &&& Int32.ofInt 2047).toInt)), (4, .inl ((Int32.ofInt (((Int32.ofInt a2 >>> (Int32.ofInt 11 &&& 31)).toInt)) &&& Int32.ofInt 31).toInt)), (3, .inl ((Int32.ofInt a2 >>> (Int32.ofInt 16 &&& 31)).toInt)), (0, .inr (.inr (some 0))), (1, .inr (.inr (some a1))), (2, .inl a2)]) (stₚ := []) (hₚ := gc_h sh I J A) (C := (((((((True ∧ True) ∧ True) ∧ True) ∧ True) ∧ True) ∧ True) ∧ True)) rfl ⟨⟨⟨⟨⟨⟨⟨trivial, trivial⟩, trivial⟩, trivial⟩, trivial⟩, trivial⟩, trivial⟩, trivial⟩ ?_
  refine gv_run 1 true hD (pcₚ := 22) (lvₚ := [(5, .inl ((Int32.ofInt a2 &&& Int32.ofInt 2047).toInt)), (4, .inl ((Int32.ofInt (((Int32.ofInt a2 >>> (Int32.ofInt 11 &&& 31)).toInt)) &&& Int32.ofInt 31).toInt)), (3, .inl ((Int32.ofInt a2 >>> (Int32.ofInt 16 &&& 31)).toInt)), (0, .inr (.inr (some 0))), (1, .inr (.inr (some a1))), (2, .inl a2)]) (stₚ := [.inr (.inr (some 0))]) (hₚ := gc_h sh I J A) (C := (True ∧ True)) rfl ⟨trivial, trivial⟩ ?_
  refine gv_get hD rfl rfl S_0 ⟨by decide, (gz_sh B_0)⟩ (gc_hA S_0 rfl A_0_4) ?_
  show gv_X _ _ (25, [(5, .inl ((Int32.ofInt a2 &&& Int32.ofInt 2047).toInt)), (4, .inl ((Int32.ofInt (((Int32.ofInt a2 >>> (Int32.ofInt 11 &&& 31)).toInt)) &&& Int32.ofInt 31).toInt)), (3, .inl ((Int32.ofInt a2 >>> (Int32.ofInt 16 &&& 31)).toInt)), (0, .inr (.inr (some 0))), (1, .inr (.inr (some a1))), (2, .inl a2)], [.inr (.inr (some 35))], sh, gc_h sh I J A)
  refine gv_run 1 true hD (pcₚ := 26) (lvₚ := [(5, .inl ((Int32.ofInt a2 &&& Int32.ofInt 2047).toInt)), (4, .inl ((Int32.ofInt (((Int32.ofInt a2 >>> (Int32.ofInt 11 &&& 31)).toInt)) &&& Int32.ofInt 31).toInt)), (3, .inl ((Int32.ofInt a2 >>> (Int32.ofInt 16 &&& 31)).toInt)), (0, .inr (.inr (some 0))), (1, .inr (.inr (some a1))), (2, .inl a2)]) (stₚ := [.inl 0, .inr (.inr (some 35))]) (hₚ := gc_h sh I J A) (C := (True ∧ True)) rfl ⟨trivial, trivial⟩ ?_
  refine gv_put hD rfl rfl S_35 ⟨by decide, (gz_sh B_35)⟩ rfl trivial ?_
  refine gc_st (k := 1) hI S_35 rfl (gz_sh R_35) (lo := 0) (hi := 1000) rfl rfl (by (/-22-/first | omega | (simp only [gz_hd] at *; omega))) (by (/-23-/first | omega | (simp only [gz_hd] at *; omega))) (fun I18 hI18 q19 p19 => ?_)
  have FI18 := gc_frs (W := fun q j => (q = 35 ∧ j = 1) ∨ q = 36) FI (Or.inl ⟨rfl, rfl⟩) p19
  have t20 := gz_hi (p19 31 4 (fun h => absurd h.2 (by first | exact gz_ne rfl | decide)))
  show gv_X _ _ (29, [(5, .inl ((Int32.ofInt a2 &&& Int32.ofInt 2047).toInt)), (4, .inl ((Int32.ofInt (((Int32.ofInt a2 >>> (Int32.ofInt 11 &&& 31)).toInt)) &&& Int32.ofInt 31).toInt)), (3, .inl ((Int32.ofInt a2 >>> (Int32.ofInt 16 &&& 31)).toInt)), (0, .inr (.inr (some 0))), (1, .inr (.inr (some a1))), (2, .inl a2)], [], sh, gc_h sh I18 J A)
  refine gv_run 1 true hD (pcₚ := 30) (lvₚ := [(5, .inl ((Int32.ofInt a2 &&& Int32.ofInt 2047).toInt)), (4, .inl ((Int32.ofInt (((Int32.ofInt a2 >>> (Int32.ofInt 11 &&& 31)).toInt)) &&& Int32.ofInt 31).toInt)), (3, .inl ((Int32.ofInt a2 >>> (Int32.ofInt 16 &&& 31)).toInt)), (0, .inr (.inr (some 0))), (1, .inr (.inr (some a1))), (2, .inl a2)]) (stₚ := [.inr (.inr (some 0))]) (hₚ := gc_h sh I18 J A) (C := (True ∧ True)) rfl ⟨trivial, trivial⟩ ?_
  refine gv_get hD rfl rfl S_0 ⟨by decide, (gz_sh B_0)⟩ (gc_hA S_0 rfl A_0_4) ?_
  show gv_X _ _ (33, [(5, .inl ((Int32.ofInt a2 &&& Int32.ofInt 2047).toInt)), (4, .inl ((Int32.ofInt (((Int32.ofInt a2 >>> (Int32.ofInt 11 &&& 31)).toInt)) &&& Int32.ofInt 31).toInt)), (3, .inl ((Int32.ofInt a2 >>> (Int32.ofInt 16 &&& 31)).toInt)), (0, .inr (.inr (some 0))), (1, .inr (.inr (some a1))), (2, .inl a2)], [.inr (.inr (some 35))], sh, gc_h sh I18 J A)
  refine gv_run 1 true hD (pcₚ := 34) (lvₚ := [(5, .inl ((Int32.ofInt a2 &&& Int32.ofInt 2047).toInt)), (4, .inl ((Int32.ofInt (((Int32.ofInt a2 >>> (Int32.ofInt 11 &&& 31)).toInt)) &&& Int32.ofInt 31).toInt)), (3, .inl ((Int32.ofInt a2 >>> (Int32.ofInt 16 &&& 31)).toInt)), (0, .inr (.inr (some 0))), (1, .inr (.inr (some a1))), (2, .inl a2)]) (stₚ := [.inr (.inr (some 0)), .inr (.inr (some 35))]) (hₚ := gc_h sh I18 J A) (C := (True ∧ True)) rfl ⟨trivial, trivial⟩ ?_
  refine gv_get hD rfl rfl S_0 ⟨by decide, (gz_sh B_0)⟩ (gc_hA S_0 rfl A_0_3) ?_
  show gv_X _ _ (37, [(5, .inl ((Int32.ofInt a2 &&& Int32.ofInt 2047).toInt)), (4, .inl ((Int32.ofInt (((Int32.ofInt a2 >>> (Int32.ofInt 11 &&& 31)).toInt)) &&& Int32.ofInt 31).toInt)), (3, .inl ((Int32.ofInt a2 >>> (Int32.ofInt 16 &&& 31)).toInt)), (0, .inr (.inr (some 0))), (1, .inr (.inr (some a1))), (2, .inl a2)], [.inr (.inr (some 31)), .inr (.inr (some 35))], sh, gc_h sh I18 J A)
  refine gv_run 2 true hD (pcₚ := 40) (lvₚ := [(5, .inl ((Int32.ofInt a2 &&& Int32.ofInt 2047).toInt)), (4, .inl ((Int32.ofInt (((Int32.ofInt a2 >>> (Int32.ofInt 11 &&& 31)).toInt)) &&& Int32.ofInt 31).toInt)), (3, .inl ((Int32.ofInt a2 >>> (Int32.ofInt 16 &&& 31)).toInt)), (0, .inr (.inr (some 0))), (1, .inr (.inr (some a1))), (2, .inl a2)]) (stₚ := [.inl ((Int32.ofInt (((Int32.ofInt a2 >>> (Int32.ofInt 11 &&& 31)).toInt)) &&& Int32.ofInt 31).toInt), .inl 0, .inr (.inr (some 31)), .inr (.inr (some 35))]) (hₚ := gc_h sh I18 J A) (C := ((True ∧ True) ∧ True)) rfl ⟨⟨trivial, trivial⟩, trivial⟩ ?_
  obtain ⟨r21, h21, E21, P21⟩ := d_X9_putWordsBetween (ws0 := ws0) (tb := tb) hws htb sh ro I18 J A hI18 35 31 0 (((Int32.ofInt (((Int32.ofInt a2 >>> (Int32.ofInt 11 &&& 31)).toInt)) &&& Int32.ofInt 31).toInt)) (gc_b35 hb) (gc_b31 hb)  ⟨by (/-24-/first | omega | (simp only [gz_hd] at *; omega)), by (/-25-/first | omega | (simp only [gz_hd] at *; omega))⟩ ⟨by (/-26-/first | (have o1 := gz_sh f16; omega) | (simp only [gz_hd] at *; omega)), by (/-27-/first | (have o1 := gz_sh f16; have o2 := gz_sh t20; omega) | (simp only [gz_hd] at *; omega))⟩  
  obtain ⟨I22, J23, rfl, hI22, g21, k21, rfl⟩ := P21
  have FI22 := gc_frc (W := fun q j => (q = 35 ∧ j = 1) ∨ q = 36) (V := fun q j => (q = 35 ∧ j = 1) ∨ q = 36) FI18 (fun q j h => (h.elim (fun h => (Or.inl h)) (fun h => (Or.inr h)))) g21
  have t24 := gz_hi ((g21 31 4).resolve_left (fun h => h.elim (fun h => absurd h.2 (by first | exact gz_ne rfl | decide)) (fun h => absurd h (by first | exact gz_ne rfl | decide))))
  obtain rfl : J = J23 := funext fun q => funext fun j => ((k21 q j).resolve_left id).symm
  refine gv_callV hD rfl (As := [.inr (.inr (some 31)), .inl 0, .inl ((Int32.ofInt (((Int32.ofInt a2 >>> (Int32.ofInt 11 &&& 31)).toInt)) &&& Int32.ofInt 31).toInt)]) (st := []) rfl (gz_sh B_35) S_35 rfl (gc_lV12 hws rfl) (Nat.le_of_ble_eq_true rfl) (gz_Ev_mono (d := 4) (by decide) E21) ?_
  show gv_X _ _ (43, [(5, .inl ((Int32.ofInt a2 &&& Int32.ofInt 2047).toInt)), (4, .inl ((Int32.ofInt (((Int32.ofInt a2 >>> (Int32.ofInt 11 &&& 31)).toInt)) &&& Int32.ofInt 31).toInt)), (3, .inl ((Int32.ofInt a2 >>> (Int32.ofInt 16 &&& 31)).toInt)), (0, .inr (.inr (some 0))), (1, .inr (.inr (some a1))), (2, .inl a2)], [], sh, gc_h sh I22 J A)
  refine gv_run 2 true hD (pcₚ := 45) (lvₚ := [(5, .inl ((Int32.ofInt a2 &&& Int32.ofInt 2047).toInt)), (4, .inl ((Int32.ofInt (((Int32.ofInt a2 >>> (Int32.ofInt 11 &&& 31)).toInt)) &&& Int32.ofInt 31).toInt)), (3, .inl ((Int32.ofInt a2 >>> (Int32.ofInt 16 &&& 31)).toInt)), (0, .inr (.inr (some 0))), (1, .inr (.inr (some a1))), (2, .inl a2)]) (stₚ := [.inl 1, .inl ((Int32.ofInt a2 >>> (Int32.ofInt 16 &&& 31)).toInt)]) (hₚ := gc_h sh I22 J A) (C := ((True ∧ True) ∧ True)) rfl ⟨⟨trivial, trivial⟩, trivial⟩ ?_
  refine gv_icmp_ne (t := 80) hD rfl rfl ⟨⟨by (/-28-/first | (have o1 := gz_sh f14; omega) | (simp only [gz_hd] at *; omega)), by (/-29-/first | (have o1 := gz_sh f14; omega) | (simp only [gz_hd] at *; omega))⟩, ⟨by (/-30-/first | omega | (simp only [gz_hd] at *; omega)), by (/-31-/first | omega | (simp only [gz_hd] at *; omega))⟩⟩ (fun c25 => ?_) (fun c25 => ?_)
  · show gv_X _ _ (80, [(5, .inl ((Int32.ofInt a2 &&& Int32.ofInt 2047).toInt)), (4, .inl ((Int32.ofInt (((Int32.ofInt a2 >>> (Int32.ofInt 11 &&& 31)).toInt)) &&& Int32.ofInt 31).toInt)), (3, .inl ((Int32.ofInt a2 >>> (Int32.ofInt 16 &&& 31)).toInt)), (0, .inr (.inr (some 0))), (1, .inr (.inr (some a1))), (2, .inl a2)], [], sh, gc_h sh I22 J A)
    refine gv_run 2 true hD (pcₚ := 82) (lvₚ := [(5, .inl ((Int32.ofInt a2 &&& Int32.ofInt 2047).toInt)), (4, .inl ((Int32.ofInt (((Int32.ofInt a2 >>> (Int32.ofInt 11 &&& 31)).toInt)) &&& Int32.ofInt 31).toInt)), (3, .inl ((Int32.ofInt a2 >>> (Int32.ofInt 16 &&& 31)).toInt)), (0, .inr (.inr (some 0))), (1, .inr (.inr (some a1))), (2, .inl a2)]) (stₚ := [.inl 2, .inl ((Int32.ofInt a2 >>> (Int32.ofInt 16 &&& 31)).toInt)]) (hₚ := gc_h sh I22 J A) (C := ((True ∧ True) ∧ True)) rfl ⟨⟨trivial, trivial⟩, trivial⟩ ?_
    refine gv_icmp_ne (t := 121) hD rfl rfl ⟨⟨by (/-32-/first | (have o1 := gz_sh f14; omega) | (simp only [gz_hd] at *; omega)), by (/-33-/first | (have o1 := gz_sh f14; omega) | (simp only [gz_hd] at *; omega))⟩, ⟨by (/-34-/first | omega | (simp only [gz_hd] at *; omega)), by (/-35-/first | omega | (simp only [gz_hd] at *; omega))⟩⟩ (fun c26 => ?_) (fun c26 => ?_)
    · show gv_X _ _ (121, [(5, .inl ((Int32.ofInt a2 &&& Int32.ofInt 2047).toInt)), (4, .inl ((Int32.ofInt (((Int32.ofInt a2 >>> (Int32.ofInt 11 &&& 31)).toInt)) &&& Int32.ofInt 31).toInt)), (3, .inl ((Int32.ofInt a2 >>> (Int32.ofInt 16 &&& 31)).toInt)), (0, .inr (.inr (some 0))), (1, .inr (.inr (some a1))), (2, .inl a2)], [], sh, gc_h sh I22 J A)
      refine gv_pick [3, 2, 1] rfl ?_
      exact L121 I22 J (((Int32.ofInt a2 >>> (Int32.ofInt 16 &&& 31)).toInt)) (((Int32.ofInt (((Int32.ofInt a2 >>> (Int32.ofInt 11 &&& 31)).toInt)) &&& Int32.ofInt 31).toInt)) hI22 FI22 FJ (by (/-36-/first | (and_intros; (have o1 := gz_sh f14; omega); (have o1 := gz_sh f14; omega); (have o1 := gz_sh f16; omega); (have o1 := gz_sh f16; omega); (have o1 := gz_sh f14; have o2 := gz_sh f16; have o3 := gz_sh t20; have o4 := gz_sh t24; omega); (omega); (have o1 := gz_sh t20; have o2 := gz_sh t24; omega)) | (simp only [gz_hd] at *; omega)))
    · show gv_X _ _ (85, [(5, .inl ((Int32.ofInt a2 &&& Int32.ofInt 2047).toInt)), (4, .inl ((Int32.ofInt (((Int32.ofInt a2 >>> (Int32.ofInt 11 &&& 31)).toInt)) &&& Int32.ofInt 31).toInt)), (3, .inl ((Int32.ofInt a2 >>> (Int32.ofInt 16 &&& 31)).toInt)), (0, .inr (.inr (some 0))), (1, .inr (.inr (some a1))), (2, .inl a2)], [], sh, gc_h sh I22 J A)
      refine gv_run 1 true hD (pcₚ := 86) (lvₚ := [(5, .inl ((Int32.ofInt a2 &&& Int32.ofInt 2047).toInt)), (4, .inl ((Int32.ofInt (((Int32.ofInt a2 >>> (Int32.ofInt 11 &&& 31)).toInt)) &&& Int32.ofInt 31).toInt)), (3, .inl ((Int32.ofInt a2 >>> (Int32.ofInt 16 &&& 31)).toInt)), (0, .inr (.inr (some 0))), (1, .inr (.inr (some a1))), (2, .inl a2)]) (stₚ := [.inr (.inr (some 0))]) (hₚ := gc_h sh I22 J A) (C := (True ∧ True)) rfl ⟨trivial, trivial⟩ ?_
      refine gv_get hD rfl rfl S_0 ⟨by decide, (gz_sh B_0)⟩ (gc_hA S_0 rfl A_0_4) ?_
      show gv_X _ _ (89, [(5, .inl ((Int32.ofInt a2 &&& Int32.ofInt 2047).toInt)), (4, .inl ((Int32.ofInt (((Int32.ofInt a2 >>> (Int32.ofInt 11 &&& 31)).toInt)) &&& Int32.ofInt 31).toInt)), (3, .inl ((Int32.ofInt a2 >>> (Int32.ofInt 16 &&& 31)).toInt)), (0, .inr (.inr (some 0))), (1, .inr (.inr (some a1))), (2, .inl a2)], [.inr (.inr (some 35))], sh, gc_h sh I22 J A)
      refine gv_run 1 true hD (pcₚ := 90) (lvₚ := [(5, .inl ((Int32.ofInt a2 &&& Int32.ofInt 2047).toInt)), (4, .inl ((Int32.ofInt (((Int32.ofInt a2 >>> (Int32.ofInt 11 &&& 31)).toInt)) &&& Int32.ofInt 31).toInt)), (3, .inl ((Int32.ofInt a2 >>> (Int32.ofInt 16 &&& 31)).toInt)), (0, .inr (.inr (some 0))), (1, .inr (.inr (some a1))), (2, .inl a2)]) (stₚ := [.inr (.inr (some 0)), .inr (.inr (some 35))]) (hₚ := gc_h sh I22 J A) (C := (True ∧ True)) rfl ⟨trivial, trivial⟩ ?_
      refine gv_get hD rfl rfl S_0 ⟨by decide, (gz_sh B_0)⟩ (gc_hA S_0 rfl A_0_3) ?_
      show gv_X _ _ (93, [(5, .inl ((Int32.ofInt a2 &&& Int32.ofInt 2047).toInt)), (4, .inl ((Int32.ofInt (((Int32.ofInt a2 >>> (Int32.ofInt 11 &&& 31)).toInt)) &&& Int32.ofInt 31).toInt)), (3, .inl ((Int32.ofInt a2 >>> (Int32.ofInt 16 &&& 31)).toInt)), (0, .inr (.inr (some 0))), (1, .inr (.inr (some a1))), (2, .inl a2)], [.inr (.inr (some 31)), .inr (.inr (some 35))], sh, gc_h sh I22 J A)
      refine gv_run 6 true hD (pcₚ := 101) (lvₚ := [(5, .inl ((Int32.ofInt a2 &&& Int32.ofInt 2047).toInt)), (4, .inl ((Int32.ofInt (((Int32.ofInt a2 >>> (Int32.ofInt 11 &&& 31)).toInt)) &&& Int32.ofInt 31).toInt)), (3, .inl ((Int32.ofInt a2 >>> (Int32.ofInt 16 &&& 31)).toInt)), (0, .inr (.inr (some 0))), (1, .inr (.inr (some a1))), (2, .inl a2)]) (stₚ := [.inl (((Int32.ofInt (((Int32.ofInt a2 >>> (Int32.ofInt 11 &&& 31)).toInt)) &&& Int32.ofInt 31).toInt) + 2), .inl (((Int32.ofInt (((Int32.ofInt a2 >>> (Int32.ofInt 11 &&& 31)).toInt)) &&& Int32.ofInt 31).toInt) + 1), .inr (.inr (some 31)), .inr (.inr (some 35))]) (hₚ := gc_h sh I22 J A) (C := ((((((True ∧ True) ∧ True) ∧ True) ∧ True) ∧ True) ∧ True)) rfl ⟨⟨⟨⟨⟨⟨trivial, trivial⟩, trivial⟩, trivial⟩, trivial⟩, trivial⟩, trivial⟩ ?_
      obtain ⟨r27, h27, E27, P27⟩ := d_X9_putWordsBetween (ws0 := ws0) (tb := tb) hws htb sh ro I22 J A hI22 35 31 ((((Int32.ofInt (((Int32.ofInt a2 >>> (Int32.ofInt 11 &&& 31)).toInt)) &&& Int32.ofInt 31).toInt) + 1)) ((((Int32.ofInt (((Int32.ofInt a2 >>> (Int32.ofInt 11 &&& 31)).toInt)) &&& Int32.ofInt 31).toInt) + 2)) (gc_b35 hb) (gc_b31 hb)  ⟨by (/-37-/first | (have o1 := gz_sh f16; omega) | (simp only [gz_hd] at *; omega)), by (/-38-/first | (have o1 := gz_sh f16; have o2 := gz_sh t20; have o3 := gz_sh t24; omega) | (simp only [gz_hd] at *; omega))⟩ ⟨by (/-39-/first | (have o1 := gz_sh f16; omega) | (simp only [gz_hd] at *; omega)), by (/-40-/first | (have o1 := gz_sh f16; have o2 := gz_sh t20; have o3 := gz_sh t24; omega) | (simp only [gz_hd] at *; omega))⟩  
      obtain ⟨I28, J29, rfl, hI28, g27, k27, rfl⟩ := P27
      have FI28 := gc_frc (W := fun q j => (q = 35 ∧ j = 1) ∨ q = 36) (V := fun q j => (q = 35 ∧ j = 1) ∨ q = 36) FI22 (fun q j h => (h.elim (fun h => (Or.inl h)) (fun h => (Or.inr h)))) g27
      have t30 := gz_hi ((g27 31 4).resolve_left (fun h => h.elim (fun h => absurd h.2 (by first | exact gz_ne rfl | decide)) (fun h => absurd h (by first | exact gz_ne rfl | decide))))
      obtain rfl : J = J29 := funext fun q => funext fun j => ((k27 q j).resolve_left id).symm
      refine gv_callV hD rfl (As := [.inr (.inr (some 31)), .inl (((Int32.ofInt (((Int32.ofInt a2 >>> (Int32.ofInt 11 &&& 31)).toInt)) &&& Int32.ofInt 31).toInt) + 1), .inl (((Int32.ofInt (((Int32.ofInt a2 >>> (Int32.ofInt 11 &&& 31)).toInt)) &&& Int32.ofInt 31).toInt) + 2)]) (st := []) rfl (gz_sh B_35) S_35 rfl (gc_lV12 hws rfl) (Nat.le_of_ble_eq_true rfl) (gz_Ev_mono (d := 4) (by decide) E27) ?_
      show gv_X _ _ (104, [(5, .inl ((Int32.ofInt a2 &&& Int32.ofInt 2047).toInt)), (4, .inl ((Int32.ofInt (((Int32.ofInt a2 >>> (Int32.ofInt 11 &&& 31)).toInt)) &&& Int32.ofInt 31).toInt)), (3, .inl ((Int32.ofInt a2 >>> (Int32.ofInt 16 &&& 31)).toInt)), (0, .inr (.inr (some 0))), (1, .inr (.inr (some a1))), (2, .inl a2)], [], sh, gc_h sh I28 J A)
      refine gv_run 1 true hD (pcₚ := 105) (lvₚ := [(5, .inl ((Int32.ofInt a2 &&& Int32.ofInt 2047).toInt)), (4, .inl ((Int32.ofInt (((Int32.ofInt a2 >>> (Int32.ofInt 11 &&& 31)).toInt)) &&& Int32.ofInt 31).toInt)), (3, .inl ((Int32.ofInt a2 >>> (Int32.ofInt 16 &&& 31)).toInt)), (0, .inr (.inr (some 0))), (1, .inr (.inr (some a1))), (2, .inl a2)]) (stₚ := [.inr (.inr (some 0))]) (hₚ := gc_h sh I28 J A) (C := (True ∧ True)) rfl ⟨trivial, trivial⟩ ?_
      refine gv_get hD rfl rfl S_0 ⟨by decide, (gz_sh B_0)⟩ (gc_hA S_0 rfl A_0_4) ?_
      show gv_X _ _ (108, [(5, .inl ((Int32.ofInt a2 &&& Int32.ofInt 2047).toInt)), (4, .inl ((Int32.ofInt (((Int32.ofInt a2 >>> (Int32.ofInt 11 &&& 31)).toInt)) &&& Int32.ofInt 31).toInt)), (3, .inl ((Int32.ofInt a2 >>> (Int32.ofInt 16 &&& 31)).toInt)), (0, .inr (.inr (some 0))), (1, .inr (.inr (some a1))), (2, .inl a2)], [.inr (.inr (some 35))], sh, gc_h sh I28 J A)
      refine gv_run 1 true hD (pcₚ := 109) (lvₚ := [(5, .inl ((Int32.ofInt a2 &&& Int32.ofInt 2047).toInt)), (4, .inl ((Int32.ofInt (((Int32.ofInt a2 >>> (Int32.ofInt 11 &&& 31)).toInt)) &&& Int32.ofInt 31).toInt)), (3, .inl ((Int32.ofInt a2 >>> (Int32.ofInt 16 &&& 31)).toInt)), (0, .inr (.inr (some 0))), (1, .inr (.inr (some a1))), (2, .inl a2)]) (stₚ := [.inr (.inr (some 0)), .inr (.inr (some 35))]) (hₚ := gc_h sh I28 J A) (C := (True ∧ True)) rfl ⟨trivial, trivial⟩ ?_
      refine gv_get hD rfl rfl S_0 ⟨by decide, (gz_sh B_0)⟩ (gc_hA S_0 rfl A_0_3) ?_
      show gv_X _ _ (112, [(5, .inl ((Int32.ofInt a2 &&& Int32.ofInt 2047).toInt)), (4, .inl ((Int32.ofInt (((Int32.ofInt a2 >>> (Int32.ofInt 11 &&& 31)).toInt)) &&& Int32.ofInt 31).toInt)), (3, .inl ((Int32.ofInt a2 >>> (Int32.ofInt 16 &&& 31)).toInt)), (0, .inr (.inr (some 0))), (1, .inr (.inr (some a1))), (2, .inl a2)], [.inr (.inr (some 31)), .inr (.inr (some 35))], sh, gc_h sh I28 J A)
      refine gv_run 4 true hD (pcₚ := 118) (lvₚ := [(5, .inl ((Int32.ofInt a2 &&& Int32.ofInt 2047).toInt)), (4, .inl ((Int32.ofInt (((Int32.ofInt a2 >>> (Int32.ofInt 11 &&& 31)).toInt)) &&& Int32.ofInt 31).toInt)), (3, .inl ((Int32.ofInt a2 >>> (Int32.ofInt 16 &&& 31)).toInt)), (0, .inr (.inr (some 0))), (1, .inr (.inr (some a1))), (2, .inl a2)]) (stₚ := [.inl (((Int32.ofInt (((Int32.ofInt a2 >>> (Int32.ofInt 11 &&& 31)).toInt)) &&& Int32.ofInt 31).toInt) + 1), .inl ((Int32.ofInt (((Int32.ofInt a2 >>> (Int32.ofInt 11 &&& 31)).toInt)) &&& Int32.ofInt 31).toInt), .inr (.inr (some 31)), .inr (.inr (some 35))]) (hₚ := gc_h sh I28 J A) (C := ((((True ∧ True) ∧ True) ∧ True) ∧ True)) rfl ⟨⟨⟨⟨trivial, trivial⟩, trivial⟩, trivial⟩, trivial⟩ ?_
      obtain ⟨r31, h31, E31, P31⟩ := d_X9_putWordsBetween (ws0 := ws0) (tb := tb) hws htb sh ro I28 J A hI28 35 31 (((Int32.ofInt (((Int32.ofInt a2 >>> (Int32.ofInt 11 &&& 31)).toInt)) &&& Int32.ofInt 31).toInt)) ((((Int32.ofInt (((Int32.ofInt a2 >>> (Int32.ofInt 11 &&& 31)).toInt)) &&& Int32.ofInt 31).toInt) + 1)) (gc_b35 hb) (gc_b31 hb)  ⟨by (/-41-/first | (have o1 := gz_sh f16; omega) | (simp only [gz_hd] at *; omega)), by (/-42-/first | (have o1 := gz_sh f16; have o2 := gz_sh t20; have o3 := gz_sh t24; have o4 := gz_sh t30; omega) | (simp only [gz_hd] at *; omega))⟩ ⟨by (/-43-/first | (have o1 := gz_sh f16; omega) | (simp only [gz_hd] at *; omega)), by (/-44-/first | (have o1 := gz_sh f16; have o2 := gz_sh t20; have o3 := gz_sh t24; have o4 := gz_sh t30; omega) | (simp only [gz_hd] at *; omega))⟩  
      obtain ⟨I32, J33, rfl, hI32, g31, k31, rfl⟩ := P31
      have FI32 := gc_frc (W := fun q j => (q = 35 ∧ j = 1) ∨ q = 36) (V := fun q j => (q = 35 ∧ j = 1) ∨ q = 36) FI28 (fun q j h => (h.elim (fun h => (Or.inl h)) (fun h => (Or.inr h)))) g31
      have t34 := gz_hi ((g31 31 4).resolve_left (fun h => h.elim (fun h => absurd h.2 (by first | exact gz_ne rfl | decide)) (fun h => absurd h (by first | exact gz_ne rfl | decide))))
      obtain rfl : J = J33 := funext fun q => funext fun j => ((k31 q j).resolve_left id).symm
      refine gv_callV hD rfl (As := [.inr (.inr (some 31)), .inl ((Int32.ofInt (((Int32.ofInt a2 >>> (Int32.ofInt 11 &&& 31)).toInt)) &&& Int32.ofInt 31).toInt), .inl (((Int32.ofInt (((Int32.ofInt a2 >>> (Int32.ofInt 11 &&& 31)).toInt)) &&& Int32.ofInt 31).toInt) + 1)]) (st := []) rfl (gz_sh B_35) S_35 rfl (gc_lV12 hws rfl) (Nat.le_of_ble_eq_true rfl) (gz_Ev_mono (d := 4) (by decide) E31) ?_
      show gv_X _ _ (121, [(5, .inl ((Int32.ofInt a2 &&& Int32.ofInt 2047).toInt)), (4, .inl ((Int32.ofInt (((Int32.ofInt a2 >>> (Int32.ofInt 11 &&& 31)).toInt)) &&& Int32.ofInt 31).toInt)), (3, .inl ((Int32.ofInt a2 >>> (Int32.ofInt 16 &&& 31)).toInt)), (0, .inr (.inr (some 0))), (1, .inr (.inr (some a1))), (2, .inl a2)], [], sh, gc_h sh I32 J A)
      refine gv_pick [3, 2, 1] rfl ?_
      exact L121 I32 J (((Int32.ofInt a2 >>> (Int32.ofInt 16 &&& 31)).toInt)) (((Int32.ofInt (((Int32.ofInt a2 >>> (Int32.ofInt 11 &&& 31)).toInt)) &&& Int32.ofInt 31).toInt)) hI32 FI32 FJ (by (/-45-/first | (and_intros; (omega); (omega); (have o1 := gz_sh f16; omega); (have o1 := gz_sh f16; omega); (have o1 := gz_sh f16; have o2 := gz_sh t20; have o3 := gz_sh t24; have o4 := gz_sh t30; have o5 := gz_sh t34; omega); (omega); (have o1 := gz_sh t20; have o2 := gz_sh t24; have o3 := gz_sh t30; have o4 := gz_sh t34; omega)) | (simp only [gz_hd] at *; omega)))
  · show gv_X _ _ (48, [(5, .inl ((Int32.ofInt a2 &&& Int32.ofInt 2047).toInt)), (4, .inl ((Int32.ofInt (((Int32.ofInt a2 >>> (Int32.ofInt 11 &&& 31)).toInt)) &&& Int32.ofInt 31).toInt)), (3, .inl ((Int32.ofInt a2 >>> (Int32.ofInt 16 &&& 31)).toInt)), (0, .inr (.inr (some 0))), (1, .inr (.inr (some a1))), (2, .inl a2)], [], sh, gc_h sh I22 J A)
    refine gv_run 1 true hD (pcₚ := 49) (lvₚ := [(5, .inl ((Int32.ofInt a2 &&& Int32.ofInt 2047).toInt)), (4, .inl ((Int32.ofInt (((Int32.ofInt a2 >>> (Int32.ofInt 11 &&& 31)).toInt)) &&& Int32.ofInt 31).toInt)), (3, .inl ((Int32.ofInt a2 >>> (Int32.ofInt 16 &&& 31)).toInt)), (0, .inr (.inr (some 0))), (1, .inr (.inr (some a1))), (2, .inl a2)]) (stₚ := [.inr (.inr (some 0))]) (hₚ := gc_h sh I22 J A) (C := (True ∧ True)) rfl ⟨trivial, trivial⟩ ?_
    refine gv_get hD rfl rfl S_0 ⟨by decide, (gz_sh B_0)⟩ (gc_hA S_0 rfl A_0_4) ?_
    show gv_X _ _ (52, [(5, .inl ((Int32.ofInt a2 &&& Int32.ofInt 2047).toInt)), (4, .inl ((Int32.ofInt (((Int32.ofInt a2 >>> (Int32.ofInt 11 &&& 31)).toInt)) &&& Int32.ofInt 31).toInt)), (3, .inl ((Int32.ofInt a2 >>> (Int32.ofInt 16 &&& 31)).toInt)), (0, .inr (.inr (some 0))), (1, .inr (.inr (some a1))), (2, .inl a2)], [.inr (.inr (some 35))], sh, gc_h sh I22 J A)
    refine gv_run 1 true hD (pcₚ := 53) (lvₚ := [(5, .inl ((Int32.ofInt a2 &&& Int32.ofInt 2047).toInt)), (4, .inl ((Int32.ofInt (((Int32.ofInt a2 >>> (Int32.ofInt 11 &&& 31)).toInt)) &&& Int32.ofInt 31).toInt)), (3, .inl ((Int32.ofInt a2 >>> (Int32.ofInt 16 &&& 31)).toInt)), (0, .inr (.inr (some 0))), (1, .inr (.inr (some a1))), (2, .inl a2)]) (stₚ := [.inr (.inr (some a1)), .inr (.inr (some 35))]) (hₚ := gc_h sh I22 J A) (C := (True ∧ True)) rfl ⟨trivial, trivial⟩ ?_
    refine gv_get hD rfl rfl S_a1 ⟨by decide, (gz_sh B_a1)⟩ (gc_hA S_a1 rfl A_a1_15) ?_
    show gv_X _ _ (56, [(5, .inl ((Int32.ofInt a2 &&& Int32.ofInt 2047).toInt)), (4, .inl ((Int32.ofInt (((Int32.ofInt a2 >>> (Int32.ofInt 11 &&& 31)).toInt)) &&& Int32.ofInt 31).toInt)), (3, .inl ((Int32.ofInt a2 >>> (Int32.ofInt 16 &&& 31)).toInt)), (0, .inr (.inr (some 0))), (1, .inr (.inr (some a1))), (2, .inl a2)], [.inr (.inr (some (a1 + 17))), .inr (.inr (some 35))], sh, gc_h sh I22 J A)
    refine gv_get hD rfl rfl S_a1_17 ⟨by decide, (gz_sh B_a1_17)⟩ (gc_hA S_a1_17 rfl A_a1_17_1) ?_
    show gv_X _ _ (59, [(5, .inl ((Int32.ofInt a2 &&& Int32.ofInt 2047).toInt)), (4, .inl ((Int32.ofInt (((Int32.ofInt a2 >>> (Int32.ofInt 11 &&& 31)).toInt)) &&& Int32.ofInt 31).toInt)), (3, .inl ((Int32.ofInt a2 >>> (Int32.ofInt 16 &&& 31)).toInt)), (0, .inr (.inr (some 0))), (1, .inr (.inr (some a1))), (2, .inl a2)], [.inr (.inr (some ((a1 + 17) + 1))), .inr (.inr (some 35))], sh, gc_h sh I22 J A)
    refine gv_run 4 true hD (pcₚ := 65) (lvₚ := [(5, .inl ((Int32.ofInt a2 &&& Int32.ofInt 2047).toInt)), (4, .inl ((Int32.ofInt (((Int32.ofInt a2 >>> (Int32.ofInt 11 &&& 31)).toInt)) &&& Int32.ofInt 31).toInt)), (3, .inl ((Int32.ofInt a2 >>> (Int32.ofInt 16 &&& 31)).toInt)), (0, .inr (.inr (some 0))), (1, .inr (.inr (some a1))), (2, .inl a2)]) (stₚ := [.inr (.inr (some a1)), .inl (((Int32.ofInt a2 &&& Int32.ofInt 2047).toInt) * 24), .inr (.inr (some ((a1 + 17) + 1))), .inr (.inr (some 35))]) (hₚ := gc_h sh I22 J A) (C := ((((True ∧ True) ∧ True) ∧ True) ∧ True)) rfl ⟨⟨⟨⟨trivial, trivial⟩, trivial⟩, trivial⟩, trivial⟩ ?_
    refine gv_get hD rfl rfl S_a1 ⟨by decide, (gz_sh B_a1)⟩ (gc_hA S_a1 rfl A_a1_15) ?_
    show gv_X _ _ (68, [(5, .inl ((Int32.ofInt a2 &&& Int32.ofInt 2047).toInt)), (4, .inl ((Int32.ofInt (((Int32.ofInt a2 >>> (Int32.ofInt 11 &&& 31)).toInt)) &&& Int32.ofInt 31).toInt)), (3, .inl ((Int32.ofInt a2 >>> (Int32.ofInt 16 &&& 31)).toInt)), (0, .inr (.inr (some 0))), (1, .inr (.inr (some a1))), (2, .inl a2)], [.inr (.inr (some (a1 + 17))), .inl (((Int32.ofInt a2 &&& Int32.ofInt 2047).toInt) * 24), .inr (.inr (some ((a1 + 17) + 1))), .inr (.inr (some 35))], sh, gc_h sh I22 J A)
    refine gv_get hD rfl rfl S_a1_17 ⟨by decide, (gz_sh B_a1_17)⟩ (gc_hA S_a1_17 rfl A_a1_17_2) ?_
    show gv_X _ _ (71, [(5, .inl ((Int32.ofInt a2 &&& Int32.ofInt 2047).toInt)), (4, .inl ((Int32.ofInt (((Int32.ofInt a2 >>> (Int32.ofInt 11 &&& 31)).toInt)) &&& Int32.ofInt 31).toInt)), (3, .inl ((Int32.ofInt a2 >>> (Int32.ofInt 16 &&& 31)).toInt)), (0, .inr (.inr (some 0))), (1, .inr (.inr (some a1))), (2, .inl a2)], [.inr (.inr (some ((a1 + 17) + 2))), .inl (((Int32.ofInt a2 &&& Int32.ofInt 2047).toInt) * 24), .inr (.inr (some ((a1 + 17) + 1))), .inr (.inr (some 35))], sh, gc_h sh I22 J A)
    refine gv_run 1 true hD (pcₚ := 73) (lvₚ := [(5, .inl ((Int32.ofInt a2 &&& Int32.ofInt 2047).toInt)), (4, .inl ((Int32.ofInt (((Int32.ofInt a2 >>> (Int32.ofInt 11 &&& 31)).toInt)) &&& Int32.ofInt 31).toInt)), (3, .inl ((Int32.ofInt a2 >>> (Int32.ofInt 16 &&& 31)).toInt)), (0, .inr (.inr (some 0))), (1, .inr (.inr (some a1))), (2, .inl a2)]) (stₚ := [.inl ((Int32.ofInt a2 &&& Int32.ofInt 2047).toInt), .inr (.inr (some ((a1 + 17) + 2))), .inl (((Int32.ofInt a2 &&& Int32.ofInt 2047).toInt) * 24), .inr (.inr (some ((a1 + 17) + 1))), .inr (.inr (some 35))]) (hₚ := gc_h sh I22 J A) (C := (True ∧ True)) rfl ⟨trivial, trivial⟩ ?_
    have f35 := gz_hi ((show (-1) ≤ I22 ((a1 + 17) + 2) (Int.toNat (((Int32.ofInt a2 &&& Int32.ofInt 2047).toInt))) ∧ I22 ((a1 + 17) + 2) (Int.toNat (((Int32.ofInt a2 &&& Int32.ofInt 2047).toInt))) ≤ 24 from gc_in2 hI22 (gz_sh R_a1_17_2) rfl rfl rfl))
    refine gv_iald hD rfl S_a1_17_2 rfl ⟨by decide, (gz_sh B_a1_17_2)⟩ ⟨by (/-46-/first | omega | (simp only [gz_hd] at *; omega)), by (/-47-/first | omega | (simp only [gz_hd] at *; omega))⟩ (gc_iI S_a1_17_2 rfl) ?_
    show gv_X _ _ (74, [(5, .inl ((Int32.ofInt a2 &&& Int32.ofInt 2047).toInt)), (4, .inl ((Int32.ofInt (((Int32.ofInt a2 >>> (Int32.ofInt 11 &&& 31)).toInt)) &&& Int32.ofInt 31).toInt)), (3, .inl ((Int32.ofInt a2 >>> (Int32.ofInt 16 &&& 31)).toInt)), (0, .inr (.inr (some 0))), (1, .inr (.inr (some a1))), (2, .inl a2)], [.inl (I22 ((a1 + 17) + 2) (Int.toNat (((Int32.ofInt a2 &&& Int32.ofInt 2047).toInt)))), .inl (((Int32.ofInt a2 &&& Int32.ofInt 2047).toInt) * 24), .inr (.inr (some ((a1 + 17) + 1))), .inr (.inr (some 35))], sh, gc_h sh I22 J A)
    have t36 := (show 0 < (I22 ((a1 + 17) + 2) (Int.toNat (((Int32.ofInt a2 &&& Int32.ofInt 2047).toInt)))) from by
    have h9 : (I22 ((a1 + 17) + 2) (Int.toNat (((Int32.ofInt a2 &&& Int32.ofInt 2047).toInt)))) = I (a1 + 17 + 2) (Int.toNat dd) := ((FI22 (a1 + 17 + 2) (Int.toNat (((Int32.ofInt a2 &&& Int32.ofInt 2047).toInt)))).resolve_left (by (/-48-/first | (have o1 := gz_sh B_a1; have o2 := gz_sh B_a1_10; have o3 := gz_sh B_a1_13; have o4 := gz_sh B_a1_14; have o5 := gz_sh B_a1_15; have o6 := gz_sh B_a1_16; have o7 := gz_sh B_a1_17; have o8 := gz_sh B_a1_17_1; have o9 := gz_sh B_a1_17_2; have o10 := gz_sh B_a1_17_3; have o11 := gz_sh B_a1_17_4; have o12 := gz_sh B_a1_17_5; have o13 := gz_sh B_a1_17_6; have o14 := gz_sh B_a1_17_7; have o15 := gz_sh B_a1_5; have o16 := gz_sh B_a1_6; have o17 := gz_sh B_a1_9; omega) | (simp only [gz_hd] at *; omega)))).trans (by rw [show Int.toNat (((Int32.ofInt a2 &&& Int32.ofInt 2047).toInt)) = Int.toNat dd from by (/-49-/first | omega | (simp only [gz_hd] at *; omega))])
    have h8 := y8 (by (/-50-/first | omega | (simp only [gz_hd] at *; omega)))
    (/-51-/first | omega | (simp only [gz_hd] at *; omega)))
    obtain ⟨r37, h37, E37, P37⟩ := d_X9_putSpaced (ws0 := ws0) (tb := tb) hws htb sh ro I22 J A hI22 35 36864 (((a1 + 17) + 1)) ((((Int32.ofInt a2 &&& Int32.ofInt 2047).toInt) * 24)) ((I22 ((a1 + 17) + 2) (Int.toNat (((Int32.ofInt a2 &&& Int32.ofInt 2047).toInt))))) (gc_b35 hb) S_a1_17_1 (gz_sh R_a1_17_1) (gz_sh B_a1_17_1) (by decide)  ⟨by (/-52-/first | omega | (simp only [gz_hd] at *; omega)), by (/-53-/first | omega | (simp only [gz_hd] at *; omega))⟩ ⟨by (/-54-/first | omega | (simp only [gz_hd] at *; omega)), by (/-55-/first | (have o1 := gz_sh f35; omega) | (simp only [gz_hd] at *; omega))⟩  
    obtain ⟨I38, J39, rfl, hI38, g37, k37, rfl⟩ := P37
    have FI38 := gc_frc (W := fun q j => (q = 35 ∧ j = 1) ∨ q = 36) (V := fun q j => (q = 35 ∧ j = 1) ∨ q = 36) FI22 (fun q j h => (h.elim (fun h => (Or.inl h)) (fun h => (Or.inr h)))) g37
    have t40 := gz_hi ((g37 31 4).resolve_left (fun h => h.elim (fun h => absurd h.2 (by first | exact gz_ne rfl | decide)) (fun h => absurd h (by first | exact gz_ne rfl | decide))))
    obtain rfl : J = J39 := funext fun q => funext fun j => ((k37 q j).resolve_left id).symm
    refine gv_callV hD rfl (As := [.inr (.inr (some ((a1 + 17) + 1))), .inl (((Int32.ofInt a2 &&& Int32.ofInt 2047).toInt) * 24), .inl (I22 ((a1 + 17) + 2) (Int.toNat (((Int32.ofInt a2 &&& Int32.ofInt 2047).toInt))))]) (st := []) rfl (gz_sh B_35) S_35 rfl (gc_lV12 hws rfl) (Nat.le_of_ble_eq_true rfl) (gz_Ev_mono (d := 3) (by decide) E37) ?_
    show gv_X _ _ (77, [(5, .inl ((Int32.ofInt a2 &&& Int32.ofInt 2047).toInt)), (4, .inl ((Int32.ofInt (((Int32.ofInt a2 >>> (Int32.ofInt 11 &&& 31)).toInt)) &&& Int32.ofInt 31).toInt)), (3, .inl ((Int32.ofInt a2 >>> (Int32.ofInt 16 &&& 31)).toInt)), (0, .inr (.inr (some 0))), (1, .inr (.inr (some a1))), (2, .inl a2)], [], sh, gc_h sh I38 J A)
    refine gv_run 1 true hD (pcₚ := 121) (lvₚ := [(5, .inl ((Int32.ofInt a2 &&& Int32.ofInt 2047).toInt)), (4, .inl ((Int32.ofInt (((Int32.ofInt a2 >>> (Int32.ofInt 11 &&& 31)).toInt)) &&& Int32.ofInt 31).toInt)), (3, .inl ((Int32.ofInt a2 >>> (Int32.ofInt 16 &&& 31)).toInt)), (0, .inr (.inr (some 0))), (1, .inr (.inr (some a1))), (2, .inl a2)]) (stₚ := []) (hₚ := gc_h sh I38 J A) (C := (True ∧ True)) rfl ⟨trivial, trivial⟩ ?_
    refine gv_pick [3, 2, 1] rfl ?_
    exact L121 I38 J (((Int32.ofInt a2 >>> (Int32.ofInt 16 &&& 31)).toInt)) (((Int32.ofInt (((Int32.ofInt a2 >>> (Int32.ofInt 11 &&& 31)).toInt)) &&& Int32.ofInt 31).toInt)) hI38 FI38 FJ (by (/-56-/first | (and_intros; (omega); (omega); (have o1 := gz_sh f16; omega); (have o1 := gz_sh f16; omega); (have o1 := gz_sh f16; have o2 := gz_sh t20; have o3 := gz_sh t24; have o4 := gz_sh t40; omega); (omega); (have o1 := gz_sh t20; have o2 := gz_sh t24; have o3 := gz_sh t40; omega)) | (simp only [gz_hd] at *; omega)))
