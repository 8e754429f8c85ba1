/-! A TREE IS READ. -/
theorem gw_dg {z y : Int} {k : Nat} (hz : 0 ≤ z ∧ z ≤ 65535) (hk : k ≤ 3) (hy : y = 4 * (k : Int)) : (Int32.ofInt ((Int32.ofInt z >>> (Int32.ofInt y &&& 31)).toInt) &&& Int32.ofInt 15).toInt = gr_dg z k := by
  have hc : k = 0 ∨ k = 1 ∨ k = 2 ∨ k = 3 := by omega
  subst hy
  rcases hc with e | e | e | e <;> subst e
  · rw [gw_sr (k := 1) (c := 0) hz (by decide) (by decide), gw_a15 (by omega)]
    show z / 1 % 16 = z % 16
    omega
  · rw [gw_sr (k := 16) (c := 4) hz (by decide) (by decide), gw_a15 (by omega)]
    show z / 16 % 16 = z / 16 % 16
    rfl
  · rw [gw_sr (k := 256) (c := 8) hz (by decide) (by decide), gw_a15 (by omega)]
    show z / 256 % 16 = z / 16 / 16 % 16
    omega
  · rw [gw_sr (k := 4096) (c := 12) hz (by decide) (by decide), gw_a15 (by omega)]
    show z / 4096 % 16 = z / 16 / 16 / 16 % 16
    omega
/-- k trees stand one behind the other from a to b -/
def gr_SG (k a b : Int) (I : gr_I) : Prop := (0 ≤ a ∧ a ≤ b) ∧ ∃ π : Nat → Int, π (Int.toNat a) = k ∧ (∀ j : Nat, a ≤ (j : Int) → (j : Int) < b → (1 ≤ π j ∧ π (j + 1) = π j - 1 + I 6 (Int.toNat (I 113 j))) ∧ (0 ≤ I 113 j ∧ I 113 j < I 0 3)) ∧ π (Int.toNat b) = 0
theorem gr_SG_0 {a : Int} {I : gr_I} (h : 0 ≤ a) : gr_SG 0 a a I := ⟨⟨h, Int.le_refl _⟩, fun _ => 0, rfl, fun j h1 h2 => by omega, rfl⟩
theorem gr_SG_ap {k a b c : Int} {I : gr_I} (h : gr_SG k a b I) (g : gr_SG 1 b c I) : gr_SG (k + 1) a c I := by
  obtain ⟨⟨h0, h1⟩, π, p1, p2, p3⟩ := h
  obtain ⟨⟨_, g1⟩, ρ, r1, r2, r3⟩ := g
  refine ⟨⟨h0, by omega⟩, fun j => if (j : Int) < b then π j + 1 else ρ j, ?_, fun j hj hc => ?_, ?_⟩
  · show (if ((Int.toNat a : Nat) : Int) < b then π (Int.toNat a) + 1 else ρ (Int.toNat a)) = k + 1
    by_cases e : a < b
    · rw [if_pos (by omega), p1]
    · have e9 : Int.toNat a = Int.toNat b := by omega
      rw [if_neg (by omega), e9, r1]
      rw [← e9, p1] at p3
      omega
  · show (1 ≤ (if (j : Int) < b then π j + 1 else ρ j) ∧ (if ((j + 1 : Nat) : Int) < b then π (j + 1) + 1 else ρ (j + 1)) = (if (j : Int) < b then π j + 1 else ρ j) - 1 + I 6 (Int.toNat (I 113 j))) ∧ _
    by_cases e : (j : Int) < b
    · obtain ⟨⟨u1, u2⟩, u3⟩ := p2 j hj e
      rw [if_pos e]
      by_cases d : ((j + 1 : Nat) : Int) < b
      · rw [if_pos d]
        exact ⟨⟨by omega, by omega⟩, u3⟩
      · have e9 : j + 1 = Int.toNat b := by omega
        rw [if_neg d, e9, r1]
        rw [e9, p3] at u2
        exact ⟨⟨by omega, by omega⟩, u3⟩
    · rw [if_neg e, if_neg (by omega)]
      exact r2 j (by omega) hc
  · show (if ((Int.toNat c : Nat) : Int) < b then π (Int.toNat c) + 1 else ρ (Int.toNat c)) = 0
    rw [if_neg (by omega), r3]
theorem gr_SG_nd {m s b f : Int} {I : gr_I} (h : gr_SG m (s + 1) b I) (h0 : 0 ≤ s) (hm : m = I 6 (Int.toNat f)) (hf : I 113 (Int.toNat s) = f) (hf1 : 0 ≤ f ∧ f < I 0 3) : gr_SG 1 s b I := by
  obtain ⟨⟨_, h1⟩, π, p1, p2, p3⟩ := h
  refine ⟨⟨h0, by omega⟩, fun j => if (j : Int) = s then 1 else π j, ?_, fun j hj hc => ?_, ?_⟩
  · show (if ((Int.toNat s : Nat) : Int) = s then 1 else π (Int.toNat s)) = 1
    rw [if_pos (by omega)]
  · show (1 ≤ (if (j : Int) = s then 1 else π j) ∧ (if ((j + 1 : Nat) : Int) = s then 1 else π (j + 1)) = (if (j : Int) = s then 1 else π j) - 1 + I 6 (Int.toNat (I 113 j))) ∧ _
    by_cases e : (j : Int) = s
    · have e8 : j = Int.toNat s := by omega
      have e9 : j + 1 = Int.toNat (s + 1) := by omega
      rw [if_pos e, if_neg (by omega), e9, p1, e8, hf, hm]
      exact ⟨⟨by omega, by omega⟩, hf1⟩
    · rw [if_neg e, if_neg (by omega)]
      exact p2 j (by omega) hc
  · show (if ((Int.toNat b : Nat) : Int) = s then 1 else π (Int.toNat b)) = 0
    rw [if_neg (by omega), p3]
theorem gr_SG_fr {k a b : Int} {I Iₚ : gr_I} (h : gr_SG k a b I) (h1 : ∀ j : Nat, a ≤ (j : Int) → (j : Int) < b → Iₚ 113 j = I 113 j) (h2 : ∀ f : Nat, (f : Int) < I 0 3 → Iₚ 6 f = I 6 f) (h3 : I 0 3 ≤ Iₚ 0 3) : gr_SG k a b Iₚ := by
  obtain ⟨h0, π, p1, p2, p3⟩ := h
  refine ⟨h0, π, p1, fun j hj hc => ?_, p3⟩
  obtain ⟨u, v⟩ := p2 j hj hc
  rw [h1 j hj hc, h2 _ (by omega)]
  exact ⟨u, by omega⟩
def gr_TB (n : Int) (I Iₚ : gr_I) : Prop := ∀ j : Nat, (j : Int) < n → Iₚ 113 j = I 113 j
def gr_B (I : gr_I) (c : Nat) : Int := 64 * (I 88 c - I 104 c) - 63 + I 87 c
def gr_ub (I : gr_I) (u : Nat → Bool) (y i : Nat) : Int := if u i = true then gr_B I (Int.toNat (I 98 (4 * y + i))) else 0
/-- some of the m arguments are read, all of them with a number below a: n places at most -/
def gr_UB (y x : Nat) (m a n : Int) (I : gr_I) : Prop := ∃ u : Nat → Bool, (∀ i : Nat, u i = true → (i : Int) < m ∧ ∃ k : Nat, gr_ng (I 43) (6 * x) k = (i : Int) ∧ I 43 (6 * x + k) < 0 ∧ -1 - I 43 (6 * x + k) < a) ∧ n ≤ 1 + (gr_ub I u y 0 + gr_ub I u y 1 + gr_ub I u y 2 + gr_ub I u y 3)
theorem gr_UB_0 {y x : Nat} {m : Int} {I : gr_I} : gr_UB y x m 0 1 I := by
  refine ⟨fun _ => false, fun i h => Bool.noConfusion h, ?_⟩
  have e : ∀ i, gr_ub I (fun _ => false) y i = 0 := fun i => rfl
  rw [e, e, e, e]
  omega
theorem gr_UB_s {y x K : Nat} {m a n b : Int} {I : gr_I} (h : gr_UB y x m a n I) (h0 : 0 ≤ b) (hb : b < m) (hm : m ≤ 4) (hk : gr_ng (I 43) (6 * x) K = b) (hl : I 43 (6 * x + K) = -1 - a) (ha : 0 ≤ a) : gr_UB y x m (a + 1) (n + gr_B I (Int.toNat (I 98 (4 * y + Int.toNat b)))) I := by
  obtain ⟨u, h1, h2⟩ := h
  have un : u (Int.toNat b) = false := by
    cases e : u (Int.toNat b) with
    | false => rfl
    | true =>
      exfalso
      obtain ⟨_, k, k1, k2, k3⟩ := h1 _ e
      by_cases c : k < K
      · have z := gr_ng_lt (g := I 43) (o := 6 * x) (k := k) (m := K) c k2
        omega
      · by_cases d : K < k
        · have z := gr_ng_lt (g := I 43) (o := 6 * x) (k := K) (m := k) d (by omega)
          omega
        · have e9 : k = K := by omega
          rw [e9, hl] at k3
          omega
  have w : ∀ i, i ≠ Int.toNat b → gr_ub I (fun j => if j = Int.toNat b then true else u j) y i = gr_ub I u y i := fun i hi => by
    simp [gr_ub, hi]
  have w1 : gr_ub I (fun j => if j = Int.toNat b then true else u j) y (Int.toNat b) = gr_B I (Int.toNat (I 98 (4 * y + Int.toNat b))) := by
    simp [gr_ub]
  have w0 : gr_ub I u y (Int.toNat b) = 0 := by
    unfold gr_ub
    rw [un]
    rfl
  refine ⟨fun j => if j = Int.toNat b then true else u j, fun i hi => ?_, ?_⟩
  · by_cases c : i = Int.toNat b
    · exact ⟨by omega, K, by omega, by omega, by omega⟩
    · dsimp only at hi
      rw [if_neg c] at hi
      obtain ⟨a1, k, k1, k2, k3⟩ := h1 i hi
      exact ⟨a1, k, k1, k2, by omega⟩
  · have hc : Int.toNat b = 0 ∨ Int.toNat b = 1 ∨ Int.toNat b = 2 ∨ Int.toNat b = 3 := by omega
    rcases hc with e | e | e | e <;> rw [e] at w w1 w0 ⊢
    · rw [w1, w 1 (by decide), w 2 (by decide), w 3 (by decide)]
      omega
    · rw [w1, w 0 (by decide), w 2 (by decide), w 3 (by decide)]
      omega
    · rw [w1, w 0 (by decide), w 1 (by decide), w 3 (by decide)]
      omega
    · rw [w1, w 0 (by decide), w 1 (by decide), w 2 (by decide)]
      omega
theorem gr_UB_t {t m a n : Int} {y x : Nat} {I : gr_I} (h : gr_UB y x m a n I) (hI : gr_Inv I) (w : gr_WK t I y) (h0 : 0 ≤ I 97 y) (hm : m = I 6 (Int.toNat (I 95 y))) (hg : ∀ x : Nat, (x : Int) < I 0 157 → I 104 x < I 88 x) (hn : 0 ≤ I 94 y ∧ I 94 y < I 0 157) : n ≤ gr_B I (Int.toNat (I 94 y)) := by
  obtain ⟨u, h1, h2⟩ := h
  have f4 := (gr_b_6 hI (Int.toNat (I 95 y)))
  have wk := (w.1 h0).2
  have gn := hg (Int.toNat (I 94 y)) (by omega)
  have kn := (gr_b_87 hI (Int.toNat (I 94 y)))
  rw [← hm] at wk f4
  have z : ∀ i : Nat, m ≤ (i : Int) → gr_ub I u y i = 0 := fun i hi => by
    unfold gr_ub
    cases e : u i with
    | false => rfl
    | true =>
      have := (h1 i e).1
      omega
  have b : ∀ i : Nat, (i : Int) < m → gr_ub I u y i ≤ gr_B I (Int.toNat (I 98 (4 * y + i))) ∧ (I 104 (Int.toNat (I 98 (4 * y + i))) < I 88 (Int.toNat (I 98 (4 * y + i))) ∧ 0 ≤ I 87 (Int.toNat (I 98 (4 * y + i))) ∧ I 87 (Int.toNat (I 98 (4 * y + i))) ≤ 31) := fun i hi => by
    obtain ⟨c1, _, _⟩ := wk i hi
    have g9 := hg (Int.toNat (I 98 (4 * y + i))) (by omega)
    have k9 := (gr_b_87 hI (Int.toNat (I 98 (4 * y + i))))
    refine ⟨?_, g9, k9⟩
    unfold gr_ub gr_B
    split <;> omega
  have hc : m = 0 ∨ m = 1 ∨ m = 2 ∨ m = 3 ∨ m = 4 := by omega
  unfold gr_B at b ⊢
  rcases hc with e | e | e | e | e <;> subst e
  · rw [z 0 (by omega), z 1 (by omega), z 2 (by omega), z 3 (by omega)] at h2
    omega
  · rw [z 1 (by omega), z 2 (by omega), z 3 (by omega)] at h2
    have b0 := b 0 (by omega)
    obtain ⟨_, c0, _⟩ := wk 0 (by omega)
    omega
  · rw [z 2 (by omega), z 3 (by omega)] at h2
    have b0 := b 0 (by omega)
    have b1 := b 1 (by omega)
    obtain ⟨_, c0, _⟩ := wk 0 (by omega)
    obtain ⟨_, c1, d1⟩ := wk 1 (by omega)
    have d10 := d1 0 (by omega)
    omega
  · rw [z 3 (by omega)] at h2
    have b0 := b 0 (by omega)
    have b1 := b 1 (by omega)
    have b2 := b 2 (by omega)
    obtain ⟨_, c0, _⟩ := wk 0 (by omega)
    obtain ⟨_, c1, d1⟩ := wk 1 (by omega)
    obtain ⟨_, c2, d2⟩ := wk 2 (by omega)
    have d10 := d1 0 (by omega)
    have d21 := d2 1 (by omega)
    omega
  · have b0 := b 0 (by omega)
    have b1 := b 1 (by omega)
    have b2 := b 2 (by omega)
    have b3 := b 3 (by omega)
    obtain ⟨_, c0, _⟩ := wk 0 (by omega)
    obtain ⟨_, c1, d1⟩ := wk 1 (by omega)
    obtain ⟨_, c2, d2⟩ := wk 2 (by omega)
    obtain ⟨_, c3, d3⟩ := wk 3 (by omega)
    have d10 := d1 0 (by omega)
    have d21 := d2 1 (by omega)
    have d32 := d3 2 (by omega)
    omega
/-- an argument's item is looked up -/
def gr_FI (x : Nat) (a k : Int) (I : gr_I) : Prop := ∀ j : Nat, (j : Int) < k - 6 * (x : Int) → ¬ I 43 (6 * x + j) = -1 - a
theorem gr_FI_b {x : Nat} {a k : Int} {I : gr_I} (h : gr_FI x a k I) (lw : gr_LW x I) (h0 : 0 ≤ a) (ha : a < I 6 (Int.toNat (I 41 x))) (hk : 6 * (x : Int) ≤ k) : k < 6 * (x : Int) + I 42 x ∧ I 42 x ≤ 6 := by
  obtain ⟨j, j1, j2⟩ := lw.2.1 (Int.toNat a) (by omega)
  refine ⟨?_, lw.1.2.2.2.1⟩
  by_cases c : k < 6 * (x : Int) + I 42 x
  · exact c
  · exact absurd (by rw [j2]; omega) (h j (by omega))
theorem gr_FI_nx {x : Nat} {a k : Int} {I : gr_I} (h : gr_FI x a k I) (hk : 6 * (x : Int) ≤ k) (hn : ¬ I 43 (Int.toNat k) = -1 - a) : gr_FI x a (k + 1) I := fun j hj => by
  by_cases c : (j : Int) < k - 6 * (x : Int)
  · exact h j c
  · rw [show 6 * x + j = Int.toNat k from by omega]
    exact hn
theorem gr_ng_k {x : Nat} {k v : Int} {I : gr_I} (hk : 6 * (x : Int) ≤ k) (h : v = gr_ng (I 43) (6 * x) (Int.toNat (k - 6 * (x : Int)))) : (I 43 (Int.toNat k) < 0 → v + 1 = gr_ng (I 43) (6 * x) (Int.toNat (k + 1 - 6 * (x : Int)))) ∧ (¬ I 43 (Int.toNat k) < 0 → v = gr_ng (I 43) (6 * x) (Int.toNat (k + 1 - 6 * (x : Int)))) := by
  have e : Int.toNat k = 6 * x + Int.toNat (k - 6 * (x : Int)) := by omega
  have e2 : Int.toNat (k + 1 - 6 * (x : Int)) = Int.toNat (k - 6 * (x : Int)) + 1 := by omega
  refine ⟨fun hn => ?_, fun hn => ?_⟩
  · rw [e] at hn
    rw [e2, gr_ng_s hn, h]
  · rw [e] at hn
    rw [e2, gr_ng_n hn, h]
theorem gr_at_lt {x : Nat} {a k v : Int} {I : gr_I} (lw : gr_LW x I) (hk : 6 * (x : Int) ≤ k) (hk2 : k < 6 * (x : Int) + I 42 x) (h : v = gr_ng (I 43) (6 * x) (Int.toNat (k - 6 * (x : Int)))) (hl : I 43 (Int.toNat k) = -1 - a) (h0 : 0 ≤ a) : 0 ≤ v ∧ v < I 6 (Int.toNat (I 41 x)) := by
  have e : Int.toNat k = 6 * x + Int.toNat (k - 6 * (x : Int)) := by omega
  rw [e] at hl
  have z := gr_ng_0 (I 43) (6 * x) (Int.toNat (k - 6 * (x : Int)))
  have u := gr_ng_lt (g := I 43) (o := 6 * x) (k := Int.toNat (k - 6 * (x : Int))) (m := Int.toNat (I 42 x)) (by omega) (by omega)
  rw [lw.2.2.1] at u
  omega
theorem gr_GR_wd {t w : Int} {I : gr_I} (h : gr_GR I) (ht : 0 ≤ t ∧ t ≤ 7) (h0 : 0 ≤ w) (hw : w < I 18 (Int.toNat t)) : I 36 (Int.toNat (64 * t + w)) < I 0 3 ∧ 0 ≤ I 36 (Int.toNat (64 * t + w)) ∧ I 6 (Int.toNat (I 36 (Int.toNat (64 * t + w)))) = 0 := by
  have h9 := (h.2 (Int.toNat t) (Int.toNat w) (by omega) (by omega)).2 (by omega)
  rw [show 64 * Int.toNat t + Int.toNat w = Int.toNat (64 * t + w) from by omega] at h9
  exact h9
/-- a node's entry, unfolded -/
theorem gr_rd_y {t a r : Int} {I : gr_I} (hC : gr_CR t I) (hT : gr_TP (I 0 157) I) (h0 : 0 ≤ a) (ha : a < I 0 157) (hr0 : 0 ≤ r) (hr : r < I 105 (Int.toNat a)) : ((0 ≤ I 99 (Int.toNat (I 107 (Int.toNat (16 * a + r)))) ∧ I 99 (Int.toNat (I 107 (Int.toNat (16 * a + r)))) < I 0 158) ∧ I 94 (Int.toNat (I 99 (Int.toNat (I 107 (Int.toNat (16 * a + r)))))) = a) ∧ gr_WK t I (Int.toNat (I 99 (Int.toNat (I 107 (Int.toNat (16 * a + r)))))) ∧ gr_E1 I a (I 107 (Int.toNat (16 * a + r))) (I 108 (Int.toNat (16 * a + r))) := by
  have t1 := hT (Int.toNat a) (Int.toNat r) (by omega) (by omega)
  unfold gr_T1 at t1
  rw [show 16 * Int.toNat a + Int.toNat r = Int.toNat (16 * a + r) from by omega, show ((Int.toNat a : Nat) : Int) = a from by omega] at t1
  have o9 := gr_OR_at hC.2.2.2.1 (x := a) (i := I 107 (Int.toNat (16 * a + r))) h0 ha t1.1.1 t1.1.2
  exact ⟨o9, hC.2.2.2.2.1 _ (by omega), t1.2⟩
