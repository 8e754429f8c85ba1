/-! RELATIONS that are carried along. -/
def gr_VF (I : gr_I) : Prop := ∀ t : Nat, t < 8 → I 14 t ≤ 6 * I 13 t
theorem gr_VF_fr {I Iₚ : gr_I} (h : gr_VF I) (h1 : ∀ k, Iₚ 14 k = I 14 k) (h2 : ∀ k, Iₚ 13 k = I 13 k) : gr_VF Iₚ := fun t ht => by rw [h1, h2]; exact h t ht
theorem gr_VF_v {I Iₚ : gr_I} {k : Nat} (h : gr_VF I) (p : ∀ b j, ¬ (b = 14 ∧ j = k) → Iₚ b j = I b j) (hz : Iₚ 14 k ≤ 6 * I 13 k) : gr_VF Iₚ := fun t h8 => by
  have h0 := h t h8
  by_cases ht : t = k
  · subst ht
    have h1 := p 13 t (fun q => absurd q.1 (by first | exact gz_ne rfl | decide))
    omega
  · have h1 := p 13 t (fun q => absurd q.1 (by first | exact gz_ne rfl | decide))
    have h2 := p 14 t (fun q => ht q.2)
    omega
theorem gr_VF_f {I Iₚ : gr_I} {k : Nat} (h : gr_VF I) (p : ∀ b j, ¬ (b = 13 ∧ j = k) → Iₚ b j = I b j) (hz : I 14 k ≤ 6 * Iₚ 13 k) : gr_VF Iₚ := fun t h8 => by
  have h0 := h t h8
  by_cases ht : t = k
  · subst ht
    have h1 := p 14 t (fun q => absurd q.1 (by first | exact gz_ne rfl | decide))
    omega
  · have h1 := p 14 t (fun q => absurd q.1 (by first | exact gz_ne rfl | decide))
    have h2 := p 13 t (fun q => ht q.2)
    omega
def gr_LN (B : Int) (I : gr_I) : Prop := ∀ t : Nat, t < 8 → 4 * I 19 t + I 0 69 - I 0 72 ≤ B
theorem gr_LN_fr {B : Int} {I Iₚ : gr_I} (h : gr_LN B I) (h1 : ∀ k, Iₚ 19 k = I 19 k) (h2 : I 0 72 ≤ Iₚ 0 72) (h3 : Iₚ 0 69 = I 0 69) : gr_LN B Iₚ := fun t ht => by
  have := h t ht
  rw [h1, h3]
  omega
theorem gr_LN_l {B : Int} {I Iₚ : gr_I} {k : Nat} (h : gr_LN B I) (p : ∀ b j, ¬ (b = 19 ∧ j = k) → Iₚ b j = I b j) (hz : 4 * Iₚ 19 k + I 0 69 - I 0 72 ≤ B) : gr_LN B Iₚ := fun t h8 => by
  have h0 := h t h8
  have h1 := p 0 69 (fun q => absurd q.1 (by first | exact gz_ne rfl | decide))
  have h2 := p 0 72 (fun q => absurd q.1 (by first | exact gz_ne rfl | decide))
  by_cases ht : t = k
  · subst ht
    omega
  · have h3 := p 19 t (fun q => ht q.2)
    omega
def gr_LE (B : Int) (I : gr_I) : Prop := ∀ t : Nat, t < 8 → 4 * I 19 t + I 0 68 ≤ B
theorem gr_LE_fr {B : Int} {I Iₚ : gr_I} (h : gr_LE B I) (h1 : ∀ k, Iₚ 19 k = I 19 k) (h2 : Iₚ 0 68 = I 0 68) : gr_LE B Iₚ := fun t ht => by rw [h1, h2]; exact h t ht
theorem gr_LN_of {B : Int} {I Iₚ : gr_I} (h : gr_LE B I) (h1 : ∀ k, Iₚ 19 k = I 19 k) (h2 : Iₚ 0 69 = I 0 68) (h3 : 0 ≤ Iₚ 0 72) : gr_LN B Iₚ := fun t ht => by
  have := h t ht
  rw [h1, h2]
  omega
theorem gr_LE_of {B : Int} {I Iₚ : gr_I} (h : gr_LN B I) (h1 : ∀ k, Iₚ 19 k = I 19 k) (h2 : Iₚ 0 68 = 0) (h3 : I 0 72 ≤ I 0 69) : gr_LE B Iₚ := fun t ht => by
  have := h t ht
  rw [h1, h2]
  omega
def gr_TM (I : gr_I) : Prop := ∀ k : Nat, (k : Int) < I 0 64 → (I 52 k = 0 → I 53 k < (k : Int)) ∧ (I 52 k = 4 → I 53 k < (k : Int) ∧ I 54 k < (k : Int))
theorem gr_TM_fr {I Iₚ : gr_I} (h : gr_TM I) (h1 : ∀ k, Iₚ 52 k = I 52 k) (h2 : ∀ k, Iₚ 53 k = I 53 k) (h3 : ∀ k, Iₚ 54 k = I 54 k) (h4 : Iₚ 0 64 = I 0 64) : gr_TM Iₚ := fun k hk => by
  rw [h1, h2, h3]
  exact h k (by omega)
theorem gr_TM_k {I Iₚ : gr_I} {k : Nat} (h : gr_TM I) (p : ∀ b j, ¬ (b = 52 ∧ j = k) → Iₚ b j = I b j) (hz : I 0 64 ≤ (k : Int)) : gr_TM Iₚ := fun t ht => by
  have h1 := p 0 64 (fun q => absurd q.1 (by first | exact gz_ne rfl | decide))
  have ht9 : t ≠ k := fun q => by subst q; omega
  rw [p 52 t (fun q => ht9 q.2), p 53 t (fun q => ht9 q.2), p 54 t (fun q => ht9 q.2)]
  exact h t (by omega)
theorem gr_TM_a {I Iₚ : gr_I} {k : Nat} (h : gr_TM I) (p : ∀ b j, ¬ (b = 53 ∧ j = k) → Iₚ b j = I b j) (hz : I 0 64 ≤ (k : Int)) : gr_TM Iₚ := fun t ht => by
  have h1 := p 0 64 (fun q => absurd q.1 (by first | exact gz_ne rfl | decide))
  have ht9 : t ≠ k := fun q => by subst q; omega
  rw [p 52 t (fun q => ht9 q.2), p 53 t (fun q => ht9 q.2), p 54 t (fun q => ht9 q.2)]
  exact h t (by omega)
theorem gr_TM_b {I Iₚ : gr_I} {k : Nat} (h : gr_TM I) (p : ∀ b j, ¬ (b = 54 ∧ j = k) → Iₚ b j = I b j) (hz : I 0 64 ≤ (k : Int)) : gr_TM Iₚ := fun t ht => by
  have h1 := p 0 64 (fun q => absurd q.1 (by first | exact gz_ne rfl | decide))
  have ht9 : t ≠ k := fun q => by subst q; omega
  rw [p 52 t (fun q => ht9 q.2), p 53 t (fun q => ht9 q.2), p 54 t (fun q => ht9 q.2)]
  exact h t (by omega)
theorem gr_TM_n {I Iₚ : gr_I} {n : Nat} (h : gr_TM I) (p : ∀ b j, ¬ (b = 0 ∧ j = 64) → Iₚ b j = I b j) (hz : Iₚ 0 64 ≤ I 0 64 ∨ ((n : Int) = I 0 64 ∧ Iₚ 0 64 = I 0 64 + 1 ∧ (I 52 n = 0 → I 53 n < I 0 64) ∧ (I 52 n = 4 → I 53 n < I 0 64 ∧ I 54 n < I 0 64))) : gr_TM Iₚ := fun t ht => by
  rw [p 52 t (fun q => absurd q.1 (by first | exact gz_ne rfl | decide)), p 53 t (fun q => absurd q.1 (by first | exact gz_ne rfl | decide)), p 54 t (fun q => absurd q.1 (by first | exact gz_ne rfl | decide))]
  by_cases h9 : (t : Int) < I 0 64
  · exact h t h9
  · have e : n = t := by omega
    rw [e] at hz
    omega
def gr_RT (I0 I : gr_I) (t0 : Int) : Prop := ∀ t : Int, 0 ≤ t → t < t0 → I 59 (Int.toNat (9 + 7 * t)) = I0 13 (Int.toNat t) ∧ I 59 (Int.toNat ((9 + 7 * t) + 1)) = I0 14 (Int.toNat t) ∧ I 59 (Int.toNat (((9 + 7 * t) + 1) + 1)) = I0 15 (Int.toNat t) ∧ I 59 (Int.toNat ((((9 + 7 * t) + 1) + 1) + 1)) = I0 16 (Int.toNat t) ∧ I 59 (Int.toNat (((((9 + 7 * t) + 1) + 1) + 1) + 1)) = I0 17 (Int.toNat t) ∧ I 59 (Int.toNat ((((((9 + 7 * t) + 1) + 1) + 1) + 1) + 1)) = I0 18 (Int.toNat t) ∧ I 59 (Int.toNat (((((((9 + 7 * t) + 1) + 1) + 1) + 1) + 1) + 1)) = I0 19 (Int.toNat t)
def gr_RT8 (I0 I : gr_I) : Prop := gr_RT I0 I 8
theorem gr_RT_fr {I0 I Iₚ : gr_I} {t0 : Int} (h : gr_RT I0 I t0) (h1 : ∀ k, Iₚ 59 k = I 59 k) : gr_RT I0 Iₚ t0 := fun t a b => by
  simp only [h1]
  exact h t a b
theorem gr_RT8_fr {I0 I Iₚ : gr_I} (h : gr_RT8 I0 I) (h1 : ∀ k, Iₚ 59 k = I 59 k) : gr_RT8 I0 Iₚ := gr_RT_fr h h1
theorem gr_RT_nx {I0 I Iₚ : gr_I} {t0 : Int} (h : gr_RT I0 I t0) (h0 : 0 ≤ t0) (hf : ∀ j, j < Int.toNat (9 + 7 * t0) → Iₚ 59 j = I 59 j) (hq : Iₚ 59 (Int.toNat (9 + 7 * t0)) = I0 13 (Int.toNat t0) ∧ Iₚ 59 (Int.toNat ((9 + 7 * t0) + 1)) = I0 14 (Int.toNat t0) ∧ Iₚ 59 (Int.toNat (((9 + 7 * t0) + 1) + 1)) = I0 15 (Int.toNat t0) ∧ Iₚ 59 (Int.toNat ((((9 + 7 * t0) + 1) + 1) + 1)) = I0 16 (Int.toNat t0) ∧ Iₚ 59 (Int.toNat (((((9 + 7 * t0) + 1) + 1) + 1) + 1)) = I0 17 (Int.toNat t0) ∧ Iₚ 59 (Int.toNat ((((((9 + 7 * t0) + 1) + 1) + 1) + 1) + 1)) = I0 18 (Int.toNat t0) ∧ Iₚ 59 (Int.toNat (((((((9 + 7 * t0) + 1) + 1) + 1) + 1) + 1) + 1)) = I0 19 (Int.toNat t0)) : gr_RT I0 Iₚ (t0 + 1) := fun t a b => by
  by_cases ht : t < t0
  · have h9 := h t a ht
    rw [hf (Int.toNat (9 + 7 * t)) (by omega), hf (Int.toNat ((9 + 7 * t) + 1)) (by omega), hf (Int.toNat (((9 + 7 * t) + 1) + 1)) (by omega), hf (Int.toNat ((((9 + 7 * t) + 1) + 1) + 1)) (by omega), hf (Int.toNat (((((9 + 7 * t) + 1) + 1) + 1) + 1)) (by omega), hf (Int.toNat ((((((9 + 7 * t) + 1) + 1) + 1) + 1) + 1)) (by omega), hf (Int.toNat (((((((9 + 7 * t) + 1) + 1) + 1) + 1) + 1) + 1)) (by omega)]
    exact h9
  · have e : t = t0 := by omega
    subst e
    exact hq
def gr_FT (I0 I : gr_I) (t0 : Int) : Prop := ∀ t : Int, 0 ≤ t → t < t0 → I 13 (Int.toNat t) = I0 59 (Int.toNat (9 + 7 * t)) ∧ I 14 (Int.toNat t) = I0 59 (Int.toNat ((9 + 7 * t) + 1)) ∧ I 15 (Int.toNat t) = I0 59 (Int.toNat (((9 + 7 * t) + 1) + 1)) ∧ I 16 (Int.toNat t) = I0 59 (Int.toNat ((((9 + 7 * t) + 1) + 1) + 1)) ∧ I 17 (Int.toNat t) = I0 59 (Int.toNat (((((9 + 7 * t) + 1) + 1) + 1) + 1)) ∧ I 18 (Int.toNat t) = I0 59 (Int.toNat ((((((9 + 7 * t) + 1) + 1) + 1) + 1) + 1)) ∧ I 19 (Int.toNat t) = I0 59 (Int.toNat (((((((9 + 7 * t) + 1) + 1) + 1) + 1) + 1) + 1))
theorem gr_FT_fr {I0 I Iₚ : gr_I} {t0 : Int} (h : gr_FT I0 I t0) (hf : ∀ a k, ¬ (a = 0) → ¬ (a = 10) → Iₚ a k = I a k) : gr_FT I0 Iₚ t0 := fun t a b => by
  have h9 := h t a b
  rw [hf 13 (Int.toNat t) (by decide) (by decide), hf 14 (Int.toNat t) (by decide) (by decide), hf 15 (Int.toNat t) (by decide) (by decide), hf 16 (Int.toNat t) (by decide) (by decide), hf 17 (Int.toNat t) (by decide) (by decide), hf 18 (Int.toNat t) (by decide) (by decide), hf 19 (Int.toNat t) (by decide) (by decide)]
  exact h9
theorem gr_FT_nx {I0 I Iₚ : gr_I} {t0 : Int} (h : gr_FT I0 I t0) (h0 : 0 ≤ t0) (hf : ∀ a j, j < Int.toNat t0 → Iₚ a j = I a j) (hq : Iₚ 13 (Int.toNat t0) = I0 59 (Int.toNat (9 + 7 * t0)) ∧ Iₚ 14 (Int.toNat t0) = I0 59 (Int.toNat ((9 + 7 * t0) + 1)) ∧ Iₚ 15 (Int.toNat t0) = I0 59 (Int.toNat (((9 + 7 * t0) + 1) + 1)) ∧ Iₚ 16 (Int.toNat t0) = I0 59 (Int.toNat ((((9 + 7 * t0) + 1) + 1) + 1)) ∧ Iₚ 17 (Int.toNat t0) = I0 59 (Int.toNat (((((9 + 7 * t0) + 1) + 1) + 1) + 1)) ∧ Iₚ 18 (Int.toNat t0) = I0 59 (Int.toNat ((((((9 + 7 * t0) + 1) + 1) + 1) + 1) + 1)) ∧ Iₚ 19 (Int.toNat t0) = I0 59 (Int.toNat (((((((9 + 7 * t0) + 1) + 1) + 1) + 1) + 1) + 1))) : gr_FT I0 Iₚ (t0 + 1) := fun t a b => by
  by_cases ht : t < t0
  · have h9 := h t a ht
    rw [hf 13 (Int.toNat t) (by omega), hf 14 (Int.toNat t) (by omega), hf 15 (Int.toNat t) (by omega), hf 16 (Int.toNat t) (by omega), hf 17 (Int.toNat t) (by omega), hf 18 (Int.toNat t) (by omega), hf 19 (Int.toNat t) (by omega)]
    exact h9
  · have e : t = t0 := by omega
    subst e
    exact hq
def gr_HT (I : gr_I) : Prop := ∀ t : Int, 0 ≤ t → t < 8 → (0 ≤ I 59 (Int.toNat (9 + 7 * t)) ∧ I 59 (Int.toNat (9 + 7 * t)) ≤ 8) ∧ (0 ≤ I 59 (Int.toNat ((9 + 7 * t) + 1)) ∧ I 59 (Int.toNat ((9 + 7 * t) + 1)) ≤ 48) ∧ (0 ≤ I 59 (Int.toNat (((9 + 7 * t) + 1) + 1)) ∧ I 59 (Int.toNat (((9 + 7 * t) + 1) + 1)) ≤ 16) ∧ (0 ≤ I 59 (Int.toNat ((((9 + 7 * t) + 1) + 1) + 1)) ∧ I 59 (Int.toNat ((((9 + 7 * t) + 1) + 1) + 1)) ≤ 24) ∧ (0 ≤ I 59 (Int.toNat (((((9 + 7 * t) + 1) + 1) + 1) + 1)) ∧ I 59 (Int.toNat (((((9 + 7 * t) + 1) + 1) + 1) + 1)) ≤ 24) ∧ (0 ≤ I 59 (Int.toNat ((((((9 + 7 * t) + 1) + 1) + 1) + 1) + 1)) ∧ I 59 (Int.toNat ((((((9 + 7 * t) + 1) + 1) + 1) + 1) + 1)) ≤ 64) ∧ (0 ≤ I 59 (Int.toNat (((((((9 + 7 * t) + 1) + 1) + 1) + 1) + 1) + 1)) ∧ I 59 (Int.toNat (((((((9 + 7 * t) + 1) + 1) + 1) + 1) + 1) + 1)) ≤ 384)
theorem gr_HT_of {I0 I : gr_I} (h : gr_RT8 I0 I) (hI : gr_Inv I0) : gr_HT I := fun t a b => by
  have h9 := h t a b
  obtain ⟨e0, e1, e2, e3, e4, e5, e6⟩ := h9
  rw [e0, e1, e2, e3, e4, e5, e6]
  exact ⟨(hI 13 (Int.toNat t)).1, (hI 14 (Int.toNat t)).1, (hI 15 (Int.toNat t)).1, (hI 16 (Int.toNat t)).1, (hI 17 (Int.toNat t)).1, (hI 18 (Int.toNat t)).1, (hI 19 (Int.toNat t)).1⟩
theorem gr_back {I0 I1 I2 : gr_I} (hr : gr_RT8 I0 I1) (hf : gr_FT I1 I2 8) (t : Nat) (ht : t < 8) : I2 13 t = I0 13 t ∧ I2 14 t = I0 14 t ∧ I2 15 t = I0 15 t ∧ I2 16 t = I0 16 t ∧ I2 17 t = I0 17 t ∧ I2 18 t = I0 18 t ∧ I2 19 t = I0 19 t := by
  have h1 := hr (t : Int) (by omega) (by omega)
  have h2 := hf (t : Int) (by omega) (by omega)
  rw [Int.toNat_natCast] at h1 h2
  obtain ⟨a0, a1, a2, a3, a4, a5, a6⟩ := h1
  obtain ⟨b0, b1, b2, b3, b4, b5, b6⟩ := h2
  exact ⟨b0.trans a0, b1.trans a1, b2.trans a2, b3.trans a3, b4.trans a4, b5.trans a5, b6.trans a6⟩
theorem gr_VF_back {I0 I1 I2 I3 : gr_I} (h : gr_VF I0) (hr : gr_RT8 I0 I1) (hf : gr_FT I1 I2 8) (h1 : ∀ a k, ¬ (a = 0) → I3 a k = I2 a k) : gr_VF I3 := fun t ht => by
  have h9 := gr_back hr hf t ht
  rw [h1 14 t (by decide), h1 13 t (by decide), h9.1, h9.2.1]
  exact h t ht
theorem gr_LE_back {B : Int} {I0 I1 I2 I3 : gr_I} (h : gr_LE B I0) (hr : gr_RT8 I0 I1) (hf : gr_FT I1 I2 8) (h1 : ∀ a k, ¬ (a = 0) → I3 a k = I2 a k) (h2 : I3 0 68 ≤ I0 0 68) : gr_LE B I3 := fun t ht => by
  have h9 := gr_back hr hf t ht
  have h8 := h t ht
  rw [h1 19 t (by decide), h9.2.2.2.2.2.2]
  omega
