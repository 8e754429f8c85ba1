/-! WHAT A GRAMMAR KEEPS: every argument of a linearization stands among its items once, a word's function takes none; and what stays over a module. -/
theorem gr_o_x {a b : Prop} (h : gr_o a b) (ha : ¬ a) : b := Or.resolve_left h ha
theorem gr_o_b {a b : Prop} (h : b) : gr_o a b := Or.inr h
theorem gr_o_a {a b : Prop} (h : a) : gr_o a b := Or.inl h
def gr_ng (g : Nat → Int) (o : Nat) : Nat → Int
  | 0 => 0
  | m + 1 => gr_ng g o m + (if g (o + m) < 0 then 1 else 0)
theorem gr_ng_c {g gₚ : Nat → Int} {o o' : Nat} : ∀ m : Nat, (∀ j, j < m → gₚ (o' + j) = g (o + j)) → gr_ng gₚ o' m = gr_ng g o m
  | 0, _ => rfl
  | m + 1, h => by
    show gr_ng gₚ o' m + (if gₚ (o' + m) < 0 then 1 else 0) = gr_ng g o m + (if g (o + m) < 0 then 1 else 0)
    rw [gr_ng_c m (fun j hj => h j (by omega)), h m (by omega)]
set_option maxHeartbeats 8000000 in
theorem gr_ng_le {g : Nat → Int} {o : Nat} {k : Nat} : ∀ m : Nat, k ≤ m → gr_ng g o k ≤ gr_ng g o m
  | 0, h => by
    have e : k = 0 := by exact gz_m 0 (by omega)
    subst e
    exact Int.le_refl _
  | m + 1, h => by
    by_cases e : k = m + 1
    · subst e
      exact Int.le_refl _
    · have h9 := gr_ng_le (g := g) (o := o) (k := k) m (by exact gz_m 1 (by omega))
      show gr_ng g o k ≤ gr_ng g o m + (if g (o + m) < 0 then 1 else 0)
      split <;> exact gz_m 2 (by omega)
theorem gr_ng_0 (g : Nat → Int) (o : Nat) (m : Nat) : 0 ≤ gr_ng g o m := gr_ng_le (k := 0) m (by omega)
theorem gr_ng_s {g : Nat → Int} {o k : Nat} (h : g (o + k) < 0) : gr_ng g o (k + 1) = gr_ng g o k + 1 := by
  show gr_ng g o k + (if g (o + k) < 0 then 1 else 0) = _
  rw [if_pos h]
theorem gr_ng_n {g : Nat → Int} {o k : Nat} (h : ¬ g (o + k) < 0) : gr_ng g o (k + 1) = gr_ng g o k := by
  show gr_ng g o k + (if g (o + k) < 0 then 1 else 0) = _
  rw [if_neg h]
  omega
theorem gr_ng_lt {g : Nat → Int} {o k m : Nat} (hk : k < m) (h : g (o + k) < 0) : gr_ng g o k + 1 ≤ gr_ng g o m := by
  have h9 := gr_ng_le (g := g) (o := o) (k := k + 1) m (by omega)
  rw [gr_ng_s h] at h9
  exact h9
def gr_LW (x : Nat) (I : gr_I) : Prop :=
  (I 41 x < I 0 3 ∧ 0 ≤ I 41 x ∧ 0 ≤ I 42 x ∧ I 42 x ≤ 6 ∧ I 45 x ≤ 6 ∧ -4 ≤ I 43 (6 * x)) ∧
  (∀ a : Nat, (a : Int) < I 6 (Int.toNat (I 41 x)) → ∃ k : Nat, (k : Int) < I 42 x ∧ I 43 (6 * x + k) = -1 - (a : Int)) ∧
  gr_ng (I 43) (6 * x) (Int.toNat (I 42 x)) = I 6 (Int.toNat (I 41 x)) ∧
  (I 42 x = 1 → I 43 (6 * x) < 0 → I 7 (Int.toNat (4 * I 41 x - 1 - I 43 (6 * x))) < I 8 (Int.toNat (I 41 x))) ∧
  (∀ k : Nat, (k : Int) < I 45 x → I 46 (6 * x + k) = 2 ∨ I 47 (6 * x + k) ≤ 3)
theorem gr_LW_c {x : Nat} {I Iₚ : gr_I} (h : gr_LW x I) (h1 : Iₚ 41 x = I 41 x) (h2 : Iₚ 42 x = I 42 x) (h3 : Iₚ 45 x = I 45 x) (h4 : ∀ k, k < 6 → Iₚ 43 (6 * x + k) = I 43 (6 * x + k)) (h5 : ∀ k, k < 6 → Iₚ 46 (6 * x + k) = I 46 (6 * x + k)) (h6 : ∀ k, k < 6 → Iₚ 47 (6 * x + k) = I 47 (6 * x + k)) (hf : I 41 x < Iₚ 0 3) (h7 : Iₚ 6 (Int.toNat (I 41 x)) = I 6 (Int.toNat (I 41 x))) (h8 : ∀ j : Nat, (j : Int) < 4 * I 41 x + 4 → Iₚ 7 j = I 7 j) (h9 : Iₚ 8 (Int.toNat (I 41 x)) = I 8 (Int.toNat (I 41 x))) : gr_LW x Iₚ := by
  obtain ⟨⟨b1, b2, b3, b4, b5, b6⟩, c1, c2, c3, c4⟩ := h
  have h40 := h4 0 (by omega)
  rw [Nat.add_zero] at h40
  refine ⟨by rw [h1, h2, h3, h40]; omega, ?_, ?_, ?_, ?_⟩
  · intro a ha
    rw [h1, h7] at ha
    obtain ⟨k, k1, k2⟩ := c1 a ha
    exact ⟨k, by rw [h2]; exact k1, by rw [h4 k (by omega)]; exact k2⟩
  · rw [h1, h2, h7, ← c2]
    exact gr_ng_c _ (fun j hj => h4 j (by omega))
  · rw [h1, h2, h40, h9, h8 _ (by omega)]
    exact c3
  · intro k hk
    rw [h3] at hk
    rw [h5 k (by omega), h6 k (by omega)]
    exact c4 k hk
def gr_GRx (c d : Int) (I : gr_I) : Prop :=
  (∀ t k : Nat, t < 8 → (k : Int) < I 19 t → k < 384 ∧ (¬ ((384 * t + k : Nat) : Int) = c → gr_LW (384 * t + k) I)) ∧
  (∀ t k : Nat, t < 8 → (k : Int) < I 18 t → k < 64 ∧ (¬ ((64 * t + k : Nat) : Int) = d → I 36 (64 * t + k) < I 0 3 ∧ 0 ≤ I 36 (64 * t + k) ∧ I 6 (Int.toNat (I 36 (64 * t + k))) = 0))
def gr_GR (I : gr_I) : Prop := gr_GRx (-1) (-1) I
theorem gr_GRx_fr {c d : Int} {I Iₚ : gr_I} (h : gr_GRx c d I) (h1 : ∀ k, Iₚ 19 k = I 19 k) (h2 : ∀ k, Iₚ 18 k = I 18 k) (h3 : ∀ k, Iₚ 36 k = I 36 k) (h4 : ∀ k, Iₚ 41 k = I 41 k) (h5 : ∀ k, Iₚ 42 k = I 42 k) (h6 : ∀ k, Iₚ 43 k = I 43 k) (h7 : ∀ k, Iₚ 45 k = I 45 k) (h8 : ∀ k, Iₚ 46 k = I 46 k) (h9 : ∀ k, Iₚ 47 k = I 47 k) (h10 : ∀ k, Iₚ 6 k = I 6 k) (h11 : ∀ k, Iₚ 7 k = I 7 k) (h12 : ∀ k, Iₚ 8 k = I 8 k) (hf : Iₚ 0 3 = I 0 3) : gr_GRx c d Iₚ := by
  refine ⟨fun t k ht hk => ?_, fun t k ht hk => ?_⟩
  · rw [h1] at hk
    obtain ⟨a, b⟩ := h.1 t k ht hk
    exact ⟨a, fun hc => gr_LW_c (b hc) (h4 _) (h5 _) (h7 _) (fun _ _ => h6 _) (fun _ _ => h8 _) (fun _ _ => h9 _) (by rw [hf]; exact (b hc).1.1) (h10 _) (fun _ _ => h11 _) (h12 _)⟩
  · rw [h2] at hk
    obtain ⟨a, b⟩ := h.2 t k ht hk
    refine ⟨a, fun hc => ?_⟩
    rw [h3, hf, h10]
    exact b hc
theorem gr_GR_fr {I Iₚ : gr_I} (h : gr_GR I) (h1 : ∀ k, Iₚ 19 k = I 19 k) (h2 : ∀ k, Iₚ 18 k = I 18 k) (h3 : ∀ k, Iₚ 36 k = I 36 k) (h4 : ∀ k, Iₚ 41 k = I 41 k) (h5 : ∀ k, Iₚ 42 k = I 42 k) (h6 : ∀ k, Iₚ 43 k = I 43 k) (h7 : ∀ k, Iₚ 45 k = I 45 k) (h8 : ∀ k, Iₚ 46 k = I 46 k) (h9 : ∀ k, Iₚ 47 k = I 47 k) (h10 : ∀ k, Iₚ 6 k = I 6 k) (h11 : ∀ k, Iₚ 7 k = I 7 k) (h12 : ∀ k, Iₚ 8 k = I 8 k) (hf : Iₚ 0 3 = I 0 3) : gr_GR Iₚ := gr_GRx_fr h h1 h2 h3 h4 h5 h6 h7 h8 h9 h10 h11 h12 hf
/-- only functions not yet told of are written -/
theorem gr_GR_new {I Iₚ : gr_I} (h : gr_GR I) (hr : ∀ b j : Nat, ¬ b = 0 → ¬ b = 6 → ¬ b = 7 → ¬ b = 8 → Iₚ b j = I b j) (h10 : ∀ j : Nat, (j : Int) < I 0 3 → Iₚ 6 j = I 6 j) (h11 : ∀ j : Nat, (j : Int) < 4 * I 0 3 → Iₚ 7 j = I 7 j) (h12 : ∀ j : Nat, (j : Int) < I 0 3 → Iₚ 8 j = I 8 j) (hf : I 0 3 ≤ Iₚ 0 3) : gr_GR Iₚ := by
  refine ⟨fun t k ht hk => ?_, fun t k ht hk => ?_⟩
  · rw [hr 19 t (by decide) (by decide) (by decide) (by decide)] at hk
    obtain ⟨a, b⟩ := h.1 t k ht hk
    refine ⟨a, fun hc => ?_⟩
    have b9 := b hc
    have b8 := b9.1
    have z := fun (q : Nat) (h0 : ¬ q = 0) (h1 : ¬ q = 6) (h2 : ¬ q = 7) (h3 : ¬ q = 8) (j : Nat) => hr q j h0 h1 h2 h3
    exact gr_LW_c b9 (z _ (by decide) (by decide) (by decide) (by decide) _) (z _ (by decide) (by decide) (by decide) (by decide) _) (z _ (by decide) (by decide) (by decide) (by decide) _) (fun _ _ => z _ (by decide) (by decide) (by decide) (by decide) _) (fun _ _ => z _ (by decide) (by decide) (by decide) (by decide) _) (fun _ _ => z _ (by decide) (by decide) (by decide) (by decide) _) (by omega) (h10 _ (by omega)) (fun j hj => h11 j (by omega)) (h12 _ (by omega))
  · rw [hr 18 t (by decide) (by decide) (by decide) (by decide)] at hk
    obtain ⟨a, b⟩ := h.2 t k ht hk
    refine ⟨a, fun hc => ?_⟩
    have b9 := b hc
    rw [hr 36 _ (by decide) (by decide) (by decide) (by decide), h10 _ (by omega)]
    exact ⟨by omega, b9.2.1, b9.2.2⟩
theorem gr_GR_6 {I Iₚ : gr_I} {k : Nat} (h : gr_GR I) (p : ∀ b j, ¬ (b = 6 ∧ j = k) → Iₚ b j = I b j) (hz : I 0 3 ≤ (k : Int)) : gr_GR Iₚ := by
  have e := p 0 3 (fun q => absurd q.1 (by first | exact gz_ne rfl | decide))
  exact gr_GR_new h (fun b j _ h1 _ _ => p b j (fun q => h1 q.1)) (fun j hj => p _ _ (fun q => by have := q.2; omega)) (fun j _ => p _ _ (fun q => absurd q.1 (by first | exact gz_ne rfl | decide))) (fun j _ => p _ _ (fun q => absurd q.1 (by first | exact gz_ne rfl | decide))) (by omega)
theorem gr_GR_7 {I Iₚ : gr_I} {k : Nat} (h : gr_GR I) (p : ∀ b j, ¬ (b = 7 ∧ j = k) → Iₚ b j = I b j) (hz : 4 * I 0 3 ≤ (k : Int)) : gr_GR Iₚ := by
  have e := p 0 3 (fun q => absurd q.1 (by first | exact gz_ne rfl | decide))
  exact gr_GR_new h (fun b j _ _ h1 _ => p b j (fun q => h1 q.1)) (fun j _ => p _ _ (fun q => absurd q.1 (by first | exact gz_ne rfl | decide))) (fun j hj => p _ _ (fun q => by have := q.2; omega)) (fun j _ => p _ _ (fun q => absurd q.1 (by first | exact gz_ne rfl | decide))) (by omega)
theorem gr_GR_8 {I Iₚ : gr_I} {k : Nat} (h : gr_GR I) (p : ∀ b j, ¬ (b = 8 ∧ j = k) → Iₚ b j = I b j) (hz : I 0 3 ≤ (k : Int)) : gr_GR Iₚ := by
  have e := p 0 3 (fun q => absurd q.1 (by first | exact gz_ne rfl | decide))
  exact gr_GR_new h (fun b j _ _ _ h1 => p b j (fun q => h1 q.1)) (fun j _ => p _ _ (fun q => absurd q.1 (by first | exact gz_ne rfl | decide))) (fun j _ => p _ _ (fun q => absurd q.1 (by first | exact gz_ne rfl | decide))) (fun j hj => p _ _ (fun q => by have := q.2; omega)) (by omega)
theorem gr_GR_n {I Iₚ : gr_I} (h : gr_GR I) (p : ∀ b j, ¬ (b = 0 ∧ j = 3) → Iₚ b j = I b j) (hz : I 0 3 ≤ Iₚ 0 3) : gr_GR Iₚ :=
  gr_GR_new h (fun b j h1 _ _ _ => p b j (fun q => h1 q.1)) (fun j _ => p _ _ (fun q => absurd q.1 (by first | exact gz_ne rfl | decide))) (fun j _ => p _ _ (fun q => absurd q.1 (by first | exact gz_ne rfl | decide))) (fun j _ => p _ _ (fun q => absurd q.1 (by first | exact gz_ne rfl | decide))) hz
/-- what stays since a state I9: functions, linearizations and words that were told of -/
def gr_ST (I9 I : gr_I) : Prop := (I9 0 3 ≤ I 0 3 ∧ ∀ f : Nat, (f : Int) < I9 0 3 → I 6 f = I9 6 f) ∧ ∀ t : Nat, t < 8 → (I9 19 t ≤ I 19 t ∧ I9 18 t ≤ I 18 t) ∧ (∀ k : Nat, (k : Int) < I9 19 t → I 41 (384 * t + k) = I9 41 (384 * t + k)) ∧ (∀ k : Nat, (k : Int) < I9 18 t → I 36 (64 * t + k) = I9 36 (64 * t + k))
theorem gr_ST_rf (I : gr_I) : gr_ST I I := ⟨⟨Int.le_refl _, fun _ _ => rfl⟩, fun _ _ => ⟨⟨Int.le_refl _, Int.le_refl _⟩, fun _ _ => rfl, fun _ _ => rfl⟩⟩
theorem gr_ST_fr {I9 I Iₚ : gr_I} (h : gr_ST I9 I) (h1 : ∀ k, Iₚ 6 k = I 6 k) (h2 : ∀ k, Iₚ 19 k = I 19 k) (h3 : ∀ k, Iₚ 18 k = I 18 k) (h4 : ∀ k, Iₚ 41 k = I 41 k) (h5 : ∀ k, Iₚ 36 k = I 36 k) (hf : Iₚ 0 3 = I 0 3) : gr_ST I9 Iₚ := by
  refine ⟨⟨by rw [hf]; exact h.1.1, fun f hq => (h1 f).trans (h.1.2 f hq)⟩, fun t ht => ?_⟩
  obtain ⟨a, b, c⟩ := h.2 t ht
  exact ⟨by rw [h2, h3]; exact a, fun k hk => (h4 _).trans (b k hk), fun k hk => (h5 _).trans (c k hk)⟩
theorem gr_ST_6 {I9 I Iₚ : gr_I} {k : Nat} (h : gr_ST I9 I) (p : ∀ b j, ¬ (b = 6 ∧ j = k) → Iₚ b j = I b j) (hz : I 0 3 ≤ (k : Int)) : gr_ST I9 Iₚ := by
  have e := p 0 3 (fun q => absurd q.1 (by first | exact gz_ne rfl | decide))
  have z := h.1.1
  refine ⟨⟨by omega, fun f hq => (p _ _ (fun q => by have := q.2; omega)).trans (h.1.2 f hq)⟩, fun t ht => ?_⟩
  obtain ⟨a, b, c⟩ := h.2 t ht
  rw [p 19 t (fun q => absurd q.1 (by first | exact gz_ne rfl | decide)), p 18 t (fun q => absurd q.1 (by first | exact gz_ne rfl | decide))]
  exact ⟨a, fun k hk => (p _ _ (fun q => absurd q.1 (by first | exact gz_ne rfl | decide))).trans (b k hk), fun k hk => (p _ _ (fun q => absurd q.1 (by first | exact gz_ne rfl | decide))).trans (c k hk)⟩
theorem gr_ST_n {I9 I Iₚ : gr_I} (h : gr_ST I9 I) (p : ∀ b j, ¬ (b = 0 ∧ j = 3) → Iₚ b j = I b j) (hz : I 0 3 ≤ Iₚ 0 3) : gr_ST I9 Iₚ := by
  have z := h.1.1
  refine ⟨⟨by omega, fun f hq => (p _ _ (fun q => absurd q.1 (by first | exact gz_ne rfl | decide))).trans (h.1.2 f hq)⟩, fun t ht => ?_⟩
  obtain ⟨a, b, c⟩ := h.2 t ht
  rw [p 19 t (fun q => absurd q.1 (by first | exact gz_ne rfl | decide)), p 18 t (fun q => absurd q.1 (by first | exact gz_ne rfl | decide))]
  exact ⟨a, fun k hk => (p _ _ (fun q => absurd q.1 (by first | exact gz_ne rfl | decide))).trans (b k hk), fun k hk => (p _ _ (fun q => absurd q.1 (by first | exact gz_ne rfl | decide))).trans (c k hk)⟩
