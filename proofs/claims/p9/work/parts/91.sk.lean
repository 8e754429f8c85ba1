/-! FORESTS. A node's first word stands in a ghost row: the ints of the row of longs nTrees, which no cell holds. -/
theorem gr_gst {E : gv_E} {Q : gz_S → Prop} {pc : Nat} {lv : List (Nat × gz_V)} {st : List gz_V} {sh : gz_Sh} {I : gr_I} {J : gr_J} {a k : Nat} {z : Int} {fs as : List Nat} {I0 : gr_I} (hI : gr_Inv I) (hF : gr_fr fs as I0 I) (ht : gr_ty a k = 1) (hm : gr_in fs as a k = true) (hz : (gr_lo a k ≤ z ∧ z ≤ gr_hi a k) ∧ gr_q a k z) (kk : ∀ Iₚ : gr_I, gr_Inv Iₚ → gr_fr fs as I0 Iₚ → Iₚ a k = z → (∀ b j, ¬ (b = a ∧ j = k) → Iₚ b j = I b j) → gv_X E Q (pc, lv, st, sh, gr_h Iₚ J)) : gv_X E Q (pc, lv, st, sh, gr_h I J) := by
  have e : gr_h (gr_u I a k z) J = gr_h I J := by
    funext b j
    by_cases h : b = a ∧ j = k
    · obtain ⟨rfl, rfl⟩ := h
      simp only [gr_h, ht]
    · simp only [gr_h, gr_u_ne I z h]
  have h9 := kk (gr_u I a k z) (hI.up hz) (fun b j hb => by
    by_cases h : b = a ∧ j = k
    · obtain ⟨rfl, rfl⟩ := h
      rw [hm] at hb
      exact absurd hb (by decide)
    · rw [gr_u_ne I z h]
      exact hF b j hb) (gr_u_eq I a k z) (fun b j h => gr_u_ne I z h)
  rw [e] at h9
  exact h9
def gr_on (I : gr_I) (x : Nat) : Int := ((I 88 x - I 104 x) * 25 + I 104 x) * 32 + I 87 x
theorem gr_on_c {I Iₚ : gr_I} {x y : Nat} (h1 : Iₚ 87 y = I 87 x) (h2 : Iₚ 88 y = I 88 x) (h3 : Iₚ 104 y = I 104 x) : gr_on Iₚ y = gr_on I x := by
  unfold gr_on
  rw [h1, h2, h3]
def gr_T3 (k i j x : Int) (I : gr_I) : Prop := x < 0 ∨ (I 87 (Int.toNat x) = k ∧ I 88 (Int.toNat x) = j ∧ I 104 (Int.toNat x) = i)
def gr_LS (I : gr_I) : Prop := (∀ x : Nat, (x : Int) < I 0 157 → I 104 x < I 88 x) ∧ (∀ x : Nat, (x : Int) < I 0 157 → gr_T3 (I 87 x) (I 104 x) (I 88 x) (I 90 x) I) ∧ (∀ i j k : Nat, (i : Int) ≤ I 0 143 → (j : Int) ≤ I 0 143 → k < 32 → gr_T3 (k : Int) (i : Int) (j : Int) (I 93 ((25 * i + j) * 32 + k)) I)
theorem gr_T3_c {k i j x : Int} {I Iₚ : gr_I} (h : gr_T3 k i j x I) (h1 : 0 ≤ x → Iₚ 87 (Int.toNat x) = I 87 (Int.toNat x)) (h2 : 0 ≤ x → Iₚ 88 (Int.toNat x) = I 88 (Int.toNat x)) (h3 : 0 ≤ x → Iₚ 104 (Int.toNat x) = I 104 (Int.toNat x)) : gr_T3 k i j x Iₚ := by
  rcases h with h | h
  · exact Or.inl h
  · by_cases e : x < 0
    · exact Or.inl e
    · exact Or.inr (by rw [h1 (by omega), h2 (by omega), h3 (by omega)]; exact h)
theorem gr_LS_sp {I : gr_I} (h : gr_LS I) {i j k : Int} (hi : 0 ≤ i ∧ i ≤ I 0 143) (hj : 0 ≤ j ∧ j ≤ I 0 143) (hk : 0 ≤ k ∧ k ≤ 31) : gr_T3 k i j (I 93 (Int.toNat ((25 * i + j) * 32 + k))) I := by
  have h9 := h.2.2 (Int.toNat i) (Int.toNat j) (Int.toNat k) (by omega) (by omega) (by omega)
  rw [show Int.toNat ((25 * i + j) * 32 + k) = (25 * Int.toNat i + Int.toNat j) * 32 + Int.toNat k from by omega]
  rw [show ((Int.toNat i : Nat) : Int) = i from by omega, show ((Int.toNat j : Nat) : Int) = j from by omega, show ((Int.toNat k : Nat) : Int) = k from by omega] at h9
  exact h9
theorem gr_LS_nx {I : gr_I} (h : gr_LS I) {k i j x : Int} (ht : gr_T3 k i j x I) (h0 : 0 ≤ x) (hx : x < I 0 157) : gr_T3 k i j (I 90 (Int.toNat x)) I := by
  have h9 := h.2.1 (Int.toNat x) (by omega)
  rcases ht with h1 | h1
  · omega
  · rw [h1.1, h1.2.1, h1.2.2] at h9
    exact h9
def gr_MO (I : gr_I) : Prop := ∀ x y : Nat, x < y → (y : Int) < I 0 157 → gr_on I x ≤ gr_on I y
def gr_OT (o : Int) (I : gr_I) : Prop := ∀ x : Nat, (x : Int) < I 0 157 → gr_on I x ≤ o
def gr_cw (I : gr_I) (x : Int) : Nat → Int
  | 0 => 0
  | m + 1 => gr_cw I x m + (if I 94 m = x then 1 else 0)
theorem gr_cw_c {I Iₚ : gr_I} {x : Int} : ∀ m : Nat, (∀ y, y < m → Iₚ 94 y = I 94 y) → gr_cw Iₚ x m = gr_cw I x m
  | 0, _ => rfl
  | m + 1, h => by
    show gr_cw Iₚ x m + (if Iₚ 94 m = x then 1 else 0) = gr_cw I x m + (if I 94 m = x then 1 else 0)
    rw [gr_cw_c m (fun j hj => h j (by omega)), h m (by omega)]
theorem gr_cw_b {I : gr_I} {x : Int} : ∀ m : Nat, 0 ≤ gr_cw I x m ∧ gr_cw I x m ≤ (m : Int)
  | 0 => ⟨Int.le_refl _, Int.le_refl _⟩
  | m + 1 => by
    have h9 := gr_cw_b (I := I) (x := x) m
    show 0 ≤ gr_cw I x m + (if I 94 m = x then 1 else 0) ∧ gr_cw I x m + (if I 94 m = x then 1 else 0) ≤ ((m + 1 : Nat) : Int)
    split <;> omega
theorem gr_cw_0 {I : gr_I} {x : Int} : ∀ m : Nat, (∀ y, y < m → ¬ I 94 y = x) → gr_cw I x m = 0
  | 0, _ => rfl
  | m + 1, h => by
    show gr_cw I x m + (if I 94 m = x then 1 else 0) = 0
    rw [gr_cw_0 m (fun j hj => h j (by omega)), if_neg (h m (by omega))]
    rfl
def gr_FC (I : gr_I) : Prop := (∀ y : Nat, (y : Int) < I 0 158 → 0 ≤ I 94 y ∧ I 94 y < I 0 157) ∧ ∀ x : Nat, (x : Int) < I 0 157 → I 92 x = gr_cw I (x : Int) (Int.toNat (I 0 158))
theorem gr_FC_b {I : gr_I} (h : gr_FC I) {x : Int} (h0 : 0 ≤ x) (hx : x < I 0 157) (hy : 0 ≤ I 0 158) : 0 ≤ I 92 (Int.toNat x) ∧ I 92 (Int.toNat x) ≤ I 0 158 := by
  have h9 := h.2 (Int.toNat x) (by omega)
  have h8 := gr_cw_b (I := I) (x := ((Int.toNat x : Nat) : Int)) (Int.toNat (I 0 158))
  rw [h9]
  omega
/-- what stays of nodes and ways -/
def gr_XT (I Iₚ : gr_I) : Prop := (I 0 157 ≤ Iₚ 0 157 ∧ I 0 158 ≤ Iₚ 0 158) ∧ (∀ x : Nat, (x : Int) < I 0 157 → Iₚ 87 x = I 87 x ∧ Iₚ 88 x = I 88 x ∧ Iₚ 104 x = I 104 x) ∧ ∀ y : Nat, (y : Int) < I 0 158 → (Iₚ 94 y = I 94 y ∧ Iₚ 95 y = I 95 y ∧ Iₚ 97 y = I 97 y) ∧ ∀ a : Nat, a < 4 → Iₚ 98 (4 * y + a) = I 98 (4 * y + a)
theorem gr_XT_rf (I : gr_I) : gr_XT I I := ⟨⟨Int.le_refl _, Int.le_refl _⟩, fun _ _ => ⟨rfl, rfl, rfl⟩, fun _ _ => ⟨⟨rfl, rfl, rfl⟩, fun _ _ => rfl⟩⟩
theorem gr_XT_tr {I I1 I2 : gr_I} (h : gr_XT I I1) (g : gr_XT I1 I2) : gr_XT I I2 := by
  obtain ⟨⟨a1, a2⟩, b, c⟩ := h
  obtain ⟨⟨d1, d2⟩, e, f⟩ := g
  refine ⟨⟨by omega, by omega⟩, fun x hx => ?_, fun y hy => ?_⟩
  · have p := b x hx
    have q := e x (by omega)
    exact ⟨q.1.trans p.1, q.2.1.trans p.2.1, q.2.2.trans p.2.2⟩
  · have p := c y hy
    have q := f y (by omega)
    exact ⟨⟨q.1.1.trans p.1.1, q.1.2.1.trans p.1.2.1, q.1.2.2.trans p.1.2.2⟩, fun a ha => (q.2 a ha).trans (p.2 a ha)⟩
theorem gr_XT_sm {I Iₚ : gr_I} (h1 : ∀ k, Iₚ 87 k = I 87 k) (h2 : ∀ k, Iₚ 88 k = I 88 k) (h3 : ∀ k, Iₚ 104 k = I 104 k) (h4 : ∀ k, Iₚ 94 k = I 94 k) (h5 : ∀ k, Iₚ 95 k = I 95 k) (h6 : ∀ k, Iₚ 97 k = I 97 k) (h7 : ∀ k, Iₚ 98 k = I 98 k) (h8 : Iₚ 0 157 = I 0 157) (h9 : Iₚ 0 158 = I 0 158) : gr_XT I Iₚ := ⟨⟨by omega, by omega⟩, fun _ _ => ⟨h1 _, h2 _, h3 _⟩, fun _ _ => ⟨⟨h4 _, h5 _, h6 _⟩, fun _ _ => h7 _⟩⟩
theorem gr_T3_x {k i j x : Int} {I Iₚ : gr_I} (h : gr_T3 k i j x I) (g : gr_XT I Iₚ) (hx : x < I 0 157) : gr_T3 k i j x Iₚ := gr_T3_c h (fun h0 => (g.2.1 _ (by omega)).1) (fun h0 => (g.2.1 _ (by omega)).2.1) (fun h0 => (g.2.1 _ (by omega)).2.2)
/-- a way: its tongue's linearization (or word), and its arguments, one behind the other within its node's words and of a lesser rank -/
def gr_WK (t : Int) (I : gr_I) (y : Nat) : Prop := (0 ≤ I 97 y → (384 * t ≤ I 97 y ∧ I 97 y < 384 * t + I 19 (Int.toNat t) ∧ I 95 y = I 41 (Int.toNat (I 97 y))) ∧ ∀ m : Nat, (m : Int) < I 6 (Int.toNat (I 95 y)) → (0 ≤ I 98 (4 * y + m) ∧ I 98 (4 * y + m) < I 0 157) ∧ (I 104 (Int.toNat (I 94 y)) ≤ I 104 (Int.toNat (I 98 (4 * y + m))) ∧ I 88 (Int.toNat (I 98 (4 * y + m))) ≤ I 88 (Int.toNat (I 94 y)) ∧ 32 * (I 88 (Int.toNat (I 98 (4 * y + m))) - I 104 (Int.toNat (I 98 (4 * y + m)))) + I 87 (Int.toNat (I 98 (4 * y + m))) < 32 * (I 88 (Int.toNat (I 94 y)) - I 104 (Int.toNat (I 94 y))) + I 87 (Int.toNat (I 94 y))) ∧ ∀ i : Nat, i < m → I 88 (Int.toNat (I 98 (4 * y + i))) ≤ I 104 (Int.toNat (I 98 (4 * y + m)))) ∧ (I 97 y < 0 → I 95 y < I 18 (Int.toNat t))
def gr_FW (t m : Int) (I : gr_I) : Prop := ∀ y : Nat, (y : Int) < m → gr_WK t I y
/-- what the ways need of the grammar -/
def gr_WG (t : Int) (I Iₚ : gr_I) : Prop := Iₚ 19 (Int.toNat t) = I 19 (Int.toNat t) ∧ Iₚ 18 (Int.toNat t) = I 18 (Int.toNat t) ∧ (∀ k, Iₚ 41 k = I 41 k) ∧ ∀ k, Iₚ 6 k = I 6 k
theorem gr_WK_x {t : Int} {I Iₚ : gr_I} {y : Nat} (h : gr_WK t I y) (g : gr_XT I Iₚ) (hy : (y : Int) < I 0 158) (hn : 0 ≤ I 94 y ∧ I 94 y < I 0 157) (hf : ∀ k, I 6 k ≤ 4) (r : gr_WG t I Iₚ) : gr_WK t Iₚ y := by
  obtain ⟨r1, r2, r3, r4⟩ := r
  obtain ⟨⟨g1, g2⟩, g3, g4⟩ := g
  obtain ⟨⟨y1, y2, y3⟩, y4⟩ := g4 y hy
  have n9 := g3 (Int.toNat (I 94 y)) (by omega)
  refine ⟨fun h0 => ?_, fun h0 => ?_⟩
  · rw [y3] at h0 ⊢
    rw [y2]
    obtain ⟨a, b⟩ := h.1 h0
    refine ⟨by rw [r1, r3]; exact a, fun m hm => ?_⟩
    rw [r4] at hm
    have m4 := hf (Int.toNat (I 95 y))
    obtain ⟨c, d, e⟩ := b m hm
    have e9 := y4 m (by omega)
    rw [e9, y1]
    have c9 := g3 (Int.toNat (I 98 (4 * y + m))) (by omega)
    rw [n9.1, n9.2.1, n9.2.2, c9.1, c9.2.1, c9.2.2]
    refine ⟨⟨c.1, by omega⟩, d, fun i hi => ?_⟩
    obtain ⟨c2, _, _⟩ := b i (by omega)
    have e8 := y4 i (by omega)
    have c8 := g3 (Int.toNat (I 98 (4 * y + i))) (by omega)
    rw [e8, c8.2.1]
    exact e i hi
  · rw [y3] at h0
    rw [y2, r2]
    exact h.2 h0
