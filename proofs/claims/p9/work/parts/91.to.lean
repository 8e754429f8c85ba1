/-! THE HEAP OF TERMS. Ghosts in row 137 (the ints of a row of longs): at n a node's height, at 5000 + n how many binders it may stand under. -/
def gr_CHd (a b x t c : Int) (I : gr_I) : Prop := (a ≤ x ∧ x < b) ∧ I 137 (Int.toNat x) < t ∧ I 137 (5000 + Int.toNat x) ≤ c
def gr_GN (a b S : Int) (n : Nat) (I : gr_I) : Prop := (1 ≤ I 137 n ∧ I 137 n ≤ 300) ∧ (0 ≤ I 137 (5000 + n) ∧ I 137 (5000 + n) ≤ S) ∧ (I 134 n = 0 ∨ I 134 n = 1 ∨ I 134 n = 2 ∨ I 134 n = 4) ∧ (I 134 n = 1 → 0 ≤ I 135 n ∧ I 135 n < I 137 (5000 + n)) ∧ (I 134 n = 0 → gr_CHd a b (I 135 n) (I 137 n) (I 137 (5000 + n) + 1) I) ∧ (I 134 n = 4 → gr_CHd a b (I 135 n) (I 137 n) (I 137 (5000 + n)) I ∧ gr_CHd a b (I 136 n) (I 137 n) (I 137 (5000 + n)) I)
def gr_GH (a b S : Int) (I : gr_I) : Prop := (0 ≤ a ∧ b ≤ 1300) ∧ ∀ n : Nat, a ≤ (n : Int) → (n : Int) < b → gr_GN a b S n I
def gr_NE (I Iₚ : gr_I) (n : Nat) : Prop := (Iₚ 134 n = I 134 n ∧ Iₚ 135 n = I 135 n ∧ Iₚ 136 n = I 136 n) ∧ Iₚ 137 n = I 137 n ∧ Iₚ 137 (5000 + n) = I 137 (5000 + n)
def gr_HF (p q : Int) (I Iₚ : gr_I) : Prop := ∀ n : Nat, n < 2000 → ((n : Int) < p ∨ q ≤ (n : Int)) → gr_NE I Iₚ n
theorem gr_NE_tr {I I1 I2 : gr_I} {n : Nat} (h : gr_NE I I1 n) (g : gr_NE I1 I2 n) : gr_NE I I2 n := ⟨⟨g.1.1.trans h.1.1, g.1.2.1.trans h.1.2.1, g.1.2.2.trans h.1.2.2⟩, g.2.1.trans h.2.1, g.2.2.trans h.2.2⟩
theorem gr_HF_rf (p q : Int) (I : gr_I) : gr_HF p q I I := fun _ _ _ => ⟨⟨rfl, rfl, rfl⟩, rfl, rfl⟩
theorem gr_HF_tr {p q r s u v : Int} {I I1 I2 : gr_I} (h : gr_HF p q I I1) (g : gr_HF r s I1 I2) (h1 : u ≤ p ∧ u ≤ r) (h2 : q ≤ v ∧ s ≤ v) : gr_HF u v I I2 := fun n hn hc => gr_NE_tr (h n hn (by omega)) (g n hn (by omega))
theorem gr_CHd_c {a b x t c t' c' : Int} {I Iₚ : gr_I} (h : gr_CHd a b x t c I) (h0 : 0 ≤ a) (e : ∀ m : Nat, a ≤ (m : Int) → (m : Int) < b → gr_NE I Iₚ m) (ht : t = t') (hc : c = c') : gr_CHd a b x t' c' Iₚ := by
  obtain ⟨u, v, w⟩ := h
  have g := e (Int.toNat x) (by omega) (by omega)
  refine ⟨u, ?_, ?_⟩
  · rw [g.2.1]
    omega
  · rw [g.2.2]
    omega
theorem gr_GN_c {a b S : Int} {n : Nat} {I Iₚ : gr_I} (h : gr_GN a b S n I) (h0 : 0 ≤ a) (hn : a ≤ (n : Int) ∧ (n : Int) < b) (e : ∀ m : Nat, a ≤ (m : Int) → (m : Int) < b → gr_NE I Iₚ m) : gr_GN a b S n Iₚ := by
  obtain ⟨h1, h2, h3, h4, h5, h6⟩ := h
  obtain ⟨⟨e1, e2, e3⟩, e4, e5⟩ := e n hn.1 hn.2
  unfold gr_GN
  rw [e1, e2, e3, e4, e5]
  exact ⟨h1, h2, h3, h4, fun q => gr_CHd_c (h5 q) h0 e rfl rfl, fun q => ⟨gr_CHd_c (h6 q).1 h0 e rfl rfl, gr_CHd_c (h6 q).2 h0 e rfl rfl⟩⟩
theorem gr_CHd_w {a b x t c a' b' : Int} {I : gr_I} (h : gr_CHd a b x t c I) (ha : a' ≤ a) (hb : b ≤ b') : gr_CHd a' b' x t c I := ⟨⟨by have := h.1; omega, by have := h.1; omega⟩, h.2⟩
theorem gr_GN_w {a b S a' b' S' : Int} {n : Nat} {I : gr_I} (h : gr_GN a b S n I) (ha : a' ≤ a) (hb : b ≤ b') (hS : S ≤ S') : gr_GN a' b' S' n I := ⟨h.1, ⟨h.2.1.1, by have := h.2.1.2; omega⟩, h.2.2.1, h.2.2.2.1, fun q => gr_CHd_w (h.2.2.2.2.1 q) ha hb, fun q => ⟨gr_CHd_w (h.2.2.2.2.2 q).1 ha hb, gr_CHd_w (h.2.2.2.2.2 q).2 ha hb⟩⟩
theorem gr_GH_c {a b S : Int} {I Iₚ : gr_I} (h : gr_GH a b S I) (e : ∀ m : Nat, a ≤ (m : Int) → (m : Int) < b → gr_NE I Iₚ m) : gr_GH a b S Iₚ := ⟨h.1, fun n h1 h2 => gr_GN_c (h.2 n h1 h2) h.1.1 ⟨h1, h2⟩ e⟩
theorem gr_GH_fr {a b S p q : Int} {I Iₚ : gr_I} (h : gr_GH a b S I) (f : gr_HF p q I Iₚ) (d : b ≤ p ∨ q ≤ a) : gr_GH a b S Iₚ := gr_GH_c h (fun m h1 h2 => f m (by have := h.1; omega) (by omega))
theorem gr_GH_b {a b S : Int} {I : gr_I} (h : gr_GH a b S I) {x : Int} (hx : a ≤ x ∧ x < b) : (1 ≤ I 137 (Int.toNat x) ∧ I 137 (Int.toNat x) ≤ 300) ∧ (0 ≤ I 137 (5000 + Int.toNat x) ∧ I 137 (5000 + Int.toNat x) ≤ S) := by
  have := h.1
  have g := h.2 (Int.toNat x) (by omega) (by omega)
  exact ⟨g.1, g.2.1⟩
theorem gr_GH_k {a b S : Int} {I : gr_I} (h : gr_GH a b S I) {x : Int} (hx : a ≤ x ∧ x < b) : I 134 (Int.toNat x) = 0 ∨ I 134 (Int.toNat x) = 1 ∨ I 134 (Int.toNat x) = 2 ∨ I 134 (Int.toNat x) = 4 := by
  have := h.1
  exact (h.2 (Int.toNat x) (by omega) (by omega)).2.2.1
theorem gr_GH_1 {a b S : Int} {I : gr_I} (h : gr_GH a b S I) {x : Int} (hx : a ≤ x ∧ x < b) (k : I 134 (Int.toNat x) = 1) : 0 ≤ I 135 (Int.toNat x) ∧ I 135 (Int.toNat x) < I 137 (5000 + Int.toNat x) := by
  have := h.1
  exact (h.2 (Int.toNat x) (by omega) (by omega)).2.2.2.1 k
theorem gr_GH_0 {a b S : Int} {I : gr_I} (h : gr_GH a b S I) {x : Int} (hx : a ≤ x ∧ x < b) (k : I 134 (Int.toNat x) = 0) : (a ≤ I 135 (Int.toNat x) ∧ I 135 (Int.toNat x) < b) ∧ I 137 (Int.toNat (I 135 (Int.toNat x))) < I 137 (Int.toNat x) ∧ I 137 (5000 + Int.toNat (I 135 (Int.toNat x))) ≤ I 137 (5000 + Int.toNat x) + 1 := by
  have := h.1
  exact (h.2 (Int.toNat x) (by omega) (by omega)).2.2.2.2.1 k
theorem gr_GH_4 {a b S : Int} {I : gr_I} (h : gr_GH a b S I) {x : Int} (hx : a ≤ x ∧ x < b) (k : I 134 (Int.toNat x) = 4) : ((a ≤ I 135 (Int.toNat x) ∧ I 135 (Int.toNat x) < b) ∧ I 137 (Int.toNat (I 135 (Int.toNat x))) < I 137 (Int.toNat x) ∧ I 137 (5000 + Int.toNat (I 135 (Int.toNat x))) ≤ I 137 (5000 + Int.toNat x)) ∧ ((a ≤ I 136 (Int.toNat x) ∧ I 136 (Int.toNat x) < b) ∧ I 137 (Int.toNat (I 136 (Int.toNat x))) < I 137 (Int.toNat x) ∧ I 137 (5000 + Int.toNat (I 136 (Int.toNat x))) ≤ I 137 (5000 + Int.toNat x)) := by
  have := h.1
  exact (h.2 (Int.toNat x) (by omega) (by omega)).2.2.2.2.2 k
/-- the cells of the half that is written lie apart -/
def gr_DJ (a b : Int) (I : gr_I) : Prop := b ≤ I 0 217 - 300 ∨ I 0 217 ≤ a
theorem gr_HF_x {a b x S : Int} {I Iₚ : gr_I} (f : gr_HF (I 0 217 - 300) (I 0 217) I Iₚ) (d : gr_DJ a b I) (h : gr_GH a b S I) (hx : a ≤ x ∧ x < b) : (Iₚ 134 (Int.toNat x) = I 134 (Int.toNat x) ∧ Iₚ 135 (Int.toNat x) = I 135 (Int.toNat x) ∧ Iₚ 136 (Int.toNat x) = I 136 (Int.toNat x)) ∧ Iₚ 137 (Int.toNat x) = I 137 (Int.toNat x) ∧ Iₚ 137 (5000 + Int.toNat x) = I 137 (5000 + Int.toNat x) := by
  have := h.1
  unfold gr_DJ at d
  exact f (Int.toNat x) (by omega) (by omega)
def gr_BT (p q r c S : Int) (I : gr_I) : Prop := (p ≤ r ∧ r < q) ∧ (I 137 (Int.toNat r) ≤ q - p ∧ I 137 (5000 + Int.toNat r) ≤ c) ∧ gr_GH p q S I
theorem gr_BT_fr {p q r c S u v : Int} {I Iₚ : gr_I} (h : gr_BT p q r c S I) (f : gr_HF u v I Iₚ) (d : q ≤ u ∨ v ≤ p) : gr_BT p q r c S Iₚ := by
  obtain ⟨a, b, g⟩ := h
  have := g.1
  have e := f (Int.toNat r) (by omega) (by omega)
  exact ⟨a, ⟨by rw [e.2.1]; exact b.1, by rw [e.2.2]; exact b.2⟩, gr_GH_fr g f d⟩
def gr_OC (I Iₚ : gr_I) (r c S : Int) : Prop := (Iₚ 0 217 = I 0 217 ∧ I 0 216 ≤ Iₚ 0 216 ∧ Iₚ 0 216 ≤ I 0 217) ∧ (Iₚ 0 218 = 0 → I 0 218 = 0 ∧ gr_HF (I 0 216) (Iₚ 0 216) I Iₚ ∧ gr_BT (I 0 216) (Iₚ 0 216) r c S Iₚ)
def gr_OK (I Iₚ : gr_I) (r c S : Int) : Prop := gr_HF (I 0 217 - 300) (I 0 217) I Iₚ ∧ gr_OC I Iₚ r c S
theorem gr_OC_w {I Iₚ : gr_I} {r c S c' S' : Int} (h : gr_OC I Iₚ r c S) (hc : c ≤ c') (hS : S ≤ S') : gr_OC I Iₚ r c' S' := ⟨h.1, fun q => by
  obtain ⟨a, b, d, e, g⟩ := h.2 q
  exact ⟨a, b, d, ⟨e.1, by omega⟩, g.1, fun n h1 h2 => gr_GN_w (g.2 n h1 h2) (Int.le_refl _) (Int.le_refl _) hS⟩⟩
theorem gr_OK_w {I Iₚ : gr_I} {r c S c' S' : Int} (h : gr_OK I Iₚ r c S) (hc : c ≤ c') (hS : S ≤ S') : gr_OK I Iₚ r c' S' := ⟨h.1, gr_OC_w h.2 hc hS⟩
theorem gr_OK_lg {I : gr_I} {r c S : Int} (h : ¬ I 0 218 = 0) (hp : I 0 216 ≤ I 0 217) : gr_OK I I r c S := ⟨gr_HF_rf _ _ _, ⟨rfl, Int.le_refl _, hp⟩, fun q => absurd q h⟩
def gr_HE (k a b z : Int) (I Iₚ : gr_I) : Prop := (I 0 216 = I 0 217 ∧ z = I 0 216 - 1 ∧ Iₚ 0 218 = 1 ∧ ∀ c j, ¬ (c = 0 ∧ j = 218) → Iₚ c j = I c j) ∨ (I 0 216 < I 0 217 ∧ z = I 0 216 ∧ (Iₚ 134 (Int.toNat z) = k ∧ Iₚ 135 (Int.toNat z) = a ∧ Iₚ 136 (Int.toNat z) = b) ∧ Iₚ 0 216 = I 0 216 + 1 ∧ ∀ c j, ¬ (c = 0 ∧ j = 216) → ¬ ((c = 134 ∨ c = 135 ∨ c = 136) ∧ j = Int.toNat z) → Iₚ c j = I c j)
def gr_GS (z v w : Int) (I Iₚ : gr_I) : Prop := (Iₚ 137 (Int.toNat z) = v ∧ Iₚ 137 (5000 + Int.toNat z) = w) ∧ ∀ c j, ¬ (c = 137 ∧ (j = Int.toNat z ∨ j = 5000 + Int.toNat z)) → Iₚ c j = I c j
theorem gr_GS_of {z v w : Int} {I I1 I2 : gr_I} (p : ∀ b j, ¬ (b = 137 ∧ j = Int.toNat z) → I1 b j = I b j) (q : I1 137 (Int.toNat z) = v) (p2 : ∀ b j, ¬ (b = 137 ∧ j = 5000 + Int.toNat z) → I2 b j = I1 b j) (q2 : I2 137 (5000 + Int.toNat z) = w) : gr_GS z v w I I2 := ⟨⟨(p2 _ _ (fun q => by have := q.2; omega)).trans q, q2⟩, fun c j h => (p2 c j (fun q => h ⟨q.1, Or.inr q.2⟩)).trans (p c j (fun q => h ⟨q.1, Or.inl q.2⟩))⟩
/-- nothing of a node other than z is touched -/
theorem gr_GS_n {z v w : Int} {I Iₚ : gr_I} (g : gr_GS z v w I Iₚ) (hz : 0 ≤ z ∧ z < 2000) {n : Nat} (hn : n < 2000) (hc : ¬ (n : Int) = z) : gr_NE I Iₚ n := ⟨⟨g.2 _ _ (fun q => absurd q.1 (by first | exact gz_ne rfl | decide)), g.2 _ _ (fun q => absurd q.1 (by first | exact gz_ne rfl | decide)), g.2 _ _ (fun q => absurd q.1 (by first | exact gz_ne rfl | decide))⟩, g.2 _ _ (fun q => by have := q.2; omega), g.2 _ _ (fun q => by have := q.2; omega)⟩
theorem gr_HE_n {k a b z : Int} {I Iₚ : gr_I} (e : gr_HE k a b z I Iₚ) (hz : 0 ≤ z) {n : Nat} (hc : ¬ (n : Int) = z) : gr_NE I Iₚ n := by
  rcases e with ⟨_, _, _, e⟩ | ⟨_, _, _, _, e⟩
  · exact ⟨⟨e _ _ (fun q => absurd q.1 (by first | exact gz_ne rfl | decide)), e _ _ (fun q => absurd q.1 (by first | exact gz_ne rfl | decide)), e _ _ (fun q => absurd q.1 (by first | exact gz_ne rfl | decide))⟩, e _ _ (fun q => absurd q.1 (by first | exact gz_ne rfl | decide)), e _ _ (fun q => absurd q.1 (by first | exact gz_ne rfl | decide))⟩
  · exact ⟨⟨e _ _ (fun q => absurd q.1 (by first | exact gz_ne rfl | decide)) (fun q => by have := q.2; omega), e _ _ (fun q => absurd q.1 (by first | exact gz_ne rfl | decide)) (fun q => by have := q.2; omega), e _ _ (fun q => absurd q.1 (by first | exact gz_ne rfl | decide)) (fun q => by have := q.2; omega)⟩, e _ _ (fun q => absurd q.1 (by first | exact gz_ne rfl | decide)) (fun q => absurd q.1 (by first | exact gz_ne rfl | decide)), e _ _ (fun q => absurd q.1 (by first | exact gz_ne rfl | decide)) (fun q => absurd q.1 (by first | exact gz_ne rfl | decide))⟩
theorem gr_HE_z {k a b z : Int} {I Iₚ : gr_I} (e : gr_HE k a b z I Iₚ) (h : I 0 217 - 300 ≤ I 0 216) (h0 : 300 ≤ I 0 217) (h1 : I 0 217 ≤ 1300) (h2 : I 0 216 ≤ I 0 217) : (I 0 217 - 300 ≤ z ∧ z < I 0 217) ∧ (Iₚ 0 217 = I 0 217 ∧ I 0 216 ≤ Iₚ 0 216 ∧ Iₚ 0 216 ≤ I 0 217) := by
  rcases e with ⟨a1, a2, a3, e⟩ | ⟨a1, a2, a3, a4, e⟩
  · have e1 := e 0 217 (by decide)
    have e2 := e 0 216 (by decide)
    omega
  · have e1 := e 0 217 (by decide) (fun q => absurd q.1 (by first | exact gz_ne rfl | decide))
    omega
/-- the new node's half is written, and no more -/
theorem gr_hn_f {k a b z v w : Int} {I Iₚ I2 : gr_I} (e : gr_HE k a b z I Iₚ) (g : gr_GS z v w Iₚ I2) (h : I 0 217 - 300 ≤ I 0 216) (h0 : 300 ≤ I 0 217) (h1 : I 0 217 ≤ 1300) (h2 : I 0 216 ≤ I 0 217) : gr_HF (I 0 217 - 300) (I 0 217) I I2 ∧ (I2 0 217 = I 0 217 ∧ I 0 216 ≤ I2 0 216 ∧ I2 0 216 ≤ I 0 217) := by
  obtain ⟨z1, z2⟩ := gr_HE_z e h h0 h1 h2
  have e1 := g.2 0 217 (fun q => absurd q.1 (by first | exact gz_ne rfl | decide))
  have e2 := g.2 0 216 (fun q => absurd q.1 (by first | exact gz_ne rfl | decide))
  exact ⟨fun n hn hc => gr_NE_tr (gr_HE_n e (by omega) (by omega)) (gr_GS_n g (by omega) hn (by omega)), by omega⟩
theorem gr_hn_s {k a b z v w : Int} {I Iₚ I2 : gr_I} (e : gr_HE k a b z I Iₚ) (g : gr_GS z v w Iₚ I2) (h0 : 0 ≤ I 0 216) (h1 : I 0 217 ≤ 1300) (hl : I2 0 218 = 0) : (I 0 218 = 0 ∧ z = I 0 216 ∧ I2 0 216 = I 0 216 + 1 ∧ Iₚ 0 216 = I 0 216 + 1 ∧ I 0 216 < I 0 217) ∧ gr_HF (I 0 216) (I 0 216 + 1) I I2 ∧ (I2 134 (Int.toNat z) = k ∧ I2 135 (Int.toNat z) = a ∧ I2 136 (Int.toNat z) = b) ∧ I2 137 (Int.toNat z) = v ∧ I2 137 (5000 + Int.toNat z) = w := by
  have e1 := g.2 0 218 (fun q => absurd q.1 (by first | exact gz_ne rfl | decide))
  have e2 := g.2 0 216 (fun q => absurd q.1 (by first | exact gz_ne rfl | decide))
  rcases id e with ⟨a1, a2, a3, e9⟩ | ⟨a1, a2, a3, a4, e9⟩
  · omega
  · have e3 := e9 0 218 (by decide) (fun q => absurd q.1 (by first | exact gz_ne rfl | decide))
    refine ⟨⟨by omega, a2, by omega, a4, a1⟩, fun n hn hc => gr_NE_tr (gr_HE_n e (by omega) (by omega)) (gr_GS_n g (by omega) hn (by omega)), ⟨?_, ?_, ?_⟩, g.1⟩
    · rw [g.2 _ _ (fun q => absurd q.1 (by first | exact gz_ne rfl | decide))]
      exact a3.1
    · rw [g.2 _ _ (fun q => absurd q.1 (by first | exact gz_ne rfl | decide))]
      exact a3.2.1
    · rw [g.2 _ _ (fun q => absurd q.1 (by first | exact gz_ne rfl | decide))]
      exact a3.2.2
/-- a leaf -/
theorem gr_ocl {k a b z v c S : Int} {I Iₚ I2 : gr_I} (e : gr_HE k a b z I Iₚ) (g : gr_GS z v c Iₚ I2) (hk : (k = 1 ∧ 0 ≤ a ∧ a < c) ∨ k = 2) (hv : v = Iₚ 0 216 - I 0 216) (hc : 0 ≤ c ∧ c ≤ S) (h : I 0 217 - 300 ≤ I 0 216) (h0 : 300 ≤ I 0 217) (h1 : I 0 217 ≤ 1300) (h2 : I 0 216 ≤ I 0 217) : gr_OK I I2 z c S := by
  have f := gr_hn_f e g h h0 h1 h2
  refine ⟨f.1, f.2, fun q => ?_⟩
  obtain ⟨⟨s1, s2, s3, s4, s5⟩, s6, ⟨s7, s8, s9⟩, t1, t2⟩ := gr_hn_s e g (by omega) h1 q
  rw [s3]
  refine ⟨s1, s6, ⟨by omega, by omega⟩, ⟨by omega, by omega⟩, ⟨by omega, by omega⟩, fun n n1 n2 => ?_⟩
  have en : n = Int.toNat z := by omega
  subst en
  refine ⟨by omega, by omega, by omega, fun q => by omega, fun q => by omega, fun q => by omega⟩
/-- under a binder, children first -/
theorem gr_ok0 {r b z v c S : Int} {I I1 I2 I4 : gr_I} (h : gr_OK I I1 r (c + 1) S) (e : gr_HE 0 r b z I1 I2) (g : gr_GS z v c I2 I4) (hv : v = I2 0 216 - I 0 216) (hc : 0 ≤ c ∧ c ≤ S) (h3 : I 0 217 - 300 ≤ I 0 216) (h0 : 300 ≤ I 0 217) (h1 : I 0 217 ≤ 1300) : gr_OK I I4 z c S := by
  obtain ⟨f0, ⟨o1, o2, o3⟩, o4⟩ := h
  have f := gr_hn_f e g (by omega) (by omega) (by omega) (by omega)
  rw [o1] at f
  refine ⟨gr_HF_tr f0 f.1 (by omega) (by omega), ⟨by omega, by omega, by omega⟩, fun q => ?_⟩
  obtain ⟨⟨s1, s2, s3, s4, s5⟩, s6, ⟨s7, s8, s9⟩, t1, t2⟩ := gr_hn_s e g (by omega) (by omega) q
  obtain ⟨u1, u2, u3⟩ := o4 s1
  rw [s3]
  have b1 := gr_BT_fr u3 s6 (Or.inl (Int.le_refl _))
  refine ⟨u1, gr_HF_tr u2 s6 (by omega) (by omega), ⟨by omega, by omega⟩, ⟨by omega, by omega⟩, ⟨by have := b1.2.2.1; omega, by omega⟩, fun n n1 n2 => ?_⟩
  by_cases d : (n : Int) < I1 0 216
  · exact gr_GN_w (b1.2.2.2 n n1 d) (Int.le_refl _) (by omega) (Int.le_refl _)
  · have en : n = Int.toNat z := by omega
    subst en
    have := b1.1
    have := b1.2.1
    refine ⟨by omega, by omega, by omega, fun q => by omega, fun q => ⟨by omega, ?_, ?_⟩, fun q => by omega⟩
    · rw [s8]
      omega
    · rw [s8]
      omega
theorem gr_ok4 {r s z v c S : Int} {I I1 I2 I3 I4 : gr_I} (h : gr_OK I I1 r c S) (k : gr_OK I1 I2 s c S) (e : gr_HE 4 r s z I2 I3) (g : gr_GS z v c I3 I4) (hv : v = I3 0 216 - I 0 216) (hc : 0 ≤ c ∧ c ≤ S) (h3 : I 0 217 - 300 ≤ I 0 216) (h0 : 300 ≤ I 0 217) (h1 : I 0 217 ≤ 1300) : gr_OK I I4 z c S := by
  obtain ⟨f0, ⟨o1, o2, o3⟩, o4⟩ := h
  obtain ⟨f1, ⟨k1, k2, k3⟩, k4⟩ := k
  have f := gr_hn_f e g (by omega) (by omega) (by omega) (by omega)
  rw [k1, o1] at f
  rw [o1] at f1
  refine ⟨gr_HF_tr (gr_HF_tr f0 f1 ⟨Int.le_refl _, Int.le_refl _⟩ ⟨Int.le_refl _, Int.le_refl _⟩) f.1 (by omega) (by omega), ⟨by omega, by omega, by omega⟩, fun q => ?_⟩
  obtain ⟨⟨s1, s2, s3, s4, s5⟩, s6, ⟨s7, s8, s9⟩, t1, t2⟩ := gr_hn_s e g (by omega) (by omega) q
  obtain ⟨w1, w2, w3⟩ := k4 s1
  obtain ⟨u1, u2, u3⟩ := o4 w1
  rw [s3]
  have b1 := gr_BT_fr (gr_BT_fr u3 w2 (Or.inl (Int.le_refl _))) s6 (Or.inl (by omega))
  have b2 := gr_BT_fr w3 s6 (Or.inl (Int.le_refl _))
  refine ⟨u1, gr_HF_tr (gr_HF_tr (u := I 0 216) (v := I2 0 216) u2 w2 (by omega) (by omega)) s6 (by omega) (by omega), ⟨by omega, by omega⟩, ⟨by omega, by omega⟩, ⟨by have := b1.2.2.1; omega, by omega⟩, fun n n1 n2 => ?_⟩
  by_cases d : (n : Int) < I1 0 216
  · exact gr_GN_w (b1.2.2.2 n n1 d) (Int.le_refl _) (by omega) (Int.le_refl _)
  · by_cases d2 : (n : Int) < I2 0 216
    · exact gr_GN_w (b2.2.2.2 n (by omega) d2) (by omega) (by omega) (Int.le_refl _)
    · have en : n = Int.toNat z := by omega
      subst en
      have := b1.1
      have := b1.2.1
      have := b2.1
      have := b2.2.1
      refine ⟨by omega, by omega, by omega, fun q => by omega, fun q => by omega, fun q => ⟨⟨by omega, ?_, ?_⟩, ⟨by omega, ?_, ?_⟩⟩⟩
      · rw [s8]
        omega
      · rw [s8]
        omega
      · rw [s9]
        omega
      · rw [s9]
        omega
/-- parents first -/
theorem gr_NE_a {z : Int} {I Iₚ : gr_I} {c : Nat} (p : ∀ b j, ¬ (b = c ∧ j = Int.toNat z) → Iₚ b j = I b j) (hc : c = 135 ∨ c = 136) (hz : 0 ≤ z) {n : Nat} (hn : ¬ (n : Int) = z) : gr_NE I Iₚ n := ⟨⟨p _ _ (fun q => by have := q.2; omega), p _ _ (fun q => by have := q.2; omega), p _ _ (fun q => by have := q.2; omega)⟩, p _ _ (fun q => by have := q.1; omega), p _ _ (fun q => by have := q.1; omega)⟩
theorem gr_oc0 {r z v c S : Int} {I I1 I2 I3 I5 : gr_I} (e : gr_HE 0 0 0 z I I1) (h : gr_OC I1 I2 r (c + 1) S) (p : ∀ b j, ¬ (b = 135 ∧ j = Int.toNat z) → I3 b j = I2 b j) (q : I3 135 (Int.toNat z) = r) (g : gr_GS z v c I3 I5) (hv : v = I2 0 216 - I 0 216) (hc : 0 ≤ c ∧ c ≤ S) (h3 : I 0 217 - 300 ≤ I 0 216) (h0 : 300 ≤ I 0 217) (h1 : I 0 217 ≤ 1300) (h2 : I 0 216 ≤ I 0 217) : gr_OC I I5 z c S := by
  obtain ⟨z1, z2⟩ := gr_HE_z e h3 h0 h1 h2
  have d : ∀ k : Nat, I5 0 k = I2 0 k := fun k => (g.2 0 k (fun q => absurd q.1 (by first | exact gz_ne rfl | decide))).trans (p 0 k (fun q => absurd q.1 (by first | exact gz_ne rfl | decide)))
  have d1 := d 217
  have d2 := d 216
  have d3 := d 218
  obtain ⟨⟨o1, o2, o3⟩, o4⟩ := h
  refine ⟨⟨by omega, by omega, by omega⟩, fun ql => ?_⟩
  obtain ⟨w1, w2, w3⟩ := o4 (by omega)
  have N : ∀ n : Nat, n < 2000 → ¬ (n : Int) = z → gr_NE I2 I5 n := fun n hn hc => gr_NE_tr (gr_NE_a p (Or.inl rfl) (by omega) hc) (gr_GS_n g (by omega) hn hc)
  have e9 := e
  rcases e9 with ⟨a1, a2, a3, e9⟩ | ⟨a1, a2, a3, a4, e9⟩
  · omega
  · have e3 := e9 0 218 (by decide) (fun q => absurd q.1 (by first | exact gz_ne rfl | decide))
    have kz := w2 (Int.toNat z) (by omega) (by omega)
    have k1 : I5 134 (Int.toNat z) = 0 := by rw [g.2 _ _ (fun q => absurd q.1 (by first | exact gz_ne rfl | decide)), p _ _ (fun q => absurd q.1 (by first | exact gz_ne rfl | decide)), kz.1.1]; exact a3.1
    have k2 : I5 135 (Int.toNat z) = r := by rw [g.2 _ _ (fun q => absurd q.1 (by first | exact gz_ne rfl | decide))]; exact q
    obtain ⟨t1, t2⟩ := g.1
    rw [d2]
    have r1 := w3.1
    have r2 := N (Int.toNat r) (by omega) (by omega)
    have r3 := w3.2.1
    refine ⟨by omega, fun n hn hd => gr_NE_tr (gr_HE_n e (by omega) (by omega)) (gr_NE_tr (w2 n hn (by omega)) (N n hn (by omega))), ⟨by omega, by omega⟩, ⟨by omega, by omega⟩, ⟨by omega, by omega⟩, fun n n1 n2 => ?_⟩
    by_cases dn : (n : Int) = z
    · have en : n = Int.toNat z := by omega
      subst en
      refine ⟨by omega, by omega, by omega, fun q => by omega, fun q => ⟨by omega, ?_, ?_⟩, fun q => by omega⟩
      · rw [k2, r2.2.1]
        omega
      · rw [k2, r2.2.2]
        omega
    · exact gr_GN_w (gr_GN_c (w3.2.2.2 n (by omega) n2) (by omega) ⟨by omega, n2⟩ (fun m m1 m2 => N m (by omega) (by omega))) (by omega) (Int.le_refl _) (Int.le_refl _)
theorem gr_oc4 {r s z v c S : Int} {I I1 I2 I3 I4 I5 I7 : gr_I} (e : gr_HE 4 0 0 z I I1) (h : gr_OC I1 I2 r c S) (k : gr_OC I2 I3 s c S) (p : ∀ b j, ¬ (b = 135 ∧ j = Int.toNat z) → I4 b j = I3 b j) (q : I4 135 (Int.toNat z) = r) (p5 : ∀ b j, ¬ (b = 136 ∧ j = Int.toNat z) → I5 b j = I4 b j) (q5 : I5 136 (Int.toNat z) = s) (g : gr_GS z v c I5 I7) (hv : v = I3 0 216 - I 0 216) (hc : 0 ≤ c ∧ c ≤ S) (h3 : I 0 217 - 300 ≤ I 0 216) (h0 : 300 ≤ I 0 217) (h1 : I 0 217 ≤ 1300) (h2 : I 0 216 ≤ I 0 217) : gr_OC I I7 z c S := by
  obtain ⟨z1, z2⟩ := gr_HE_z e h3 h0 h1 h2
  have d : ∀ k : Nat, I7 0 k = I3 0 k := fun k => (g.2 0 k (fun q => absurd q.1 (by first | exact gz_ne rfl | decide))).trans ((p5 0 k (fun q => absurd q.1 (by first | exact gz_ne rfl | decide))).trans (p 0 k (fun q => absurd q.1 (by first | exact gz_ne rfl | decide))))
  have d1 := d 217
  have d2 := d 216
  have d3 := d 218
  obtain ⟨⟨o1, o2, o3⟩, o4⟩ := h
  obtain ⟨⟨m1, m2, m3⟩, m4⟩ := k
  refine ⟨⟨by omega, by omega, by omega⟩, fun ql => ?_⟩
  obtain ⟨v1, v2, v3⟩ := m4 (by omega)
  obtain ⟨w1, w2, w3⟩ := o4 v1
  have N : ∀ n : Nat, n < 2000 → ¬ (n : Int) = z → gr_NE I3 I7 n := fun n hn hc => gr_NE_tr (gr_NE_a p (Or.inl rfl) (by omega) hc) (gr_NE_tr (gr_NE_a p5 (Or.inr rfl) (by omega) hc) (gr_GS_n g (by omega) hn hc))
  have e9 := e
  rcases e9 with ⟨a1, a2, a3, e9⟩ | ⟨a1, a2, a3, a4, e9⟩
  · omega
  · have e3 := e9 0 218 (by decide) (fun q => absurd q.1 (by first | exact gz_ne rfl | decide))
    have kz := gr_NE_tr (w2 (Int.toNat z) (by omega) (by omega)) (v2 (Int.toNat z) (by omega) (by omega))
    have k1 : I7 134 (Int.toNat z) = 4 := by rw [g.2 _ _ (fun q => absurd q.1 (by first | exact gz_ne rfl | decide)), p5 _ _ (fun q => absurd q.1 (by first | exact gz_ne rfl | decide)), p _ _ (fun q => absurd q.1 (by first | exact gz_ne rfl | decide)), kz.1.1]; exact a3.1
    have k2 : I7 135 (Int.toNat z) = r := by rw [g.2 _ _ (fun q => absurd q.1 (by first | exact gz_ne rfl | decide)), p5 _ _ (fun q => absurd q.1 (by first | exact gz_ne rfl | decide))]; exact q
    have k3 : I7 136 (Int.toNat z) = s := by rw [g.2 _ _ (fun q => absurd q.1 (by first | exact gz_ne rfl | decide))]; exact q5
    obtain ⟨t1, t2⟩ := g.1
    rw [d2]
    have b1 := gr_BT_fr w3 v2 (Or.inl (Int.le_refl _))
    have r1 := b1.1
    have r2 := N (Int.toNat r) (by omega) (by omega)
    have r3 := b1.2.1
    have s1 := v3.1
    have s2 := N (Int.toNat s) (by omega) (by omega)
    have s3 := v3.2.1
    refine ⟨by omega, fun n hn hd => gr_NE_tr (gr_HE_n e (by omega) (by omega)) (gr_NE_tr (w2 n hn (by omega)) (gr_NE_tr (v2 n hn (by omega)) (N n hn (by omega)))), ⟨by omega, by omega⟩, ⟨by omega, by omega⟩, ⟨by omega, by omega⟩, fun n n1 n2 => ?_⟩
    by_cases dn : (n : Int) = z
    · have en : n = Int.toNat z := by omega
      subst en
      refine ⟨by omega, by omega, by omega, fun q => by omega, fun q => by omega, fun q => ⟨⟨by omega, ?_, ?_⟩, ⟨by omega, ?_, ?_⟩⟩⟩
      · rw [k2, r2.2.1]
        omega
      · rw [k2, r2.2.2]
        omega
      · rw [k3, s2.2.1]
        omega
      · rw [k3, s2.2.2]
        omega
    · by_cases dm : (n : Int) < I2 0 216
      · exact gr_GN_w (gr_GN_c (b1.2.2.2 n (by omega) dm) (by omega) ⟨by omega, dm⟩ (fun m m1 m2 => N m (by omega) (by omega))) (by omega) (by omega) (Int.le_refl _)
      · exact gr_GN_w (gr_GN_c (v3.2.2.2 n (by omega) n2) (by omega) ⟨by omega, n2⟩ (fun m m1 m2 => N m (by omega) (by omega))) (by omega) (Int.le_refl _) (Int.le_refl _)
set_option maxHeartbeats 8000000 in
set_option maxRecDepth 100000 in
theorem r_heap_w {ws0 : List Cond} {tb : String → gz_T} (hws : ∀ w ∈ gr_ws, w ∈ ws0) (htb : tb RX13 = gr_T) (ext : gz_Sh) (I : gr_I) (J : gr_J) (hI : gr_Inv I) (a1 : Int) (a2 : Int) (a3 : Int) (a4 : Int64) (ha1 : (-2147483648) ≤ a1 ∧ a1 ≤ 2147483647) (ha2 : (-2147483648) ≤ a2 ∧ a2 ≤ 2147483647) (ha3 : (-2147483648) ≤ a3 ∧ a3 ≤ 2147483647) (x0 : I 0 216 ≤ I 0 217) (x1 : I 0 217 - 300 ≤ I 0 216) (x2 : 300 ≤ I 0 217) : ∃ r hₚ, gz_Ev ws0 tb 1 (yX13_heap, cX13_heap, 6, (some .int)) [.inr (.inr (some 0)), .inl a1, .inl a2, .inl a3, .inr (.inl a4)] (gr_sh ++ ext) (gr_h I J) r (gr_sh ++ ext) hₚ 0 0 ∧ (∃ (Iₚ : gr_I) (Jₚ : gr_J), hₚ = gr_h Iₚ Jₚ ∧ gr_Inv Iₚ ∧ gr_fr [216, 218] [134, 135, 136] I Iₚ ∧ gr_fj [216, 218] [134, 135, 136, 137] J Jₚ ∧ (∃ z : Int, r = some (.inl z) ∧ 0 ≤ z ∧ z ≤ 1299 ∧ (Iₚ 0 217 = I 0 217) ∧ (I 0 216 ≤ Iₚ 0 216) ∧ (Iₚ 0 216 ≤ Iₚ 0 217) ∧ (I 0 218 ≤ Iₚ 0 218) ∧ (gr_HE a1 a2 a3 z I Iₚ) ∧ ((Iₚ 0 218 = 1 ∧ Iₚ 0 216 = I 0 216) ∨ (Iₚ 0 218 = I 0 218 ∧ Iₚ 0 216 = I 0 216 + 1)))) := by
  have FI : gr_fr [216, 218] [134, 135, 136] I I := fun _ _ _ => rfl
  have FJ : gr_fj [216, 218] [134, 135, 136, 137] J J := fun _ _ _ => rfl
  have hD : gv_D (gr_E ws0 tb 0 (yX13_heap, cX13_heap, 6, (some .int)) kX13_heap) := gq_of oX13_heap
  refine gr_ev (d := 0) (l := kX13_heap) (Po := fun r hₚ => (∃ (Iₚ : gr_I) (Jₚ : gr_J), hₚ = gr_h Iₚ Jₚ ∧ gr_Inv Iₚ ∧ gr_fr [216, 218] [134, 135, 136] I Iₚ ∧ gr_fj [216, 218] [134, 135, 136, 137] J Jₚ ∧ (∃ z : Int, r = some (.inl z) ∧ 0 ≤ z ∧ z ≤ 1299 ∧ (Iₚ 0 217 = I 0 217) ∧ (I 0 216 ≤ Iₚ 0 216) ∧ (Iₚ 0 216 ≤ Iₚ 0 217) ∧ (I 0 218 ≤ Iₚ 0 218) ∧ (gr_HE a1 a2 a3 z I Iₚ) ∧ ((Iₚ 0 218 = 1 ∧ Iₚ 0 216 = I 0 216) ∨ (Iₚ 0 218 = I 0 218 ∧ Iₚ 0 216 = I 0 216 + 1))))) htb rfl (Nat.le_of_ble_eq_true rfl) ?_
  have f1 := gz_hi ((gr_b_0_216 hI))
  have f2 := gz_hi ((gr_b_0_217 hI))
  have f3 := gz_hi ((gr_b_0_218 hI))
  refine gv_run 4 true hD (pcₚ := 8) (lvₚ := [(0, .inr (.inr (some 0))), (1, .inl a1), (2, .inl a2), (3, .inl a3), (4, .inr (.inl a4))]) (stₚ := [.inl (I 0 217), .inl (I 0 216)]) (hₚ := gr_h I J) (C := ((((True ∧ True) ∧ True) ∧ True) ∧ True)) rfl ⟨⟨⟨⟨trivial, trivial⟩, trivial⟩, trivial⟩, trivial⟩ ?_
  refine gv_icmp_ne (t := 23) hD rfl rfl ⟨⟨by (/-0-/first | (have o1 := gz_sh f1; omega) | (simp only [gz_hd] at *; omega)), by (/-1-/first | (have o1 := gz_sh f1; omega) | (simp only [gz_hd] at *; omega))⟩, ⟨by (/-2-/first | omega | (simp only [gz_hd] at *; omega)), by (/-3-/first | (have o1 := gz_sh f2; omega) | (simp only [gz_hd] at *; omega))⟩⟩ (fun c6 => ?_) (fun c6 => ?_)
  · have f7 := gz_hi ((gr_b_0_216 hI))
    refine gv_run 5 true hD (pcₚ := 32) (lvₚ := [(0, .inr (.inr (some 0))), (1, .inl a1), (2, .inl a2), (3, .inl a3), (4, .inr (.inl a4))]) (stₚ := [.inl a1, .inl (I 0 216), .inr (.inr (some 134))]) (hₚ := gr_h I J) (C := (((((True ∧ True) ∧ True) ∧ True) ∧ True) ∧ True)) rfl ⟨⟨⟨⟨⟨trivial, trivial⟩, trivial⟩, trivial⟩, trivial⟩, trivial⟩ ?_
    refine gv_run 1 true hD (pcₚ := 33) (lvₚ := [(0, .inr (.inr (some 0))), (1, .inl a1), (2, .inl a2), (3, .inl a3), (4, .inr (.inl a4))]) (stₚ := []) (hₚ := gz_up (gr_h I J) 134 (Int.toNat ((I 0 216))) (.inl a1)) (C := (True ∧ (0 ≤ (I 0 216) ∧ (I 0 216) < ((2000 : Nat) : Int)))) rfl ⟨trivial, ⟨by (/-4-/first | (have o1 := gz_sh f1; omega) | (simp only [gz_hd] at *; omega)), by (/-5-/first | (have o1 := gz_sh f1; omega) | (simp only [gz_hd] at *; omega))⟩⟩ ?_
    refine gr_st hI FI rfl rfl ⟨⟨by show (-2147483648) ≤ _; (/-6-/first | omega | (simp only [gz_hd] at *; omega)), by show _ ≤ 2147483647; (/-7-/first | omega | (simp only [gz_hd] at *; omega))⟩, trivial⟩ (fun I8 hI8 FI8 q9 p9 => ?_)
    have t10 := gz_hi (p9 0 216 (fun q => absurd q.1 (by first | exact gz_ne rfl | decide)))
    have t11 := gz_hi (p9 0 217 (fun q => absurd q.1 (by first | exact gz_ne rfl | decide)))
    have t12 := gz_hi (p9 0 218 (fun q => absurd q.1 (by first | exact gz_ne rfl | decide)))
    refine gv_run 4 true hD (pcₚ := 41) (lvₚ := [(0, .inr (.inr (some 0))), (1, .inl a1), (2, .inl a2), (3, .inl a3), (4, .inr (.inl a4))]) (stₚ := [.inl (I8 0 216), .inr (.inr (some 135))]) (hₚ := gr_h I8 J) (C := ((((True ∧ True) ∧ True) ∧ True) ∧ True)) rfl ⟨⟨⟨⟨trivial, trivial⟩, trivial⟩, trivial⟩, trivial⟩ ?_
    rw [(gz_sh t10)]
    refine gv_run 2 true hD (pcₚ := 43) (lvₚ := [(0, .inr (.inr (some 0))), (1, .inl a1), (2, .inl a2), (3, .inl a3), (4, .inr (.inl a4))]) (stₚ := []) (hₚ := gz_up (gr_h I8 J) 135 (Int.toNat ((I 0 216))) (.inl a2)) (C := ((True ∧ True) ∧ (0 ≤ (I 0 216) ∧ (I 0 216) < ((2000 : Nat) : Int)))) rfl ⟨⟨trivial, trivial⟩, ⟨by (/-8-/first | (have o1 := gz_sh f1; omega) | (simp only [gz_hd] at *; omega)), by (/-9-/first | (have o1 := gz_sh f1; omega) | (simp only [gz_hd] at *; omega))⟩⟩ ?_
    refine gr_st hI8 FI8 rfl rfl ⟨⟨by show (-2147483648) ≤ _; (/-10-/first | omega | (simp only [gz_hd] at *; omega)), by show _ ≤ 2147483647; (/-11-/first | omega | (simp only [gz_hd] at *; omega))⟩, trivial⟩ (fun I17 hI17 FI17 q18 p18 => ?_)
    have t19 := gz_hi (p18 0 216 (fun q => absurd q.1 (by first | exact gz_ne rfl | decide)))
    have t20 := gz_hi (p18 0 217 (fun q => absurd q.1 (by first | exact gz_ne rfl | decide)))
    have t21 := gz_hi (p18 0 218 (fun q => absurd q.1 (by first | exact gz_ne rfl | decide)))
    refine gv_run 4 true hD (pcₚ := 51) (lvₚ := [(0, .inr (.inr (some 0))), (1, .inl a1), (2, .inl a2), (3, .inl a3), (4, .inr (.inl a4))]) (stₚ := [.inl (I17 0 216), .inr (.inr (some 136))]) (hₚ := gr_h I17 J) (C := ((((True ∧ True) ∧ True) ∧ True) ∧ True)) rfl ⟨⟨⟨⟨trivial, trivial⟩, trivial⟩, trivial⟩, trivial⟩ ?_
    rw [((gz_sh t19).trans (gz_sh t10))]
    refine gv_run 2 true hD (pcₚ := 53) (lvₚ := [(0, .inr (.inr (some 0))), (1, .inl a1), (2, .inl a2), (3, .inl a3), (4, .inr (.inl a4))]) (stₚ := []) (hₚ := gz_up (gr_h I17 J) 136 (Int.toNat ((I 0 216))) (.inl a3)) (C := ((True ∧ True) ∧ (0 ≤ (I 0 216) ∧ (I 0 216) < ((2000 : Nat) : Int)))) rfl ⟨⟨trivial, trivial⟩, ⟨by (/-12-/first | (have o1 := gz_sh f1; omega) | (simp only [gz_hd] at *; omega)), by (/-13-/first | (have o1 := gz_sh f1; omega) | (simp only [gz_hd] at *; omega))⟩⟩ ?_
    refine gr_st hI17 FI17 rfl rfl ⟨⟨by show (-2147483648) ≤ _; (/-14-/first | omega | (simp only [gz_hd] at *; omega)), by show _ ≤ 2147483647; (/-15-/first | omega | (simp only [gz_hd] at *; omega))⟩, trivial⟩ (fun I26 hI26 FI26 q27 p27 => ?_)
    have t28 := gz_hi (p27 0 216 (fun q => absurd q.1 (by first | exact gz_ne rfl | decide)))
    have t29 := gz_hi (p27 0 217 (fun q => absurd q.1 (by first | exact gz_ne rfl | decide)))
    have t30 := gz_hi (p27 0 218 (fun q => absurd q.1 (by first | exact gz_ne rfl | decide)))
    refine gv_run 4 true hD (pcₚ := 61) (lvₚ := [(0, .inr (.inr (some 0))), (1, .inl a1), (2, .inl a2), (3, .inl a3), (4, .inr (.inl a4))]) (stₚ := [.inl (I26 0 216), .inr (.inr (some 137))]) (hₚ := gr_h I26 J) (C := ((((True ∧ True) ∧ True) ∧ True) ∧ True)) rfl ⟨⟨⟨⟨trivial, trivial⟩, trivial⟩, trivial⟩, trivial⟩ ?_
    rw [((gz_sh t28).trans ((gz_sh t19).trans (gz_sh t10)))]
    refine gv_run 2 true hD (pcₚ := 64) (lvₚ := [(0, .inr (.inr (some 0))), (1, .inl a1), (2, .inl a2), (3, .inl a3), (4, .inr (.inl a4))]) (stₚ := []) (hₚ := gz_up (gr_h I26 J) 137 (Int.toNat ((I 0 216))) (.inr (.inl a4))) (C := ((True ∧ True) ∧ (0 ≤ (I 0 216) ∧ (I 0 216) < ((2000 : Nat) : Int)))) rfl ⟨⟨trivial, trivial⟩, ⟨by (/-16-/first | (have o1 := gz_sh f1; omega) | (simp only [gz_hd] at *; omega)), by (/-17-/first | (have o1 := gz_sh f1; omega) | (simp only [gz_hd] at *; omega))⟩⟩ ?_
    refine gr_stJ FJ rfl rfl (fun J35 FJ35 => ?_)
    refine gv_run 3 true hD (pcₚ := 69) (lvₚ := [(0, .inr (.inr (some 0))), (1, .inl a1), (2, .inl a2), (3, .inl a3), (4, .inr (.inl a4))]) (stₚ := [.inl (I26 0 216), .inr (.inr (some 0))]) (hₚ := gr_h I26 J35) (C := (((True ∧ True) ∧ True) ∧ True)) rfl ⟨⟨⟨trivial, trivial⟩, trivial⟩, trivial⟩ ?_
    rw [((gz_sh t28).trans ((gz_sh t19).trans (gz_sh t10)))]
    refine gv_run 3 true hD (pcₚ := 72) (lvₚ := [(0, .inr (.inr (some 0))), (1, .inl a1), (2, .inl a2), (3, .inl a3), (4, .inr (.inl a4))]) (stₚ := [.inl ((I 0 216) + 1), .inr (.inr (some 0)), .inl (I 0 216)]) (hₚ := gr_h I26 J35) (C := (((True ∧ True) ∧ True) ∧ True)) rfl ⟨⟨⟨trivial, trivial⟩, trivial⟩, trivial⟩ ?_
    refine gv_run 1 true hD (pcₚ := 75) (lvₚ := [(0, .inr (.inr (some 0))), (1, .inl a1), (2, .inl a2), (3, .inl a3), (4, .inr (.inl a4))]) (stₚ := [.inl (I 0 216)]) (hₚ := gz_up (gr_h I26 J35) 0 216 (.inl (((I 0 216) + 1)))) (C := (True ∧ True)) rfl ⟨trivial, trivial⟩ ?_
    refine gr_st hI26 FI26 rfl rfl ⟨⟨by show 0 ≤ _; (/-18-/first | (have o1 := gz_sh f1; omega) | (simp only [gz_hd] at *; omega)), by show _ ≤ 1300; (/-19-/first | (have o1 := gz_sh f2; omega) | (simp only [gz_hd] at *; omega))⟩, trivial⟩ (fun I37 hI37 FI37 q38 p38 => ?_)
    have t39 := gz_hi (p38 0 217 (by decide))
    have t40 := gz_hi (p38 0 218 (by decide))
    have f41 := gz_hi ((gr_b_0_216 hI37))
    exact gv_iret hD rfl ⟨I37, J35, rfl, hI37, FI37, FJ35, ⟨_, rfl, by (/-20-/first | (have o1 := gz_sh f1; omega) | (simp only [gz_hd] at *; omega)), by (/-21-/first | (have o1 := gz_sh f41; omega) | (simp only [gz_hd] at *; omega)), by (/-22-/first | (have o1 := gz_sh t11; have o2 := gz_sh t20; have o3 := gz_sh t29; have o4 := gz_sh t39; omega) | (simp only [gz_hd] at *; omega)), by (/-23-/first | omega | (simp only [gz_hd] at *; omega)), by (/-24-/first | (have o1 := gz_sh t11; have o2 := gz_sh t20; have o3 := gz_sh t29; have o4 := gz_sh t39; omega) | (simp only [gz_hd] at *; omega)), by (/-25-/first | (have o1 := gz_sh t12; have o2 := gz_sh t21; have o3 := gz_sh t30; have o4 := gz_sh t40; omega) | (simp only [gz_hd] at *; omega)), (Or.inr ⟨by (/-26-/first | omega | (simp only [gz_hd] at *; omega)), by (/-27-/first | omega | (simp only [gz_hd] at *; omega)), ⟨(by rw [p38 134 (Int.toNat (I 0 216)) (fun q => absurd q.1 (by first | exact gz_ne rfl | decide)), p27 134 (Int.toNat (I 0 216)) (fun q => absurd q.1 (by first | exact gz_ne rfl | decide)), p18 134 (Int.toNat (I 0 216)) (fun q => absurd q.1 (by first | exact gz_ne rfl | decide))]; exact q9), (by rw [p38 135 (Int.toNat (I 0 216)) (fun q => absurd q.1 (by first | exact gz_ne rfl | decide)), p27 135 (Int.toNat (I 0 216)) (fun q => absurd q.1 (by first | exact gz_ne rfl | decide))]; exact q18), (by rw [p38 136 (Int.toNat (I 0 216)) (fun q => absurd q.1 (by first | exact gz_ne rfl | decide))]; exact q27)⟩, by (/-28-/first | omega | (simp only [gz_hd] at *; omega)), (fun c j h1 h2 => by rw [p38 c j h1, p27 c j (fun q => h2 ⟨Or.inr (Or.inr q.1), q.2⟩), p18 c j (fun q => h2 ⟨Or.inr (Or.inl q.1), q.2⟩), p9 c j (fun q => h2 ⟨Or.inl q.1, q.2⟩)])⟩), by (/-29-/first | (have o1 := gz_sh t12; have o2 := gz_sh t21; have o3 := gz_sh t30; have o4 := gz_sh t40; omega) | (simp only [gz_hd] at *; omega))⟩⟩
  · refine gv_run 3 true hD (pcₚ := 16) (lvₚ := [(0, .inr (.inr (some 0))), (1, .inl a1), (2, .inl a2), (3, .inl a3), (4, .inr (.inl a4))]) (stₚ := []) (hₚ := gz_up (gr_h I J) 0 218 (.inl 1)) (C := (((True ∧ True) ∧ True) ∧ (1 = 0 ∨ 1 = 1))) rfl ⟨⟨⟨trivial, trivial⟩, trivial⟩, (by (/-30-/first | omega | (simp only [gz_hd] at *; omega)))⟩ ?_
    refine gr_st hI FI rfl rfl ⟨⟨by show 0 ≤ _; (/-31-/first | omega | (simp only [gz_hd] at *; omega)), by show _ ≤ 1; (/-32-/first | omega | (simp only [gz_hd] at *; omega))⟩, trivial⟩ (fun I44 hI44 FI44 q45 p45 => ?_)
    have t46 := gz_hi (p45 0 216 (by decide))
    have t47 := gz_hi (p45 0 217 (by decide))
    refine gv_run 2 true hD (pcₚ := 20) (lvₚ := [(0, .inr (.inr (some 0))), (1, .inl a1), (2, .inl a2), (3, .inl a3), (4, .inr (.inl a4))]) (stₚ := [.inl (I44 0 216)]) (hₚ := gr_h I44 J) (C := ((True ∧ True) ∧ True)) rfl ⟨⟨trivial, trivial⟩, trivial⟩ ?_
    rw [(gz_sh t46)]
    refine gv_run 2 true hD (pcₚ := 22) (lvₚ := [(0, .inr (.inr (some 0))), (1, .inl a1), (2, .inl a2), (3, .inl a3), (4, .inr (.inl a4))]) (stₚ := [.inl ((I 0 216) - 1)]) (hₚ := gr_h I44 J) (C := ((True ∧ True) ∧ True)) rfl ⟨⟨trivial, trivial⟩, trivial⟩ ?_
    exact gv_iret hD rfl ⟨I44, J, rfl, hI44, FI44, FJ, ⟨_, rfl, by (/-33-/first | omega | (simp only [gz_hd] at *; omega)), by (/-34-/first | (have o1 := gz_sh f2; omega) | (simp only [gz_hd] at *; omega)), by (/-35-/first | (have o1 := gz_sh t47; omega) | (simp only [gz_hd] at *; omega)), by (/-36-/first | (have o1 := gz_sh t46; omega) | (simp only [gz_hd] at *; omega)), by (/-37-/first | (have o1 := gz_sh t46; have o2 := gz_sh t47; omega) | (simp only [gz_hd] at *; omega)), by (/-38-/first | (have o1 := gz_sh f3; omega) | (simp only [gz_hd] at *; omega)), (Or.inl ⟨by (/-39-/first | omega | (simp only [gz_hd] at *; omega)), by (/-40-/first | omega | (simp only [gz_hd] at *; omega)), by (/-41-/first | omega | (simp only [gz_hd] at *; omega)), p45⟩), by (/-42-/first | (have o1 := gz_sh t46; omega) | (simp only [gz_hd] at *; omega))⟩⟩
