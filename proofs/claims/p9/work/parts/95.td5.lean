/-! SOUND RULES and CLASSES with what they hold, the class's side (p8). The pool's bytes stay, further ones come behind them. -/
def gc_PKs (I Iₚ : gr_I) : Prop := I 1 17 ≤ Iₚ 1 17 ∧ ∀ j : Nat, (j : Int) < I 1 17 → Iₚ 20 j = I 20 j
def gc_kb (I Iₚ : gr_I) (b : Int) : Prop := Iₚ 1 17 = I 1 17 + 1 ∧ Iₚ 20 (Int.toNat (I 1 17)) = b
/-- the LETTERS at hand came to the pool -/
def gc_kl (I Iₚ : gr_I) : Prop := Iₚ 1 17 = I 1 17 + (I 23 6 - I 23 5 - 2) ∧ ∀ i : Int, 0 ≤ i → i < I 23 6 - I 23 5 - 2 → Iₚ 20 (Int.toNat (I 1 17 + i)) = I 24 (Int.toNat (I 23 5 + 1 + i))
section PK
variable {I0 I I1 I2 I3 Iₚ Ir : gr_I} {J Jr : gr_J} {β : Int → Int} {N p q n : Int} {t c : Nat} {f f' : Nat → Int} {v : so_it}
theorem gc_PKs_rf : gc_PKs I I := ⟨Int.le_refl _, fun _ _ => rfl⟩
theorem gc_PKs_tr (h : gc_PKs I0 I) (hₚ : gc_PKs I Iₚ) : gc_PKs I0 Iₚ := ⟨Int.le_trans h.1 hₚ.1, fun j hj => (hₚ.2 j (Int.lt_of_lt_of_le hj h.1)).trans (h.2 j hj)⟩
theorem gc_PKs_fr (h : gc_PKs I0 I) (h17 : Iₚ 1 17 = I 1 17) (h20 : ∀ k, Iₚ 20 k = I 20 k) : gc_PKs I0 Iₚ := ⟨by rw [h17]; exact h.1, fun j hj => (h20 j).trans (h.2 j hj)⟩
theorem gc_PKs_kb (p1 : ∀ q j, ¬ (q = 1 ∧ j = 17) → I1 q j = I q j) (q1 : I1 1 17 = I 1 17 + 1) (p2 : ∀ q j, ¬ (q = 20 ∧ j = Int.toNat (I 1 17)) → I2 q j = I1 q j) : gc_PKs I I2 := ⟨by rw [p2 1 17 (fun h => absurd h.1 (by first | exact gz_ne rfl | decide)), q1]; omega, fun j hj => (p2 20 j (fun h => by have := h.2; omega)).trans (p1 20 j (fun h => absurd h.1 (by first | exact gz_ne rfl | decide)))⟩
/-- a thing of a RULE, decoded from three columns: M the masks, P the pool -/
def so_cx (M P f : Nat → Int) (c : Nat) : so_it := if f c = 2 then (2, 0, fun _ => 0) else if f c = 1 then (1, M (Int.toNat (f (c + 1))), fun _ => 0) else (0, f (c + 2), so_cut (f (c + 2)) (fun i => P (Int.toNat (f (c + 1) + i))))
def so_okc (cl m : Int) (f : Nat → Int) (c : Nat) : Prop := f c = 2 ∨ (f c = 1 ∧ 0 ≤ f (c + 1) ∧ f (c + 1) < cl) ∨ (f c = 0 ∧ 0 ≤ f (c + 1) ∧ 0 ≤ f (c + 2) ∧ f (c + 1) + f (c + 2) ≤ m)
def gs_itc (I0 I : gr_I) (t : Nat) (f : Nat → Int) (c : Nat) (v : so_it) : Prop := so_cx (I0 (t + 9)) (I 20) f c = v ∧ so_okc (I0 (t + 7) 1) (I 1 17) f c
theorem so_cx_kp {M M' P P' : Nat → Int} {cl m : Int} (h : so_okc cl m f c) (lm : ∀ j : Nat, (j : Int) < cl → M' j = M j) (l : ∀ j : Nat, (j : Int) < m → P' j = P j) (e0 : f' c = f c) (e1 : f' (c + 1) = f (c + 1)) (e2 : f' (c + 2) = f (c + 2)) : so_cx M' P' f' c = so_cx M P f c := by
  unfold so_cx
  rw [e0, e1, e2]
  by_cases c1 : f c = 2
  · rw [if_pos c1, if_pos c1]
  · rw [if_neg c1, if_neg c1]
    by_cases c2 : f c = 1
    · have o := (h.resolve_left c1).resolve_right (fun q => by have := q.1; omega)
      rw [if_pos c2, if_pos c2, lm _ (by omega)]
    · rw [if_neg c2, if_neg c2]
      obtain ⟨_, o1, o2, o3⟩ := (h.resolve_left c1).resolve_left (fun q => c2 q.1)
      exact congrArg (fun g => ((0 : Int), f (c + 2), g)) (so_cut_eq (n := f (c + 2)) (r := fun i => P' (Int.toNat (f (c + 1) + i))) (r' := fun i => P (Int.toNat (f (c + 1) + i))) (fun k a b => l _ (by omega)))
theorem gs_itc_kp (h : gs_itc I0 I t f c v) (l : gc_PKs I Iₚ) (e0 : f' c = f c) (e1 : f' (c + 1) = f (c + 1)) (e2 : f' (c + 2) = f (c + 2)) : gs_itc I0 Iₚ t f' c v := by
  refine ⟨(so_cx_kp h.2 (fun _ _ => rfl) l.2 e0 e1 e2).trans h.1, ?_⟩
  unfold so_okc
  rw [e0, e1, e2]
  rcases h.2 with g | g | g
  · exact Or.inl g
  · exact Or.inr (Or.inl g)
  · exact Or.inr (Or.inr ⟨g.1, g.2.1, g.2.2.1, Int.le_trans g.2.2.2 l.1⟩)
theorem gs_itc_ix {d : Nat} (h : gs_itc I0 I t f c v) (e : d = c) : gs_itc I0 I t f d v := by
  rw [e]
  exact h
theorem gs_itc_b (h : f c = 2) : gs_itc I0 I t f c (2, 0, fun _ => 0) := ⟨if_pos h, Or.inl h⟩
/-- masks alike -/
def gs_MA (Ir I : gr_I) (t : Nat) : Prop := ∀ k : Nat, (k : Int) < I (t + 7) 1 → I (t + 9) k = Ir 26 (Int.toNat (16 * Ir 0 6 + (k : Int)))
theorem gs_MA_fr (h : gs_MA Ir I t) (h7 : Iₚ (t + 7) 1 = I (t + 7) 1) (h9 : ∀ k, Iₚ (t + 9) k = I (t + 9) k) : gs_MA Ir Iₚ t := fun k hk => (h9 k).trans (h k (by rw [← h7]; exact hk))
theorem gs_itc_c {z : Int} (ma : gs_MA Ir I0 t) (h : f c = 1) (hz : f (c + 1) = z) (h0 : 0 ≤ z) (h1 : z < I0 (t + 7) 1) : gs_itc I0 I t f c (1, Ir 26 (Int.toNat (16 * Ir 0 6 + z)), fun _ => 0) := by
  refine ⟨?_, Or.inr (Or.inl ⟨h, by omega, by omega⟩)⟩
  unfold so_cx
  rw [if_neg (show ¬ f c = 2 by omega), if_pos h, hz, ma (Int.toNat z) (by omega), show ((Int.toNat z : Nat) : Int) = z from by omega]
theorem gs_itc_l {L m : Int} {g : Int → Int} (h : f c = 0) (h1 : f (c + 1) = L) (h2 : f (c + 2) = m) (h0 : 0 ≤ L) (hm : 0 ≤ m) (hl : L + m ≤ Iₚ 1 17) (hb : ∀ i, 0 ≤ i → i < m → Iₚ 20 (Int.toNat (L + i)) = g i) : gs_itc I0 Iₚ t f c (0, m, so_cut m g) := by
  refine ⟨?_, Or.inr (Or.inr ⟨h, by omega, by omega, by omega⟩)⟩
  unfold so_cx
  rw [if_neg (show ¬ f c = 2 by omega), if_neg (show ¬ f c = 1 by omega), h1, h2]
  exact congrArg (fun g => ((0 : Int), m, g)) (so_cut_eq hb)
/-- the pool's bytes are the token's LETTERS -/
theorem gc_kl_b (A0 : gc_AT β N p 23 I J) (h5 : 0 ≤ I 23 5) (h6 : I 23 6 ≤ I 23 1) (k : gc_kl I I1) (e20 : ∀ j, Iₚ 20 j = I1 20 j) : ∀ i, 0 ≤ i → i < gs_X β N p - gs_A β N p - 2 → Iₚ 20 (Int.toNat (I 1 17 + i)) = β (gs_A β N p + 1 + i) := fun i a b => by
  obtain ⟨_, g1, g2⟩ := gc_AT_l A0
  have gN : N = I 23 1 := A0.1.2
  have T : gs_TX β N (I 24) := A0.1.1
  rw [e20, k.2 i a (by omega), gs_TX_i T (k := gs_A β N p + 1 + i) (by omega) (by omega), show I 23 5 = gs_A β N p from by omega]
/-- the LETTERS of two columns -/
def gs_lec (I : gr_I) (f : Nat → Int) (c : Nat) (v : Int × (Int → Int)) : Prop := (f (c + 1), so_cut (f (c + 1)) (fun i => I 20 (Int.toNat (f c + i)))) = v ∧ (0 ≤ f c ∧ 0 ≤ f (c + 1)) ∧ f c + f (c + 1) ≤ I 1 17
theorem gs_lec_kp {w : Int × (Int → Int)} (h : gs_lec I f c w) (l : gc_PKs I Iₚ) (e0 : f' c = f c) (e1 : f' (c + 1) = f (c + 1)) : gs_lec Iₚ f' c w := by
  unfold gs_lec
  rw [e0, e1]
  refine ⟨?_, h.2.1, Int.le_trans h.2.2 l.1⟩
  rw [← h.1]
  have o := h.2
  exact congrArg (fun g => (f (c + 1), g)) (so_cut_eq (n := f (c + 1)) (r := fun i => Iₚ 20 (Int.toNat (f c + i))) (r' := fun i => I 20 (Int.toNat (f c + i))) (fun k a b => l.2 _ (by omega)))
theorem gs_lec_mk {L m : Int} {g : Int → Int} (h0 : f c = L) (h1 : f (c + 1) = m) (hL : 0 ≤ L) (hm : 0 ≤ m) (hl : L + m ≤ Iₚ 1 17) (hb : ∀ i, 0 ≤ i → i < m → Iₚ 20 (Int.toNat (L + i)) = g i) : gs_lec Iₚ f c (m, so_cut m g) := by
  unfold gs_lec
  rw [h0, h1]
  exact ⟨congrArg (fun g => (m, g)) (so_cut_eq hb), ⟨hL, hm⟩, hl⟩
/-- a side: its number in column a, its things from column b on -/
def gs_cv (I0 I : gr_I) (t : Nat) (f : Nat → Int) (a b : Nat) (v : Nat × (Nat → so_it)) : Prop := f a = ((v.1 : Nat) : Int) ∧ v.1 ≤ 3 ∧ ∀ k, k < v.1 → gs_itc I0 I t f (b + 3 * k) (v.2 k)
theorem gs_cv_kp {a b : Nat} {w : Nat × (Nat → so_it)} (h : gs_cv I0 I t f a b w) (l : gc_PKs I Iₚ) (ea : f' a = f a) (e : ∀ j, j < 9 → f' (b + j) = f (b + j)) : gs_cv I0 Iₚ t f' a b w := ⟨ea.trans h.1, h.2.1, fun k hk => gs_itc_kp (h.2.2 k hk) l (e (3 * k) (by have := h.2.1; omega)) (by rw [Nat.add_assoc]; exact e (3 * k + 1) (by have := h.2.1; omega)) (by rw [Nat.add_assoc]; exact e (3 * k + 2) (by have := h.2.1; omega))⟩
theorem gs_cv_0 {a b : Nat} (h : f a = 0) : gs_cv I0 I t f a b gs_t0 := ⟨h, Nat.zero_le _, fun k hk => absurd hk (Nat.not_lt_zero k)⟩
/-- a side is read: n things so far, the token from q on is at hand -/
def gs_c2 (β : Int → Int) (N : Int) (Ir : gr_I) (Jr : gr_J) (I : gr_I) (t : Nat) (a b p : Int) (I1 : gr_I) (n q : Int) : Prop := (∀ k : Nat, (k : Int) < n → gs_itc I I1 t (I1 41) (Int.toNat b + 3 * k) (gs_ti β N Ir Jr (gs_sp β N k p))) ∧ q = gs_sp β N (Int.toNat n) p ∧ gs_sn β N 3 p = gs_sn β N (Int.toNat (3 - n)) q + Int.toNat n ∧ ∀ j : Nat, ¬ j = Int.toNat a → ¬ (Int.toNat b ≤ j ∧ j < Int.toNat b + 9) → I1 41 j = I 41 j
theorem gs_c2_0 {a b : Int} : gs_c2 β N Ir Jr I t a b p I 0 p := ⟨fun k h => absurd h (by omega), rfl, rfl, fun _ _ _ => rfl⟩
theorem gs_c2_s {a b L : Int} (h : gs_c2 β N Ir Jr I t a b p I1 n q) (hn : 0 ≤ n ∧ n < 3) (hab : (a = 5 ∧ b = 7) ∨ (a = 6 ∧ b = 16)) (hT : gs_T β N q = 3 ∨ gs_T β N q = 1 ∨ gs_T β N q = 35) (l : gc_PKs I1 I2) (e41 : ∀ j : Nat, ¬ j = Int.toNat (b + 3 * n) → ¬ j = Int.toNat (b + 3 * n + 1) → ¬ j = Int.toNat (b + 3 * n + 2) → I2 41 j = I1 41 j) (hc : gs_itc I1 I2 t (I2 41) (Int.toNat (b + 3 * n)) (gs_ti β N Ir Jr q)) (h9 : ∀ k, I1 (t + 9) k = I (t + 9) k) (h7 : I1 (t + 7) 1 = I (t + 7) 1) (ps : ∀ q j, ¬ (q = 41 ∧ j = Int.toNat a) → I3 q j = I2 q j) (hq : L = gs_X β N q) : gs_c2 β N Ir Jr I t a b p I3 (n + 1) L := by
  subst hq
  obtain ⟨h1, h2, h3, h4⟩ := h
  have l3 : gc_PKs I2 I3 := gc_PKs_fr gc_PKs_rf (ps 1 17 (fun q => absurd q.1 (by first | exact gz_ne rfl | decide))) (fun k => ps 20 k (fun q => absurd q.1 (by first | exact gz_ne rfl | decide)))
  have hc' : gs_itc I I2 t (I2 41) (Int.toNat (b + 3 * n)) (gs_ti β N Ir Jr q) := by
    unfold gs_itc at hc ⊢
    rw [show I1 (t + 9) = I (t + 9) from funext h9, h7] at hc
    exact hc
  have s3 : ∀ j, ¬ j = Int.toNat a → I3 41 j = I2 41 j := fun j hj => ps 41 j (fun q => hj q.2)
  refine ⟨fun k hk => ?_, ?_, ?_, fun j ha hb => ?_⟩
  · by_cases c : (k : Int) = n
    · rw [show Int.toNat b + 3 * k = Int.toNat (b + 3 * n) from by omega, show k = Int.toNat n from by omega, ← h2]
      exact gs_itc_kp hc' l3 (s3 _ (by omega)) (s3 _ (by omega)) (s3 _ (by omega))
    · exact gs_itc_kp (gs_itc_kp (h1 k (by omega)) l (e41 _ (by omega) (by omega) (by omega)) (e41 _ (by omega) (by omega) (by omega)) (e41 _ (by omega) (by omega) (by omega))) l3 (s3 _ (by omega)) (s3 _ (by omega)) (s3 _ (by omega))
  · rw [show Int.toNat (n + 1) = Int.toNat n + 1 from by omega]
    show gs_X β N q = gs_X β N (gs_sp β N (Int.toNat n) p)
    rw [h2]
  · rw [h3, show Int.toNat (3 - n) = Int.toNat (3 - (n + 1)) + 1 from by omega]
    show (if _ then _ else _) + _ = _
    rw [if_pos hT]
    omega
  · rw [s3 j ha, e41 j (by omega) (by omega) (by omega)]
    exact h4 j ha hb
/-- what readSide() leaves -/
def gs_ccs (β : Int → Int) (N : Int) (Ir : gr_I) (Jr : gr_J) (I : gr_I) (t : Nat) (a b p : Int) (Iₚ : gr_I) : Prop := gs_cv I Iₚ t (Iₚ 41) (Int.toNat a) (Int.toNat b) (gs_ts β N Ir Jr p) ∧ ∀ j : Nat, ¬ j = Int.toNat a → ¬ (Int.toNat b ≤ j ∧ j < Int.toNat b + 9) → Iₚ 41 j = I 41 j
theorem gs_ccs_mk {a b : Int} (h : gs_c2 β N Ir Jr I t a b p I1 n q) (hn : 0 ≤ n) (hT : ¬ (gs_T β N q = 3 ∨ gs_T β N q = 1 ∨ gs_T β N q = 35)) (hr : I1 41 (Int.toNat a) = n) : gs_ccs β N Ir Jr I t a b p I1 := by
  obtain ⟨h1, h2, h3, h4⟩ := h
  rw [gs_sn_e hT] at h3
  have e : gs_sn β N 3 p = Int.toNat n := by omega
  refine ⟨⟨?_, gs_sn_3 3 p, fun k hk => ?_⟩, h4⟩
  · show I1 41 (Int.toNat a) = ((gs_sn β N 3 p : Nat) : Int)
    rw [hr, e]
    omega
  · have hk' : k < gs_sn β N 3 p := hk
    show gs_itc _ _ _ _ _ (so_ct (gs_sn β N 3 p) (fun k => gs_ti β N Ir Jr (gs_sp β N k p)) k)
    rw [gs_ct_e hk']
    exact h1 k (by omega)
theorem gs_cv_eq {a b : Nat} {w : Nat × (Nat → so_it)} (h : gs_cv I1 Iₚ t f a b w) (h9 : ∀ k, I1 (t + 9) k = I (t + 9) k) (h7 : I1 (t + 7) 1 = I (t + 7) 1) : gs_cv I Iₚ t f a b w := ⟨h.1, h.2.1, fun k hk => by
  have g := h.2.2 k hk
  unfold gs_itc at g ⊢
  rw [show I1 (t + 9) = I (t + 9) from funext h9, h7] at g
  exact g⟩
theorem gs_itc_eq (h : gs_itc I1 Iₚ t f c v) (h9 : ∀ k, I1 (t + 9) k = I (t + 9) k) (h7 : I1 (t + 7) 1 = I (t + 7) 1) : gs_itc I Iₚ t f c v := by
  unfold gs_itc at h ⊢
  rw [show I1 (t + 9) = I (t + 9) from funext h9, h7] at h
  exact h
/-- the row of a whole RULE -/
def gs_c7 (β : Int → Int) (N : Int) (Ir : gr_I) (Jr : gr_J) (I : gr_I) (t : Nat) (p : Int) (I1 : gr_I) (f : Nat → Int) : Prop := gs_itc I I1 t f 0 (gs_ti β N Ir Jr p) ∧ gs_lec I1 f 3 (gs_tl β N (gs_X β N (gs_X β N p))) ∧ gs_cv I I1 t f 5 7 (gs_tv β N Ir Jr (gs_X β N (gs_X β N (gs_X β N p)))).1 ∧ gs_cv I I1 t f 6 16 (gs_tv β N Ir Jr (gs_X β N (gs_X β N (gs_X β N p)))).2
theorem gs_c7_kp (h : gs_c7 β N Ir Jr I t p I1 f) (l : gc_PKs I1 I2) (e : ∀ j, j < 25 → f' j = f j) : gs_c7 β N Ir Jr I t p I2 f' := ⟨gs_itc_kp h.1 l (e _ (by decide)) (e _ (by decide)) (e _ (by decide)), gs_lec_kp h.2.1 l (e _ (by decide)) (e _ (by decide)), gs_cv_kp h.2.2.1 l (e _ (by decide)) (fun j hj => e _ (by omega)), gs_cv_kp h.2.2.2 l (e _ (by decide)) (fun j hj => e _ (by omega))⟩
def so_rc (I : gr_I) (t : Nat) (r : Int) : so_ru := (so_cx (I (t + 9)) (I 20) (fun k => I (t + 10) (Int.toNat (25 * r) + k)) 0, (I (t + 10) (Int.toNat (25 * r) + 4), so_cut (I (t + 10) (Int.toNat (25 * r) + 4)) (fun i => I 20 (Int.toNat (I (t + 10) (Int.toNat (25 * r) + 3) + i)))), (Int.toNat (I (t + 10) (Int.toNat (25 * r) + 5)), so_ct (Int.toNat (I (t + 10) (Int.toNat (25 * r) + 5))) (fun k => so_cx (I (t + 9)) (I 20) (fun k => I (t + 10) (Int.toNat (25 * r) + k)) (7 + 3 * k))), (Int.toNat (I (t + 10) (Int.toNat (25 * r) + 6)), so_ct (Int.toNat (I (t + 10) (Int.toNat (25 * r) + 6))) (fun k => so_cx (I (t + 9)) (I 20) (fun k => I (t + 10) (Int.toNat (25 * r) + k)) (16 + 3 * k))))
def so_okv (cl m : Int) (f : Nat → Int) (a b : Nat) : Prop := (0 ≤ f a ∧ f a ≤ 3) ∧ ∀ k : Nat, (k : Int) < f a → so_okc cl m f (b + 3 * k)
def so_okrc (I : gr_I) (t : Nat) (r : Int) : Prop := so_okc (I (t + 7) 1) (I 1 17) (fun k => I (t + 10) (Int.toNat (25 * r) + k)) 0 ∧ ((0 ≤ I (t + 10) (Int.toNat (25 * r) + 3) ∧ 0 ≤ I (t + 10) (Int.toNat (25 * r) + 4)) ∧ I (t + 10) (Int.toNat (25 * r) + 3) + I (t + 10) (Int.toNat (25 * r) + 4) ≤ I 1 17) ∧ so_okv (I (t + 7) 1) (I 1 17) (fun k => I (t + 10) (Int.toNat (25 * r) + k)) 5 7 ∧ so_okv (I (t + 7) 1) (I 1 17) (fun k => I (t + 10) (Int.toNat (25 * r) + k)) 6 16
/-- what readSound() leaves -/
def gs_Csn (β : Int → Int) (N : Int) (Ir : gr_I) (Jr : gr_J) (I : gr_I) (t : Nat) (p : Int) (Iₚ : gr_I) (r : Int) : Prop := (so_rc Iₚ t r = gs_tu β N Ir Jr p ∧ so_okrc Iₚ t r) ∧ ∀ j : Nat, ¬ (Int.toNat (25 * r) ≤ j ∧ j < Int.toNat (25 * r) + 25) → Iₚ (t + 10) j = I (t + 10) j
theorem gs_cv_e {a b : Nat} {w : Nat × (Nat → so_it)} (h : gs_cv I0 I t f a b w) (hw : w = (w.1, so_ct w.1 w.2)) : ((Int.toNat (f a), so_ct (Int.toNat (f a)) (fun k => so_cx (I0 (t + 9)) (I 20) f (b + 3 * k))) : Nat × (Nat → so_it)) = w := by
  rw [h.1, Int.toNat_natCast, hw]
  refine congrArg (Prod.mk w.1) (funext fun k => ?_)
  show so_ct w.1 _ k = so_ct w.1 w.2 k
  unfold so_ct
  by_cases g : k < w.1
  · rw [if_pos g, if_pos g]
    exact (h.2.2 k g).1
  · rw [if_neg g, if_neg g]
theorem gs_cv_ok {a b : Nat} {w : Nat × (Nat → so_it)} (h : gs_cv I0 I t f a b w) : so_okv (I0 (t + 7) 1) (I 1 17) f a b := ⟨by rw [h.1]; have := h.2.1; omega, fun k hk => (h.2.2 k (by rw [h.1] at hk; omega)).2⟩
theorem gs_Csn_mk {r : Int} (h : gs_c7 β N Ir Jr I t p Iₚ (fun k => Iₚ (t + 10) (Int.toNat (25 * r) + k))) (h9 : ∀ k, Iₚ (t + 9) k = I (t + 9) k) (h7 : Iₚ (t + 7) 1 = I (t + 7) 1) (o : ∀ j : Nat, ¬ (Int.toNat (25 * r) ≤ j ∧ j < Int.toNat (25 * r) + 25) → Iₚ (t + 10) j = I (t + 10) j) : gs_Csn β N Ir Jr I t p Iₚ r := by
  have z9 : Iₚ (t + 9) = I (t + 9) := funext h9
  obtain ⟨a, b, c, d⟩ := h
  refine ⟨⟨Prod.ext ?_ (Prod.ext b.1 (Prod.ext ?_ ?_)), ?_⟩, o⟩
  · show so_cx (Iₚ (t + 9)) _ _ _ = _
    rw [z9]
    exact a.1
  · have e := gs_cv_e c (gs_tv_ct _).1
    rw [← z9] at e
    exact e
  · have e := gs_cv_e d (gs_tv_ct _).2
    rw [← z9] at e
    exact e
  · have oc := gs_cv_ok c
    have od := gs_cv_ok d
    have oa := a.2
    rw [← h7] at oc od oa
    exact ⟨oa, b.2, oc, od⟩
/-- what readClass() leaves: the mask -/
def gs_Cml (β : Int → Int) (N : Int) (I : gr_I) (t : Nat) (p : Int) (Iₚ : gr_I) : Prop := Iₚ (t + 9) (Int.toNat (I (t + 7) 1)) = gs_ms β (gs_A β N (gs_X β N (gs_X β N p))) (Int.toNat (gs_X β N (gs_X β N (gs_X β N p)) - gs_A β N (gs_X β N (gs_X β N p)) - 2)) ∧ ∀ j : Nat, ¬ j = Int.toNat (I (t + 7) 1) → Iₚ (t + 9) j = I (t + 9) j
theorem gs_Cml_mk {m k : Int} {c : Nat} (hm : m = gs_ms β (gs_A β N q) (Int.toNat k)) (hq : q = gs_X β N (gs_X β N p)) (hk : k = gs_X β N q - gs_A β N q - 2) (hc : c = Int.toNat (I (t + 7) 1)) (qm : Iₚ (t + 9) c = m) (o : ∀ j : Nat, ¬ j = c → Iₚ (t + 9) j = I (t + 9) j) : gs_Cml β N I t p Iₚ := by
  subst hc hq hk
  exact ⟨qm.trans hm, o⟩
theorem gs_ms_c {m k b : Int} {A : Int} (h : m = gs_ms β A (Int.toNat (k - 1))) (hk : 1 ≤ k) (hb : b = β (A + k)) : gs_mb m b = gs_ms β A (Int.toNat (k + 1 - 1)) := by
  have e := gs_ms_s (β := β) (A := A) (m := m) (k := k - 1) (b := b) h (by omega) (by rw [hb, show A + 1 + (k - 1) = A + k from by omega])
  rw [show k + 1 - 1 = k - 1 + 1 from by omega]
  exact e
theorem gc_at_b (A0 : gc_AT β N p 23 I J) {i : Int} (h0 : 0 ≤ I 23 5 + i) (h1 : I 23 5 + i < I 23 1) : I 24 (Int.toNat (I 23 5 + i)) = β (gs_A β N p + i) := by
  have g1 := (gc_AT_l A0).2.1
  have gN : N = I 23 1 := A0.1.2
  have T : gs_TX β N (I 24) := A0.1.1
  rw [gs_TX_i T (k := gs_A β N p + i) (by omega) (by omega), show I 23 5 = gs_A β N p from by omega]
end PK
