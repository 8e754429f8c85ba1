/-! the class's guess() (p12, p13) -/
def gc_pt (I : gr_I) (t : Nat) (x : Int) : Int := gs_fw I t (x / 24) 1
def gc_ec (I : gr_I) (t a : Nat) (l : Int) (x : Nat) : Prop := fo_ew (I (t + 17 + 1)) (I (t + 17 + 2)) (fun i : Nat => I (a + 1) (Int.toNat (I a 1 - l) + i)) l (x : Int)
def gc_gp (I : gr_I) (t a : Nat) (l p : Int) : Nat → Prop := fo_gp (fo_al I t) (gc_pt I t) (gc_ec I t a l) p
def gc_tt (I : gr_I) (t a : Nat) (l : Int) : Nat → Prop := fun x : Nat => fo_al I t (x : Int) ∧ gc_ec I t a l x
/-- counted up to x -/
def gc_CE (I I1 : gr_I) (t a : Nat) (l : Int) (x : Nat) : Prop := (∀ p : Nat, p < 24 → fo_cn (gc_gp I t a l (p : Int)) x (I1 103 p)) ∧ fo_cn (gc_tt I t a l) x (I1 100 7)
def gc_L0 (n : Int) : Int := if n < 4 then n else 4
def gc_no (I : gr_I) (t a : Nat) (l : Int) : Prop := fo_no (fo_al I t) (gc_ec I t a) l (gc_L0 (I a 1))
def gc_29 (I I1 : gr_I) (t a : Nat) (l : Int) : Prop := so_wd (I a 1) (I (a + 1)) ∧ ((I1 100 7 = 0 ∧ gc_no I t a l) ∨ (¬ I1 100 7 = 0 ∧ I1 100 8 = l + 1 ∧ l + 1 ≤ gc_L0 (I a 1) ∧ gc_no I t a (l + 1) ∧ gc_CE I I1 t a (l + 1) 1536))
/-- the first p PATTERNS are put together -/
def gc_60 (I I1 : gr_I) (t a : Nat) (p : Nat) : Prop := so_wd (I a 1) (I (a + 1)) ∧ ((I1 100 7 = 0 ∧ I1 100 4 = 0 ∧ gc_no I t a 0) ∨ (¬ I1 100 7 = 0 ∧ (1 ≤ I1 100 8 ∧ I1 100 8 ≤ gc_L0 (I a 1)) ∧ gc_no I t a (I1 100 8) ∧ fo_cn (gc_tt I t a (I1 100 8)) 1536 (I1 100 7) ∧ fo_cn (fo_gq (fo_al I t) (gc_pt I t) (gc_ec I t a (I1 100 8))) p (I1 100 4) ∧ fo_ls (fo_gq (fo_al I t) (gc_pt I t) (gc_ec I t a (I1 100 8))) (I1 102) p ∧ (∀ k : Nat, (k : Int) < I1 100 4 → fo_cn (gc_gp I t a (I1 100 8) (I1 102 k)) 1536 (I1 103 k)) ∧ ∀ k : Nat, p ≤ k → k < 24 → fo_cn (gc_gp I t a (I1 100 8) (k : Int)) 1536 (I1 103 k)))
def gc_UA (I Iₚ : gr_I) (t a : Nat) (z : Int) : Prop := (so_wd (I a 1) (I (a + 1)) ∧ z = Iₚ 100 4 ∧ fo_GF (gc_L0 (I a 1)) (fo_al I t) (gc_pt I t) (gc_ec I t a) (Int.toNat (I (t + 11) 1)) (Iₚ 100 4) (Iₚ 100 7) (Iₚ 100 8) (Iₚ 102) (Iₚ 103)) ∨ (¬ so_wd (I a 1) (I (a + 1)) ∧ z = -3 ∧ Iₚ 100 4 = 0)
section GC9
variable {I I0 I1 I2 : gr_I} {t a x m P : Nat} {l p w c y z n : Int}
theorem fo_al_no (b : ∀ w' : Int, fo_cs I t w' ≤ 24) (hw : 0 ≤ w) (hc : 0 ≤ c) (e : fo_cs I t w ≤ c) (h1 : 24 * w + c ≤ y) (h2 : y < 24 * (w + 1)) : ¬ fo_al I t y := fun h => by
  obtain ⟨w', c', e1, a0, a1, a2, a3⟩ := h
  have b' := b w'
  have e9 : w' = w := by omega
  rw [e9] at a3 e1
  omega
theorem fo_al_end (hw : 0 ≤ w) (e : I t 11 ≤ w) (h1 : 24 * w ≤ y) (b : ∀ w' : Int, fo_cs I t w' ≤ 24) : ¬ fo_al I t y := fun h => by
  obtain ⟨w', c', e1, a0, a1, a2, a3⟩ := h
  have b' := b w'
  omega
theorem gc_CE_0 (h : ∀ k : Nat, k < 24 → I1 103 k = 0) (z0 : I1 100 7 = 0) (hm : m = 0) : gc_CE I I1 t a l m := by
  rw [hm]
  exact ⟨fun p hp => h p hp, z0⟩
theorem gc_CE_m (h : gc_CE I I1 t a l x) (e : m = x) : gc_CE I I1 t a l m := by
  rw [e]
  exact h
theorem gc_CE_sk (h : gc_CE I I1 t a l x) (hm : x ≤ m) (nn : ∀ j : Nat, x ≤ j → j < m → ¬ fo_al I t (j : Int)) : gc_CE I I1 t a l m := ⟨fun p hp => fo_cn_sk (h.1 p hp) hm (fun j j1 j2 g => nn j j1 j2 g.1), fo_cn_sk h.2 hm (fun j j1 j2 g => nn j j1 j2 g.1)⟩
theorem gc_CE_c (h : gc_CE I I1 t a l x) (hx : x = Int.toNat (24 * w + c)) (b : ∀ w' : Int, fo_cs I t w' ≤ 24) (hw : 0 ≤ w) (hc : 0 ≤ c ∧ c ≤ 24) (e : fo_cs I t w ≤ c) (hm : m = Int.toNat (24 * (w + 1))) : gc_CE I I1 t a l m := gc_CE_sk h (by omega) (fun j j1 j2 => fo_al_no b hw hc.1 e (by omega) (by omega))
theorem gc_CE_e (h : gc_CE I I1 t a l x) (hx : x = Int.toNat (24 * w)) (b : ∀ w' : Int, fo_cs I t w' ≤ 24) (hw : 0 ≤ w ∧ w ≤ 64) (e : I t 11 ≤ w) : gc_CE I I1 t a l 1536 := gc_CE_sk h (by omega) (fun j j1 j2 => fo_al_end hw.1 e (by omega) b)
/-- what endsWith() tells of a place -/
theorem gc_ec_x (F : (z = 1 ∧ fo_ew (I1 (t + 17 + 1)) (I1 (t + 17 + 2)) (fun i : Nat => I1 (a + 1) (Int.toNat (I1 a 1 - l) + i)) l y) ∨ (z = 0 ∧ ¬ fo_ew (I1 (t + 17 + 1)) (I1 (t + 17 + 2)) (fun i : Nat => I1 (a + 1) (Int.toNat (I1 a 1 - l) + i)) l y)) (e1 : ∀ k, I1 (t + 17 + 1) k = I (t + 17 + 1) k) (e2 : ∀ k, I1 (t + 17 + 2) k = I (t + 17 + 2) k) (e3 : ∀ k, I1 (a + 1) k = I (a + 1) k) (e4 : I1 a 1 = I a 1) (hx : (x : Int) = y) : (z = 1 ∧ gc_ec I t a l x) ∨ (z = 0 ∧ ¬ gc_ec I t a l x) := by
  rw [show I1 (t + 17 + 1) = I (t + 17 + 1) from funext e1, show I1 (t + 17 + 2) = I (t + 17 + 2) from funext e2, show I1 (a + 1) = I (a + 1) from funext e3, e4, ← hx] at F
  exact F
theorem gc_CE_n (h : gc_CE I I1 t a l x) (F : (z = 1 ∧ gc_ec I t a l x) ∨ (z = 0 ∧ ¬ gc_ec I t a l x)) (hz : z = 0) (hm : m = x + 1) : gc_CE I I1 t a l m := by
  rw [hm]
  have f := (F.resolve_left (fun g => by have := g.1; omega)).2
  exact ⟨fun p hp => Or.inr ⟨fun g => f g.2.2, h.1 p hp⟩, Or.inr ⟨fun g => f g.2, h.2⟩⟩
theorem gc_CE_y (h : gc_CE I I1 t a l x) (F : (z = 1 ∧ gc_ec I t a l x) ∨ (z = 0 ∧ ¬ gc_ec I t a l x)) (hz : ¬ z = 0) (hm : m = x + 1) (hB : fo_al I t (x : Int)) (hp : gc_pt I t (x : Int) = p) (p0 : 0 ≤ p) (q : I2 103 (Int.toNat p) = I1 103 (Int.toNat p) + 1) (pp : ∀ j : Nat, ¬ j = Int.toNat p → I2 103 j = I1 103 j) (e : I2 100 7 = I1 100 7 + 1) : gc_CE I I2 t a l m := by
  rw [hm]
  have f := (F.resolve_right (fun g => hz g.1)).2
  refine ⟨fun k hk => ?_, ?_⟩
  · by_cases ek : k = Int.toNat p
    · rw [ek, q]
      refine Or.inl ⟨⟨hB, by rw [hp]; omega, f⟩, ?_⟩
      rw [show I1 103 (Int.toNat p) + 1 - 1 = I1 103 (Int.toNat p) from by omega]
      exact h.1 (Int.toNat p) (by omega)
    · rw [pp k ek]
      exact Or.inr ⟨fun g => by have := g.2.1; omega, h.1 k hk⟩
  · rw [e]
    exact Or.inl ⟨⟨hB, f⟩, by rw [show I1 100 7 + 1 - 1 = I1 100 7 from by omega]; exact h.2⟩
theorem gc_L0_b : gc_L0 n ≤ 4 ∧ gc_L0 n ≤ n ∧ (n ≤ gc_L0 n ∨ 4 ≤ gc_L0 n) := by
  unfold gc_L0
  by_cases c : n < 4
  · rw [if_pos c]
    omega
  · rw [if_neg c]
    omega
theorem gc_29_0 (h : so_wd (I a 1) (I (a + 1))) (z0 : I1 100 7 = 0) (hl : gc_L0 (I a 1) ≤ l) : gc_29 I I1 t a l := ⟨h, Or.inl ⟨z0, fun l' h1 h2 => by omega⟩⟩
/-- gc_CE over a state that has the same FORMS, WORDS and text -/
theorem gc_CE_I (h : gc_CE I0 I1 t a l x) (e0 : ∀ q j : Nat, (q = t + 13 ∨ q = t + 15 ∨ q = t + 17 + 1 ∨ q = t + 17 + 2 ∨ q = a + 1) → I0 q j = I q j) (e1 : I0 t 11 = I t 11) (e2 : I0 a 1 = I a 1) : gc_CE I I1 t a l x := by
  have f15 : gs_fw I0 t = gs_fw I t := funext fun w => funext fun k => e0 (t + 15) _ (Or.inr (Or.inl rfl))
  have fcs : fo_cs I0 t = fo_cs I t := funext fun w => by
    unfold fo_cs
    rw [f15]
    exact e0 (t + 13) _ (Or.inl rfl)
  have fal : fo_al I0 t = fo_al I t := funext fun y => by
    unfold fo_al
    rw [fcs, e1]
  have fpt : gc_pt I0 t = gc_pt I t := funext fun y => by
    unfold gc_pt
    rw [f15]
  have fec : gc_ec I0 t a = gc_ec I t a := funext fun l => funext fun y => by
    unfold gc_ec
    rw [show I0 (t + 17 + 1) = I (t + 17 + 1) from funext fun k => e0 _ k (Or.inr (Or.inr (Or.inl rfl))), show I0 (t + 17 + 2) = I (t + 17 + 2) from funext fun k => e0 _ k (Or.inr (Or.inr (Or.inr (Or.inl rfl)))), show I0 (a + 1) = I (a + 1) from funext fun k => e0 _ k (Or.inr (Or.inr (Or.inr (Or.inr rfl)))), e2]
  unfold gc_CE gc_gp gc_tt at h ⊢
  rw [fal, fpt, fec] at h
  exact h
theorem gc_29_s (h : gc_29 I I0 t a l) (z0 : I0 100 7 = 0) (ce : gc_CE I I1 t a l 1536) (b : ∀ y, fo_al I t y → 0 ≤ y ∧ y < 1536) (e8 : I1 100 8 = l) (hl : l ≤ gc_L0 (I a 1)) (hm : n = l - 1) : gc_29 I I1 t a n := by
  obtain ⟨h1, h2⟩ := h
  have no := (h2.resolve_right (fun g => g.1 z0)).2
  refine ⟨h1, ?_⟩
  by_cases c : I1 100 7 = 0
  · refine Or.inl ⟨c, fun l' g1 g2 x g => ?_⟩
    by_cases e : l' = l
    · rw [e] at g
      have k := ce.2
      rw [c] at k
      exact fo_cn_0 k x (by have := b _ g.1; omega) g
    · exact no l' (by omega) g2 x g
  · have e1 : n + 1 = l := by omega
    exact Or.inr ⟨c, by omega, by omega, by rw [e1]; exact no, by rw [e1]; exact ce⟩
theorem gc_60_0 (h : gc_29 I I1 t a l) (e : l ≤ 0 ∨ ¬ I1 100 7 = 0) (hl : 0 ≤ l) (g0 : I1 100 4 = 0) (hm : m = 0) : gc_60 I I1 t a m := by
  obtain ⟨h1, h2⟩ := h
  rw [hm]
  refine ⟨h1, ?_⟩
  rcases h2 with ⟨a1, b1⟩ | ⟨a1, b1, c1, d1, f1⟩
  · exact Or.inl ⟨a1, g0, fun l' g1 g2 => b1 l' (by omega) g2⟩
  · rw [← b1] at d1 f1
    refine Or.inr ⟨a1, ⟨by omega, by omega⟩, d1, f1.2, ?_, fun x y l9 => absurd l9 (Nat.not_lt_zero x), fun k hk => by omega, fun k _ hk => f1.1 k hk⟩
    rw [g0]
    rfl
theorem gc_60_n (h : gc_60 I I1 t a P) (z : ¬ I1 100 7 = 0 → I1 103 P ≤ 0) (hP : P < 24) (b : ∀ y, fo_al I t y → 0 ≤ y ∧ y < 1536) (hm : m = P + 1) : gc_60 I I1 t a m := by
  obtain ⟨h1, h2⟩ := h
  rw [hm]
  refine ⟨h1, ?_⟩
  rcases h2 with h2 | ⟨a1, b1, c1, d1, e1, f1, g1, k1⟩
  · exact Or.inl h2
  · have k2 := k1 P (Nat.le_refl P) hP
    have z0 : I1 103 P = 0 := by
      have := z a1
      have := (fo_cn_b k2).1
      omega
    rw [z0] at k2
    have no : ¬ fo_gq (fo_al I t) (gc_pt I t) (gc_ec I t a (I1 100 8)) P := fun q => by
      obtain ⟨x, g⟩ := q
      exact fo_cn_0 k2 x (by have := b _ g.1; omega) g
    exact Or.inr ⟨a1, b1, c1, d1, Or.inr ⟨no, e1⟩, fo_ls_sk f1 (fun j j1 j2 q => no (by rw [show P = j from by omega]; exact q)), g1, fun k hk => k1 k (by omega)⟩
theorem gc_60_y (h : gc_60 I I1 t a P) (nz : ¬ I1 100 7 = 0) (z : 0 < I1 103 P) (hP : P < 24) (hm : m = P + 1) (gb : I1 100 4 ≤ (P : Int)) (e7 : I2 100 7 = I1 100 7) (e8 : I2 100 8 = I1 100 8) (e4 : I2 100 4 = I1 100 4 + 1) (q1 : I2 102 (Int.toNat (I1 100 4)) = (P : Int)) (p1 : ∀ j : Nat, ¬ j = Int.toNat (I1 100 4) → I2 102 j = I1 102 j) (q2 : I2 103 (Int.toNat (I1 100 4)) = I1 103 P) (p2 : ∀ j : Nat, ¬ j = Int.toNat (I1 100 4) → I2 103 j = I1 103 j) : gc_60 I I2 t a m := by
  obtain ⟨h1, h2⟩ := h
  rw [hm]
  obtain ⟨a1, b1, c1, d1, e1, f1, g1, k1⟩ := h2.resolve_left (fun g => nz g.1)
  have k2 := k1 P (Nat.le_refl P) hP
  have g0 := fo_cn_b e1
  refine ⟨h1, Or.inr ⟨by omega, by omega, ?_, ?_, ?_, ?_, fun k hk => ?_, fun k k1' k2' => ?_⟩⟩
  · rw [e8]
    exact c1
  · rw [e8, e7]
    exact d1
  · rw [e8, e4]
    refine Or.inl ⟨?_, by rw [show I1 100 4 + 1 - 1 = I1 100 4 from by omega]; exact e1⟩
    obtain ⟨x, _, g⟩ := fo_cn_p k2 (by omega)
    exact ⟨x, g⟩
  · rw [e8]
    exact fo_ls_in f1 e1 q1 p1
  · rw [e8]
    by_cases e : k = Int.toNat (I1 100 4)
    · rw [e, q1, q2]
      exact k2
    · rw [p1 k e, p2 k e]
      exact g1 k (by omega)
  · rw [e8, p2 k (by omega)]
    exact k1 k (by omega) k2'
theorem gc_60_e (h : gc_60 I I1 t a P) (e : I (t + 11) 1 ≤ (P : Int) ∨ I1 100 7 ≤ 0) (hb : (P : Int) ≤ I (t + 11) 1) (n7 : 0 ≤ I1 100 7) (b0 : ∀ y, 0 ≤ gc_pt I t y) (b : ∀ y, fo_al I t y → gc_pt I t y < I (t + 11) 1) : fo_GF (gc_L0 (I a 1)) (fo_al I t) (gc_pt I t) (gc_ec I t a) (Int.toNat (I (t + 11) 1)) (I1 100 4) (I1 100 7) (I1 100 8) (I1 102) (I1 103) := by
  obtain ⟨_, h2⟩ := h
  rcases h2 with ⟨a1, b1, c1⟩ | ⟨a1, b1, c1, d1, e1, f1, g1, k1⟩
  · exact Or.inl ⟨b1, c1⟩
  · have eP : Int.toNat (I (t + 11) 1) = P := by omega
    rw [eP]
    refine Or.inr ⟨fun z => ?_, b1, c1, e1, f1, g1, ?_⟩
    · rw [z] at e1
      obtain ⟨x, _, g⟩ := fo_cn_p d1 a1
      have b2 := b _ g.1
      have b3 := b0 (x : Int)
      exact fo_cn_0 e1 (Int.toNat (gc_pt I t (x : Int))) (by omega) ⟨x, g.1, by omega, g.2⟩
    · exact fo_cn_cg (fun x _ => ⟨fun g => ⟨g.1, by have := b _ g.1; omega, g.2⟩, fun g => ⟨g.1, g.2.2⟩⟩) d1
end GC9
