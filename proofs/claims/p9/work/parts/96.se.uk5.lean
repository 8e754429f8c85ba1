/-! the class's SOUND RULES over a word (p8) -/
def so_ci (I : gr_I) (t : Nat) (c : Int) : so_it := so_cx (I (t + 9)) (I 20) (I (t + 10)) (Int.toNat c)
/-- where an item ends, or nowhere -/
def so_End (it : so_it) (b : Int → Int) (n p z : Int) : Prop := (0 ≤ z ∧ so_fits it b n p z) ∨ (z < 0 ∧ ∀ q, ¬ so_fits it b n p q)
/-- the place of from (d = 6) and of to (d = 7) -/
def so_fb (I : gr_I) (p d : Nat) : Nat := p + 6 + 1 * Int.toNat (I p d)
/-- how long an item of LETTERS or a CLASS is -/
def so_L (it : so_it) (L : Int) : Prop := (it.1 = 1 ∧ L = 1) ∨ (it.1 = 0 ∧ L = it.2.1)
section CI
variable {I Iₚ I2 : gr_I} {t : Nat} {a c L N n p q r z m k v : Int} {b w f : Int → Int} {it : so_it} {R : Nat → so_it} {j : Nat}
theorem so_ci_b (h : I (t + 10) (Int.toNat c) = 2) : so_ci I t c = (2, 0, fun _ => 0) := if_pos h
theorem so_ci_c (h : I (t + 10) (Int.toNat c) = 1) (h0 : 0 ≤ c) : so_ci I t c = (1, I (t + 9) (Int.toNat (I (t + 10) (Int.toNat (c + 1)))), fun _ => 0) := by
  unfold so_ci so_cx
  rw [if_neg (show ¬ I (t + 10) (Int.toNat c) = 2 by omega), if_pos h, show Int.toNat c + 1 = Int.toNat (c + 1) from by omega]
theorem so_ci_l (h : ¬ I (t + 10) (Int.toNat c) = 2) (h1 : ¬ I (t + 10) (Int.toNat c) = 1) (h0 : 0 ≤ c) : so_ci I t c = (0, I (t + 10) (Int.toNat (c + 2)), so_cut (I (t + 10) (Int.toNat (c + 2))) (fun i => I 20 (Int.toNat (I (t + 10) (Int.toNat (c + 1)) + i)))) := by
  unfold so_ci so_cx
  rw [if_neg h, if_neg h1, show Int.toNat c + 1 = Int.toNat (c + 1) from by omega, show Int.toNat c + 2 = Int.toNat (c + 2) from by omega]
theorem so_fits_ln (e : it = (0, m, so_cut m f)) (h : p < 0) : ∀ q, ¬ so_fits it b n p q := fun q g => by
  rw [e] at g
  rcases g with g | g | g
  · exact absurd g.1 (show ¬ (0 : Int) = 2 by decide)
  · exact absurd g.1 (show ¬ (0 : Int) = 1 by decide)
  · have := g.2.1.1
    omega
theorem so_fits_L (hL : so_L it L) (h : so_fits it b n p q) : q = p + L := by
  rcases h with h | h | h
  · have e := h.1
    rcases hL with l | l
    · have := l.1
      omega
    · have := l.1
      omega
  · have e := h.1
    rcases hL with l | l
    · have := l.2
      have := h.2.2.2
      omega
    · have := l.1
      omega
  · have e := h.1
    rcases hL with l | l
    · have := l.1
      omega
    · have := l.2
      have := h.2.2.2
      omega
theorem so_bk_f (hL : so_L it L) (hp : p ≤ n) (h : so_back it b p q) : 0 ≤ p - L ∧ so_fits it b n (p - L) p := by
  rcases h with ⟨e, _⟩ | ⟨e, h0, hb, hq⟩ | ⟨e, h1, hf, hq⟩
  · rcases hL with l | l
    · have := l.1
      omega
    · have := l.1
      omega
  · rcases hL with l | l
    · have l2 := l.2
      subst l2
      exact ⟨by omega, Or.inr (Or.inl ⟨e, ⟨by omega, by omega⟩, hb, by omega⟩)⟩
    · have := l.1
      omega
  · rcases hL with l | l
    · have := l.1
      omega
    · have l2 := l.2
      subst l2
      exact ⟨by omega, Or.inr (Or.inr ⟨e, ⟨by omega, by omega⟩, hf, by omega⟩)⟩
theorem so_f_bk (hL : so_L it L) (hp : 0 ≤ p - L) (h : so_fits it b n (p - L) q) : so_back it b p (p - L) := by
  rcases h with ⟨e, _⟩ | ⟨e, h0, hb, _⟩ | ⟨e, h0, hf, _⟩
  · rcases hL with l | l
    · have := l.1
      omega
    · have := l.1
      omega
  · rcases hL with l | l
    · have l2 := l.2
      subst l2
      exact Or.inr (Or.inl ⟨e, by omega, hb, rfl⟩)
    · have := l.1
      omega
  · rcases hL with l | l
    · have := l.1
      omega
    · have l2 := l.2
      subst l2
      exact Or.inr (Or.inr ⟨e, by omega, hf, rfl⟩)
theorem so_lf_y (hL : so_L (R j) L) (h : so_End (R j) w n (p - L) z) (hz : z = p - L + L) (hp : 0 ≤ p - L) (h0 : 0 ≤ L) : so_left R w (j + 1) p ↔ so_left R w j (p - L) := so_left_y (so_f_bk hL hp (h.resolve_right (fun g => by have := g.1; omega)).2)
theorem so_lf_n (hL : so_L (R j) L) (hp : p ≤ n) (h : p - L < 0 ∨ (so_End (R j) w n (p - L) z ∧ ¬ z = p - L + L)) : ¬ so_left R w (j + 1) p := so_left_x (fun q g => by
  obtain ⟨x, g1⟩ := so_bk_f hL hp g
  rcases h with h | ⟨h, hz⟩
  · omega
  · rcases h with ⟨_, h⟩ | ⟨_, h⟩
    · have := so_fits_u h g1
      omega
    · exact h p g1)
theorem so_back_e' {w : Int → Int} (e : it = (2, 0, fun _ => 0)) (h : p = 0) : so_back it w p p := by
  rw [e]
  exact Or.inl ⟨rfl, h, h⟩
theorem so_rc_it (ha : a = 25 * r) (hr : 0 ≤ r) (d k : Nat) : so_cx (I (t + 9)) (I 20) (fun k => I (t + 10) (Int.toNat (25 * r) + k)) (d + 3 * k) = so_ci I t (a + (d : Int) + 3 * (k : Int)) := by
  have e : Int.toNat (a + (d : Int) + 3 * (k : Int)) = Int.toNat (25 * r) + (d + 3 * k) := by omega
  exact (show so_cx (I (t + 9)) (I 20) (fun k => I (t + 10) (Int.toNat (25 * r) + k)) (d + 3 * k) = so_cx (I (t + 9)) (I 20) (I (t + 10)) (Int.toNat (25 * r) + (d + 3 * k)) from rfl).trans (congrArg (so_cx (I (t + 9)) (I 20) (I (t + 10))) e.symm)
theorem so_rc_1 (ha : a = 25 * r) (hr : 0 ≤ r) : (so_rc I t r).1 = so_ci I t a := by
  have h := so_rc_it (I := I) (t := t) ha hr 0 0
  rw [show a + ((0 : Nat) : Int) + 3 * ((0 : Nat) : Int) = a from by omega] at h
  exact h
theorem so_rc_r (ha : a = 25 * r) (hr : 0 ≤ r) : (so_rc I t r).2.1 = (I (t + 10) (Int.toNat (a + 4)), so_cut (I (t + 10) (Int.toNat (a + 4))) (fun i => I 20 (Int.toNat (I (t + 10) (Int.toNat (a + 3)) + i)))) := by
  show (I (t + 10) (Int.toNat (25 * r) + 4), so_cut (I (t + 10) (Int.toNat (25 * r) + 4)) (fun i => I 20 (Int.toNat (I (t + 10) (Int.toNat (25 * r) + 3) + i)))) = _
  rw [show Int.toNat (25 * r) + 4 = Int.toNat (a + 4) from by omega, show Int.toNat (25 * r) + 3 = Int.toNat (a + 3) from by omega]
/-- a RULE hits: its LHS, its right side, its left side -/
theorem so_rc_hit (ha : a = 25 * r) (hr : 0 ≤ r) : so_hit (so_rc I t r) b N w m p q ↔ so_fits (so_ci I t a) b N p q ∧ (∃ e, so_right (fun k : Nat => so_ci I t (a + 16 + 3 * (k : Int))) b N (Int.toNat (I (t + 10) (Int.toNat (a + 6)))) q e) ∧ so_left (fun k : Nat => so_ci I t (a + 7 + 3 * (k : Int))) w (Int.toNat (I (t + 10) (Int.toNat (a + 5)))) m := by
  have eR : (fun k : Nat => so_cx (I (t + 9)) (I 20) (fun k => I (t + 10) (Int.toNat (25 * r) + k)) (16 + 3 * k)) = (fun k : Nat => so_ci I t (a + 16 + 3 * (k : Int))) := funext fun k => so_rc_it ha hr 16 k
  have eL : (fun k : Nat => so_cx (I (t + 9)) (I 20) (fun k => I (t + 10) (Int.toNat (25 * r) + k)) (7 + 3 * k)) = (fun k : Nat => so_ci I t (a + 7 + 3 * (k : Int))) := funext fun k => so_rc_it ha hr 7 k
  show so_fits (so_rc I t r).1 b N p q ∧ (∃ e, so_right (so_ct (Int.toNat (I (t + 10) (Int.toNat (25 * r) + 6))) (fun k : Nat => so_cx (I (t + 9)) (I 20) (fun k => I (t + 10) (Int.toNat (25 * r) + k)) (16 + 3 * k))) b N (Int.toNat (I (t + 10) (Int.toNat (25 * r) + 6))) q e) ∧ so_left (so_ct (Int.toNat (I (t + 10) (Int.toNat (25 * r) + 5))) (fun k : Nat => so_cx (I (t + 9)) (I 20) (fun k => I (t + 10) (Int.toNat (25 * r) + k)) (7 + 3 * k))) w (Int.toNat (I (t + 10) (Int.toNat (25 * r) + 5))) m ↔ _
  rw [so_rc_1 ha hr, eR, eL, show Int.toNat (25 * r) + 6 = Int.toNat (a + 6) from by omega, show Int.toNat (25 * r) + 5 = Int.toNat (a + 5) from by omega]
  exact and_congr Iff.rfl (and_congr (exists_congr fun e => so_right_ct (Nat.le_refl _)) (so_left_ct (Nat.le_refl _)))
/-- k letters more are laid down at once -/
theorem so_app_c {g gₚ : Nat → Int} (hm : 0 ≤ m) (hk : 0 ≤ k) (ps : ∀ j : Nat, ¬ (Int.toNat m ≤ j ∧ j < Int.toNat m + Int.toNat k) → gₚ j = g j) (qs : ∀ j : Nat, j < Int.toNat k → gₚ (Int.toNat m + j) = f (j : Int)) : so_b (m + k) gₚ = so_app (so_b m g) m k f := funext fun i => by
  show (if 0 ≤ i ∧ i < m + k then gₚ (Int.toNat i) else 0) = (if m ≤ i ∧ i < m + k then f (i - m) else (if 0 ≤ i ∧ i < m then g (Int.toNat i) else 0))
  by_cases c1 : m ≤ i ∧ i < m + k
  · rw [if_pos (show 0 ≤ i ∧ i < m + k by omega), if_pos c1]
    have h := qs (Int.toNat (i - m)) (by omega)
    rw [show Int.toNat m + Int.toNat (i - m) = Int.toNat i from by omega, show ((Int.toNat (i - m) : Nat) : Int) = i - m from by omega] at h
    exact h
  · rw [if_neg c1]
    by_cases c2 : 0 ≤ i ∧ i < m
    · rw [if_pos (show 0 ≤ i ∧ i < m + k by omega), if_pos c2]
      exact ps _ (by omega)
    · rw [if_neg (show ¬ (0 ≤ i ∧ i < m + k) by omega), if_neg c2]
theorem so_L_1 (h : I (t + 10) (Int.toNat c) = 1) (h0 : 0 ≤ c) : so_L (so_ci I t c) 1 := by
  rw [so_ci_c h h0]
  exact Or.inl ⟨rfl, rfl⟩
theorem so_L_l (h2 : ¬ I (t + 10) (Int.toNat c) = 2) (h : ¬ I (t + 10) (Int.toNat c) = 1) (h0 : 0 ≤ c) : so_L (so_ci I t c) (I (t + 10) (Int.toNat (c + 2))) := by
  rw [so_ci_l h2 h h0]
  exact Or.inr ⟨rfl, rfl⟩
theorem so_lh_2 (hl : so_lh (so_rc I t r)) (ha : a = 25 * r) (hr : 0 ≤ r) : ¬ I (t + 10) (Int.toNat a) = 2 := fun h => by
  unfold so_lh at hl
  rw [so_rc_1 ha hr, so_ci_b h] at hl
  rcases hl with l | l
  · exact absurd l (show ¬ (2 : Int) = 1 by decide)
  · exact absurd l.1 (show ¬ (2 : Int) = 0 by decide)
theorem so_L_lh (hl : so_lh (so_rc I t r)) (ha : a = 25 * r) (hr : 0 ≤ r) (h : so_L (so_ci I t a) L) : 1 ≤ L := by
  unfold so_lh at hl
  rw [so_rc_1 ha hr] at hl
  rcases h with h | h
  · have := h.2
    omega
  · rcases hl with l | l
    · have := h.1
      omega
    · have := h.2
      have := l.2
      omega
end CI
/-! the two buffers -/
def so_Fr (I : gr_I) (p : Nat) (Iₚ : gr_I) : Prop := ∀ q j : Nat, ¬ q = so_fb I p 7 → Iₚ q j = I q j
def so_onc (I : gr_I) (t p : Nat) (r N v m : Int) : Prop := so_on (so_rc I t r) (so_b N (I (so_fb I p 6))) N v m (so_b m (I (so_fb I p 7)))
def so_hic (I : gr_I) (t p : Nat) (r N v m q : Int) : Prop := so_hit (so_rc I t r) (so_b N (I (so_fb I p 6))) N (so_b m (I (so_fb I p 7))) m v q
def so_one (I : gr_I) (t p : Nat) (r N : Int) (Iₚ : gr_I) (z : Int) : Prop := so_Fr I p Iₚ ∧ ∃ fin : Int → Int, (∃ f, so_res (so_rc I t r) (so_b N (I (so_fb I p 6))) N f 0 0 (fun _ => 0) z fin) ∧ (0 ≤ z → so_b z (Iₚ (so_fb I p 7)) = fin)
/-- RULES that hold letters to the left of the arrow -/
def so_lhs (I : gr_I) (t : Nat) : Prop := ∀ r : Int, 0 ≤ r → r < I t 6 → so_lh (so_rc I t r)
section FB
variable {I Iₚ I2 I3 : gr_I} {t p : Nat} {a r N v m q L z : Int} {w : Int → Int}
theorem so_Fr_rf : so_Fr I p I := fun _ _ _ => rfl
theorem so_fb_7 (F : so_Fr I p Iₚ) (d : Nat) : so_fb Iₚ p d = so_fb I p d := by
  unfold so_fb
  rw [F p d (by unfold so_fb; omega)]
theorem so_Fr_tr (F : so_Fr I p I2) (G : so_Fr I2 p I3) : so_Fr I p I3 := fun q j h => (G q j (by rw [so_fb_7 F]; exact h)).trans (F q j h)
theorem so_rc_eq (h9 : ∀ k, Iₚ (t + 9) k = I (t + 9) k) (h10 : ∀ k, Iₚ (t + 10) k = I (t + 10) k) (h20 : ∀ k, Iₚ 20 k = I 20 k) : so_rc Iₚ t r = so_rc I t r := by
  unfold so_rc
  rw [show Iₚ (t + 9) = I (t + 9) from funext h9, show Iₚ (t + 10) = I (t + 10) from funext h10, show Iₚ 20 = I 20 from funext h20]
theorem so_ci_eq {c : Int} (h9 : ∀ k, Iₚ (t + 9) k = I (t + 9) k) (h10 : ∀ k, Iₚ (t + 10) k = I (t + 10) k) (h20 : ∀ k, Iₚ 20 k = I 20 k) : so_ci Iₚ t c = so_ci I t c := by
  unfold so_ci
  rw [show Iₚ (t + 9) = I (t + 9) from funext h9, show Iₚ (t + 10) = I (t + 10) from funext h10, show Iₚ 20 = I 20 from funext h20]
theorem so_Fr_rc (F : so_Fr I p Iₚ) (ht : p = t + 17) (h4 : 144 ≤ t) : so_rc Iₚ t r = so_rc I t r := so_rc_eq (fun k => F _ k (by unfold so_fb; omega)) (fun k => F _ k (by unfold so_fb; omega)) (fun k => F _ k (by unfold so_fb; omega))
theorem so_fb_ne (hne : ¬ I p 6 = I p 7) (h6 : 0 ≤ I p 6 ∧ I p 6 ≤ 1) (h7 : 0 ≤ I p 7 ∧ I p 7 ≤ 1) : ¬ so_fb I p 6 = so_fb I p 7 := by
  unfold so_fb
  omega
theorem so_onc_s (F : so_Fr I p Iₚ) (ht : p = t + 17) (h4 : 144 ≤ t) (hne : ¬ so_fb I p 6 = so_fb I p 7) (h : so_on (so_rc I t r) (so_b N (I (so_fb I p 6))) N v m w) (e : so_b m (Iₚ (so_fb I p 7)) = w) : so_onc Iₚ t p r N v m := by
  unfold so_onc
  rw [so_Fr_rc F ht h4, so_fb_7 F, so_fb_7 F, show Iₚ (so_fb I p 6) = I (so_fb I p 6) from funext fun j => F _ j hne, e]
  exact h
theorem so_one_x {fin : Int → Int} (F : so_Fr I p Iₚ) (ht : p = t + 17) (h4 : 144 ≤ t) (hne : ¬ so_fb I p 6 = so_fb I p 7) (h : ∃ f, so_res (so_rc Iₚ t r) (so_b N (Iₚ (so_fb Iₚ p 6))) N f 0 0 (fun _ => 0) (-1) fin) : so_one I t p r N Iₚ (-1) := by
  rw [so_Fr_rc F ht h4, so_fb_7 F, show Iₚ (so_fb I p 6) = I (so_fb I p 6) from funext fun j => F _ j hne] at h
  exact ⟨F, fin, h, fun g => absurd g (by first | exact gz_ne rfl | decide)⟩
theorem so_one_e (F : so_Fr I p Iₚ) (ht : p = t + 17) (h4 : 144 ≤ t) (hne : ¬ so_fb I p 6 = so_fb I p 7) (h : so_onc Iₚ t p r N v m) (hv : N ≤ v) : so_one I t p r N Iₚ m := by
  have g := so_on_e h hv
  rw [so_Fr_rc F ht h4, so_fb_7 F, so_fb_7 F, show Iₚ (so_fb I p 6) = I (so_fb I p 6) from funext fun j => F _ j hne] at g
  exact ⟨F, _, g, fun _ => rfl⟩
theorem so_hic_1 (ha : a = 25 * r) (hr : 0 ≤ r) (hL : so_L (so_ci I t a) L) (e : so_End (so_ci I t a) (so_b N (I (so_fb I p 6))) N v z) (hz : ¬ z = v + L) : ∀ q, ¬ so_hic I t p r N v m q := fun q g => by
  have g1 := ((so_rc_hit ha hr).mp g).1
  have x := so_fits_L hL g1
  rcases e with ⟨_, e⟩ | ⟨_, e⟩
  · have := so_fits_u e g1
    omega
  · exact e q g1
theorem so_hic_2 (ha : a = 25 * r) (hr : 0 ≤ r) (h : ¬ so_left (fun k : Nat => so_ci I t (a + 7 + 3 * (k : Int))) (so_b m (I (so_fb I p 7))) (Int.toNat (I (t + 10) (Int.toNat (a + 5)))) m) : ∀ q, ¬ so_hic I t p r N v m q := fun q g => h ((so_rc_hit ha hr).mp g).2.2
theorem so_hic_3 (ha : a = 25 * r) (hr : 0 ≤ r) (hL : so_L (so_ci I t a) L) (h : ∀ e, ¬ so_right (fun k : Nat => so_ci I t (a + 16 + 3 * (k : Int))) (so_b N (I (so_fb I p 6))) N (Int.toNat (I (t + 10) (Int.toNat (a + 6)))) (v + L) e) : ∀ q, ¬ so_hic I t p r N v m q := fun q g => by
  obtain ⟨g1, ⟨e, g2⟩, _⟩ := (so_rc_hit ha hr).mp g
  rw [so_fits_L hL g1] at g2
  exact h e g2
theorem so_hic_y (ha : a = 25 * r) (hr : 0 ≤ r) (e : so_End (so_ci I t a) (so_b N (I (so_fb I p 6))) N v z) (hz : z = v + L) (h0 : 0 ≤ v + L) (h : so_left (fun k : Nat => so_ci I t (a + 7 + 3 * (k : Int))) (so_b m (I (so_fb I p 7))) (Int.toNat (I (t + 10) (Int.toNat (a + 5)))) m) (h2 : ∃ e, so_right (fun k : Nat => so_ci I t (a + 16 + 3 * (k : Int))) (so_b N (I (so_fb I p 6))) N (Int.toNat (I (t + 10) (Int.toNat (a + 6)))) (v + L) e) : so_hic I t p r N v m (v + L) := by
  have g := (e.resolve_right (fun g => by have := g.1; omega)).2
  rw [hz] at g
  exact (so_rc_hit ha hr).mpr ⟨g, h2, h⟩
/-- a RULE more: the buffers are changed over -/
theorem so_sw {U : Nat → so_ru} {b0 : Int → Int} {n0 x : Int} {c : Nat} (hU : U c = so_rc I t r) (h : ∃ fin, so_all U c b0 n0 fin N ∧ (1 ≤ N → so_b N (I (so_fb I p 6)) = fin)) (hN : 1 ≤ N) (o : so_one I t p r N I2 x) (e6 : so_fb I3 p 6 = so_fb I p 7) (f : ∀ j, I3 (so_fb I p 7) j = I2 (so_fb I p 7) j) : ∃ fin, so_all U (c + 1) b0 n0 fin x ∧ (1 ≤ x → so_b x (I3 (so_fb I3 p 6)) = fin) := by
  obtain ⟨fin, h1, h2⟩ := h
  obtain ⟨_, fin', h3, h4⟩ := o
  rw [h2 hN, ← hU] at h3
  refine ⟨fin', ⟨fin, N, h1, Or.inr ⟨hN, h3⟩⟩, fun hx => ?_⟩
  rw [e6, show I3 (so_fb I p 7) = I2 (so_fb I p 7) from funext f]
  exact h4 (by omega)
theorem so_out_mk {U : Nat → so_ru} {b0 : Int → Int} {n0 : Int} {c d : Nat} {g : Nat → Int} (h : ∃ fin, so_all U c b0 n0 fin N ∧ (1 ≤ N → so_b N g = fin)) (hd : c ≤ d) (hz : c = d ∨ N < 1) (x : Int) (hx : (1 ≤ N ∧ x = N) ∨ (N < 1 ∧ x = -1)) : so_out U d b0 n0 g x x := by
  obtain ⟨fin, h1, h2⟩ := h
  refine ⟨fin, N, ?_, ?_⟩
  · rcases hz with e | e
    · rw [← e]
      exact h1
    · have h3 := so_all_low (d := d - c) h1 e
      rw [show c + (d - c) = d from by omega] at h3
      exact h3
  · rcases hx with ⟨e1, e2⟩ | ⟨e1, e2⟩
    · exact Or.inl ⟨e1, e2, e2, h2 e1⟩
    · exact Or.inr ⟨e1, e2⟩
end FB
