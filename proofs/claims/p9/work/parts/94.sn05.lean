/-! SOUND RULES, as relations alone (p8; NOT YET SEEN BY LEAN). An item is (what, n, f): 0 LETTERS (n of them, f tells them, 0 outside), 1 a CLASS (n its mask), 2 the border. -/
abbrev so_it : Type := Int × Int × (Int → Int)
/-- a row as far as n, 0 outside: so that rows alike are one function -/
def so_cut (n : Int) (r : Int → Int) (k : Int) : Int := if 0 ≤ k ∧ k < n then r k else 0
theorem so_cut_eq {n : Int} {r r' : Int → Int} (h : ∀ k, 0 ≤ k → k < n → r k = r' k) : so_cut n r = so_cut n r' := funext fun k => by
  unfold so_cut
  by_cases c : 0 ≤ k ∧ k < n
  · rw [if_pos c, if_pos c]
    exact h k c.1 c.2
  · rw [if_neg c, if_neg c]
theorem so_cut_i {n k : Int} {r : Int → Int} (h0 : 0 ≤ k) (h1 : k < n) : so_cut n r k = r k := if_pos ⟨h0, h1⟩
/-- a letter of a CLASS -/
def so_bit (m c : Int) : Int := (Int32.ofInt ((Int32.ofInt m >>> (Int32.ofInt (c - 97) &&& 31)).toInt) &&& Int32.ofInt 1).toInt
def so_fits (it : so_it) (b : Int → Int) (n p q : Int) : Prop := (it.1 = 2 ∧ p = n ∧ q = p) ∨ (it.1 = 1 ∧ (0 ≤ p ∧ p < n) ∧ so_bit it.2.1 (b p) = 1 ∧ q = p + 1) ∨ (it.1 = 0 ∧ (0 ≤ p ∧ p + it.2.1 ≤ n) ∧ (∀ i : Int, 0 ≤ i → i < it.2.1 → b (p + i) = it.2.2 i) ∧ q = p + it.2.1)
def so_back (it : so_it) (b : Int → Int) (p q : Int) : Prop := (it.1 = 2 ∧ p = 0 ∧ q = 0) ∨ (it.1 = 1 ∧ 0 < p ∧ so_bit it.2.1 (b (p - 1)) = 1 ∧ q = p - 1) ∨ (it.1 = 0 ∧ it.2.1 ≤ p ∧ (∀ i : Int, 0 ≤ i → i < it.2.1 → b (p - it.2.1 + i) = it.2.2 i) ∧ q = p - it.2.1)
/-- a rule: LHS, RHS, how many C to the left, the C, how many to the right, the C -/
abbrev so_ru : Type := so_it × (Int × (Int → Int)) × (Nat × (Nat → so_it)) × (Nat × (Nat → so_it))
def so_right (R : Nat → so_it) (b : Int → Int) (n : Int) : Nat → Int → Int → Prop
  | 0, p, q => q = p
  | m + 1, p, q => ∃ r, so_right R b n m p r ∧ so_fits (R m) b n r q
def so_left (L : Nat → so_it) (b : Int → Int) : Nat → Int → Prop
  | 0, _ => True
  | m + 1, p => ∃ q, so_back (L m) b p q ∧ so_left L b m q
theorem so_fits_u {it : so_it} {b : Int → Int} {n p q q' : Int} (h : so_fits it b n p q) (hₚ : so_fits it b n p q') : q = q' := by
  unfold so_fits at h hₚ
  rcases h with h | h | h <;> rcases hₚ with hₚ | hₚ | hₚ <;> first | omega | (have e1 := h.2.2.2; have e2 := hₚ.2.2.2; omega)
/-- the rule fits where p letters are done and m are made; LHS ends at q -/
def so_hit (u : so_ru) (b : Int → Int) (n : Int) (w : Int → Int) (m p q : Int) : Prop := so_fits u.1 b n p q ∧ (∃ e, so_right u.2.2.2.2 b n u.2.2.2.1 q e) ∧ so_left u.2.2.1.2 w u.2.2.1.1 m
theorem so_hit_u {u : so_ru} {b w : Int → Int} {n m p q q' : Int} (h : so_hit u b n w m p q) (hₚ : so_hit u b n w m p q') : q = q' := so_fits_u h.1 hₚ.1
/-- w with RHS behind its m letters, and with one letter more -/
def so_app (w : Int → Int) (m k : Int) (f : Int → Int) (i : Int) : Int := if m ≤ i ∧ i < m + k then f (i - m) else w i
/-- from p letters done and m made (w) to the end: z are made (fin), or -1 -/
def so_res (u : so_ru) (b : Int → Int) (n : Int) : Nat → Int → Int → (Int → Int) → Int → (Int → Int) → Prop
  | 0, _, _, _, _, _ => False
  | f + 1, p, m, w, z, fin => (n ≤ p ∧ z = m ∧ fin = w) ∨ (p < n ∧ ((∃ q, so_hit u b n w m p q ∧ ((24 < m + u.2.1.1 ∧ z = -1) ∨ (m + u.2.1.1 ≤ 24 ∧ so_res u b n f q (m + u.2.1.1) (so_app w m u.2.1.1 u.2.1.2) z fin))) ∨ ((∀ q, ¬ so_hit u b n w m p q) ∧ ((24 < m + 1 ∧ z = -1) ∨ (m + 1 ≤ 24 ∧ so_res u b n f (p + 1) (m + 1) (so_app w m 1 (fun _ => b p)) z fin)))))
set_option maxHeartbeats 8000000 in
/-- there is one result alone -/
theorem so_res_u {u : so_ru} {b : Int → Int} {n : Int} : ∀ {f f' : Nat} {p m : Int} {w : Int → Int} {z z' : Int} {fin fin' : Int → Int}, so_res u b n f p m w z fin → so_res u b n f' p m w z' fin' → z = z' ∧ (0 ≤ z → fin = fin')
  | 0, _, _, _, _, _, _, _, _, h, _ => h.elim
  | _ + 1, 0, _, _, _, _, _, _, _, _, h => h.elim
  | f + 1, f' + 1, p, m, w, z, z', fin, fin', h, hₚ => by
    rcases h with ⟨a, e1, e2⟩ | ⟨a, h⟩
    · rcases hₚ with ⟨a', e1', e2'⟩ | ⟨a', _⟩
      · exact ⟨e1.trans e1'.symm, fun _ => e2.trans e2'.symm⟩
      · exact absurd a (by exact gz_m 0 (by omega))
    · rcases hₚ with ⟨a', _⟩ | ⟨_, hₚ⟩
      · exact absurd a (by exact gz_m 1 (by omega))
      · rcases h with ⟨q, k, h⟩ | ⟨k, h⟩
        · rcases hₚ with ⟨q', k', hₚ⟩ | ⟨k', _⟩
          · have e := so_hit_u k k'
            subst e
            rcases h with ⟨o, e1⟩ | ⟨o, h⟩
            · rcases hₚ with ⟨_, e1'⟩ | ⟨o', _⟩
              · exact ⟨e1.trans e1'.symm, fun h0 => absurd h0 (by exact gz_m 2 (by omega))⟩
              · exact absurd o (by exact gz_m 3 (by omega))
            · rcases hₚ with ⟨o', _⟩ | ⟨_, hₚ⟩
              · exact absurd o (by exact gz_m 4 (by omega))
              · exact so_res_u h hₚ
          · exact absurd k (k' q)
        · rcases hₚ with ⟨q', k', _⟩ | ⟨_, hₚ⟩
          · exact absurd k' (k q')
          · rcases h with ⟨o, e1⟩ | ⟨o, h⟩
            · rcases hₚ with ⟨_, e1'⟩ | ⟨o', _⟩
              · exact ⟨e1.trans e1'.symm, fun h0 => absurd h0 (by exact gz_m 5 (by omega))⟩
              · exact absurd o (by exact gz_m 6 (by omega))
            · rcases hₚ with ⟨o', _⟩ | ⟨_, hₚ⟩
              · exact absurd o (by exact gz_m 7 (by omega))
              · exact so_res_u h hₚ
/-- all rules in order: n letters of b at first; z letters of fin at last, or it lacks (z < 1) -/
def so_all (U : Nat → so_ru) : Nat → (Int → Int) → Int → (Int → Int) → Int → Prop
  | 0, b, n, fin, z => fin = b ∧ z = n
  | r + 1, b, n, fin, z => ∃ b1 n1, so_all U r b n b1 n1 ∧ ((n1 < 1 ∧ z = n1 ∧ fin = b1) ∨ (1 ≤ n1 ∧ ∃ f, so_res (U r) b1 n1 f 0 0 (fun _ => 0) z fin))
set_option maxHeartbeats 8000000 in
theorem so_all_u {U : Nat → so_ru} {n : Int} (hn : 0 ≤ n) : ∀ {r : Nat} {b fin fin' : Int → Int} {z z' : Int}, so_all U r b n fin z → so_all U r b n fin' z' → z = z' ∧ (0 ≤ z → fin = fin')
  | 0, _, _, _, _, _, h, hₚ => ⟨h.2.trans hₚ.2.symm, fun _ => h.1.trans hₚ.1.symm⟩
  | r + 1, b, fin, fin', z, z', h, hₚ => by
    obtain ⟨b1, n1, a, h⟩ := h
    obtain ⟨b2, n2, a', hₚ⟩ := hₚ
    obtain ⟨e1, e2⟩ := so_all_u hn a a'
    subst e1
    rcases h with ⟨l, z1, f1⟩ | ⟨l, f, h⟩
    · rcases hₚ with ⟨_, z2, f2⟩ | ⟨l', _⟩
      · exact ⟨z1.trans z2.symm, fun h0 => by rw [f1, f2]; exact e2 (by exact gz_m 0 (by omega))⟩
      · exact absurd l (by exact gz_m 1 (by omega))
    · rcases hₚ with ⟨l', _⟩ | ⟨_, f', hₚ⟩
      · exact absurd l (by exact gz_m 2 (by omega))
      · have eb : b1 = b2 := e2 (by exact gz_m 3 (by omega))
        subst eb
        have u := so_res_u h hₚ
        exact ⟨u.1, fun h0 => u.2 h0⟩
/-! the same, of the reference's tables: rows 26 (masks of CLASSES), 27 to 30 (rules), 51 (letters), 76 (the word), 77 (what is made) -/
def so_n (x : Int) : Int := (Int32.ofInt x &&& Int32.ofInt 15).toInt
def so_o (x : Int) : Int := (Int32.ofInt x >>> (Int32.ofInt 4 &&& 31)).toInt
def so_b (n : Int) (r : Nat → Int) : Int → Int := so_cut n (fun k => r (Int.toNat k))
def so_ri (I : gr_I) (t x : Int) : so_it := if x = -2147483648 then (2, 0, fun _ => 0) else if x < 0 then (1, I 26 (Int.toNat (16 * t - 1 - x)), fun _ => 0) else (0, so_n x, so_cut (so_n x) (fun i => I 51 (Int.toNat (so_o x + i))))
section SR
variable {I : gr_I} {t x m n p q r z : Int} {b f : Int → Int} {it : so_it} {R : Nat → so_it} {j k : Nat}
theorem so_ri_e (h : x = -2147483648) : so_ri I t x = (2, 0, fun _ => 0) := if_pos h
theorem so_ri_c (h : x < 0) (h2 : ¬ x = -2147483648) : so_ri I t x = (1, I 26 (Int.toNat (16 * t - 1 - x)), fun _ => 0) := (if_neg h2).trans (if_pos h)
theorem so_ri_l (h : 0 ≤ x) : so_ri I t x = (0, so_n x, so_cut (so_n x) (fun i => I 51 (Int.toNat (so_o x + i)))) := (if_neg (show ¬ x = -2147483648 by omega)).trans (if_neg (show ¬ x < 0 by omega))
theorem so_fits_cg {A B : so_it} (h : A = B) (x : so_fits B b n p q) : so_fits A b n p q := by
  rw [h]
  exact x
theorem so_fits_cn {A B : so_it} (h : A = B) (x : ∀ q, ¬ so_fits B b n p q) : ∀ q, ¬ so_fits A b n p q := by
  rw [h]
  exact x
theorem so_back_cg {A B : so_it} (h : A = B) (x : so_back B b p q) : so_back A b p q := by
  rw [h]
  exact x
theorem so_back_cn {A B : so_it} (h : A = B) (x : ∀ q, ¬ so_back B b p q) : ∀ q, ¬ so_back A b p q := by
  rw [h]
  exact x
/-- an item stands at p over z letters, or nowhere from there -/
def so_St (it : so_it) (b : Int → Int) (n p z : Int) : Prop := (0 ≤ z ∧ so_fits it b n p (p + z)) ∨ (z < 0 ∧ ∀ q, ¬ so_fits it b n p q)
theorem so_fits_l (e : it = (0, m, so_cut m f)) (h0 : 0 ≤ p) (h1 : p + m ≤ n) (h : ∀ i, 0 ≤ i → i < m → b (p + i) = f i) : so_fits it b n p (p + m) := by
  rw [e]
  exact Or.inr (Or.inr ⟨rfl, ⟨h0, h1⟩, fun i a c => (h i a c).trans (so_cut_i a c).symm, rfl⟩)
theorem so_fits_lx (e : it = (0, m, so_cut m f)) (h : n < p + m ∨ ∃ i, (0 ≤ i ∧ i < m) ∧ ¬ b (p + i) = f i) : ∀ q, ¬ so_fits it b n p q := fun q g => by
  rw [e] at g
  rcases g with g | g | g
  · exact absurd g.1 (show ¬ (0 : Int) = 2 by decide)
  · exact absurd g.1 (show ¬ (0 : Int) = 1 by decide)
  · rcases h with h | ⟨i, hi, h⟩
    · have g1 : p + m ≤ n := g.2.1.2
      omega
    · exact h ((g.2.2.1 i hi.1 hi.2).trans (so_cut_i hi.1 hi.2))
theorem so_fits_c (e : it = (1, m, fun _ => 0)) (h0 : 0 ≤ p ∧ p < n) (h : so_bit m (b p) = 1) : so_fits it b n p (p + 1) := by
  rw [e]
  exact Or.inr (Or.inl ⟨rfl, h0, h, rfl⟩)
theorem so_fits_cx (e : it = (1, m, fun _ => 0)) (h : ¬ (0 ≤ p ∧ p < n) ∨ ¬ so_bit m (b p) = 1) : ∀ q, ¬ so_fits it b n p q := fun q g => by
  rw [e] at g
  rcases g with g | g | g
  · exact absurd g.1 (show ¬ (1 : Int) = 2 by decide)
  · exact h.elim (fun c => c g.2.1) (fun c => c g.2.2.1)
  · exact absurd g.1 (show ¬ (1 : Int) = 0 by decide)
theorem so_fits_e (e : it = (2, 0, fun _ => 0)) (h : p = n) : so_fits it b n p p := by
  rw [e]
  exact Or.inl ⟨rfl, h, rfl⟩
theorem so_fits_ex (e : it = (2, 0, fun _ => 0)) (h : ¬ p = n) : ∀ q, ¬ so_fits it b n p q := fun q g => by
  rw [e] at g
  rcases g with g | g | g
  · exact h g.2.1
  · exact absurd g.1 (show ¬ (2 : Int) = 1 by decide)
  · exact absurd g.1 (show ¬ (2 : Int) = 0 by decide)
theorem so_right_u : ∀ {j : Nat} {p q q' : Int}, so_right R b n j p q → so_right R b n j p q' → q = q'
  | 0, _, _, _, h, hₚ => h.trans hₚ.symm
  | j + 1, p, q, q', ⟨r, h1, h2⟩, ⟨r', h1', h2'⟩ => by
    have e := so_right_u h1 h1'
    subst e
    exact so_fits_u h2 h2'
theorem so_right_pre : ∀ {k : Nat} {p e : Int}, so_right R b n k p e → ∀ {j : Nat}, j ≤ k → ∃ r, so_right R b n j p r
  | 0, p, e, h, j, hj => by
    have : j = 0 := by omega
    subst this
    exact ⟨e, h⟩
  | k + 1, p, e, h, j, hj => by
    by_cases c : j = k + 1
    · subst c
      exact ⟨e, h⟩
    · obtain ⟨r, h1, _⟩ := h
      exact so_right_pre h1 (by omega)
/-- where an item does not fit there is no end -/
theorem so_right_no (h : so_right R b n j p r) (hf : ∀ q, ¬ so_fits (R j) b n r q) (hj : j < k) : ∀ e, ¬ so_right R b n k p e := fun e g => by
  obtain ⟨q, r', h1, h2⟩ := so_right_pre g (j := j + 1) (by omega)
  have u := so_right_u h h1
  subst u
  exact hf q h2
theorem so_back_u {w : Int → Int} {q' : Int} (h : so_back it w p q) (hₚ : so_back it w p q') : q = q' := by
  unfold so_back at h hₚ
  rcases h with h | h | h <;> rcases hₚ with hₚ | hₚ | hₚ <;> first | omega | (have e1 := h.2.2.2; have e2 := hₚ.2.2.2; omega)
theorem so_left_y {w : Int → Int} (h : so_back (R j) w p q) : so_left R w (j + 1) p ↔ so_left R w j q := ⟨fun g => by
    obtain ⟨r, a, c⟩ := g
    rw [so_back_u h a]
    exact c, fun g => ⟨q, h, g⟩⟩
theorem so_left_x {w : Int → Int} (h : ∀ q, ¬ so_back (R j) w p q) : ¬ so_left R w (j + 1) p := fun g => by
  obtain ⟨q, a, _⟩ := g
  exact h q a
theorem so_back_l {w : Int → Int} (e : it = (0, m, so_cut m f)) (h1 : m ≤ p) (h : ∀ i, 0 ≤ i → i < m → w (p - m + i) = f i) : so_back it w p (p - m) := by
  rw [e]
  exact Or.inr (Or.inr ⟨rfl, h1, fun i a c => (h i a c).trans (so_cut_i a c).symm, rfl⟩)
theorem so_back_lx {w : Int → Int} (e : it = (0, m, so_cut m f)) (h : p < m ∨ ∃ i, (0 ≤ i ∧ i < m) ∧ ¬ w (p - m + i) = f i) : ∀ q, ¬ so_back it w p q := fun q g => by
  rw [e] at g
  rcases g with g | g | g
  · exact absurd g.1 (show ¬ (0 : Int) = 2 by decide)
  · exact absurd g.1 (show ¬ (0 : Int) = 1 by decide)
  · rcases h with h | ⟨i, hi, h⟩
    · have g1 : m ≤ p := g.2.1
      omega
    · exact h ((g.2.2.1 i hi.1 hi.2).trans (so_cut_i hi.1 hi.2))
theorem so_back_c {w : Int → Int} (e : it = (1, m, fun _ => 0)) (h0 : 0 < p) (h : so_bit m (w (p - 1)) = 1) : so_back it w p (p - 1) := by
  rw [e]
  exact Or.inr (Or.inl ⟨rfl, h0, h, rfl⟩)
theorem so_back_cx {w : Int → Int} (e : it = (1, m, fun _ => 0)) (h : ¬ 0 < p ∨ ¬ so_bit m (w (p - 1)) = 1) : ∀ q, ¬ so_back it w p q := fun q g => by
  rw [e] at g
  rcases g with g | g | g
  · exact absurd g.1 (show ¬ (1 : Int) = 2 by decide)
  · exact h.elim (fun c => c g.2.1) (fun c => c g.2.2.1)
  · exact absurd g.1 (show ¬ (1 : Int) = 0 by decide)
theorem so_back_e {w : Int → Int} (e : it = (2, 0, fun _ => 0)) (h : p = 0) : so_back it w p 0 := by
  rw [e]
  exact Or.inl ⟨rfl, h, rfl⟩
theorem so_back_ex {w : Int → Int} (e : it = (2, 0, fun _ => 0)) (h : ¬ p = 0) : ∀ q, ¬ so_back it w p q := fun q g => by
  rw [e] at g
  rcases g with g | g | g
  · exact h g.2.1
  · exact absurd g.1 (show ¬ (2 : Int) = 1 by decide)
  · exact absurd g.1 (show ¬ (2 : Int) = 0 by decide)
/-- how many items are left to look at, from slot j on down -/
def so_J (j n : Int) : Nat := Int.toNat (if j + 1 < n then j + 1 else n)
theorem so_J_s {j n : Int} (h0 : 0 ≤ j) (h : j < n) : so_J j n = Int.toNat j + 1 ∧ so_J (j - 1) n = Int.toNat j := by
  unfold so_J
  constructor
  · by_cases c : j + 1 < n
    · rw [if_pos c]
      omega
    · rw [if_neg c]
      omega
  · rw [if_pos (show j - 1 + 1 < n by omega)]
    omega
theorem so_J_n {j n : Int} (h : n ≤ j) : so_J j n = Int.toNat n ∧ so_J (j - 1) n = Int.toNat n := by
  unfold so_J
  constructor
  · rw [if_neg (show ¬ j + 1 < n by omega)]
  · rw [if_neg (show ¬ j - 1 + 1 < n by omega)]
end SR
/-! SOUND RULES and CLASSES with what they hold, the reference's side (p8). LETTERS that are kept stay, further ones come behind them. -/
def gr_LKs (I Iₚ : gr_I) : Prop := I 0 59 ≤ Iₚ 0 59 ∧ ∀ j : Nat, (j : Int) < I 0 59 → Iₚ 51 j = I 51 j
section LK
variable {I0 I Iₚ : gr_I}
theorem gr_LKs_rf : gr_LKs I I := ⟨Int.le_refl _, fun _ _ => rfl⟩
theorem gr_LKs_tr (h : gr_LKs I0 I) (hₚ : gr_LKs I Iₚ) : gr_LKs I0 Iₚ := ⟨Int.le_trans h.1 hₚ.1, fun j hj => (hₚ.2 j (Int.lt_of_lt_of_le hj h.1)).trans (h.2 j hj)⟩
theorem gr_LKs_fr (h : gr_LKs I0 I) (h1 : ∀ k, Iₚ 51 k = I 51 k) (h2 : Iₚ 0 59 = I 0 59) : gr_LKs I0 Iₚ := ⟨by rw [h2]; exact h.1, fun j hj => (h1 j).trans (h.2 j hj)⟩
theorem gr_LKs_n (h : gr_LKs I0 I) (p : ∀ b j, ¬ (b = 0 ∧ j = 59) → Iₚ b j = I b j) (hz : I 0 59 ≤ Iₚ 0 59) : gr_LKs I0 Iₚ := ⟨Int.le_trans h.1 hz, fun j hj => (p 51 j (fun q => absurd q.1 (by first | exact gz_ne rfl | decide))).trans (h.2 j hj)⟩
theorem gr_LKs_s {k : Nat} (h : gr_LKs I0 I) (p : ∀ b j, ¬ (b = 51 ∧ j = k) → Iₚ b j = I b j) (hz : I0 0 59 ≤ (k : Int)) : gr_LKs I0 Iₚ := ⟨by rw [p 0 59 (fun q => absurd q.1 (by first | exact gz_ne rfl | decide))]; exact h.1, fun j hj => (p 51 j (fun q => by have := q.2; omega)).trans (h.2 j hj)⟩
end LK
/-- the LETTERS at hand came behind those that were there -/
def gs_kl (I Iₚ : gr_I) : Prop := ∀ i : Int, 0 ≤ i → i < I 0 73 - I 0 72 - 2 → Iₚ 51 (Int.toNat (I 0 59 + i)) = I 57 (Int.toNat (I 0 72 + 1 + i))
/-- a thing of a RULE, decoded: M the masks, Λ the letters -/
def so_rx (M Λ : Nat → Int) (t x : Int) : so_it := if x = -2147483648 then (2, 0, fun _ => 0) else if x < 0 then (1, M (Int.toNat (16 * t - 1 - x)), fun _ => 0) else (0, so_n x, so_cut (so_n x) (fun i => Λ (Int.toNat (so_o x + i))))
/-- it is among c CLASSES and n letters -/
def so_okx (c n x : Int) : Prop := x = -2147483648 ∨ (x < 0 ∧ -1 - x < c) ∨ ((0 ≤ x ∧ x ≤ 65535) ∧ x / 16 + x % 16 ≤ n)
theorem so_nv {x : Int} (h : 0 ≤ x ∧ x ≤ 65535) : so_n x = x % 16 := gw_a15 h
theorem so_ov {x : Int} (h : 0 ≤ x ∧ x ≤ 65535) : so_o x = x / 16 := gw_sr (y := 4) (k := 16) (c := 4) h (by decide) (by decide)
def gs_itx (I0 I : gr_I) (t x : Int) (v : so_it) : Prop := so_rx (I0 26) (I 51) t x = v ∧ so_okx (I0 15 (Int.toNat t)) (I 0 59) x
section IT
variable {β : Int → Int} {N p q : Int} {I0 I I1 I2 I3 Iₚ : gr_I} {J J1 : gr_J} {t x L n A : Int} {v : so_it}
theorem so_rx_kp {M M' Λ Λ' : Nat → Int} {c : Int} (h : so_okx c n x) (lm : ∀ k : Int, 0 ≤ k → k < c → M' (Int.toNat (16 * t + k)) = M (Int.toNat (16 * t + k))) (l : ∀ j : Nat, (j : Int) < n → Λ' j = Λ j) : so_rx M' Λ' t x = so_rx M Λ t x := by
  unfold so_rx
  by_cases c1 : x = -2147483648
  · rw [if_pos c1, if_pos c1]
  · rw [if_neg c1, if_neg c1]
    by_cases d : x < 0
    · have o := (h.resolve_left c1).resolve_right (fun q => by have := q.1; omega)
      have e := lm (-1 - x) (by omega) o.2
      rw [show 16 * t + (-1 - x) = 16 * t - 1 - x from by omega] at e
      rw [if_pos d, if_pos d, e]
    · rw [if_neg d, if_neg d]
      have o := (h.resolve_left c1).resolve_left (fun q => d q.1)
      rw [so_nv o.1, so_ov o.1]
      exact congrArg (fun f => ((0 : Int), x % 16, f)) (so_cut_eq (n := x % 16) (r := fun k => Λ' (Int.toNat (x / 16 + k))) (r' := fun k => Λ (Int.toNat (x / 16 + k))) (fun k a b => l _ (by have := o.2; omega)))
theorem gs_itx_kp (h : gs_itx I0 I t x v) (l : gr_LKs I Iₚ) : gs_itx I0 Iₚ t x v := by
  refine ⟨(so_rx_kp h.2 (fun _ _ _ => rfl) l.2).trans h.1, ?_⟩
  rcases h.2 with c | c | c
  · exact Or.inl c
  · exact Or.inr (Or.inl c)
  · exact Or.inr (Or.inr ⟨c.1, by have := l.1; omega⟩)
theorem gs_itx_n (h : gs_itx I0 I t x v) : ¬ x = 2147483647 := by
  rcases h.2 with c | c | c <;> omega
/-- a token's LETTERS, a token as a thing of a RULE -/
def gs_tl (β : Int → Int) (N p : Int) : Int × (Int → Int) := (gs_X β N p - gs_A β N p - 2, so_cut (gs_X β N p - gs_A β N p - 2) (fun i => β (gs_A β N p + 1 + i)))
def gs_ti (β : Int → Int) (N : Int) (I : gr_I) (J : gr_J) (p : Int) : so_it := if gs_T β N p = 3 then (0, gs_tl β N p) else if gs_T β N p = 1 then (1, I 26 (Int.toNat (16 * I 0 6 + gs_lt J 22 (16 * I 0 6) (I 15 (Int.toNat (I 0 6))) (gs_rn β N p))), fun _ => 0) else (2, 0, fun _ => 0)
theorem gs_ti_3 (h : gs_T β N p = 3) : gs_ti β N I J p = (0, gs_tl β N p) := if_pos h
theorem gs_ti_1 (h : gs_T β N p = 1) : gs_ti β N I J p = (1, I 26 (Int.toNat (16 * I 0 6 + gs_lt J 22 (16 * I 0 6) (I 15 (Int.toNat (I 0 6))) (gs_rn β N p))), fun _ => 0) := (if_neg (show ¬ gs_T β N p = 3 by omega)).trans (if_pos h)
theorem gs_ti_2 (h : ¬ gs_T β N p = 3) (hₚ : ¬ gs_T β N p = 1) : gs_ti β N I J p = (2, 0, fun _ => 0) := (if_neg h).trans (if_neg hₚ)
theorem gs_itx_l {f : Int → Int} (hx : x = 16 * L + n) (h0 : 0 ≤ L) (h1 : 0 ≤ n ∧ n ≤ 15) (h2 : x ≤ 65535) (hl : L + n ≤ Iₚ 0 59) (hb : ∀ i, 0 ≤ i → i < n → Iₚ 51 (Int.toNat (L + i)) = f i) : gs_itx I0 Iₚ t x (0, n, so_cut n f) := by
  have hr : 0 ≤ x ∧ x ≤ 65535 := ⟨by omega, h2⟩
  have e1 : so_n x = n := (so_nv hr).trans (by omega)
  have e2 : so_o x = L := (so_ov hr).trans (by omega)
  refine ⟨?_, Or.inr (Or.inr ⟨hr, by omega⟩)⟩
  unfold so_rx
  rw [if_neg (by omega), if_neg (by omega), e1, e2]
  exact congrArg (fun f => ((0 : Int), n, f)) (so_cut_eq hb)
theorem gs_itx_tl (A0 : gr_ATp β N p I J) (hT : I 0 73 ≤ I 0 69) (hr : 2 ≤ I 0 73 - I 0 72 ∧ I 0 73 - I 0 72 ≤ 14) (h7 : 0 ≤ I 0 72) (k : gs_kl I I1) (hx : x = 16 * I 0 59 + (I 0 73 - I 0 72 - 2)) (h5 : 0 ≤ I 0 59) (h6 : x ≤ 65535) (l1 : I1 0 59 = I 0 59 + (I 0 73 - I 0 72 - 2)) (e51 : ∀ j, Iₚ 51 j = I1 51 j) (e59 : Iₚ 0 59 = I1 0 59) : gs_itx I0 Iₚ t x (0, gs_tl β N p) := by
  obtain ⟨g1, g2⟩ := gr_ATp_l A0
  have gN := A0.1.2
  refine gs_itx_l (L := I 0 59) (n := gs_X β N p - gs_A β N p - 2) (by omega) h5 (by omega) h6 (by omega) (fun i a b => ?_)
  rw [e51, k i a (by omega), gs_TX_i A0.1.1 (k := gs_A β N p + 1 + i) (by omega) (by omega), g1]
theorem gs_itx_c {c : Int} (hc : 0 ≤ c ∧ c < I0 15 (Int.toNat t)) (hx : x = -1 - c) (hb : I0 15 (Int.toNat t) ≤ 16) : gs_itx I0 Iₚ t x (1, I0 26 (Int.toNat (16 * t + c)), fun _ => 0) := by
  refine ⟨?_, Or.inr (Or.inl ⟨by omega, by omega⟩)⟩
  unfold so_rx
  rw [if_neg (by omega), if_pos (by omega), show 16 * t - 1 - x = 16 * t + c from by omega]
theorem gs_itx_e (hx : x = -2147483648) : gs_itx I0 Iₚ t x (2, 0, fun _ => 0) := ⟨if_pos hx, Or.inl hx⟩
theorem gs_itx_s (h : gs_itx I0 I t x v) (e51 : ∀ j, Iₚ 51 j = I 51 j) (e59 : Iₚ 0 59 = I 0 59) : gs_itx I0 Iₚ t x v := gs_itx_kp h (gr_LKs_fr gr_LKs_rf e51 e59)
theorem gs_itx_x {y : Int} (h : gs_itx I0 I t x v) (e : y = x) : gs_itx I0 I t y v := by
  rw [e]
  exact h
/-- what context() leaves in 'what' -/
def gs_cx (β : Int → Int) (N : Int) (I : gr_I) (J : gr_J) (p : Int) (Iₚ : gr_I) : Prop := gs_itx I Iₚ (I 0 6) (Iₚ 0 104) (gs_ti β N I J p)
theorem gs_ti_eq (h6 : I1 0 6 = I 0 6) (h15 : ∀ k, I1 15 k = I 15 k) (h22 : ∀ k, J1 22 k = J 22 k) (h26 : ∀ k, I1 26 k = I 26 k) : gs_ti β N I1 J1 p = gs_ti β N I J p := by
  unfold gs_ti
  rw [h26, h15, h6, show gs_lt J1 22 (16 * I 0 6) (I 15 (Int.toNat (I 0 6))) (gs_rn β N p) = gs_lt J 22 (16 * I 0 6) (I 15 (Int.toNat (I 0 6))) (gs_rn β N p) from gs_lt_eq h22 rfl rfl rfl]
theorem gs_itx_eq (h : gs_itx I1 Iₚ t x v) (h15 : ∀ k, I1 15 k = I 15 k) (h26 : ∀ k, I1 26 k = I 26 k) : gs_itx I Iₚ t x v := by
  have e : I1 26 = I 26 := funext h26
  unfold gs_itx at h ⊢
  rw [e, h15] at h
  exact h
theorem gs_cx_eq (h6 : I1 0 6 = I 0 6) (h15 : ∀ k, I1 15 k = I 15 k) (h22 : ∀ k, J1 22 k = J 22 k) (h26 : ∀ k, I1 26 k = I 26 k) (h : gs_cx β N I1 J1 p Iₚ) : gs_cx β N I J p Iₚ := by
  unfold gs_cx at h ⊢
  rw [h6, gs_ti_eq h6 h15 h22 h26] at h
  exact gs_itx_eq h h15 h26
theorem gs_sk_b : ∀ (f : Nat) (k : Int), k ≤ gs_sk β N f k
  | 0, k => Int.le_refl k
  | f + 1, k => by
    show k ≤ if _ then _ else _
    split
    · have := gs_sk_b f (k + 1)
      omega
    · exact Int.le_refl k
theorem gs_A0 (hp : 0 ≤ p) (hN : 0 ≤ N) : 0 ≤ gs_A β N p := by
  have h : p ≤ gs_S β N p := gs_sk_b _ _
  unfold gs_A
  split <;> omega
theorem gs_need_x {c : Int} (h : 0 ≤ gs_need β N c p) (hA : 0 ≤ gs_A β N p) : gs_need β N c p = gs_X β N p := by
  unfold gs_need at h ⊢
  split at h
  · rename_i e
    exact if_pos e
  · omega
theorem gs_ctx_x {b : Int} (h : 0 ≤ gs_ctx β N I J b p) (hA : 0 ≤ gs_A β N p) : gs_ctx β N I J b p = gs_X β N p := by
  unfold gs_ctx at h ⊢
  by_cases c3 : gs_T β N p = 3
  · rw [if_pos c3]
  · rw [if_neg c3] at h ⊢
    by_cases c1 : gs_T β N p = 1
    · rw [if_pos c1] at h ⊢
      split at h
      · omega
      · rename_i e
        exact if_neg e
    · rw [if_neg c1] at h ⊢
      by_cases cb : b = 0
      · rw [if_pos cb] at h
        omega
      · rw [if_neg cb] at h ⊢
        split at h
        · rename_i e
          exact if_pos e
        · omega
/-- LETTERS as a mask -/
def gs_mb (m c : Int) : Int := (Int32.ofInt m ||| Int32.ofInt (((Int32.ofInt 1 <<< (Int32.ofInt (c - 97) &&& 31)).toInt))).toInt
def gs_ms (β : Int → Int) (A : Int) : Nat → Int
  | 0 => 0
  | k + 1 => gs_mb (gs_ms β A k) (β (A + 1 + (k : Int)))
theorem gs_ms_s {m k b : Int} (h : m = gs_ms β A (Int.toNat k)) (hk : 0 ≤ k) (hb : b = β (A + 1 + k)) : gs_mb m b = gs_ms β A (Int.toNat (k + 1)) := by
  rw [show Int.toNat (k + 1) = Int.toNat k + 1 from by omega, h, hb]
  show _ = gs_mb (gs_ms β A (Int.toNat k)) (β (A + 1 + ((Int.toNat k : Nat) : Int)))
  rw [show ((Int.toNat k : Nat) : Int) = k from by omega]
theorem gs_aty8 (A0 : gr_ATp β N p I J) {i : Int} (h0 : 0 ≤ I 0 72 + 1 + i) (h1 : I 0 72 + 1 + i < I 0 69) : I 57 (Int.toNat (I 0 72 + 1 + i)) = β (gs_A β N p + 1 + i) := by
  have g1 := (gr_ATp_l A0).1
  have gN := A0.1.2
  rw [gs_TX_i A0.1.1 (k := gs_A β N p + 1 + i) (by omega) (by omega), g1]
/-- what lettersOf() leaves -/
def gs_Uml (β : Int → Int) (N : Int) (I : gr_I) (p : Int) (Iₚ : gr_I) : Prop := Iₚ 26 (Int.toNat (16 * I 0 6 + I 15 (Int.toNat (I 0 6)))) = gs_ms β (gs_A β N (gs_X β N (gs_X β N p))) (Int.toNat (gs_X β N (gs_X β N (gs_X β N p)) - gs_A β N (gs_X β N (gs_X β N p)) - 2)) ∧ ∀ j : Nat, ¬ j = Int.toNat (16 * I 0 6 + I 15 (Int.toNat (I 0 6))) → Iₚ 26 j = I 26 j
theorem gs_Uml_mk {m k : Int} {c : Nat} (hm : m = gs_ms β (gs_A β N q) (Int.toNat k)) (hq : q = gs_X β N (gs_X β N p)) (hk : k = gs_X β N q - gs_A β N q - 2) (hc : c = Int.toNat (16 * I 0 6 + I 15 (Int.toNat (I 0 6)))) (qm : Iₚ 26 c = m) (o : ∀ j : Nat, ¬ j = c → Iₚ 26 j = I 26 j) : gs_Uml β N I p Iₚ := by
  subst hc hq hk
  exact ⟨qm.trans hm, o⟩
/-- a side's things: how many, where the k-th stands -/
def gs_sn (β : Int → Int) (N : Int) : Nat → Int → Nat
  | 0, _ => 0
  | m + 1, q => if gs_T β N q = 3 ∨ gs_T β N q = 1 ∨ gs_T β N q = 35 then gs_sn β N m (gs_X β N q) + 1 else 0
def gs_sp (β : Int → Int) (N : Int) : Nat → Int → Int
  | 0, q => q
  | k + 1, q => gs_X β N (gs_sp β N k q)
theorem gs_sp_s : ∀ (k : Nat) (q : Int), gs_sp β N k (gs_X β N q) = gs_sp β N (k + 1) q
  | 0, _ => rfl
  | k + 1, q => congrArg (gs_X β N) (gs_sp_s k q)
theorem gs_sn_e {m : Nat} (h : ¬ (gs_T β N q = 3 ∨ gs_T β N q = 1 ∨ gs_T β N q = 35)) : gs_sn β N m q = 0 := by
  cases m with
  | zero => rfl
  | succ m => exact if_neg h
theorem gs_sn_3 : ∀ (m : Nat) (q : Int), gs_sn β N m q ≤ m
  | 0, _ => Nat.le_refl 0
  | m + 1, q => by
    show (if _ then _ else _) ≤ _
    split
    · exact Nat.succ_le_succ (gs_sn_3 m _)
    · exact Nat.zero_le _
def so_ct (n : Nat) (L : Nat → so_it) (k : Nat) : so_it := if k < n then L k else (0, 0, fun _ => 0)
def so_cn (f : Nat → Int) : Nat := if f 0 = 2147483647 then 0 else if f 1 = 2147483647 then 1 else if f 2 = 2147483647 then 2 else 3
def so_sd (M Λ : Nat → Int) (t : Int) (f : Nat → Int) : Nat × (Nat → so_it) := (so_cn f, so_ct (so_cn f) (fun k => so_rx M Λ t (f k)))
/-- three places of a row that hold a side -/
def gs_sdx (I0 I : gr_I) (t : Int) (f : Nat → Int) (n : Nat) (v : Nat → so_it) : Prop := n ≤ 3 ∧ (∀ k, k < n → gs_itx I0 I t (f k) (v k)) ∧ ∀ k, n ≤ k → k < 3 → f k = 2147483647
theorem so_cn_e {f : Nat → Int} {m : Nat} (h3 : m ≤ 3) (h1 : ∀ k, k < m → ¬ f k = 2147483647) (h2 : ∀ k, m ≤ k → k < 3 → f k = 2147483647) : so_cn f = m := by
  unfold so_cn
  by_cases c0 : m = 0
  · rw [if_pos (h2 0 (by omega) (by decide)), c0]
  · rw [if_neg (h1 0 (by omega))]
    by_cases c1 : m = 1
    · rw [if_pos (h2 1 (by omega) (by decide)), c1]
    · rw [if_neg (h1 1 (by omega))]
      by_cases c2 : m = 2
      · rw [if_pos (h2 2 (by omega) (by decide)), c2]
      · rw [if_neg (h1 2 (by omega))]
        omega
theorem gs_sdx_cn {f : Nat → Int} {m : Nat} {w : Nat → so_it} (h : gs_sdx I0 I t f m w) : so_cn f = m := so_cn_e h.1 (fun k hk => gs_itx_n (h.2.1 k hk)) h.2.2
theorem gs_sdx_e {f : Nat → Int} {m : Nat} {w : Nat → so_it} (h : gs_sdx I0 I t f m w) : so_sd (I0 26) (I 51) t f = (m, so_ct m w) := by
  unfold so_sd
  rw [gs_sdx_cn h]
  refine congrArg (Prod.mk m) (funext fun k => ?_)
  unfold so_ct
  by_cases c : k < m
  · rw [if_pos c, if_pos c]
    exact (h.2.1 k c).1
  · rw [if_neg c, if_neg c]
theorem gs_sdx_kp {f f' : Nat → Int} {m : Nat} {w : Nat → so_it} (h : gs_sdx I0 I t f m w) (l : gr_LKs I Iₚ) (e : ∀ k, k < 3 → f' k = f k) : gs_sdx I0 Iₚ t f' m w := ⟨h.1, fun k hk => gs_itx_x (gs_itx_kp (h.2.1 k hk) l) (e k (by have := h.1; omega)), fun k h1 h2 => (e k h2).trans (h.2.2 k h1 h2)⟩
/-- a side is read: n things so far, the token from q on is at hand -/
def gs_s2 (β : Int → Int) (N : Int) (I : gr_I) (J : gr_J) (a p : Int) (I1 : gr_I) (n q : Int) : Prop := (∀ k : Nat, (k : Int) < n → gs_itx I I1 (I 0 6) (I1 63 (Int.toNat (a + (k : Int)))) (gs_ti β N I J (gs_sp β N k p))) ∧ q = gs_sp β N (Int.toNat n) p ∧ gs_sn β N 3 p = gs_sn β N (Int.toNat (3 - n)) q + Int.toNat n ∧ ∀ j : Nat, ¬ (a ≤ (j : Int) ∧ (j : Int) < a + 3) → I1 63 j = I 63 j
theorem gs_s2_0 {a : Int} : gs_s2 β N I J a p I 0 p := ⟨fun k h => absurd h (by omega), rfl, rfl, fun _ _ => rfl⟩
theorem gs_s2_s {a y : Int} {c : Nat} (h : gs_s2 β N I J a p I1 n q) (hn : 0 ≤ n ∧ n < 3) (ha : 0 ≤ a) (hT : gs_T β N q = 3 ∨ gs_T β N q = 1 ∨ gs_T β N q = 35) (l : gr_LKs I1 I2) (e63 : ∀ j, I2 63 j = I1 63 j) (hc : gs_cx β N I J q I2) (hy : y = I2 0 104) (hk : c = Int.toNat (a + n)) (ps : ∀ b j, ¬ (b = 63 ∧ j = c) → I3 b j = I2 b j) (qs : I3 63 c = y) (hq : L = gs_X β N q) : gs_s2 β N I J a p I3 (n + 1) L := by
  subst hq hk
  obtain ⟨h1, h2, h3, h4⟩ := h
  have l3 : gr_LKs I2 I3 := gr_LKs_fr gr_LKs_rf (fun k => ps 51 k (fun q => absurd q.1 (by first | exact gz_ne rfl | decide))) (ps 0 59 (fun q => absurd q.1 (by first | exact gz_ne rfl | decide)))
  refine ⟨fun k hk => ?_, ?_, ?_, fun j hj => ?_⟩
  · by_cases c : (k : Int) = n
    · rw [show a + (k : Int) = a + n from by omega, qs, hy, show k = Int.toNat n from by omega, ← h2]
      exact gs_itx_kp hc l3
    · rw [ps 63 (Int.toNat (a + (k : Int))) (fun q => by have := q.2; omega), e63]
      exact gs_itx_kp (gs_itx_kp (h1 k (by omega)) l) l3
  · rw [show Int.toNat (n + 1) = Int.toNat n + 1 from by omega]
    show gs_X β N q = gs_X β N (gs_sp β N (Int.toNat n) p)
    rw [h2]
  · rw [h3, show Int.toNat (3 - n) = Int.toNat (3 - (n + 1)) + 1 from by omega]
    show (if _ then _ else _) + _ = _
    rw [if_pos hT]
    omega
  · rw [ps 63 j (fun q => by have := q.2; omega), e63]
    exact h4 j hj
/-- the rest of a side is filled up: m places are done -/
def gs_s3 (β : Int → Int) (N : Int) (I : gr_I) (J : gr_J) (a p : Int) (I1 : gr_I) (m : Int) : Prop := ((gs_sn β N 3 p : Nat) : Int) ≤ m ∧ (∀ k : Nat, k < gs_sn β N 3 p → gs_itx I I1 (I 0 6) (I1 63 (Int.toNat (a + (k : Int)))) (gs_ti β N I J (gs_sp β N k p))) ∧ (∀ k : Nat, gs_sn β N 3 p ≤ k → (k : Int) < m → I1 63 (Int.toNat (a + (k : Int))) = 2147483647) ∧ ∀ j : Nat, ¬ (a ≤ (j : Int) ∧ (j : Int) < a + 3) → I1 63 j = I 63 j
theorem gs_s3_0 {a : Int} (h : gs_s2 β N I J a p I1 n q) (hn : 0 ≤ n) (hT : ¬ (gs_T β N q = 3 ∨ gs_T β N q = 1 ∨ gs_T β N q = 35)) : gs_s3 β N I J a p I1 n := by
  obtain ⟨h1, h2, h3, h4⟩ := h
  rw [gs_sn_e hT] at h3
  exact ⟨by omega, fun k hk => h1 k (by omega), fun k u b => absurd u (by omega), h4⟩
theorem gs_s3_s {a m : Int} {c : Nat} (h : gs_s3 β N I J a p I1 m) (ha : 0 ≤ a) (hm : 0 ≤ m ∧ m < 3) (hk : c = Int.toNat (a + m)) (ps : ∀ b j, ¬ (b = 63 ∧ j = c) → I3 b j = I1 b j) (qs : I3 63 c = 2147483647) : gs_s3 β N I J a p I3 (m + 1) := by
  subst hk
  obtain ⟨h1, h2, h3, h4⟩ := h
  refine ⟨by omega, fun k hk => ?_, fun k u b => ?_, fun j hj => ?_⟩
  · rw [ps 63 (Int.toNat (a + (k : Int))) (fun q => by have := q.2; omega)]
    exact gs_itx_s (h2 k hk) (fun j => ps 51 j (fun q => absurd q.1 (by first | exact gz_ne rfl | decide))) (ps 0 59 (fun q => absurd q.1 (by first | exact gz_ne rfl | decide)))
  · by_cases c : (k : Int) = m
    · rw [show a + (k : Int) = a + m from by omega]
      exact qs
    · rw [ps 63 (Int.toNat (a + (k : Int))) (fun q => by have := q.2; omega)]
      exact h3 k u (by omega)
  · rw [ps 63 j (fun q => by have := q.2; omega)]
    exact h4 j hj
/-- what side() leaves -/
def gs_cs8 (β : Int → Int) (N : Int) (I : gr_I) (J : gr_J) (a p : Int) (Iₚ : gr_I) : Prop := gs_sdx I Iₚ (I 0 6) (fun k => Iₚ 63 (Int.toNat (a + (k : Int)))) (gs_sn β N 3 p) (fun k => gs_ti β N I J (gs_sp β N k p)) ∧ ∀ j : Nat, ¬ (a ≤ (j : Int) ∧ (j : Int) < a + 3) → Iₚ 63 j = I 63 j
theorem gs_cs_mk {a m : Int} (h : gs_s3 β N I J a p I1 m) (hm : 3 ≤ m) : gs_cs8 β N I J a p I1 := ⟨⟨gs_sn_3 3 p, h.2.1, fun k a b => h.2.2.1 k a (by omega)⟩, h.2.2.2⟩
theorem gs_sdx_eq {f : Nat → Int} {m : Nat} {w w' : Nat → so_it} (h : gs_sdx I1 Iₚ t f m w) (h15 : ∀ k, I1 15 k = I 15 k) (h26 : ∀ k, I1 26 k = I 26 k) (e : ∀ k, w k = w' k) : gs_sdx I Iₚ t f m w' := ⟨h.1, fun k hk => by rw [← e k]; exact gs_itx_eq (h.2.1 k hk) h15 h26, h.2.2⟩
theorem gs_cs_eq {a : Int} (h6 : I1 0 6 = I 0 6) (h15 : ∀ k, I1 15 k = I 15 k) (h22 : ∀ k, J1 22 k = J 22 k) (h26 : ∀ k, I1 26 k = I 26 k) (h : gs_cs8 β N I1 J1 a p Iₚ) : gs_sdx I Iₚ (I 0 6) (fun k => Iₚ 63 (Int.toNat (a + (k : Int)))) (gs_sn β N 3 p) (fun k => gs_ti β N I J (gs_sp β N k p)) ∧ ∀ j : Nat, ¬ (a ≤ (j : Int) ∧ (j : Int) < a + 3) → Iₚ 63 j = I1 63 j := by
  refine ⟨?_, h.2⟩
  have h1 := h.1
  rw [h6] at h1
  exact gs_sdx_eq h1 h15 h26 (fun k => gs_ti_eq h6 h15 h22 h26)
set_option maxHeartbeats 8000000 in
theorem gs_sd_p (hN : 0 ≤ N) (h0 : ∀ k, N ≤ k → β k = 0) : ∀ (m : Nat) (q : Int), 0 ≤ q → 0 ≤ gs_sd β N I J m q → gs_sd β N I J m q = gs_sp β N (gs_sn β N m q) q
  | 0, q, hq, h => by
    have hA := gs_A0 (β := β) hq hN
    show (if _ then _ else _) = q
    by_cases c : gs_T β N q = 3 ∨ gs_T β N q = 1 ∨ gs_T β N q = 35
    · have h2 : 0 ≤ (if gs_T β N q = 3 ∨ gs_T β N q = 1 ∨ gs_T β N q = 35 then -1 - gs_A β N q else q) := h
      rw [if_pos c] at h2
      exact gz_m 0 (by omega)
    · rw [if_neg c]
  | m + 1, q, hq, h => by
    have hA := gs_A0 (β := β) hq hN
    have h2 : 0 ≤ (if gs_T β N q = 3 ∨ gs_T β N q = 1 ∨ gs_T β N q = 35 then (if gs_ctx β N I J 1 q < 0 then gs_ctx β N I J 1 q else gs_sd β N I J m (gs_ctx β N I J 1 q)) else q) := h
    show (if _ then (if _ then _ else _) else q) = gs_sp β N (if _ then _ else 0) q
    by_cases c : gs_T β N q = 3 ∨ gs_T β N q = 1 ∨ gs_T β N q = 35
    · rw [if_pos c] at h2
      rw [if_pos c, if_pos c]
      by_cases d : gs_ctx β N I J 1 q < 0
      · rw [if_pos d] at h2
        exact gz_m 1 (by omega)
      · rw [if_neg d] at h2
        rw [if_neg d]
        have e := gs_ctx_x (I := I) (J := J) (b := 1) (β := β) (N := N) (p := q) (by exact gz_m 2 (by omega)) hA
        have x := gs_X_l (p := q) h0
        rw [e] at h2 ⊢
        rw [gs_sd_p hN h0 m (gs_X β N q) (by have := x.2.1; exact gz_m 3 (by omega)) h2]
        exact gs_sp_s _ _
    · rw [if_neg c, if_neg c]
      rfl
/-- a whole RULE, out of its tokens and out of the tables -/
def gs_t0 : Nat × (Nat → so_it) := (0, fun _ => (0, 0, fun _ => 0))
def gs_ts (β : Int → Int) (N : Int) (I : gr_I) (J : gr_J) (q : Int) : Nat × (Nat → so_it) := (gs_sn β N 3 q, so_ct (gs_sn β N 3 q) (fun k => gs_ti β N I J (gs_sp β N k q)))
def gs_tv (β : Int → Int) (N : Int) (I : gr_I) (J : gr_J) (c : Int) : (Nat × (Nat → so_it)) × (Nat × (Nat → so_it)) := if gs_T β N c = 47 then (gs_ts β N I J (gs_X β N c), gs_ts β N I J (gs_X β N (gs_sp β N (gs_sn β N 3 (gs_X β N c)) (gs_X β N c)))) else (gs_t0, gs_t0)
def gs_tu (β : Int → Int) (N : Int) (I : gr_I) (J : gr_J) (p : Int) : so_ru := (gs_ti β N I J p, gs_tl β N (gs_X β N (gs_X β N p)), gs_tv β N I J (gs_X β N (gs_X β N (gs_X β N p))))
def so_rr (I : gr_I) (t r : Int) : so_ru := (so_rx (I 26) (I 51) t (I 27 (Int.toNat r)), (so_rx (I 26) (I 51) t (I 28 (Int.toNat r))).2, so_sd (I 26) (I 51) t (fun k => I 29 (Int.toNat (3 * r + (k : Int)))), so_sd (I 26) (I 51) t (fun k => I 30 (Int.toNat (3 * r + (k : Int)))))
/-- a RULE is good: LHS is LETTERS (1 to 3) or a CLASS, RHS LETTERS; its sides have no gap; all is among the CLASSES and letters -/
def so_oks (c n : Int) (f : Nat → Int) : Prop := ∃ m : Nat, m ≤ 3 ∧ (∀ k, k < m → so_okx c n (f k)) ∧ ∀ k, m ≤ k → k < 3 → f k = 2147483647
def so_okr (I : gr_I) (t r : Int) : Prop := so_okx (I 15 (Int.toNat t)) (I 0 59) (I 27 (Int.toNat r)) ∧ (so_okx (I 15 (Int.toNat t)) (I 0 59) (I 28 (Int.toNat r)) ∧ 0 ≤ I 28 (Int.toNat r)) ∧ so_oks (I 15 (Int.toNat t)) (I 0 59) (fun k => I 29 (Int.toNat (3 * r + (k : Int)))) ∧ so_oks (I 15 (Int.toNat t)) (I 0 59) (fun k => I 30 (Int.toNat (3 * r + (k : Int))))
theorem gs_sdx_ok {f : Nat → Int} {m : Nat} {w : Nat → so_it} (h : gs_sdx I0 I t f m w) : so_oks (I0 15 (Int.toNat t)) (I 0 59) f := ⟨m, h.1, fun k hk => (h.2.1 k hk).2, h.2.2⟩
/-- both sides stand in 'sides' -/
def gs_sv8 (I0 I : gr_I) (t : Int) (v : (Nat × (Nat → so_it)) × (Nat × (Nat → so_it))) : Prop := gs_sdx I0 I t (fun k => I 63 (Int.toNat (0 + (k : Int)))) v.1.1 v.1.2 ∧ gs_sdx I0 I t (fun k => I 63 (Int.toNat (3 + (k : Int)))) v.2.1 v.2.2
theorem gs_ct_e {n : Nat} {L : Nat → so_it} {k : Nat} (h : k < n) : so_ct n L k = L k := if_pos h
theorem gs_sdx_ct {f : Nat → Int} {m : Nat} {w : Nat → so_it} (h : gs_sdx I0 I t f m w) : gs_sdx I0 I t f m (so_ct m w) := ⟨h.1, fun k hk => by rw [gs_ct_e hk]; exact h.2.1 k hk, h.2.2⟩
theorem gs_sdx_0 {f : Nat → Int} (h : ∀ k : Nat, k < 3 → f k = 2147483647) : gs_sdx I0 I t f gs_t0.1 gs_t0.2 := ⟨Nat.zero_le _, fun k hk => absurd hk (Nat.not_lt_zero k), fun k _ b => h k b⟩
theorem gs_ct_ct {m : Nat} {w : Nat → so_it} : so_ct m (so_ct m w) = so_ct m w := funext fun k => by
  unfold so_ct
  by_cases c : k < m
  · rw [if_pos c, if_pos c]
  · rw [if_neg c, if_neg c]
/-- LHS and RHS of a RULE that is read -/
def gs_s7 (β : Int → Int) (N : Int) (I : gr_I) (J : gr_J) (p : Int) (I1 : gr_I) (x y : Int) : Prop := gs_itx I I1 (I 0 6) x (gs_ti β N I J p) ∧ gs_itx I I1 (I 0 6) y (0, gs_tl β N (gs_X β N (gs_X β N p))) ∧ 0 ≤ y
theorem gs_s7_kp {y : Int} (h : gs_s7 β N I J p I1 x y) (l : gr_LKs I1 I2) : gs_s7 β N I J p I2 x y := ⟨gs_itx_kp h.1 l, gs_itx_kp h.2.1 l, h.2.2⟩
theorem gs_fill_s {m : Int} {c : Nat} (h : ∀ j : Nat, (j : Int) < m → I1 63 j = 2147483647) (hm : 0 ≤ m) (hc : c = Int.toNat m) (ps : ∀ b j, ¬ (b = 63 ∧ j = c) → I2 b j = I1 b j) (qs : I2 63 c = 2147483647) : ∀ j : Nat, (j : Int) < m + 1 → I2 63 j = 2147483647 := fun j hj => by
  by_cases g : j = c
  · rw [g]
    exact qs
  · rw [ps 63 j (fun q => g q.2)]
    exact h j (by omega)
theorem gs_sv_0 {c : Int} (hT : ¬ gs_T β N c = 47) (hf : ∀ j : Nat, (j : Int) < 6 → I1 63 j = 2147483647) : gs_sv8 I0 I1 t (gs_tv β N I J c) := by
  rw [show gs_tv β N I J c = (gs_t0, gs_t0) from if_neg hT]
  exact ⟨gs_sdx_0 (fun k hk => hf _ (by omega)), gs_sdx_0 (fun k hk => hf _ (by omega))⟩
/-- the left side is read -/
def gs_s8 (β : Int → Int) (N : Int) (I : gr_I) (J : gr_J) (c : Int) (I1 : gr_I) : Prop := gs_T β N c = 47 ∧ gs_sdx I I1 (I 0 6) (fun k => I1 63 (Int.toNat (0 + (k : Int)))) (gs_sn β N 3 (gs_X β N c)) (fun k => gs_ti β N I J (gs_sp β N k (gs_X β N c)))
theorem gs_s8_mk {c q' : Int} (hT : gs_T β N c = 47) (hq : q' = gs_X β N c) (h6 : I1 0 6 = I 0 6) (h15 : ∀ k, I1 15 k = I 15 k) (h22 : ∀ k, J1 22 k = J 22 k) (h26 : ∀ k, I1 26 k = I 26 k) (h : gs_cs8 β N I1 J1 0 q' Iₚ) : gs_s8 β N I J c Iₚ := by
  subst hq
  exact ⟨hT, (gs_cs_eq h6 h15 h22 h26 h).1⟩
theorem gs_sv_1 {c q' : Int} (h8 : gs_s8 β N I J c I2) (l2 : gr_LKs I2 I1) (e2 : ∀ j, I1 63 j = I2 63 j) (l : gr_LKs I1 Iₚ) (hq : q' = gs_X β N (gs_sp β N (gs_sn β N 3 (gs_X β N c)) (gs_X β N c))) (h6 : I1 0 6 = I 0 6) (h15 : ∀ k, I1 15 k = I 15 k) (h22 : ∀ k, J1 22 k = J 22 k) (h26 : ∀ k, I1 26 k = I 26 k) (h : gs_cs8 β N I1 J1 3 q' Iₚ) : gs_sv8 I Iₚ (I 0 6) (gs_tv β N I J c) := by
  subst hq
  obtain ⟨a, b⟩ := gs_cs_eq h6 h15 h22 h26 h
  rw [show gs_tv β N I J c = (gs_ts β N I J (gs_X β N c), gs_ts β N I J (gs_X β N (gs_sp β N (gs_sn β N 3 (gs_X β N c)) (gs_X β N c)))) from if_pos h8.1]
  exact ⟨gs_sdx_ct (gs_sdx_kp h8.2 (gr_LKs_tr l2 l) (fun k hk => (b _ (by omega)).trans (e2 _))), gs_sdx_ct a⟩
/-- a wrong one leaves the RULES as they were -/
def gs_Ssn (I Iₚ : gr_I) : Prop := ∀ j, Iₚ 16 j = I 16 j ∧ Iₚ 27 j = I 27 j ∧ Iₚ 28 j = I 28 j ∧ Iₚ 29 j = I 29 j ∧ Iₚ 30 j = I 30 j
/-- the RULE is laid down: k of its three columns are done -/
def gs_s9 (β : Int → Int) (N : Int) (I : gr_I) (J : gr_J) (p : Int) (I1 : gr_I) (r k : Int) : Prop := (gs_itx I I1 (I 0 6) (I1 27 (Int.toNat r)) (gs_ti β N I J p) ∧ gs_itx I I1 (I 0 6) (I1 28 (Int.toNat r)) (0, gs_tl β N (gs_X β N (gs_X β N p))) ∧ 0 ≤ I1 28 (Int.toNat r)) ∧ gs_sv8 I I1 (I 0 6) (gs_tv β N I J (gs_X β N (gs_X β N (gs_X β N p)))) ∧ (∀ j : Nat, (j : Int) < k → I1 29 (Int.toNat (3 * r + (j : Int))) = I1 63 (Int.toNat (0 + (j : Int))) ∧ I1 30 (Int.toNat (3 * r + (j : Int))) = I1 63 (Int.toNat (3 + (j : Int)))) ∧ (∀ j : Nat, ¬ j = Int.toNat r → I1 27 j = I 27 j ∧ I1 28 j = I 28 j) ∧ ∀ j : Nat, ¬ (3 * r ≤ (j : Int) ∧ (j : Int) < 3 * r + 3) → I1 29 j = I 29 j ∧ I1 30 j = I 30 j
/-- LETTERS (one at least) or a CLASS to the left of the arrow -/
def so_lh (u : so_ru) : Prop := u.1.1 = 1 ∨ (u.1.1 = 0 ∧ 1 ≤ u.1.2.1)
theorem gs_lh {first : Int} (h : 0 ≤ gs_snd β N I J first p) (hA : 0 ≤ gs_A β N p) : so_lh (gs_tu β N I J p) := by
  unfold gs_snd at h
  by_cases c : gs_T β N p = 3 ∧ (gs_X β N p - gs_A β N p - 2 < 1 ∨ 3 < gs_X β N p - gs_A β N p - 2)
  · rw [if_pos c] at h
    omega
  · rw [if_neg c] at h
    unfold gs_snd1 at h
    by_cases d : gs_ctx β N I J 0 p < 0
    · rw [if_pos d] at h
      omega
    · unfold gs_ctx at d
      by_cases t3 : gs_T β N p = 3
      · have e := gs_ti_3 (I := I) (J := J) t3
        have e2 : (gs_ti β N I J p).2.1 = gs_X β N p - gs_A β N p - 2 := congrArg (fun x : so_it => x.2.1) e
        refine Or.inr ?_
        show (gs_ti β N I J p).1 = 0 ∧ 1 ≤ (gs_ti β N I J p).2.1
        exact ⟨congrArg (fun x : so_it => x.1) e, by omega⟩
      · by_cases t1 : gs_T β N p = 1
        · refine Or.inl ?_
          show (gs_ti β N I J p).1 = 1
          exact congrArg (fun x : so_it => x.1) (gs_ti_1 (I := I) (J := J) t1)
        · rw [if_neg t3, if_neg t1, if_pos rfl] at d
          omega
/-- what sound() leaves -/
def gs_Usn (β : Int → Int) (N : Int) (I : gr_I) (J : gr_J) (p : Int) (Iₚ : gr_I) (r : Int) : Prop := (so_rr Iₚ (I 0 6) r = gs_tu β N I J p ∧ so_okr Iₚ (I 0 6) r ∧ so_lh (gs_tu β N I J p)) ∧ (∀ j : Nat, ¬ j = Int.toNat r → Iₚ 27 j = I 27 j ∧ Iₚ 28 j = I 28 j) ∧ ∀ j : Nat, ¬ (3 * r ≤ (j : Int) ∧ (j : Int) < 3 * r + 3) → Iₚ 29 j = I 29 j ∧ Iₚ 30 j = I 30 j
theorem gs_tv_ct (c : Int) : (gs_tv β N I J c).1 = ((gs_tv β N I J c).1.1, so_ct (gs_tv β N I J c).1.1 (gs_tv β N I J c).1.2) ∧ (gs_tv β N I J c).2 = ((gs_tv β N I J c).2.1, so_ct (gs_tv β N I J c).2.1 (gs_tv β N I J c).2.2) := by
  have z : gs_t0 = (gs_t0.1, so_ct gs_t0.1 gs_t0.2) := Prod.ext rfl (funext fun k => (show so_ct gs_t0.1 gs_t0.2 k = gs_t0.2 k from if_neg (Nat.not_lt_zero k)).symm)
  have y : ∀ q, gs_ts β N I J q = ((gs_ts β N I J q).1, so_ct (gs_ts β N I J q).1 (gs_ts β N I J q).2) := fun q => Prod.ext rfl gs_ct_ct.symm
  unfold gs_tv
  split
  · exact ⟨y _, y _⟩
  · exact ⟨z, z⟩
theorem gs_Usn_mk {r k : Int} (h : gs_s9 β N I J p Iₚ r k) (hk : 3 ≤ k) (h26 : ∀ j, Iₚ 26 j = I 26 j) (h15 : ∀ j, Iₚ 15 j = I 15 j) (hl : so_lh (gs_tu β N I J p)) : gs_Usn β N I J p Iₚ r := by
  obtain ⟨⟨a1, a2, a3⟩, ⟨b1, b2⟩, c, d, e⟩ := h
  have f29 := gs_sdx_kp (f' := fun k => Iₚ 29 (Int.toNat (3 * r + (k : Int)))) b1 gr_LKs_rf (fun k hk => (c k (by omega)).1)
  have f30 := gs_sdx_kp (f' := fun k => Iₚ 30 (Int.toNat (3 * r + (k : Int)))) b2 gr_LKs_rf (fun k hk => (c k (by omega)).2)
  have z26 : Iₚ 26 = I 26 := funext h26
  refine ⟨⟨?_, ?_, hl⟩, d, e⟩
  · have e1 : so_rx (Iₚ 26) (Iₚ 51) (I 0 6) (Iₚ 27 (Int.toNat r)) = gs_ti β N I J p := by
      rw [z26]
      exact a1.1
    have e2 : (so_rx (Iₚ 26) (Iₚ 51) (I 0 6) (Iₚ 28 (Int.toNat r))).2 = gs_tl β N (gs_X β N (gs_X β N p)) := by
      rw [z26]
      exact congrArg Prod.snd a2.1
    have e3 : so_sd (Iₚ 26) (Iₚ 51) (I 0 6) (fun k => Iₚ 29 (Int.toNat (3 * r + (k : Int)))) = (gs_tv β N I J (gs_X β N (gs_X β N (gs_X β N p)))).1 := by
      rw [z26, gs_sdx_e f29]
      exact (gs_tv_ct _).1.symm
    have e4 : so_sd (Iₚ 26) (Iₚ 51) (I 0 6) (fun k => Iₚ 30 (Int.toNat (3 * r + (k : Int)))) = (gs_tv β N I J (gs_X β N (gs_X β N (gs_X β N p)))).2 := by
      rw [z26, gs_sdx_e f30]
      exact (gs_tv_ct _).2.symm
    exact Prod.ext e1 (Prod.ext e2 (Prod.ext e3 e4))
  · unfold so_okr
    rw [h15]
    exact ⟨a1.2, ⟨a2.2, a3⟩, gs_sdx_ok f29, gs_sdx_ok f30⟩
theorem gs_s9_0 {r x y : Int} (hx : gs_itx I I1 (I 0 6) x (gs_ti β N I J p)) (hy : gs_itx I I1 (I 0 6) y (0, gs_tl β N (gs_X β N (gs_X β N p)))) (h0 : 0 ≤ y) (hv : gs_sv8 I I1 (I 0 6) (gs_tv β N I J (gs_X β N (gs_X β N (gs_X β N p))))) (l : gr_LKs I1 I2) (e63 : ∀ j, I2 63 j = I1 63 j) (e27 : I2 27 (Int.toNat r) = x) (e28 : I2 28 (Int.toNat r) = y) (o27 : ∀ j : Nat, ¬ j = Int.toNat r → I2 27 j = I 27 j) (o28 : ∀ j : Nat, ¬ j = Int.toNat r → I2 28 j = I 28 j) (o29 : ∀ j, I2 29 j = I 29 j) (o30 : ∀ j, I2 30 j = I 30 j) : gs_s9 β N I J p I2 r 0 := by
  refine ⟨⟨?_, ?_, ?_⟩, ⟨gs_sdx_kp hv.1 l (fun k _ => e63 _), gs_sdx_kp hv.2 l (fun k _ => e63 _)⟩, fun j hj => absurd hj (by omega), fun j hj => ⟨o27 j hj, o28 j hj⟩, fun j _ => ⟨o29 j, o30 j⟩⟩
  · rw [e27]
    exact gs_itx_kp hx l
  · rw [e28]
    exact gs_itx_kp hy l
  · rw [e28]
    exact h0
theorem gs_s9_s {r k y z : Int} {c d : Nat} (h : gs_s9 β N I J p I1 r k) (hr : 0 ≤ r) (hk : 0 ≤ k ∧ k < 3) (hc : c = Int.toNat (3 * r + k)) (p2 : ∀ b j, ¬ (b = 29 ∧ j = c) → I2 b j = I1 b j) (q2 : I2 29 c = y) (hy : y = I1 63 (Int.toNat k)) (hd : d = Int.toNat (3 * r + k)) (p3 : ∀ b j, ¬ (b = 30 ∧ j = d) → I3 b j = I2 b j) (q3 : I3 30 d = z) (hz : z = I2 63 (Int.toNat (3 + k))) : gs_s9 β N I J p I3 r (k + 1) := by
  subst hc hd
  obtain ⟨⟨a1, a2, a3⟩, ⟨b1, b2⟩, c, d, e⟩ := h
  have o : ∀ b j, ¬ b = 29 → ¬ b = 30 → I3 b j = I1 b j := fun b j h1 h2 => (p3 b j (fun q => h2 q.1)).trans (p2 b j (fun q => h1 q.1))
  have l : gr_LKs I1 I3 := gr_LKs_fr gr_LKs_rf (fun j => o 51 j (by decide) (by decide)) (o 0 59 (by decide) (by decide))
  refine ⟨⟨?_, ?_, ?_⟩, ⟨gs_sdx_kp b1 l (fun k _ => o 63 _ (by decide) (by decide)), gs_sdx_kp b2 l (fun k _ => o 63 _ (by decide) (by decide))⟩, fun j hj => ?_, fun j hj => ?_, fun j hj => ?_⟩
  · rw [o 27 _ (by decide) (by decide)]
    exact gs_itx_kp a1 l
  · rw [o 28 _ (by decide) (by decide)]
    exact gs_itx_kp a2 l
  · rw [o 28 _ (by decide) (by decide)]
    exact a3
  · rw [o 63 _ (by decide) (by decide), o 63 _ (by decide) (by decide)]
    by_cases g : (j : Int) = k
    · rw [show 3 * r + (j : Int) = 3 * r + k from by omega, p3 29 _ (fun q => absurd q.1 (by first | exact gz_ne rfl | decide)), q2, q3, hy, hz, p2 63 _ (fun q => absurd q.1 (by first | exact gz_ne rfl | decide)), show (0 : Int) + (j : Int) = k from by omega, show (3 : Int) + (j : Int) = 3 + k from by omega]
      exact ⟨rfl, rfl⟩
    · rw [p3 29 _ (fun q => absurd q.1 (by first | exact gz_ne rfl | decide)), p2 29 (Int.toNat (3 * r + (j : Int))) (fun q => by have := q.2; omega), p3 30 (Int.toNat (3 * r + (j : Int))) (fun q => by have := q.2; omega), p2 30 _ (fun q => absurd q.1 (by first | exact gz_ne rfl | decide))]
      exact c j (by omega)
  · rw [o 27 _ (by decide) (by decide), o 28 _ (by decide) (by decide)]
    exact d j hj
  · rw [p3 29 _ (fun q => absurd q.1 (by first | exact gz_ne rfl | decide)), p2 29 j (fun q => by have := q.2; omega), p3 30 j (fun q => by have := q.2; omega), p2 30 _ (fun q => absurd q.1 (by first | exact gz_ne rfl | decide))]
    exact e j hj
end IT
theorem so_okx_n {c n x : Int} (h : so_okx c n x) : ¬ x = 2147483647 := by
  rcases h with g | g | g <;> omega
theorem so_oks_cn {c n : Int} {f : Nat → Int} {m : Nat} (h3 : m ≤ 3) (h1 : ∀ k, k < m → so_okx c n (f k)) (h2 : ∀ k, m ≤ k → k < 3 → f k = 2147483647) : so_cn f = m := so_cn_e h3 (fun k hk => so_okx_n (h1 k hk)) h2
