/-! GUESSES by the ending (p12, p13): both sides alike over places x = 24 w + c, their PATTERNS pt, and whether they end so -/
def fo_gp (B : Int → Prop) (pt : Int → Int) (E : Nat → Prop) (p : Int) (x : Nat) : Prop := B (x : Int) ∧ pt (x : Int) = p ∧ E x
def fo_gq (B : Int → Prop) (pt : Int → Int) (E : Nat → Prop) (p : Nat) : Prop := ∃ x : Nat, fo_gp B pt E (p : Int) x
def fo_gt (B : Int → Prop) (pt : Int → Int) (E : Nat → Prop) (p : Int) (x : Nat) : Prop := B (x : Int) ∧ pt (x : Int) < p ∧ E x
/-- of the first P PATTERNS: which have some, how many each, how many in all -/
def fo_GS (B : Int → Prop) (pt : Int → Int) (E : Nat → Prop) (P : Nat) (gu al : Int) (gp gn : Nat → Int) : Prop := fo_cn (fo_gq B pt E) P gu ∧ fo_ls (fo_gq B pt E) gp P ∧ (∀ k : Nat, (k : Int) < gu → fo_cn (fo_gp B pt E (gp k)) 1536 (gn k)) ∧ fo_cn (fo_gt B pt E (P : Int)) 1536 al
def fo_no (B : Int → Prop) (E : Int → Nat → Prop) (lo L0 : Int) : Prop := ∀ l : Int, lo < l → l ≤ L0 → ∀ x : Nat, ¬ (B (x : Int) ∧ E l x)
/-- the longest ending -/
def fo_GF (L0 : Int) (B : Int → Prop) (pt : Int → Int) (E : Int → Nat → Prop) (P : Nat) (gu al lo : Int) (gp gn : Nat → Int) : Prop := (gu = 0 ∧ fo_no B E 0 L0) ∨ (¬ gu = 0 ∧ (1 ≤ lo ∧ lo ≤ L0) ∧ fo_no B E lo L0 ∧ fo_GS B pt (E lo) P gu al gp gn)
section GU9
variable {B B' : Int → Prop} {pt pt' : Int → Int} {E E' : Nat → Prop} {P n m x : Nat} {gu al gu' al' z z' p : Int} {gp gn gp' gn' : Nat → Int} {Q R S : Nat → Prop}
theorem fo_cn_0 : ∀ {n : Nat}, fo_cn Q n 0 → ∀ x, x < n → ¬ Q x
  | 0, _, x, l => absurd l (Nat.not_lt_zero x)
  | n + 1, h, x, l => by
    rcases h with ⟨_, h2⟩ | ⟨h1, h2⟩
    · have := (fo_cn_b h2).1
      omega
    · by_cases e : x = n
      · rw [e]
        exact h1
      · exact fo_cn_0 h2 x (by omega)
theorem fo_cn_p : ∀ {n : Nat} {z : Int}, fo_cn Q n z → ¬ z = 0 → ∃ x, x < n ∧ Q x
  | 0, _, h, hz => absurd h hz
  | n + 1, z, h, hz => by
    rcases h with ⟨h1, _⟩ | ⟨_, h2⟩
    · exact ⟨n, by omega, h1⟩
    · obtain ⟨x, a, b⟩ := fo_cn_p h2 hz
      exact ⟨x, by omega, b⟩
set_option maxHeartbeats 8000000 in
theorem fo_cn_add (d : ∀ x, Q x → R x → False) (e : ∀ x, S x ↔ (Q x ∨ R x)) : ∀ {n : Nat} {z z' : Int}, fo_cn Q n z → fo_cn R n z' → fo_cn S n (z + z')
  | 0, z, z', h, hₚ => by
    have h1 : z = 0 := h
    have h2 : z' = 0 := hₚ
    show z + z' = 0
    exact gz_m 0 (by omega)
  | n + 1, z, z', h, hₚ => by
    rcases h with ⟨h1, h2⟩ | ⟨h1, h2⟩
    · rcases hₚ with ⟨h3, _⟩ | ⟨h3, h4⟩
      · exact (d n h1 h3).elim
      · refine Or.inl ⟨(e n).mpr (Or.inl h1), ?_⟩
        rw [show z + z' - 1 = z - 1 + z' from by exact gz_m 1 (by omega)]
        exact fo_cn_add d e h2 h4
    · rcases hₚ with ⟨h3, h4⟩ | ⟨h3, h4⟩
      · refine Or.inl ⟨(e n).mpr (Or.inr h3), ?_⟩
        rw [show z + z' - 1 = z + (z' - 1) from by exact gz_m 2 (by omega)]
        exact fo_cn_add d e h2 h4
      · exact Or.inr ⟨fun s => ((e n).mp s).elim h1 h3, fo_cn_add d e h2 h4⟩
theorem fo_cn_z : ∀ {n : Nat}, (∀ x, x < n → ¬ Q x) → fo_cn Q n 0
  | 0, _ => rfl
  | n + 1, h => Or.inr ⟨h n (by omega), fo_cn_z (fun x l => h x (by omega))⟩
theorem fo_gt_s (p : Nat) (x : Nat) : fo_gt B pt E ((p + 1 : Nat) : Int) x ↔ (fo_gt B pt E (p : Int) x ∨ fo_gp B pt E (p : Int) x) := by
  constructor
  · intro h
    by_cases c : pt (x : Int) = (p : Int)
    · exact Or.inr ⟨h.1, c, h.2.2⟩
    · have := h.2.1
      exact Or.inl ⟨h.1, by omega, h.2.2⟩
  · intro h
    rcases h with h | h
    · have := h.2.1
      exact ⟨h.1, by omega, h.2.2⟩
    · have := h.2.1
      exact ⟨h.1, by omega, h.2.2⟩
theorem fo_gt_d (p : Nat) (x : Nat) (h : fo_gt B pt E (p : Int) x) (g : fo_gp B pt E (p : Int) x) : False := by
  have := h.2.1
  have := g.2.1
  omega
theorem fo_GS_0 (h : ∀ x, B x → 0 ≤ pt x) : fo_GS B pt E 0 0 0 gp gn := ⟨rfl, fun x y l => absurd l (Nat.not_lt_zero x), fun k hk => by omega, fo_cn_z (fun x _ g => by
  have := h _ g.1
  have := g.2.1
  omega)⟩
theorem fo_GS_no (h : fo_GS B pt E P gu al gp gn) (b : ∀ x, B x → 0 ≤ x ∧ x < 1536) (c : fo_cn (fo_gp B pt E (P : Int)) 1536 0) : fo_GS B pt E (P + 1) gu al gp gn := by
  obtain ⟨h1, h2, h3, h4⟩ := h
  have no : ¬ fo_gq B pt E P := fun q => by
    obtain ⟨x, g⟩ := q
    exact fo_cn_0 c x (by have := b _ g.1; omega) g
  refine ⟨Or.inr ⟨no, h1⟩, fo_ls_sk h2 (fun j j1 j2 q => no (by rw [show P = j from by omega]; exact q)), h3, ?_⟩
  have a := fo_cn_add (S := fo_gt B pt E ((P + 1 : Nat) : Int)) (fun x => fo_gt_d P x) (fun x => fo_gt_s P x) h4 c
  rw [Int.add_zero] at a
  exact a
theorem fo_GS_in (h : fo_GS B pt E P gu al gp gn) (c : fo_cn (fo_gp B pt E (P : Int)) 1536 z) (hz : ¬ z = 0) (q1 : gp' (Int.toNat gu) = (P : Int)) (p1 : ∀ j : Nat, ¬ j = Int.toNat gu → gp' j = gp j) (q2 : gn' (Int.toNat gu) = z) (p2 : ∀ j : Nat, ¬ j = Int.toNat gu → gn' j = gn j) (ea : al' = al + z) (eg : gu' = gu + 1) : fo_GS B pt E (P + 1) gu' al' gp' gn' := by
  obtain ⟨h1, h2, h3, h4⟩ := h
  have hb := fo_cn_b h1
  rw [ea, eg]
  refine ⟨Or.inl ⟨?_, by rw [show gu + 1 - 1 = gu from by omega]; exact h1⟩, fo_ls_in h2 h1 q1 p1, fun k hk => ?_, fo_cn_add (S := fo_gt B pt E ((P + 1 : Nat) : Int)) (fun x => fo_gt_d P x) (fun x => fo_gt_s P x) h4 c⟩
  · obtain ⟨x, _, g⟩ := fo_cn_p c hz
    exact ⟨x, g⟩
  · by_cases e : k = Int.toNat gu
    · rw [e, q1, q2]
      exact c
    · rw [p1 k e, p2 k e]
      exact h3 k (by omega)
/-- both sides -/
theorem fo_GS_u (h : fo_GS B pt E P gu al gp gn) (hₚ : fo_GS B' pt' E' P gu' al' gp' gn') (e : ∀ x : Nat, (B (x : Int) ∧ E x) ↔ (B' (x : Int) ∧ E' x)) (ep : ∀ x : Nat, B (x : Int) → B' (x : Int) → pt (x : Int) = pt' (x : Int)) : gu = gu' ∧ al = al' ∧ ∀ k : Nat, (k : Int) < gu → gp k = gp' k ∧ gn k = gn' k := by
  have eg : ∀ (p : Int) (x : Nat), fo_gp B pt E p x ↔ fo_gp B' pt' E' p x := fun p x => by
    constructor
    · intro g
      have a := (e x).mp ⟨g.1, g.2.2⟩
      exact ⟨a.1, by rw [← ep x g.1 a.1]; exact g.2.1, a.2⟩
    · intro g
      have a := (e x).mpr ⟨g.1, g.2.2⟩
      exact ⟨a.1, by rw [ep x a.1 g.1]; exact g.2.1, a.2⟩
  have et : ∀ (p : Int) (x : Nat), fo_gt B pt E p x ↔ fo_gt B' pt' E' p x := fun p x => by
    constructor
    · intro g
      have a := (e x).mp ⟨g.1, g.2.2⟩
      exact ⟨a.1, by rw [← ep x g.1 a.1]; exact g.2.1, a.2⟩
    · intro g
      have a := (e x).mpr ⟨g.1, g.2.2⟩
      exact ⟨a.1, by rw [ep x a.1 g.1]; exact g.2.1, a.2⟩
  have eq : ∀ p : Nat, fo_gq B pt E p ↔ fo_gq B' pt' E' p := fun p => ⟨fun ⟨x, g⟩ => ⟨x, (eg _ x).mp g⟩, fun ⟨x, g⟩ => ⟨x, (eg _ x).mpr g⟩⟩
  obtain ⟨hz, hl⟩ := fo_ls_u eq h.1 h.2.1 hₚ.1 hₚ.2.1
  refine ⟨hz, fo_cn_u (fo_cn_cg (fun x _ => et _ x) h.2.2.2) hₚ.2.2.2, fun k hk => ⟨hl k hk, ?_⟩⟩
  have a := fo_cn_cg (fun x _ => eg _ x) (h.2.2.1 k hk)
  have c := hₚ.2.2.1 k (by omega)
  rw [← hl k hk] at c
  exact fo_cn_u a c
end GU9
section GF9
variable {B B' : Int → Prop} {pt pt' : Int → Int} {E E' : Int → Nat → Prop} {P : Nat} {L0 gu al lo gu' al' lo' : Int} {gp gn gp' gn' : Nat → Int}
theorem fo_GF_u (h : fo_GF L0 B pt E P gu al lo gp gn) (hₚ : fo_GF L0 B' pt' E' P gu' al' lo' gp' gn') (e : ∀ (l : Int) (x : Nat), 1 ≤ l → l ≤ L0 → ((B (x : Int) ∧ E l x) ↔ (B' (x : Int) ∧ E' l x))) (ep : ∀ x : Nat, B (x : Int) → B' (x : Int) → pt (x : Int) = pt' (x : Int)) : gu = gu' ∧ (¬ gu = 0 → lo = lo' ∧ al = al' ∧ ∀ k : Nat, (k : Int) < gu → gp k = gp' k ∧ gn k = gn' k) := by
  rcases h with ⟨h1, h2⟩ | ⟨h1, h2, h3, h4⟩
  · rcases hₚ with ⟨g1, _⟩ | ⟨g1, g2, _, g4⟩
    · exact ⟨by omega, fun c => absurd h1 c⟩
    · obtain ⟨p, _, x, q⟩ := fo_cn_p g4.1 g1
      exact absurd ((e lo' x g2.1 g2.2).mpr ⟨q.1, q.2.2⟩) (h2 lo' (by omega) g2.2 x)
  · rcases hₚ with ⟨g1, g2⟩ | ⟨g1, g2, g3, g4⟩
    · obtain ⟨p, _, x, q⟩ := fo_cn_p h4.1 h1
      exact absurd ((e lo x h2.1 h2.2).mp ⟨q.1, q.2.2⟩) (g2 lo (by omega) h2.2 x)
    · have hl : lo = lo' := by
        rcases Int.lt_trichotomy lo lo' with c | c | c
        · obtain ⟨p, _, x, q⟩ := fo_cn_p g4.1 g1
          exact absurd ((e lo' x g2.1 g2.2).mpr ⟨q.1, q.2.2⟩) (h3 lo' c g2.2 x)
        · exact c
        · obtain ⟨p, _, x, q⟩ := fo_cn_p h4.1 h1
          exact absurd ((e lo x h2.1 h2.2).mp ⟨q.1, q.2.2⟩) (g3 lo c h2.2 x)
      subst hl
      obtain ⟨a, b, c⟩ := fo_GS_u h4 g4 (fun x => e lo x h2.1 h2.2) ep
      exact ⟨a, fun _ => ⟨rfl, b, c⟩⟩
end GF9
/-! the reference's guess() -/
def fo_pr (I : gr_I) (t : Int) (x : Int) : Int := I 37 (Int.toNat (64 * t + x / 24))
def fo_er (I I1 : gr_I) (l : Int) (x : Nat) : Prop := fo_ew (I1 78) (I1 79) (fun i : Nat => I 56 (Int.toNat (I 0 68 - l) + i)) l (x : Int)
def fo_Gr (I I1 : gr_I) (t l p : Int) : Nat → Prop := fo_gp (fo_br I t) (fo_pr I t) (fo_er I I1 l) p
def fo_L0 (I : gr_I) : Int := if I 0 68 < 4 then I 0 68 else 4
def fo_GSr (I I1 : gr_I) (t l : Int) (P : Nat) : Prop := fo_GS (fo_br I t) (fo_pr I t) (fo_er I I1 l) P (I1 0 136) (I1 0 137) (I1 81) (I1 82)
/-- what stands all along: a word, its letters, the FORMS -/
def fo_gW (I I1 : gr_I) (t : Int) : Prop := so_wd (I 0 68) (I 56) ∧ (∀ j : Nat, (j : Int) < I 0 68 → I1 57 j = I 56 j) ∧ fo_FR I I1 t
def fo_g66 (I I1 : gr_I) (t l : Int) : Prop := fo_gW I I1 t ∧ ((I1 0 136 = 0 ∧ fo_no (fo_br I t) (fo_er I I1) l (fo_L0 I)) ∨ (¬ I1 0 136 = 0 ∧ I1 0 138 = l + 1 ∧ l + 1 ≤ fo_L0 I ∧ fo_no (fo_br I t) (fo_er I I1) (l + 1) (fo_L0 I) ∧ fo_GSr I I1 t (l + 1) (Int.toNat (I 17 (Int.toNat t)))))
def fo_g90 (I I1 : gr_I) (t l : Int) (P : Nat) : Prop := fo_gW I I1 t ∧ fo_no (fo_br I t) (fo_er I I1) l (fo_L0 I) ∧ fo_GSr I I1 t l P
def fo_nB (I I1 : gr_I) (t : Int) : Prop := ¬ (0 ≤ t ∧ t < I 0 1) → I1 0 136 = I 0 136 ∧ I1 0 137 = I 0 137 ∧ I1 0 138 = I 0 138 ∧ (∀ k, I1 81 k = I 81 k) ∧ ∀ k, I1 82 k = I 82 k
def fo_uP (I I1 : gr_I) (t z : Int) : Prop := (0 ≤ t ∧ t < I 0 1) → ((so_wd (I 0 68) (I 56) ∧ z = I1 0 136 ∧ fo_FR I I1 t ∧ fo_GF (fo_L0 I) (fo_br I t) (fo_pr I t) (fo_er I I1) (Int.toNat (I 17 (Int.toNat t))) (I1 0 136) (I1 0 137) (I1 0 138) (I1 81) (I1 82)) ∨ (¬ so_wd (I 0 68) (I 56) ∧ z = -3 ∧ I1 0 136 = 0))
section GR9
variable {I I1 I2 : gr_I} {t w c l y z p : Int} {x m P : Nat}
theorem fo_br_b (b : ∀ w' : Int, fo_cr I t w' ≤ 24) (w64 : I 18 (Int.toNat t) ≤ 64) (x : Int) (h : fo_br I t x) : 0 ≤ x ∧ x < 1536 := by
  obtain ⟨w, c, e, a0, a1, a2, a3⟩ := h
  have := b w
  omega
theorem fo_er_eq (e78 : ∀ k, I2 78 k = I1 78 k) (e79 : ∀ k, I2 79 k = I1 79 k) : fo_er I I2 = fo_er I I1 := by
  unfold fo_er
  rw [show I2 78 = I1 78 from funext e78, show I2 79 = I1 79 from funext e79]
theorem fo_gW_fr (h : fo_gW I I1 t) (e57 : ∀ k, I2 57 k = I1 57 k) (e78 : ∀ k, I2 78 k = I1 78 k) (e79 : ∀ k, I2 79 k = I1 79 k) : fo_gW I I2 t := ⟨h.1, fun j hj => (e57 j).trans (h.2.1 j hj), fo_FR_eq h.2.2 e78 e79⟩
theorem fo_g66_0 {k : Int} (h : fo_a3 I I1 k) (hk : I 0 68 ≤ k) (e57 : ∀ j, I2 57 j = I1 57 j) (F : fo_FR I I2 t) (z0 : I2 0 136 = 0) (hl : fo_L0 I ≤ l) : fo_g66 I I2 t l := ⟨⟨h.1, fun j hj => (e57 j).trans (h.2.1 j (by omega)), F⟩, Or.inl ⟨z0, fun l' h1 h2 => by omega⟩⟩
theorem fo_g90_0 (h : fo_g66 I I1 t l) (z0 : I1 0 136 = 0) (b : ∀ x, fo_br I t x → 0 ≤ fo_pr I t x) (e57 : ∀ k, I2 57 k = I1 57 k) (e78 : ∀ k, I2 78 k = I1 78 k) (e79 : ∀ k, I2 79 k = I1 79 k) (g1 : I2 0 136 = 0) (g2 : I2 0 137 = 0) (hm : m = 0) : fo_g90 I I2 t l m := by
  obtain ⟨h1, h2⟩ := h
  rw [hm]
  refine ⟨fo_gW_fr h1 e57 e78 e79, ?_, ?_⟩
  · rw [fo_er_eq e78 e79]
    rcases h2 with ⟨_, h2⟩ | ⟨h2, _⟩
    · exact h2
    · exact absurd z0 h2
  · unfold fo_GSr
    rw [g1, g2]
    exact fo_GS_0 b
theorem fo_g90_e (h : fo_g90 I I1 t l P) (hP : (P : Int) = I 17 (Int.toNat t)) (b0 : ∀ x, fo_br I t x → 0 ≤ fo_pr I t x) (b : ∀ x, fo_br I t x → fo_pr I t x < I 17 (Int.toNat t)) (lo : I1 0 138 = l) (hl : l ≤ fo_L0 I) (e : z = l - 1) : fo_g66 I I1 t z := by
  obtain ⟨h1, h2, h3⟩ := h
  have e1 : z + 1 = l := by omega
  refine ⟨h1, ?_⟩
  by_cases c : I1 0 136 = 0
  · refine Or.inl ⟨c, fun l' g1 g2 x g => ?_⟩
    by_cases e2 : l' = l
    · rw [e2] at g
      have h4 := h3.1
      rw [c] at h4
      have b1 := b _ g.1
      have b2 := b0 _ g.1
      exact fo_cn_0 h4 (Int.toNat (fo_pr I t (x : Int))) (by omega) ⟨x, g.1, by omega, g.2⟩
    · exact h2 l' (by omega) g2 x g
  · refine Or.inr ⟨c, by omega, by omega, ?_, ?_⟩
    · rw [e1]
      exact h2
    · rw [e1, ← hP]
      exact h3
/-- one place, of PATTERN p -/
theorem fo_Gr_x (h : fo_gW I I1 t) (F : (z = 1 ∧ fo_ew (I1 78) (I1 79) (fun i : Nat => I1 57 (Int.toNat (I 0 68 - l) + i)) l y) ∨ (z = 0 ∧ ¬ fo_ew (I1 78) (I1 79) (fun i : Nat => I1 57 (Int.toNat (I 0 68 - l) + i)) l y)) (hx : x = Int.toNat y) (hy : 0 ≤ y) (hl : 1 ≤ l ∧ l ≤ I 0 68) (hb : fo_br I t y) (hp : fo_pr I t y = p) : (z = 1 ∧ fo_Gr I I1 t l p x) ∨ (z = 0 ∧ ¬ fo_Gr I I1 t l p x) := by
  have ex : (x : Int) = y := by omega
  have ee : fo_ew (I1 78) (I1 79) (fun i : Nat => I1 57 (Int.toNat (I 0 68 - l) + i)) l y ↔ fo_er I I1 l x := by
    unfold fo_er fo_ew
    rw [ex]
    constructor
    · intro g
      refine ⟨g.1, fun i i0 i1 => ?_⟩
      rw [g.2 i i0 i1]
      exact h.2.1 _ (by omega)
    · intro g
      refine ⟨g.1, fun i i0 i1 => ?_⟩
      rw [g.2 i i0 i1]
      exact (h.2.1 _ (by omega)).symm
  rcases F with ⟨f1, f2⟩ | ⟨f1, f2⟩
  · refine Or.inl ⟨f1, ?_, ?_, ee.mp f2⟩
    · rw [ex]
      exact hb
    · rw [ex]
      exact hp
  · exact Or.inr ⟨f1, fun g => f2 (ee.mpr g.2.2)⟩
theorem fo_cg_0 {Q : Nat → Prop} (hm : m = 0) : fo_cn Q m 0 := by
  rw [hm]
  rfl
theorem fo_cg_m {Q : Nat → Prop} (h : fo_cn Q x z) (hm : m = x) : fo_cn Q m z := by
  rw [hm]
  exact h
theorem fo_cg_n {Q : Nat → Prop} (h : fo_cn Q x y) (F : (z = 1 ∧ Q x) ∨ (z = 0 ∧ ¬ Q x)) (hz : z = 0) (hm : m = x + 1) : fo_cn Q m y := by
  rw [hm]
  rcases F with ⟨f, _⟩ | ⟨_, f⟩
  · omega
  · exact Or.inr ⟨f, h⟩
theorem fo_cg_y {Q : Nat → Prop} (h : fo_cn Q x y) (F : (z = 1 ∧ Q x) ∨ (z = 0 ∧ ¬ Q x)) (hz : ¬ z = 0) (hm : m = x + 1) (hw : w = y + 1) : fo_cn Q m w := by
  rw [hm, hw]
  rcases F with ⟨_, f⟩ | ⟨f, _⟩
  · exact Or.inl ⟨f, by rw [show y + 1 - 1 = y from by omega]; exact h⟩
  · omega
/-- no more CELLS -/
theorem fo_cg_c (h : fo_cn (fo_Gr I I1 t l p) x y) (hx : x = Int.toNat (24 * w + c)) (b : ∀ w' : Int, fo_cr I t w' ≤ 24) (hw : 0 ≤ w) (hc : 0 ≤ c ∧ c ≤ 24) (e : fo_cr I t w ≤ c) (hm : m = Int.toNat (24 * (w + 1))) : fo_cn (fo_Gr I I1 t l p) m y := fo_cn_sk h (by omega) (fun j j1 j2 g => fo_br_no b hw hc.1 e (by omega) (by omega) g.1)
/-- a WORD of another PATTERN -/
theorem fo_cg_o (h : fo_cn (fo_Gr I I1 t l p) x y) (hx : x = Int.toNat (24 * w)) (hw : 0 ≤ w) (e : ¬ I 37 (Int.toNat (64 * t + w)) = p) (hm : m = Int.toNat (24 * (w + 1))) : fo_cn (fo_Gr I I1 t l p) m y := fo_cn_sk h (by omega) (fun j j1 j2 g => e (by
  have h9 := g.2.1
  unfold fo_pr at h9
  rw [show (j : Int) / 24 = w from by omega] at h9
  exact h9))
theorem fo_cg_e (h : fo_cn (fo_Gr I I1 t l p) x y) (hx : x = Int.toNat (24 * w)) (b : ∀ w' : Int, fo_cr I t w' ≤ 24) (hw : 0 ≤ w ∧ w ≤ 64) (e : I 18 (Int.toNat t) ≤ w) : fo_cn (fo_Gr I I1 t l p) 1536 y := fo_cn_sk h (by omega) (fun j j1 j2 g => fo_br_end hw.1 e (by omega) b g.1)
theorem fo_g90_n (h : fo_g90 I I1 t l P) (c : fo_cn (fo_Gr I I1 t l p) 1536 y) (hy : y = 0) (hp : p = (P : Int)) (b : ∀ x, fo_br I t x → 0 ≤ x ∧ x < 1536) (hm : m = P + 1) : fo_g90 I I1 t l m := by
  rw [hm]
  rw [hy, hp] at c
  exact ⟨h.1, h.2.1, fo_GS_no h.2.2 b c⟩
theorem fo_g90_y (h : fo_g90 I I1 t l P) (c : fo_cn (fo_Gr I I1 t l p) 1536 y) (hy : ¬ y = 0) (hp : p = (P : Int)) (hm : m = P + 1) (e57 : ∀ k, I2 57 k = I1 57 k) (e78 : ∀ k, I2 78 k = I1 78 k) (e79 : ∀ k, I2 79 k = I1 79 k) (q1 : I2 81 (Int.toNat (I1 0 136)) = p) (p1 : ∀ j : Nat, ¬ j = Int.toNat (I1 0 136) → I2 81 j = I1 81 j) (q2 : I2 82 (Int.toNat (I1 0 136)) = y) (p2 : ∀ j : Nat, ¬ j = Int.toNat (I1 0 136) → I2 82 j = I1 82 j) (ea : I2 0 137 = I1 0 137 + y) (eg : I2 0 136 = I1 0 136 + 1) : fo_g90 I I2 t l m := by
  rw [hm]
  rw [hp] at c q1
  refine ⟨fo_gW_fr h.1 e57 e78 e79, ?_, ?_⟩
  · rw [fo_er_eq e78 e79]
    exact h.2.1
  · unfold fo_GSr
    rw [fo_er_eq e78 e79]
    exact fo_GS_in h.2.2 c hy q1 p1 q2 p2 ea eg
theorem fo_g66_e (h : fo_g66 I I1 t l) (e : l ≤ 0 ∨ ¬ I1 0 136 = 0) (hl : 0 ≤ l) : fo_FR I I1 t ∧ fo_GF (fo_L0 I) (fo_br I t) (fo_pr I t) (fo_er I I1) (Int.toNat (I 17 (Int.toNat t))) (I1 0 136) (I1 0 137) (I1 0 138) (I1 81) (I1 82) := by
  obtain ⟨h1, h2⟩ := h
  refine ⟨h1.2.2, ?_⟩
  rcases h2 with ⟨a, b⟩ | ⟨a, b, c, d, f⟩
  · exact Or.inl ⟨a, fun l' g1 g2 => b l' (by omega) g2⟩
  · unfold fo_GSr at f
    rw [← b] at d f
    exact Or.inr ⟨a, ⟨by omega, by omega⟩, d, f⟩
theorem fo_L0_b : fo_L0 I ≤ 4 ∧ fo_L0 I ≤ I 0 68 ∧ (I 0 68 ≤ fo_L0 I ∨ 4 ≤ fo_L0 I) := by
  unfold fo_L0
  by_cases c : I 0 68 < 4
  · rw [if_pos c]
    omega
  · rw [if_neg c]
    omega
end GR9
