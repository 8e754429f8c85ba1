/-! SOUND RULES over a word: what the loops of both sides need (p8) -/
section AL
variable {u : so_ru} {b w f : Int → Int} {N p q m k z : Int} {R : Nat → so_it} {n : Nat}
set_option maxHeartbeats 8000000 in
theorem so_right_ct : ∀ {j : Nat}, j ≤ n → ∀ {p e : Int}, so_right (so_ct n R) b N j p e ↔ so_right R b N j p e
  | 0, _, _, _ => Iff.rfl
  | j + 1, hj, p, e => by
    show (∃ r, so_right (so_ct n R) b N j p r ∧ so_fits (so_ct n R j) b N r e) ↔ ∃ r, so_right R b N j p r ∧ so_fits (R j) b N r e
    rw [gs_ct_e (show j < n by exact gz_m 0 (by omega))]
    exact ⟨fun ⟨r, h1, h2⟩ => ⟨r, (so_right_ct (by exact gz_m 1 (by omega))).mp h1, h2⟩, fun ⟨r, h1, h2⟩ => ⟨r, (so_right_ct (by exact gz_m 2 (by omega))).mpr h1, h2⟩⟩
theorem so_left_ct : ∀ {j : Nat}, j ≤ n → ∀ {p : Int}, so_left (so_ct n R) w j p ↔ so_left R w j p
  | 0, _, _ => Iff.rfl
  | j + 1, hj, p => by
    show (∃ q, so_back (so_ct n R j) w p q ∧ so_left (so_ct n R) w j q) ↔ ∃ q, so_back (R j) w p q ∧ so_left R w j q
    rw [gs_ct_e (show j < n by exact gz_m 0 (by omega))]
    exact ⟨fun ⟨r, h1, h2⟩ => ⟨r, h1, (so_left_ct (by exact gz_m 1 (by omega))).mp h2⟩, fun ⟨r, h1, h2⟩ => ⟨r, h1, (so_left_ct (by exact gz_m 2 (by omega))).mpr h2⟩⟩
theorem so_fits_lh (hl : so_lh u) (h : so_fits u.1 b N p q) : p < q := by
  rcases h with g | g | g
  · have := g.1
    rcases hl with e | e
    · omega
    · have := e.1
      omega
  · have := g.2.2.2
    omega
  · have e1 := g.1
    have e2 := g.2.2.2
    rcases hl with e | e
    · omega
    · have := e.2
      omega
theorem so_hit_no (hl : so_lh u) (st : so_St u.1 b N p z) (h : z ≤ 0 ∨ (∀ e, ¬ so_right u.2.2.2.2 b N u.2.2.2.1 (p + z) e) ∨ ¬ so_left u.2.2.1.2 w u.2.2.1.1 m) : ∀ q, ¬ so_hit u b N w m p q := fun q g => by
  rcases st with ⟨z0, g0⟩ | ⟨_, nf⟩
  · have e : p + z = q := so_fits_u g0 g.1
    rcases h with h | h | h
    · have := so_fits_lh hl g0
      omega
    · obtain ⟨e2, r⟩ := g.2.1
      rw [← e] at r
      exact h e2 r
    · exact h g.2.2
  · exact nf q g.1
theorem so_hit_yes (st : so_St u.1 b N p z) (hz : 0 < z) (r : ∃ e, so_right u.2.2.2.2 b N u.2.2.2.1 (p + z) e) (l : so_left u.2.2.1.2 w u.2.2.1.1 m) : so_hit u b N w m p (p + z) := ⟨(st.resolve_right (fun h => by have := h.1; omega)).2, r, l⟩
/-- from here on to the end is from the start on -/
def so_on (u : so_ru) (b : Int → Int) (N p m : Int) (w : Int → Int) : Prop := ∀ z fin, (∃ f, so_res u b N f p m w z fin) → ∃ f, so_res u b N f 0 0 (fun _ => 0) z fin
theorem so_b_0 {g : Nat → Int} : so_b 0 g = fun _ => 0 := funext fun i => if_neg (fun h => by omega)
theorem so_on_0 {g : Nat → Int} : so_on u b N 0 0 (so_b 0 g) := by
  rw [so_b_0]
  exact fun _ _ h => h
theorem so_on_e (h : so_on u b N p m w) (hp : N ≤ p) : ∃ f, so_res u b N f 0 0 (fun _ => 0) m w := h m w ⟨1, Or.inl ⟨hp, rfl, rfl⟩⟩
theorem so_on_h (h : so_on u b N p m w) (hp : p < N) (hit : so_hit u b N w m p q) (h24 : m + u.2.1.1 ≤ 24) : so_on u b N q (m + u.2.1.1) (so_app w m u.2.1.1 u.2.1.2) := fun z fin ⟨f, g⟩ => h z fin ⟨f + 1, Or.inr ⟨hp, Or.inl ⟨q, hit, Or.inr ⟨h24, g⟩⟩⟩⟩
theorem so_on_hx (h : so_on u b N p m w) (hp : p < N) (hit : so_hit u b N w m p q) (h24 : 24 < m + u.2.1.1) (fin : Int → Int) : ∃ f, so_res u b N f 0 0 (fun _ => 0) (-1) fin := h (-1) fin ⟨1, Or.inr ⟨hp, Or.inl ⟨q, hit, Or.inl ⟨h24, rfl⟩⟩⟩⟩
theorem so_on_n (h : so_on u b N p m w) (hp : p < N) (no : ∀ q, ¬ so_hit u b N w m p q) (h24 : m + 1 ≤ 24) : so_on u b N (p + 1) (m + 1) (so_app w m 1 (fun _ => b p)) := fun z fin ⟨f, g⟩ => h z fin ⟨f + 1, Or.inr ⟨hp, Or.inr ⟨no, Or.inr ⟨h24, g⟩⟩⟩⟩
theorem so_on_nx (h : so_on u b N p m w) (hp : p < N) (no : ∀ q, ¬ so_hit u b N w m p q) (h24 : 24 < m + 1) (fin : Int → Int) : ∃ f, so_res u b N f 0 0 (fun _ => 0) (-1) fin := h (-1) fin ⟨1, Or.inr ⟨hp, Or.inr ⟨no, Or.inl ⟨h24, rfl⟩⟩⟩⟩
theorem so_app_0 : so_app w m 0 f = w := funext fun i => if_neg (fun h => by omega)
/-- one letter more is laid down -/
theorem so_app_s {g gₚ : Nat → Int} {c : Nat} (h : so_b (m + k) g = so_app w m k f) (hm : 0 ≤ m) (hk : 0 ≤ k) (hc : c = Int.toNat (m + k)) (ps : ∀ j, ¬ j = c → gₚ j = g j) (qs : gₚ c = f k) : so_b (m + k + 1) gₚ = so_app w m (k + 1) f := funext fun i => by
  subst hc
  have hi : (if 0 ≤ i ∧ i < m + k then g (Int.toNat i) else 0) = (if m ≤ i ∧ i < m + k then f (i - m) else w i) := by
    have h9 : so_b (m + k) g i = so_app w m k f i := by rw [h]
    exact h9
  show (if 0 ≤ i ∧ i < m + k + 1 then gₚ (Int.toNat i) else 0) = (if m ≤ i ∧ i < m + (k + 1) then f (i - m) else w i)
  by_cases c1 : i = m + k
  · subst c1
    rw [if_pos (show 0 ≤ m + k ∧ m + k < m + k + 1 by omega), if_pos (show m ≤ m + k ∧ m + k < m + (k + 1) by omega), qs, show m + k - m = k from by omega]
  · by_cases c2 : 0 ≤ i ∧ i < m + k
    · rw [if_pos (show 0 ≤ i ∧ i < m + k + 1 by omega), ps (Int.toNat i) (by omega)]
      rw [if_pos c2] at hi
      rw [hi]
      by_cases c3 : m ≤ i
      · rw [if_pos (show m ≤ i ∧ i < m + k by omega), if_pos (show m ≤ i ∧ i < m + (k + 1) by omega)]
      · rw [if_neg (show ¬ (m ≤ i ∧ i < m + k) by omega), if_neg (show ¬ (m ≤ i ∧ i < m + (k + 1)) by omega)]
    · rw [if_neg (show ¬ (0 ≤ i ∧ i < m + k + 1) by omega), if_neg (show ¬ (m ≤ i ∧ i < m + (k + 1)) by omega)]
      rw [if_neg c2, if_neg (show ¬ (m ≤ i ∧ i < m + k) by omega)] at hi
      exact hi
theorem so_b_i {n : Int} {g : Nat → Int} (h0 : 0 ≤ k) (h1 : k < n) : so_b n g k = g (Int.toNat k) := if_pos ⟨h0, h1⟩
theorem so_app_s0 {g gₚ : Nat → Int} {c : Nat} {x : Int} (hm : 0 ≤ m) (hc : c = Int.toNat m) (ps : ∀ j, ¬ j = c → gₚ j = g j) (qs : gₚ c = x) : so_b (m + 1) gₚ = so_app (so_b m g) m 1 (fun _ => x) := by
  have h := so_app_s (w := so_b m g) (m := m) (k := 0) (f := fun _ => x) (g := g) (gₚ := gₚ) (c := c) (by rw [Int.add_zero, so_app_0]) hm (by decide) (by rw [Int.add_zero]; exact hc) ps qs
  rw [Int.add_zero, show (0 : Int) + 1 = 1 from rfl] at h
  exact h
theorem so_b_cg {N N' : Int} {g gₚ : Nat → Int} (e : N' = N) (h : ∀ j : Nat, (j : Int) < N → gₚ j = g j) : so_b N' gₚ = so_b N g := by
  rw [e]
  exact so_cut_eq (fun i a c => h _ (by omega))
theorem so_all_low {U : Nat → so_ru} {n : Int} {fin : Int → Int} : ∀ {d r : Nat}, so_all U r b n fin z → z < 1 → so_all U (r + d) b n fin z
  | 0, _, h, _ => h
  | d + 1, r, h, hz => ⟨fin, z, so_all_low (d := d) h hz, Or.inl ⟨hz, rfl, rfl⟩⟩
/-- what comes of a word: how many letters, which; or it lacks -/
def so_out (U : Nat → so_ru) (c : Nat) (b : Int → Int) (n : Int) (g : Nat → Int) (n' r : Int) : Prop := ∃ fin z, so_all U c b n fin z ∧ ((1 ≤ z ∧ r = z ∧ n' = z ∧ so_b z g = fin) ∨ (z < 1 ∧ r = -1))
theorem so_out_u {U : Nat → so_ru} {c : Nat} {n n1 r1 n2 r2 : Int} {g1 g2 : Nat → Int} (hn : 0 ≤ n) (h1 : so_out U c b n g1 n1 r1) (h2 : so_out U c b n g2 n2 r2) : r1 = r2 ∧ (1 ≤ r1 → so_b r1 g1 = so_b r2 g2) := by
  obtain ⟨f1, z1, a1, c1⟩ := h1
  obtain ⟨f2, z2, a2, c2⟩ := h2
  obtain ⟨e1, e2⟩ := so_all_u hn a1 a2
  subst e1
  rcases c1 with ⟨x1, x2, _, x4⟩ | ⟨x1, x2⟩ <;> rcases c2 with ⟨y1, y2, _, y4⟩ | ⟨y1, y2⟩
  · refine ⟨x2.trans y2.symm, fun _ => ?_⟩
    rw [x2, y2, x4, y4]
    exact e2 (by omega)
  · omega
  · omega
  · exact ⟨x2.trans y2.symm, fun h => by omega⟩
theorem so_out_x {U : Nat → so_ru} {c j : Nat} {n : Int} {b1 fin : Int → Int} {n1 n' : Int} {g : Nat → Int} (h : so_all U j b n b1 n1) (h1 : 1 ≤ n1) (hr : ∃ f, so_res (U j) b1 n1 f 0 0 (fun _ => 0) (-1) fin) (hj : j < c) : so_out U c b n g n' (-1) := by
  have h2 : so_all U (j + 1) b n fin (-1) := ⟨b1, n1, h, Or.inr ⟨h1, hr⟩⟩
  have h3 := so_all_low (d := c - (j + 1)) h2 (by decide)
  rw [show j + 1 + (c - (j + 1)) = c from by omega] at h3
  exact ⟨fin, -1, h3, Or.inr ⟨by decide, rfl⟩⟩
end AL
/-! the reference's RULES -/
theorem gr_in_n {a k : Nat} (h0 : ¬ a = 0) (h1 : ¬ a = 76) (h2 : ¬ a = 77) : gr_in [126] [76, 77] a k = false := by
  cases a with
  | zero => exact absurd rfl h0
  | succ a =>
    show ([76, 77] : List Nat).elem (a + 1) = false
    cases h : ([76, 77] : List Nat).elem (a + 1) with
    | false => rfl
    | true =>
      have m := List.elem_iff.mp h
      simp only [List.mem_cons, List.not_mem_nil, or_false] at m
      omega
section AR
variable {I Iₚ : gr_I} {t r : Int}
theorem so_rr_fr (f : ∀ a k : Nat, ¬ a = 0 → ¬ a = 76 → ¬ a = 77 → Iₚ a k = I a k) : so_rr Iₚ t r = so_rr I t r := by
  have e26 : Iₚ 26 = I 26 := funext fun k => f 26 k (by decide) (by decide) (by decide)
  have e27 : Iₚ 27 = I 27 := funext fun k => f 27 k (by decide) (by decide) (by decide)
  have e28 : Iₚ 28 = I 28 := funext fun k => f 28 k (by decide) (by decide) (by decide)
  have e29 : Iₚ 29 = I 29 := funext fun k => f 29 k (by decide) (by decide) (by decide)
  have e30 : Iₚ 30 = I 30 := funext fun k => f 30 k (by decide) (by decide) (by decide)
  have e51 : Iₚ 51 = I 51 := funext fun k => f 51 k (by decide) (by decide) (by decide)
  unfold so_rr
  rw [e26, e27, e28, e29, e30, e51]
theorem so_oks_y {c n : Int} {f : Nat → Int} (h : so_oks c n f) : so_cn f ≤ 3 ∧ (∀ k : Nat, k < so_cn f → ¬ f k = 2147483647) ∧ ∀ k : Nat, so_cn f ≤ k → k < 3 → f k = 2147483647 := by
  obtain ⟨m, h3, h1, h2⟩ := h
  rw [so_oks_cn h3 h1 h2]
  exact ⟨h3, fun k hk => so_okx_n (h1 k hk), h2⟩
/-- all RULES of a TONGUE are good -/
def gs_SV (I : gr_I) (t : Int) : Prop := ∀ k : Int, 0 ≤ k → k < I 16 (Int.toNat t) → so_okr I t (24 * t + k) ∧ so_lh (so_rr I t (24 * t + k))
theorem so_rr_r (h : 0 ≤ I 28 (Int.toNat r)) : (so_rr I t r).2.1 = (so_n (I 28 (Int.toNat r)), so_cut (so_n (I 28 (Int.toNat r))) (fun i => I 51 (Int.toNat (so_o (I 28 (Int.toNat r)) + i)))) := by
  show (so_rx (I 26) (I 51) t (I 28 (Int.toNat r))).2 = _
  unfold so_rx
  rw [if_neg (by omega), if_neg (by omega)]
/-- the state form of so_on -/
def so_oni (I : gr_I) (t r p m : Int) : Prop := so_on (so_rr I t r) (so_b (I 0 126) (I 76)) (I 0 126) p m (so_b m (I 77))
def so_hii (I : gr_I) (t r p m q : Int) : Prop := so_hit (so_rr I t r) (so_b (I 0 126) (I 76)) (I 0 126) (so_b m (I 77)) m p q
theorem so_onif {q m' : Int} {w : Int → Int} (f : ∀ a k : Nat, ¬ a = 77 → Iₚ a k = I a k) (h : so_on (so_rr I t r) (so_b (I 0 126) (I 76)) (I 0 126) q m' w) (e : so_b m' (Iₚ 77) = w) : so_oni Iₚ t r q m' := by
  have e1 : so_rr Iₚ t r = so_rr I t r := so_rr_fr (fun a k _ _ h => f a k h)
  have e2 : Iₚ 76 = I 76 := funext fun k => f 76 k (by decide)
  unfold so_oni
  rw [e1, e2, f 0 126 (by decide), e]
  exact h
end AR
