def gc_TO (b : Int) (I : gr_I) : Prop := ∀ k : Nat, k < 40 → (k : Int) < I 39 12 → b ≤ I 43 k
theorem gc_TO_fr {b : Int} {I Iₚ : gr_I} (h : gc_TO b I) (h1 : Iₚ 39 12 = I 39 12) (hf : ∀ k, Iₚ 43 k = I 43 k) : gc_TO b Iₚ := fun k h9 hk => by rw [hf]; exact h k h9 (by omega)
def gc_TN (b : Int) (I : gr_I) (m j : Int) : Prop := ∀ k : Nat, k < 40 → ((k : Int) < m ∨ (j < (k : Int) ∧ (k : Int) ≤ m)) → b ≤ I 43 k
theorem gc_TN_0 {b : Int} {I : gr_I} (h : gc_TO b I) : gc_TN b I (I 39 12) (I 39 12) := fun k h9 hk => h k h9 (by omega)
theorem gc_TN_st {b : Int} {I Iₚ : gr_I} {m j : Int} (h : gc_TN b I m j) (hj : 0 < j ∧ j ≤ m) (p : ∀ q k, ¬ (q = 43 ∧ k = Int.toNat j) → Iₚ q k = I q k) (hz : Iₚ 43 (Int.toNat j) = I 43 (Int.toNat (j - 1))) (h40 : j ≤ 40) : gc_TN b Iₚ m (j + (-1)) := fun k h9 hk => by
  by_cases e : k = Int.toNat j
  · rw [e, hz]; exact h _ (by omega) (by omega)
  · rw [p 43 k (fun h => e h.2)]; exact h k h9 (by omega)
theorem gc_TN_put {b : Int} {I I1 : gr_I} {m a : Int} (h : gc_TN b I m a) (hm : 0 ≤ a ∧ a ≤ m) (p1 : ∀ q k, ¬ (q = 43 ∧ k = Int.toNat a) → I1 q k = I q k) (hz : b ≤ I1 43 (Int.toNat a)) : gc_TN b I1 m (-1) := fun k h9 hk => by
  by_cases e : k = Int.toNat a
  · rw [e]; exact hz
  · rw [p1 43 k (fun h => e h.2)]; exact h k h9 (by omega)
theorem gc_TO_0 {b : Int} {I : gr_I} (h : I 39 12 ≤ 0) : gc_TO b I := fun k h9 hk => by omega
def gc_SH (I Iₚ : gr_I) (j : Int) : Prop := ∀ k : Nat, ((k : Int) ≤ j → Iₚ 43 k = I 43 k) ∧ (j < (k : Int) → (k : Int) ≤ I 39 12 → Iₚ 43 k = I 43 (k - 1))
theorem gc_SH_0 {I : gr_I} : gc_SH I I (I 39 12) := fun k => ⟨fun _ => rfl, fun a b => by omega⟩
theorem gc_SH_st {I0 I Iₚ : gr_I} {j : Int} (h : gc_SH I0 I j) (hj : 0 < j) (p : ∀ q k, ¬ (q = 43 ∧ k = Int.toNat j) → Iₚ q k = I q k) (hz : Iₚ 43 (Int.toNat j) = I 43 (Int.toNat (j - 1))) : gc_SH I0 Iₚ (j + (-1)) := fun k => by
  refine ⟨fun h1 => ?_, fun h1 h2 => ?_⟩
  · rw [p 43 k (fun e => by have := e.2; omega)]
    exact (h k).1 (by omega)
  · by_cases e : k = Int.toNat j
    · rw [e, hz, (h (Int.toNat (j - 1))).1 (by omega), show Int.toNat (j - 1) = Int.toNat j - 1 from by omega]
    · rw [p 43 k (fun e' => e e'.2)]
      exact (h k).2 (by omega) h2
def gc_IN (I Iₚ : gr_I) (a op : Int) : Prop := I 39 12 ≤ 39 → (∀ k : Nat, (k : Int) < a → Iₚ 43 k = I 43 k) ∧ Iₚ 43 (Int.toNat a) = op ∧ ∀ k : Nat, a < (k : Int) → (k : Int) ≤ I 39 12 → Iₚ 43 k = I 43 (k - 1)
theorem gc_IN_mk {I0 I Iₚ : gr_I} {a op : Int} (h : gc_SH I0 I a) (ha : 0 ≤ a) (p : ∀ q k, ¬ (q = 43 ∧ k = Int.toNat a) → Iₚ q k = I q k) (hz : Iₚ 43 (Int.toNat a) = op) : gc_IN I0 Iₚ a op := fun _ => ⟨fun k hk => by rw [p 43 k (fun e => by have := e.2; omega)]; exact (h k).1 (by omega), hz, fun k h1 h2 => by rw [p 43 k (fun e => by have := e.2; omega)]; exact (h k).2 h1 h2⟩
theorem gc_IN_no {I Iₚ : gr_I} {a op : Int} (h : 39 < I 39 12) : gc_IN I Iₚ a op := fun h1 => absurd h1 (by omega)
theorem gc_IN_fr {I I0 Iₚ I'' : gr_I} {a op : Int} (h : gc_IN I Iₚ a op) (h1 : I0 39 12 = I 39 12) (r1 : ∀ k, I0 43 k = I 43 k) (r2 : ∀ k, I'' 43 k = Iₚ 43 k) : gc_IN I0 I'' a op := fun h4 => by
  obtain ⟨b, c, d⟩ := h (by omega)
  exact ⟨fun k hk => by rw [r2, r1]; exact b k hk, by rw [r2]; exact c, fun k e1 e2 => by rw [r2, r1]; exact d k e1 (by omega)⟩
theorem gc_TC_eq {f g : Nat → Int} {n : Int} (h : gc_TC f n) (e : ∀ k, k < Int.toNat n → g k = f k) : gc_TC g n := ⟨h.1, fun k hk => by rw [gc_N_eq (f := g) (g := f) (fun j hj => e j (by omega))]; exact h.2.1 k hk, by rw [gc_N_eq (f := g) (g := f) (fun j hj => e j hj)]; exact h.2.2⟩
theorem gc_N_c {f : Nat → Int} {d : Int} (h : gc_nw (f 0) = d) : ∀ k, gc_N f (k + 1) = gc_N (fun j => f (1 + j)) k + d
  | 0 => by
    show (1 : Int) + gc_nw (f 0) = 1 + d
    rw [h]
  | k + 1 => by
    show gc_N f (k + 1) + gc_nw (f (k + 1)) = gc_N (fun j => f (1 + j)) k + gc_nw (f (1 + k)) + d
    rw [gc_N_c h k, show 1 + k = k + 1 from by omega]
    omega
theorem gc_N_cat {g : Nat → Int} {n : Nat} : ∀ i, gc_N g (n + i) = gc_N g n + gc_N (fun j => g (n + j)) i - 1
  | 0 => by
    show gc_N g n = gc_N g n + 1 - 1
    omega
  | i + 1 => by
    show gc_N g (n + i) + gc_nw (g (n + i)) = gc_N g n + (gc_N (fun j => g (n + j)) i + gc_nw (g (n + i))) - 1
    rw [gc_N_cat i]
    omega
theorem gc_TC_b {f : Nat → Int} {n : Int} (h0 : f 0 = -2) (h : gc_TC (fun j => f (1 + j)) n) : gc_TC f (1 + n) := by
  obtain ⟨a, b, c⟩ := h
  have e := gc_N_c (f := f) (d := 0) (by rw [h0]; rfl)
  refine ⟨by omega, fun k hk => ?_, ?_⟩
  · cases k with
    | zero => exact Int.le_refl _
    | succ k =>
      rw [e]
      have := b k (by omega)
      omega
  · rw [show Int.toNat (1 + n) = Int.toNat n + 1 from by omega, e, c]
    rfl
theorem gc_TC_a {f : Nat → Int} {n m : Int} (h0 : f 0 = -1) (h1 : gc_TC (fun j => f (1 + j)) n) (h2 : gc_TC (fun j => f (1 + (Int.toNat n + j))) m) : gc_TC f (1 + n + m) := by
  obtain ⟨a, b, c⟩ := h1
  obtain ⟨a', b', c'⟩ := h2
  have e := gc_N_c (f := f) (d := 1) (by rw [h0]; rfl)
  have e2 : ∀ i, gc_N (fun j => f (1 + j)) (Int.toNat n + i) = gc_N (fun j => f (1 + (Int.toNat n + j))) i - 1 := fun i => by
    have h9 := gc_N_cat (g := fun j => f (1 + j)) (n := Int.toNat n) i
    rw [c] at h9
    have h8 : gc_N (fun j => (fun j => f (1 + j)) (Int.toNat n + j)) i = gc_N (fun j => f (1 + (Int.toNat n + j))) i := rfl
    omega
  refine ⟨by omega, fun k hk => ?_, ?_⟩
  · cases k with
    | zero => exact Int.le_refl _
    | succ k =>
      rw [e]
      by_cases hn : (k : Int) < n
      · have := b k hn
        omega
      · rw [show k = Int.toNat n + (k - Int.toNat n) from by omega, e2]
        have := b' (k - Int.toNat n) (by omega)
        omega
  · rw [show Int.toNat (1 + n + m) = (Int.toNat n + Int.toNat m) + 1 from by omega, e, e2, c']
    rfl
def gc_TD (I Iₚ : gr_I) : Prop := Iₚ 39 12 ≤ 40 → (∀ k : Nat, (k : Int) < I 39 12 → Iₚ 43 k = I 43 k) ∧ gc_TC (fun k => Iₚ 43 (Int.toNat (I 39 12) + k)) (Iₚ 39 12 - I 39 12)
def gc_TE (r : Int) (I Iₚ : gr_I) : Prop := r = 0 ∨ gc_TD I Iₚ
theorem gc_nw_lf {x : Int} (h : x ≤ -3 ∨ 0 ≤ x) : gc_nw x = -1 := by
  unfold gc_nw
  rw [if_neg (by omega), if_neg (by omega)]
theorem gc_TD_one {I Iₚ : gr_I} {a op : Int} (h : gc_IN I Iₚ a op) (ha : a = I 39 12) (h0 : 0 ≤ I 39 12) (h1 : Iₚ 39 12 = I 39 12 + 1) (ho : op ≤ -3 ∨ 0 ≤ op) : gc_TD I Iₚ := fun h4 => by
  subst ha
  obtain ⟨a, b, _⟩ := h (by omega)
  refine ⟨a, by omega, fun k hk => ?_, ?_⟩
  · have hk0 : k = 0 := by omega
    subst hk0
    exact Int.le_refl _
  · rw [h1, show Int.toNat (I 39 12 + 1 - I 39 12) = 1 from by omega]
    show (1 : Int) + gc_nw (Iₚ 43 (Int.toNat (I 39 12) + 0)) = 0
    rw [Nat.add_zero, b, gc_nw_lf ho]
    rfl
theorem gc_TD_fr {I I0 Iₚ I'' : gr_I} (h : gc_TD I Iₚ) (h1 : I0 39 12 = I 39 12) (r1 : ∀ k, I0 43 k = I 43 k) (h2 : I'' 39 12 = Iₚ 39 12) (r2 : ∀ k, I'' 43 k = Iₚ 43 k) : gc_TD I0 I'' := fun h4 => by
  obtain ⟨a, b⟩ := h (by omega)
  refine ⟨fun k hk => by rw [r2, r1]; exact a k (by omega), ?_⟩
  rw [h1, h2]
  exact gc_TC_eq b (fun k _ => r2 _)
theorem gc_TD_bind {I Ia Ib : gr_I} {a : Int} (h : gc_IN I Ia a (-2)) (ha : a = I 39 12) (h0 : 0 ≤ I 39 12) (h1 : Ia 39 12 = I 39 12 + 1) (h2 : gc_TD Ia Ib) (hm : Ia 39 12 ≤ Ib 39 12) : gc_TD I Ib := fun h4 => by
  subst ha
  obtain ⟨a, b, _⟩ := h (by omega)
  obtain ⟨c, d⟩ := h2 h4
  refine ⟨fun k hk => by rw [c k (by omega), a k hk], ?_⟩
  rw [show Ib 39 12 - I 39 12 = 1 + (Ib 39 12 - Ia 39 12) from by omega]
  refine gc_TC_b ?_ (gc_TC_eq d (fun k hk => ?_))
  · show Ib 43 (Int.toNat (I 39 12) + 0) = -2
    rw [Nat.add_zero, c _ (by omega), b]
  · show Ib 43 (Int.toNat (I 39 12) + (1 + k)) = Ib 43 (Int.toNat (Ia 39 12) + k)
    rw [show Int.toNat (I 39 12) + (1 + k) = Int.toNat (Ia 39 12) + k from by omega]
theorem gc_TD_app {I Ia Ib Ic : gr_I} {a : Int} (h1 : gc_TD I Ia) (hm1 : I 39 12 ≤ Ia 39 12) (h0 : 0 ≤ I 39 12) (hi : gc_IN Ia Ib a (-1)) (ha : a = I 39 12) (hb : Ib 39 12 = Ia 39 12 + 1) (h2 : gc_TD Ib Ic) (hm : Ib 39 12 ≤ Ic 39 12) : gc_TD I Ic := fun h4 => by
  subst ha
  obtain ⟨a1, b1⟩ := h1 (by omega)
  obtain ⟨a2, b2, c2⟩ := hi (by omega)
  obtain ⟨a3, b3⟩ := h2 h4
  refine ⟨fun k hk => by rw [a3 k (by omega), a2 k hk, a1 k hk], ?_⟩
  rw [show Ic 39 12 - I 39 12 = 1 + (Ia 39 12 - I 39 12) + (Ic 39 12 - Ib 39 12) from by omega]
  refine gc_TC_a ?_ (gc_TC_eq b1 (fun k hk => ?_)) (gc_TC_eq b3 (fun k hk => ?_))
  · show Ic 43 (Int.toNat (I 39 12) + 0) = -1
    rw [Nat.add_zero, a3 _ (by omega), b2]
  · show Ic 43 (Int.toNat (I 39 12) + (1 + k)) = Ia 43 (Int.toNat (I 39 12) + k)
    rw [a3 _ (by omega), c2 _ (by omega) (by omega), show Int.toNat (I 39 12) + (1 + k) - 1 = Int.toNat (I 39 12) + k from by omega]
  · show Ic 43 (Int.toNat (I 39 12) + (1 + (Int.toNat (Ia 39 12 - I 39 12) + k))) = Ic 43 (Int.toNat (Ib 39 12) + k)
    rw [show Int.toNat (I 39 12) + (1 + (Int.toNat (Ia 39 12 - I 39 12) + k)) = Int.toNat (Ib 39 12) + k from by omega]
set_option maxHeartbeats 8000000 in
set_option maxRecDepth 100000 in
theorem d_X6_putNode {ws0 : List Cond} {tb : String → gz_T} (hws : gc_Ws ws0) (htb : gc_tbs tb) (sh : gz_Sh) (ro : Nat → Nat) (I : gr_I) (J : gr_J) (A : gc_A) (hI : gc_Inv ro I) (b : Int) (a1 : Int) (a2 : Int) (a3 : Int64) (hb : gc_Base sh ro A) (ha1 : 0 ≤ a1 ∧ a1 ≤ 2000) (ha2 : (-7) ≤ a2 ∧ a2 ≤ 41) (x0 : a1 ≤ I 39 12) (x1 : b ≤ a2) (x2 : I 39 12 ≤ 1999) (KTO_I : gc_TO b I) : ∃ r hₚ, gz_Ev ws0 tb 1 (yX6_putNode, cX6_putNode, 6, none) [.inr (.inr (some 39)), .inl a1, .inl a2, .inr (.inl a3)] sh (gc_h sh I J A) r sh hₚ 0 0 ∧ (∃ (Iₚ : gr_I) (Jₚ : gr_J), hₚ = gc_h sh Iₚ Jₚ A ∧ gc_Inv ro Iₚ ∧ (∀ q j : Nat, ((q = 39 ∧ j = 12) ∨ q = 43) ∨ Iₚ q j = I q j) ∧ (∀ q j : Nat, (q = 44) ∨ Jₚ q j = J q j) ∧ gc_TO b Iₚ ∧ r = none ∧ (Iₚ 39 12 = I 39 12 + 1) ∧ (gc_IN I Iₚ a1 a2)) := by
  have FI : ∀ q j : Nat, ((q = 39 ∧ j = 12) ∨ q = 43) ∨ I q j = I q j := fun _ _ => Or.inr rfl
  have FJ : ∀ q j : Nat, (q = 44) ∨ J q j = J q j := fun _ _ => Or.inr rfl
  have A_39_13 : A 39 13 = some 43 := gc_bA_39_13 hb
  have A_39_14 : A 39 14 = some 44 := gc_bA_39_14 hb
  have B_39 := gz_hi (show 39 < 1000000 from by decide)
  have B_43 := gz_hi (show 43 < 1000000 from by decide)
  have B_44 := gz_hi (show 44 < 1000000 from by decide)
  have R_39 := gz_hi (show ro 39 = 42 from gc_bR_39 hb)
  have R_43 := gz_hi (show ro 43 = 50 from gc_bR_43 hb)
  have S_39 : sh[39]? = some (false, 6, 19) := gc_bS_39 hb
  have S_43 : sh[43]? = some (true, 1, 40) := gc_bS_43 hb
  have S_44 : sh[44]? = some (true, 2, 40) := gc_bS_44 hb
  have hD : gv_D (gc_E6 ws0 tb 0 (yX6_putNode, cX6_putNode, 6, none) kX6_putNode) := gq_of oX6_putNode
  refine gc_ev6 (d := 0) (l := kX6_putNode) (Po := fun r hₚ => (∃ (Iₚ : gr_I) (Jₚ : gr_J), hₚ = gc_h sh Iₚ Jₚ A ∧ gc_Inv ro Iₚ ∧ (∀ q j : Nat, ((q = 39 ∧ j = 12) ∨ q = 43) ∨ Iₚ q j = I q j) ∧ (∀ q j : Nat, (q = 44) ∨ Jₚ q j = J q j) ∧ gc_TO b Iₚ ∧ r = none ∧ (Iₚ 39 12 = I 39 12 + 1) ∧ (gc_IN I Iₚ a1 a2))) htb rfl (Nat.le_of_ble_eq_true rfl) ?_
  have f1 := gz_hi ((gc_b_42_12 hI (gz_sh R_39)))
  have L73 : ∀ (I2 : gr_I) (J3 : gr_J) , gc_Inv ro I2 → (∀ q j : Nat, ((q = 39 ∧ j = 12) ∨ q = 43) ∨ I2 q j = I q j) → (∀ q j : Nat, (q = 44) ∨ J3 q j = J q j) → ((I2 39 12 = I 39 12)) → (gc_TN b I2 (I2 39 12) (-1)) → (gc_IN I I2 a1 a2) → gv_X (gc_E6 ws0 tb 0 (yX6_putNode, cX6_putNode, 6, none) kX6_putNode) (gv_Q cX6_putNode none sh (fun r hₚ => (∃ (Iₚ : gr_I) (Jₚ : gr_J), hₚ = gc_h sh Iₚ Jₚ A ∧ gc_Inv ro Iₚ ∧ (∀ q j : Nat, ((q = 39 ∧ j = 12) ∨ q = 43) ∨ Iₚ q j = I q j) ∧ (∀ q j : Nat, (q = 44) ∨ Jₚ q j = J q j) ∧ gc_TO b Iₚ ∧ r = none ∧ (Iₚ 39 12 = I 39 12 + 1) ∧ (gc_IN I Iₚ a1 a2)))) (73, [(0, .inr (.inr (some 39)))], [], sh, gc_h sh I2 J3 A) := by
    intro I2 J3 hI2 FI2 FJ3 m_4 e0_4 e1_4
    have e2_4 := m_4
    refine gv_run 2 true hD (pcₚ := 75) (lvₚ := [(0, .inr (.inr (some 39)))]) (stₚ := [.inr (.inr (some 39)), .inr (.inr (some 39))]) (hₚ := gc_h sh I2 J3 A) (C := ((True ∧ True) ∧ True)) rfl ⟨⟨trivial, trivial⟩, trivial⟩ ?_
    refine gv_get hD rfl rfl S_39 ⟨by decide, (gz_sh B_39)⟩ (gc_hI S_39 rfl) ?_
    show gv_X _ _ (78, [(0, .inr (.inr (some 39)))], [.inl (I2 39 12), .inr (.inr (some 39))], sh, gc_h sh I2 J3 A)
    refine gv_run 2 true hD (pcₚ := 80) (lvₚ := [(0, .inr (.inr (some 39)))]) (stₚ := [.inl ((I2 39 12) + 1), .inr (.inr (some 39))]) (hₚ := gc_h sh I2 J3 A) (C := ((True ∧ True) ∧ True)) rfl ⟨⟨trivial, trivial⟩, trivial⟩ ?_
    refine gv_put hD rfl rfl S_39 ⟨by decide, (gz_sh B_39)⟩ rfl trivial ?_
    refine gc_st (k := 12) hI2 S_39 rfl (gz_sh R_39) (lo := 0) (hi := 2000) rfl rfl (by (/-0-/first | (have o1 := gz_sh f1; omega) | (simp only [gz_hd] at *; omega))) (by (/-1-/first | omega | (simp only [gz_hd] at *; omega))) (fun I7 hI7 q8 p8 => ?_)
    have FI7 := gc_frs (W := fun q j => (q = 39 ∧ j = 12) ∨ q = 43) FI2 (Or.inl ⟨rfl, rfl⟩) p8
    show gv_X _ _ (83, [(0, .inr (.inr (some 39)))], [], sh, gc_h sh I7 J3 A)
    exact gv_vret hD rfl ⟨I7, J3, rfl, hI7, FI7, FJ3, (fun k h9 hk => by rw [p8 43 k (fun h => absurd h.1 (by (/-2-/first | omega | (simp only [gz_hd] at *; omega))))]; exact e0_4 k h9 (by (/-3-/first | omega | (simp only [gz_hd] at *; omega)))), ⟨rfl, by (/-4-/first | omega | (simp only [gz_hd] at *; omega)), (gc_IN_fr e1_4 rfl (fun _ => rfl) (fun k => p8 43 k (fun h => absurd h.1 (by (/-5-/first | omega | (simp only [gz_hd] at *; omega))))))⟩⟩
  have L15 : ∀ (n9 : Nat) (I10 : gr_I) (J11 : gr_J) (v5_12 : Int), (v5_12).toNat < n9 → gc_Inv ro I10 → (∀ q j : Nat, ((q = 39 ∧ j = 12) ∨ q = 43) ∨ I10 q j = I q j) → (∀ q j : Nat, (q = 44) ∨ J11 q j = J q j) → ((0 ≤ a1 ∧ a1 ≤ 2000) ∧ ((-7) ≤ a2 ∧ a2 ≤ 41) ∧ (0 ≤ v5_12 ∧ v5_12 ≤ 39) ∧ (v5_12 ≤ I10 39 12) ∧ (a1 ≤ v5_12) ∧ (I10 39 12 = I 39 12) ∧ (I10 39 12 ≤ 39)) → (gc_TN b I10 (I10 39 12) v5_12) → (gc_SH I I10 v5_12) → gv_X (gc_E6 ws0 tb 0 (yX6_putNode, cX6_putNode, 6, none) kX6_putNode) (gv_Q cX6_putNode none sh (fun r hₚ => (∃ (Iₚ : gr_I) (Jₚ : gr_J), hₚ = gc_h sh Iₚ Jₚ A ∧ gc_Inv ro Iₚ ∧ (∀ q j : Nat, ((q = 39 ∧ j = 12) ∨ q = 43) ∨ Iₚ q j = I q j) ∧ (∀ q j : Nat, (q = 44) ∨ Jₚ q j = J q j) ∧ gc_TO b Iₚ ∧ r = none ∧ (Iₚ 39 12 = I 39 12 + 1) ∧ (gc_IN I Iₚ a1 a2)))) (15, [(0, .inr (.inr (some 39))), (1, .inl a1), (2, .inl a2), (3, .inr (.inl a3)), (5, .inl v5_12)], [], sh, gc_h sh I10 J11 A) := by
    intro n9
    induction n9 with
    | zero => intro I10 J11 v5_12 hn; (/-6-/first | omega | (simp only [gz_hd] at *; omega))
    | succ n9 ih15 =>
      intro I10 J11 v5_12 hn hI10 FI10 FJ11 m_12 e0_12 e1_12
      obtain ⟨ha1_12, ha2_12, hv5_12, e2_12, e3_12, e4_12, e5_12⟩ := gz_h7 m_12
      refine gv_run 2 true hD (pcₚ := 18) (lvₚ := [(0, .inr (.inr (some 39))), (1, .inl a1), (2, .inl a2), (3, .inr (.inl a3)), (5, .inl v5_12)]) (stₚ := [.inl a1, .inl v5_12]) (hₚ := gc_h sh I10 J11 A) (C := ((True ∧ True) ∧ True)) rfl ⟨⟨trivial, trivial⟩, trivial⟩ ?_
      refine gv_icmp_le (t := 59) hD rfl rfl ⟨⟨by (/-7-/first | (have o1 := gz_sh hv5_12; omega) | (simp only [gz_hd] at *; omega)), by (/-8-/first | (have o1 := gz_sh hv5_12; omega) | (simp only [gz_hd] at *; omega))⟩, ⟨by (/-9-/first | omega | (simp only [gz_hd] at *; omega)), by (/-10-/first | omega | (simp only [gz_hd] at *; omega))⟩⟩ (fun c14 => ?_) (fun c14 => ?_)
      · show gv_X _ _ (59, [(0, .inr (.inr (some 39))), (1, .inl a1), (2, .inl a2), (3, .inr (.inl a3)), (5, .inl v5_12)], [], sh, gc_h sh I10 J11 A)
        refine gv_run 1 true hD (pcₚ := 60) (lvₚ := [(0, .inr (.inr (some 39))), (1, .inl a1), (2, .inl a2), (3, .inr (.inl a3)), (5, .inl v5_12)]) (stₚ := [.inr (.inr (some 39))]) (hₚ := gc_h sh I10 J11 A) (C := (True ∧ True)) rfl ⟨trivial, trivial⟩ ?_
        refine gv_get hD rfl rfl S_39 ⟨by decide, (gz_sh B_39)⟩ (gc_hA S_39 rfl A_39_13) ?_
        show gv_X _ _ (63, [(0, .inr (.inr (some 39))), (1, .inl a1), (2, .inl a2), (3, .inr (.inl a3)), (5, .inl v5_12)], [.inr (.inr (some 43))], sh, gc_h sh I10 J11 A)
        refine gv_run 2 true hD (pcₚ := 65) (lvₚ := [(0, .inr (.inr (some 39))), (1, .inl a1), (2, .inl a2), (3, .inr (.inl a3)), (5, .inl v5_12)]) (stₚ := [.inl a2, .inl a1, .inr (.inr (some 43))]) (hₚ := gc_h sh I10 J11 A) (C := ((True ∧ True) ∧ True)) rfl ⟨⟨trivial, trivial⟩, trivial⟩ ?_
        refine gv_iast hD rfl S_43 ⟨by decide, (gz_sh B_43)⟩ ⟨by (/-11-/first | (have o1 := gz_sh hv5_12; omega) | (simp only [gz_hd] at *; omega)), by (/-12-/first | (have o1 := gz_sh e3_12; have o2 := gz_sh hv5_12; omega) | (simp only [gz_hd] at *; omega))⟩ ?_
        refine gc_st hI10 S_43 rfl (gz_sh R_43) (lo := (-7)) (hi := 41) rfl rfl (by (/-13-/first | omega | (simp only [gz_hd] at *; omega))) (by (/-14-/first | omega | (simp only [gz_hd] at *; omega))) (fun I15 hI15 q16 p16 => ?_)
        have FI15 := gc_frs (W := fun q j => (q = 39 ∧ j = 12) ∨ q = 43) FI10 (Or.inr rfl) p16
        have t17 := gz_hi (p16 39 12 (fun h => absurd h.1 (by first | exact gz_ne rfl | decide)))
        show gv_X _ _ (66, [(0, .inr (.inr (some 39))), (1, .inl a1), (2, .inl a2), (3, .inr (.inl a3)), (5, .inl v5_12)], [], sh, gc_h sh I15 J11 A)
        refine gv_run 1 true hD (pcₚ := 67) (lvₚ := [(0, .inr (.inr (some 39))), (1, .inl a1), (2, .inl a2), (3, .inr (.inl a3)), (5, .inl v5_12)]) (stₚ := [.inr (.inr (some 39))]) (hₚ := gc_h sh I15 J11 A) (C := (True ∧ True)) rfl ⟨trivial, trivial⟩ ?_
        refine gv_get hD rfl rfl S_39 ⟨by decide, (gz_sh B_39)⟩ (gc_hA S_39 rfl A_39_14) ?_
        show gv_X _ _ (70, [(0, .inr (.inr (some 39))), (1, .inl a1), (2, .inl a2), (3, .inr (.inl a3)), (5, .inl v5_12)], [.inr (.inr (some 44))], sh, gc_h sh I15 J11 A)
        refine gv_run 2 true hD (pcₚ := 72) (lvₚ := [(0, .inr (.inr (some 39))), (1, .inl a1), (2, .inl a2), (3, .inr (.inl a3)), (5, .inl v5_12)]) (stₚ := [.inr (.inl a3), .inl a1, .inr (.inr (some 44))]) (hₚ := gc_h sh I15 J11 A) (C := ((True ∧ True) ∧ True)) rfl ⟨⟨trivial, trivial⟩, trivial⟩ ?_
        refine gv_last hD rfl S_44 ⟨by decide, (gz_sh B_44)⟩ ⟨by (/-15-/first | (have o1 := gz_sh hv5_12; omega) | (simp only [gz_hd] at *; omega)), by (/-16-/first | (have o1 := gz_sh e3_12; have o2 := gz_sh hv5_12; omega) | (simp only [gz_hd] at *; omega))⟩ ?_
        refine gc_stJ S_44 rfl (fun J18 q19 p19 => ?_)
        have FJ18 := gc_frs (W := fun q j => q = 44) FJ11 rfl p19
        show gv_X _ _ (73, [(0, .inr (.inr (some 39))), (1, .inl a1), (2, .inl a2), (3, .inr (.inl a3)), (5, .inl v5_12)], [], sh, gc_h sh I15 J18 A)
        refine gv_pick [0] rfl ?_
        exact L73 I15 J18 hI15 FI15 FJ18 (by (/-17-/first | (have o1 := gz_sh e4_12; have o2 := gz_sh t17; omega) | (simp only [gz_hd] at *; omega))) (by have h9 := gc_TN_put (show gc_TN b I10 (I10 39 12) a1 from by rw [show a1 = v5_12 from by (/-18-/first | (have o1 := gz_sh e3_12; omega) | (simp only [gz_hd] at *; omega))]; exact e0_12) (by (/-19-/first | (and_intros; (have o1 := gz_sh hv5_12; omega); (have o1 := gz_sh e4_12; omega)) | (simp only [gz_hd] at *; omega))) p16 (by (/-20-/first | omega | (simp only [gz_hd] at *; omega))); rw [show I15 39 12 = I10 39 12 from by (/-21-/first | (have o1 := gz_sh t17; omega) | (simp only [gz_hd] at *; omega))]; exact h9) (gc_IN_mk (by rw [show a1 = v5_12 from by (/-22-/first | (have o1 := gz_sh e3_12; omega) | (simp only [gz_hd] at *; omega))]; exact e1_12) (by (/-23-/first | (have o1 := gz_sh hv5_12; omega) | (simp only [gz_hd] at *; omega))) p16 (by (/-24-/first | omega | (simp only [gz_hd] at *; omega))))
      · show gv_X _ _ (21, [(0, .inr (.inr (some 39))), (1, .inl a1), (2, .inl a2), (3, .inr (.inl a3)), (5, .inl v5_12)], [], sh, gc_h sh I10 J11 A)
        refine gv_run 1 true hD (pcₚ := 22) (lvₚ := [(0, .inr (.inr (some 39))), (1, .inl a1), (2, .inl a2), (3, .inr (.inl a3)), (5, .inl v5_12)]) (stₚ := [.inr (.inr (some 39))]) (hₚ := gc_h sh I10 J11 A) (C := (True ∧ True)) rfl ⟨trivial, trivial⟩ ?_
        refine gv_get hD rfl rfl S_39 ⟨by decide, (gz_sh B_39)⟩ (gc_hA S_39 rfl A_39_13) ?_
        show gv_X _ _ (25, [(0, .inr (.inr (some 39))), (1, .inl a1), (2, .inl a2), (3, .inr (.inl a3)), (5, .inl v5_12)], [.inr (.inr (some 43))], sh, gc_h sh I10 J11 A)
        refine gv_run 2 true hD (pcₚ := 28) (lvₚ := [(0, .inr (.inr (some 39))), (1, .inl a1), (2, .inl a2), (3, .inr (.inl a3)), (5, .inl v5_12)]) (stₚ := [.inr (.inr (some 39)), .inl v5_12, .inr (.inr (some 43))]) (hₚ := gc_h sh I10 J11 A) (C := ((True ∧ True) ∧ True)) rfl ⟨⟨trivial, trivial⟩, trivial⟩ ?_
        refine gv_get hD rfl rfl S_39 ⟨by decide, (gz_sh B_39)⟩ (gc_hA S_39 rfl A_39_13) ?_
        show gv_X _ _ (31, [(0, .inr (.inr (some 39))), (1, .inl a1), (2, .inl a2), (3, .inr (.inl a3)), (5, .inl v5_12)], [.inr (.inr (some 43)), .inl v5_12, .inr (.inr (some 43))], sh, gc_h sh I10 J11 A)
        refine gv_run 3 true hD (pcₚ := 35) (lvₚ := [(0, .inr (.inr (some 39))), (1, .inl a1), (2, .inl a2), (3, .inr (.inl a3)), (5, .inl v5_12)]) (stₚ := [.inl (v5_12 - 1), .inr (.inr (some 43)), .inl v5_12, .inr (.inr (some 43))]) (hₚ := gc_h sh I10 J11 A) (C := (((True ∧ True) ∧ True) ∧ True)) rfl ⟨⟨⟨trivial, trivial⟩, trivial⟩, trivial⟩ ?_
        have f20 := gz_hi ((gc_b_50 hI10 (gz_sh R_43) (Int.toNat (v5_12 - 1))))
        refine gv_iald hD rfl S_43 rfl ⟨by decide, (gz_sh B_43)⟩ ⟨by (/-25-/first | omega | (simp only [gz_hd] at *; omega)), by (/-26-/first | (have o1 := gz_sh hv5_12; omega) | (simp only [gz_hd] at *; omega))⟩ (gc_iI S_43 rfl) ?_
        show gv_X _ _ (36, [(0, .inr (.inr (some 39))), (1, .inl a1), (2, .inl a2), (3, .inr (.inl a3)), (5, .inl v5_12)], [.inl (I10 43 (Int.toNat (v5_12 - 1))), .inl v5_12, .inr (.inr (some 43))], sh, gc_h sh I10 J11 A)
        refine gv_iast hD rfl S_43 ⟨by decide, (gz_sh B_43)⟩ ⟨by (/-27-/first | (have o1 := gz_sh hv5_12; omega) | (simp only [gz_hd] at *; omega)), by (/-28-/first | (have o1 := gz_sh hv5_12; omega) | (simp only [gz_hd] at *; omega))⟩ ?_
        refine gc_st hI10 S_43 rfl (gz_sh R_43) (lo := (-7)) (hi := 41) rfl rfl (by (/-29-/first | (have o1 := gz_sh f20; omega) | (simp only [gz_hd] at *; omega))) (by (/-30-/first | (have o1 := gz_sh f20; omega) | (simp only [gz_hd] at *; omega))) (fun I21 hI21 q22 p22 => ?_)
        have FI21 := gc_frs (W := fun q j => (q = 39 ∧ j = 12) ∨ q = 43) FI10 (Or.inr rfl) p22
        have t23 := gz_hi (p22 39 12 (fun h => absurd h.1 (by first | exact gz_ne rfl | decide)))
        show gv_X _ _ (37, [(0, .inr (.inr (some 39))), (1, .inl a1), (2, .inl a2), (3, .inr (.inl a3)), (5, .inl v5_12)], [], sh, gc_h sh I21 J11 A)
        refine gv_run 1 true hD (pcₚ := 38) (lvₚ := [(0, .inr (.inr (some 39))), (1, .inl a1), (2, .inl a2), (3, .inr (.inl a3)), (5, .inl v5_12)]) (stₚ := [.inr (.inr (some 39))]) (hₚ := gc_h sh I21 J11 A) (C := (True ∧ True)) rfl ⟨trivial, trivial⟩ ?_
        refine gv_get hD rfl rfl S_39 ⟨by decide, (gz_sh B_39)⟩ (gc_hA S_39 rfl A_39_14) ?_
        show gv_X _ _ (41, [(0, .inr (.inr (some 39))), (1, .inl a1), (2, .inl a2), (3, .inr (.inl a3)), (5, .inl v5_12)], [.inr (.inr (some 44))], sh, gc_h sh I21 J11 A)
        refine gv_run 2 true hD (pcₚ := 44) (lvₚ := [(0, .inr (.inr (some 39))), (1, .inl a1), (2, .inl a2), (3, .inr (.inl a3)), (5, .inl v5_12)]) (stₚ := [.inr (.inr (some 39)), .inl v5_12, .inr (.inr (some 44))]) (hₚ := gc_h sh I21 J11 A) (C := ((True ∧ True) ∧ True)) rfl ⟨⟨trivial, trivial⟩, trivial⟩ ?_
        refine gv_get hD rfl rfl S_39 ⟨by decide, (gz_sh B_39)⟩ (gc_hA S_39 rfl A_39_14) ?_
        show gv_X _ _ (47, [(0, .inr (.inr (some 39))), (1, .inl a1), (2, .inl a2), (3, .inr (.inl a3)), (5, .inl v5_12)], [.inr (.inr (some 44)), .inl v5_12, .inr (.inr (some 44))], sh, gc_h sh I21 J11 A)
        refine gv_run 3 true hD (pcₚ := 51) (lvₚ := [(0, .inr (.inr (some 39))), (1, .inl a1), (2, .inl a2), (3, .inr (.inl a3)), (5, .inl v5_12)]) (stₚ := [.inl (v5_12 - 1), .inr (.inr (some 44)), .inl v5_12, .inr (.inr (some 44))]) (hₚ := gc_h sh I21 J11 A) (C := (((True ∧ True) ∧ True) ∧ True)) rfl ⟨⟨⟨trivial, trivial⟩, trivial⟩, trivial⟩ ?_
        refine gv_lald hD rfl S_44 rfl ⟨by decide, (gz_sh B_44)⟩ ⟨by (/-31-/first | omega | (simp only [gz_hd] at *; omega)), by (/-32-/first | (have o1 := gz_sh hv5_12; omega) | (simp only [gz_hd] at *; omega))⟩ (gc_jJ S_44 rfl) ?_
        show gv_X _ _ (52, [(0, .inr (.inr (some 39))), (1, .inl a1), (2, .inl a2), (3, .inr (.inl a3)), (5, .inl v5_12)], [.inr (.inl (J11 44 (Int.toNat (v5_12 - 1)))), .inl v5_12, .inr (.inr (some 44))], sh, gc_h sh I21 J11 A)
        refine gv_last hD rfl S_44 ⟨by decide, (gz_sh B_44)⟩ ⟨by (/-33-/first | (have o1 := gz_sh hv5_12; omega) | (simp only [gz_hd] at *; omega)), by (/-34-/first | (have o1 := gz_sh hv5_12; omega) | (simp only [gz_hd] at *; omega))⟩ ?_
        refine gc_stJ S_44 rfl (fun J24 q25 p25 => ?_)
        have FJ24 := gc_frs (W := fun q j => q = 44) FJ11 rfl p25
        show gv_X _ _ (53, [(0, .inr (.inr (some 39))), (1, .inl a1), (2, .inl a2), (3, .inr (.inl a3)), (5, .inl v5_12)], [], sh, gc_h sh I21 J24 A)
        refine gv_run 2 true hD (pcₚ := 15) (lvₚ := [(5, .inl (v5_12 + (-1))), (0, .inr (.inr (some 39))), (1, .inl a1), (2, .inl a2), (3, .inr (.inl a3))]) (stₚ := []) (hₚ := gc_h sh I21 J24 A) (C := ((True ∧ True) ∧ True)) rfl ⟨⟨trivial, trivial⟩, trivial⟩ ?_
        refine gv_pick [1, 2, 3, 4, 0] rfl ?_
        exact ih15 I21 J24 ((v5_12 + (-1))) (by (/-35-/first | (have o1 := gz_sh hv5_12; omega) | (simp only [gz_hd] at *; omega))) hI21 FI21 FJ24 (by (/-36-/first | (and_intros; (omega); (omega); (omega); (omega); (omega); (have o1 := gz_sh hv5_12; omega); (have o1 := gz_sh e2_12; have o2 := gz_sh t23; omega); (omega); (have o1 := gz_sh e4_12; have o2 := gz_sh t23; omega); (have o1 := gz_sh e5_12; have o2 := gz_sh t23; omega)) | (simp only [gz_hd] at *; omega))) (by have h9 := gc_TN_st e0_12 (by (/-37-/first | (and_intros; (omega); (have o1 := gz_sh e2_12; omega)) | (simp only [gz_hd] at *; omega))) p22 q22 (by (/-38-/first | (have o1 := gz_sh hv5_12; omega) | (simp only [gz_hd] at *; omega))); rw [show I21 39 12 = I10 39 12 from by (/-39-/first | (have o1 := gz_sh t23; omega) | (simp only [gz_hd] at *; omega))]; exact h9) (gc_SH_st e1_12 (by (/-40-/first | omega | (simp only [gz_hd] at *; omega))) p22 q22)
  refine gv_run 1 true hD (pcₚ := 1) (lvₚ := [(0, .inr (.inr (some 39))), (1, .inl a1), (2, .inl a2), (3, .inr (.inl a3))]) (stₚ := [.inr (.inr (some 39))]) (hₚ := gc_h sh I J A) (C := (True ∧ True)) rfl ⟨trivial, trivial⟩ ?_
  refine gv_get hD rfl rfl S_39 ⟨by decide, (gz_sh B_39)⟩ (gc_hI S_39 rfl) ?_
  show gv_X _ _ (4, [(0, .inr (.inr (some 39))), (1, .inl a1), (2, .inl a2), (3, .inr (.inl a3))], [.inl (I 39 12)], sh, gc_h sh I J A)
  refine gv_run 1 true hD (pcₚ := 6) (lvₚ := [(0, .inr (.inr (some 39))), (1, .inl a1), (2, .inl a2), (3, .inr (.inl a3))]) (stₚ := [.inl 40, .inl (I 39 12)]) (hₚ := gc_h sh I J A) (C := (True ∧ True)) rfl ⟨trivial, trivial⟩ ?_
  refine gv_icmp_ge (t := 73) hD rfl rfl ⟨⟨by (/-41-/first | (have o1 := gz_sh f1; omega) | (simp only [gz_hd] at *; omega)), by (/-42-/first | omega | (simp only [gz_hd] at *; omega))⟩, ⟨by (/-43-/first | omega | (simp only [gz_hd] at *; omega)), by (/-44-/first | omega | (simp only [gz_hd] at *; omega))⟩⟩ (fun c27 => ?_) (fun c27 => ?_)
  · show gv_X _ _ (73, [(0, .inr (.inr (some 39))), (1, .inl a1), (2, .inl a2), (3, .inr (.inl a3))], [], sh, gc_h sh I J A)
    refine gv_pick [0] rfl ?_
    exact L73 I J hI FI FJ (by (/-45-/first | omega | (simp only [gz_hd] at *; omega))) (fun k h9 hk => KTO_I k h9 (by (/-46-/first | omega | (simp only [gz_hd] at *; omega)))) (gc_IN_no (by (/-47-/first | omega | (simp only [gz_hd] at *; omega))))
  · show gv_X _ _ (9, [(0, .inr (.inr (some 39))), (1, .inl a1), (2, .inl a2), (3, .inr (.inl a3))], [], sh, gc_h sh I J A)
    refine gv_run 1 true hD (pcₚ := 10) (lvₚ := [(0, .inr (.inr (some 39))), (1, .inl a1), (2, .inl a2), (3, .inr (.inl a3))]) (stₚ := [.inr (.inr (some 39))]) (hₚ := gc_h sh I J A) (C := (True ∧ True)) rfl ⟨trivial, trivial⟩ ?_
    refine gv_get hD rfl rfl S_39 ⟨by decide, (gz_sh B_39)⟩ (gc_hI S_39 rfl) ?_
    show gv_X _ _ (13, [(0, .inr (.inr (some 39))), (1, .inl a1), (2, .inl a2), (3, .inr (.inl a3))], [.inl (I 39 12)], sh, gc_h sh I J A)
    refine gv_run 1 true hD (pcₚ := 15) (lvₚ := [(5, .inl (I 39 12)), (0, .inr (.inr (some 39))), (1, .inl a1), (2, .inl a2), (3, .inr (.inl a3))]) (stₚ := []) (hₚ := gc_h sh I J A) (C := (True ∧ True)) rfl ⟨trivial, trivial⟩ ?_
    refine gv_pick [1, 2, 3, 4, 0] rfl ?_
    exact L15 _ I J (I 39 12) (Nat.lt_succ_self _) hI FI FJ (by (/-48-/first | (and_intros; (omega); (omega); (omega); (omega); (have o1 := gz_sh f1; omega); (omega); (omega); (omega); (omega); (omega)) | (simp only [gz_hd] at *; omega))) (gc_TN_0 KTO_I) gc_SH_0
