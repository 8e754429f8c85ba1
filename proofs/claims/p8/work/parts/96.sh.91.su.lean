/-! COUNTING. -/
/-- what is asked of a forest to count and to read it: nothing of the sentence -/
def gr_CR (t : Int) (I : gr_I) : Prop := gr_NX I ∧ (∀ x : Nat, (x : Int) < I 0 157 → I 104 x < I 88 x) ∧ gr_MO I ∧ gr_OR I ∧ gr_FW t (I 0 158) I ∧ ∀ y : Nat, (y : Int) < I 0 158 → 0 ≤ I 94 y ∧ I 94 y < I 0 157
theorem gr_CR_of {t : Int} {I : gr_I} (h : gr_CH t I) : gr_CR t I := ⟨h.1, h.2.2.1.1, h.2.2.2.1, h.2.2.2.2.1, h.2.2.2.2.2.1, h.2.2.2.2.2.2⟩
theorem gr_OR_fr {I Iₚ : gr_I} (h : gr_OR I) (h1 : ∀ k, Iₚ 91 k = I 91 k) (h2 : ∀ k, Iₚ 92 k = I 92 k) (h3 : ∀ k, Iₚ 99 k = I 99 k) (h4 : ∀ k, Iₚ 94 k = I 94 k) (hN : Iₚ 0 157 = I 0 157) (hY : Iₚ 0 158 = I 0 158) : gr_OR Iₚ := fun j hj => by
  rw [h1, h2, hY]
  obtain ⟨a, b⟩ := h j (by omega)
  refine ⟨a, fun i hi hi2 => ?_⟩
  rw [h3, h4]
  exact b i hi hi2
set_option maxHeartbeats 8000000 in
theorem gr_CR_fr {t : Int} {I Iₚ : gr_I} (h : gr_CR t I) (hI : gr_Inv I) (h1 : ∀ k, Iₚ 87 k = I 87 k) (h2 : ∀ k, Iₚ 88 k = I 88 k) (h3 : ∀ k, Iₚ 104 k = I 104 k) (h4 : ∀ k, Iₚ 90 k = I 90 k) (h5 : ∀ k, Iₚ 91 k = I 91 k) (h6 : ∀ k, Iₚ 92 k = I 92 k) (h7 : ∀ k, Iₚ 94 k = I 94 k) (h8 : ∀ k, Iₚ 95 k = I 95 k) (h9 : ∀ k, Iₚ 97 k = I 97 k) (h10 : ∀ k, Iₚ 98 k = I 98 k) (h11 : I 19 (Int.toNat t) ≤ Iₚ 19 (Int.toNat t)) (h12 : I 18 (Int.toNat t) ≤ Iₚ 18 (Int.toNat t)) (h13 : ∀ k : Nat, 384 * t ≤ (k : Int) → (k : Int) < 384 * t + I 19 (Int.toNat t) → Iₚ 41 k = I 41 k ∧ Iₚ 6 (Int.toNat (I 41 k)) = I 6 (Int.toNat (I 41 k))) (h15 : ∀ k, Iₚ 99 k = I 99 k) (hN : Iₚ 0 157 = I 0 157) (hY : Iₚ 0 158 = I 0 158) : gr_CR t Iₚ := by
  obtain ⟨a1, a2, a3, a4, a5, a6⟩ := h
  refine ⟨gr_NX_fr a1 h4 hN, fun x hx => by rw [h2, h3]; exact a2 x (by exact gz_m 0 (by omega)), gr_MO_fr a3 h1 h2 h3 hN, gr_OR_fr a4 h5 h6 h15 h7 hN hY, fun y hy => ?_, fun y hy => by rw [h7, hN]; exact a6 y (by exact gz_m 1 (by omega))⟩
  have w := a5 y (by exact gz_m 2 (by omega))
  refine ⟨fun h0 => ?_, fun h0 => ?_⟩
  · rw [h9] at h0
    obtain ⟨⟨b1, b2, b3⟩, c⟩ := w.1 h0
    have l9 := h13 (Int.toNat (I 97 y)) (by exact gz_m 3 (by omega)) (by exact gz_m 4 (by omega))
    refine ⟨by rw [h9, h8, l9.1]; exact ⟨b1, by exact gz_m 5 (by omega), b3⟩, fun m hm => ?_⟩
    rw [h8, b3, l9.2, ← b3] at hm
    rw [h10, h7, h1, h1, h2, h2, h3, h3, hN]
    obtain ⟨d1, d2, d3⟩ := c m hm
    exact ⟨d1, d2, fun i hi => by rw [h10, h2]; exact d3 i hi⟩
  · rw [h9] at h0
    rw [h8]
    have := w.2 h0
    exact gz_m 6 (by omega)
theorem gr_AR_of {t k m : Int} {y : Nat} {I : gr_I} (hM : gr_MO I) (hI : gr_Inv I) (w : gr_WK t I y) (h0 : 0 ≤ I 97 y) (hk : I 94 y = k) (hk0 : 0 ≤ k ∧ k < I 0 157) (hm : m = I 6 (Int.toNat (I 95 y))) : gr_AR k (y : Int) m I := fun b hb => by
  rw [hm] at hb
  obtain ⟨u1, u2, _⟩ := (w.1 h0).2 b hb
  rw [Int.toNat_natCast]
  rw [hk] at u2
  refine ⟨u1.1, ?_⟩
  by_cases c : I 98 (4 * y + b) < k
  · exact c
  · exfalso
    have g1 := (gr_b_87 hI (Int.toNat k))
    have g2 := (gr_b_87 hI (Int.toNat (I 98 (4 * y + b))))
    have t1 := (gr_b_88 hI (Int.toNat k))
    have z1 := (gr_b_104 hI (Int.toNat k))
    have z2 := (gr_b_104 hI (Int.toNat (I 98 (4 * y + b))))
    by_cases e : I 98 (4 * y + b) = k
    · rw [e] at u2
      exact gz_m 0 (by omega)
    · have h9 := hM (Int.toNat k) (Int.toNat (I 98 (4 * y + b))) (by exact gz_m 1 (by omega)) (by exact gz_m 2 (by omega))
      unfold gr_on at h9
      exact gz_m 3 (by omega)
theorem gr_TP_0 {I Iₚ : gr_I} {k : Int} (hI : gr_Inv I) (h0 : 0 ≤ k) (h : gr_TP k I) (p : ∀ b j, ¬ (b = 105 ∧ j = Int.toNat k) → Iₚ b j = I b j) (q : Iₚ 105 (Int.toNat k) = 0) : gr_TP (k + 1) Iₚ := gr_TP_up (n := 0) hI h0 ⟨h, fun r hr => by omega⟩ p (by omega)
theorem gr_TP_r {I Iₚ : gr_I} {k : Int} {b j0 : Nat} (hI : gr_Inv I) (h : gr_TP k I) (hb : (¬ b = 97 ∧ ¬ b = 99 ∧ ¬ b = 6 ∧ ¬ b = 95 ∧ ¬ b = 98 ∧ ¬ b = 91 ∧ ¬ b = 92) ∧ ¬ b = 105 ∧ ¬ b = 107 ∧ ¬ b = 108) (p : ∀ c j, ¬ (c = b ∧ j = j0) → Iₚ c j = I c j) : gr_TP k Iₚ := gr_TP_x h (gr_SM_r hb.1 p) (fun j _ => p _ _ (fun q => hb.2.1 q.1.symm)) (fun j _ => p _ _ (fun q => hb.2.2.1 q.1.symm)) (fun j _ => p _ _ (fun q => hb.2.2.2 q.1.symm)) (gr_tn16 hI)
def gr_RH (n h : Int) (I : gr_I) : Prop := ∀ q : Nat, (q : Int) < n → ¬ (q : Int) = h → (0 ≤ I 110 q ∧ I 110 q < I 0 157) ∧ I 111 q < I 105 (Int.toNat (I 110 q))
def gr_RD (I : gr_I) : Prop := gr_RH (I 0 186) (-1) I
theorem gr_RH_in {I : gr_I} {n h : Int} (hd : gr_RD I) (hn : ∀ r : Nat, (r : Int) < n → ¬ (r : Int) = h → (r : Int) < I 0 186) : gr_RH n h I := fun q h1 h2 => hd q (hn q h1 h2) (by omega)
set_option maxHeartbeats 8000000 in
theorem gr_RH_mv {I I1 I2 Iₚ : gr_I} {n h : Int} {i1 i2 i3 j2 j3 : Nat} (hq : gr_RH n h I) (hh : 1 ≤ h) (hn : h ≤ n) (hi2 : (i2 : Int) = h) (hi3 : (i3 : Int) = h) (hj2 : (j2 : Int) = h - 1) (hj3 : (j3 : Int) = h - 1) (p1 : ∀ b j, ¬ (b = 112 ∧ j = i1) → I1 b j = I b j) (p2 : ∀ b j, ¬ (b = 110 ∧ j = i2) → I2 b j = I1 b j) (q2 : I2 110 i2 = I1 110 j2) (p3 : ∀ b j, ¬ (b = 111 ∧ j = i3) → Iₚ b j = I2 b j) (q3 : Iₚ 111 i3 = I2 111 j3) : gr_RH n (h - 1) Iₚ := fun r hr hne => by
  have z : ∀ b j, ¬ b = 112 → ¬ b = 110 → ¬ b = 111 → Iₚ b j = I b j := fun b j a1 a2 a3 => (p3 _ _ (fun q => a3 q.1)).trans ((p2 _ _ (fun q => a2 q.1)).trans (p1 _ _ (fun q => a1 q.1)))
  rw [z 0 157 (by decide) (by decide) (by decide), z 105 _ (by decide) (by decide) (by decide)]
  by_cases c : (r : Int) = h
  · have e := hq j2 (by exact gz_m 0 (by omega)) (by exact gz_m 1 (by omega))
    have e2 : r = i2 := by exact gz_m 2 (by omega)
    have w2 : Iₚ 110 i2 = I 110 j2 := by rw [p3 _ _ (fun q => absurd q.1 (by first | exact gz_ne rfl | decide)), q2, p1 _ _ (fun q => absurd q.1 (by first | exact gz_ne rfl | decide))]
    have w3 : Iₚ 111 i2 = I 111 j2 := by rw [show i2 = i3 from by exact gz_m 3 (by omega), q3, show j3 = j2 from by exact gz_m 4 (by omega), p2 _ _ (fun q => absurd q.1 (by first | exact gz_ne rfl | decide)), p1 _ _ (fun q => absurd q.1 (by first | exact gz_ne rfl | decide))]
    rw [e2, w2, w3]
    exact e
  · rw [p3 110 _ (fun q => absurd q.1 (by first | exact gz_ne rfl | decide)), p2 110 _ (fun q => by have := q.2; exact gz_m 5 (by omega)), p1 110 _ (fun q => absurd q.1 (by first | exact gz_ne rfl | decide)), p3 111 _ (fun q => by have := q.2; exact gz_m 6 (by omega)), p2 111 _ (fun q => absurd q.1 (by first | exact gz_ne rfl | decide)), p1 111 _ (fun q => absurd q.1 (by first | exact gz_ne rfl | decide))]
    exact hq r hr c
theorem gr_RH_fl {I I1 I2 Iₚ : gr_I} {n h x s : Int} {i1 i2 i3 : Nat} (hq : gr_RH n h I) (hi2 : (i2 : Int) = h) (hi3 : (i3 : Int) = h) (p1 : ∀ b j, ¬ (b = 112 ∧ j = i1) → I1 b j = I b j) (p2 : ∀ b j, ¬ (b = 110 ∧ j = i2) → I2 b j = I1 b j) (q2 : I2 110 i2 = x) (p3 : ∀ b j, ¬ (b = 111 ∧ j = i3) → Iₚ b j = I2 b j) (q3 : Iₚ 111 i3 = s) (hx : 0 ≤ x ∧ x < I 0 157) (hs : s < I 105 (Int.toNat x)) : gr_RH n (-1) Iₚ := fun r hr _ => by
  have z : ∀ b j, ¬ b = 112 → ¬ b = 110 → ¬ b = 111 → Iₚ b j = I b j := fun b j a1 a2 a3 => (p3 _ _ (fun q => a3 q.1)).trans ((p2 _ _ (fun q => a2 q.1)).trans (p1 _ _ (fun q => a1 q.1)))
  rw [z 0 157 (by decide) (by decide) (by decide), z 105 _ (by decide) (by decide) (by decide)]
  by_cases c : (r : Int) = h
  · have e2 : r = i2 := by exact gz_m 0 (by omega)
    have w2 : Iₚ 110 i2 = x := by rw [p3 _ _ (fun q => absurd q.1 (by first | exact gz_ne rfl | decide)), q2]
    have w3 : Iₚ 111 i2 = s := by rw [show i2 = i3 from by exact gz_m 1 (by omega), q3]
    rw [e2, w2, w3]
    exact ⟨hx, hs⟩
  · rw [p3 110 _ (fun q => absurd q.1 (by first | exact gz_ne rfl | decide)), p2 110 _ (fun q => by have := q.2; exact gz_m 2 (by omega)), p1 110 _ (fun q => absurd q.1 (by first | exact gz_ne rfl | decide)), p3 111 _ (fun q => by have := q.2; exact gz_m 3 (by omega)), p2 111 _ (fun q => absurd q.1 (by first | exact gz_ne rfl | decide)), p1 111 _ (fun q => absurd q.1 (by first | exact gz_ne rfl | decide))]
    exact hq r hr c
theorem gr_RD_of {I Iₚ : gr_I} {n : Int} (hq : gr_RH n (-1) I) (h1 : ∀ j, Iₚ 110 j = I 110 j) (h2 : ∀ j, Iₚ 111 j = I 111 j) (h3 : ∀ j, Iₚ 105 j = I 105 j) (h4 : Iₚ 0 157 = I 0 157) (hn : Iₚ 0 186 ≤ n) : gr_RD Iₚ := fun q h5 h6 => by
  rw [h1, h2, h3, h4]
  exact hq q (by omega) h6
set_option maxHeartbeats 8000000 in
set_option maxRecDepth 100000 in
theorem r_counted_L299 {ws0 : List Cond} {tb : String → gz_T} (hws : ∀ w ∈ gr_ws, w ∈ ws0) (htb : tb RX13 = gr_T) (ext : gz_Sh) (p : Nat → Nat) (I : gr_I) (J : gr_J) (hI : gr_Inv I)   (x0 : gr_NP p I) (x1 : gr_CR (I 0 159) I) (x2 : I 0 177 < I 0 157) : ∀ (n : Nat) (I89 : gr_I) (J90 : gr_J) (v1_91 : Int64) (v3_91 : Int), (if v3_91 < 0 then (0 : Int) else ((p (Int.toNat v3_91) : Nat) : Int) + 1).toNat < n → gr_Inv I89 → gr_fr [186] [105, 106, 107, 108, 110, 111, 112] I I89 → gr_fj [186] [104, 105, 106, 107, 108, 110, 111, 112] J J90 → (((-1) ≤ v3_91 ∧ v3_91 ≤ 2999) ∧ (v3_91 < I 0 157)) → (gr_TP (I 0 157) I89) → (gr_RD I89) → gv_X (gr_E ws0 tb 7 (yX13_counted, cX13_counted, 9, (some .long)) kX13_counted) (gv_Q cX13_counted (some .long) (gr_sh ++ ext) (fun r hₚ => (∃ (Iₚ : gr_I) (Jₚ : gr_J), hₚ = gr_h Iₚ Jₚ ∧ gr_Inv Iₚ ∧ gr_fr [186] [105, 106, 107, 108, 110, 111, 112] I Iₚ ∧ gr_fj [186] [104, 105, 106, 107, 108, 110, 111, 112] J Jₚ ∧ (∃ z : Int64, r = some (.inr (.inl z)) ∧ (gr_TP (I 0 157) Iₚ) ∧ (gr_RD Iₚ))))) (299, [(0, .inr (.inr (some 0))), (1, .inr (.inl v1_91)), (3, .inl v3_91)], [], gr_sh ++ ext, gr_h I89 J90) := by
  have FI : gr_fr [186] [105, 106, 107, 108, 110, 111, 112] I I := fun _ _ _ => rfl
  have FJ : gr_fj [186] [104, 105, 106, 107, 108, 110, 111, 112] J J := fun _ _ _ => rfl
  have hD : gv_D (gr_E ws0 tb 7 (yX13_counted, cX13_counted, 9, (some .long)) kX13_counted) := gq_of oX13_counted
  have f1 := (gr_b_0_186 hI)
  intro n
  induction n with
  | zero => intro I89 J90 v1_91 v3_91 hn; exact gz_m 128 (by omega)
  | succ n ih299 =>
    intro I89 J90 v1_91 v3_91 hn hI89 FI89 FJ90 m_91 e0_91 e1_91
    obtain ⟨hv3_91, e2_91⟩ := m_91
    have f92 := (gr_b_0_186 hI89)
    have t93 := FI89 0 157 rfl
    have L317 : ∀ (n : Nat) (I94 : gr_I) (J95 : gr_J) (v1_96 : Int64) (v4_96 : Int), (17 - v4_96).toNat < n → gr_Inv I94 → gr_fr [186] [105, 106, 107, 108, 110, 111, 112] I I94 → gr_fj [186] [104, 105, 106, 107, 108, 110, 111, 112] J J95 → ((0 ≤ v3_91 ∧ v3_91 ≤ 2999) ∧ (0 ≤ v4_96 ∧ v4_96 ≤ 16) ∧ (v3_91 < I 0 157)) → (gr_TP (I 0 157) I94) → (gr_RD I94) → gv_X (gr_E ws0 tb 7 (yX13_counted, cX13_counted, 9, (some .long)) kX13_counted) (gv_Q cX13_counted (some .long) (gr_sh ++ ext) (fun r hₚ => (∃ (Iₚ : gr_I) (Jₚ : gr_J), hₚ = gr_h Iₚ Jₚ ∧ gr_Inv Iₚ ∧ gr_fr [186] [105, 106, 107, 108, 110, 111, 112] I Iₚ ∧ gr_fj [186] [104, 105, 106, 107, 108, 110, 111, 112] J Jₚ ∧ (∃ z : Int64, r = some (.inr (.inl z)) ∧ (gr_TP (I 0 157) Iₚ) ∧ (gr_RD Iₚ))))) (317, [(0, .inr (.inr (some 0))), (1, .inr (.inl v1_96)), (3, .inl v3_91), (4, .inl v4_96)], [], gr_sh ++ ext, gr_h I94 J95) := by
      intro n
      induction n with
      | zero => intro I94 J95 v1_96 v4_96 hn; exact gz_m 129 (by omega)
      | succ n ih317 =>
        intro I94 J95 v1_96 v4_96 hn hI94 FI94 FJ95 m_96 e0_96 e1_96
        clear hv3_91 e2_91 f92 t93
        obtain ⟨hv3_91_96, hv4_96, e2_96⟩ := m_96
        have f97 := (gr_b_0_186 hI94)
        have t98 := FI94 0 157 rfl
        have L514 : ((0 ≤ v3_91 ∧ v3_91 ≤ 2999) ∧ (v3_91 < I 0 157)) → (gr_TP (I 0 157) I94) → (gr_RD I94) → gv_X (gr_E ws0 tb 7 (yX13_counted, cX13_counted, 9, (some .long)) kX13_counted) (gv_Q cX13_counted (some .long) (gr_sh ++ ext) (fun r hₚ => (∃ (Iₚ : gr_I) (Jₚ : gr_J), hₚ = gr_h Iₚ Jₚ ∧ gr_Inv Iₚ ∧ gr_fr [186] [105, 106, 107, 108, 110, 111, 112] I Iₚ ∧ gr_fj [186] [104, 105, 106, 107, 108, 110, 111, 112] J Jₚ ∧ (∃ z : Int64, r = some (.inr (.inl z)) ∧ (gr_TP (I 0 157) Iₚ) ∧ (gr_RD Iₚ))))) (514, [(0, .inr (.inr (some 0))), (1, .inr (.inl v1_96)), (3, .inl v3_91)], [], gr_sh ++ ext, gr_h I94 J95) := by
          intro m_99 e0_99 e1_99
          obtain ⟨hv3_91_99, e2_99⟩ := m_99
          have f100 := (gr_b_0_186 hI94)
          have t101 := FI94 0 157 rfl
          have f102 := (gr_b_90 hI94 (Int.toNat v3_91))
          refine gv_run 4 true hD (pcₚ := 520) (lvₚ := [(0, .inr (.inr (some 0))), (1, .inr (.inl v1_96)), (3, .inl v3_91)]) (stₚ := [.inl (I94 90 (Int.toNat v3_91))]) (hₚ := gr_h I94 J95) (C := ((((True ∧ True) ∧ True) ∧ True) ∧ (0 ≤ v3_91 ∧ v3_91 < ((3000 : Nat) : Int)))) rfl ⟨⟨⟨⟨trivial, trivial⟩, trivial⟩, trivial⟩, ⟨by exact gz_m 130 (by omega), by exact gz_m 131 (by omega)⟩⟩ ?_
          rw [FI94 90 (Int.toNat v3_91) rfl]
          have f103 := (gr_b_90 hI (Int.toNat v3_91))
          have t104 := x0 (Int.toNat v3_91) (by exact gz_m 132 (by omega))
          refine gv_run 2 true hD (pcₚ := 299) (lvₚ := [(3, .inl (I 90 (Int.toNat v3_91))), (0, .inr (.inr (some 0))), (1, .inr (.inl v1_96))]) (stₚ := []) (hₚ := gr_h I94 J95) (C := ((True ∧ True) ∧ True)) rfl ⟨⟨trivial, trivial⟩, trivial⟩ ?_
          refine gv_pick [1, 2, 0] rfl ?_
          exact ih299 I94 J95 v1_96 ((I 90 (Int.toNat v3_91))) (by exact gz_m 133 (by omega)) hI94 FI94 FJ95 (by exact gz_m 134 (by omega)) e0_99 e1_99
        have L370 : ∀ (n : Nat) (I105 : gr_I) (J106 : gr_J) (v5_107 : Int), (v5_107 - (-1)).toNat < n → gr_Inv I105 → gr_fr [186] [105, 106, 107, 108, 110, 111, 112] I I105 → gr_fj [186] [104, 105, 106, 107, 108, 110, 111, 112] J J106 → ((0 ≤ v3_91 ∧ v3_91 ≤ 2999) ∧ (0 ≤ v4_96 ∧ v4_96 ≤ 15) ∧ (0 ≤ v5_107 ∧ v5_107 ≤ 15) ∧ (v3_91 < I 0 157) ∧ (v4_96 < I105 105 (Int.toNat v3_91)) ∧ (v5_107 ≤ I105 0 186)) → (gr_TP (I 0 157) I105) → (gr_RH (if I105 0 186 < 16 then I105 0 186 + 1 else 16) v5_107 I105) → gv_X (gr_E ws0 tb 7 (yX13_counted, cX13_counted, 9, (some .long)) kX13_counted) (gv_Q cX13_counted (some .long) (gr_sh ++ ext) (fun r hₚ => (∃ (Iₚ : gr_I) (Jₚ : gr_J), hₚ = gr_h Iₚ Jₚ ∧ gr_Inv Iₚ ∧ gr_fr [186] [105, 106, 107, 108, 110, 111, 112] I Iₚ ∧ gr_fj [186] [104, 105, 106, 107, 108, 110, 111, 112] J Jₚ ∧ (∃ z : Int64, r = some (.inr (.inl z)) ∧ (gr_TP (I 0 157) Iₚ) ∧ (gr_RD Iₚ))))) (370, [(0, .inr (.inr (some 0))), (1, .inr (.inl v1_96)), (3, .inl v3_91), (4, .inl v4_96), (5, .inl v5_107)], [], gr_sh ++ ext, gr_h I105 J106) := by
          intro n
          induction n with
          | zero => intro I105 J106 v5_107 hn; exact gz_m 135 (by omega)
          | succ n ih370 =>
            intro I105 J106 v5_107 hn hI105 FI105 FJ106 m_107 e0_107 e1_107
            clear hv3_91_96 hv4_96 e2_96 f97 t98
            obtain ⟨hv3_91_107, hv4_96_107, hv5_107, e2_107, e3_107, e4_107⟩ := m_107
            have f108 := (gr_b_0_186 hI105)
            have t109 := FI105 0 157 rfl
            have L453 : ((0 ≤ v3_91 ∧ v3_91 ≤ 2999) ∧ (0 ≤ v4_96 ∧ v4_96 ≤ 15) ∧ (0 ≤ v5_107 ∧ v5_107 ≤ 15) ∧ (v3_91 < I 0 157) ∧ (v4_96 < I105 105 (Int.toNat v3_91)) ∧ (v5_107 ≤ I105 0 186)) → (gr_TP (I 0 157) I105) → (gr_RH (if I105 0 186 < 16 then I105 0 186 + 1 else 16) v5_107 I105) → gv_X (gr_E ws0 tb 7 (yX13_counted, cX13_counted, 9, (some .long)) kX13_counted) (gv_Q cX13_counted (some .long) (gr_sh ++ ext) (fun r hₚ => (∃ (Iₚ : gr_I) (Jₚ : gr_J), hₚ = gr_h Iₚ Jₚ ∧ gr_Inv Iₚ ∧ gr_fr [186] [105, 106, 107, 108, 110, 111, 112] I Iₚ ∧ gr_fj [186] [104, 105, 106, 107, 108, 110, 111, 112] J Jₚ ∧ (∃ z : Int64, r = some (.inr (.inl z)) ∧ (gr_TP (I 0 157) Iₚ) ∧ (gr_RD Iₚ))))) (453, [(0, .inr (.inr (some 0))), (1, .inr (.inl v1_96)), (3, .inl v3_91), (4, .inl v4_96), (5, .inl v5_107)], [], gr_sh ++ ext, gr_h I105 J106) := by
              intro m_110 e0_110 e1_110
              obtain ⟨hv3_91_110, hv4_96_110, hv5_107_110, e2_110, e3_110, e4_110⟩ := m_110
              have f111 := (gr_b_0_186 hI105)
              have t112 := FI105 0 157 rfl
              have L508 : ∀ (I113 : gr_I) (J114 : gr_J) , gr_Inv I113 → gr_fr [186] [105, 106, 107, 108, 110, 111, 112] I I113 → gr_fj [186] [104, 105, 106, 107, 108, 110, 111, 112] J J114 → ((0 ≤ v3_91 ∧ v3_91 ≤ 2999) ∧ (0 ≤ v4_96 ∧ v4_96 ≤ 15) ∧ (v3_91 < I 0 157)) → (gr_TP (I 0 157) I113) → (gr_RD I113) → gv_X (gr_E ws0 tb 7 (yX13_counted, cX13_counted, 9, (some .long)) kX13_counted) (gv_Q cX13_counted (some .long) (gr_sh ++ ext) (fun r hₚ => (∃ (Iₚ : gr_I) (Jₚ : gr_J), hₚ = gr_h Iₚ Jₚ ∧ gr_Inv Iₚ ∧ gr_fr [186] [105, 106, 107, 108, 110, 111, 112] I Iₚ ∧ gr_fj [186] [104, 105, 106, 107, 108, 110, 111, 112] J Jₚ ∧ (∃ z : Int64, r = some (.inr (.inl z)) ∧ (gr_TP (I 0 157) Iₚ) ∧ (gr_RD Iₚ))))) (508, [(0, .inr (.inr (some 0))), (1, .inr (.inl v1_96)), (3, .inl v3_91), (4, .inl v4_96)], [], gr_sh ++ ext, gr_h I113 J114) := by
                intro I113 J114 hI113 FI113 FJ114 m_115 e0_115 e1_115
                clear hv3_91_110 hv4_96_110 hv5_107_110 e2_110 e3_110 e4_110 f111 t112 hv3_91_107 hv4_96_107 hv5_107 e2_107 e3_107 e4_107 f108 t109
                obtain ⟨hv3_91_115, hv4_96_115, e2_115⟩ := m_115
                have f116 := (gr_b_0_186 hI113)
                have t117 := FI113 0 157 rfl
                refine gv_run 2 true hD (pcₚ := 317) (lvₚ := [(4, .inl (v4_96 + 1)), (0, .inr (.inr (some 0))), (1, .inr (.inl v1_96)), (3, .inl v3_91)]) (stₚ := []) (hₚ := gr_h I113 J114) (C := ((True ∧ True) ∧ True)) rfl ⟨⟨trivial, trivial⟩, trivial⟩ ?_
                refine gv_pick [1, 2, 3, 0] rfl ?_
                exact ih317 I113 J114 v1_96 (v4_96 + 1) (by exact gz_m 136 (by omega)) hI113 FI113 FJ114 (by exact gz_m 137 (by omega)) e0_115 e1_115
              refine gv_run 7 true hD (pcₚ := 466) (lvₚ := [(0, .inr (.inr (some 0))), (1, .inr (.inl v1_96)), (3, .inl v3_91), (4, .inl v4_96), (5, .inl v5_107)]) (stₚ := [.inl v3_91, .inl 16, .inr (.inr (some 106)), .inl v5_107, .inr (.inr (some 112))]) (hₚ := gr_h I105 J106) (C := (((((((True ∧ True) ∧ True) ∧ True) ∧ True) ∧ True) ∧ True) ∧ True)) rfl ⟨⟨⟨⟨⟨⟨⟨trivial, trivial⟩, trivial⟩, trivial⟩, trivial⟩, trivial⟩, trivial⟩, trivial⟩ ?_
              have f118 := (gr_b_106 hI105 (Int.toNat (((16 * v3_91) + v4_96))))
              refine gv_run 4 true hD (pcₚ := 471) (lvₚ := [(0, .inr (.inr (some 0))), (1, .inr (.inl v1_96)), (3, .inl v3_91), (4, .inl v4_96), (5, .inl v5_107)]) (stₚ := [.inl (I105 106 (Int.toNat (((16 * v3_91) + v4_96)))), .inl v5_107, .inr (.inr (some 112))]) (hₚ := gr_h I105 J106) (C := ((((True ∧ True) ∧ True) ∧ True) ∧ (0 ≤ (((16 * v3_91) + v4_96)) ∧ (((16 * v3_91) + v4_96)) < ((48000 : Nat) : Int)))) rfl ⟨⟨⟨⟨trivial, trivial⟩, trivial⟩, trivial⟩, ⟨by exact gz_m 138 (by omega), by exact gz_m 139 (by omega)⟩⟩ ?_
              refine gv_run 1 true hD (pcₚ := 472) (lvₚ := [(0, .inr (.inr (some 0))), (1, .inr (.inl v1_96)), (3, .inl v3_91), (4, .inl v4_96), (5, .inl v5_107)]) (stₚ := []) (hₚ := gz_up (gr_h I105 J106) 112 (Int.toNat v5_107) (.inl ((I105 106 (Int.toNat (((16 * v3_91) + v4_96))))))) (C := (True ∧ (0 ≤ v5_107 ∧ v5_107 < ((16 : Nat) : Int)))) rfl ⟨trivial, ⟨by exact gz_m 140 (by omega), by exact gz_m 141 (by omega)⟩⟩ ?_
              refine gr_st hI105 FI105 rfl rfl ⟨⟨by show (-2147483648) ≤ _; exact gz_m 142 (by omega), by show _ ≤ 2147483647; exact gz_m 143 (by omega)⟩, trivial⟩ (fun I119 hI119 FI119 q120 p120 => ?_)
              have t121 := p120 0 186 (fun q => absurd q.1 (by first | exact gz_ne rfl | decide))
              have t122 := p120 105 (Int.toNat v3_91) (fun q => absurd q.1 (by first | exact gz_ne rfl | decide))
              have f123 := (gr_b_0_186 hI119)
              have t124 := FI119 0 157 rfl
              refine gv_run 4 true hD (pcₚ := 479) (lvₚ := [(0, .inr (.inr (some 0))), (1, .inr (.inl v1_96)), (3, .inl v3_91), (4, .inl v4_96), (5, .inl v5_107)]) (stₚ := [.inl v3_91, .inl v5_107, .inr (.inr (some 110))]) (hₚ := gr_h I119 J106) (C := ((((True ∧ True) ∧ True) ∧ True) ∧ True)) rfl ⟨⟨⟨⟨trivial, trivial⟩, trivial⟩, trivial⟩, trivial⟩ ?_
              refine gv_run 1 true hD (pcₚ := 480) (lvₚ := [(0, .inr (.inr (some 0))), (1, .inr (.inl v1_96)), (3, .inl v3_91), (4, .inl v4_96), (5, .inl v5_107)]) (stₚ := []) (hₚ := gz_up (gr_h I119 J106) 110 (Int.toNat v5_107) (.inl v3_91)) (C := (True ∧ (0 ≤ v5_107 ∧ v5_107 < ((16 : Nat) : Int)))) rfl ⟨trivial, ⟨by exact gz_m 144 (by omega), by exact gz_m 145 (by omega)⟩⟩ ?_
              refine gr_st hI119 FI119 rfl rfl ⟨⟨by show 0 ≤ _; exact gz_m 146 (by omega), by show _ ≤ 2999; exact gz_m 147 (by omega)⟩, trivial⟩ (fun I125 hI125 FI125 q126 p126 => ?_)
              have t127 := p126 0 186 (fun q => absurd q.1 (by first | exact gz_ne rfl | decide))
              have t128 := p126 105 (Int.toNat v3_91) (fun q => absurd q.1 (by first | exact gz_ne rfl | decide))
              have f129 := (gr_b_0_186 hI125)
              have t130 := FI125 0 157 rfl
              refine gv_run 4 true hD (pcₚ := 488) (lvₚ := [(0, .inr (.inr (some 0))), (1, .inr (.inl v1_96)), (3, .inl v3_91), (4, .inl v4_96), (5, .inl v5_107)]) (stₚ := [.inl v4_96, .inl v5_107, .inr (.inr (some 111))]) (hₚ := gr_h I125 J106) (C := ((((True ∧ True) ∧ True) ∧ True) ∧ True)) rfl ⟨⟨⟨⟨trivial, trivial⟩, trivial⟩, trivial⟩, trivial⟩ ?_
              refine gv_run 1 true hD (pcₚ := 489) (lvₚ := [(0, .inr (.inr (some 0))), (1, .inr (.inl v1_96)), (3, .inl v3_91), (4, .inl v4_96), (5, .inl v5_107)]) (stₚ := []) (hₚ := gz_up (gr_h I125 J106) 111 (Int.toNat v5_107) (.inl v4_96)) (C := (True ∧ (0 ≤ v5_107 ∧ v5_107 < ((16 : Nat) : Int)))) rfl ⟨trivial, ⟨by exact gz_m 148 (by omega), by exact gz_m 149 (by omega)⟩⟩ ?_
              refine gr_st hI125 FI125 rfl rfl ⟨⟨by show 0 ≤ _; exact gz_m 150 (by omega), by show _ ≤ 15; exact gz_m 151 (by omega)⟩, trivial⟩ (fun I131 hI131 FI131 q132 p132 => ?_)
              have t133 := p132 0 186 (fun q => absurd q.1 (by first | exact gz_ne rfl | decide))
              have t134 := p132 105 (Int.toNat v3_91) (fun q => absurd q.1 (by first | exact gz_ne rfl | decide))
              have f135 := (gr_b_0_186 hI131)
              have t136 := FI131 0 157 rfl
              have f137 := (gr_b_0_186 hI131)
              refine gv_run 3 true hD (pcₚ := 495) (lvₚ := [(0, .inr (.inr (some 0))), (1, .inr (.inl v1_96)), (3, .inl v3_91), (4, .inl v4_96), (5, .inl v5_107)]) (stₚ := [.inl 16, .inl (I131 0 186)]) (hₚ := gr_h I131 J106) (C := (((True ∧ True) ∧ True) ∧ True)) rfl ⟨⟨⟨trivial, trivial⟩, trivial⟩, trivial⟩ ?_
              refine gv_icmp_ge (t := 508) hD rfl rfl ⟨⟨by exact gz_m 152 (by omega), by exact gz_m 153 (by omega)⟩, ⟨by exact gz_m 154 (by omega), by exact gz_m 155 (by omega)⟩⟩ (fun c138 => ?_) (fun c138 => ?_)
              · refine gv_pick [0, 1, 2, 3] rfl ?_
                exact L508 I131 J106 hI131 FI131 FJ106 (by exact gz_m 156 (by omega)) (gr_TP_r hI125 (gr_TP_r hI119 (gr_TP_r hI105 e0_110 (by decide) p120) (by decide) p126) (by decide) p132) (gr_RD_of (gr_RH_fl e1_110 (by exact gz_m 157 (by omega)) (by exact gz_m 158 (by omega)) p120 p126 q126 p132 q132 ⟨by exact gz_m 159 (by omega), by exact gz_m 160 (by omega)⟩ (by exact gz_m 161 (by omega))) (fun _ => rfl) (fun _ => rfl) (fun _ => rfl) rfl (by exact gz_m 162 (by omega)))
              · have f139 := (gr_b_0_186 hI131)
                refine gv_run 5 true hD (pcₚ := 505) (lvₚ := [(0, .inr (.inr (some 0))), (1, .inr (.inl v1_96)), (3, .inl v3_91), (4, .inl v4_96), (5, .inl v5_107)]) (stₚ := [.inl ((I131 0 186) + 1), .inr (.inr (some 0))]) (hₚ := gr_h I131 J106) (C := (((((True ∧ True) ∧ True) ∧ True) ∧ True) ∧ True)) rfl ⟨⟨⟨⟨⟨trivial, trivial⟩, trivial⟩, trivial⟩, trivial⟩, trivial⟩ ?_
                refine gv_run 1 true hD (pcₚ := 508) (lvₚ := [(0, .inr (.inr (some 0))), (1, .inr (.inl v1_96)), (3, .inl v3_91), (4, .inl v4_96), (5, .inl v5_107)]) (stₚ := []) (hₚ := gz_up (gr_h I131 J106) 0 186 (.inl (((I131 0 186) + 1)))) (C := (True ∧ True)) rfl ⟨trivial, trivial⟩ ?_
                refine gr_st hI131 FI131 rfl rfl ⟨⟨by show 0 ≤ _; exact gz_m 163 (by omega), by show _ ≤ 16; exact gz_m 164 (by omega)⟩, trivial⟩ (fun I140 hI140 FI140 q141 p141 => ?_)
                have t142 := p141 105 (Int.toNat v3_91) (fun q => absurd q.1 (by first | exact gz_ne rfl | decide))
                have f143 := (gr_b_0_186 hI140)
                have t144 := FI140 0 157 rfl
                refine gv_pick [0, 1, 2, 3] rfl ?_
                exact L508 I140 J106 hI140 FI140 FJ106 (by exact gz_m 165 (by omega)) (gr_TP_r hI131 (gr_TP_r hI125 (gr_TP_r hI119 (gr_TP_r hI105 e0_110 (by decide) p120) (by decide) p126) (by decide) p132) (by decide) p141) (gr_RD_of (gr_RH_fl e1_110 (by exact gz_m 166 (by omega)) (by exact gz_m 167 (by omega)) p120 p126 q126 p132 q132 ⟨by exact gz_m 168 (by omega), by exact gz_m 169 (by omega)⟩ (by exact gz_m 170 (by omega))) (fun j => p141 110 j (fun q => absurd q.1 (by first | exact gz_ne rfl | decide))) (fun j => p141 111 j (fun q => absurd q.1 (by first | exact gz_ne rfl | decide))) (fun j => p141 105 j (fun q => absurd q.1 (by first | exact gz_ne rfl | decide))) (p141 0 157 (by decide)) (by exact gz_m 171 (by omega)))
            refine gv_run 1 true hD (pcₚ := 372) (lvₚ := [(0, .inr (.inr (some 0))), (1, .inr (.inl v1_96)), (3, .inl v3_91), (4, .inl v4_96), (5, .inl v5_107)]) (stₚ := [.inl v5_107]) (hₚ := gr_h I105 J106) (C := (True ∧ True)) rfl ⟨trivial, trivial⟩ ?_
            refine gv_if_le (t := 453) hD rfl rfl ⟨by exact gz_m 172 (by omega), by exact gz_m 173 (by omega)⟩ (fun c145 => ?_) (fun c145 => ?_)
            · exact L453 (by exact gz_m 174 (by omega)) e0_107 e1_107
            · have f146 := (gr_b_112 hI105 (Int.toNat ((v5_107 - 1))))
              refine gv_run 6 true hD (pcₚ := 384) (lvₚ := [(0, .inr (.inr (some 0))), (1, .inr (.inl v1_96)), (3, .inl v3_91), (4, .inl v4_96), (5, .inl v5_107)]) (stₚ := [.inl (I105 112 (Int.toNat ((v5_107 - 1))))]) (hₚ := gr_h I105 J106) (C := ((((((True ∧ True) ∧ True) ∧ True) ∧ True) ∧ True) ∧ (0 ≤ (v5_107 - 1) ∧ (v5_107 - 1) < ((16 : Nat) : Int)))) rfl ⟨⟨⟨⟨⟨⟨trivial, trivial⟩, trivial⟩, trivial⟩, trivial⟩, trivial⟩, ⟨by exact gz_m 175 (by omega), by exact gz_m 176 (by omega)⟩⟩ ?_
              refine gv_run 7 true hD (pcₚ := 395) (lvₚ := [(0, .inr (.inr (some 0))), (1, .inr (.inl v1_96)), (3, .inl v3_91), (4, .inl v4_96), (5, .inl v5_107)]) (stₚ := [.inl ((16 * v3_91) + v4_96), .inr (.inr (some 106)), .inl (I105 112 (Int.toNat ((v5_107 - 1))))]) (hₚ := gr_h I105 J106) (C := (((((((True ∧ True) ∧ True) ∧ True) ∧ True) ∧ True) ∧ True) ∧ True)) rfl ⟨⟨⟨⟨⟨⟨⟨trivial, trivial⟩, trivial⟩, trivial⟩, trivial⟩, trivial⟩, trivial⟩, trivial⟩ ?_
              have f147 := (gr_b_106 hI105 (Int.toNat (((16 * v3_91) + v4_96))))
              refine gv_run 1 true hD (pcₚ := 396) (lvₚ := [(0, .inr (.inr (some 0))), (1, .inr (.inl v1_96)), (3, .inl v3_91), (4, .inl v4_96), (5, .inl v5_107)]) (stₚ := [.inl (I105 106 (Int.toNat (((16 * v3_91) + v4_96)))), .inl (I105 112 (Int.toNat ((v5_107 - 1))))]) (hₚ := gr_h I105 J106) (C := (True ∧ (0 ≤ (((16 * v3_91) + v4_96)) ∧ (((16 * v3_91) + v4_96)) < ((48000 : Nat) : Int)))) rfl ⟨trivial, ⟨by exact gz_m 177 (by omega), by exact gz_m 178 (by omega)⟩⟩ ?_
              refine gv_icmp_le (t := 453) hD rfl rfl ⟨⟨by exact gz_m 179 (by omega), by exact gz_m 180 (by omega)⟩, ⟨by exact gz_m 181 (by omega), by exact gz_m 182 (by omega)⟩⟩ (fun c148 => ?_) (fun c148 => ?_)
              · exact L453 (by exact gz_m 183 (by omega)) e0_107 e1_107
              · refine gv_run 7 true hD (pcₚ := 412) (lvₚ := [(0, .inr (.inr (some 0))), (1, .inr (.inl v1_96)), (3, .inl v3_91), (4, .inl v4_96), (5, .inl v5_107)]) (stₚ := [.inl 1, .inl v5_107, .inr (.inr (some 112)), .inl v5_107, .inr (.inr (some 112))]) (hₚ := gr_h I105 J106) (C := (((((((True ∧ True) ∧ True) ∧ True) ∧ True) ∧ True) ∧ True) ∧ True)) rfl ⟨⟨⟨⟨⟨⟨⟨trivial, trivial⟩, trivial⟩, trivial⟩, trivial⟩, trivial⟩, trivial⟩, trivial⟩ ?_
                have f149 := (gr_b_112 hI105 (Int.toNat ((v5_107 - 1))))
                refine gv_run 2 true hD (pcₚ := 414) (lvₚ := [(0, .inr (.inr (some 0))), (1, .inr (.inl v1_96)), (3, .inl v3_91), (4, .inl v4_96), (5, .inl v5_107)]) (stₚ := [.inl (I105 112 (Int.toNat ((v5_107 - 1)))), .inl v5_107, .inr (.inr (some 112))]) (hₚ := gr_h I105 J106) (C := ((True ∧ True) ∧ (0 ≤ (v5_107 - 1) ∧ (v5_107 - 1) < ((16 : Nat) : Int)))) rfl ⟨⟨trivial, trivial⟩, ⟨by exact gz_m 184 (by omega), by exact gz_m 185 (by omega)⟩⟩ ?_
                refine gv_run 1 true hD (pcₚ := 415) (lvₚ := [(0, .inr (.inr (some 0))), (1, .inr (.inl v1_96)), (3, .inl v3_91), (4, .inl v4_96), (5, .inl v5_107)]) (stₚ := []) (hₚ := gz_up (gr_h I105 J106) 112 (Int.toNat v5_107) (.inl ((I105 112 (Int.toNat ((v5_107 - 1))))))) (C := (True ∧ (0 ≤ v5_107 ∧ v5_107 < ((16 : Nat) : Int)))) rfl ⟨trivial, ⟨by exact gz_m 186 (by omega), by exact gz_m 187 (by omega)⟩⟩ ?_
                refine gr_st hI105 FI105 rfl rfl ⟨⟨by show (-2147483648) ≤ _; exact gz_m 188 (by omega), by show _ ≤ 2147483647; exact gz_m 189 (by omega)⟩, trivial⟩ (fun I150 hI150 FI150 q151 p151 => ?_)
                have t152 := p151 0 186 (fun q => absurd q.1 (by first | exact gz_ne rfl | decide))
                have t153 := p151 105 (Int.toNat v3_91) (fun q => absurd q.1 (by first | exact gz_ne rfl | decide))
                have f154 := (gr_b_0_186 hI150)
                have t155 := FI150 0 157 rfl
                refine gv_run 7 true hD (pcₚ := 428) (lvₚ := [(0, .inr (.inr (some 0))), (1, .inr (.inl v1_96)), (3, .inl v3_91), (4, .inl v4_96), (5, .inl v5_107)]) (stₚ := [.inl 1, .inl v5_107, .inr (.inr (some 110)), .inl v5_107, .inr (.inr (some 110))]) (hₚ := gr_h I150 J106) (C := (((((((True ∧ True) ∧ True) ∧ True) ∧ True) ∧ True) ∧ True) ∧ True)) rfl ⟨⟨⟨⟨⟨⟨⟨trivial, trivial⟩, trivial⟩, trivial⟩, trivial⟩, trivial⟩, trivial⟩, trivial⟩ ?_
                have f156 := (gr_b_110 hI150 (Int.toNat ((v5_107 - 1))))
                refine gv_run 2 true hD (pcₚ := 430) (lvₚ := [(0, .inr (.inr (some 0))), (1, .inr (.inl v1_96)), (3, .inl v3_91), (4, .inl v4_96), (5, .inl v5_107)]) (stₚ := [.inl (I150 110 (Int.toNat ((v5_107 - 1)))), .inl v5_107, .inr (.inr (some 110))]) (hₚ := gr_h I150 J106) (C := ((True ∧ True) ∧ (0 ≤ (v5_107 - 1) ∧ (v5_107 - 1) < ((16 : Nat) : Int)))) rfl ⟨⟨trivial, trivial⟩, ⟨by exact gz_m 190 (by omega), by exact gz_m 191 (by omega)⟩⟩ ?_
                refine gv_run 1 true hD (pcₚ := 431) (lvₚ := [(0, .inr (.inr (some 0))), (1, .inr (.inl v1_96)), (3, .inl v3_91), (4, .inl v4_96), (5, .inl v5_107)]) (stₚ := []) (hₚ := gz_up (gr_h I150 J106) 110 (Int.toNat v5_107) (.inl ((I150 110 (Int.toNat ((v5_107 - 1))))))) (C := (True ∧ (0 ≤ v5_107 ∧ v5_107 < ((16 : Nat) : Int)))) rfl ⟨trivial, ⟨by exact gz_m 192 (by omega), by exact gz_m 193 (by omega)⟩⟩ ?_
                refine gr_st hI150 FI150 rfl rfl ⟨⟨by show 0 ≤ _; exact gz_m 194 (by omega), by show _ ≤ 2999; exact gz_m 195 (by omega)⟩, trivial⟩ (fun I157 hI157 FI157 q158 p158 => ?_)
                have t159 := p158 0 186 (fun q => absurd q.1 (by first | exact gz_ne rfl | decide))
                have t160 := p158 105 (Int.toNat v3_91) (fun q => absurd q.1 (by first | exact gz_ne rfl | decide))
                have f161 := (gr_b_0_186 hI157)
                have t162 := FI157 0 157 rfl
                refine gv_run 7 true hD (pcₚ := 444) (lvₚ := [(0, .inr (.inr (some 0))), (1, .inr (.inl v1_96)), (3, .inl v3_91), (4, .inl v4_96), (5, .inl v5_107)]) (stₚ := [.inl 1, .inl v5_107, .inr (.inr (some 111)), .inl v5_107, .inr (.inr (some 111))]) (hₚ := gr_h I157 J106) (C := (((((((True ∧ True) ∧ True) ∧ True) ∧ True) ∧ True) ∧ True) ∧ True)) rfl ⟨⟨⟨⟨⟨⟨⟨trivial, trivial⟩, trivial⟩, trivial⟩, trivial⟩, trivial⟩, trivial⟩, trivial⟩ ?_
                have f163 := (gr_b_111 hI157 (Int.toNat ((v5_107 - 1))))
                refine gv_run 2 true hD (pcₚ := 446) (lvₚ := [(0, .inr (.inr (some 0))), (1, .inr (.inl v1_96)), (3, .inl v3_91), (4, .inl v4_96), (5, .inl v5_107)]) (stₚ := [.inl (I157 111 (Int.toNat ((v5_107 - 1)))), .inl v5_107, .inr (.inr (some 111))]) (hₚ := gr_h I157 J106) (C := ((True ∧ True) ∧ (0 ≤ (v5_107 - 1) ∧ (v5_107 - 1) < ((16 : Nat) : Int)))) rfl ⟨⟨trivial, trivial⟩, ⟨by exact gz_m 196 (by omega), by exact gz_m 197 (by omega)⟩⟩ ?_
                refine gv_run 1 true hD (pcₚ := 447) (lvₚ := [(0, .inr (.inr (some 0))), (1, .inr (.inl v1_96)), (3, .inl v3_91), (4, .inl v4_96), (5, .inl v5_107)]) (stₚ := []) (hₚ := gz_up (gr_h I157 J106) 111 (Int.toNat v5_107) (.inl ((I157 111 (Int.toNat ((v5_107 - 1))))))) (C := (True ∧ (0 ≤ v5_107 ∧ v5_107 < ((16 : Nat) : Int)))) rfl ⟨trivial, ⟨by exact gz_m 198 (by omega), by exact gz_m 199 (by omega)⟩⟩ ?_
                refine gr_st hI157 FI157 rfl rfl ⟨⟨by show 0 ≤ _; exact gz_m 200 (by omega), by show _ ≤ 15; exact gz_m 201 (by omega)⟩, trivial⟩ (fun I164 hI164 FI164 q165 p165 => ?_)
                have t166 := p165 0 186 (fun q => absurd q.1 (by first | exact gz_ne rfl | decide))
                have t167 := p165 105 (Int.toNat v3_91) (fun q => absurd q.1 (by first | exact gz_ne rfl | decide))
                have f168 := (gr_b_0_186 hI164)
                have t169 := FI164 0 157 rfl
                refine gv_run 2 true hD (pcₚ := 370) (lvₚ := [(5, .inl (v5_107 + (-1))), (0, .inr (.inr (some 0))), (1, .inr (.inl v1_96)), (3, .inl v3_91), (4, .inl v4_96)]) (stₚ := []) (hₚ := gr_h I164 J106) (C := ((True ∧ True) ∧ True)) rfl ⟨⟨trivial, trivial⟩, trivial⟩ ?_
                refine gv_pick [1, 2, 3, 4, 0] rfl ?_
                exact ih370 I164 J106 ((v5_107 + (-1))) (by exact gz_m 202 (by omega)) hI164 FI164 FJ106 (by exact gz_m 203 (by omega)) (gr_TP_r hI157 (gr_TP_r hI150 (gr_TP_r hI105 e0_107 (by decide) p151) (by decide) p158) (by decide) p165) (by rw [show I164 0 186 = I105 0 186 from by exact gz_m 204 (by omega)]; exact gr_RH_mv e1_107 (by exact gz_m 205 (by omega)) (by exact gz_m 206 (by omega)) (by exact gz_m 207 (by omega)) (by exact gz_m 208 (by omega)) (by exact gz_m 209 (by omega)) (by exact gz_m 210 (by omega)) p151 p158 q158 p165 q165)
        have f170 := (gr_b_105 hI94 (Int.toNat v3_91))
        refine gv_run 5 true hD (pcₚ := 325) (lvₚ := [(0, .inr (.inr (some 0))), (1, .inr (.inl v1_96)), (3, .inl v3_91), (4, .inl v4_96)]) (stₚ := [.inl (I94 105 (Int.toNat v3_91)), .inl v4_96]) (hₚ := gr_h I94 J95) (C := (((((True ∧ True) ∧ True) ∧ True) ∧ True) ∧ (0 ≤ v3_91 ∧ v3_91 < ((3000 : Nat) : Int)))) rfl ⟨⟨⟨⟨⟨trivial, trivial⟩, trivial⟩, trivial⟩, trivial⟩, ⟨by exact gz_m 211 (by omega), by exact gz_m 212 (by omega)⟩⟩ ?_
        refine gv_icmp_ge (t := 514) hD rfl rfl ⟨⟨by exact gz_m 213 (by omega), by exact gz_m 214 (by omega)⟩, ⟨by exact gz_m 215 (by omega), by exact gz_m 216 (by omega)⟩⟩ (fun c171 => ?_) (fun c171 => ?_)
        · refine gv_pick [0, 1, 2] rfl ?_
          exact L514 (by exact gz_m 217 (by omega)) e0_96 e1_96
        · have f172 := (gr_b_0_186 hI94)
          refine gv_run 5 true hD (pcₚ := 338) (lvₚ := [(5, .inl (I94 0 186)), (0, .inr (.inr (some 0))), (1, .inr (.inl v1_96)), (3, .inl v3_91), (4, .inl v4_96)]) (stₚ := [.inl 16, .inl (I94 0 186)]) (hₚ := gr_h I94 J95) (C := (((((True ∧ True) ∧ True) ∧ True) ∧ True) ∧ True)) rfl ⟨⟨⟨⟨⟨trivial, trivial⟩, trivial⟩, trivial⟩, trivial⟩, trivial⟩ ?_
          refine gv_icmp_ne (t := 370) hD rfl rfl ⟨⟨by exact gz_m 218 (by omega), by exact gz_m 219 (by omega)⟩, ⟨by exact gz_m 220 (by omega), by exact gz_m 221 (by omega)⟩⟩ (fun c173 => ?_) (fun c173 => ?_)
          · refine gv_pick [1, 2, 3, 4, 0] rfl ?_
            exact L370 _ I94 J95 (I94 0 186) (Nat.lt_succ_self _) hI94 FI94 FJ95 (by exact gz_m 222 (by omega)) e0_96 (gr_RH_in e1_96 (fun r h1 h2 => by exact gz_m 223 (by omega)))
          · have f174 := (gr_b_112 hI94 (Int.toNat 15))
            refine gv_run 4 true hD (pcₚ := 348) (lvₚ := [(5, .inl (I94 0 186)), (0, .inr (.inr (some 0))), (1, .inr (.inl v1_96)), (3, .inl v3_91), (4, .inl v4_96)]) (stₚ := [.inl (I94 112 (Int.toNat 15))]) (hₚ := gr_h I94 J95) (C := ((((True ∧ True) ∧ True) ∧ True) ∧ (0 ≤ 15 ∧ 15 < ((16 : Nat) : Int)))) rfl ⟨⟨⟨⟨trivial, trivial⟩, trivial⟩, trivial⟩, ⟨by exact gz_m 224 (by omega), by exact gz_m 225 (by omega)⟩⟩ ?_
            refine gv_run 7 true hD (pcₚ := 359) (lvₚ := [(5, .inl (I94 0 186)), (0, .inr (.inr (some 0))), (1, .inr (.inl v1_96)), (3, .inl v3_91), (4, .inl v4_96)]) (stₚ := [.inl ((16 * v3_91) + v4_96), .inr (.inr (some 106)), .inl (I94 112 (Int.toNat 15))]) (hₚ := gr_h I94 J95) (C := (((((((True ∧ True) ∧ True) ∧ True) ∧ True) ∧ True) ∧ True) ∧ True)) rfl ⟨⟨⟨⟨⟨⟨⟨trivial, trivial⟩, trivial⟩, trivial⟩, trivial⟩, trivial⟩, trivial⟩, trivial⟩ ?_
            have f175 := (gr_b_106 hI94 (Int.toNat (((16 * v3_91) + v4_96))))
            refine gv_run 1 true hD (pcₚ := 360) (lvₚ := [(5, .inl (I94 0 186)), (0, .inr (.inr (some 0))), (1, .inr (.inl v1_96)), (3, .inl v3_91), (4, .inl v4_96)]) (stₚ := [.inl (I94 106 (Int.toNat (((16 * v3_91) + v4_96)))), .inl (I94 112 (Int.toNat 15))]) (hₚ := gr_h I94 J95) (C := (True ∧ (0 ≤ (((16 * v3_91) + v4_96)) ∧ (((16 * v3_91) + v4_96)) < ((48000 : Nat) : Int)))) rfl ⟨trivial, ⟨by exact gz_m 226 (by omega), by exact gz_m 227 (by omega)⟩⟩ ?_
            refine gv_icmp_gt (t := 366) hD rfl rfl ⟨⟨by exact gz_m 228 (by omega), by exact gz_m 229 (by omega)⟩, ⟨by exact gz_m 230 (by omega), by exact gz_m 231 (by omega)⟩⟩ (fun c176 => ?_) (fun c176 => ?_)
            · refine gv_run 2 true hD (pcₚ := 370) (lvₚ := [(5, .inl 15), (0, .inr (.inr (some 0))), (1, .inr (.inl v1_96)), (3, .inl v3_91), (4, .inl v4_96)]) (stₚ := []) (hₚ := gr_h I94 J95) (C := ((True ∧ True) ∧ True)) rfl ⟨⟨trivial, trivial⟩, trivial⟩ ?_
              refine gv_pick [1, 2, 3, 4, 0] rfl ?_
              exact L370 _ I94 J95 15 (Nat.lt_succ_self _) hI94 FI94 FJ95 (by exact gz_m 232 (by omega)) e0_96 (gr_RH_in e1_96 (fun r h1 h2 => by exact gz_m 233 (by omega)))
            · refine gv_run 1 true hD (pcₚ := 514) (lvₚ := [(5, .inl (I94 0 186)), (0, .inr (.inr (some 0))), (1, .inr (.inl v1_96)), (3, .inl v3_91), (4, .inl v4_96)]) (stₚ := []) (hₚ := gr_h I94 J95) (C := (True ∧ True)) rfl ⟨trivial, trivial⟩ ?_
              refine gv_pick [1, 2, 3] rfl ?_
              exact L514 (by exact gz_m 234 (by omega)) e0_96 e1_96
    refine gv_run 1 true hD (pcₚ := 300) (lvₚ := [(0, .inr (.inr (some 0))), (1, .inr (.inl v1_91)), (3, .inl v3_91)]) (stₚ := [.inl v3_91]) (hₚ := gr_h I89 J90) (C := (True ∧ True)) rfl ⟨trivial, trivial⟩ ?_
    refine gv_if_lt (t := 524) hD rfl rfl ⟨by exact gz_m 235 (by omega), by exact gz_m 236 (by omega)⟩ (fun c177 => ?_) (fun c177 => ?_)
    · refine gv_run 1 true hD (pcₚ := 525) (lvₚ := [(0, .inr (.inr (some 0))), (1, .inr (.inl v1_91)), (3, .inl v3_91)]) (stₚ := [.inr (.inl v1_91)]) (hₚ := gr_h I89 J90) (C := (True ∧ True)) rfl ⟨trivial, trivial⟩ ?_
      exact gv_lret hD rfl ⟨I89, J90, rfl, hI89, FI89, FJ90, ⟨_, rfl, e0_91, e1_91⟩⟩
    · refine gv_run 5 true hD (pcₚ := 310) (lvₚ := [(0, .inr (.inr (some 0))), (1, .inr (.inl v1_91)), (3, .inl v3_91)]) (stₚ := [.inr (.inl (J90 104 (Int.toNat v3_91))), .inr (.inl v1_91)]) (hₚ := gr_h I89 J90) (C := (((((True ∧ True) ∧ True) ∧ True) ∧ True) ∧ (0 ≤ v3_91 ∧ v3_91 < ((3000 : Nat) : Int)))) rfl ⟨⟨⟨⟨⟨trivial, trivial⟩, trivial⟩, trivial⟩, trivial⟩, ⟨by exact gz_m 237 (by omega), by exact gz_m 238 (by omega)⟩⟩ ?_
      obtain ⟨r178, h178, E178, P178⟩ := r_plus (ws0 := ws0) (tb := tb) hws htb ext I89 J90 hI89 v1_91 ((J90 104 (Int.toNat v3_91)))  
      obtain ⟨rfl, ⟨z178, rfl⟩⟩ := P178
      refine gv_callS hD rfl (As := [.inr (.inl v1_91), .inr (.inl (J90 104 (Int.toNat v3_91)))]) (st := []) rfl (gr_lS hws rfl) (Nat.le_of_ble_eq_true rfl) (gz_Ev_mono (d := 2) (by decide) E178) ?_
      show gv_X _ _ (313, [(0, .inr (.inr (some 0))), (1, .inr (.inl v1_91)), (3, .inl v3_91)], [.inr (.inl z178)], gr_sh ++ ext, gr_h I89 J90)
      refine gv_run 3 true hD (pcₚ := 317) (lvₚ := [(4, .inl 0), (1, .inr (.inl z178)), (0, .inr (.inr (some 0))), (3, .inl v3_91)]) (stₚ := []) (hₚ := gr_h I89 J90) (C := (((True ∧ True) ∧ True) ∧ True)) rfl ⟨⟨⟨trivial, trivial⟩, trivial⟩, trivial⟩ ?_
      refine gv_pick [2, 1, 3, 0] rfl ?_
      exact L317 _ I89 J90 z178 0 (Nat.lt_succ_self _) hI89 FI89 FJ90 (by exact gz_m 239 (by omega)) e0_91 e1_91
set_option maxHeartbeats 8000000 in
set_option maxRecDepth 100000 in
theorem r_counted {ws0 : List Cond} {tb : String → gz_T} (hws : ∀ w ∈ gr_ws, w ∈ ws0) (htb : tb RX13 = gr_T) (ext : gz_Sh) (p : Nat → Nat) (I : gr_I) (J : gr_J) (hI : gr_Inv I)   (x0 : gr_NP p I) (x1 : gr_CR (I 0 159) I) (x2 : I 0 177 < I 0 157) : ∃ r hₚ, gz_Ev ws0 tb 8 (yX13_counted, cX13_counted, 9, (some .long)) [.inr (.inr (some 0))] (gr_sh ++ ext) (gr_h I J) r (gr_sh ++ ext) hₚ 0 0 ∧ (∃ (Iₚ : gr_I) (Jₚ : gr_J), hₚ = gr_h Iₚ Jₚ ∧ gr_Inv Iₚ ∧ gr_fr [186] [105, 106, 107, 108, 110, 111, 112] I Iₚ ∧ gr_fj [186] [104, 105, 106, 107, 108, 110, 111, 112] J Jₚ ∧ (∃ z : Int64, r = some (.inr (.inl z)) ∧ (gr_TP (I 0 157) Iₚ) ∧ (gr_RD Iₚ))) := by
  have FI : gr_fr [186] [105, 106, 107, 108, 110, 111, 112] I I := fun _ _ _ => rfl
  have FJ : gr_fj [186] [104, 105, 106, 107, 108, 110, 111, 112] J J := fun _ _ _ => rfl
  have hD : gv_D (gr_E ws0 tb 7 (yX13_counted, cX13_counted, 9, (some .long)) kX13_counted) := gq_of oX13_counted
  refine gr_ev (d := 7) (l := kX13_counted) (Po := fun r hₚ => (∃ (Iₚ : gr_I) (Jₚ : gr_J), hₚ = gr_h Iₚ Jₚ ∧ gr_Inv Iₚ ∧ gr_fr [186] [105, 106, 107, 108, 110, 111, 112] I Iₚ ∧ gr_fj [186] [104, 105, 106, 107, 108, 110, 111, 112] J Jₚ ∧ (∃ z : Int64, r = some (.inr (.inl z)) ∧ (gr_TP (I 0 157) Iₚ) ∧ (gr_RD Iₚ)))) htb rfl (Nat.le_of_ble_eq_true rfl) ?_
  have f1 := (gr_b_0_186 hI)
  have L2 : ∀ (n : Nat) (I2 : gr_I) (J3 : gr_J) (v1_4 : Int), (3001 - v1_4).toNat < n → gr_Inv I2 → gr_fr [186] [105, 106, 107, 108, 110, 111, 112] I I2 → gr_fj [186] [104, 105, 106, 107, 108, 110, 111, 112] J J3 → ((0 ≤ v1_4 ∧ v1_4 ≤ 3000) ∧ (v1_4 ≤ I 0 157)) → (gr_TP v1_4 I2) → gv_X (gr_E ws0 tb 7 (yX13_counted, cX13_counted, 9, (some .long)) kX13_counted) (gv_Q cX13_counted (some .long) (gr_sh ++ ext) (fun r hₚ => (∃ (Iₚ : gr_I) (Jₚ : gr_J), hₚ = gr_h Iₚ Jₚ ∧ gr_Inv Iₚ ∧ gr_fr [186] [105, 106, 107, 108, 110, 111, 112] I Iₚ ∧ gr_fj [186] [104, 105, 106, 107, 108, 110, 111, 112] J Jₚ ∧ (∃ z : Int64, r = some (.inr (.inl z)) ∧ (gr_TP (I 0 157) Iₚ) ∧ (gr_RD Iₚ))))) (2, [(0, .inr (.inr (some 0))), (1, .inl v1_4)], [], gr_sh ++ ext, gr_h I2 J3) := by
    intro n
    induction n with
    | zero => intro I2 J3 v1_4 hn; exact gz_m 0 (by omega)
    | succ n ih2 =>
      intro I2 J3 v1_4 hn hI2 FI2 FJ3 m_4 e0_4
      obtain ⟨hv1_4, e1_4⟩ := m_4
      have f5 := (gr_b_0_186 hI2)
      have t6 := FI2 0 157 rfl
      have L31 : ∀ (n : Nat) (I7 : gr_I) (J8 : gr_J) (v2_9 : Int), (9001 - v2_9).toNat < n → gr_Inv I7 → gr_fr [186] [105, 106, 107, 108, 110, 111, 112] I I7 → gr_fj [186] [104, 105, 106, 107, 108, 110, 111, 112] J J8 → ((0 ≤ v1_4 ∧ v1_4 ≤ 2999) ∧ (0 ≤ v2_9 ∧ v2_9 ≤ 9000) ∧ (v1_4 < I 0 157) ∧ (I 91 (Int.toNat v1_4) ≤ v2_9)) → (gr_TP (v1_4 + 1) I7) → gv_X (gr_E ws0 tb 7 (yX13_counted, cX13_counted, 9, (some .long)) kX13_counted) (gv_Q cX13_counted (some .long) (gr_sh ++ ext) (fun r hₚ => (∃ (Iₚ : gr_I) (Jₚ : gr_J), hₚ = gr_h Iₚ Jₚ ∧ gr_Inv Iₚ ∧ gr_fr [186] [105, 106, 107, 108, 110, 111, 112] I Iₚ ∧ gr_fj [186] [104, 105, 106, 107, 108, 110, 111, 112] J Jₚ ∧ (∃ z : Int64, r = some (.inr (.inl z)) ∧ (gr_TP (I 0 157) Iₚ) ∧ (gr_RD Iₚ))))) (31, [(0, .inr (.inr (some 0))), (1, .inl v1_4), (2, .inl v2_9)], [], gr_sh ++ ext, gr_h I7 J8) := by
        intro n
        induction n with
        | zero => intro I7 J8 v2_9 hn; exact gz_m 1 (by omega)
        | succ n ih31 =>
          intro I7 J8 v2_9 hn hI7 FI7 FJ8 m_9 e0_9
          clear hv1_4 e1_4 f5 t6
          obtain ⟨hv1_4_9, hv2_9, e1_9, e2_9⟩ := m_9
          have f10 := (gr_b_0_186 hI7)
          have t11 := FI7 0 157 rfl
          have L92 : ∀ (v3_12 : Int) (s0_12 : Int), ((0 ≤ v1_4 ∧ v1_4 ≤ 2999) ∧ (0 ≤ v2_9 ∧ v2_9 ≤ 8999) ∧ (0 ≤ v3_12 ∧ v3_12 ≤ 8999) ∧ (0 ≤ s0_12 ∧ s0_12 ≤ 95) ∧ (v3_12 = (I 99 (Int.toNat v2_9))) ∧ (v1_4 < I 0 157) ∧ (I 91 (Int.toNat v1_4) ≤ v2_9) ∧ (v2_9 < I 91 (Int.toNat v1_4) + I 92 (Int.toNat v1_4)) ∧ (0 ≤ I 97 (Int.toNat (I 99 (Int.toNat v2_9))) → s0_12 = I 95 (Int.toNat (I 99 (Int.toNat v2_9)))) ∧ (I 97 (Int.toNat (I 99 (Int.toNat v2_9))) < 0 → I 95 (Int.toNat (I 99 (Int.toNat v2_9))) < 64)) → gv_X (gr_E ws0 tb 7 (yX13_counted, cX13_counted, 9, (some .long)) kX13_counted) (gv_Q cX13_counted (some .long) (gr_sh ++ ext) (fun r hₚ => (∃ (Iₚ : gr_I) (Jₚ : gr_J), hₚ = gr_h Iₚ Jₚ ∧ gr_Inv Iₚ ∧ gr_fr [186] [105, 106, 107, 108, 110, 111, 112] I Iₚ ∧ gr_fj [186] [104, 105, 106, 107, 108, 110, 111, 112] J Jₚ ∧ (∃ z : Int64, r = some (.inr (.inl z)) ∧ (gr_TP (I 0 157) Iₚ) ∧ (gr_RD Iₚ))))) (92, [(0, .inr (.inr (some 0))), (1, .inl v1_4), (2, .inl v2_9), (3, .inl v3_12)], [.inl s0_12], gr_sh ++ ext, gr_h I7 J8) := by
            intro v3_12 s0_12 m_12
            obtain ⟨hv1_4_12, hv2_9_12, hv3_12, hs0_12, e0_12, e1_12, e2_12, e3_12, e4_12, e5_12⟩ := m_12
            have q9_12 := e0_12
            subst q9_12
            have f13 := (gr_b_0_186 hI7)
            have t14 := FI7 0 157 rfl
            have L275 : ∀ (I15 : gr_I) (J16 : gr_J) , gr_Inv I15 → gr_fr [186] [105, 106, 107, 108, 110, 111, 112] I I15 → gr_fj [186] [104, 105, 106, 107, 108, 110, 111, 112] J J16 → ((0 ≤ v1_4 ∧ v1_4 ≤ 2999) ∧ (0 ≤ v2_9 ∧ v2_9 ≤ 8999) ∧ (v1_4 < I 0 157) ∧ (I 91 (Int.toNat v1_4) ≤ v2_9) ∧ (v2_9 < I 91 (Int.toNat v1_4) + I 92 (Int.toNat v1_4))) → (gr_TP (v1_4 + 1) I15) → gv_X (gr_E ws0 tb 7 (yX13_counted, cX13_counted, 9, (some .long)) kX13_counted) (gv_Q cX13_counted (some .long) (gr_sh ++ ext) (fun r hₚ => (∃ (Iₚ : gr_I) (Jₚ : gr_J), hₚ = gr_h Iₚ Jₚ ∧ gr_Inv Iₚ ∧ gr_fr [186] [105, 106, 107, 108, 110, 111, 112] I Iₚ ∧ gr_fj [186] [104, 105, 106, 107, 108, 110, 111, 112] J Jₚ ∧ (∃ z : Int64, r = some (.inr (.inl z)) ∧ (gr_TP (I 0 157) Iₚ) ∧ (gr_RD Iₚ))))) (275, [(0, .inr (.inr (some 0))), (1, .inl v1_4), (2, .inl v2_9)], [], gr_sh ++ ext, gr_h I15 J16) := by
              intro I15 J16 hI15 FI15 FJ16 m_17 e0_17
              clear hv1_4_12 hv2_9_12 hv3_12 hs0_12 e0_12 e1_12 e2_12 e3_12 e4_12 e5_12 f13 t14 hv1_4_9 hv2_9 e1_9 e2_9 f10 t11
              obtain ⟨hv1_4_17, hv2_9_17, e1_17, e2_17, e3_17⟩ := m_17
              have f18 := (gr_b_0_186 hI15)
              have t19 := FI15 0 157 rfl
              refine gv_run 2 true hD (pcₚ := 31) (lvₚ := [(2, .inl (v2_9 + 1)), (0, .inr (.inr (some 0))), (1, .inl v1_4)]) (stₚ := []) (hₚ := gr_h I15 J16) (C := ((True ∧ True) ∧ True)) rfl ⟨⟨trivial, trivial⟩, trivial⟩ ?_
              refine gv_pick [1, 2, 0] rfl ?_
              exact ih31 I15 J16 (v2_9 + 1) (by exact gz_m 2 (by omega)) hI15 FI15 FJ16 (by exact gz_m 3 (by omega)) e0_17
            have L184 : ∀ (n : Nat) (v4_20 : Int) (v5_20 : Int64) (v7_20 : Int) (v8_20 : Int), (5 - v8_20).toNat < n → ((0 ≤ v1_4 ∧ v1_4 ≤ 2999) ∧ (0 ≤ v2_9 ∧ v2_9 ≤ 8999) ∧ (0 ≤ (I 99 (Int.toNat v2_9)) ∧ (I 99 (Int.toNat v2_9)) ≤ 8999) ∧ (0 ≤ v4_20 ∧ v4_20 ≤ 95) ∧ (0 ≤ v7_20 ∧ v7_20 ≤ 4) ∧ (0 ≤ v8_20 ∧ v8_20 ≤ 4) ∧ (v1_4 < I 0 157) ∧ (I 91 (Int.toNat v1_4) ≤ v2_9) ∧ (v2_9 < I 91 (Int.toNat v1_4) + I 92 (Int.toNat v1_4)) ∧ (0 ≤ I 97 (Int.toNat (I 99 (Int.toNat v2_9)))) ∧ (v7_20 = I 6 (Int.toNat (I 95 (Int.toNat (I 99 (Int.toNat v2_9))))))) → gv_X (gr_E ws0 tb 7 (yX13_counted, cX13_counted, 9, (some .long)) kX13_counted) (gv_Q cX13_counted (some .long) (gr_sh ++ ext) (fun r hₚ => (∃ (Iₚ : gr_I) (Jₚ : gr_J), hₚ = gr_h Iₚ Jₚ ∧ gr_Inv Iₚ ∧ gr_fr [186] [105, 106, 107, 108, 110, 111, 112] I Iₚ ∧ gr_fj [186] [104, 105, 106, 107, 108, 110, 111, 112] J Jₚ ∧ (∃ z : Int64, r = some (.inr (.inl z)) ∧ (gr_TP (I 0 157) Iₚ) ∧ (gr_RD Iₚ))))) (184, [(0, .inr (.inr (some 0))), (1, .inl v1_4), (2, .inl v2_9), (3, .inl (I 99 (Int.toNat v2_9))), (4, .inl v4_20), (5, .inr (.inl v5_20)), (7, .inl v7_20), (8, .inl v8_20)], [], gr_sh ++ ext, gr_h I7 J8) := by
              intro n
              induction n with
              | zero => intro v4_20 v5_20 v7_20 v8_20 hn; exact gz_m 4 (by omega)
              | succ n ih184 =>
                intro v4_20 v5_20 v7_20 v8_20 hn m_20
                obtain ⟨hv1_4_20, hv2_9_20, h_I_99__Int_toNat_v2_9___20, hv4_20, hv7_20, hv8_20, e0_20, e1_20, e2_20, e3_20, e4_20⟩ := m_20
                have f21 := (gr_b_0_186 hI7)
                have t22 := FI7 0 157 rfl
                refine gv_run 2 true hD (pcₚ := 188) (lvₚ := [(0, .inr (.inr (some 0))), (1, .inl v1_4), (2, .inl v2_9), (3, .inl (I 99 (Int.toNat v2_9))), (4, .inl v4_20), (5, .inr (.inl v5_20)), (7, .inl v7_20), (8, .inl v8_20)]) (stₚ := [.inl v7_20, .inl v8_20]) (hₚ := gr_h I7 J8) (C := ((True ∧ True) ∧ True)) rfl ⟨⟨trivial, trivial⟩, trivial⟩ ?_
                refine gv_icmp_ge (t := 220) hD rfl rfl ⟨⟨by exact gz_m 5 (by omega), by exact gz_m 6 (by omega)⟩, ⟨by exact gz_m 7 (by omega), by exact gz_m 8 (by omega)⟩⟩ (fun c23 => ?_) (fun c23 => ?_)
                · refine gv_run 7 true hD (pcₚ := 231) (lvₚ := [(0, .inr (.inr (some 0))), (1, .inl v1_4), (2, .inl v2_9), (3, .inl (I 99 (Int.toNat v2_9))), (4, .inl v4_20), (5, .inr (.inl v5_20)), (7, .inl v7_20), (8, .inl v8_20)]) (stₚ := [.inr (.inl (J8 104 (Int.toNat v1_4))), .inl v1_4, .inr (.inr (some 104))]) (hₚ := gr_h I7 J8) (C := (((((((True ∧ True) ∧ True) ∧ True) ∧ True) ∧ True) ∧ True) ∧ (0 ≤ v1_4 ∧ v1_4 < ((3000 : Nat) : Int)))) rfl ⟨⟨⟨⟨⟨⟨⟨trivial, trivial⟩, trivial⟩, trivial⟩, trivial⟩, trivial⟩, trivial⟩, ⟨by exact gz_m 9 (by omega), by exact gz_m 10 (by omega)⟩⟩ ?_
                  refine gv_run 1 true hD (pcₚ := 233) (lvₚ := [(0, .inr (.inr (some 0))), (1, .inl v1_4), (2, .inl v2_9), (3, .inl (I 99 (Int.toNat v2_9))), (4, .inl v4_20), (5, .inr (.inl v5_20)), (7, .inl v7_20), (8, .inl v8_20)]) (stₚ := [.inr (.inl v5_20), .inr (.inl (J8 104 (Int.toNat v1_4))), .inl v1_4, .inr (.inr (some 104))]) (hₚ := gr_h I7 J8) (C := (True ∧ True)) rfl ⟨trivial, trivial⟩ ?_
                  obtain ⟨r24, h24, E24, P24⟩ := r_plus (ws0 := ws0) (tb := tb) hws htb ext I7 J8 hI7 ((J8 104 (Int.toNat v1_4))) v5_20  
                  obtain ⟨rfl, ⟨z24, rfl⟩⟩ := P24
                  refine gv_callS hD rfl (As := [.inr (.inl (J8 104 (Int.toNat v1_4))), .inr (.inl v5_20)]) (st := [.inl v1_4, .inr (.inr (some 104))]) rfl (gr_lS hws rfl) (Nat.le_of_ble_eq_true rfl) (gz_Ev_mono (d := 2) (by decide) E24) ?_
                  show gv_X _ _ (236, [(0, .inr (.inr (some 0))), (1, .inl v1_4), (2, .inl v2_9), (3, .inl (I 99 (Int.toNat v2_9))), (4, .inl v4_20), (5, .inr (.inl v5_20)), (7, .inl v7_20), (8, .inl v8_20)], [.inr (.inl z24), .inl v1_4, .inr (.inr (some 104))], gr_sh ++ ext, gr_h I7 J8)
                  refine gv_run 1 true hD (pcₚ := 237) (lvₚ := [(0, .inr (.inr (some 0))), (1, .inl v1_4), (2, .inl v2_9), (3, .inl (I 99 (Int.toNat v2_9))), (4, .inl v4_20), (5, .inr (.inl v5_20)), (7, .inl v7_20), (8, .inl v8_20)]) (stₚ := []) (hₚ := gz_up (gr_h I7 J8) 104 (Int.toNat v1_4) (.inr (.inl z24))) (C := (True ∧ (0 ≤ v1_4 ∧ v1_4 < ((3000 : Nat) : Int)))) rfl ⟨trivial, ⟨by exact gz_m 11 (by omega), by exact gz_m 12 (by omega)⟩⟩ ?_
                  refine gr_stJ FJ8 rfl rfl (fun J25 FJ25 => ?_)
                  have f26 := gw_cmp (v5_20) ((Int64.ofNat 0))
                  refine gv_run 3 true hD (pcₚ := 241) (lvₚ := [(0, .inr (.inr (some 0))), (1, .inl v1_4), (2, .inl v2_9), (3, .inl (I 99 (Int.toNat v2_9))), (4, .inl v4_20), (5, .inr (.inl v5_20)), (7, .inl v7_20), (8, .inl v8_20)]) (stₚ := [.inl ((lg_cmp (v5_20) ((Int64.ofNat 0))).toInt)]) (hₚ := gr_h I7 J25) (C := (((True ∧ True) ∧ True) ∧ True)) rfl ⟨⟨⟨trivial, trivial⟩, trivial⟩, trivial⟩ ?_
                  refine gv_if_le (t := 275) hD rfl rfl ⟨by exact gz_m 13 (by omega), by exact gz_m 14 (by omega)⟩ (fun c27 => ?_) (fun c27 => ?_)
                  · refine gv_pick [0, 1, 2] rfl ?_
                    exact L275 I7 J25 hI7 FI7 FJ25 (by exact gz_m 15 (by omega)) e0_9
                  · refine gv_run 7 true hD (pcₚ := 252) (lvₚ := [(0, .inr (.inr (some 0))), (1, .inl v1_4), (2, .inl v2_9), (3, .inl (I 99 (Int.toNat v2_9))), (4, .inl v4_20), (5, .inr (.inl v5_20)), (7, .inl v7_20), (8, .inl v8_20)]) (stₚ := [.inl 1, .inl 0, .inl v7_20, .inl v2_9, .inl (I 99 (Int.toNat v2_9)), .inl v1_4, .inr (.inr (some 0))]) (hₚ := gr_h I7 J25) (C := (((((((True ∧ True) ∧ True) ∧ True) ∧ True) ∧ True) ∧ True) ∧ True)) rfl ⟨⟨⟨⟨⟨⟨⟨trivial, trivial⟩, trivial⟩, trivial⟩, trivial⟩, trivial⟩, trivial⟩, trivial⟩ ?_
                    have f28 := (gr_b_9 hI7 (Int.toNat v4_20))
                    refine gv_run 4 true hD (pcₚ := 259) (lvₚ := [(0, .inr (.inr (some 0))), (1, .inl v1_4), (2, .inl v2_9), (3, .inl (I 99 (Int.toNat v2_9))), (4, .inl v4_20), (5, .inr (.inl v5_20)), (7, .inl v7_20), (8, .inl v8_20)]) (stₚ := [.inl (I7 9 (Int.toNat v4_20)), .inl 1, .inl 0, .inl v7_20, .inl v2_9, .inl (I 99 (Int.toNat v2_9)), .inl v1_4, .inr (.inr (some 0))]) (hₚ := gr_h I7 J25) (C := ((((True ∧ True) ∧ True) ∧ True) ∧ (0 ≤ v4_20 ∧ v4_20 < ((96 : Nat) : Int)))) rfl ⟨⟨⟨⟨trivial, trivial⟩, trivial⟩, trivial⟩, ⟨by exact gz_m 16 (by omega), by exact gz_m 17 (by omega)⟩⟩ ?_
                    rw [FI7 9 (Int.toNat v4_20) rfl]
                    have f29 := (gr_b_9 hI (Int.toNat v4_20))
                    have f30 := (gr_b_97 hI7 (Int.toNat ((I 99 (Int.toNat v2_9)))))
                    refine gv_run 6 true hD (pcₚ := 269) (lvₚ := [(0, .inr (.inr (some 0))), (1, .inl v1_4), (2, .inl v2_9), (3, .inl (I 99 (Int.toNat v2_9))), (4, .inl v4_20), (5, .inr (.inl v5_20)), (7, .inl v7_20), (8, .inl v8_20)]) (stₚ := [.inl (I7 97 (Int.toNat ((I 99 (Int.toNat v2_9))))), .inr (.inr (some 50)), .inl (I 9 (Int.toNat v4_20)), .inl 1, .inl 0, .inl v7_20, .inl v2_9, .inl (I 99 (Int.toNat v2_9)), .inl v1_4, .inr (.inr (some 0))]) (hₚ := gr_h I7 J25) (C := ((((((True ∧ True) ∧ True) ∧ True) ∧ True) ∧ True) ∧ (0 ≤ ((I 99 (Int.toNat v2_9))) ∧ ((I 99 (Int.toNat v2_9))) < ((9000 : Nat) : Int)))) rfl ⟨⟨⟨⟨⟨⟨trivial, trivial⟩, trivial⟩, trivial⟩, trivial⟩, trivial⟩, ⟨by exact gz_m 18 (by omega), by exact gz_m 19 (by omega)⟩⟩ ?_
                    rw [FI7 97 (Int.toNat ((I 99 (Int.toNat v2_9)))) rfl]
                    have f31 := (gr_b_97 hI (Int.toNat ((I 99 (Int.toNat v2_9)))))
                    have f32 := (gr_b_50 hI7 (Int.toNat ((I 97 (Int.toNat ((I 99 (Int.toNat v2_9))))))))
                    refine gv_run 1 true hD (pcₚ := 270) (lvₚ := [(0, .inr (.inr (some 0))), (1, .inl v1_4), (2, .inl v2_9), (3, .inl (I 99 (Int.toNat v2_9))), (4, .inl v4_20), (5, .inr (.inl v5_20)), (7, .inl v7_20), (8, .inl v8_20)]) (stₚ := [.inl (I7 50 (Int.toNat ((I 97 (Int.toNat ((I 99 (Int.toNat v2_9)))))))), .inl (I 9 (Int.toNat v4_20)), .inl 1, .inl 0, .inl v7_20, .inl v2_9, .inl (I 99 (Int.toNat v2_9)), .inl v1_4, .inr (.inr (some 0))]) (hₚ := gr_h I7 J25) (C := (True ∧ (0 ≤ ((I 97 (Int.toNat ((I 99 (Int.toNat v2_9)))))) ∧ ((I 97 (Int.toNat ((I 99 (Int.toNat v2_9)))))) < ((3072 : Nat) : Int)))) rfl ⟨trivial, ⟨by exact gz_m 20 (by omega), by exact gz_m 21 (by omega)⟩⟩ ?_
                    rw [FI7 50 (Int.toNat ((I 97 (Int.toNat ((I 99 (Int.toNat v2_9))))))) rfl]
                    have f33 := (gr_b_50 hI (Int.toNat ((I 97 (Int.toNat ((I 99 (Int.toNat v2_9))))))))
                    refine gv_run 2 true hD (pcₚ := 272) (lvₚ := [(0, .inr (.inr (some 0))), (1, .inl v1_4), (2, .inl v2_9), (3, .inl (I 99 (Int.toNat v2_9))), (4, .inl v4_20), (5, .inr (.inl v5_20)), (7, .inl v7_20), (8, .inl v8_20)]) (stₚ := [.inl 0, .inl ((I 9 (Int.toNat v4_20)) + (I 50 (Int.toNat ((I 97 (Int.toNat ((I 99 (Int.toNat v2_9))))))))), .inl 1, .inl 0, .inl v7_20, .inl v2_9, .inl (I 99 (Int.toNat v2_9)), .inl v1_4, .inr (.inr (some 0))]) (hₚ := gr_h I7 J25) (C := ((True ∧ True) ∧ True)) rfl ⟨⟨trivial, trivial⟩, trivial⟩ ?_
                    obtain ⟨r34, h34, E34, P34⟩ := r_combine (ws0 := ws0) (tb := tb) hws htb ext 5 I7 J25 hI7 v1_4 ((I 99 (Int.toNat v2_9))) v2_9 v7_20 0 1 (((I 9 (Int.toNat v4_20)) + (I 50 (Int.toNat ((I 97 (Int.toNat ((I 99 (Int.toNat v2_9)))))))))) 0 ⟨by exact gz_m 22 (by omega), by exact gz_m 23 (by omega)⟩ ⟨by exact gz_m 24 (by omega), by exact gz_m 25 (by omega)⟩ ⟨by exact gz_m 26 (by omega), by exact gz_m 27 (by omega)⟩ ⟨by exact gz_m 28 (by omega), by exact gz_m 29 (by omega)⟩ ⟨by exact gz_m 30 (by omega), by exact gz_m 31 (by omega)⟩ ⟨by exact gz_m 32 (by omega), by exact gz_m 33 (by omega)⟩ ⟨by exact gz_m 34 (by omega), by exact gz_m 35 (by omega)⟩ ⟨by exact gz_m 36 (by omega), by exact gz_m 37 (by omega)⟩ e0_9 (by rw [FI7 91 _ rfl]; exact gz_m 38 (by omega)) (by rw [FI7 91 _ rfl, FI7 92 _ rfl]; exact gz_m 39 (by omega)) (FI7 99 _ rfl) (by rw [FI7 95 _ rfl, FI7 6 _ rfl]; exact gz_m 40 (by omega)) (gr_AR_x (by have u9 := gr_OR_at x1.2.2.2.1 (x := v1_4) (i := v2_9) (by exact gz_m 41 (by omega)) (by exact gz_m 42 (by omega)) (by exact gz_m 43 (by omega)) (by exact gz_m 44 (by omega)); have u8 := gr_AR_of (y := Int.toNat (I 99 (Int.toNat v2_9))) (m := v7_20) x1.2.2.1 hI (x1.2.2.2.2.1 (Int.toNat (I 99 (Int.toNat v2_9))) (by exact gz_m 45 (by omega))) (by exact gz_m 46 (by omega)) u9.2 ⟨by exact gz_m 47 (by omega), by exact gz_m 48 (by omega)⟩ (by exact gz_m 49 (by omega)); rw [show ((Int.toNat (I 99 (Int.toNat v2_9)) : Nat) : Int) = (I 99 (Int.toNat v2_9)) from by exact gz_m 50 (by omega)] at u8; exact u8) (fun j => FI7 98 j rfl)) (fun b hb => absurd hb (by exact gz_m 51 (by omega))) (by exact gz_m 52 (by omega)) (by exact gz_m 53 (by omega)) (by exact gz_m 54 (by omega))
                    obtain ⟨I35, J36, rfl, hI35, g34, k34, ⟨rfl, q34⟩⟩ := P34
                    have FI35 := gr_frt FI7 g34 rfl rfl
                    have FJ36 := gr_fjt FJ25 k34 rfl rfl
                    have t37 := g34 0 186 rfl
                    have f38 := (gr_b_0_186 hI35)
                    refine gv_callV hD rfl (As := [.inl v1_4, .inl (I 99 (Int.toNat v2_9)), .inl v2_9, .inl v7_20, .inl 0, .inl 1, .inl ((I 9 (Int.toNat v4_20)) + (I 50 (Int.toNat ((I 97 (Int.toNat ((I 99 (Int.toNat v2_9))))))))), .inl 0]) (st := []) rfl (by decide) rfl rfl (gr_lV hws rfl) (Nat.le_of_ble_eq_true rfl) (gz_Ev_mono (d := 7) (by decide) E34) ?_
                    show gv_X _ _ (275, [(0, .inr (.inr (some 0))), (1, .inl v1_4), (2, .inl v2_9), (3, .inl (I 99 (Int.toNat v2_9))), (4, .inl v4_20), (5, .inr (.inl v5_20)), (7, .inl v7_20), (8, .inl v8_20)], [], gr_sh ++ ext, gr_h I35 J36)
                    refine gv_pick [0, 1, 2] rfl ?_
                    exact L275 I35 J36 hI35 FI35 FJ36 (by exact gz_m 55 (by omega)) q34.1
                · refine gv_run 7 true hD (pcₚ := 203) (lvₚ := [(0, .inr (.inr (some 0))), (1, .inl v1_4), (2, .inl v2_9), (3, .inl (I 99 (Int.toNat v2_9))), (4, .inl v4_20), (5, .inr (.inl v5_20)), (7, .inl v7_20), (8, .inl v8_20)]) (stₚ := [.inl (I 99 (Int.toNat v2_9)), .inl 4, .inr (.inr (some 98)), .inr (.inr (some 104)), .inr (.inl v5_20)]) (hₚ := gr_h I7 J8) (C := (((((((True ∧ True) ∧ True) ∧ True) ∧ True) ∧ True) ∧ True) ∧ True)) rfl ⟨⟨⟨⟨⟨⟨⟨trivial, trivial⟩, trivial⟩, trivial⟩, trivial⟩, trivial⟩, trivial⟩, trivial⟩ ?_
                  have f39 := (gr_b_98 hI7 (Int.toNat (((4 * (I 99 (Int.toNat v2_9))) + v8_20))))
                  refine gv_run 4 true hD (pcₚ := 208) (lvₚ := [(0, .inr (.inr (some 0))), (1, .inl v1_4), (2, .inl v2_9), (3, .inl (I 99 (Int.toNat v2_9))), (4, .inl v4_20), (5, .inr (.inl v5_20)), (7, .inl v7_20), (8, .inl v8_20)]) (stₚ := [.inl (I7 98 (Int.toNat (((4 * (I 99 (Int.toNat v2_9))) + v8_20)))), .inr (.inr (some 104)), .inr (.inl v5_20)]) (hₚ := gr_h I7 J8) (C := ((((True ∧ True) ∧ True) ∧ True) ∧ (0 ≤ (((4 * (I 99 (Int.toNat v2_9))) + v8_20)) ∧ (((4 * (I 99 (Int.toNat v2_9))) + v8_20)) < ((36000 : Nat) : Int)))) rfl ⟨⟨⟨⟨trivial, trivial⟩, trivial⟩, trivial⟩, ⟨by exact gz_m 56 (by omega), by exact gz_m 57 (by omega)⟩⟩ ?_
                  rw [FI7 98 (Int.toNat (((4 * (I 99 (Int.toNat v2_9))) + v8_20))) rfl]
                  have f40 := (gr_b_98 hI (Int.toNat (((4 * (I 99 (Int.toNat v2_9))) + v8_20))))
                  refine gv_run 1 true hD (pcₚ := 209) (lvₚ := [(0, .inr (.inr (some 0))), (1, .inl v1_4), (2, .inl v2_9), (3, .inl (I 99 (Int.toNat v2_9))), (4, .inl v4_20), (5, .inr (.inl v5_20)), (7, .inl v7_20), (8, .inl v8_20)]) (stₚ := [.inr (.inl (J8 104 (Int.toNat ((I 98 (Int.toNat (((4 * (I 99 (Int.toNat v2_9))) + v8_20)))))))), .inr (.inl v5_20)]) (hₚ := gr_h I7 J8) (C := (True ∧ (0 ≤ ((I 98 (Int.toNat (((4 * (I 99 (Int.toNat v2_9))) + v8_20))))) ∧ ((I 98 (Int.toNat (((4 * (I 99 (Int.toNat v2_9))) + v8_20))))) < ((3000 : Nat) : Int)))) rfl ⟨trivial, ⟨by exact gz_m 58 (by omega), by exact gz_m 59 (by omega)⟩⟩ ?_
                  obtain ⟨r41, h41, E41, P41⟩ := r_times (ws0 := ws0) (tb := tb) hws htb ext I7 J8 hI7 v5_20 ((J8 104 (Int.toNat ((I 98 (Int.toNat (((4 * (I 99 (Int.toNat v2_9))) + v8_20))))))))  
                  obtain ⟨rfl, ⟨z41, rfl⟩⟩ := P41
                  refine gv_callS hD rfl (As := [.inr (.inl v5_20), .inr (.inl (J8 104 (Int.toNat ((I 98 (Int.toNat (((4 * (I 99 (Int.toNat v2_9))) + v8_20))))))))]) (st := []) rfl (gr_lS hws rfl) (Nat.le_of_ble_eq_true rfl) (gz_Ev_mono (d := 1) (by decide) E41) ?_
                  show gv_X _ _ (212, [(0, .inr (.inr (some 0))), (1, .inl v1_4), (2, .inl v2_9), (3, .inl (I 99 (Int.toNat v2_9))), (4, .inl v4_20), (5, .inr (.inl v5_20)), (7, .inl v7_20), (8, .inl v8_20)], [.inr (.inl z41)], gr_sh ++ ext, gr_h I7 J8)
                  refine gv_run 3 true hD (pcₚ := 184) (lvₚ := [(8, .inl (v8_20 + 1)), (5, .inr (.inl z41)), (0, .inr (.inr (some 0))), (1, .inl v1_4), (2, .inl v2_9), (3, .inl (I 99 (Int.toNat v2_9))), (4, .inl v4_20), (7, .inl v7_20)]) (stₚ := []) (hₚ := gr_h I7 J8) (C := (((True ∧ True) ∧ True) ∧ True)) rfl ⟨⟨⟨trivial, trivial⟩, trivial⟩, trivial⟩ ?_
                  refine gv_pick [2, 3, 4, 5, 6, 1, 7, 0] rfl ?_
                  exact ih184 v4_20 z41 v7_20 (v8_20 + 1) (by exact gz_m 60 (by omega)) (by exact gz_m 61 (by omega))
            have f42 := (gr_b_109 hI7 (Int.toNat s0_12))
            refine gv_run 5 true hD (pcₚ := 101) (lvₚ := [(4, .inl s0_12), (0, .inr (.inr (some 0))), (1, .inl v1_4), (2, .inl v2_9), (3, .inl (I 99 (Int.toNat v2_9)))]) (stₚ := [.inl (I7 109 (Int.toNat s0_12))]) (hₚ := gr_h I7 J8) (C := (((((True ∧ True) ∧ True) ∧ True) ∧ True) ∧ (0 ≤ s0_12 ∧ s0_12 < ((96 : Nat) : Int)))) rfl ⟨⟨⟨⟨⟨trivial, trivial⟩, trivial⟩, trivial⟩, trivial⟩, ⟨by exact gz_m 62 (by omega), by exact gz_m 63 (by omega)⟩⟩ ?_
            rw [FI7 109 (Int.toNat s0_12) rfl]
            have f43 := (gr_b_109 hI (Int.toNat s0_12))
            refine gv_if_eq (t := 107) hD rfl rfl ⟨by exact gz_m 64 (by omega), by exact gz_m 65 (by omega)⟩ (fun c44 => ?_) (fun c44 => ?_)
            · have f45 := (gr_b_97 hI7 (Int.toNat ((I 99 (Int.toNat v2_9)))))
              refine gv_run 4 true hD (pcₚ := 113) (lvₚ := [(4, .inl s0_12), (0, .inr (.inr (some 0))), (1, .inl v1_4), (2, .inl v2_9), (3, .inl (I 99 (Int.toNat v2_9)))]) (stₚ := [.inl (I7 97 (Int.toNat ((I 99 (Int.toNat v2_9)))))]) (hₚ := gr_h I7 J8) (C := ((((True ∧ True) ∧ True) ∧ True) ∧ (0 ≤ ((I 99 (Int.toNat v2_9))) ∧ ((I 99 (Int.toNat v2_9))) < ((9000 : Nat) : Int)))) rfl ⟨⟨⟨⟨trivial, trivial⟩, trivial⟩, trivial⟩, ⟨by exact gz_m 66 (by omega), by exact gz_m 67 (by omega)⟩⟩ ?_
              rw [FI7 97 (Int.toNat ((I 99 (Int.toNat v2_9)))) rfl]
              have f46 := (gr_b_97 hI (Int.toNat ((I 99 (Int.toNat v2_9)))))
              refine gv_if_ge (t := 169) hD rfl rfl ⟨by exact gz_m 68 (by omega), by exact gz_m 69 (by omega)⟩ (fun c47 => ?_) (fun c47 => ?_)
              · have f48 := (gr_b_6 hI7 (Int.toNat s0_12))
                refine gv_run 6 true hD (pcₚ := 179) (lvₚ := [(5, .inr (.inl (Int64.ofNat 1))), (4, .inl s0_12), (0, .inr (.inr (some 0))), (1, .inl v1_4), (2, .inl v2_9), (3, .inl (I 99 (Int.toNat v2_9)))]) (stₚ := [.inl (I7 6 (Int.toNat s0_12))]) (hₚ := gr_h I7 J8) (C := ((((((True ∧ True) ∧ True) ∧ True) ∧ True) ∧ True) ∧ (0 ≤ s0_12 ∧ s0_12 < ((96 : Nat) : Int)))) rfl ⟨⟨⟨⟨⟨⟨trivial, trivial⟩, trivial⟩, trivial⟩, trivial⟩, trivial⟩, ⟨by exact gz_m 70 (by omega), by exact gz_m 71 (by omega)⟩⟩ ?_
                rw [FI7 6 (Int.toNat s0_12) rfl]
                have f49 := (gr_b_6 hI (Int.toNat s0_12))
                have t50 := (show (I 6 (Int.toNat s0_12)) = I 6 (Int.toNat (I 95 (Int.toNat (I 99 (Int.toNat v2_9))))) from by rw [show s0_12 = I 95 (Int.toNat (I 99 (Int.toNat v2_9))) from by exact gz_m 72 (by omega)])
                refine gv_run 3 true hD (pcₚ := 184) (lvₚ := [(8, .inl 0), (7, .inl (I 6 (Int.toNat s0_12))), (5, .inr (.inl (Int64.ofNat 1))), (4, .inl s0_12), (0, .inr (.inr (some 0))), (1, .inl v1_4), (2, .inl v2_9), (3, .inl (I 99 (Int.toNat v2_9)))]) (stₚ := []) (hₚ := gr_h I7 J8) (C := (((True ∧ True) ∧ True) ∧ True)) rfl ⟨⟨⟨trivial, trivial⟩, trivial⟩, trivial⟩ ?_
                refine gv_pick [4, 5, 6, 7, 3, 2, 1, 0] rfl ?_
                exact L184 _ s0_12 (Int64.ofNat 1) ((I 6 (Int.toNat s0_12))) 0 (Nat.lt_succ_self _) (by exact gz_m 73 (by omega))
              · refine gv_run 7 true hD (pcₚ := 127) (lvₚ := [(4, .inl s0_12), (0, .inr (.inr (some 0))), (1, .inl v1_4), (2, .inl v2_9), (3, .inl (I 99 (Int.toNat v2_9)))]) (stₚ := [.inr (.inl (J8 104 (Int.toNat v1_4))), .inl v1_4, .inr (.inr (some 104))]) (hₚ := gr_h I7 J8) (C := (((((((True ∧ True) ∧ True) ∧ True) ∧ True) ∧ True) ∧ True) ∧ (0 ≤ v1_4 ∧ v1_4 < ((3000 : Nat) : Int)))) rfl ⟨⟨⟨⟨⟨⟨⟨trivial, trivial⟩, trivial⟩, trivial⟩, trivial⟩, trivial⟩, trivial⟩, ⟨by exact gz_m 74 (by omega), by exact gz_m 75 (by omega)⟩⟩ ?_
                refine gv_run 1 true hD (pcₚ := 128) (lvₚ := [(4, .inl s0_12), (0, .inr (.inr (some 0))), (1, .inl v1_4), (2, .inl v2_9), (3, .inl (I 99 (Int.toNat v2_9)))]) (stₚ := [.inr (.inl (Int64.ofNat 1)), .inr (.inl (J8 104 (Int.toNat v1_4))), .inl v1_4, .inr (.inr (some 104))]) (hₚ := gr_h I7 J8) (C := (True ∧ True)) rfl ⟨trivial, trivial⟩ ?_
                obtain ⟨r51, h51, E51, P51⟩ := r_plus (ws0 := ws0) (tb := tb) hws htb ext I7 J8 hI7 ((J8 104 (Int.toNat v1_4))) (Int64.ofNat 1)  
                obtain ⟨rfl, ⟨z51, rfl⟩⟩ := P51
                refine gv_callS hD rfl (As := [.inr (.inl (J8 104 (Int.toNat v1_4))), .inr (.inl (Int64.ofNat 1))]) (st := [.inl v1_4, .inr (.inr (some 104))]) rfl (gr_lS hws rfl) (Nat.le_of_ble_eq_true rfl) (gz_Ev_mono (d := 2) (by decide) E51) ?_
                show gv_X _ _ (131, [(4, .inl s0_12), (0, .inr (.inr (some 0))), (1, .inl v1_4), (2, .inl v2_9), (3, .inl (I 99 (Int.toNat v2_9)))], [.inr (.inl z51), .inl v1_4, .inr (.inr (some 104))], gr_sh ++ ext, gr_h I7 J8)
                refine gv_run 1 true hD (pcₚ := 132) (lvₚ := [(4, .inl s0_12), (0, .inr (.inr (some 0))), (1, .inl v1_4), (2, .inl v2_9), (3, .inl (I 99 (Int.toNat v2_9)))]) (stₚ := []) (hₚ := gz_up (gr_h I7 J8) 104 (Int.toNat v1_4) (.inr (.inl z51))) (C := (True ∧ (0 ≤ v1_4 ∧ v1_4 < ((3000 : Nat) : Int)))) rfl ⟨trivial, ⟨by exact gz_m 76 (by omega), by exact gz_m 77 (by omega)⟩⟩ ?_
                refine gr_stJ FJ8 rfl rfl (fun J52 FJ52 => ?_)
                have f53 := (gr_b_9 hI7 (Int.toNat s0_12))
                refine gv_run 6 true hD (pcₚ := 141) (lvₚ := [(4, .inl s0_12), (0, .inr (.inr (some 0))), (1, .inl v1_4), (2, .inl v2_9), (3, .inl (I 99 (Int.toNat v2_9)))]) (stₚ := [.inl (I7 9 (Int.toNat s0_12)), .inl v1_4, .inr (.inr (some 0))]) (hₚ := gr_h I7 J52) (C := ((((((True ∧ True) ∧ True) ∧ True) ∧ True) ∧ True) ∧ (0 ≤ s0_12 ∧ s0_12 < ((96 : Nat) : Int)))) rfl ⟨⟨⟨⟨⟨⟨trivial, trivial⟩, trivial⟩, trivial⟩, trivial⟩, trivial⟩, ⟨by exact gz_m 78 (by omega), by exact gz_m 79 (by omega)⟩⟩ ?_
                rw [FI7 9 (Int.toNat s0_12) rfl]
                have f54 := (gr_b_9 hI (Int.toNat s0_12))
                have f55 := (gr_b_0_159 hI7)
                refine gv_run 5 true hD (pcₚ := 151) (lvₚ := [(4, .inl s0_12), (0, .inr (.inr (some 0))), (1, .inl v1_4), (2, .inl v2_9), (3, .inl (I 99 (Int.toNat v2_9)))]) (stₚ := [.inl (I7 0 159), .inl 64, .inr (.inr (some 40)), .inl (I 9 (Int.toNat s0_12)), .inl v1_4, .inr (.inr (some 0))]) (hₚ := gr_h I7 J52) (C := (((((True ∧ True) ∧ True) ∧ True) ∧ True) ∧ True)) rfl ⟨⟨⟨⟨⟨trivial, trivial⟩, trivial⟩, trivial⟩, trivial⟩, trivial⟩ ?_
                rw [FI7 0 159 rfl]
                have f56 := (gr_b_0_159 hI)
                have f57 := (gr_b_95 hI7 (Int.toNat ((I 99 (Int.toNat v2_9)))))
                refine gv_run 5 true hD (pcₚ := 158) (lvₚ := [(4, .inl s0_12), (0, .inr (.inr (some 0))), (1, .inl v1_4), (2, .inl v2_9), (3, .inl (I 99 (Int.toNat v2_9)))]) (stₚ := [.inl (I7 95 (Int.toNat ((I 99 (Int.toNat v2_9))))), .inl (64 * (I 0 159)), .inr (.inr (some 40)), .inl (I 9 (Int.toNat s0_12)), .inl v1_4, .inr (.inr (some 0))]) (hₚ := gr_h I7 J52) (C := (((((True ∧ True) ∧ True) ∧ True) ∧ True) ∧ (0 ≤ ((I 99 (Int.toNat v2_9))) ∧ ((I 99 (Int.toNat v2_9))) < ((9000 : Nat) : Int)))) rfl ⟨⟨⟨⟨⟨trivial, trivial⟩, trivial⟩, trivial⟩, trivial⟩, ⟨by exact gz_m 80 (by omega), by exact gz_m 81 (by omega)⟩⟩ ?_
                rw [FI7 95 (Int.toNat ((I 99 (Int.toNat v2_9)))) rfl]
                have f58 := (gr_b_95 hI (Int.toNat ((I 99 (Int.toNat v2_9)))))
                have f59 := (gr_b_40 hI7 (Int.toNat (((64 * (I 0 159)) + (I 95 (Int.toNat ((I 99 (Int.toNat v2_9)))))))))
                refine gv_run 2 true hD (pcₚ := 160) (lvₚ := [(4, .inl s0_12), (0, .inr (.inr (some 0))), (1, .inl v1_4), (2, .inl v2_9), (3, .inl (I 99 (Int.toNat v2_9)))]) (stₚ := [.inl (I7 40 (Int.toNat (((64 * (I 0 159)) + (I 95 (Int.toNat ((I 99 (Int.toNat v2_9))))))))), .inl (I 9 (Int.toNat s0_12)), .inl v1_4, .inr (.inr (some 0))]) (hₚ := gr_h I7 J52) (C := ((True ∧ True) ∧ (0 ≤ (((64 * (I 0 159)) + (I 95 (Int.toNat ((I 99 (Int.toNat v2_9))))))) ∧ (((64 * (I 0 159)) + (I 95 (Int.toNat ((I 99 (Int.toNat v2_9))))))) < ((512 : Nat) : Int)))) rfl ⟨⟨trivial, trivial⟩, ⟨by exact gz_m 82 (by omega), by exact gz_m 83 (by omega)⟩⟩ ?_
                rw [FI7 40 (Int.toNat (((64 * (I 0 159)) + (I 95 (Int.toNat ((I 99 (Int.toNat v2_9)))))))) rfl]
                have f60 := (gr_b_40 hI (Int.toNat (((64 * (I 0 159)) + (I 95 (Int.toNat ((I 99 (Int.toNat v2_9)))))))))
                refine gv_run 3 true hD (pcₚ := 163) (lvₚ := [(4, .inl s0_12), (0, .inr (.inr (some 0))), (1, .inl v1_4), (2, .inl v2_9), (3, .inl (I 99 (Int.toNat v2_9)))]) (stₚ := [.inl 0, .inl v2_9, .inl ((I 9 (Int.toNat s0_12)) + (I 40 (Int.toNat (((64 * (I 0 159)) + (I 95 (Int.toNat ((I 99 (Int.toNat v2_9)))))))))), .inl v1_4, .inr (.inr (some 0))]) (hₚ := gr_h I7 J52) (C := (((True ∧ True) ∧ True) ∧ True)) rfl ⟨⟨⟨trivial, trivial⟩, trivial⟩, trivial⟩ ?_
                obtain ⟨r61, h61, E61, P61⟩ := r_tops_f (ws0 := ws0) (tb := tb) hws htb ext I7 J52 hI7 v1_4 (((I 9 (Int.toNat s0_12)) + (I 40 (Int.toNat (((64 * (I 0 159)) + (I 95 (Int.toNat ((I 99 (Int.toNat v2_9))))))))))) v2_9 0 ⟨by exact gz_m 84 (by omega), by exact gz_m 85 (by omega)⟩ ⟨by exact gz_m 86 (by omega), by exact gz_m 87 (by omega)⟩ ⟨by exact gz_m 88 (by omega), by exact gz_m 89 (by omega)⟩ ⟨by exact gz_m 90 (by omega), by exact gz_m 91 (by omega)⟩ e0_9 (fun h0 => by rw [FI7 99 _ rfl, FI7 97 _ rfl] at h0; exact absurd h0 (by exact gz_m 92 (by omega))) (by rw [FI7 91 _ rfl]; exact gz_m 93 (by omega)) (by rw [FI7 91 _ rfl, FI7 92 _ rfl]; exact gz_m 94 (by omega))
                obtain ⟨I62, J63, rfl, hI62, g61, k61, ⟨rfl, q61⟩⟩ := P61
                have FI62 := gr_frt FI7 g61 rfl rfl
                have FJ63 := gr_fjt FJ52 k61 rfl rfl
                have t64 := g61 0 186 rfl
                have f65 := (gr_b_0_186 hI62)
                refine gv_callV hD rfl (As := [.inl v1_4, .inl ((I 9 (Int.toNat s0_12)) + (I 40 (Int.toNat (((64 * (I 0 159)) + (I 95 (Int.toNat ((I 99 (Int.toNat v2_9)))))))))), .inl v2_9, .inl 0]) (st := []) rfl (by decide) rfl rfl (gr_lV hws rfl) (Nat.le_of_ble_eq_true rfl) (gz_Ev_mono (d := 2) (by decide) E61) ?_
                show gv_X _ _ (166, [(4, .inl s0_12), (0, .inr (.inr (some 0))), (1, .inl v1_4), (2, .inl v2_9), (3, .inl (I 99 (Int.toNat v2_9)))], [], gr_sh ++ ext, gr_h I62 J63)
                refine gv_run 1 true hD (pcₚ := 275) (lvₚ := [(4, .inl s0_12), (0, .inr (.inr (some 0))), (1, .inl v1_4), (2, .inl v2_9), (3, .inl (I 99 (Int.toNat v2_9)))]) (stₚ := []) (hₚ := gr_h I62 J63) (C := (True ∧ True)) rfl ⟨trivial, trivial⟩ ?_
                refine gv_pick [1, 2, 3] rfl ?_
                exact L275 I62 J63 hI62 FI62 FJ63 (by exact gz_m 95 (by omega)) q61.1
            · refine gv_run 1 true hD (pcₚ := 275) (lvₚ := [(4, .inl s0_12), (0, .inr (.inr (some 0))), (1, .inl v1_4), (2, .inl v2_9), (3, .inl (I 99 (Int.toNat v2_9)))]) (stₚ := []) (hₚ := gr_h I7 J8) (C := (True ∧ True)) rfl ⟨trivial, trivial⟩ ?_
              refine gv_pick [1, 2, 3] rfl ?_
              exact L275 I7 J8 hI7 FI7 FJ8 (by exact gz_m 96 (by omega)) e0_9
          have f66 := (gr_b_91 hI7 (Int.toNat v1_4))
          refine gv_run 5 true hD (pcₚ := 38) (lvₚ := [(0, .inr (.inr (some 0))), (1, .inl v1_4), (2, .inl v2_9)]) (stₚ := [.inl (I7 91 (Int.toNat v1_4)), .inl v2_9]) (hₚ := gr_h I7 J8) (C := (((((True ∧ True) ∧ True) ∧ True) ∧ True) ∧ (0 ≤ v1_4 ∧ v1_4 < ((3001 : Nat) : Int)))) rfl ⟨⟨⟨⟨⟨trivial, trivial⟩, trivial⟩, trivial⟩, trivial⟩, ⟨by exact gz_m 97 (by omega), by exact gz_m 98 (by omega)⟩⟩ ?_
          rw [FI7 91 (Int.toNat v1_4) rfl]
          have f67 := (gr_b_91 hI (Int.toNat v1_4))
          have f68 := (gr_b_92 hI7 (Int.toNat v1_4))
          refine gv_run 4 true hD (pcₚ := 44) (lvₚ := [(0, .inr (.inr (some 0))), (1, .inl v1_4), (2, .inl v2_9)]) (stₚ := [.inl (I7 92 (Int.toNat v1_4)), .inl (I 91 (Int.toNat v1_4)), .inl v2_9]) (hₚ := gr_h I7 J8) (C := ((((True ∧ True) ∧ True) ∧ True) ∧ (0 ≤ v1_4 ∧ v1_4 < ((3000 : Nat) : Int)))) rfl ⟨⟨⟨⟨trivial, trivial⟩, trivial⟩, trivial⟩, ⟨by exact gz_m 99 (by omega), by exact gz_m 100 (by omega)⟩⟩ ?_
          rw [FI7 92 (Int.toNat v1_4) rfl]
          have f69 := (gr_b_92 hI (Int.toNat v1_4))
          refine gv_run 1 true hD (pcₚ := 45) (lvₚ := [(0, .inr (.inr (some 0))), (1, .inl v1_4), (2, .inl v2_9)]) (stₚ := [.inl ((I 91 (Int.toNat v1_4)) + (I 92 (Int.toNat v1_4))), .inl v2_9]) (hₚ := gr_h I7 J8) (C := (True ∧ True)) rfl ⟨trivial, trivial⟩ ?_
          refine gv_icmp_ge (t := 281) hD rfl rfl ⟨⟨by exact gz_m 101 (by omega), by exact gz_m 102 (by omega)⟩, ⟨by exact gz_m 103 (by omega), by exact gz_m 104 (by omega)⟩⟩ (fun c70 => ?_) (fun c70 => ?_)
          · refine gv_run 2 true hD (pcₚ := 2) (lvₚ := [(1, .inl (v1_4 + 1)), (0, .inr (.inr (some 0))), (2, .inl v2_9)]) (stₚ := []) (hₚ := gr_h I7 J8) (C := ((True ∧ True) ∧ True)) rfl ⟨⟨trivial, trivial⟩, trivial⟩ ?_
            refine gv_pick [1, 0] rfl ?_
            exact ih2 I7 J8 (v1_4 + 1) (by exact gz_m 105 (by omega)) hI7 FI7 FJ8 (by exact gz_m 106 (by omega)) e0_9
          · have t71 := gr_OR_b x1.2.2.2.1 (x := v1_4) (by exact gz_m 107 (by omega)) (by exact gz_m 108 (by omega))
            have t72 := (gr_b_0_158 hI)
            have f73 := (gr_b_99 hI7 (Int.toNat v2_9))
            refine gv_run 4 true hD (pcₚ := 54) (lvₚ := [(0, .inr (.inr (some 0))), (1, .inl v1_4), (2, .inl v2_9)]) (stₚ := [.inl (I7 99 (Int.toNat v2_9))]) (hₚ := gr_h I7 J8) (C := ((((True ∧ True) ∧ True) ∧ True) ∧ (0 ≤ v2_9 ∧ v2_9 < ((9000 : Nat) : Int)))) rfl ⟨⟨⟨⟨trivial, trivial⟩, trivial⟩, trivial⟩, ⟨by exact gz_m 109 (by omega), by exact gz_m 110 (by omega)⟩⟩ ?_
            rw [FI7 99 (Int.toNat v2_9) rfl]
            have f74 := (gr_b_99 hI (Int.toNat v2_9))
            refine gv_run 1 true hD (pcₚ := 55) (lvₚ := [(3, .inl (I 99 (Int.toNat v2_9))), (0, .inr (.inr (some 0))), (1, .inl v1_4), (2, .inl v2_9)]) (stₚ := []) (hₚ := gr_h I7 J8) (C := (True ∧ True)) rfl ⟨trivial, trivial⟩ ?_
            have t75 := gr_OR_at x1.2.2.2.1 (x := v1_4) (i := v2_9) (by exact gz_m 111 (by omega)) (by exact gz_m 112 (by omega)) (by exact gz_m 113 (by omega)) (by exact gz_m 114 (by omega))
            have t76 := (x1.2.2.2.2.1 (Int.toNat (I 99 (Int.toNat v2_9))) (by exact gz_m 115 (by omega))).2
            have t77 := (gr_b_18 hI (Int.toNat (I 0 159)))
            have f78 := (gr_b_97 hI7 (Int.toNat ((I 99 (Int.toNat v2_9)))))
            refine gv_run 4 true hD (pcₚ := 61) (lvₚ := [(3, .inl (I 99 (Int.toNat v2_9))), (0, .inr (.inr (some 0))), (1, .inl v1_4), (2, .inl v2_9)]) (stₚ := [.inl (I7 97 (Int.toNat ((I 99 (Int.toNat v2_9)))))]) (hₚ := gr_h I7 J8) (C := ((((True ∧ True) ∧ True) ∧ True) ∧ (0 ≤ ((I 99 (Int.toNat v2_9))) ∧ ((I 99 (Int.toNat v2_9))) < ((9000 : Nat) : Int)))) rfl ⟨⟨⟨⟨trivial, trivial⟩, trivial⟩, trivial⟩, ⟨by exact gz_m 116 (by omega), by exact gz_m 117 (by omega)⟩⟩ ?_
            rw [FI7 97 (Int.toNat ((I 99 (Int.toNat v2_9)))) rfl]
            have f79 := (gr_b_97 hI (Int.toNat ((I 99 (Int.toNat v2_9)))))
            refine gv_if_ge (t := 86) hD rfl rfl ⟨by exact gz_m 118 (by omega), by exact gz_m 119 (by omega)⟩ (fun c80 => ?_) (fun c80 => ?_)
            · have f81 := (gr_b_95 hI7 (Int.toNat ((I 99 (Int.toNat v2_9)))))
              refine gv_run 4 true hD (pcₚ := 92) (lvₚ := [(3, .inl (I 99 (Int.toNat v2_9))), (0, .inr (.inr (some 0))), (1, .inl v1_4), (2, .inl v2_9)]) (stₚ := [.inl (I7 95 (Int.toNat ((I 99 (Int.toNat v2_9)))))]) (hₚ := gr_h I7 J8) (C := ((((True ∧ True) ∧ True) ∧ True) ∧ (0 ≤ ((I 99 (Int.toNat v2_9))) ∧ ((I 99 (Int.toNat v2_9))) < ((9000 : Nat) : Int)))) rfl ⟨⟨⟨⟨trivial, trivial⟩, trivial⟩, trivial⟩, ⟨by exact gz_m 120 (by omega), by exact gz_m 121 (by omega)⟩⟩ ?_
              rw [FI7 95 (Int.toNat ((I 99 (Int.toNat v2_9)))) rfl]
              have f82 := (gr_b_95 hI (Int.toNat ((I 99 (Int.toNat v2_9)))))
              refine gv_pick [1, 2, 3, 0] rfl ?_
              exact L92 ((I 99 (Int.toNat v2_9))) ((I 95 (Int.toNat ((I 99 (Int.toNat v2_9)))))) (by exact gz_m 122 (by omega))
            · have f83 := (gr_b_0_159 hI7)
              refine gv_run 5 true hD (pcₚ := 74) (lvₚ := [(3, .inl (I 99 (Int.toNat v2_9))), (0, .inr (.inr (some 0))), (1, .inl v1_4), (2, .inl v2_9)]) (stₚ := [.inl (I7 0 159), .inl 64, .inr (.inr (some 36))]) (hₚ := gr_h I7 J8) (C := (((((True ∧ True) ∧ True) ∧ True) ∧ True) ∧ True)) rfl ⟨⟨⟨⟨⟨trivial, trivial⟩, trivial⟩, trivial⟩, trivial⟩, trivial⟩ ?_
              rw [FI7 0 159 rfl]
              have f84 := (gr_b_0_159 hI)
              have f85 := (gr_b_95 hI7 (Int.toNat ((I 99 (Int.toNat v2_9)))))
              refine gv_run 5 true hD (pcₚ := 81) (lvₚ := [(3, .inl (I 99 (Int.toNat v2_9))), (0, .inr (.inr (some 0))), (1, .inl v1_4), (2, .inl v2_9)]) (stₚ := [.inl (I7 95 (Int.toNat ((I 99 (Int.toNat v2_9))))), .inl (64 * (I 0 159)), .inr (.inr (some 36))]) (hₚ := gr_h I7 J8) (C := (((((True ∧ True) ∧ True) ∧ True) ∧ True) ∧ (0 ≤ ((I 99 (Int.toNat v2_9))) ∧ ((I 99 (Int.toNat v2_9))) < ((9000 : Nat) : Int)))) rfl ⟨⟨⟨⟨⟨trivial, trivial⟩, trivial⟩, trivial⟩, trivial⟩, ⟨by exact gz_m 123 (by omega), by exact gz_m 124 (by omega)⟩⟩ ?_
              rw [FI7 95 (Int.toNat ((I 99 (Int.toNat v2_9)))) rfl]
              have f86 := (gr_b_95 hI (Int.toNat ((I 99 (Int.toNat v2_9)))))
              have f87 := (gr_b_36 hI7 (Int.toNat (((64 * (I 0 159)) + (I 95 (Int.toNat ((I 99 (Int.toNat v2_9)))))))))
              refine gv_run 2 true hD (pcₚ := 83) (lvₚ := [(3, .inl (I 99 (Int.toNat v2_9))), (0, .inr (.inr (some 0))), (1, .inl v1_4), (2, .inl v2_9)]) (stₚ := [.inl (I7 36 (Int.toNat (((64 * (I 0 159)) + (I 95 (Int.toNat ((I 99 (Int.toNat v2_9)))))))))]) (hₚ := gr_h I7 J8) (C := ((True ∧ True) ∧ (0 ≤ (((64 * (I 0 159)) + (I 95 (Int.toNat ((I 99 (Int.toNat v2_9))))))) ∧ (((64 * (I 0 159)) + (I 95 (Int.toNat ((I 99 (Int.toNat v2_9))))))) < ((512 : Nat) : Int)))) rfl ⟨⟨trivial, trivial⟩, ⟨by exact gz_m 125 (by omega), by exact gz_m 126 (by omega)⟩⟩ ?_
              rw [FI7 36 (Int.toNat (((64 * (I 0 159)) + (I 95 (Int.toNat ((I 99 (Int.toNat v2_9)))))))) rfl]
              have f88 := (gr_b_36 hI (Int.toNat (((64 * (I 0 159)) + (I 95 (Int.toNat ((I 99 (Int.toNat v2_9)))))))))
              refine gv_run 1 true hD (pcₚ := 92) (lvₚ := [(3, .inl (I 99 (Int.toNat v2_9))), (0, .inr (.inr (some 0))), (1, .inl v1_4), (2, .inl v2_9)]) (stₚ := [.inl (I 36 (Int.toNat (((64 * (I 0 159)) + (I 95 (Int.toNat ((I 99 (Int.toNat v2_9)))))))))]) (hₚ := gr_h I7 J8) (C := (True ∧ True)) rfl ⟨trivial, trivial⟩ ?_
              refine gv_pick [1, 2, 3, 0] rfl ?_
              exact L92 ((I 99 (Int.toNat v2_9))) ((I 36 (Int.toNat (((64 * (I 0 159)) + (I 95 (Int.toNat ((I 99 (Int.toNat v2_9)))))))))) (by exact gz_m 127 (by omega))
      have L299 : ∀ (n : Nat) (I89 : gr_I) (J90 : gr_J) (v1_91 : Int64) (v3_91 : Int), (if v3_91 < 0 then (0 : Int) else ((p (Int.toNat v3_91) : Nat) : Int) + 1).toNat < n → gr_Inv I89 → gr_fr [186] [105, 106, 107, 108, 110, 111, 112] I I89 → gr_fj [186] [104, 105, 106, 107, 108, 110, 111, 112] J J90 → (((-1) ≤ v3_91 ∧ v3_91 ≤ 2999) ∧ (v3_91 < I 0 157)) → (gr_TP (I 0 157) I89) → (gr_RD I89) → gv_X (gr_E ws0 tb 7 (yX13_counted, cX13_counted, 9, (some .long)) kX13_counted) (gv_Q cX13_counted (some .long) (gr_sh ++ ext) (fun r hₚ => (∃ (Iₚ : gr_I) (Jₚ : gr_J), hₚ = gr_h Iₚ Jₚ ∧ gr_Inv Iₚ ∧ gr_fr [186] [105, 106, 107, 108, 110, 111, 112] I Iₚ ∧ gr_fj [186] [104, 105, 106, 107, 108, 110, 111, 112] J Jₚ ∧ (∃ z : Int64, r = some (.inr (.inl z)) ∧ (gr_TP (I 0 157) Iₚ) ∧ (gr_RD Iₚ))))) (299, [(0, .inr (.inr (some 0))), (1, .inr (.inl v1_91)), (3, .inl v3_91)], [], gr_sh ++ ext, gr_h I89 J90) := r_counted_L299 (ws0 := ws0) (tb := tb) hws htb ext p I J hI x0 x1 x2
      have f179 := (gr_b_0_157 hI2)
      refine gv_run 3 true hD (pcₚ := 7) (lvₚ := [(0, .inr (.inr (some 0))), (1, .inl v1_4)]) (stₚ := [.inl (I2 0 157), .inl v1_4]) (hₚ := gr_h I2 J3) (C := (((True ∧ True) ∧ True) ∧ True)) rfl ⟨⟨⟨trivial, trivial⟩, trivial⟩, trivial⟩ ?_
      rw [FI2 0 157 rfl]
      have f180 := (gr_b_0_157 hI)
      refine gv_icmp_ge (t := 287) hD rfl rfl ⟨⟨by exact gz_m 240 (by omega), by exact gz_m 241 (by omega)⟩, ⟨by exact gz_m 242 (by omega), by exact gz_m 243 (by omega)⟩⟩ (fun c181 => ?_) (fun c181 => ?_)
      · refine gv_run 4 true hD (pcₚ := 291) (lvₚ := [(1, .inr (.inl (Int64.ofNat 0))), (0, .inr (.inr (some 0)))]) (stₚ := [.inl 0, .inr (.inr (some 0))]) (hₚ := gr_h I2 J3) (C := ((((True ∧ True) ∧ True) ∧ True) ∧ True)) rfl ⟨⟨⟨⟨trivial, trivial⟩, trivial⟩, trivial⟩, trivial⟩ ?_
        refine gv_run 1 true hD (pcₚ := 294) (lvₚ := [(1, .inr (.inl (Int64.ofNat 0))), (0, .inr (.inr (some 0)))]) (stₚ := []) (hₚ := gz_up (gr_h I2 J3) 0 186 (.inl 0)) (C := (True ∧ True)) rfl ⟨trivial, trivial⟩ ?_
        refine gr_st hI2 FI2 rfl rfl ⟨⟨by show 0 ≤ _; exact gz_m 244 (by omega), by show _ ≤ 16; exact gz_m 245 (by omega)⟩, trivial⟩ (fun I182 hI182 FI182 q183 p183 => ?_)
        have f184 := (gr_b_0_186 hI182)
        have t185 := FI182 0 157 rfl
        have f186 := (gr_b_0_177 hI182)
        refine gv_run 2 true hD (pcₚ := 298) (lvₚ := [(1, .inr (.inl (Int64.ofNat 0))), (0, .inr (.inr (some 0)))]) (stₚ := [.inl (I182 0 177)]) (hₚ := gr_h I182 J3) (C := ((True ∧ True) ∧ True)) rfl ⟨⟨trivial, trivial⟩, trivial⟩ ?_
        rw [FI182 0 177 rfl]
        have f187 := (gr_b_0_177 hI)
        refine gv_run 1 true hD (pcₚ := 299) (lvₚ := [(3, .inl (I 0 177)), (1, .inr (.inl (Int64.ofNat 0))), (0, .inr (.inr (some 0)))]) (stₚ := []) (hₚ := gr_h I182 J3) (C := (True ∧ True)) rfl ⟨trivial, trivial⟩ ?_
        refine gv_pick [2, 1, 0] rfl ?_
        exact L299 _ I182 J3 (Int64.ofNat 0) (I 0 177) (Nat.lt_succ_self _) hI182 FI182 FJ3 (by exact gz_m 246 (by omega)) (by have e9 : v1_4 = I 0 157 := (by exact gz_m 247 (by omega)); rw [← e9]; exact (gr_TP_r hI2 e0_4 (by decide) p183)) (fun q h1 => absurd h1 (by exact gz_m 248 (by omega)))
      · refine gv_run 4 true hD (pcₚ := 16) (lvₚ := [(0, .inr (.inr (some 0))), (1, .inl v1_4)]) (stₚ := [.inr (.inl (Int64.ofNat 0)), .inl v1_4, .inr (.inr (some 104))]) (hₚ := gr_h I2 J3) (C := ((((True ∧ True) ∧ True) ∧ True) ∧ True)) rfl ⟨⟨⟨⟨trivial, trivial⟩, trivial⟩, trivial⟩, trivial⟩ ?_
        refine gv_run 1 true hD (pcₚ := 17) (lvₚ := [(0, .inr (.inr (some 0))), (1, .inl v1_4)]) (stₚ := []) (hₚ := gz_up (gr_h I2 J3) 104 (Int.toNat v1_4) (.inr (.inl (Int64.ofNat 0)))) (C := (True ∧ (0 ≤ v1_4 ∧ v1_4 < ((3000 : Nat) : Int)))) rfl ⟨trivial, ⟨by exact gz_m 249 (by omega), by exact gz_m 250 (by omega)⟩⟩ ?_
        refine gr_stJ FJ3 rfl rfl (fun J188 FJ188 => ?_)
        refine gv_run 4 true hD (pcₚ := 23) (lvₚ := [(0, .inr (.inr (some 0))), (1, .inl v1_4)]) (stₚ := [.inl 0, .inl v1_4, .inr (.inr (some 105))]) (hₚ := gr_h I2 J188) (C := ((((True ∧ True) ∧ True) ∧ True) ∧ True)) rfl ⟨⟨⟨⟨trivial, trivial⟩, trivial⟩, trivial⟩, trivial⟩ ?_
        refine gv_run 1 true hD (pcₚ := 24) (lvₚ := [(0, .inr (.inr (some 0))), (1, .inl v1_4)]) (stₚ := []) (hₚ := gz_up (gr_h I2 J188) 105 (Int.toNat v1_4) (.inl 0)) (C := (True ∧ (0 ≤ v1_4 ∧ v1_4 < ((3000 : Nat) : Int)))) rfl ⟨trivial, ⟨by exact gz_m 251 (by omega), by exact gz_m 252 (by omega)⟩⟩ ?_
        refine gr_st hI2 FI2 rfl rfl ⟨⟨by show 0 ≤ _; exact gz_m 253 (by omega), by show _ ≤ 16; exact gz_m 254 (by omega)⟩, trivial⟩ (fun I189 hI189 FI189 q190 p190 => ?_)
        have t191 := p190 0 186 (fun q => absurd q.1 (by first | exact gz_ne rfl | decide))
        have f192 := (gr_b_0_186 hI189)
        have t193 := FI189 0 157 rfl
        have t194 := gr_OR_b x1.2.2.2.1 (x := v1_4) (by exact gz_m 255 (by omega)) (by exact gz_m 256 (by omega))
        have f195 := (gr_b_91 hI189 (Int.toNat v1_4))
        refine gv_run 4 true hD (pcₚ := 30) (lvₚ := [(0, .inr (.inr (some 0))), (1, .inl v1_4)]) (stₚ := [.inl (I189 91 (Int.toNat v1_4))]) (hₚ := gr_h I189 J188) (C := ((((True ∧ True) ∧ True) ∧ True) ∧ (0 ≤ v1_4 ∧ v1_4 < ((3001 : Nat) : Int)))) rfl ⟨⟨⟨⟨trivial, trivial⟩, trivial⟩, trivial⟩, ⟨by exact gz_m 257 (by omega), by exact gz_m 258 (by omega)⟩⟩ ?_
        rw [FI189 91 (Int.toNat v1_4) rfl]
        have f196 := (gr_b_91 hI (Int.toNat v1_4))
        refine gv_run 1 true hD (pcₚ := 31) (lvₚ := [(2, .inl (I 91 (Int.toNat v1_4))), (0, .inr (.inr (some 0))), (1, .inl v1_4)]) (stₚ := []) (hₚ := gr_h I189 J188) (C := (True ∧ True)) rfl ⟨trivial, trivial⟩ ?_
        refine gv_pick [1, 2, 0] rfl ?_
        exact L31 _ I189 J188 ((I 91 (Int.toNat v1_4))) (Nat.lt_succ_self _) hI189 FI189 FJ188 (by exact gz_m 259 (by omega)) (gr_TP_0 hI2 (by exact gz_m 260 (by omega)) e0_4 p190 q190)
  have t197 := (gr_b_0_157 hI)
  refine gv_run 2 true hD (pcₚ := 2) (lvₚ := [(1, .inl 0), (0, .inr (.inr (some 0)))]) (stₚ := []) (hₚ := gr_h I J) (C := ((True ∧ True) ∧ True)) rfl ⟨⟨trivial, trivial⟩, trivial⟩ ?_
  refine gv_pick [1, 0] rfl ?_
  exact L2 _ I J 0 (Nat.lt_succ_self _) hI FI FJ (by exact gz_m 261 (by omega)) (fun x r hx => absurd hx (by exact gz_m 262 (by omega)))
theorem r_counted_x {ws0 : List Cond} {tb : String → gz_T} (hws : ∀ w ∈ gr_ws, w ∈ ws0) (htb : tb RX13 = gr_T) (ext : gz_Sh) (I : gr_I) (J : gr_J) (hI : gr_Inv I)   (x1 : gr_CR (I 0 159) I) (x2 : I 0 177 < I 0 157) : ∃ r hₚ, gz_Ev ws0 tb 8 (yX13_counted, cX13_counted, 9, (some .long)) [.inr (.inr (some 0))] (gr_sh ++ ext) (gr_h I J) r (gr_sh ++ ext) hₚ 0 0 ∧ (∃ (Iₚ : gr_I) (Jₚ : gr_J), hₚ = gr_h Iₚ Jₚ ∧ gr_Inv Iₚ ∧ gr_fr [186] [105, 106, 107, 108, 110, 111, 112] I Iₚ ∧ gr_fj [186] [104, 105, 106, 107, 108, 110, 111, 112] J Jₚ ∧ (∃ z : Int64, r = some (.inr (.inl z)) ∧ (gr_TP (I 0 157) Iₚ) ∧ (gr_RD Iₚ))) := by
  obtain ⟨p, hp⟩ := x1.1
  exact r_counted hws htb ext p I J hI hp x1 x2
