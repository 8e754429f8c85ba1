/-! A LINEARIZATION IS KEPT. -/
theorem gr_A1_nx {k : Int} {I Iₚ : gr_I} (h : gr_A1 k I) (h0 : 0 ≤ k) (p : ∀ b j, ¬ (b = 74 ∧ j = Int.toNat k) → Iₚ b j = I b j) (q : Iₚ 74 (Int.toNat k) = -1) : gr_A1 (k + 1) Iₚ := fun j hj => by
  by_cases e : j = Int.toNat k
  · subst e
    omega
  · rw [p 74 j (fun q => e q.2)]
    exact h j (by omega)
theorem gr_R1_00 {f k : Int} {I : gr_I} (h : gr_A1 k I) (hk : 4 ≤ k) (h1 : I 0 118 = 0) (h2 : I 0 119 = 0) : gr_R1 f I := gr_R1_0 (fun j hj => h j (by omega)) h1 h2
theorem gr_GRx_o {x : Int} {I Iₚ : gr_I} (h : gr_GRx x (-1) I) (h0 : 0 ≤ x) (h1 : ∀ k, Iₚ 19 k = I 19 k) (h2 : ∀ k, Iₚ 18 k = I 18 k) (h3 : ∀ k, Iₚ 36 k = I 36 k) (h4 : ∀ k, Iₚ 41 k = I 41 k) (h5 : ∀ k, Iₚ 42 k = I 42 k) (h7 : ∀ k, Iₚ 45 k = I 45 k) (h10 : ∀ k, Iₚ 6 k = I 6 k) (h11 : ∀ k, Iₚ 7 k = I 7 k) (h12 : ∀ k, Iₚ 8 k = I 8 k) (hf : Iₚ 0 3 = I 0 3) (h6 : ∀ j : Nat, ((j : Int) < 6 * x ∨ 6 * x + 6 ≤ (j : Int)) → Iₚ 43 j = I 43 j) (h8 : ∀ j : Nat, ((j : Int) < 6 * x ∨ 6 * x + 6 ≤ (j : Int)) → Iₚ 46 j = I 46 j) (h9 : ∀ j : Nat, ((j : Int) < 6 * x ∨ 6 * x + 6 ≤ (j : Int)) → Iₚ 47 j = I 47 j) : gr_GRx x (-1) Iₚ := by
  refine ⟨fun t k ht hk => ?_, fun t k ht hk => ?_⟩
  · rw [h1] at hk
    obtain ⟨a, b⟩ := h.1 t k ht hk
    exact ⟨a, fun hc => gr_LW_c (b hc) (h4 _) (h5 _) (h7 _) (fun j hj => h6 _ (by omega)) (fun j hj => h8 _ (by omega)) (fun j hj => h9 _ (by omega)) (by rw [hf]; exact (b hc).1.1) (h10 _) (fun _ _ => h11 _) (h12 _)⟩
  · rw [h2] at hk
    obtain ⟨a, b⟩ := h.2 t k ht hk
    refine ⟨a, fun hc => ?_⟩
    rw [h3, hf, h10]
    exact b hc
def gr_Q0 (I9 : gr_I) (f x : Int) (I : gr_I) : Prop := gr_GRx x (-1) I ∧ gr_ST I9 I ∧ (0 ≤ x ∧ I 41 (Int.toNat x) = f ∧ I 42 (Int.toNat x) = I 0 118 ∧ I 45 (Int.toNat x) = I 0 119) ∧ gr_LI f I ∧ (0 ≤ f ∧ f < I 0 3)
def gr_Q1 (I9 : gr_I) (f x k : Int) (I : gr_I) : Prop := gr_Q0 I9 f x I ∧ ∀ j : Nat, (j : Int) < k → I 43 (6 * Int.toNat x + j) = I 68 j
def gr_Q2 (I9 : gr_I) (f x k : Int) (I : gr_I) : Prop := gr_Q0 I9 f x I ∧ (∀ j : Nat, (j : Int) < I 0 118 → I 43 (6 * Int.toNat x + j) = I 68 j) ∧ ∀ j : Nat, (j : Int) < k → I 46 (6 * Int.toNat x + j) = I 70 j ∧ I 47 (6 * Int.toNat x + j) = I 71 j
theorem gr_Q1_in {I9 Ib I1 I2 I3 I4 Iₚ : gr_I} {f x z3 z4 : Int} {t : Nat} (hG : gr_GR Ib) (hS : gr_ST I9 Ib) (hL : gr_LI f Ib) (ht : t < 8) (hx : x = 384 * (t : Int) + Ib 19 t) (hb : 0 ≤ Ib 19 t ∧ Ib 19 t ≤ 383) (hf : 0 ≤ f ∧ f < Ib 0 3) (p1 : ∀ b j, ¬ (b = 19 ∧ j = t) → I1 b j = Ib b j) (q1 : I1 19 t = Ib 19 t + 1) (p2 : ∀ b j, ¬ (b = 41 ∧ j = Int.toNat x) → I2 b j = I1 b j) (q2 : I2 41 (Int.toNat x) = f) (p3 : ∀ b j, ¬ (b = 42 ∧ j = Int.toNat x) → I3 b j = I2 b j) (q3 : I3 42 (Int.toNat x) = z3) (hz3 : z3 = Ib 0 118) (p4 : ∀ b j, ¬ (b = 45 ∧ j = Int.toNat x) → I4 b j = I3 b j) (q4 : I4 45 (Int.toNat x) = z4) (hz4 : z4 = Ib 0 119) (p5 : ∀ b j, ¬ (b = 50 ∧ j = Int.toNat x) → Iₚ b j = I4 b j) : gr_Q1 I9 f x 0 Iₚ := by
  have r : ∀ b j, ¬ b = 19 → ¬ b = 41 → ¬ b = 42 → ¬ b = 45 → ¬ b = 50 → Iₚ b j = Ib b j := fun b j a1 a2 a3 a4 a5 => (p5 b j (fun q => a5 q.1)).trans ((p4 b j (fun q => a4 q.1)).trans ((p3 b j (fun q => a3 q.1)).trans ((p2 b j (fun q => a2 q.1)).trans (p1 b j (fun q => a1 q.1)))))
  have rx : ∀ b j, ¬ b = 19 → ¬ b = 50 → ¬ j = Int.toNat x → Iₚ b j = Ib b j := fun b j a1 a5 a2 => (p5 b j (fun q => a5 q.1)).trans ((p4 b j (fun q => a2 q.2)).trans ((p3 b j (fun q => a2 q.2)).trans ((p2 b j (fun q => a2 q.2)).trans (p1 b j (fun q => a1 q.1)))))
  have rl : ∀ j, Iₚ 19 j = I1 19 j := fun j => (p5 _ j (fun q => absurd q.1 (by first | exact gz_ne rfl | decide))).trans ((p4 _ j (fun q => absurd q.1 (by first | exact gz_ne rfl | decide))).trans ((p3 _ j (fun q => absurd q.1 (by first | exact gz_ne rfl | decide))).trans (p2 _ j (fun q => absurd q.1 (by first | exact gz_ne rfl | decide)))))
  have eLF : Iₚ 41 (Int.toNat x) = f := by rw [p5 _ _ (fun q => absurd q.1 (by first | exact gz_ne rfl | decide)), p4 _ _ (fun q => absurd q.1 (by first | exact gz_ne rfl | decide)), p3 _ _ (fun q => absurd q.1 (by first | exact gz_ne rfl | decide)), q2]
  have eLM : Iₚ 42 (Int.toNat x) = Ib 0 118 := by rw [p5 _ _ (fun q => absurd q.1 (by first | exact gz_ne rfl | decide)), p4 _ _ (fun q => absurd q.1 (by first | exact gz_ne rfl | decide)), q3, hz3]
  have eLS : Iₚ 45 (Int.toNat x) = Ib 0 119 := by rw [p5 _ _ (fun q => absurd q.1 (by first | exact gz_ne rfl | decide)), q4, hz4]
  have d : ∀ b j, b = 0 → Iₚ b j = Ib b j := fun b j e => r b j (by omega) (by omega) (by omega) (by omega) (by omega)
  refine ⟨⟨⟨fun s i hs hi => ?_, fun s i hs hi => ?_⟩, ⟨⟨?_, fun g hg => ?_⟩, fun s hs => ?_⟩, ⟨by omega, eLF, by rw [eLM, d 0 118 rfl], by rw [eLS, d 0 119 rfl]⟩, gr_LI_fr hL (fun k => r _ _ (by decide) (by decide) (by decide) (by decide) (by decide)) (fun k => r _ _ (by decide) (by decide) (by decide) (by decide) (by decide)) (fun k => r _ _ (by decide) (by decide) (by decide) (by decide) (by decide)) (fun k => r _ _ (by decide) (by decide) (by decide) (by decide) (by decide)) (fun k => r _ _ (by decide) (by decide) (by decide) (by decide) (by decide)) (fun k => r _ _ (by decide) (by decide) (by decide) (by decide) (by decide)) (d _ _ rfl) (d _ _ rfl), hf.1, by rw [d 0 3 rfl]; exact hf.2⟩, fun j hj => by omega⟩
  · rw [rl] at hi
    have hi9 : (i : Int) < Ib 19 s ∨ (s = t ∧ (i : Int) = Ib 19 t) := by
      by_cases c : s = t
      · subst c
        omega
      · rw [p1 19 s (fun q => c q.2)] at hi
        exact Or.inl hi
    rcases hi9 with hi9 | hi9
    · obtain ⟨a, b⟩ := hG.1 s i hs hi9
      refine ⟨a, fun hc => ?_⟩
      have b9 := b (by omega)
      have ne : ¬ 384 * s + i = Int.toNat x := fun q => hc (by omega)
      exact gr_LW_c b9 (rx _ _ (by decide) (by decide) ne) (rx _ _ (by decide) (by decide) ne) (rx _ _ (by decide) (by decide) ne) (fun _ _ => r _ _ (by decide) (by decide) (by decide) (by decide) (by decide)) (fun _ _ => r _ _ (by decide) (by decide) (by decide) (by decide) (by decide)) (fun _ _ => r _ _ (by decide) (by decide) (by decide) (by decide) (by decide)) (by rw [d 0 3 rfl]; exact b9.1.1) (r _ _ (by decide) (by decide) (by decide) (by decide) (by decide)) (fun _ _ => r _ _ (by decide) (by decide) (by decide) (by decide) (by decide)) (r _ _ (by decide) (by decide) (by decide) (by decide) (by decide))
    · exact ⟨by omega, fun hc => absurd (show ((384 * s + i : Nat) : Int) = x by omega) hc⟩
  · rw [r 18 s (by decide) (by decide) (by decide) (by decide) (by decide)] at hi
    obtain ⟨a, b⟩ := hG.2 s i hs hi
    refine ⟨a, fun hc => ?_⟩
    have b9 := b (by omega)
    rw [r 36 _ (by decide) (by decide) (by decide) (by decide) (by decide), d 0 3 rfl, r 6 _ (by decide) (by decide) (by decide) (by decide) (by decide)]
    exact b9
  · rw [d 0 3 rfl]
    exact hS.1.1
  · rw [r 6 _ (by decide) (by decide) (by decide) (by decide) (by decide)]
    exact hS.1.2 g hg
  · obtain ⟨⟨a, a2⟩, b, c⟩ := hS.2 s hs
    refine ⟨⟨?_, by rw [r 18 s (by decide) (by decide) (by decide) (by decide) (by decide)]; exact a2⟩, fun i hi => ?_, fun i hi => by rw [r 36 _ (by decide) (by decide) (by decide) (by decide) (by decide)]; exact c i hi⟩
    · rw [rl]
      by_cases e : s = t
      · subst e
        omega
      · rw [p1 19 s (fun q => e q.2)]
        exact a
    · have u := (hG.1 s i hs (by omega)).1
      rw [rx 41 _ (by decide) (by decide) (fun q => ?_)]
      · exact b i hi
      · have e : s = t := by omega
        subst e
        omega
theorem gr_Q0_o {I9 I Iₚ : gr_I} {f x : Int} (h : gr_Q0 I9 f x I) (r : ∀ b j, ¬ b = 43 → ¬ b = 44 → ¬ b = 46 → ¬ b = 47 → ¬ b = 48 → ¬ b = 49 → Iₚ b j = I b j) (h6 : ∀ j : Nat, ((j : Int) < 6 * x ∨ 6 * x + 6 ≤ (j : Int)) → Iₚ 43 j = I 43 j) (h8 : ∀ j : Nat, ((j : Int) < 6 * x ∨ 6 * x + 6 ≤ (j : Int)) → Iₚ 46 j = I 46 j) (h9 : ∀ j : Nat, ((j : Int) < 6 * x ∨ 6 * x + 6 ≤ (j : Int)) → Iₚ 47 j = I 47 j) : gr_Q0 I9 f x Iₚ := by
  obtain ⟨a, b, ⟨c1, c2, c3, c4⟩, d, e1, e2⟩ := h
  have w : ∀ b j, ¬ b = 43 → ¬ b = 44 → ¬ b = 46 → ¬ b = 47 → ¬ b = 48 → ¬ b = 49 → Iₚ b j = I b j := r
  have z : ∀ b : Nat, (¬ b = 43 ∧ ¬ b = 44 ∧ ¬ b = 46 ∧ ¬ b = 47 ∧ ¬ b = 48 ∧ ¬ b = 49) → ∀ j, Iₚ b j = I b j := fun b q j => r b j q.1 q.2.1 q.2.2.1 q.2.2.2.1 q.2.2.2.2.1 q.2.2.2.2.2
  refine ⟨gr_GRx_o a c1 (z _ (by decide)) (z _ (by decide)) (z _ (by decide)) (z _ (by decide)) (z _ (by decide)) (z _ (by decide)) (z _ (by decide)) (z _ (by decide)) (z _ (by decide)) (z _ (by decide) _) h6 h8 h9, gr_ST_fr b (z _ (by decide)) (z _ (by decide)) (z _ (by decide)) (z _ (by decide)) (z _ (by decide)) (z _ (by decide) _), ⟨c1, by rw [z 41 (by decide)]; exact c2, by rw [z 42 (by decide), z 0 (by decide)]; exact c3, by rw [z 45 (by decide), z 0 (by decide)]; exact c4⟩, gr_LI_fr d (z _ (by decide)) (z _ (by decide)) (z _ (by decide)) (z _ (by decide)) (z _ (by decide)) (z _ (by decide)) (z _ (by decide) _) (z _ (by decide) _), e1, by rw [z 0 (by decide)]; exact e2⟩
theorem gr_Q1_nx {I9 I I1 Iₚ : gr_I} {f x k : Int} {i1 i2 : Nat} (h : gr_Q1 I9 f x k I) (h0 : 0 ≤ k) (h5 : k ≤ 5) (p1 : ∀ b j, ¬ (b = 43 ∧ j = i1) → I1 b j = I b j) (q1 : I1 43 i1 = I 68 (Int.toNat k)) (hi1 : (i1 : Int) = 6 * x + k) (p2 : ∀ b j, ¬ (b = 44 ∧ j = i2) → Iₚ b j = I1 b j) : gr_Q1 I9 f x (k + 1) Iₚ := by
  have hx := h.1.2.2.1.1
  refine ⟨gr_Q0_o h.1 (fun b j a1 a2 _ _ _ _ => (p2 b j (fun q => a2 q.1)).trans (p1 b j (fun q => a1 q.1))) (fun j hj => (p2 _ j (fun q => absurd q.1 (by first | exact gz_ne rfl | decide))).trans (p1 _ j (fun q => by have := q.2; omega))) (fun j hj => (p2 _ j (fun q => absurd q.1 (by first | exact gz_ne rfl | decide))).trans (p1 _ j (fun q => absurd q.1 (by first | exact gz_ne rfl | decide)))) (fun j hj => (p2 _ j (fun q => absurd q.1 (by first | exact gz_ne rfl | decide))).trans (p1 _ j (fun q => absurd q.1 (by first | exact gz_ne rfl | decide)))), fun j hj => ?_⟩
  rw [p2 _ _ (fun q => absurd q.1 (by first | exact gz_ne rfl | decide)), p2 _ _ (fun q => absurd q.1 (by first | exact gz_ne rfl | decide)), p1 68 j (fun q => absurd q.1 (by first | exact gz_ne rfl | decide))]
  by_cases e : (j : Int) < k
  · rw [p1 _ _ (fun q => by have := q.2; omega)]
    exact h.2 j e
  · have e1 : 6 * Int.toNat x + j = i1 := by omega
    have e2 : j = Int.toNat k := by omega
    rw [e1, q1, e2]
theorem gr_Q2_in {I9 I : gr_I} {f x k : Int} (h : gr_Q1 I9 f x k I) (hk : I 0 118 ≤ k) : gr_Q2 I9 f x 0 I := ⟨h.1, fun j hj => h.2 j (by omega), fun j hj => by omega⟩
theorem gr_Q2_nx {I9 I I1 I2 I3 Iₚ : gr_I} {f x k : Int} {i1 i2 i3 i4 : Nat} (h : gr_Q2 I9 f x k I) (h0 : 0 ≤ k) (h5 : k ≤ 5) (p1 : ∀ b j, ¬ (b = 46 ∧ j = i1) → I1 b j = I b j) (q1 : I1 46 i1 = I 70 (Int.toNat k)) (hi1 : (i1 : Int) = 6 * x + k) (p2 : ∀ b j, ¬ (b = 47 ∧ j = i2) → I2 b j = I1 b j) (q2 : I2 47 i2 = I1 71 (Int.toNat k)) (hi2 : (i2 : Int) = 6 * x + k) (p3 : ∀ b j, ¬ (b = 48 ∧ j = i3) → I3 b j = I2 b j) (p4 : ∀ b j, ¬ (b = 49 ∧ j = i4) → Iₚ b j = I3 b j) : gr_Q2 I9 f x (k + 1) Iₚ := by
  have hx := h.1.2.2.1.1
  have r : ∀ b j, ¬ b = 48 → ¬ b = 49 → Iₚ b j = I2 b j := fun b j a1 a2 => (p4 b j (fun q => a2 q.1)).trans (p3 b j (fun q => a1 q.1))
  have z : ∀ b : Nat, (¬ b = 46 ∧ ¬ b = 47 ∧ ¬ b = 48 ∧ ¬ b = 49) → ∀ j, Iₚ b j = I b j := fun b q j => (r b j q.2.2.1 q.2.2.2).trans ((p2 b j (fun w => q.2.1 w.1)).trans (p1 b j (fun w => q.1 w.1)))
  refine ⟨gr_Q0_o h.1 (fun b j _ _ a3 a4 a5 a6 => z b ⟨a3, a4, a5, a6⟩ j) (fun j _ => z _ (by decide) j) (fun j hj => (r _ _ (by decide) (by decide)).trans ((p2 _ j (fun q => absurd q.1 (by first | exact gz_ne rfl | decide))).trans (p1 _ j (fun q => by have := q.2; omega)))) (fun j hj => (r _ _ (by decide) (by decide)).trans ((p2 _ j (fun q => by have := q.2; omega)).trans (p1 _ j (fun q => absurd q.1 (by first | exact gz_ne rfl | decide))))), fun j hj => ?_, fun j hj => ?_⟩
  · rw [z 43 (by decide), z 68 (by decide)]
    rw [z 0 (by decide)] at hj
    exact h.2.1 j hj
  · rw [z 70 (by decide), z 71 (by decide), r 46 _ (by decide) (by decide), r 47 _ (by decide) (by decide), p2 46 _ (fun q => absurd q.1 (by first | exact gz_ne rfl | decide))]
    by_cases e : (j : Int) < k
    · rw [p1 46 _ (fun q => by have := q.2; omega), p2 47 _ (fun q => by have := q.2; omega), p1 47 _ (fun q => absurd q.1 (by first | exact gz_ne rfl | decide))]
      exact h.2.2 j e
    · have e1 : 6 * Int.toNat x + j = i1 := by omega
      have e3 : i2 = i1 := by omega
      have e2 : j = Int.toNat k := by omega
      rw [e1, q1, ← e3, q2, e2, p1 71 _ (fun q => absurd q.1 (by first | exact gz_ne rfl | decide))]
      exact ⟨rfl, rfl⟩
theorem gr_GR_end {I9 I : gr_I} {f x k : Int} (h : gr_Q2 I9 f x k I) (hk : I 0 119 ≤ k) (hI : gr_Inv I) : gr_GR I := by
  obtain ⟨⟨a, b, ⟨c1, c2, c3, c4⟩, ⟨d1, d2, d3, d4⟩, e1, e2⟩, h2, h3⟩ := h
  refine ⟨fun t i ht hi => ?_, a.2⟩
  obtain ⟨u, v⟩ := a.1 t i ht hi
  refine ⟨u, fun _ => ?_⟩
  by_cases e : ((384 * t + i : Nat) : Int) = x
  · have ex : 384 * t + i = Int.toNat x := by omega
    rw [ex]
    have m1 := (gr_b_0_118 hI)
    have m2 := (gr_b_0_119 hI)
    have m3 := (gr_b_43 hI (6 * Int.toNat x))
    refine ⟨⟨by omega, by omega, by omega, by omega, by omega, m3.1⟩, ?_, ?_, ?_, ?_⟩
    · intro q hq
      rw [c2] at hq
      obtain ⟨k1, k2, k3⟩ := d1 q hq
      exact ⟨k1, by omega, by rw [h2 k1 k2]; exact k3⟩
    · rw [c2, c3, ← d2]
      exact gr_ng_c _ (fun j hj => by rw [Nat.zero_add]; exact h2 j (by omega))
    · intro w1 w2
      have h20 := h2 0 (by omega)
      rw [Nat.add_zero] at h20
      rw [h20] at w2 ⊢
      rw [c2]
      exact d3 (by omega) w2
    · intro q hq
      have h9 := h3 q (by omega)
      rw [h9.1, h9.2]
      exact d4 q (by omega)
  · exact v e
