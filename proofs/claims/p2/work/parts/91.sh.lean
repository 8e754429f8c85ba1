/-! A LINEARIZATION IS KEPT. -/
theorem gr_A1_nx {k : Int} {I I' : gr_I} (h : gr_A1 k I) (h0 : 0 ≤ k) (p : ∀ b j, ¬ (b = 74 ∧ j = Int.toNat k) → I' b j = I b j) (q : I' 74 (Int.toNat k) = -1) : gr_A1 (k + 1) I' := fun j hj => by
  by_cases e : j = Int.toNat k
  · subst e
    omega
  · rw [p 74 j (fun q => e q.2)]
    exact h j (by omega)
theorem gr_R1_00 {f k : Int} {I : gr_I} (h : gr_A1 k I) (hk : 4 ≤ k) (h1 : I 0 118 = 0) (h2 : I 0 119 = 0) : gr_R1 f I := gr_R1_0 (fun j hj => h j (by omega)) h1 h2
theorem gr_GRx_o {x : Int} {I I' : gr_I} (h : gr_GRx x (-1) I) (h0 : 0 ≤ x) (h1 : ∀ k, I' 19 k = I 19 k) (h2 : ∀ k, I' 18 k = I 18 k) (h3 : ∀ k, I' 36 k = I 36 k) (h4 : ∀ k, I' 41 k = I 41 k) (h5 : ∀ k, I' 42 k = I 42 k) (h7 : ∀ k, I' 45 k = I 45 k) (h10 : ∀ k, I' 6 k = I 6 k) (h11 : ∀ k, I' 7 k = I 7 k) (h12 : ∀ k, I' 8 k = I 8 k) (hf : I' 0 3 = I 0 3) (h6 : ∀ j : Nat, ((j : Int) < 6 * x ∨ 6 * x + 6 ≤ (j : Int)) → I' 43 j = I 43 j) (h8 : ∀ j : Nat, ((j : Int) < 6 * x ∨ 6 * x + 6 ≤ (j : Int)) → I' 46 j = I 46 j) (h9 : ∀ j : Nat, ((j : Int) < 6 * x ∨ 6 * x + 6 ≤ (j : Int)) → I' 47 j = I 47 j) : gr_GRx x (-1) I' := by
  refine ⟨fun t k ht hk => ?_, fun t k ht hk => ?_⟩
  · rw [h1] at hk
    obtain ⟨a, b⟩ := h.1 t k ht hk
    exact ⟨a, fun hc => gr_LW_c (b hc) (h4 _) (h5 _) (h7 _) (fun j hj => h6 _ (by omega)) (fun j hj => h8 _ (by omega)) (fun j hj => h9 _ (by omega)) (by rw [hf]; exact (b hc).1.1) (h10 _) (fun _ _ => h11 _) (h12 _)⟩
  · rw [h2] at hk
    obtain ⟨a, b⟩ := h.2 t k ht hk
    refine ⟨a, fun hc => ?_⟩
    rw [h3, hf, h10]
    exact b hc
def gr_Q0 (I9 : gr_I) (f x : Int) (I : gr_I) : Prop := gr_GRx x (-1) I ∧ gr_ST I9 I ∧ (0 ≤ x ∧ I 41 (Int.toNat x) = f ∧ I 42 (Int.toNat x) = I 0 118 ∧ I 45 (Int.toNat x) = I 0 119) ∧ gr_LI f I ∧ (0 ≤ f ∧ f < I 0 3)
def gr_Q1 (I9 : gr_I) (f x k : Int) (I : gr_I) : Prop := gr_Q0 I9 f x I ∧ ∀ j : Nat, (j : Int) < k → I 43 (6 * Int.toNat x + j) = I 68 j
def gr_Q2 (I9 : gr_I) (f x k : Int) (I : gr_I) : Prop := gr_Q0 I9 f x I ∧ (∀ j : Nat, (j : Int) < I 0 118 → I 43 (6 * Int.toNat x + j) = I 68 j) ∧ ∀ j : Nat, (j : Int) < k → I 46 (6 * Int.toNat x + j) = I 70 j ∧ I 47 (6 * Int.toNat x + j) = I 71 j
theorem gr_Q1_in {I9 Ib I1 I2 I3 I4 I' : gr_I} {f x z3 z4 : Int} {t : Nat} (hG : gr_GR Ib) (hS : gr_ST I9 Ib) (hL : gr_LI f Ib) (ht : t < 8) (hx : x = 384 * (t : Int) + Ib 19 t) (hb : 0 ≤ Ib 19 t ∧ Ib 19 t ≤ 383) (hf : 0 ≤ f ∧ f < Ib 0 3) (p1 : ∀ b j, ¬ (b = 19 ∧ j = t) → I1 b j = Ib b j) (q1 : I1 19 t = Ib 19 t + 1) (p2 : ∀ b j, ¬ (b = 41 ∧ j = Int.toNat x) → I2 b j = I1 b j) (q2 : I2 41 (Int.toNat x) = f) (p3 : ∀ b j, ¬ (b = 42 ∧ j = Int.toNat x) → I3 b j = I2 b j) (q3 : I3 42 (Int.toNat x) = z3) (hz3 : z3 = Ib 0 118) (p4 : ∀ b j, ¬ (b = 45 ∧ j = Int.toNat x) → I4 b j = I3 b j) (q4 : I4 45 (Int.toNat x) = z4) (hz4 : z4 = Ib 0 119) (p5 : ∀ b j, ¬ (b = 50 ∧ j = Int.toNat x) → I' b j = I4 b j) : gr_Q1 I9 f x 0 I' := by
  have r : ∀ b j, ¬ b = 19 → ¬ b = 41 → ¬ b = 42 → ¬ b = 45 → ¬ b = 50 → I' b j = Ib b j := fun b j a1 a2 a3 a4 a5 => (p5 b j (fun q => a5 q.1)).trans ((p4 b j (fun q => a4 q.1)).trans ((p3 b j (fun q => a3 q.1)).trans ((p2 b j (fun q => a2 q.1)).trans (p1 b j (fun q => a1 q.1)))))
  have rx : ∀ b j, ¬ b = 19 → ¬ b = 50 → ¬ j = Int.toNat x → I' b j = Ib b j := fun b j a1 a5 a2 => (p5 b j (fun q => a5 q.1)).trans ((p4 b j (fun q => a2 q.2)).trans ((p3 b j (fun q => a2 q.2)).trans ((p2 b j (fun q => a2 q.2)).trans (p1 b j (fun q => a1 q.1)))))
  have rl : ∀ j, I' 19 j = I1 19 j := fun j => (p5 _ j (fun q => absurd q.1 (by decide))).trans ((p4 _ j (fun q => absurd q.1 (by decide))).trans ((p3 _ j (fun q => absurd q.1 (by decide))).trans (p2 _ j (fun q => absurd q.1 (by decide)))))
  have eLF : I' 41 (Int.toNat x) = f := by rw [p5 _ _ (fun q => absurd q.1 (by decide)), p4 _ _ (fun q => absurd q.1 (by decide)), p3 _ _ (fun q => absurd q.1 (by decide)), q2]
  have eLM : I' 42 (Int.toNat x) = Ib 0 118 := by rw [p5 _ _ (fun q => absurd q.1 (by decide)), p4 _ _ (fun q => absurd q.1 (by decide)), q3, hz3]
  have eLS : I' 45 (Int.toNat x) = Ib 0 119 := by rw [p5 _ _ (fun q => absurd q.1 (by decide)), q4, hz4]
  have d : ∀ b j, b = 0 → I' b j = Ib b j := fun b j e => r b j (by omega) (by omega) (by omega) (by omega) (by omega)
  refine ⟨⟨⟨fun s i hs hi => ?_, fun s i hs hi => ?_⟩, ⟨⟨?_, fun g hg => ?_⟩, fun s hs => ?_⟩, ⟨by omega, eLF, by rw [eLM, d 0 118 rfl], by rw [eLS, d 0 119 rfl]⟩, gr_LI_fr hL (fun k => r _ _ (by decide) (by decide) (by decide) (by decide) (by decide)) (fun k => r _ _ (by decide) (by decide) (by decide) (by decide) (by decide)) (fun k => r _ _ (by decide) (by decide) (by decide) (by decide) (by decide)) (fun k => r _ _ (by decide) (by decide) (by decide) (by decide) (by decide)) (fun k => r _ _ (by decide) (by decide) (by decide) (by decide) (by decide)) (fun k => r _ _ (by decide) (by decide) (by decide) (by decide) (by decide)) (d _ _ rfl) (d _ _ rfl), hf.1, by rw [d 0 3 rfl]; exact hf.2⟩, fun j hj => by omega⟩
  · rw [rl] at hi
    have hi9 : (i : Int) < Ib 19 s ∨ (s = t ∧ (i : Int) = Ib 19 t) := by
      by_cases c : s = t
      · subst c
        omega
      · rw [p1 19 s (fun q => c q.2)] at hi
        exact Or.inl hi
    rcases hi9 with hi9 | hi9
    · obtain ⟨a, b⟩ := hG.1 s i hs hi9
      refine ⟨a, fun hc => ?_⟩
      have b9 := b (by omega)
      have ne : ¬ 384 * s + i = Int.toNat x := fun q => hc (by omega)
      exact gr_LW_c b9 (rx _ _ (by decide) (by decide) ne) (rx _ _ (by decide) (by decide) ne) (rx _ _ (by decide) (by decide) ne) (fun _ _ => r _ _ (by decide) (by decide) (by decide) (by decide) (by decide)) (fun _ _ => r _ _ (by decide) (by decide) (by decide) (by decide) (by decide)) (fun _ _ => r _ _ (by decide) (by decide) (by decide) (by decide) (by decide)) (by rw [d 0 3 rfl]; exact b9.1.1) (r _ _ (by decide) (by decide) (by decide) (by decide) (by decide)) (fun _ _ => r _ _ (by decide) (by decide) (by decide) (by decide) (by decide)) (r _ _ (by decide) (by decide) (by decide) (by decide) (by decide))
    · exact ⟨by omega, fun hc => absurd (show ((384 * s + i : Nat) : Int) = x by omega) hc⟩
  · rw [r 18 s (by decide) (by decide) (by decide) (by decide) (by decide)] at hi
    obtain ⟨a, b⟩ := hG.2 s i hs hi
    refine ⟨a, fun hc => ?_⟩
    have b9 := b (by omega)
    rw [r 36 _ (by decide) (by decide) (by decide) (by decide) (by decide), d 0 3 rfl, r 6 _ (by decide) (by decide) (by decide) (by decide) (by decide)]
    exact b9
  · rw [d 0 3 rfl]
    exact hS.1.1
  · rw [r 6 _ (by decide) (by decide) (by decide) (by decide) (by decide)]
    exact hS.1.2 g hg
  · obtain ⟨⟨a, a2⟩, b, c⟩ := hS.2 s hs
    refine ⟨⟨?_, by rw [r 18 s (by decide) (by decide) (by decide) (by decide) (by decide)]; exact a2⟩, fun i hi => ?_, fun i hi => by rw [r 36 _ (by decide) (by decide) (by decide) (by decide) (by decide)]; exact c i hi⟩
    · rw [rl]
      by_cases e : s = t
      · subst e
        omega
      · rw [p1 19 s (fun q => e q.2)]
        exact a
    · have u := (hG.1 s i hs (by omega)).1
      rw [rx 41 _ (by decide) (by decide) (fun q => ?_)]
      · exact b i hi
      · have e : s = t := by omega
        subst e
        omega
theorem gr_Q0_o {I9 I I' : gr_I} {f x : Int} (h : gr_Q0 I9 f x I) (r : ∀ b j, ¬ b = 43 → ¬ b = 44 → ¬ b = 46 → ¬ b = 47 → ¬ b = 48 → ¬ b = 49 → I' b j = I b j) (h6 : ∀ j : Nat, ((j : Int) < 6 * x ∨ 6 * x + 6 ≤ (j : Int)) → I' 43 j = I 43 j) (h8 : ∀ j : Nat, ((j : Int) < 6 * x ∨ 6 * x + 6 ≤ (j : Int)) → I' 46 j = I 46 j) (h9 : ∀ j : Nat, ((j : Int) < 6 * x ∨ 6 * x + 6 ≤ (j : Int)) → I' 47 j = I 47 j) : gr_Q0 I9 f x I' := by
  obtain ⟨a, b, ⟨c1, c2, c3, c4⟩, d, e1, e2⟩ := h
  have w : ∀ b j, ¬ b = 43 → ¬ b = 44 → ¬ b = 46 → ¬ b = 47 → ¬ b = 48 → ¬ b = 49 → I' b j = I b j := r
  have z : ∀ b : Nat, (¬ b = 43 ∧ ¬ b = 44 ∧ ¬ b = 46 ∧ ¬ b = 47 ∧ ¬ b = 48 ∧ ¬ b = 49) → ∀ j, I' b j = I b j := fun b q j => r b j q.1 q.2.1 q.2.2.1 q.2.2.2.1 q.2.2.2.2.1 q.2.2.2.2.2
  refine ⟨gr_GRx_o a c1 (z _ (by decide)) (z _ (by decide)) (z _ (by decide)) (z _ (by decide)) (z _ (by decide)) (z _ (by decide)) (z _ (by decide)) (z _ (by decide)) (z _ (by decide)) (z _ (by decide) _) h6 h8 h9, gr_ST_fr b (z _ (by decide)) (z _ (by decide)) (z _ (by decide)) (z _ (by decide)) (z _ (by decide)) (z _ (by decide) _), ⟨c1, by rw [z 41 (by decide)]; exact c2, by rw [z 42 (by decide), z 0 (by decide)]; exact c3, by rw [z 45 (by decide), z 0 (by decide)]; exact c4⟩, gr_LI_fr d (z _ (by decide)) (z _ (by decide)) (z _ (by decide)) (z _ (by decide)) (z _ (by decide)) (z _ (by decide)) (z _ (by decide) _) (z _ (by decide) _), e1, by rw [z 0 (by decide)]; exact e2⟩
theorem gr_Q1_nx {I9 I I1 I' : gr_I} {f x k : Int} {i1 i2 : Nat} (h : gr_Q1 I9 f x k I) (h0 : 0 ≤ k) (h5 : k ≤ 5) (p1 : ∀ b j, ¬ (b = 43 ∧ j = i1) → I1 b j = I b j) (q1 : I1 43 i1 = I 68 (Int.toNat k)) (hi1 : (i1 : Int) = 6 * x + k) (p2 : ∀ b j, ¬ (b = 44 ∧ j = i2) → I' b j = I1 b j) : gr_Q1 I9 f x (k + 1) I' := by
  have hx := h.1.2.2.1.1
  refine ⟨gr_Q0_o h.1 (fun b j a1 a2 _ _ _ _ => (p2 b j (fun q => a2 q.1)).trans (p1 b j (fun q => a1 q.1))) (fun j hj => (p2 _ j (fun q => absurd q.1 (by decide))).trans (p1 _ j (fun q => by have := q.2; omega))) (fun j hj => (p2 _ j (fun q => absurd q.1 (by decide))).trans (p1 _ j (fun q => absurd q.1 (by decide)))) (fun j hj => (p2 _ j (fun q => absurd q.1 (by decide))).trans (p1 _ j (fun q => absurd q.1 (by decide)))), fun j hj => ?_⟩
  rw [p2 _ _ (fun q => absurd q.1 (by decide)), p2 _ _ (fun q => absurd q.1 (by decide)), p1 68 j (fun q => absurd q.1 (by decide))]
  by_cases e : (j : Int) < k
  · rw [p1 _ _ (fun q => by have := q.2; omega)]
    exact h.2 j e
  · have e1 : 6 * Int.toNat x + j = i1 := by omega
    have e2 : j = Int.toNat k := by omega
    rw [e1, q1, e2]
theorem gr_Q2_in {I9 I : gr_I} {f x k : Int} (h : gr_Q1 I9 f x k I) (hk : I 0 118 ≤ k) : gr_Q2 I9 f x 0 I := ⟨h.1, fun j hj => h.2 j (by omega), fun j hj => by omega⟩
theorem gr_Q2_nx {I9 I I1 I2 I3 I' : gr_I} {f x k : Int} {i1 i2 i3 i4 : Nat} (h : gr_Q2 I9 f x k I) (h0 : 0 ≤ k) (h5 : k ≤ 5) (p1 : ∀ b j, ¬ (b = 46 ∧ j = i1) → I1 b j = I b j) (q1 : I1 46 i1 = I 70 (Int.toNat k)) (hi1 : (i1 : Int) = 6 * x + k) (p2 : ∀ b j, ¬ (b = 47 ∧ j = i2) → I2 b j = I1 b j) (q2 : I2 47 i2 = I1 71 (Int.toNat k)) (hi2 : (i2 : Int) = 6 * x + k) (p3 : ∀ b j, ¬ (b = 48 ∧ j = i3) → I3 b j = I2 b j) (p4 : ∀ b j, ¬ (b = 49 ∧ j = i4) → I' b j = I3 b j) : gr_Q2 I9 f x (k + 1) I' := by
  have hx := h.1.2.2.1.1
  have r : ∀ b j, ¬ b = 48 → ¬ b = 49 → I' b j = I2 b j := fun b j a1 a2 => (p4 b j (fun q => a2 q.1)).trans (p3 b j (fun q => a1 q.1))
  have z : ∀ b : Nat, (¬ b = 46 ∧ ¬ b = 47 ∧ ¬ b = 48 ∧ ¬ b = 49) → ∀ j, I' b j = I b j := fun b q j => (r b j q.2.2.1 q.2.2.2).trans ((p2 b j (fun w => q.2.1 w.1)).trans (p1 b j (fun w => q.1 w.1)))
  refine ⟨gr_Q0_o h.1 (fun b j _ _ a3 a4 a5 a6 => z b ⟨a3, a4, a5, a6⟩ j) (fun j _ => z _ (by decide) j) (fun j hj => (r _ _ (by decide) (by decide)).trans ((p2 _ j (fun q => absurd q.1 (by decide))).trans (p1 _ j (fun q => by have := q.2; omega)))) (fun j hj => (r _ _ (by decide) (by decide)).trans ((p2 _ j (fun q => by have := q.2; omega)).trans (p1 _ j (fun q => absurd q.1 (by decide))))), fun j hj => ?_, fun j hj => ?_⟩
  · rw [z 43 (by decide), z 68 (by decide)]
    rw [z 0 (by decide)] at hj
    exact h.2.1 j hj
  · rw [z 70 (by decide), z 71 (by decide), r 46 _ (by decide) (by decide), r 47 _ (by decide) (by decide), p2 46 _ (fun q => absurd q.1 (by decide))]
    by_cases e : (j : Int) < k
    · rw [p1 46 _ (fun q => by have := q.2; omega), p2 47 _ (fun q => by have := q.2; omega), p1 47 _ (fun q => absurd q.1 (by decide))]
      exact h.2.2 j e
    · have e1 : 6 * Int.toNat x + j = i1 := by omega
      have e3 : i2 = i1 := by omega
      have e2 : j = Int.toNat k := by omega
      rw [e1, q1, ← e3, q2, e2, p1 71 _ (fun q => absurd q.1 (by decide))]
      exact ⟨rfl, rfl⟩
theorem gr_GR_end {I9 I : gr_I} {f x k : Int} (h : gr_Q2 I9 f x k I) (hk : I 0 119 ≤ k) (hI : gr_Inv I) : gr_GR I := by
  obtain ⟨⟨a, b, ⟨c1, c2, c3, c4⟩, ⟨d1, d2, d3, d4⟩, e1, e2⟩, h2, h3⟩ := h
  refine ⟨fun t i ht hi => ?_, a.2⟩
  obtain ⟨u, v⟩ := a.1 t i ht hi
  refine ⟨u, fun _ => ?_⟩
  by_cases e : ((384 * t + i : Nat) : Int) = x
  · have ex : 384 * t + i = Int.toNat x := by omega
    rw [ex]
    have m1 := (show 0 ≤ I 0 118 ∧ I 0 118 ≤ 6 from (hI 0 118).1)
    have m2 := (show 0 ≤ I 0 119 ∧ I 0 119 ≤ 6 from (hI 0 119).1)
    have m3 := (show -4 ≤ I 43 (6 * Int.toNat x) ∧ I 43 (6 * Int.toNat x) ≤ 32015 from (hI 43 _).1)
    refine ⟨⟨by omega, by omega, by omega, by omega, by omega, m3.1⟩, ?_, ?_, ?_, ?_⟩
    · intro q hq
      rw [c2] at hq
      obtain ⟨k1, k2, k3⟩ := d1 q hq
      exact ⟨k1, by omega, by rw [h2 k1 k2]; exact k3⟩
    · rw [c2, c3, ← d2]
      exact gr_ng_c _ (fun j hj => by rw [Nat.zero_add]; exact h2 j (by omega))
    · intro w1 w2
      have h20 := h2 0 (by omega)
      rw [Nat.add_zero] at h20
      rw [h20] at w2 ⊢
      rw [c2]
      exact d3 (by omega) w2
    · intro q hq
      have h9 := h3 q (by omega)
      rw [h9.1, h9.2]
      exact d4 q (by omega)
  · exact v e
set_option maxHeartbeats 4000000 in
set_option maxRecDepth 100000 in
theorem r_lin_w {ws0 : List Cond} {tb : String → gz_T} (hws : ∀ w ∈ gr_ws, w ∈ ws0) (htb : tb RX13 = gr_T) (ext : gz_Sh) (B : Int) (hB : B ≤ 1500) (I9 : gr_I) (I : gr_I) (J : gr_J) (hI : gr_Inv I)   (x0 : I 0 71 = 5 ∨ I 0 73 ≤ I 0 69) (x1 : I 0 72 ≤ I 0 69) (x2 : I 0 71 = 0 ∨ (I 0 72 < I 0 73 ∧ I 0 72 < I 0 69)) (x3 : I 0 71 = 3 → 2 ≤ I 0 73 - I 0 72 ∧ I 0 73 - I 0 72 ≤ 14) (x4 : I 0 72 ≤ I 0 73) (x5 : 0 ≤ I 0 6) (x6 : I 0 59 + I 0 69 - I 0 72 ≤ 1900) (KLN_I : gr_LN B I) (KGR_I : gr_GR I) (KST_I : gr_ST I9 I) : ∃ r h', gz_Ev ws0 tb 13 (yX13_lin, cX13_lin, 7, (some .boolean)) [.inr (.inr (some 0))] (gr_sh ++ ext) (gr_h I J) r (gr_sh ++ ext) h' 0 0 ∧ (∃ (I' : gr_I) (J' : gr_J), h' = gr_h I' J' ∧ gr_Inv I' ∧ gr_fr [59, 71, 72, 73, 74, 75, 76, 77, 101, 106, 118, 119, 120] [19, 41, 42, 43, 44, 45, 46, 47, 48, 49, 50, 51, 57, 68, 69, 70, 71, 72, 73, 74] I I' ∧ gr_fj [59, 71, 72, 73, 74, 75, 76, 77, 101, 106, 118, 119, 120] [19, 41, 42, 43, 44, 45, 46, 47, 48, 49, 50, 51, 57, 68, 69, 70, 71, 72, 73, 74] J J' ∧ gr_LN B I' ∧ gr_GR I' ∧ gr_ST I9 I' ∧ (∃ z : Int, r = some (.inl z) ∧ 0 ≤ z ∧ z ≤ 1 ∧ (I' 0 71 = 5 ∨ I' 0 73 ≤ I' 0 69) ∧ (I' 0 72 ≤ I' 0 69) ∧ (I' 0 71 = 0 ∨ (I' 0 72 < I' 0 73 ∧ I' 0 72 < I' 0 69)) ∧ (I' 0 71 = 3 → 2 ≤ I' 0 73 - I' 0 72 ∧ I' 0 73 - I' 0 72 ≤ 14) ∧ (I' 0 72 ≤ I' 0 73) ∧ (I' 0 69 = I 0 69) ∧ (I 0 73 ≤ I' 0 73) ∧ (I 0 72 ≤ I' 0 72) ∧ (I' 0 59 - I' 0 72 ≤ I 0 59 - I 0 72))) := by
  have FI : gr_fr [59, 71, 72, 73, 74, 75, 76, 77, 101, 106, 118, 119, 120] [19, 41, 42, 43, 44, 45, 46, 47, 48, 49, 50, 51, 57, 68, 69, 70, 71, 72, 73, 74] I I := fun _ _ _ => rfl
  have FJ : gr_fj [59, 71, 72, 73, 74, 75, 76, 77, 101, 106, 118, 119, 120] [19, 41, 42, 43, 44, 45, 46, 47, 48, 49, 50, 51, 57, 68, 69, 70, 71, 72, 73, 74] J J := fun _ _ _ => rfl
  have hD : gv_D (gr_E ws0 tb 12 (yX13_lin, cX13_lin, 7, (some .boolean)) kX13_lin) := gq_ok oX13_lin
  refine gr_ev (d := 12) (l := kX13_lin) (Po := fun r h' => (∃ (I' : gr_I) (J' : gr_J), h' = gr_h I' J' ∧ gr_Inv I' ∧ gr_fr [59, 71, 72, 73, 74, 75, 76, 77, 101, 106, 118, 119, 120] [19, 41, 42, 43, 44, 45, 46, 47, 48, 49, 50, 51, 57, 68, 69, 70, 71, 72, 73, 74] I I' ∧ gr_fj [59, 71, 72, 73, 74, 75, 76, 77, 101, 106, 118, 119, 120] [19, 41, 42, 43, 44, 45, 46, 47, 48, 49, 50, 51, 57, 68, 69, 70, 71, 72, 73, 74] J J' ∧ gr_LN B I' ∧ gr_GR I' ∧ gr_ST I9 I' ∧ (∃ z : Int, r = some (.inl z) ∧ 0 ≤ z ∧ z ≤ 1 ∧ (I' 0 71 = 5 ∨ I' 0 73 ≤ I' 0 69) ∧ (I' 0 72 ≤ I' 0 69) ∧ (I' 0 71 = 0 ∨ (I' 0 72 < I' 0 73 ∧ I' 0 72 < I' 0 69)) ∧ (I' 0 71 = 3 → 2 ≤ I' 0 73 - I' 0 72 ∧ I' 0 73 - I' 0 72 ≤ 14) ∧ (I' 0 72 ≤ I' 0 73) ∧ (I' 0 69 = I 0 69) ∧ (I 0 73 ≤ I' 0 73) ∧ (I 0 72 ≤ I' 0 72) ∧ (I' 0 59 - I' 0 72 ≤ I 0 59 - I 0 72)))) htb rfl (Nat.le_of_ble_eq_true rfl) ?_
  have f1 := (show 0 ≤ I 0 71 ∧ I 0 71 ≤ 5 from (hI 0 71).1)
  have f2 := (show 0 ≤ I 0 72 ∧ I 0 72 ≤ 1000 from (hI 0 72).1)
  have f3 := (show 0 ≤ I 0 73 ∧ I 0 73 ≤ 1001 from (hI 0 73).1)
  have f4 := (show 0 ≤ I 0 69 ∧ I 0 69 ≤ 1000 from (hI 0 69).1)
  have f5 := (show (-1) ≤ I 0 6 ∧ I 0 6 ≤ 7 from (hI 0 6).1)
  have f6 := (show 0 ≤ I 0 59 ∧ I 0 59 ≤ 2000 from (hI 0 59).1)
  have f7 := (show 0 ≤ I 0 118 ∧ I 0 118 ≤ 6 from (hI 0 118).1)
  have f8 := (show 0 ≤ I 0 119 ∧ I 0 119 ≤ 6 from (hI 0 119).1)
  have f9 := (show 0 ≤ I 0 3 ∧ I 0 3 ≤ 96 from (hI 0 3).1)
  have L14 : ∀ (I10 : gr_I) (J11 : gr_J) (v1_12 : Int), gr_Inv I10 → gr_fr [59, 71, 72, 73, 74, 75, 76, 77, 101, 106, 118, 119, 120] [19, 41, 42, 43, 44, 45, 46, 47, 48, 49, 50, 51, 57, 68, 69, 70, 71, 72, 73, 74] I I10 → gr_fj [59, 71, 72, 73, 74, 75, 76, 77, 101, 106, 118, 119, 120] [19, 41, 42, 43, 44, 45, 46, 47, 48, 49, 50, 51, 57, 68, 69, 70, 71, 72, 73, 74] J J11 → gr_LN B I10 → gr_GR I10 → gr_ST I9 I10 → ((0 ≤ v1_12 ∧ v1_12 ≤ 7) ∧ (I10 0 71 = 1) ∧ (I10 19 (Int.toNat v1_12) = I 19 (Int.toNat v1_12)) ∧ (I10 0 71 = 5 ∨ I10 0 73 ≤ I10 0 69) ∧ (I10 0 72 ≤ I10 0 69) ∧ (I10 0 71 = 0 ∨ (I10 0 72 < I10 0 73 ∧ I10 0 72 < I10 0 69)) ∧ (I10 0 71 = 3 → 2 ≤ I10 0 73 - I10 0 72 ∧ I10 0 73 - I10 0 72 ≤ 14) ∧ (I10 0 72 ≤ I10 0 73) ∧ (I10 0 69 = I 0 69) ∧ (I 0 73 ≤ I10 0 73) ∧ (I 0 72 ≤ I10 0 72) ∧ (I10 0 6 = I 0 6) ∧ (I10 0 59 - I10 0 72 ≤ I 0 59 - I 0 72)) → gv_X (gr_E ws0 tb 12 (yX13_lin, cX13_lin, 7, (some .boolean)) kX13_lin) (gv_Q cX13_lin (some .boolean) (gr_sh ++ ext) (fun r h' => (∃ (I' : gr_I) (J' : gr_J), h' = gr_h I' J' ∧ gr_Inv I' ∧ gr_fr [59, 71, 72, 73, 74, 75, 76, 77, 101, 106, 118, 119, 120] [19, 41, 42, 43, 44, 45, 46, 47, 48, 49, 50, 51, 57, 68, 69, 70, 71, 72, 73, 74] I I' ∧ gr_fj [59, 71, 72, 73, 74, 75, 76, 77, 101, 106, 118, 119, 120] [19, 41, 42, 43, 44, 45, 46, 47, 48, 49, 50, 51, 57, 68, 69, 70, 71, 72, 73, 74] J J' ∧ gr_LN B I' ∧ gr_GR I' ∧ gr_ST I9 I' ∧ (∃ z : Int, r = some (.inl z) ∧ 0 ≤ z ∧ z ≤ 1 ∧ (I' 0 71 = 5 ∨ I' 0 73 ≤ I' 0 69) ∧ (I' 0 72 ≤ I' 0 69) ∧ (I' 0 71 = 0 ∨ (I' 0 72 < I' 0 73 ∧ I' 0 72 < I' 0 69)) ∧ (I' 0 71 = 3 → 2 ≤ I' 0 73 - I' 0 72 ∧ I' 0 73 - I' 0 72 ≤ 14) ∧ (I' 0 72 ≤ I' 0 73) ∧ (I' 0 69 = I 0 69) ∧ (I 0 73 ≤ I' 0 73) ∧ (I 0 72 ≤ I' 0 72) ∧ (I' 0 59 - I' 0 72 ≤ I 0 59 - I 0 72))))) (14, [(0, .inr (.inr (some 0))), (1, .inl v1_12)], [], gr_sh ++ ext, gr_h I10 J11) := by
    intro I10 J11 v1_12 hI10 FI10 FJ11 KLN_I10 KGR_I10 KST_I10 m_12
    obtain ⟨hv1_12, e0_12, e1_12, e2_12, e3_12, e4_12, e5_12, e6_12, e7_12, e8_12, e9_12, e10_12, e11_12⟩ := m_12
    have f13 := (show 0 ≤ I10 0 71 ∧ I10 0 71 ≤ 5 from (hI10 0 71).1)
    have f14 := (show 0 ≤ I10 0 72 ∧ I10 0 72 ≤ 1000 from (hI10 0 72).1)
    have f15 := (show 0 ≤ I10 0 73 ∧ I10 0 73 ≤ 1001 from (hI10 0 73).1)
    have f16 := (show 0 ≤ I10 0 69 ∧ I10 0 69 ≤ 1000 from (hI10 0 69).1)
    have f17 := (show (-1) ≤ I10 0 6 ∧ I10 0 6 ≤ 7 from (hI10 0 6).1)
    have f18 := (show 0 ≤ I10 0 59 ∧ I10 0 59 ≤ 2000 from (hI10 0 59).1)
    have f19 := (show 0 ≤ I10 0 118 ∧ I10 0 118 ≤ 6 from (hI10 0 118).1)
    have f20 := (show 0 ≤ I10 0 119 ∧ I10 0 119 ≤ 6 from (hI10 0 119).1)
    have f21 := (show 0 ≤ I10 0 3 ∧ I10 0 3 ≤ 96 from (hI10 0 3).1)
    have t22 := KLN_I (Int.toNat v1_12) (by omega)
    have L49 : ((I10 0 71 = 5 ∨ I10 0 73 ≤ I10 0 69) ∧ (I10 0 72 ≤ I10 0 69) ∧ (I10 0 71 = 0 ∨ (I10 0 72 < I10 0 73 ∧ I10 0 72 < I10 0 69)) ∧ (I10 0 71 = 3 → 2 ≤ I10 0 73 - I10 0 72 ∧ I10 0 73 - I10 0 72 ≤ 14) ∧ (I10 0 72 ≤ I10 0 73) ∧ (I10 0 69 = I 0 69) ∧ (I 0 73 ≤ I10 0 73) ∧ (I 0 72 ≤ I10 0 72) ∧ (I10 0 6 = I 0 6) ∧ (I10 0 59 - I10 0 72 ≤ I 0 59 - I 0 72)) → gv_X (gr_E ws0 tb 12 (yX13_lin, cX13_lin, 7, (some .boolean)) kX13_lin) (gv_Q cX13_lin (some .boolean) (gr_sh ++ ext) (fun r h' => (∃ (I' : gr_I) (J' : gr_J), h' = gr_h I' J' ∧ gr_Inv I' ∧ gr_fr [59, 71, 72, 73, 74, 75, 76, 77, 101, 106, 118, 119, 120] [19, 41, 42, 43, 44, 45, 46, 47, 48, 49, 50, 51, 57, 68, 69, 70, 71, 72, 73, 74] I I' ∧ gr_fj [59, 71, 72, 73, 74, 75, 76, 77, 101, 106, 118, 119, 120] [19, 41, 42, 43, 44, 45, 46, 47, 48, 49, 50, 51, 57, 68, 69, 70, 71, 72, 73, 74] J J' ∧ gr_LN B I' ∧ gr_GR I' ∧ gr_ST I9 I' ∧ (∃ z : Int, r = some (.inl z) ∧ 0 ≤ z ∧ z ≤ 1 ∧ (I' 0 71 = 5 ∨ I' 0 73 ≤ I' 0 69) ∧ (I' 0 72 ≤ I' 0 69) ∧ (I' 0 71 = 0 ∨ (I' 0 72 < I' 0 73 ∧ I' 0 72 < I' 0 69)) ∧ (I' 0 71 = 3 → 2 ≤ I' 0 73 - I' 0 72 ∧ I' 0 73 - I' 0 72 ≤ 14) ∧ (I' 0 72 ≤ I' 0 73) ∧ (I' 0 69 = I 0 69) ∧ (I 0 73 ≤ I' 0 73) ∧ (I 0 72 ≤ I' 0 72) ∧ (I' 0 59 - I' 0 72 ≤ I 0 59 - I 0 72))))) (49, [(0, .inr (.inr (some 0)))], [], gr_sh ++ ext, gr_h I10 J11) := by
      intro m_23
      obtain ⟨e0_23, e1_23, e2_23, e3_23, e4_23, e5_23, e6_23, e7_23, e8_23, e9_23⟩ := m_23
      have f24 := (show 0 ≤ I10 0 71 ∧ I10 0 71 ≤ 5 from (hI10 0 71).1)
      have f25 := (show 0 ≤ I10 0 72 ∧ I10 0 72 ≤ 1000 from (hI10 0 72).1)
      have f26 := (show 0 ≤ I10 0 73 ∧ I10 0 73 ≤ 1001 from (hI10 0 73).1)
      have f27 := (show 0 ≤ I10 0 69 ∧ I10 0 69 ≤ 1000 from (hI10 0 69).1)
      have f28 := (show (-1) ≤ I10 0 6 ∧ I10 0 6 ≤ 7 from (hI10 0 6).1)
      have f29 := (show 0 ≤ I10 0 59 ∧ I10 0 59 ≤ 2000 from (hI10 0 59).1)
      have f30 := (show 0 ≤ I10 0 118 ∧ I10 0 118 ≤ 6 from (hI10 0 118).1)
      have f31 := (show 0 ≤ I10 0 119 ∧ I10 0 119 ≤ 6 from (hI10 0 119).1)
      have f32 := (show 0 ≤ I10 0 3 ∧ I10 0 3 ≤ 96 from (hI10 0 3).1)
      refine gv_run 2 true hD (pc' := 51) (lv' := [(0, .inr (.inr (some 0)))]) (st' := [.inl 5, .inr (.inr (some 0))]) (h' := gr_h I10 J11) (C := ((True ∧ True) ∧ True)) rfl ⟨⟨trivial, trivial⟩, trivial⟩ ?_
      obtain ⟨r33, h33, E33, P33⟩ := r_no_ (ws0 := ws0) (tb := tb) hws htb ext I10 J11 hI10 5 ⟨by omega, by omega⟩ 
      obtain ⟨I34, J35, rfl, hI34, g33, k33, ⟨z33, rfl, q33⟩⟩ := P33
      have FI34 := gr_frt FI10 g33 rfl rfl
      have FJ35 := gr_fjt FJ11 k33 rfl rfl
      have t36 := g33 0 71 rfl
      have t37 := g33 0 72 rfl
      have t38 := g33 0 73 rfl
      have t39 := g33 0 69 rfl
      have t40 := g33 0 6 rfl
      have t41 := g33 0 59 rfl
      have t42 := g33 0 118 rfl
      have t43 := g33 0 119 rfl
      have t44 := g33 0 3 rfl
      have f45 := (show 0 ≤ I34 0 71 ∧ I34 0 71 ≤ 5 from (hI34 0 71).1)
      have f46 := (show 0 ≤ I34 0 72 ∧ I34 0 72 ≤ 1000 from (hI34 0 72).1)
      have f47 := (show 0 ≤ I34 0 73 ∧ I34 0 73 ≤ 1001 from (hI34 0 73).1)
      have f48 := (show 0 ≤ I34 0 69 ∧ I34 0 69 ≤ 1000 from (hI34 0 69).1)
      have f49 := (show (-1) ≤ I34 0 6 ∧ I34 0 6 ≤ 7 from (hI34 0 6).1)
      have f50 := (show 0 ≤ I34 0 59 ∧ I34 0 59 ≤ 2000 from (hI34 0 59).1)
      have f51 := (show 0 ≤ I34 0 118 ∧ I34 0 118 ≤ 6 from (hI34 0 118).1)
      have f52 := (show 0 ≤ I34 0 119 ∧ I34 0 119 ≤ 6 from (hI34 0 119).1)
      have f53 := (show 0 ≤ I34 0 3 ∧ I34 0 3 ≤ 96 from (hI34 0 3).1)
      have KLN_I34 := gr_LN_fr KLN_I10 (fun k => g33 19 k rfl) (by omega) (by omega)
      have KGR_I34 := gr_GR_fr KGR_I10 (fun k => g33 19 k rfl) (fun k => g33 18 k rfl) (fun k => g33 36 k rfl) (fun k => g33 41 k rfl) (fun k => g33 42 k rfl) (fun k => g33 43 k rfl) (fun k => g33 45 k rfl) (fun k => g33 46 k rfl) (fun k => g33 47 k rfl) (fun k => g33 6 k rfl) (fun k => g33 7 k rfl) (fun k => g33 8 k rfl) (g33 0 3 rfl)
      have KST_I34 := gr_ST_fr KST_I10 (fun k => g33 6 k rfl) (fun k => g33 19 k rfl) (fun k => g33 18 k rfl) (fun k => g33 41 k rfl) (fun k => g33 36 k rfl) (g33 0 3 rfl)
      refine gv_callV hD rfl (As := [.inl 5]) (st := []) rfl (by decide) rfl rfl (gr_lV hws rfl) (Nat.le_of_ble_eq_true rfl) (gz_Ev_mono (d := 2) (by decide) E33) ?_
      show gv_X _ _ (54, [(0, .inr (.inr (some 0)))], [.inl z33], gr_sh ++ ext, gr_h I34 J35)
      exact gv_zret hD rfl (by omega) ⟨I34, J35, rfl, hI34, FI34, FJ35, KLN_I34, KGR_I34, KST_I34, ⟨_, rfl, by omega⟩⟩
    have L70 : ∀ (I54 : gr_I) (J55 : gr_J) (v2_56 : Int) (v3_56 : Int), gr_Inv I54 → gr_fr [59, 71, 72, 73, 74, 75, 76, 77, 101, 106, 118, 119, 120] [19, 41, 42, 43, 44, 45, 46, 47, 48, 49, 50, 51, 57, 68, 69, 70, 71, 72, 73, 74] I I54 → gr_fj [59, 71, 72, 73, 74, 75, 76, 77, 101, 106, 118, 119, 120] [19, 41, 42, 43, 44, 45, 46, 47, 48, 49, 50, 51, 57, 68, 69, 70, 71, 72, 73, 74] J J55 → gr_LN B I54 → gr_GR I54 → gr_ST I9 I54 → ((0 ≤ v1_12 ∧ v1_12 ≤ 7) ∧ (0 ≤ v2_56 ∧ v2_56 ≤ 1000) ∧ (0 ≤ v3_56 ∧ v3_56 ≤ 95) ∧ (I 0 72 + 2 ≤ I54 0 72) ∧ (I54 19 (Int.toNat v1_12) = I 19 (Int.toNat v1_12)) ∧ (v3_56 < I54 0 3) ∧ (I54 0 71 = 5 ∨ I54 0 73 ≤ I54 0 69) ∧ (I54 0 72 ≤ I54 0 69) ∧ (I54 0 71 = 0 ∨ (I54 0 72 < I54 0 73 ∧ I54 0 72 < I54 0 69)) ∧ (I54 0 71 = 3 → 2 ≤ I54 0 73 - I54 0 72 ∧ I54 0 73 - I54 0 72 ≤ 14) ∧ (I54 0 72 ≤ I54 0 73) ∧ (I54 0 69 = I 0 69) ∧ (I 0 73 ≤ I54 0 73) ∧ (I 0 72 ≤ I54 0 72) ∧ (I54 0 6 = I 0 6) ∧ (I54 0 59 - I54 0 72 ≤ I 0 59 - I 0 72)) → gv_X (gr_E ws0 tb 12 (yX13_lin, cX13_lin, 7, (some .boolean)) kX13_lin) (gv_Q cX13_lin (some .boolean) (gr_sh ++ ext) (fun r h' => (∃ (I' : gr_I) (J' : gr_J), h' = gr_h I' J' ∧ gr_Inv I' ∧ gr_fr [59, 71, 72, 73, 74, 75, 76, 77, 101, 106, 118, 119, 120] [19, 41, 42, 43, 44, 45, 46, 47, 48, 49, 50, 51, 57, 68, 69, 70, 71, 72, 73, 74] I I' ∧ gr_fj [59, 71, 72, 73, 74, 75, 76, 77, 101, 106, 118, 119, 120] [19, 41, 42, 43, 44, 45, 46, 47, 48, 49, 50, 51, 57, 68, 69, 70, 71, 72, 73, 74] J J' ∧ gr_LN B I' ∧ gr_GR I' ∧ gr_ST I9 I' ∧ (∃ z : Int, r = some (.inl z) ∧ 0 ≤ z ∧ z ≤ 1 ∧ (I' 0 71 = 5 ∨ I' 0 73 ≤ I' 0 69) ∧ (I' 0 72 ≤ I' 0 69) ∧ (I' 0 71 = 0 ∨ (I' 0 72 < I' 0 73 ∧ I' 0 72 < I' 0 69)) ∧ (I' 0 71 = 3 → 2 ≤ I' 0 73 - I' 0 72 ∧ I' 0 73 - I' 0 72 ≤ 14) ∧ (I' 0 72 ≤ I' 0 73) ∧ (I' 0 69 = I 0 69) ∧ (I 0 73 ≤ I' 0 73) ∧ (I 0 72 ≤ I' 0 72) ∧ (I' 0 59 - I' 0 72 ≤ I 0 59 - I 0 72))))) (70, [(0, .inr (.inr (some 0))), (1, .inl v1_12), (2, .inl v2_56), (3, .inl v3_56)], [], gr_sh ++ ext, gr_h I54 J55) := by
      intro I54 J55 v2_56 v3_56 hI54 FI54 FJ55 KLN_I54 KGR_I54 KST_I54 m_56
      clear hv1_12 e0_12 e1_12 e2_12 e3_12 e4_12 e5_12 e6_12 e7_12 e8_12 e9_12 e10_12 e11_12 f13 f14 f15 f16 f17 f18 f19 f20 f21 t22
      obtain ⟨hv1_12_56, hv2_56, hv3_56, e0_56, e1_56, e2_56, e3_56, e4_56, e5_56, e6_56, e7_56, e8_56, e9_56, e10_56, e11_56, e12_56⟩ := m_56
      have f57 := (show 0 ≤ I54 0 71 ∧ I54 0 71 ≤ 5 from (hI54 0 71).1)
      have f58 := (show 0 ≤ I54 0 72 ∧ I54 0 72 ≤ 1000 from (hI54 0 72).1)
      have f59 := (show 0 ≤ I54 0 73 ∧ I54 0 73 ≤ 1001 from (hI54 0 73).1)
      have f60 := (show 0 ≤ I54 0 69 ∧ I54 0 69 ≤ 1000 from (hI54 0 69).1)
      have f61 := (show (-1) ≤ I54 0 6 ∧ I54 0 6 ≤ 7 from (hI54 0 6).1)
      have f62 := (show 0 ≤ I54 0 59 ∧ I54 0 59 ≤ 2000 from (hI54 0 59).1)
      have f63 := (show 0 ≤ I54 0 118 ∧ I54 0 118 ≤ 6 from (hI54 0 118).1)
      have f64 := (show 0 ≤ I54 0 119 ∧ I54 0 119 ≤ 6 from (hI54 0 119).1)
      have f65 := (show 0 ≤ I54 0 3 ∧ I54 0 3 ≤ 96 from (hI54 0 3).1)
      have t66 := KLN_I (Int.toNat v1_12) (by omega)
      have L83 : ∀ (n : Nat) (I67 : gr_I) (J68 : gr_J) (v4_69 : Int), (5 - v4_69).toNat < n → gr_Inv I67 → gr_fr [59, 71, 72, 73, 74, 75, 76, 77, 101, 106, 118, 119, 120] [19, 41, 42, 43, 44, 45, 46, 47, 48, 49, 50, 51, 57, 68, 69, 70, 71, 72, 73, 74] I I67 → gr_fj [59, 71, 72, 73, 74, 75, 76, 77, 101, 106, 118, 119, 120] [19, 41, 42, 43, 44, 45, 46, 47, 48, 49, 50, 51, 57, 68, 69, 70, 71, 72, 73, 74] J J68 → gr_LN B I67 → gr_GR I67 → gr_ST I9 I67 → ((0 ≤ v1_12 ∧ v1_12 ≤ 7) ∧ (0 ≤ v2_56 ∧ v2_56 ≤ 1000) ∧ (0 ≤ v3_56 ∧ v3_56 ≤ 95) ∧ (0 ≤ v4_69 ∧ v4_69 ≤ 4) ∧ (I 0 72 + 2 ≤ I67 0 72) ∧ (I67 19 (Int.toNat v1_12) = I 19 (Int.toNat v1_12)) ∧ (I67 0 118 = 0) ∧ (I67 0 119 = 0) ∧ (v3_56 < I67 0 3) ∧ (I67 0 71 = 5 ∨ I67 0 73 ≤ I67 0 69) ∧ (I67 0 72 ≤ I67 0 69) ∧ (I67 0 71 = 0 ∨ (I67 0 72 < I67 0 73 ∧ I67 0 72 < I67 0 69)) ∧ (I67 0 71 = 3 → 2 ≤ I67 0 73 - I67 0 72 ∧ I67 0 73 - I67 0 72 ≤ 14) ∧ (I67 0 72 ≤ I67 0 73) ∧ (I67 0 69 = I 0 69) ∧ (I 0 73 ≤ I67 0 73) ∧ (I 0 72 ≤ I67 0 72) ∧ (I67 0 6 = I 0 6) ∧ (I67 0 59 - I67 0 72 ≤ I 0 59 - I 0 72)) → (gr_A1 v4_69 I67) → gv_X (gr_E ws0 tb 12 (yX13_lin, cX13_lin, 7, (some .boolean)) kX13_lin) (gv_Q cX13_lin (some .boolean) (gr_sh ++ ext) (fun r h' => (∃ (I' : gr_I) (J' : gr_J), h' = gr_h I' J' ∧ gr_Inv I' ∧ gr_fr [59, 71, 72, 73, 74, 75, 76, 77, 101, 106, 118, 119, 120] [19, 41, 42, 43, 44, 45, 46, 47, 48, 49, 50, 51, 57, 68, 69, 70, 71, 72, 73, 74] I I' ∧ gr_fj [59, 71, 72, 73, 74, 75, 76, 77, 101, 106, 118, 119, 120] [19, 41, 42, 43, 44, 45, 46, 47, 48, 49, 50, 51, 57, 68, 69, 70, 71, 72, 73, 74] J J' ∧ gr_LN B I' ∧ gr_GR I' ∧ gr_ST I9 I' ∧ (∃ z : Int, r = some (.inl z) ∧ 0 ≤ z ∧ z ≤ 1 ∧ (I' 0 71 = 5 ∨ I' 0 73 ≤ I' 0 69) ∧ (I' 0 72 ≤ I' 0 69) ∧ (I' 0 71 = 0 ∨ (I' 0 72 < I' 0 73 ∧ I' 0 72 < I' 0 69)) ∧ (I' 0 71 = 3 → 2 ≤ I' 0 73 - I' 0 72 ∧ I' 0 73 - I' 0 72 ≤ 14) ∧ (I' 0 72 ≤ I' 0 73) ∧ (I' 0 69 = I 0 69) ∧ (I 0 73 ≤ I' 0 73) ∧ (I 0 72 ≤ I' 0 72) ∧ (I' 0 59 - I' 0 72 ≤ I 0 59 - I 0 72))))) (83, [(0, .inr (.inr (some 0))), (1, .inl v1_12), (2, .inl v2_56), (3, .inl v3_56), (4, .inl v4_69)], [], gr_sh ++ ext, gr_h I67 J68) := by
        intro n
        induction n with
        | zero => intro I67 J68 v4_69 hn; omega
        | succ n ih83 =>
          intro I67 J68 v4_69 hn hI67 FI67 FJ68 KLN_I67 KGR_I67 KST_I67 m_69 e5_69
          clear hv1_12_56 hv2_56 hv3_56 e0_56 e1_56 e2_56 e3_56 e4_56 e5_56 e6_56 e7_56 e8_56 e9_56 e10_56 e11_56 e12_56 f57 f58 f59 f60 f61 f62 f63 f64 f65 t66
          obtain ⟨hv1_12_69, hv2_56_69, hv3_56_69, hv4_69, e0_69, e1_69, e2_69, e3_69, e4_69, e6_69, e7_69, e8_69, e9_69, e10_69, e11_69, e12_69, e13_69, e14_69, e15_69⟩ := m_69
          have f70 := (show 0 ≤ I67 0 71 ∧ I67 0 71 ≤ 5 from (hI67 0 71).1)
          have f71 := (show 0 ≤ I67 0 72 ∧ I67 0 72 ≤ 1000 from (hI67 0 72).1)
          have f72 := (show 0 ≤ I67 0 73 ∧ I67 0 73 ≤ 1001 from (hI67 0 73).1)
          have f73 := (show 0 ≤ I67 0 69 ∧ I67 0 69 ≤ 1000 from (hI67 0 69).1)
          have f74 := (show (-1) ≤ I67 0 6 ∧ I67 0 6 ≤ 7 from (hI67 0 6).1)
          have f75 := (show 0 ≤ I67 0 59 ∧ I67 0 59 ≤ 2000 from (hI67 0 59).1)
          have f76 := (show 0 ≤ I67 0 118 ∧ I67 0 118 ≤ 6 from (hI67 0 118).1)
          have f77 := (show 0 ≤ I67 0 119 ∧ I67 0 119 ≤ 6 from (hI67 0 119).1)
          have f78 := (show 0 ≤ I67 0 3 ∧ I67 0 3 ≤ 96 from (hI67 0 3).1)
          have t79 := KLN_I (Int.toNat v1_12) (by omega)
          have L125 : ∀ (n : Nat) (I80 : gr_I) (J81 : gr_J) , (1001 - I80 0 72).toNat < n → gr_Inv I80 → gr_fr [59, 71, 72, 73, 74, 75, 76, 77, 101, 106, 118, 119, 120] [19, 41, 42, 43, 44, 45, 46, 47, 48, 49, 50, 51, 57, 68, 69, 70, 71, 72, 73, 74] I I80 → gr_fj [59, 71, 72, 73, 74, 75, 76, 77, 101, 106, 118, 119, 120] [19, 41, 42, 43, 44, 45, 46, 47, 48, 49, 50, 51, 57, 68, 69, 70, 71, 72, 73, 74] J J81 → gr_LN B I80 → gr_GR I80 → gr_ST I9 I80 → ((0 ≤ v1_12 ∧ v1_12 ≤ 7) ∧ (0 ≤ v2_56 ∧ v2_56 ≤ 1000) ∧ (0 ≤ v3_56 ∧ v3_56 ≤ 95) ∧ ((I 0 72 + 3 ≤ I80 0 72) ∨ (I 0 72 + 2 ≤ I80 0 72 ∧ (I80 0 71 = 3 ∨ I80 0 71 = 2))) ∧ (I80 19 (Int.toNat v1_12) = I 19 (Int.toNat v1_12)) ∧ (v3_56 < I80 0 3) ∧ (I80 0 71 = 5 ∨ I80 0 73 ≤ I80 0 69) ∧ (I80 0 72 ≤ I80 0 69) ∧ (I80 0 71 = 0 ∨ (I80 0 72 < I80 0 73 ∧ I80 0 72 < I80 0 69)) ∧ (I80 0 71 = 3 → 2 ≤ I80 0 73 - I80 0 72 ∧ I80 0 73 - I80 0 72 ≤ 14) ∧ (I80 0 72 ≤ I80 0 73) ∧ (I80 0 69 = I 0 69) ∧ (I 0 73 ≤ I80 0 73) ∧ (I 0 72 ≤ I80 0 72) ∧ (I80 0 6 = I 0 6) ∧ (I80 0 59 - I80 0 72 ≤ I 0 59 - I 0 72)) → (gr_R1 v3_56 I80) → gv_X (gr_E ws0 tb 12 (yX13_lin, cX13_lin, 7, (some .boolean)) kX13_lin) (gv_Q cX13_lin (some .boolean) (gr_sh ++ ext) (fun r h' => (∃ (I' : gr_I) (J' : gr_J), h' = gr_h I' J' ∧ gr_Inv I' ∧ gr_fr [59, 71, 72, 73, 74, 75, 76, 77, 101, 106, 118, 119, 120] [19, 41, 42, 43, 44, 45, 46, 47, 48, 49, 50, 51, 57, 68, 69, 70, 71, 72, 73, 74] I I' ∧ gr_fj [59, 71, 72, 73, 74, 75, 76, 77, 101, 106, 118, 119, 120] [19, 41, 42, 43, 44, 45, 46, 47, 48, 49, 50, 51, 57, 68, 69, 70, 71, 72, 73, 74] J J' ∧ gr_LN B I' ∧ gr_GR I' ∧ gr_ST I9 I' ∧ (∃ z : Int, r = some (.inl z) ∧ 0 ≤ z ∧ z ≤ 1 ∧ (I' 0 71 = 5 ∨ I' 0 73 ≤ I' 0 69) ∧ (I' 0 72 ≤ I' 0 69) ∧ (I' 0 71 = 0 ∨ (I' 0 72 < I' 0 73 ∧ I' 0 72 < I' 0 69)) ∧ (I' 0 71 = 3 → 2 ≤ I' 0 73 - I' 0 72 ∧ I' 0 73 - I' 0 72 ≤ 14) ∧ (I' 0 72 ≤ I' 0 73) ∧ (I' 0 69 = I 0 69) ∧ (I 0 73 ≤ I' 0 73) ∧ (I 0 72 ≤ I' 0 72) ∧ (I' 0 59 - I' 0 72 ≤ I 0 59 - I 0 72))))) (125, [(0, .inr (.inr (some 0))), (1, .inl v1_12), (2, .inl v2_56), (3, .inl v3_56)], [], gr_sh ++ ext, gr_h I80 J81) := by
            intro n
            induction n with
            | zero => intro I80 J81 hn; omega
            | succ n ih125 =>
              intro I80 J81 hn hI80 FI80 FJ81 KLN_I80 KGR_I80 KST_I80 m_82 e3_82
              clear hv1_12_69 hv2_56_69 hv3_56_69 hv4_69 e0_69 e1_69 e2_69 e3_69 e4_69 e6_69 e7_69 e8_69 e9_69 e10_69 e11_69 e12_69 e13_69 e14_69 e15_69 f70 f71 f72 f73 f74 f75 f76 f77 f78 t79
              obtain ⟨hv1_12_82, hv2_56_82, hv3_56_82, e0_82, e1_82, e2_82, e4_82, e5_82, e6_82, e7_82, e8_82, e9_82, e10_82, e11_82, e12_82, e13_82⟩ := m_82
              have f83 := (show 0 ≤ I80 0 71 ∧ I80 0 71 ≤ 5 from (hI80 0 71).1)
              have f84 := (show 0 ≤ I80 0 72 ∧ I80 0 72 ≤ 1000 from (hI80 0 72).1)
              have f85 := (show 0 ≤ I80 0 73 ∧ I80 0 73 ≤ 1001 from (hI80 0 73).1)
              have f86 := (show 0 ≤ I80 0 69 ∧ I80 0 69 ≤ 1000 from (hI80 0 69).1)
              have f87 := (show (-1) ≤ I80 0 6 ∧ I80 0 6 ≤ 7 from (hI80 0 6).1)
              have f88 := (show 0 ≤ I80 0 59 ∧ I80 0 59 ≤ 2000 from (hI80 0 59).1)
              have f89 := (show 0 ≤ I80 0 118 ∧ I80 0 118 ≤ 6 from (hI80 0 118).1)
              have f90 := (show 0 ≤ I80 0 119 ∧ I80 0 119 ≤ 6 from (hI80 0 119).1)
              have f91 := (show 0 ≤ I80 0 3 ∧ I80 0 3 ≤ 96 from (hI80 0 3).1)
              have t92 := KLN_I (Int.toNat v1_12) (by omega)
              have L141 : ((0 ≤ v1_12 ∧ v1_12 ≤ 7) ∧ (0 ≤ v2_56 ∧ v2_56 ≤ 1000) ∧ (0 ≤ v3_56 ∧ v3_56 ≤ 95) ∧ (I 0 72 + 2 ≤ I80 0 72) ∧ (I80 0 71 = 3 ∨ I80 0 71 = 2) ∧ (I80 19 (Int.toNat v1_12) = I 19 (Int.toNat v1_12)) ∧ (v3_56 < I80 0 3) ∧ (I80 0 71 = 5 ∨ I80 0 73 ≤ I80 0 69) ∧ (I80 0 72 ≤ I80 0 69) ∧ (I80 0 71 = 0 ∨ (I80 0 72 < I80 0 73 ∧ I80 0 72 < I80 0 69)) ∧ (I80 0 71 = 3 → 2 ≤ I80 0 73 - I80 0 72 ∧ I80 0 73 - I80 0 72 ≤ 14) ∧ (I80 0 72 ≤ I80 0 73) ∧ (I80 0 69 = I 0 69) ∧ (I 0 73 ≤ I80 0 73) ∧ (I 0 72 ≤ I80 0 72) ∧ (I80 0 6 = I 0 6) ∧ (I80 0 59 - I80 0 72 ≤ I 0 59 - I 0 72)) → (gr_R1 v3_56 I80) → gv_X (gr_E ws0 tb 12 (yX13_lin, cX13_lin, 7, (some .boolean)) kX13_lin) (gv_Q cX13_lin (some .boolean) (gr_sh ++ ext) (fun r h' => (∃ (I' : gr_I) (J' : gr_J), h' = gr_h I' J' ∧ gr_Inv I' ∧ gr_fr [59, 71, 72, 73, 74, 75, 76, 77, 101, 106, 118, 119, 120] [19, 41, 42, 43, 44, 45, 46, 47, 48, 49, 50, 51, 57, 68, 69, 70, 71, 72, 73, 74] I I' ∧ gr_fj [59, 71, 72, 73, 74, 75, 76, 77, 101, 106, 118, 119, 120] [19, 41, 42, 43, 44, 45, 46, 47, 48, 49, 50, 51, 57, 68, 69, 70, 71, 72, 73, 74] J J' ∧ gr_LN B I' ∧ gr_GR I' ∧ gr_ST I9 I' ∧ (∃ z : Int, r = some (.inl z) ∧ 0 ≤ z ∧ z ≤ 1 ∧ (I' 0 71 = 5 ∨ I' 0 73 ≤ I' 0 69) ∧ (I' 0 72 ≤ I' 0 69) ∧ (I' 0 71 = 0 ∨ (I' 0 72 < I' 0 73 ∧ I' 0 72 < I' 0 69)) ∧ (I' 0 71 = 3 → 2 ≤ I' 0 73 - I' 0 72 ∧ I' 0 73 - I' 0 72 ≤ 14) ∧ (I' 0 72 ≤ I' 0 73) ∧ (I' 0 69 = I 0 69) ∧ (I 0 73 ≤ I' 0 73) ∧ (I 0 72 ≤ I' 0 72) ∧ (I' 0 59 - I' 0 72 ≤ I 0 59 - I 0 72))))) (141, [(0, .inr (.inr (some 0))), (1, .inl v1_12), (2, .inl v2_56), (3, .inl v3_56)], [], gr_sh ++ ext, gr_h I80 J81) := by
                intro m_93 e4_93
                obtain ⟨hv1_12_93, hv2_56_93, hv3_56_93, e0_93, e1_93, e2_93, e3_93, e5_93, e6_93, e7_93, e8_93, e9_93, e10_93, e11_93, e12_93, e13_93, e14_93⟩ := m_93
                have f94 := (show 0 ≤ I80 0 71 ∧ I80 0 71 ≤ 5 from (hI80 0 71).1)
                have f95 := (show 0 ≤ I80 0 72 ∧ I80 0 72 ≤ 1000 from (hI80 0 72).1)
                have f96 := (show 0 ≤ I80 0 73 ∧ I80 0 73 ≤ 1001 from (hI80 0 73).1)
                have f97 := (show 0 ≤ I80 0 69 ∧ I80 0 69 ≤ 1000 from (hI80 0 69).1)
                have f98 := (show (-1) ≤ I80 0 6 ∧ I80 0 6 ≤ 7 from (hI80 0 6).1)
                have f99 := (show 0 ≤ I80 0 59 ∧ I80 0 59 ≤ 2000 from (hI80 0 59).1)
                have f100 := (show 0 ≤ I80 0 118 ∧ I80 0 118 ≤ 6 from (hI80 0 118).1)
                have f101 := (show 0 ≤ I80 0 119 ∧ I80 0 119 ≤ 6 from (hI80 0 119).1)
                have f102 := (show 0 ≤ I80 0 3 ∧ I80 0 3 ≤ 96 from (hI80 0 3).1)
                have t103 := KLN_I (Int.toNat v1_12) (by omega)
                refine gv_run 2 true hD (pc' := 143) (lv' := [(0, .inr (.inr (some 0))), (1, .inl v1_12), (2, .inl v2_56), (3, .inl v3_56)]) (st' := [.inl v3_56, .inr (.inr (some 0))]) (h' := gr_h I80 J81) (C := ((True ∧ True) ∧ True)) rfl ⟨⟨trivial, trivial⟩, trivial⟩ ?_
                obtain ⟨r104, h104, E104, P104⟩ := r_item_w (ws0 := ws0) (tb := tb) hws htb ext I80 J81 hI80 v3_56 ⟨by omega, by omega⟩ (by omega) (by omega) (by omega) (by omega) (by omega) (by omega) (by omega) (by omega) e4_93
                obtain ⟨I105, J106, rfl, hI105, g104, k104, ⟨z104, rfl, q104⟩⟩ := P104
                have FI105 := gr_frt FI80 g104 rfl rfl
                have FJ106 := gr_fjt FJ81 k104 rfl rfl
                have t107 := g104 0 69 rfl
                have t108 := g104 0 6 rfl
                have t109 := g104 0 119 rfl
                have t110 := g104 0 3 rfl
                have t111 := g104 19 (Int.toNat v1_12) rfl
                have f112 := (show 0 ≤ I105 0 71 ∧ I105 0 71 ≤ 5 from (hI105 0 71).1)
                have f113 := (show 0 ≤ I105 0 72 ∧ I105 0 72 ≤ 1000 from (hI105 0 72).1)
                have f114 := (show 0 ≤ I105 0 73 ∧ I105 0 73 ≤ 1001 from (hI105 0 73).1)
                have f115 := (show 0 ≤ I105 0 69 ∧ I105 0 69 ≤ 1000 from (hI105 0 69).1)
                have f116 := (show (-1) ≤ I105 0 6 ∧ I105 0 6 ≤ 7 from (hI105 0 6).1)
                have f117 := (show 0 ≤ I105 0 59 ∧ I105 0 59 ≤ 2000 from (hI105 0 59).1)
                have f118 := (show 0 ≤ I105 0 118 ∧ I105 0 118 ≤ 6 from (hI105 0 118).1)
                have f119 := (show 0 ≤ I105 0 119 ∧ I105 0 119 ≤ 6 from (hI105 0 119).1)
                have f120 := (show 0 ≤ I105 0 3 ∧ I105 0 3 ≤ 96 from (hI105 0 3).1)
                have KLN_I105 := gr_LN_fr KLN_I80 (fun k => g104 19 k rfl) (by omega) (by omega)
                have KGR_I105 := gr_GR_fr KGR_I80 (fun k => g104 19 k rfl) (fun k => g104 18 k rfl) (fun k => g104 36 k rfl) (fun k => g104 41 k rfl) (fun k => g104 42 k rfl) (fun k => g104 43 k rfl) (fun k => g104 45 k rfl) (fun k => g104 46 k rfl) (fun k => g104 47 k rfl) (fun k => g104 6 k rfl) (fun k => g104 7 k rfl) (fun k => g104 8 k rfl) (g104 0 3 rfl)
                have KST_I105 := gr_ST_fr KST_I80 (fun k => g104 6 k rfl) (fun k => g104 19 k rfl) (fun k => g104 18 k rfl) (fun k => g104 41 k rfl) (fun k => g104 36 k rfl) (g104 0 3 rfl)
                have t121 := KLN_I105 (Int.toNat v1_12) (by omega)
                refine gv_callV hD rfl (As := [.inl v3_56]) (st := []) rfl (by decide) rfl rfl (gr_lV hws rfl) (Nat.le_of_ble_eq_true rfl) (gz_Ev_mono (d := 12) (by decide) E104) ?_
                show gv_X _ _ (146, [(0, .inr (.inr (some 0))), (1, .inl v1_12), (2, .inl v2_56), (3, .inl v3_56)], [.inl z104], gr_sh ++ ext, gr_h I105 J106)
                refine gv_if_ne (t := 125) hD rfl rfl ⟨by omega, by omega⟩ (fun c122 => ?_) (fun c122 => ?_)
                · exact ih125 I105 J106 (by omega) hI105 FI105 FJ106 KLN_I105 KGR_I105 KST_I105 (by omega) (gr_o_x q104.2.2.2.2.2.2.2.2.2.2.2.2 (by omega))
                · refine gv_run 1 true hD (pc' := 150) (lv' := [(0, .inr (.inr (some 0))), (1, .inl v1_12), (2, .inl v2_56), (3, .inl v3_56)]) (st' := [.inl 0]) (h' := gr_h I105 J106) (C := (True ∧ True)) rfl ⟨trivial, trivial⟩ ?_
                  exact gv_zret hD rfl (by omega) ⟨I105, J106, rfl, hI105, FI105, FJ106, KLN_I105, KGR_I105, KST_I105, ⟨_, rfl, by omega⟩⟩
              have L151 : ∀ (n : Nat) (I123 : gr_I) (J124 : gr_J) , (1001 - I123 0 72).toNat < n → gr_Inv I123 → gr_fr [59, 71, 72, 73, 74, 75, 76, 77, 101, 106, 118, 119, 120] [19, 41, 42, 43, 44, 45, 46, 47, 48, 49, 50, 51, 57, 68, 69, 70, 71, 72, 73, 74] I I123 → gr_fj [59, 71, 72, 73, 74, 75, 76, 77, 101, 106, 118, 119, 120] [19, 41, 42, 43, 44, 45, 46, 47, 48, 49, 50, 51, 57, 68, 69, 70, 71, 72, 73, 74] J J124 → gr_LN B I123 → gr_GR I123 → gr_ST I9 I123 → ((0 ≤ v1_12 ∧ v1_12 ≤ 7) ∧ (0 ≤ v2_56 ∧ v2_56 ≤ 1000) ∧ (0 ≤ v3_56 ∧ v3_56 ≤ 95) ∧ (I 0 72 + 3 ≤ I123 0 72) ∧ (I123 19 (Int.toNat v1_12) = I 19 (Int.toNat v1_12)) ∧ (v3_56 < I123 0 3) ∧ (I123 0 71 = 5 ∨ I123 0 73 ≤ I123 0 69) ∧ (I123 0 72 ≤ I123 0 69) ∧ (I123 0 71 = 0 ∨ (I123 0 72 < I123 0 73 ∧ I123 0 72 < I123 0 69)) ∧ (I123 0 71 = 3 → 2 ≤ I123 0 73 - I123 0 72 ∧ I123 0 73 - I123 0 72 ≤ 14) ∧ (I123 0 72 ≤ I123 0 73) ∧ (I123 0 69 = I 0 69) ∧ (I 0 73 ≤ I123 0 73) ∧ (I 0 72 ≤ I123 0 72) ∧ (I123 0 6 = I 0 6) ∧ (I123 0 59 - I123 0 72 ≤ I 0 59 - I 0 72)) → (gr_R1 v3_56 I123) → gv_X (gr_E ws0 tb 12 (yX13_lin, cX13_lin, 7, (some .boolean)) kX13_lin) (gv_Q cX13_lin (some .boolean) (gr_sh ++ ext) (fun r h' => (∃ (I' : gr_I) (J' : gr_J), h' = gr_h I' J' ∧ gr_Inv I' ∧ gr_fr [59, 71, 72, 73, 74, 75, 76, 77, 101, 106, 118, 119, 120] [19, 41, 42, 43, 44, 45, 46, 47, 48, 49, 50, 51, 57, 68, 69, 70, 71, 72, 73, 74] I I' ∧ gr_fj [59, 71, 72, 73, 74, 75, 76, 77, 101, 106, 118, 119, 120] [19, 41, 42, 43, 44, 45, 46, 47, 48, 49, 50, 51, 57, 68, 69, 70, 71, 72, 73, 74] J J' ∧ gr_LN B I' ∧ gr_GR I' ∧ gr_ST I9 I' ∧ (∃ z : Int, r = some (.inl z) ∧ 0 ≤ z ∧ z ≤ 1 ∧ (I' 0 71 = 5 ∨ I' 0 73 ≤ I' 0 69) ∧ (I' 0 72 ≤ I' 0 69) ∧ (I' 0 71 = 0 ∨ (I' 0 72 < I' 0 73 ∧ I' 0 72 < I' 0 69)) ∧ (I' 0 71 = 3 → 2 ≤ I' 0 73 - I' 0 72 ∧ I' 0 73 - I' 0 72 ≤ 14) ∧ (I' 0 72 ≤ I' 0 73) ∧ (I' 0 69 = I 0 69) ∧ (I 0 73 ≤ I' 0 73) ∧ (I 0 72 ≤ I' 0 72) ∧ (I' 0 59 - I' 0 72 ≤ I 0 59 - I 0 72))))) (151, [(0, .inr (.inr (some 0))), (1, .inl v1_12), (2, .inl v2_56), (3, .inl v3_56)], [], gr_sh ++ ext, gr_h I123 J124) := by
                intro n
                induction n with
                | zero => intro I123 J124 hn; omega
                | succ n ih151 =>
                  intro I123 J124 hn hI123 FI123 FJ124 KLN_I123 KGR_I123 KST_I123 m_125 e3_125
                  clear hv1_12_82 hv2_56_82 hv3_56_82 e0_82 e1_82 e2_82 e4_82 e5_82 e6_82 e7_82 e8_82 e9_82 e10_82 e11_82 e12_82 e13_82 f83 f84 f85 f86 f87 f88 f89 f90 f91 t92
                  obtain ⟨hv1_12_125, hv2_56_125, hv3_56_125, e0_125, e1_125, e2_125, e4_125, e5_125, e6_125, e7_125, e8_125, e9_125, e10_125, e11_125, e12_125, e13_125⟩ := m_125
                  have f126 := (show 0 ≤ I123 0 71 ∧ I123 0 71 ≤ 5 from (hI123 0 71).1)
                  have f127 := (show 0 ≤ I123 0 72 ∧ I123 0 72 ≤ 1000 from (hI123 0 72).1)
                  have f128 := (show 0 ≤ I123 0 73 ∧ I123 0 73 ≤ 1001 from (hI123 0 73).1)
                  have f129 := (show 0 ≤ I123 0 69 ∧ I123 0 69 ≤ 1000 from (hI123 0 69).1)
                  have f130 := (show (-1) ≤ I123 0 6 ∧ I123 0 6 ≤ 7 from (hI123 0 6).1)
                  have f131 := (show 0 ≤ I123 0 59 ∧ I123 0 59 ≤ 2000 from (hI123 0 59).1)
                  have f132 := (show 0 ≤ I123 0 118 ∧ I123 0 118 ≤ 6 from (hI123 0 118).1)
                  have f133 := (show 0 ≤ I123 0 119 ∧ I123 0 119 ≤ 6 from (hI123 0 119).1)
                  have f134 := (show 0 ≤ I123 0 3 ∧ I123 0 3 ≤ 96 from (hI123 0 3).1)
                  have t135 := KLN_I (Int.toNat v1_12) (by omega)
                  have L183 : ∀ (I136 : gr_I) (J137 : gr_J) , gr_Inv I136 → gr_fr [59, 71, 72, 73, 74, 75, 76, 77, 101, 106, 118, 119, 120] [19, 41, 42, 43, 44, 45, 46, 47, 48, 49, 50, 51, 57, 68, 69, 70, 71, 72, 73, 74] I I136 → gr_fj [59, 71, 72, 73, 74, 75, 76, 77, 101, 106, 118, 119, 120] [19, 41, 42, 43, 44, 45, 46, 47, 48, 49, 50, 51, 57, 68, 69, 70, 71, 72, 73, 74] J J137 → gr_LN B I136 → gr_GR I136 → gr_ST I9 I136 → ((0 ≤ v1_12 ∧ v1_12 ≤ 7) ∧ (0 ≤ v2_56 ∧ v2_56 ≤ 1000) ∧ (0 ≤ v3_56 ∧ v3_56 ≤ 95) ∧ (I 0 72 + 3 ≤ I136 0 72) ∧ (I136 19 (Int.toNat v1_12) = I 19 (Int.toNat v1_12)) ∧ (v3_56 < I136 0 3) ∧ (I136 0 71 = 5 ∨ I136 0 73 ≤ I136 0 69) ∧ (I136 0 72 ≤ I136 0 69) ∧ (I136 0 71 = 0 ∨ (I136 0 72 < I136 0 73 ∧ I136 0 72 < I136 0 69)) ∧ (I136 0 71 = 3 → 2 ≤ I136 0 73 - I136 0 72 ∧ I136 0 73 - I136 0 72 ≤ 14) ∧ (I136 0 72 ≤ I136 0 73) ∧ (I136 0 69 = I 0 69) ∧ (I 0 73 ≤ I136 0 73) ∧ (I 0 72 ≤ I136 0 72) ∧ (I136 0 6 = I 0 6) ∧ (I136 0 59 - I136 0 72 ≤ I 0 59 - I 0 72)) → (gr_R1 v3_56 I136) → gv_X (gr_E ws0 tb 12 (yX13_lin, cX13_lin, 7, (some .boolean)) kX13_lin) (gv_Q cX13_lin (some .boolean) (gr_sh ++ ext) (fun r h' => (∃ (I' : gr_I) (J' : gr_J), h' = gr_h I' J' ∧ gr_Inv I' ∧ gr_fr [59, 71, 72, 73, 74, 75, 76, 77, 101, 106, 118, 119, 120] [19, 41, 42, 43, 44, 45, 46, 47, 48, 49, 50, 51, 57, 68, 69, 70, 71, 72, 73, 74] I I' ∧ gr_fj [59, 71, 72, 73, 74, 75, 76, 77, 101, 106, 118, 119, 120] [19, 41, 42, 43, 44, 45, 46, 47, 48, 49, 50, 51, 57, 68, 69, 70, 71, 72, 73, 74] J J' ∧ gr_LN B I' ∧ gr_GR I' ∧ gr_ST I9 I' ∧ (∃ z : Int, r = some (.inl z) ∧ 0 ≤ z ∧ z ≤ 1 ∧ (I' 0 71 = 5 ∨ I' 0 73 ≤ I' 0 69) ∧ (I' 0 72 ≤ I' 0 69) ∧ (I' 0 71 = 0 ∨ (I' 0 72 < I' 0 73 ∧ I' 0 72 < I' 0 69)) ∧ (I' 0 71 = 3 → 2 ≤ I' 0 73 - I' 0 72 ∧ I' 0 73 - I' 0 72 ≤ 14) ∧ (I' 0 72 ≤ I' 0 73) ∧ (I' 0 69 = I 0 69) ∧ (I 0 73 ≤ I' 0 73) ∧ (I 0 72 ≤ I' 0 72) ∧ (I' 0 59 - I' 0 72 ≤ I 0 59 - I 0 72))))) (183, [(0, .inr (.inr (some 0))), (1, .inl v1_12), (2, .inl v2_56), (3, .inl v3_56)], [], gr_sh ++ ext, gr_h I136 J137) := by
                    intro I136 J137 hI136 FI136 FJ137 KLN_I136 KGR_I136 KST_I136 m_138 e3_138
                    clear hv1_12_125 hv2_56_125 hv3_56_125 e0_125 e1_125 e2_125 e4_125 e5_125 e6_125 e7_125 e8_125 e9_125 e10_125 e11_125 e12_125 e13_125 f126 f127 f128 f129 f130 f131 f132 f133 f134 t135
                    obtain ⟨hv1_12_138, hv2_56_138, hv3_56_138, e0_138, e1_138, e2_138, e4_138, e5_138, e6_138, e7_138, e8_138, e9_138, e10_138, e11_138, e12_138, e13_138⟩ := m_138
                    have f139 := (show 0 ≤ I136 0 71 ∧ I136 0 71 ≤ 5 from (hI136 0 71).1)
                    have f140 := (show 0 ≤ I136 0 72 ∧ I136 0 72 ≤ 1000 from (hI136 0 72).1)
                    have f141 := (show 0 ≤ I136 0 73 ∧ I136 0 73 ≤ 1001 from (hI136 0 73).1)
                    have f142 := (show 0 ≤ I136 0 69 ∧ I136 0 69 ≤ 1000 from (hI136 0 69).1)
                    have f143 := (show (-1) ≤ I136 0 6 ∧ I136 0 6 ≤ 7 from (hI136 0 6).1)
                    have f144 := (show 0 ≤ I136 0 59 ∧ I136 0 59 ≤ 2000 from (hI136 0 59).1)
                    have f145 := (show 0 ≤ I136 0 118 ∧ I136 0 118 ≤ 6 from (hI136 0 118).1)
                    have f146 := (show 0 ≤ I136 0 119 ∧ I136 0 119 ≤ 6 from (hI136 0 119).1)
                    have f147 := (show 0 ≤ I136 0 3 ∧ I136 0 3 ≤ 96 from (hI136 0 3).1)
                    have t148 := KLN_I (Int.toNat v1_12) (by omega)
                    have L261 : ((0 ≤ v1_12 ∧ v1_12 ≤ 7) ∧ (0 ≤ v2_56 ∧ v2_56 ≤ 1000) ∧ (0 ≤ v3_56 ∧ v3_56 ≤ 95) ∧ (I 0 72 + 3 ≤ I136 0 72) ∧ (I136 19 (Int.toNat v1_12) = I 19 (Int.toNat v1_12)) ∧ (v3_56 < I136 0 3) ∧ (I136 0 71 = 5 ∨ I136 0 73 ≤ I136 0 69) ∧ (I136 0 72 ≤ I136 0 69) ∧ (I136 0 71 = 0 ∨ (I136 0 72 < I136 0 73 ∧ I136 0 72 < I136 0 69)) ∧ (I136 0 71 = 3 → 2 ≤ I136 0 73 - I136 0 72 ∧ I136 0 73 - I136 0 72 ≤ 14) ∧ (I136 0 72 ≤ I136 0 73) ∧ (I136 0 69 = I 0 69) ∧ (I 0 73 ≤ I136 0 73) ∧ (I 0 72 ≤ I136 0 72) ∧ (I136 0 6 = I 0 6) ∧ (I136 0 59 - I136 0 72 ≤ I 0 59 - I 0 72)) → (gr_R3 v3_56 0 I136) → gv_X (gr_E ws0 tb 12 (yX13_lin, cX13_lin, 7, (some .boolean)) kX13_lin) (gv_Q cX13_lin (some .boolean) (gr_sh ++ ext) (fun r h' => (∃ (I' : gr_I) (J' : gr_J), h' = gr_h I' J' ∧ gr_Inv I' ∧ gr_fr [59, 71, 72, 73, 74, 75, 76, 77, 101, 106, 118, 119, 120] [19, 41, 42, 43, 44, 45, 46, 47, 48, 49, 50, 51, 57, 68, 69, 70, 71, 72, 73, 74] I I' ∧ gr_fj [59, 71, 72, 73, 74, 75, 76, 77, 101, 106, 118, 119, 120] [19, 41, 42, 43, 44, 45, 46, 47, 48, 49, 50, 51, 57, 68, 69, 70, 71, 72, 73, 74] J J' ∧ gr_LN B I' ∧ gr_GR I' ∧ gr_ST I9 I' ∧ (∃ z : Int, r = some (.inl z) ∧ 0 ≤ z ∧ z ≤ 1 ∧ (I' 0 71 = 5 ∨ I' 0 73 ≤ I' 0 69) ∧ (I' 0 72 ≤ I' 0 69) ∧ (I' 0 71 = 0 ∨ (I' 0 72 < I' 0 73 ∧ I' 0 72 < I' 0 69)) ∧ (I' 0 71 = 3 → 2 ≤ I' 0 73 - I' 0 72 ∧ I' 0 73 - I' 0 72 ≤ 14) ∧ (I' 0 72 ≤ I' 0 73) ∧ (I' 0 69 = I 0 69) ∧ (I 0 73 ≤ I' 0 73) ∧ (I 0 72 ≤ I' 0 72) ∧ (I' 0 59 - I' 0 72 ≤ I 0 59 - I 0 72))))) (261, [(0, .inr (.inr (some 0))), (1, .inl v1_12), (2, .inl v2_56), (3, .inl v3_56)], [], gr_sh ++ ext, gr_h I136 J137) := by
                      intro m_149 e3_149
                      obtain ⟨hv1_12_149, hv2_56_149, hv3_56_149, e0_149, e1_149, e2_149, e4_149, e5_149, e6_149, e7_149, e8_149, e9_149, e10_149, e11_149, e12_149, e13_149⟩ := m_149
                      have f150 := (show 0 ≤ I136 0 71 ∧ I136 0 71 ≤ 5 from (hI136 0 71).1)
                      have f151 := (show 0 ≤ I136 0 72 ∧ I136 0 72 ≤ 1000 from (hI136 0 72).1)
                      have f152 := (show 0 ≤ I136 0 73 ∧ I136 0 73 ≤ 1001 from (hI136 0 73).1)
                      have f153 := (show 0 ≤ I136 0 69 ∧ I136 0 69 ≤ 1000 from (hI136 0 69).1)
                      have f154 := (show (-1) ≤ I136 0 6 ∧ I136 0 6 ≤ 7 from (hI136 0 6).1)
                      have f155 := (show 0 ≤ I136 0 59 ∧ I136 0 59 ≤ 2000 from (hI136 0 59).1)
                      have f156 := (show 0 ≤ I136 0 118 ∧ I136 0 118 ≤ 6 from (hI136 0 118).1)
                      have f157 := (show 0 ≤ I136 0 119 ∧ I136 0 119 ≤ 6 from (hI136 0 119).1)
                      have f158 := (show 0 ≤ I136 0 3 ∧ I136 0 3 ≤ 96 from (hI136 0 3).1)
                      have t159 := KLN_I (Int.toNat v1_12) (by omega)
                      have L264 : ∀ (n : Nat) (v4_160 : Int), (5 - v4_160).toNat < n → ((0 ≤ v1_12 ∧ v1_12 ≤ 7) ∧ (0 ≤ v2_56 ∧ v2_56 ≤ 1000) ∧ (0 ≤ v3_56 ∧ v3_56 ≤ 95) ∧ (0 ≤ v4_160 ∧ v4_160 ≤ 4) ∧ (I136 19 (Int.toNat v1_12) = I 19 (Int.toNat v1_12)) ∧ (v3_56 < I136 0 3) ∧ (I136 0 71 = 5 ∨ I136 0 73 ≤ I136 0 69) ∧ (I136 0 72 ≤ I136 0 69) ∧ (I136 0 71 = 0 ∨ (I136 0 72 < I136 0 73 ∧ I136 0 72 < I136 0 69)) ∧ (I136 0 71 = 3 → 2 ≤ I136 0 73 - I136 0 72 ∧ I136 0 73 - I136 0 72 ≤ 14) ∧ (I136 0 72 ≤ I136 0 73) ∧ (I136 0 69 = I 0 69) ∧ (I 0 73 ≤ I136 0 73) ∧ (I 0 72 ≤ I136 0 72) ∧ (I136 0 6 = I 0 6) ∧ (I136 0 59 - I136 0 72 ≤ I 0 59 - I 0 72)) → (gr_R3 v3_56 v4_160 I136) → gv_X (gr_E ws0 tb 12 (yX13_lin, cX13_lin, 7, (some .boolean)) kX13_lin) (gv_Q cX13_lin (some .boolean) (gr_sh ++ ext) (fun r h' => (∃ (I' : gr_I) (J' : gr_J), h' = gr_h I' J' ∧ gr_Inv I' ∧ gr_fr [59, 71, 72, 73, 74, 75, 76, 77, 101, 106, 118, 119, 120] [19, 41, 42, 43, 44, 45, 46, 47, 48, 49, 50, 51, 57, 68, 69, 70, 71, 72, 73, 74] I I' ∧ gr_fj [59, 71, 72, 73, 74, 75, 76, 77, 101, 106, 118, 119, 120] [19, 41, 42, 43, 44, 45, 46, 47, 48, 49, 50, 51, 57, 68, 69, 70, 71, 72, 73, 74] J J' ∧ gr_LN B I' ∧ gr_GR I' ∧ gr_ST I9 I' ∧ (∃ z : Int, r = some (.inl z) ∧ 0 ≤ z ∧ z ≤ 1 ∧ (I' 0 71 = 5 ∨ I' 0 73 ≤ I' 0 69) ∧ (I' 0 72 ≤ I' 0 69) ∧ (I' 0 71 = 0 ∨ (I' 0 72 < I' 0 73 ∧ I' 0 72 < I' 0 69)) ∧ (I' 0 71 = 3 → 2 ≤ I' 0 73 - I' 0 72 ∧ I' 0 73 - I' 0 72 ≤ 14) ∧ (I' 0 72 ≤ I' 0 73) ∧ (I' 0 69 = I 0 69) ∧ (I 0 73 ≤ I' 0 73) ∧ (I 0 72 ≤ I' 0 72) ∧ (I' 0 59 - I' 0 72 ≤ I 0 59 - I 0 72))))) (264, [(0, .inr (.inr (some 0))), (1, .inl v1_12), (2, .inl v2_56), (3, .inl v3_56), (4, .inl v4_160)], [], gr_sh ++ ext, gr_h I136 J137) := by
                        intro n
                        induction n with
                        | zero => intro v4_160 hn; omega
                        | succ n ih264 =>
                          intro v4_160 hn m_160 e2_160
                          obtain ⟨hv1_12_160, hv2_56_160, hv3_56_160, hv4_160, e0_160, e1_160, e3_160, e4_160, e5_160, e6_160, e7_160, e8_160, e9_160, e10_160, e11_160, e12_160⟩ := m_160
                          have f161 := (show 0 ≤ I136 0 71 ∧ I136 0 71 ≤ 5 from (hI136 0 71).1)
                          have f162 := (show 0 ≤ I136 0 72 ∧ I136 0 72 ≤ 1000 from (hI136 0 72).1)
                          have f163 := (show 0 ≤ I136 0 73 ∧ I136 0 73 ≤ 1001 from (hI136 0 73).1)
                          have f164 := (show 0 ≤ I136 0 69 ∧ I136 0 69 ≤ 1000 from (hI136 0 69).1)
                          have f165 := (show (-1) ≤ I136 0 6 ∧ I136 0 6 ≤ 7 from (hI136 0 6).1)
                          have f166 := (show 0 ≤ I136 0 59 ∧ I136 0 59 ≤ 2000 from (hI136 0 59).1)
                          have f167 := (show 0 ≤ I136 0 118 ∧ I136 0 118 ≤ 6 from (hI136 0 118).1)
                          have f168 := (show 0 ≤ I136 0 119 ∧ I136 0 119 ≤ 6 from (hI136 0 119).1)
                          have f169 := (show 0 ≤ I136 0 3 ∧ I136 0 3 ≤ 96 from (hI136 0 3).1)
                          have t170 := KLN_I (Int.toNat v1_12) (by omega)
                          have L305 : ∀ (n : Nat) (v4_171 : Int) (v5_171 : Int), (385 - v5_171).toNat < n → ((0 ≤ v1_12 ∧ v1_12 ≤ 7) ∧ (0 ≤ v3_56 ∧ v3_56 ≤ 95) ∧ (0 ≤ v4_171 ∧ v4_171 ≤ 384) ∧ (0 ≤ v5_171 ∧ v5_171 ≤ 384) ∧ (v4_171 ≤ v5_171) ∧ (I136 19 (Int.toNat v1_12) = I 19 (Int.toNat v1_12)) ∧ (v3_56 < I136 0 3) ∧ (I136 0 71 = 5 ∨ I136 0 73 ≤ I136 0 69) ∧ (I136 0 72 ≤ I136 0 69) ∧ (I136 0 71 = 0 ∨ (I136 0 72 < I136 0 73 ∧ I136 0 72 < I136 0 69)) ∧ (I136 0 71 = 3 → 2 ≤ I136 0 73 - I136 0 72 ∧ I136 0 73 - I136 0 72 ≤ 14) ∧ (I136 0 72 ≤ I136 0 73) ∧ (I136 0 69 = I 0 69) ∧ (I 0 73 ≤ I136 0 73) ∧ (I 0 72 ≤ I136 0 72) ∧ (I136 0 6 = I 0 6) ∧ (I136 0 59 - I136 0 72 ≤ I 0 59 - I 0 72)) → (gr_LI v3_56 I136) → gv_X (gr_E ws0 tb 12 (yX13_lin, cX13_lin, 7, (some .boolean)) kX13_lin) (gv_Q cX13_lin (some .boolean) (gr_sh ++ ext) (fun r h' => (∃ (I' : gr_I) (J' : gr_J), h' = gr_h I' J' ∧ gr_Inv I' ∧ gr_fr [59, 71, 72, 73, 74, 75, 76, 77, 101, 106, 118, 119, 120] [19, 41, 42, 43, 44, 45, 46, 47, 48, 49, 50, 51, 57, 68, 69, 70, 71, 72, 73, 74] I I' ∧ gr_fj [59, 71, 72, 73, 74, 75, 76, 77, 101, 106, 118, 119, 120] [19, 41, 42, 43, 44, 45, 46, 47, 48, 49, 50, 51, 57, 68, 69, 70, 71, 72, 73, 74] J J' ∧ gr_LN B I' ∧ gr_GR I' ∧ gr_ST I9 I' ∧ (∃ z : Int, r = some (.inl z) ∧ 0 ≤ z ∧ z ≤ 1 ∧ (I' 0 71 = 5 ∨ I' 0 73 ≤ I' 0 69) ∧ (I' 0 72 ≤ I' 0 69) ∧ (I' 0 71 = 0 ∨ (I' 0 72 < I' 0 73 ∧ I' 0 72 < I' 0 69)) ∧ (I' 0 71 = 3 → 2 ≤ I' 0 73 - I' 0 72 ∧ I' 0 73 - I' 0 72 ≤ 14) ∧ (I' 0 72 ≤ I' 0 73) ∧ (I' 0 69 = I 0 69) ∧ (I 0 73 ≤ I' 0 73) ∧ (I 0 72 ≤ I' 0 72) ∧ (I' 0 59 - I' 0 72 ≤ I 0 59 - I 0 72))))) (305, [(0, .inr (.inr (some 0))), (1, .inl v1_12), (3, .inl v3_56), (4, .inl v4_171), (5, .inl v5_171)], [], gr_sh ++ ext, gr_h I136 J137) := by
                            intro n
                            induction n with
                            | zero => intro v4_171 v5_171 hn; omega
                            | succ n ih305 =>
                              intro v4_171 v5_171 hn m_171 e3_171
                              obtain ⟨hv1_12_171, hv3_56_171, hv4_171, hv5_171, e0_171, e1_171, e2_171, e4_171, e5_171, e6_171, e7_171, e8_171, e9_171, e10_171, e11_171, e12_171, e13_171⟩ := m_171
                              have f172 := (show 0 ≤ I136 0 71 ∧ I136 0 71 ≤ 5 from (hI136 0 71).1)
                              have f173 := (show 0 ≤ I136 0 72 ∧ I136 0 72 ≤ 1000 from (hI136 0 72).1)
                              have f174 := (show 0 ≤ I136 0 73 ∧ I136 0 73 ≤ 1001 from (hI136 0 73).1)
                              have f175 := (show 0 ≤ I136 0 69 ∧ I136 0 69 ≤ 1000 from (hI136 0 69).1)
                              have f176 := (show (-1) ≤ I136 0 6 ∧ I136 0 6 ≤ 7 from (hI136 0 6).1)
                              have f177 := (show 0 ≤ I136 0 59 ∧ I136 0 59 ≤ 2000 from (hI136 0 59).1)
                              have f178 := (show 0 ≤ I136 0 118 ∧ I136 0 118 ≤ 6 from (hI136 0 118).1)
                              have f179 := (show 0 ≤ I136 0 119 ∧ I136 0 119 ≤ 6 from (hI136 0 119).1)
                              have f180 := (show 0 ≤ I136 0 3 ∧ I136 0 3 ≤ 96 from (hI136 0 3).1)
                              have t181 := KLN_I (Int.toNat v1_12) (by omega)
                              have L336 : ∀ (v4_182 : Int), ((0 ≤ v1_12 ∧ v1_12 ≤ 7) ∧ (0 ≤ v3_56 ∧ v3_56 ≤ 95) ∧ (0 ≤ v4_182 ∧ v4_182 ≤ 385) ∧ (0 ≤ v5_171 ∧ v5_171 ≤ 383) ∧ (v4_182 ≤ v5_171 + 1) ∧ (I136 19 (Int.toNat v1_12) = I 19 (Int.toNat v1_12)) ∧ (v3_56 < I136 0 3) ∧ (I136 0 71 = 5 ∨ I136 0 73 ≤ I136 0 69) ∧ (I136 0 72 ≤ I136 0 69) ∧ (I136 0 71 = 0 ∨ (I136 0 72 < I136 0 73 ∧ I136 0 72 < I136 0 69)) ∧ (I136 0 71 = 3 → 2 ≤ I136 0 73 - I136 0 72 ∧ I136 0 73 - I136 0 72 ≤ 14) ∧ (I136 0 72 ≤ I136 0 73) ∧ (I136 0 69 = I 0 69) ∧ (I 0 73 ≤ I136 0 73) ∧ (I 0 72 ≤ I136 0 72) ∧ (I136 0 6 = I 0 6) ∧ (I136 0 59 - I136 0 72 ≤ I 0 59 - I 0 72)) → (gr_LI v3_56 I136) → gv_X (gr_E ws0 tb 12 (yX13_lin, cX13_lin, 7, (some .boolean)) kX13_lin) (gv_Q cX13_lin (some .boolean) (gr_sh ++ ext) (fun r h' => (∃ (I' : gr_I) (J' : gr_J), h' = gr_h I' J' ∧ gr_Inv I' ∧ gr_fr [59, 71, 72, 73, 74, 75, 76, 77, 101, 106, 118, 119, 120] [19, 41, 42, 43, 44, 45, 46, 47, 48, 49, 50, 51, 57, 68, 69, 70, 71, 72, 73, 74] I I' ∧ gr_fj [59, 71, 72, 73, 74, 75, 76, 77, 101, 106, 118, 119, 120] [19, 41, 42, 43, 44, 45, 46, 47, 48, 49, 50, 51, 57, 68, 69, 70, 71, 72, 73, 74] J J' ∧ gr_LN B I' ∧ gr_GR I' ∧ gr_ST I9 I' ∧ (∃ z : Int, r = some (.inl z) ∧ 0 ≤ z ∧ z ≤ 1 ∧ (I' 0 71 = 5 ∨ I' 0 73 ≤ I' 0 69) ∧ (I' 0 72 ≤ I' 0 69) ∧ (I' 0 71 = 0 ∨ (I' 0 72 < I' 0 73 ∧ I' 0 72 < I' 0 69)) ∧ (I' 0 71 = 3 → 2 ≤ I' 0 73 - I' 0 72 ∧ I' 0 73 - I' 0 72 ≤ 14) ∧ (I' 0 72 ≤ I' 0 73) ∧ (I' 0 69 = I 0 69) ∧ (I 0 73 ≤ I' 0 73) ∧ (I 0 72 ≤ I' 0 72) ∧ (I' 0 59 - I' 0 72 ≤ I 0 59 - I 0 72))))) (336, [(0, .inr (.inr (some 0))), (1, .inl v1_12), (3, .inl v3_56), (4, .inl v4_182), (5, .inl v5_171)], [], gr_sh ++ ext, gr_h I136 J137) := by
                                intro v4_182 m_182 e3_182
                                obtain ⟨hv1_12_182, hv3_56_182, hv4_182, hv5_171_182, e0_182, e1_182, e2_182, e4_182, e5_182, e6_182, e7_182, e8_182, e9_182, e10_182, e11_182, e12_182, e13_182⟩ := m_182
                                have f183 := (show 0 ≤ I136 0 71 ∧ I136 0 71 ≤ 5 from (hI136 0 71).1)
                                have f184 := (show 0 ≤ I136 0 72 ∧ I136 0 72 ≤ 1000 from (hI136 0 72).1)
                                have f185 := (show 0 ≤ I136 0 73 ∧ I136 0 73 ≤ 1001 from (hI136 0 73).1)
                                have f186 := (show 0 ≤ I136 0 69 ∧ I136 0 69 ≤ 1000 from (hI136 0 69).1)
                                have f187 := (show (-1) ≤ I136 0 6 ∧ I136 0 6 ≤ 7 from (hI136 0 6).1)
                                have f188 := (show 0 ≤ I136 0 59 ∧ I136 0 59 ≤ 2000 from (hI136 0 59).1)
                                have f189 := (show 0 ≤ I136 0 118 ∧ I136 0 118 ≤ 6 from (hI136 0 118).1)
                                have f190 := (show 0 ≤ I136 0 119 ∧ I136 0 119 ≤ 6 from (hI136 0 119).1)
                                have f191 := (show 0 ≤ I136 0 3 ∧ I136 0 3 ≤ 96 from (hI136 0 3).1)
                                have t192 := KLN_I (Int.toNat v1_12) (by omega)
                                refine gv_run 2 true hD (pc' := 305) (lv' := [(5, .inl (v5_171 + 1)), (0, .inr (.inr (some 0))), (1, .inl v1_12), (3, .inl v3_56), (4, .inl v4_182)]) (st' := []) (h' := gr_h I136 J137) (C := ((True ∧ True) ∧ True)) rfl ⟨⟨trivial, trivial⟩, trivial⟩ ?_
                                refine gv_pick [1, 2, 3, 4, 0] rfl ?_
                                exact ih305 v4_182 (v5_171 + 1) (by omega) (by omega) e3_182
                              have L354 : ∀ (s1_193 : Int), ((0 ≤ v1_12 ∧ v1_12 ≤ 7) ∧ (0 ≤ v3_56 ∧ v3_56 ≤ 95) ∧ (0 ≤ s1_193 ∧ s1_193 ≤ 1) ∧ (I 0 72 + 3 ≤ I136 0 72) ∧ (I136 19 (Int.toNat v1_12) = I 19 (Int.toNat v1_12)) ∧ (v3_56 < I136 0 3) ∧ (I136 0 71 = 5 ∨ I136 0 73 ≤ I136 0 69) ∧ (I136 0 72 ≤ I136 0 69) ∧ (I136 0 71 = 0 ∨ (I136 0 72 < I136 0 73 ∧ I136 0 72 < I136 0 69)) ∧ (I136 0 71 = 3 → 2 ≤ I136 0 73 - I136 0 72 ∧ I136 0 73 - I136 0 72 ≤ 14) ∧ (I136 0 72 ≤ I136 0 73) ∧ (I136 0 69 = I 0 69) ∧ (I 0 73 ≤ I136 0 73) ∧ (I 0 72 ≤ I136 0 72) ∧ (I136 0 6 = I 0 6) ∧ (I136 0 59 - I136 0 72 ≤ I 0 59 - I 0 72)) → (gr_LI v3_56 I136) → gv_X (gr_E ws0 tb 12 (yX13_lin, cX13_lin, 7, (some .boolean)) kX13_lin) (gv_Q cX13_lin (some .boolean) (gr_sh ++ ext) (fun r h' => (∃ (I' : gr_I) (J' : gr_J), h' = gr_h I' J' ∧ gr_Inv I' ∧ gr_fr [59, 71, 72, 73, 74, 75, 76, 77, 101, 106, 118, 119, 120] [19, 41, 42, 43, 44, 45, 46, 47, 48, 49, 50, 51, 57, 68, 69, 70, 71, 72, 73, 74] I I' ∧ gr_fj [59, 71, 72, 73, 74, 75, 76, 77, 101, 106, 118, 119, 120] [19, 41, 42, 43, 44, 45, 46, 47, 48, 49, 50, 51, 57, 68, 69, 70, 71, 72, 73, 74] J J' ∧ gr_LN B I' ∧ gr_GR I' ∧ gr_ST I9 I' ∧ (∃ z : Int, r = some (.inl z) ∧ 0 ≤ z ∧ z ≤ 1 ∧ (I' 0 71 = 5 ∨ I' 0 73 ≤ I' 0 69) ∧ (I' 0 72 ≤ I' 0 69) ∧ (I' 0 71 = 0 ∨ (I' 0 72 < I' 0 73 ∧ I' 0 72 < I' 0 69)) ∧ (I' 0 71 = 3 → 2 ≤ I' 0 73 - I' 0 72 ∧ I' 0 73 - I' 0 72 ≤ 14) ∧ (I' 0 72 ≤ I' 0 73) ∧ (I' 0 69 = I 0 69) ∧ (I 0 73 ≤ I' 0 73) ∧ (I 0 72 ≤ I' 0 72) ∧ (I' 0 59 - I' 0 72 ≤ I 0 59 - I 0 72))))) (354, [(0, .inr (.inr (some 0))), (1, .inl v1_12), (3, .inl v3_56)], [.inl s1_193, .inr (.inr (some 0))], gr_sh ++ ext, gr_h I136 J137) := by
                                intro s1_193 m_193 e3_193
                                obtain ⟨hv1_12_193, hv3_56_193, hs1_193, e0_193, e1_193, e2_193, e4_193, e5_193, e6_193, e7_193, e8_193, e9_193, e10_193, e11_193, e12_193, e13_193⟩ := m_193
                                have f194 := (show 0 ≤ I136 0 71 ∧ I136 0 71 ≤ 5 from (hI136 0 71).1)
                                have f195 := (show 0 ≤ I136 0 72 ∧ I136 0 72 ≤ 1000 from (hI136 0 72).1)
                                have f196 := (show 0 ≤ I136 0 73 ∧ I136 0 73 ≤ 1001 from (hI136 0 73).1)
                                have f197 := (show 0 ≤ I136 0 69 ∧ I136 0 69 ≤ 1000 from (hI136 0 69).1)
                                have f198 := (show (-1) ≤ I136 0 6 ∧ I136 0 6 ≤ 7 from (hI136 0 6).1)
                                have f199 := (show 0 ≤ I136 0 59 ∧ I136 0 59 ≤ 2000 from (hI136 0 59).1)
                                have f200 := (show 0 ≤ I136 0 118 ∧ I136 0 118 ≤ 6 from (hI136 0 118).1)
                                have f201 := (show 0 ≤ I136 0 119 ∧ I136 0 119 ≤ 6 from (hI136 0 119).1)
                                have f202 := (show 0 ≤ I136 0 3 ∧ I136 0 3 ≤ 96 from (hI136 0 3).1)
                                have t203 := KLN_I (Int.toNat v1_12) (by omega)
                                have L425 : ∀ (n : Nat) (I204 : gr_I) (J205 : gr_J) (v5_206 : Int) (v6_206 : Int), (7 - v6_206).toNat < n → gr_Inv I204 → gr_fr [59, 71, 72, 73, 74, 75, 76, 77, 101, 106, 118, 119, 120] [19, 41, 42, 43, 44, 45, 46, 47, 48, 49, 50, 51, 57, 68, 69, 70, 71, 72, 73, 74] I I204 → gr_fj [59, 71, 72, 73, 74, 75, 76, 77, 101, 106, 118, 119, 120] [19, 41, 42, 43, 44, 45, 46, 47, 48, 49, 50, 51, 57, 68, 69, 70, 71, 72, 73, 74] J J205 → gr_LN B I204 → ((0 ≤ v3_56 ∧ v3_56 ≤ 95) ∧ (0 ≤ v5_206 ∧ v5_206 ≤ 3071) ∧ (0 ≤ v6_206 ∧ v6_206 ≤ 6) ∧ (I204 0 71 = 5 ∨ I204 0 73 ≤ I204 0 69) ∧ (I204 0 72 ≤ I204 0 69) ∧ (I204 0 71 = 0 ∨ (I204 0 72 < I204 0 73 ∧ I204 0 72 < I204 0 69)) ∧ (I204 0 71 = 3 → 2 ≤ I204 0 73 - I204 0 72 ∧ I204 0 73 - I204 0 72 ≤ 14) ∧ (I204 0 72 ≤ I204 0 73) ∧ (I204 0 69 = I 0 69) ∧ (I 0 73 ≤ I204 0 73) ∧ (I 0 72 ≤ I204 0 72) ∧ (I204 0 6 = I 0 6) ∧ (I204 0 59 - I204 0 72 ≤ I 0 59 - I 0 72)) → (gr_Q1 I9 v3_56 v5_206 v6_206 I204) → gv_X (gr_E ws0 tb 12 (yX13_lin, cX13_lin, 7, (some .boolean)) kX13_lin) (gv_Q cX13_lin (some .boolean) (gr_sh ++ ext) (fun r h' => (∃ (I' : gr_I) (J' : gr_J), h' = gr_h I' J' ∧ gr_Inv I' ∧ gr_fr [59, 71, 72, 73, 74, 75, 76, 77, 101, 106, 118, 119, 120] [19, 41, 42, 43, 44, 45, 46, 47, 48, 49, 50, 51, 57, 68, 69, 70, 71, 72, 73, 74] I I' ∧ gr_fj [59, 71, 72, 73, 74, 75, 76, 77, 101, 106, 118, 119, 120] [19, 41, 42, 43, 44, 45, 46, 47, 48, 49, 50, 51, 57, 68, 69, 70, 71, 72, 73, 74] J J' ∧ gr_LN B I' ∧ gr_GR I' ∧ gr_ST I9 I' ∧ (∃ z : Int, r = some (.inl z) ∧ 0 ≤ z ∧ z ≤ 1 ∧ (I' 0 71 = 5 ∨ I' 0 73 ≤ I' 0 69) ∧ (I' 0 72 ≤ I' 0 69) ∧ (I' 0 71 = 0 ∨ (I' 0 72 < I' 0 73 ∧ I' 0 72 < I' 0 69)) ∧ (I' 0 71 = 3 → 2 ≤ I' 0 73 - I' 0 72 ∧ I' 0 73 - I' 0 72 ≤ 14) ∧ (I' 0 72 ≤ I' 0 73) ∧ (I' 0 69 = I 0 69) ∧ (I 0 73 ≤ I' 0 73) ∧ (I 0 72 ≤ I' 0 72) ∧ (I' 0 59 - I' 0 72 ≤ I 0 59 - I 0 72))))) (425, [(0, .inr (.inr (some 0))), (3, .inl v3_56), (5, .inl v5_206), (6, .inl v6_206)], [], gr_sh ++ ext, gr_h I204 J205) := by
                                  intro n
                                  induction n with
                                  | zero => intro I204 J205 v5_206 v6_206 hn; omega
                                  | succ n ih425 =>
                                    intro I204 J205 v5_206 v6_206 hn hI204 FI204 FJ205 KLN_I204 m_206 e0_206
                                    clear hv1_12_193 hv3_56_193 hs1_193 e0_193 e1_193 e2_193 e4_193 e5_193 e6_193 e7_193 e8_193 e9_193 e10_193 e11_193 e12_193 e13_193 f194 f195 f196 f197 f198 f199 f200 f201 f202 t203 hv1_12_171 hv3_56_171 hv4_171 hv5_171 e0_171 e1_171 e2_171 e4_171 e5_171 e6_171 e7_171 e8_171 e9_171 e10_171 e11_171 e12_171 e13_171 f172 f173 f174 f175 f176 f177 f178 f179 f180 t181 hv1_12_160 hv2_56_160 hv3_56_160 hv4_160 e0_160 e1_160 e3_160 e4_160 e5_160 e6_160 e7_160 e8_160 e9_160 e10_160 e11_160 e12_160 f161 f162 f163 f164 f165 f166 f167 f168 f169 t170 hv1_12_149 hv2_56_149 hv3_56_149 e0_149 e1_149 e2_149 e4_149 e5_149 e6_149 e7_149 e8_149 e9_149 e10_149 e11_149 e12_149 e13_149 f150 f151 f152 f153 f154 f155 f156 f157 f158 t159 hv1_12_138 hv2_56_138 hv3_56_138 e0_138 e1_138 e2_138 e4_138 e5_138 e6_138 e7_138 e8_138 e9_138 e10_138 e11_138 e12_138 e13_138 f139 f140 f141 f142 f143 f144 f145 f146 f147 t148
                                    obtain ⟨hv3_56_206, hv5_206, hv6_206, e1_206, e2_206, e3_206, e4_206, e5_206, e6_206, e7_206, e8_206, e9_206, e10_206⟩ := m_206
                                    have f207 := (show 0 ≤ I204 0 71 ∧ I204 0 71 ≤ 5 from (hI204 0 71).1)
                                    have f208 := (show 0 ≤ I204 0 72 ∧ I204 0 72 ≤ 1000 from (hI204 0 72).1)
                                    have f209 := (show 0 ≤ I204 0 73 ∧ I204 0 73 ≤ 1001 from (hI204 0 73).1)
                                    have f210 := (show 0 ≤ I204 0 69 ∧ I204 0 69 ≤ 1000 from (hI204 0 69).1)
                                    have f211 := (show (-1) ≤ I204 0 6 ∧ I204 0 6 ≤ 7 from (hI204 0 6).1)
                                    have f212 := (show 0 ≤ I204 0 59 ∧ I204 0 59 ≤ 2000 from (hI204 0 59).1)
                                    have f213 := (show 0 ≤ I204 0 118 ∧ I204 0 118 ≤ 6 from (hI204 0 118).1)
                                    have f214 := (show 0 ≤ I204 0 119 ∧ I204 0 119 ≤ 6 from (hI204 0 119).1)
                                    have f215 := (show 0 ≤ I204 0 3 ∧ I204 0 3 ≤ 96 from (hI204 0 3).1)
                                    have L483 : ∀ (n : Nat) (I216 : gr_I) (J217 : gr_J) (v6_218 : Int), (7 - v6_218).toNat < n → gr_Inv I216 → gr_fr [59, 71, 72, 73, 74, 75, 76, 77, 101, 106, 118, 119, 120] [19, 41, 42, 43, 44, 45, 46, 47, 48, 49, 50, 51, 57, 68, 69, 70, 71, 72, 73, 74] I I216 → gr_fj [59, 71, 72, 73, 74, 75, 76, 77, 101, 106, 118, 119, 120] [19, 41, 42, 43, 44, 45, 46, 47, 48, 49, 50, 51, 57, 68, 69, 70, 71, 72, 73, 74] J J217 → gr_LN B I216 → ((0 ≤ v3_56 ∧ v3_56 ≤ 95) ∧ (0 ≤ v5_206 ∧ v5_206 ≤ 3071) ∧ (0 ≤ v6_218 ∧ v6_218 ≤ 6) ∧ (I216 0 71 = 5 ∨ I216 0 73 ≤ I216 0 69) ∧ (I216 0 72 ≤ I216 0 69) ∧ (I216 0 71 = 0 ∨ (I216 0 72 < I216 0 73 ∧ I216 0 72 < I216 0 69)) ∧ (I216 0 71 = 3 → 2 ≤ I216 0 73 - I216 0 72 ∧ I216 0 73 - I216 0 72 ≤ 14) ∧ (I216 0 72 ≤ I216 0 73) ∧ (I216 0 69 = I 0 69) ∧ (I 0 73 ≤ I216 0 73) ∧ (I 0 72 ≤ I216 0 72) ∧ (I216 0 6 = I 0 6) ∧ (I216 0 59 - I216 0 72 ≤ I 0 59 - I 0 72)) → (gr_Q2 I9 v3_56 v5_206 v6_218 I216) → gv_X (gr_E ws0 tb 12 (yX13_lin, cX13_lin, 7, (some .boolean)) kX13_lin) (gv_Q cX13_lin (some .boolean) (gr_sh ++ ext) (fun r h' => (∃ (I' : gr_I) (J' : gr_J), h' = gr_h I' J' ∧ gr_Inv I' ∧ gr_fr [59, 71, 72, 73, 74, 75, 76, 77, 101, 106, 118, 119, 120] [19, 41, 42, 43, 44, 45, 46, 47, 48, 49, 50, 51, 57, 68, 69, 70, 71, 72, 73, 74] I I' ∧ gr_fj [59, 71, 72, 73, 74, 75, 76, 77, 101, 106, 118, 119, 120] [19, 41, 42, 43, 44, 45, 46, 47, 48, 49, 50, 51, 57, 68, 69, 70, 71, 72, 73, 74] J J' ∧ gr_LN B I' ∧ gr_GR I' ∧ gr_ST I9 I' ∧ (∃ z : Int, r = some (.inl z) ∧ 0 ≤ z ∧ z ≤ 1 ∧ (I' 0 71 = 5 ∨ I' 0 73 ≤ I' 0 69) ∧ (I' 0 72 ≤ I' 0 69) ∧ (I' 0 71 = 0 ∨ (I' 0 72 < I' 0 73 ∧ I' 0 72 < I' 0 69)) ∧ (I' 0 71 = 3 → 2 ≤ I' 0 73 - I' 0 72 ∧ I' 0 73 - I' 0 72 ≤ 14) ∧ (I' 0 72 ≤ I' 0 73) ∧ (I' 0 69 = I 0 69) ∧ (I 0 73 ≤ I' 0 73) ∧ (I 0 72 ≤ I' 0 72) ∧ (I' 0 59 - I' 0 72 ≤ I 0 59 - I 0 72))))) (483, [(0, .inr (.inr (some 0))), (3, .inl v3_56), (5, .inl v5_206), (6, .inl v6_218)], [], gr_sh ++ ext, gr_h I216 J217) := by
                                      intro n
                                      induction n with
                                      | zero => intro I216 J217 v6_218 hn; omega
                                      | succ n ih483 =>
                                        intro I216 J217 v6_218 hn hI216 FI216 FJ217 KLN_I216 m_218 e0_218
                                        clear hv3_56_206 hv5_206 hv6_206 e1_206 e2_206 e3_206 e4_206 e5_206 e6_206 e7_206 e8_206 e9_206 e10_206 f207 f208 f209 f210 f211 f212 f213 f214 f215
                                        obtain ⟨hv3_56_218, hv5_206_218, hv6_218, e1_218, e2_218, e3_218, e4_218, e5_218, e6_218, e7_218, e8_218, e9_218, e10_218⟩ := m_218
                                        have f219 := (show 0 ≤ I216 0 71 ∧ I216 0 71 ≤ 5 from (hI216 0 71).1)
                                        have f220 := (show 0 ≤ I216 0 72 ∧ I216 0 72 ≤ 1000 from (hI216 0 72).1)
                                        have f221 := (show 0 ≤ I216 0 73 ∧ I216 0 73 ≤ 1001 from (hI216 0 73).1)
                                        have f222 := (show 0 ≤ I216 0 69 ∧ I216 0 69 ≤ 1000 from (hI216 0 69).1)
                                        have f223 := (show (-1) ≤ I216 0 6 ∧ I216 0 6 ≤ 7 from (hI216 0 6).1)
                                        have f224 := (show 0 ≤ I216 0 59 ∧ I216 0 59 ≤ 2000 from (hI216 0 59).1)
                                        have f225 := (show 0 ≤ I216 0 118 ∧ I216 0 118 ≤ 6 from (hI216 0 118).1)
                                        have f226 := (show 0 ≤ I216 0 119 ∧ I216 0 119 ≤ 6 from (hI216 0 119).1)
                                        have f227 := (show 0 ≤ I216 0 3 ∧ I216 0 3 ≤ 96 from (hI216 0 3).1)
                                        have f228 := (show 0 ≤ I216 0 119 ∧ I216 0 119 ≤ 6 from (hI216 0 119).1)
                                        refine gv_run 3 true hD (pc' := 489) (lv' := [(0, .inr (.inr (some 0))), (3, .inl v3_56), (5, .inl v5_206), (6, .inl v6_218)]) (st' := [.inl (I216 0 119), .inl v6_218]) (h' := gr_h I216 J217) (C := (((True ∧ True) ∧ True) ∧ True)) rfl ⟨⟨⟨trivial, trivial⟩, trivial⟩, trivial⟩ ?_
                                        refine gv_icmp_ge (t := 578) hD rfl rfl ⟨⟨by omega, by omega⟩, ⟨by omega, by omega⟩⟩ (fun c229 => ?_) (fun c229 => ?_)
                                        · refine gv_run 1 true hD (pc' := 579) (lv' := [(0, .inr (.inr (some 0))), (3, .inl v3_56), (5, .inl v5_206), (6, .inl v6_218)]) (st' := [.inl 1]) (h' := gr_h I216 J217) (C := (True ∧ True)) rfl ⟨trivial, trivial⟩ ?_
                                          exact gv_zret hD rfl (by omega) ⟨I216, J217, rfl, hI216, FI216, FJ217, KLN_I216, (gr_GR_end e0_218 (by omega) hI216), e0_218.1.2.1, ⟨_, rfl, by omega⟩⟩
                                        · refine gv_run 7 true hD (pc' := 504) (lv' := [(0, .inr (.inr (some 0))), (3, .inl v3_56), (5, .inl v5_206), (6, .inl v6_218)]) (st' := [.inl ((6 * v5_206) + v6_218), .inr (.inr (some 46))]) (h' := gr_h I216 J217) (C := (((((((True ∧ True) ∧ True) ∧ True) ∧ True) ∧ True) ∧ True) ∧ True)) rfl ⟨⟨⟨⟨⟨⟨⟨trivial, trivial⟩, trivial⟩, trivial⟩, trivial⟩, trivial⟩, trivial⟩, trivial⟩ ?_
                                          have f230 := (show 0 ≤ I216 70 (Int.toNat v6_218) ∧ I216 70 (Int.toNat v6_218) ≤ 2 from (hI216 70 (Int.toNat v6_218)).1)
                                          refine gv_run 4 true hD (pc' := 511) (lv' := [(0, .inr (.inr (some 0))), (3, .inl v3_56), (5, .inl v5_206), (6, .inl v6_218)]) (st' := [.inl (I216 70 (Int.toNat v6_218)), .inl ((6 * v5_206) + v6_218), .inr (.inr (some 46))]) (h' := gr_h I216 J217) (C := ((((True ∧ True) ∧ True) ∧ True) ∧ (0 ≤ v6_218 ∧ v6_218 < ((6 : Nat) : Int)))) rfl ⟨⟨⟨⟨trivial, trivial⟩, trivial⟩, trivial⟩, ⟨by omega, by omega⟩⟩ ?_
                                          refine gv_run 1 true hD (pc' := 512) (lv' := [(0, .inr (.inr (some 0))), (3, .inl v3_56), (5, .inl v5_206), (6, .inl v6_218)]) (st' := []) (h' := gz_up (gr_h I216 J217) 46 (Int.toNat (((6 * v5_206) + v6_218))) (.inl ((I216 70 (Int.toNat v6_218))))) (C := (True ∧ (0 ≤ (((6 * v5_206) + v6_218)) ∧ (((6 * v5_206) + v6_218)) < ((18432 : Nat) : Int)))) rfl ⟨trivial, ⟨by omega, by omega⟩⟩ ?_
                                          refine gr_st hI216 FI216 rfl rfl ⟨⟨by show 0 ≤ _; omega, by show _ ≤ 2; omega⟩, trivial⟩ (fun I231 hI231 FI231 q232 p232 => ?_)
                                          have t233 := p232 0 71 (fun q => absurd q.1 (by decide))
                                          have t234 := p232 0 72 (fun q => absurd q.1 (by decide))
                                          have t235 := p232 0 73 (fun q => absurd q.1 (by decide))
                                          have t236 := p232 0 69 (fun q => absurd q.1 (by decide))
                                          have t237 := p232 0 6 (fun q => absurd q.1 (by decide))
                                          have t238 := p232 0 59 (fun q => absurd q.1 (by decide))
                                          have t239 := p232 0 118 (fun q => absurd q.1 (by decide))
                                          have t240 := p232 0 119 (fun q => absurd q.1 (by decide))
                                          have t241 := p232 0 3 (fun q => absurd q.1 (by decide))
                                          have f242 := (show 0 ≤ I231 0 71 ∧ I231 0 71 ≤ 5 from (hI231 0 71).1)
                                          have f243 := (show 0 ≤ I231 0 72 ∧ I231 0 72 ≤ 1000 from (hI231 0 72).1)
                                          have f244 := (show 0 ≤ I231 0 73 ∧ I231 0 73 ≤ 1001 from (hI231 0 73).1)
                                          have f245 := (show 0 ≤ I231 0 69 ∧ I231 0 69 ≤ 1000 from (hI231 0 69).1)
                                          have f246 := (show (-1) ≤ I231 0 6 ∧ I231 0 6 ≤ 7 from (hI231 0 6).1)
                                          have f247 := (show 0 ≤ I231 0 59 ∧ I231 0 59 ≤ 2000 from (hI231 0 59).1)
                                          have f248 := (show 0 ≤ I231 0 118 ∧ I231 0 118 ≤ 6 from (hI231 0 118).1)
                                          have f249 := (show 0 ≤ I231 0 119 ∧ I231 0 119 ≤ 6 from (hI231 0 119).1)
                                          have f250 := (show 0 ≤ I231 0 3 ∧ I231 0 3 ≤ 96 from (hI231 0 3).1)
                                          have KLN_I231 := gr_LN_fr KLN_I216 (fun k => p232 19 k (fun q => absurd q.1 (by decide))) (by omega) (by omega)
                                          refine gv_run 7 true hD (pc' := 524) (lv' := [(0, .inr (.inr (some 0))), (3, .inl v3_56), (5, .inl v5_206), (6, .inl v6_218)]) (st' := [.inl ((6 * v5_206) + v6_218), .inr (.inr (some 47))]) (h' := gr_h I231 J217) (C := (((((((True ∧ True) ∧ True) ∧ True) ∧ True) ∧ True) ∧ True) ∧ True)) rfl ⟨⟨⟨⟨⟨⟨⟨trivial, trivial⟩, trivial⟩, trivial⟩, trivial⟩, trivial⟩, trivial⟩, trivial⟩ ?_
                                          have f251 := (show 0 ≤ I231 71 (Int.toNat v6_218) ∧ I231 71 (Int.toNat v6_218) ≤ 6 from (hI231 71 (Int.toNat v6_218)).1)
                                          refine gv_run 4 true hD (pc' := 531) (lv' := [(0, .inr (.inr (some 0))), (3, .inl v3_56), (5, .inl v5_206), (6, .inl v6_218)]) (st' := [.inl (I231 71 (Int.toNat v6_218)), .inl ((6 * v5_206) + v6_218), .inr (.inr (some 47))]) (h' := gr_h I231 J217) (C := ((((True ∧ True) ∧ True) ∧ True) ∧ (0 ≤ v6_218 ∧ v6_218 < ((6 : Nat) : Int)))) rfl ⟨⟨⟨⟨trivial, trivial⟩, trivial⟩, trivial⟩, ⟨by omega, by omega⟩⟩ ?_
                                          refine gv_run 1 true hD (pc' := 532) (lv' := [(0, .inr (.inr (some 0))), (3, .inl v3_56), (5, .inl v5_206), (6, .inl v6_218)]) (st' := []) (h' := gz_up (gr_h I231 J217) 47 (Int.toNat (((6 * v5_206) + v6_218))) (.inl ((I231 71 (Int.toNat v6_218))))) (C := (True ∧ (0 ≤ (((6 * v5_206) + v6_218)) ∧ (((6 * v5_206) + v6_218)) < ((18432 : Nat) : Int)))) rfl ⟨trivial, ⟨by omega, by omega⟩⟩ ?_
                                          refine gr_st hI231 FI231 rfl rfl ⟨⟨by show 0 ≤ _; omega, by show _ ≤ 6; omega⟩, trivial⟩ (fun I252 hI252 FI252 q253 p253 => ?_)
                                          have t254 := p253 0 71 (fun q => absurd q.1 (by decide))
                                          have t255 := p253 0 72 (fun q => absurd q.1 (by decide))
                                          have t256 := p253 0 73 (fun q => absurd q.1 (by decide))
                                          have t257 := p253 0 69 (fun q => absurd q.1 (by decide))
                                          have t258 := p253 0 6 (fun q => absurd q.1 (by decide))
                                          have t259 := p253 0 59 (fun q => absurd q.1 (by decide))
                                          have t260 := p253 0 118 (fun q => absurd q.1 (by decide))
                                          have t261 := p253 0 119 (fun q => absurd q.1 (by decide))
                                          have t262 := p253 0 3 (fun q => absurd q.1 (by decide))
                                          have f263 := (show 0 ≤ I252 0 71 ∧ I252 0 71 ≤ 5 from (hI252 0 71).1)
                                          have f264 := (show 0 ≤ I252 0 72 ∧ I252 0 72 ≤ 1000 from (hI252 0 72).1)
                                          have f265 := (show 0 ≤ I252 0 73 ∧ I252 0 73 ≤ 1001 from (hI252 0 73).1)
                                          have f266 := (show 0 ≤ I252 0 69 ∧ I252 0 69 ≤ 1000 from (hI252 0 69).1)
                                          have f267 := (show (-1) ≤ I252 0 6 ∧ I252 0 6 ≤ 7 from (hI252 0 6).1)
                                          have f268 := (show 0 ≤ I252 0 59 ∧ I252 0 59 ≤ 2000 from (hI252 0 59).1)
                                          have f269 := (show 0 ≤ I252 0 118 ∧ I252 0 118 ≤ 6 from (hI252 0 118).1)
                                          have f270 := (show 0 ≤ I252 0 119 ∧ I252 0 119 ≤ 6 from (hI252 0 119).1)
                                          have f271 := (show 0 ≤ I252 0 3 ∧ I252 0 3 ≤ 96 from (hI252 0 3).1)
                                          have KLN_I252 := gr_LN_fr KLN_I231 (fun k => p253 19 k (fun q => absurd q.1 (by decide))) (by omega) (by omega)
                                          refine gv_run 7 true hD (pc' := 544) (lv' := [(0, .inr (.inr (some 0))), (3, .inl v3_56), (5, .inl v5_206), (6, .inl v6_218)]) (st' := [.inl ((6 * v5_206) + v6_218), .inr (.inr (some 48))]) (h' := gr_h I252 J217) (C := (((((((True ∧ True) ∧ True) ∧ True) ∧ True) ∧ True) ∧ True) ∧ True)) rfl ⟨⟨⟨⟨⟨⟨⟨trivial, trivial⟩, trivial⟩, trivial⟩, trivial⟩, trivial⟩, trivial⟩, trivial⟩ ?_
                                          have f272 := (show 0 ≤ I252 72 (Int.toNat v6_218) ∧ I252 72 (Int.toNat v6_218) ≤ 3 from (hI252 72 (Int.toNat v6_218)).1)
                                          refine gv_run 4 true hD (pc' := 551) (lv' := [(0, .inr (.inr (some 0))), (3, .inl v3_56), (5, .inl v5_206), (6, .inl v6_218)]) (st' := [.inl (I252 72 (Int.toNat v6_218)), .inl ((6 * v5_206) + v6_218), .inr (.inr (some 48))]) (h' := gr_h I252 J217) (C := ((((True ∧ True) ∧ True) ∧ True) ∧ (0 ≤ v6_218 ∧ v6_218 < ((6 : Nat) : Int)))) rfl ⟨⟨⟨⟨trivial, trivial⟩, trivial⟩, trivial⟩, ⟨by omega, by omega⟩⟩ ?_
                                          refine gv_run 1 true hD (pc' := 552) (lv' := [(0, .inr (.inr (some 0))), (3, .inl v3_56), (5, .inl v5_206), (6, .inl v6_218)]) (st' := []) (h' := gz_up (gr_h I252 J217) 48 (Int.toNat (((6 * v5_206) + v6_218))) (.inl ((I252 72 (Int.toNat v6_218))))) (C := (True ∧ (0 ≤ (((6 * v5_206) + v6_218)) ∧ (((6 * v5_206) + v6_218)) < ((18432 : Nat) : Int)))) rfl ⟨trivial, ⟨by omega, by omega⟩⟩ ?_
                                          refine gr_st hI252 FI252 rfl rfl ⟨⟨by show 0 ≤ _; omega, by show _ ≤ 3; omega⟩, trivial⟩ (fun I273 hI273 FI273 q274 p274 => ?_)
                                          have t275 := p274 0 71 (fun q => absurd q.1 (by decide))
                                          have t276 := p274 0 72 (fun q => absurd q.1 (by decide))
                                          have t277 := p274 0 73 (fun q => absurd q.1 (by decide))
                                          have t278 := p274 0 69 (fun q => absurd q.1 (by decide))
                                          have t279 := p274 0 6 (fun q => absurd q.1 (by decide))
                                          have t280 := p274 0 59 (fun q => absurd q.1 (by decide))
                                          have t281 := p274 0 118 (fun q => absurd q.1 (by decide))
                                          have t282 := p274 0 119 (fun q => absurd q.1 (by decide))
                                          have t283 := p274 0 3 (fun q => absurd q.1 (by decide))
                                          have f284 := (show 0 ≤ I273 0 71 ∧ I273 0 71 ≤ 5 from (hI273 0 71).1)
                                          have f285 := (show 0 ≤ I273 0 72 ∧ I273 0 72 ≤ 1000 from (hI273 0 72).1)
                                          have f286 := (show 0 ≤ I273 0 73 ∧ I273 0 73 ≤ 1001 from (hI273 0 73).1)
                                          have f287 := (show 0 ≤ I273 0 69 ∧ I273 0 69 ≤ 1000 from (hI273 0 69).1)
                                          have f288 := (show (-1) ≤ I273 0 6 ∧ I273 0 6 ≤ 7 from (hI273 0 6).1)
                                          have f289 := (show 0 ≤ I273 0 59 ∧ I273 0 59 ≤ 2000 from (hI273 0 59).1)
                                          have f290 := (show 0 ≤ I273 0 118 ∧ I273 0 118 ≤ 6 from (hI273 0 118).1)
                                          have f291 := (show 0 ≤ I273 0 119 ∧ I273 0 119 ≤ 6 from (hI273 0 119).1)
                                          have f292 := (show 0 ≤ I273 0 3 ∧ I273 0 3 ≤ 96 from (hI273 0 3).1)
                                          have KLN_I273 := gr_LN_fr KLN_I252 (fun k => p274 19 k (fun q => absurd q.1 (by decide))) (by omega) (by omega)
                                          refine gv_run 7 true hD (pc' := 564) (lv' := [(0, .inr (.inr (some 0))), (3, .inl v3_56), (5, .inl v5_206), (6, .inl v6_218)]) (st' := [.inl ((6 * v5_206) + v6_218), .inr (.inr (some 49))]) (h' := gr_h I273 J217) (C := (((((((True ∧ True) ∧ True) ∧ True) ∧ True) ∧ True) ∧ True) ∧ True)) rfl ⟨⟨⟨⟨⟨⟨⟨trivial, trivial⟩, trivial⟩, trivial⟩, trivial⟩, trivial⟩, trivial⟩, trivial⟩ ?_
                                          have f293 := (show 0 ≤ I273 73 (Int.toNat v6_218) ∧ I273 73 (Int.toNat v6_218) ≤ 7 from (hI273 73 (Int.toNat v6_218)).1)
                                          refine gv_run 4 true hD (pc' := 571) (lv' := [(0, .inr (.inr (some 0))), (3, .inl v3_56), (5, .inl v5_206), (6, .inl v6_218)]) (st' := [.inl (I273 73 (Int.toNat v6_218)), .inl ((6 * v5_206) + v6_218), .inr (.inr (some 49))]) (h' := gr_h I273 J217) (C := ((((True ∧ True) ∧ True) ∧ True) ∧ (0 ≤ v6_218 ∧ v6_218 < ((6 : Nat) : Int)))) rfl ⟨⟨⟨⟨trivial, trivial⟩, trivial⟩, trivial⟩, ⟨by omega, by omega⟩⟩ ?_
                                          refine gv_run 1 true hD (pc' := 572) (lv' := [(0, .inr (.inr (some 0))), (3, .inl v3_56), (5, .inl v5_206), (6, .inl v6_218)]) (st' := []) (h' := gz_up (gr_h I273 J217) 49 (Int.toNat (((6 * v5_206) + v6_218))) (.inl ((I273 73 (Int.toNat v6_218))))) (C := (True ∧ (0 ≤ (((6 * v5_206) + v6_218)) ∧ (((6 * v5_206) + v6_218)) < ((18432 : Nat) : Int)))) rfl ⟨trivial, ⟨by omega, by omega⟩⟩ ?_
                                          refine gr_st hI273 FI273 rfl rfl ⟨⟨by show 0 ≤ _; omega, by show _ ≤ 7; omega⟩, trivial⟩ (fun I294 hI294 FI294 q295 p295 => ?_)
                                          have t296 := p295 0 71 (fun q => absurd q.1 (by decide))
                                          have t297 := p295 0 72 (fun q => absurd q.1 (by decide))
                                          have t298 := p295 0 73 (fun q => absurd q.1 (by decide))
                                          have t299 := p295 0 69 (fun q => absurd q.1 (by decide))
                                          have t300 := p295 0 6 (fun q => absurd q.1 (by decide))
                                          have t301 := p295 0 59 (fun q => absurd q.1 (by decide))
                                          have t302 := p295 0 118 (fun q => absurd q.1 (by decide))
                                          have t303 := p295 0 119 (fun q => absurd q.1 (by decide))
                                          have t304 := p295 0 3 (fun q => absurd q.1 (by decide))
                                          have f305 := (show 0 ≤ I294 0 71 ∧ I294 0 71 ≤ 5 from (hI294 0 71).1)
                                          have f306 := (show 0 ≤ I294 0 72 ∧ I294 0 72 ≤ 1000 from (hI294 0 72).1)
                                          have f307 := (show 0 ≤ I294 0 73 ∧ I294 0 73 ≤ 1001 from (hI294 0 73).1)
                                          have f308 := (show 0 ≤ I294 0 69 ∧ I294 0 69 ≤ 1000 from (hI294 0 69).1)
                                          have f309 := (show (-1) ≤ I294 0 6 ∧ I294 0 6 ≤ 7 from (hI294 0 6).1)
                                          have f310 := (show 0 ≤ I294 0 59 ∧ I294 0 59 ≤ 2000 from (hI294 0 59).1)
                                          have f311 := (show 0 ≤ I294 0 118 ∧ I294 0 118 ≤ 6 from (hI294 0 118).1)
                                          have f312 := (show 0 ≤ I294 0 119 ∧ I294 0 119 ≤ 6 from (hI294 0 119).1)
                                          have f313 := (show 0 ≤ I294 0 3 ∧ I294 0 3 ≤ 96 from (hI294 0 3).1)
                                          have KLN_I294 := gr_LN_fr KLN_I273 (fun k => p295 19 k (fun q => absurd q.1 (by decide))) (by omega) (by omega)
                                          refine gv_run 2 true hD (pc' := 483) (lv' := [(6, .inl (v6_218 + 1)), (0, .inr (.inr (some 0))), (3, .inl v3_56), (5, .inl v5_206)]) (st' := []) (h' := gr_h I294 J217) (C := ((True ∧ True) ∧ True)) rfl ⟨⟨trivial, trivial⟩, trivial⟩ ?_
                                          refine gv_pick [1, 2, 3, 0] rfl ?_
                                          exact ih483 I294 J217 (v6_218 + 1) (by omega) hI294 FI294 FJ217 KLN_I294 (by omega) (gr_Q2_nx e0_218 (by omega) (by omega) p232 q232 (by omega) p253 q253 (by omega) p274 p295)
                                    have f314 := (show 0 ≤ I204 0 118 ∧ I204 0 118 ≤ 6 from (hI204 0 118).1)
                                    refine gv_run 3 true hD (pc' := 431) (lv' := [(0, .inr (.inr (some 0))), (3, .inl v3_56), (5, .inl v5_206), (6, .inl v6_206)]) (st' := [.inl (I204 0 118), .inl v6_206]) (h' := gr_h I204 J205) (C := (((True ∧ True) ∧ True) ∧ True)) rfl ⟨⟨⟨trivial, trivial⟩, trivial⟩, trivial⟩ ?_
                                    refine gv_icmp_ge (t := 480) hD rfl rfl ⟨⟨by omega, by omega⟩, ⟨by omega, by omega⟩⟩ (fun c315 => ?_) (fun c315 => ?_)
                                    · refine gv_run 2 true hD (pc' := 483) (lv' := [(6, .inl 0), (0, .inr (.inr (some 0))), (3, .inl v3_56), (5, .inl v5_206)]) (st' := []) (h' := gr_h I204 J205) (C := ((True ∧ True) ∧ True)) rfl ⟨⟨trivial, trivial⟩, trivial⟩ ?_
                                      refine gv_pick [1, 2, 3, 0] rfl ?_
                                      exact L483 _ I204 J205 0 (Nat.lt_succ_self _) hI204 FI204 FJ205 KLN_I204 (by omega) (gr_Q2_in e0_206 (by omega))
                                    · refine gv_run 7 true hD (pc' := 446) (lv' := [(0, .inr (.inr (some 0))), (3, .inl v3_56), (5, .inl v5_206), (6, .inl v6_206)]) (st' := [.inl ((6 * v5_206) + v6_206), .inr (.inr (some 43))]) (h' := gr_h I204 J205) (C := (((((((True ∧ True) ∧ True) ∧ True) ∧ True) ∧ True) ∧ True) ∧ True)) rfl ⟨⟨⟨⟨⟨⟨⟨trivial, trivial⟩, trivial⟩, trivial⟩, trivial⟩, trivial⟩, trivial⟩, trivial⟩ ?_
                                      have f316 := (show (-4) ≤ I204 68 (Int.toNat v6_206) ∧ I204 68 (Int.toNat v6_206) ≤ 32015 from (hI204 68 (Int.toNat v6_206)).1)
                                      refine gv_run 4 true hD (pc' := 453) (lv' := [(0, .inr (.inr (some 0))), (3, .inl v3_56), (5, .inl v5_206), (6, .inl v6_206)]) (st' := [.inl (I204 68 (Int.toNat v6_206)), .inl ((6 * v5_206) + v6_206), .inr (.inr (some 43))]) (h' := gr_h I204 J205) (C := ((((True ∧ True) ∧ True) ∧ True) ∧ (0 ≤ v6_206 ∧ v6_206 < ((6 : Nat) : Int)))) rfl ⟨⟨⟨⟨trivial, trivial⟩, trivial⟩, trivial⟩, ⟨by omega, by omega⟩⟩ ?_
                                      refine gv_run 1 true hD (pc' := 454) (lv' := [(0, .inr (.inr (some 0))), (3, .inl v3_56), (5, .inl v5_206), (6, .inl v6_206)]) (st' := []) (h' := gz_up (gr_h I204 J205) 43 (Int.toNat (((6 * v5_206) + v6_206))) (.inl ((I204 68 (Int.toNat v6_206))))) (C := (True ∧ (0 ≤ (((6 * v5_206) + v6_206)) ∧ (((6 * v5_206) + v6_206)) < ((18432 : Nat) : Int)))) rfl ⟨trivial, ⟨by omega, by omega⟩⟩ ?_
                                      refine gr_st hI204 FI204 rfl rfl ⟨⟨by show (-4) ≤ _; omega, by show _ ≤ 32015; omega⟩, trivial⟩ (fun I317 hI317 FI317 q318 p318 => ?_)
                                      have t319 := p318 0 71 (fun q => absurd q.1 (by decide))
                                      have t320 := p318 0 72 (fun q => absurd q.1 (by decide))
                                      have t321 := p318 0 73 (fun q => absurd q.1 (by decide))
                                      have t322 := p318 0 69 (fun q => absurd q.1 (by decide))
                                      have t323 := p318 0 6 (fun q => absurd q.1 (by decide))
                                      have t324 := p318 0 59 (fun q => absurd q.1 (by decide))
                                      have t325 := p318 0 118 (fun q => absurd q.1 (by decide))
                                      have t326 := p318 0 119 (fun q => absurd q.1 (by decide))
                                      have t327 := p318 0 3 (fun q => absurd q.1 (by decide))
                                      have f328 := (show 0 ≤ I317 0 71 ∧ I317 0 71 ≤ 5 from (hI317 0 71).1)
                                      have f329 := (show 0 ≤ I317 0 72 ∧ I317 0 72 ≤ 1000 from (hI317 0 72).1)
                                      have f330 := (show 0 ≤ I317 0 73 ∧ I317 0 73 ≤ 1001 from (hI317 0 73).1)
                                      have f331 := (show 0 ≤ I317 0 69 ∧ I317 0 69 ≤ 1000 from (hI317 0 69).1)
                                      have f332 := (show (-1) ≤ I317 0 6 ∧ I317 0 6 ≤ 7 from (hI317 0 6).1)
                                      have f333 := (show 0 ≤ I317 0 59 ∧ I317 0 59 ≤ 2000 from (hI317 0 59).1)
                                      have f334 := (show 0 ≤ I317 0 118 ∧ I317 0 118 ≤ 6 from (hI317 0 118).1)
                                      have f335 := (show 0 ≤ I317 0 119 ∧ I317 0 119 ≤ 6 from (hI317 0 119).1)
                                      have f336 := (show 0 ≤ I317 0 3 ∧ I317 0 3 ≤ 96 from (hI317 0 3).1)
                                      have KLN_I317 := gr_LN_fr KLN_I204 (fun k => p318 19 k (fun q => absurd q.1 (by decide))) (by omega) (by omega)
                                      refine gv_run 7 true hD (pc' := 466) (lv' := [(0, .inr (.inr (some 0))), (3, .inl v3_56), (5, .inl v5_206), (6, .inl v6_206)]) (st' := [.inl ((6 * v5_206) + v6_206), .inr (.inr (some 44))]) (h' := gr_h I317 J205) (C := (((((((True ∧ True) ∧ True) ∧ True) ∧ True) ∧ True) ∧ True) ∧ True)) rfl ⟨⟨⟨⟨⟨⟨⟨trivial, trivial⟩, trivial⟩, trivial⟩, trivial⟩, trivial⟩, trivial⟩, trivial⟩ ?_
                                      have f337 := (show 0 ≤ I317 69 (Int.toNat v6_206) ∧ I317 69 (Int.toNat v6_206) ≤ 16777215 from (hI317 69 (Int.toNat v6_206)).1)
                                      refine gv_run 4 true hD (pc' := 473) (lv' := [(0, .inr (.inr (some 0))), (3, .inl v3_56), (5, .inl v5_206), (6, .inl v6_206)]) (st' := [.inl (I317 69 (Int.toNat v6_206)), .inl ((6 * v5_206) + v6_206), .inr (.inr (some 44))]) (h' := gr_h I317 J205) (C := ((((True ∧ True) ∧ True) ∧ True) ∧ (0 ≤ v6_206 ∧ v6_206 < ((6 : Nat) : Int)))) rfl ⟨⟨⟨⟨trivial, trivial⟩, trivial⟩, trivial⟩, ⟨by omega, by omega⟩⟩ ?_
                                      refine gv_run 1 true hD (pc' := 474) (lv' := [(0, .inr (.inr (some 0))), (3, .inl v3_56), (5, .inl v5_206), (6, .inl v6_206)]) (st' := []) (h' := gz_up (gr_h I317 J205) 44 (Int.toNat (((6 * v5_206) + v6_206))) (.inl ((I317 69 (Int.toNat v6_206))))) (C := (True ∧ (0 ≤ (((6 * v5_206) + v6_206)) ∧ (((6 * v5_206) + v6_206)) < ((18432 : Nat) : Int)))) rfl ⟨trivial, ⟨by omega, by omega⟩⟩ ?_
                                      refine gr_st hI317 FI317 rfl rfl ⟨⟨by show 0 ≤ _; omega, by show _ ≤ 16777215; omega⟩, trivial⟩ (fun I338 hI338 FI338 q339 p339 => ?_)
                                      have t340 := p339 0 71 (fun q => absurd q.1 (by decide))
                                      have t341 := p339 0 72 (fun q => absurd q.1 (by decide))
                                      have t342 := p339 0 73 (fun q => absurd q.1 (by decide))
                                      have t343 := p339 0 69 (fun q => absurd q.1 (by decide))
                                      have t344 := p339 0 6 (fun q => absurd q.1 (by decide))
                                      have t345 := p339 0 59 (fun q => absurd q.1 (by decide))
                                      have t346 := p339 0 118 (fun q => absurd q.1 (by decide))
                                      have t347 := p339 0 119 (fun q => absurd q.1 (by decide))
                                      have t348 := p339 0 3 (fun q => absurd q.1 (by decide))
                                      have f349 := (show 0 ≤ I338 0 71 ∧ I338 0 71 ≤ 5 from (hI338 0 71).1)
                                      have f350 := (show 0 ≤ I338 0 72 ∧ I338 0 72 ≤ 1000 from (hI338 0 72).1)
                                      have f351 := (show 0 ≤ I338 0 73 ∧ I338 0 73 ≤ 1001 from (hI338 0 73).1)
                                      have f352 := (show 0 ≤ I338 0 69 ∧ I338 0 69 ≤ 1000 from (hI338 0 69).1)
                                      have f353 := (show (-1) ≤ I338 0 6 ∧ I338 0 6 ≤ 7 from (hI338 0 6).1)
                                      have f354 := (show 0 ≤ I338 0 59 ∧ I338 0 59 ≤ 2000 from (hI338 0 59).1)
                                      have f355 := (show 0 ≤ I338 0 118 ∧ I338 0 118 ≤ 6 from (hI338 0 118).1)
                                      have f356 := (show 0 ≤ I338 0 119 ∧ I338 0 119 ≤ 6 from (hI338 0 119).1)
                                      have f357 := (show 0 ≤ I338 0 3 ∧ I338 0 3 ≤ 96 from (hI338 0 3).1)
                                      have KLN_I338 := gr_LN_fr KLN_I317 (fun k => p339 19 k (fun q => absurd q.1 (by decide))) (by omega) (by omega)
                                      refine gv_run 2 true hD (pc' := 425) (lv' := [(6, .inl (v6_206 + 1)), (0, .inr (.inr (some 0))), (3, .inl v3_56), (5, .inl v5_206)]) (st' := []) (h' := gr_h I338 J205) (C := ((True ∧ True) ∧ True)) rfl ⟨⟨trivial, trivial⟩, trivial⟩ ?_
                                      refine gv_pick [1, 2, 3, 0] rfl ?_
                                      exact ih425 I338 J205 v5_206 (v6_206 + 1) (by omega) hI338 FI338 FJ205 KLN_I338 (by omega) (gr_Q1_nx e0_206 (by omega) (by omega) p318 q318 (by omega) p339)
                                obtain ⟨r358, h358, E358, P358⟩ := r_done (ws0 := ws0) (tb := tb) hws htb ext I136 J137 hI136 s1_193 ⟨by omega, by omega⟩ (by omega) (by omega) (by omega) (by omega) (by omega)
                                obtain ⟨I359, J360, rfl, hI359, g358, k358, ⟨z358, rfl, q358⟩⟩ := P358
                                have FI359 := gr_frt FI136 g358 rfl rfl
                                have FJ360 := gr_fjt FJ137 k358 rfl rfl
                                have t361 := g358 0 69 rfl
                                have t362 := g358 0 6 rfl
                                have t363 := g358 0 59 rfl
                                have t364 := g358 0 118 rfl
                                have t365 := g358 0 119 rfl
                                have t366 := g358 0 3 rfl
                                have t367 := g358 19 (Int.toNat v1_12) rfl
                                have f368 := (show 0 ≤ I359 0 71 ∧ I359 0 71 ≤ 5 from (hI359 0 71).1)
                                have f369 := (show 0 ≤ I359 0 72 ∧ I359 0 72 ≤ 1000 from (hI359 0 72).1)
                                have f370 := (show 0 ≤ I359 0 73 ∧ I359 0 73 ≤ 1001 from (hI359 0 73).1)
                                have f371 := (show 0 ≤ I359 0 69 ∧ I359 0 69 ≤ 1000 from (hI359 0 69).1)
                                have f372 := (show (-1) ≤ I359 0 6 ∧ I359 0 6 ≤ 7 from (hI359 0 6).1)
                                have f373 := (show 0 ≤ I359 0 59 ∧ I359 0 59 ≤ 2000 from (hI359 0 59).1)
                                have f374 := (show 0 ≤ I359 0 118 ∧ I359 0 118 ≤ 6 from (hI359 0 118).1)
                                have f375 := (show 0 ≤ I359 0 119 ∧ I359 0 119 ≤ 6 from (hI359 0 119).1)
                                have f376 := (show 0 ≤ I359 0 3 ∧ I359 0 3 ≤ 96 from (hI359 0 3).1)
                                have KLN_I359 := gr_LN_fr KLN_I136 (fun k => g358 19 k rfl) (by omega) (by omega)
                                have KGR_I359 := gr_GR_fr KGR_I136 (fun k => g358 19 k rfl) (fun k => g358 18 k rfl) (fun k => g358 36 k rfl) (fun k => g358 41 k rfl) (fun k => g358 42 k rfl) (fun k => g358 43 k rfl) (fun k => g358 45 k rfl) (fun k => g358 46 k rfl) (fun k => g358 47 k rfl) (fun k => g358 6 k rfl) (fun k => g358 7 k rfl) (fun k => g358 8 k rfl) (g358 0 3 rfl)
                                have KST_I359 := gr_ST_fr KST_I136 (fun k => g358 6 k rfl) (fun k => g358 19 k rfl) (fun k => g358 18 k rfl) (fun k => g358 41 k rfl) (fun k => g358 36 k rfl) (g358 0 3 rfl)
                                have t377 := KLN_I359 (Int.toNat v1_12) (by omega)
                                refine gv_callV hD rfl (As := [.inl s1_193]) (st := []) rfl (by decide) rfl rfl (gr_lV hws rfl) (Nat.le_of_ble_eq_true rfl) (gz_Ev_mono (d := 11) (by decide) E358) ?_
                                show gv_X _ _ (357, [(0, .inr (.inr (some 0))), (1, .inl v1_12), (3, .inl v3_56)], [.inl z358], gr_sh ++ ext, gr_h I359 J360)
                                refine gv_if_ne (t := 362) hD rfl rfl ⟨by omega, by omega⟩ (fun c378 => ?_) (fun c378 => ?_)
                                · refine gv_run 7 true hD (pc' := 373) (lv' := [(0, .inr (.inr (some 0))), (1, .inl v1_12), (3, .inl v3_56)]) (st' := [.inl v1_12, .inr (.inr (some 19)), .inl v1_12, .inr (.inr (some 19)), .inl (384 * v1_12)]) (h' := gr_h I359 J360) (C := (((((((True ∧ True) ∧ True) ∧ True) ∧ True) ∧ True) ∧ True) ∧ True)) rfl ⟨⟨⟨⟨⟨⟨⟨trivial, trivial⟩, trivial⟩, trivial⟩, trivial⟩, trivial⟩, trivial⟩, trivial⟩ ?_
                                  have f379 := (show 0 ≤ I359 19 (Int.toNat v1_12) ∧ I359 19 (Int.toNat v1_12) ≤ 384 from (hI359 19 (Int.toNat v1_12)).1)
                                  refine gv_run 1 true hD (pc' := 374) (lv' := [(0, .inr (.inr (some 0))), (1, .inl v1_12), (3, .inl v3_56)]) (st' := [.inl (I359 19 (Int.toNat v1_12)), .inl v1_12, .inr (.inr (some 19)), .inl (384 * v1_12)]) (h' := gr_h I359 J360) (C := (True ∧ (0 ≤ v1_12 ∧ v1_12 < ((8 : Nat) : Int)))) rfl ⟨trivial, ⟨by omega, by omega⟩⟩ ?_
                                  refine gv_run 3 true hD (pc' := 377) (lv' := [(0, .inr (.inr (some 0))), (1, .inl v1_12), (3, .inl v3_56)]) (st' := [.inl ((I359 19 (Int.toNat v1_12)) + 1), .inl v1_12, .inr (.inr (some 19)), .inl (I359 19 (Int.toNat v1_12)), .inl (384 * v1_12)]) (h' := gr_h I359 J360) (C := (((True ∧ True) ∧ True) ∧ True)) rfl ⟨⟨⟨trivial, trivial⟩, trivial⟩, trivial⟩ ?_
                                  refine gv_run 1 true hD (pc' := 378) (lv' := [(0, .inr (.inr (some 0))), (1, .inl v1_12), (3, .inl v3_56)]) (st' := [.inl (I359 19 (Int.toNat v1_12)), .inl (384 * v1_12)]) (h' := gz_up (gr_h I359 J360) 19 (Int.toNat v1_12) (.inl (((I359 19 (Int.toNat v1_12)) + 1)))) (C := (True ∧ (0 ≤ v1_12 ∧ v1_12 < ((8 : Nat) : Int)))) rfl ⟨trivial, ⟨by omega, by omega⟩⟩ ?_
                                  refine gr_st hI359 FI359 rfl rfl ⟨⟨by show 0 ≤ _; omega, by show _ ≤ 384; omega⟩, trivial⟩ (fun I380 hI380 FI380 q381 p381 => ?_)
                                  have t382 := p381 0 71 (fun q => absurd q.1 (by decide))
                                  have t383 := p381 0 72 (fun q => absurd q.1 (by decide))
                                  have t384 := p381 0 73 (fun q => absurd q.1 (by decide))
                                  have t385 := p381 0 69 (fun q => absurd q.1 (by decide))
                                  have t386 := p381 0 6 (fun q => absurd q.1 (by decide))
                                  have t387 := p381 0 59 (fun q => absurd q.1 (by decide))
                                  have t388 := p381 0 118 (fun q => absurd q.1 (by decide))
                                  have t389 := p381 0 119 (fun q => absurd q.1 (by decide))
                                  have t390 := p381 0 3 (fun q => absurd q.1 (by decide))
                                  have f391 := (show 0 ≤ I380 0 71 ∧ I380 0 71 ≤ 5 from (hI380 0 71).1)
                                  have f392 := (show 0 ≤ I380 0 72 ∧ I380 0 72 ≤ 1000 from (hI380 0 72).1)
                                  have f393 := (show 0 ≤ I380 0 73 ∧ I380 0 73 ≤ 1001 from (hI380 0 73).1)
                                  have f394 := (show 0 ≤ I380 0 69 ∧ I380 0 69 ≤ 1000 from (hI380 0 69).1)
                                  have f395 := (show (-1) ≤ I380 0 6 ∧ I380 0 6 ≤ 7 from (hI380 0 6).1)
                                  have f396 := (show 0 ≤ I380 0 59 ∧ I380 0 59 ≤ 2000 from (hI380 0 59).1)
                                  have f397 := (show 0 ≤ I380 0 118 ∧ I380 0 118 ≤ 6 from (hI380 0 118).1)
                                  have f398 := (show 0 ≤ I380 0 119 ∧ I380 0 119 ≤ 6 from (hI380 0 119).1)
                                  have f399 := (show 0 ≤ I380 0 3 ∧ I380 0 3 ≤ 96 from (hI380 0 3).1)
                                  have KLN_I380 := gr_LN_l KLN_I359 p381 (by omega)
                                  have t400 := KLN_I380 (Int.toNat v1_12) (by omega)
                                  refine gv_run 6 true hD (pc' := 388) (lv' := [(5, .inl ((384 * v1_12) + (I359 19 (Int.toNat v1_12)))), (0, .inr (.inr (some 0))), (1, .inl v1_12), (3, .inl v3_56)]) (st' := [.inl v3_56, .inl ((384 * v1_12) + (I359 19 (Int.toNat v1_12))), .inr (.inr (some 41))]) (h' := gr_h I380 J360) (C := ((((((True ∧ True) ∧ True) ∧ True) ∧ True) ∧ True) ∧ True)) rfl ⟨⟨⟨⟨⟨⟨trivial, trivial⟩, trivial⟩, trivial⟩, trivial⟩, trivial⟩, trivial⟩ ?_
                                  refine gv_run 1 true hD (pc' := 389) (lv' := [(5, .inl ((384 * v1_12) + (I359 19 (Int.toNat v1_12)))), (0, .inr (.inr (some 0))), (1, .inl v1_12), (3, .inl v3_56)]) (st' := []) (h' := gz_up (gr_h I380 J360) 41 (Int.toNat (((384 * v1_12) + (I359 19 (Int.toNat v1_12))))) (.inl v3_56)) (C := (True ∧ (0 ≤ (((384 * v1_12) + (I359 19 (Int.toNat v1_12)))) ∧ (((384 * v1_12) + (I359 19 (Int.toNat v1_12)))) < ((3072 : Nat) : Int)))) rfl ⟨trivial, ⟨by omega, by omega⟩⟩ ?_
                                  refine gr_st hI380 FI380 rfl rfl ⟨⟨by show 0 ≤ _; omega, by show _ ≤ 95; omega⟩, trivial⟩ (fun I401 hI401 FI401 q402 p402 => ?_)
                                  have t403 := p402 0 71 (fun q => absurd q.1 (by decide))
                                  have t404 := p402 0 72 (fun q => absurd q.1 (by decide))
                                  have t405 := p402 0 73 (fun q => absurd q.1 (by decide))
                                  have t406 := p402 0 69 (fun q => absurd q.1 (by decide))
                                  have t407 := p402 0 6 (fun q => absurd q.1 (by decide))
                                  have t408 := p402 0 59 (fun q => absurd q.1 (by decide))
                                  have t409 := p402 0 118 (fun q => absurd q.1 (by decide))
                                  have t410 := p402 0 119 (fun q => absurd q.1 (by decide))
                                  have t411 := p402 0 3 (fun q => absurd q.1 (by decide))
                                  have t412 := p402 19 (Int.toNat v1_12) (fun q => absurd q.1 (by decide))
                                  have f413 := (show 0 ≤ I401 0 71 ∧ I401 0 71 ≤ 5 from (hI401 0 71).1)
                                  have f414 := (show 0 ≤ I401 0 72 ∧ I401 0 72 ≤ 1000 from (hI401 0 72).1)
                                  have f415 := (show 0 ≤ I401 0 73 ∧ I401 0 73 ≤ 1001 from (hI401 0 73).1)
                                  have f416 := (show 0 ≤ I401 0 69 ∧ I401 0 69 ≤ 1000 from (hI401 0 69).1)
                                  have f417 := (show (-1) ≤ I401 0 6 ∧ I401 0 6 ≤ 7 from (hI401 0 6).1)
                                  have f418 := (show 0 ≤ I401 0 59 ∧ I401 0 59 ≤ 2000 from (hI401 0 59).1)
                                  have f419 := (show 0 ≤ I401 0 118 ∧ I401 0 118 ≤ 6 from (hI401 0 118).1)
                                  have f420 := (show 0 ≤ I401 0 119 ∧ I401 0 119 ≤ 6 from (hI401 0 119).1)
                                  have f421 := (show 0 ≤ I401 0 3 ∧ I401 0 3 ≤ 96 from (hI401 0 3).1)
                                  have KLN_I401 := gr_LN_fr KLN_I380 (fun k => p402 19 k (fun q => absurd q.1 (by decide))) (by omega) (by omega)
                                  have t422 := KLN_I401 (Int.toNat v1_12) (by omega)
                                  have f423 := (show 0 ≤ I401 0 118 ∧ I401 0 118 ≤ 6 from (hI401 0 118).1)
                                  refine gv_run 5 true hD (pc' := 399) (lv' := [(5, .inl ((384 * v1_12) + (I359 19 (Int.toNat v1_12)))), (0, .inr (.inr (some 0))), (1, .inl v1_12), (3, .inl v3_56)]) (st' := [.inl (I401 0 118), .inl ((384 * v1_12) + (I359 19 (Int.toNat v1_12))), .inr (.inr (some 42))]) (h' := gr_h I401 J360) (C := (((((True ∧ True) ∧ True) ∧ True) ∧ True) ∧ True)) rfl ⟨⟨⟨⟨⟨trivial, trivial⟩, trivial⟩, trivial⟩, trivial⟩, trivial⟩ ?_
                                  refine gv_run 1 true hD (pc' := 400) (lv' := [(5, .inl ((384 * v1_12) + (I359 19 (Int.toNat v1_12)))), (0, .inr (.inr (some 0))), (1, .inl v1_12), (3, .inl v3_56)]) (st' := []) (h' := gz_up (gr_h I401 J360) 42 (Int.toNat (((384 * v1_12) + (I359 19 (Int.toNat v1_12))))) (.inl (I401 0 118))) (C := (True ∧ (0 ≤ (((384 * v1_12) + (I359 19 (Int.toNat v1_12)))) ∧ (((384 * v1_12) + (I359 19 (Int.toNat v1_12)))) < ((3072 : Nat) : Int)))) rfl ⟨trivial, ⟨by omega, by omega⟩⟩ ?_
                                  refine gr_st hI401 FI401 rfl rfl ⟨⟨by show 0 ≤ _; omega, by show _ ≤ 6; omega⟩, trivial⟩ (fun I424 hI424 FI424 q425 p425 => ?_)
                                  have t426 := p425 0 71 (fun q => absurd q.1 (by decide))
                                  have t427 := p425 0 72 (fun q => absurd q.1 (by decide))
                                  have t428 := p425 0 73 (fun q => absurd q.1 (by decide))
                                  have t429 := p425 0 69 (fun q => absurd q.1 (by decide))
                                  have t430 := p425 0 6 (fun q => absurd q.1 (by decide))
                                  have t431 := p425 0 59 (fun q => absurd q.1 (by decide))
                                  have t432 := p425 0 118 (fun q => absurd q.1 (by decide))
                                  have t433 := p425 0 119 (fun q => absurd q.1 (by decide))
                                  have t434 := p425 0 3 (fun q => absurd q.1 (by decide))
                                  have t435 := p425 19 (Int.toNat v1_12) (fun q => absurd q.1 (by decide))
                                  have f436 := (show 0 ≤ I424 0 71 ∧ I424 0 71 ≤ 5 from (hI424 0 71).1)
                                  have f437 := (show 0 ≤ I424 0 72 ∧ I424 0 72 ≤ 1000 from (hI424 0 72).1)
                                  have f438 := (show 0 ≤ I424 0 73 ∧ I424 0 73 ≤ 1001 from (hI424 0 73).1)
                                  have f439 := (show 0 ≤ I424 0 69 ∧ I424 0 69 ≤ 1000 from (hI424 0 69).1)
                                  have f440 := (show (-1) ≤ I424 0 6 ∧ I424 0 6 ≤ 7 from (hI424 0 6).1)
                                  have f441 := (show 0 ≤ I424 0 59 ∧ I424 0 59 ≤ 2000 from (hI424 0 59).1)
                                  have f442 := (show 0 ≤ I424 0 118 ∧ I424 0 118 ≤ 6 from (hI424 0 118).1)
                                  have f443 := (show 0 ≤ I424 0 119 ∧ I424 0 119 ≤ 6 from (hI424 0 119).1)
                                  have f444 := (show 0 ≤ I424 0 3 ∧ I424 0 3 ≤ 96 from (hI424 0 3).1)
                                  have KLN_I424 := gr_LN_fr KLN_I401 (fun k => p425 19 k (fun q => absurd q.1 (by decide))) (by omega) (by omega)
                                  have t445 := KLN_I424 (Int.toNat v1_12) (by omega)
                                  have f446 := (show 0 ≤ I424 0 119 ∧ I424 0 119 ≤ 6 from (hI424 0 119).1)
                                  refine gv_run 5 true hD (pc' := 410) (lv' := [(5, .inl ((384 * v1_12) + (I359 19 (Int.toNat v1_12)))), (0, .inr (.inr (some 0))), (1, .inl v1_12), (3, .inl v3_56)]) (st' := [.inl (I424 0 119), .inl ((384 * v1_12) + (I359 19 (Int.toNat v1_12))), .inr (.inr (some 45))]) (h' := gr_h I424 J360) (C := (((((True ∧ True) ∧ True) ∧ True) ∧ True) ∧ True)) rfl ⟨⟨⟨⟨⟨trivial, trivial⟩, trivial⟩, trivial⟩, trivial⟩, trivial⟩ ?_
                                  refine gv_run 1 true hD (pc' := 411) (lv' := [(5, .inl ((384 * v1_12) + (I359 19 (Int.toNat v1_12)))), (0, .inr (.inr (some 0))), (1, .inl v1_12), (3, .inl v3_56)]) (st' := []) (h' := gz_up (gr_h I424 J360) 45 (Int.toNat (((384 * v1_12) + (I359 19 (Int.toNat v1_12))))) (.inl (I424 0 119))) (C := (True ∧ (0 ≤ (((384 * v1_12) + (I359 19 (Int.toNat v1_12)))) ∧ (((384 * v1_12) + (I359 19 (Int.toNat v1_12)))) < ((3072 : Nat) : Int)))) rfl ⟨trivial, ⟨by omega, by omega⟩⟩ ?_
                                  refine gr_st hI424 FI424 rfl rfl ⟨⟨by show 0 ≤ _; omega, by show _ ≤ 6; omega⟩, trivial⟩ (fun I447 hI447 FI447 q448 p448 => ?_)
                                  have t449 := p448 0 71 (fun q => absurd q.1 (by decide))
                                  have t450 := p448 0 72 (fun q => absurd q.1 (by decide))
                                  have t451 := p448 0 73 (fun q => absurd q.1 (by decide))
                                  have t452 := p448 0 69 (fun q => absurd q.1 (by decide))
                                  have t453 := p448 0 6 (fun q => absurd q.1 (by decide))
                                  have t454 := p448 0 59 (fun q => absurd q.1 (by decide))
                                  have t455 := p448 0 118 (fun q => absurd q.1 (by decide))
                                  have t456 := p448 0 119 (fun q => absurd q.1 (by decide))
                                  have t457 := p448 0 3 (fun q => absurd q.1 (by decide))
                                  have t458 := p448 19 (Int.toNat v1_12) (fun q => absurd q.1 (by decide))
                                  have f459 := (show 0 ≤ I447 0 71 ∧ I447 0 71 ≤ 5 from (hI447 0 71).1)
                                  have f460 := (show 0 ≤ I447 0 72 ∧ I447 0 72 ≤ 1000 from (hI447 0 72).1)
                                  have f461 := (show 0 ≤ I447 0 73 ∧ I447 0 73 ≤ 1001 from (hI447 0 73).1)
                                  have f462 := (show 0 ≤ I447 0 69 ∧ I447 0 69 ≤ 1000 from (hI447 0 69).1)
                                  have f463 := (show (-1) ≤ I447 0 6 ∧ I447 0 6 ≤ 7 from (hI447 0 6).1)
                                  have f464 := (show 0 ≤ I447 0 59 ∧ I447 0 59 ≤ 2000 from (hI447 0 59).1)
                                  have f465 := (show 0 ≤ I447 0 118 ∧ I447 0 118 ≤ 6 from (hI447 0 118).1)
                                  have f466 := (show 0 ≤ I447 0 119 ∧ I447 0 119 ≤ 6 from (hI447 0 119).1)
                                  have f467 := (show 0 ≤ I447 0 3 ∧ I447 0 3 ≤ 96 from (hI447 0 3).1)
                                  have KLN_I447 := gr_LN_fr KLN_I424 (fun k => p448 19 k (fun q => absurd q.1 (by decide))) (by omega) (by omega)
                                  have t468 := KLN_I447 (Int.toNat v1_12) (by omega)
                                  have f469 := (show 0 ≤ I447 0 101 ∧ I447 0 101 ≤ 10000 from (hI447 0 101).1)
                                  refine gv_run 5 true hD (pc' := 421) (lv' := [(5, .inl ((384 * v1_12) + (I359 19 (Int.toNat v1_12)))), (0, .inr (.inr (some 0))), (1, .inl v1_12), (3, .inl v3_56)]) (st' := [.inl (I447 0 101), .inl ((384 * v1_12) + (I359 19 (Int.toNat v1_12))), .inr (.inr (some 50))]) (h' := gr_h I447 J360) (C := (((((True ∧ True) ∧ True) ∧ True) ∧ True) ∧ True)) rfl ⟨⟨⟨⟨⟨trivial, trivial⟩, trivial⟩, trivial⟩, trivial⟩, trivial⟩ ?_
                                  refine gv_run 1 true hD (pc' := 422) (lv' := [(5, .inl ((384 * v1_12) + (I359 19 (Int.toNat v1_12)))), (0, .inr (.inr (some 0))), (1, .inl v1_12), (3, .inl v3_56)]) (st' := []) (h' := gz_up (gr_h I447 J360) 50 (Int.toNat (((384 * v1_12) + (I359 19 (Int.toNat v1_12))))) (.inl (I447 0 101))) (C := (True ∧ (0 ≤ (((384 * v1_12) + (I359 19 (Int.toNat v1_12)))) ∧ (((384 * v1_12) + (I359 19 (Int.toNat v1_12)))) < ((3072 : Nat) : Int)))) rfl ⟨trivial, ⟨by omega, by omega⟩⟩ ?_
                                  refine gr_st hI447 FI447 rfl rfl ⟨⟨by show 0 ≤ _; omega, by show _ ≤ 10000; omega⟩, trivial⟩ (fun I470 hI470 FI470 q471 p471 => ?_)
                                  have t472 := p471 0 71 (fun q => absurd q.1 (by decide))
                                  have t473 := p471 0 72 (fun q => absurd q.1 (by decide))
                                  have t474 := p471 0 73 (fun q => absurd q.1 (by decide))
                                  have t475 := p471 0 69 (fun q => absurd q.1 (by decide))
                                  have t476 := p471 0 6 (fun q => absurd q.1 (by decide))
                                  have t477 := p471 0 59 (fun q => absurd q.1 (by decide))
                                  have t478 := p471 0 118 (fun q => absurd q.1 (by decide))
                                  have t479 := p471 0 119 (fun q => absurd q.1 (by decide))
                                  have t480 := p471 0 3 (fun q => absurd q.1 (by decide))
                                  have t481 := p471 19 (Int.toNat v1_12) (fun q => absurd q.1 (by decide))
                                  have f482 := (show 0 ≤ I470 0 71 ∧ I470 0 71 ≤ 5 from (hI470 0 71).1)
                                  have f483 := (show 0 ≤ I470 0 72 ∧ I470 0 72 ≤ 1000 from (hI470 0 72).1)
                                  have f484 := (show 0 ≤ I470 0 73 ∧ I470 0 73 ≤ 1001 from (hI470 0 73).1)
                                  have f485 := (show 0 ≤ I470 0 69 ∧ I470 0 69 ≤ 1000 from (hI470 0 69).1)
                                  have f486 := (show (-1) ≤ I470 0 6 ∧ I470 0 6 ≤ 7 from (hI470 0 6).1)
                                  have f487 := (show 0 ≤ I470 0 59 ∧ I470 0 59 ≤ 2000 from (hI470 0 59).1)
                                  have f488 := (show 0 ≤ I470 0 118 ∧ I470 0 118 ≤ 6 from (hI470 0 118).1)
                                  have f489 := (show 0 ≤ I470 0 119 ∧ I470 0 119 ≤ 6 from (hI470 0 119).1)
                                  have f490 := (show 0 ≤ I470 0 3 ∧ I470 0 3 ≤ 96 from (hI470 0 3).1)
                                  have KLN_I470 := gr_LN_fr KLN_I447 (fun k => p471 19 k (fun q => absurd q.1 (by decide))) (by omega) (by omega)
                                  have t491 := KLN_I470 (Int.toNat v1_12) (by omega)
                                  refine gv_run 2 true hD (pc' := 425) (lv' := [(6, .inl 0), (5, .inl ((384 * v1_12) + (I359 19 (Int.toNat v1_12)))), (0, .inr (.inr (some 0))), (1, .inl v1_12), (3, .inl v3_56)]) (st' := []) (h' := gr_h I470 J360) (C := ((True ∧ True) ∧ True)) rfl ⟨⟨trivial, trivial⟩, trivial⟩ ?_
                                  refine gv_pick [2, 4, 1, 0] rfl ?_
                                  exact L425 _ I470 J360 (((384 * v1_12) + (I359 19 (Int.toNat v1_12)))) 0 (Nat.lt_succ_self _) hI470 FI470 FJ360 KLN_I470 (by omega) (gr_Q1_in (t := (Int.toNat v1_12)) KGR_I359 KST_I359 (gr_LI_fr e3_193 (fun k => g358 68 k rfl) (fun k => g358 6 k rfl) (fun k => g358 70 k rfl) (fun k => g358 71 k rfl) (fun k => g358 7 k rfl) (fun k => g358 8 k rfl) (g358 0 118 rfl) (g358 0 119 rfl)) (by omega) (by omega) (by omega) (by omega) p381 (by omega) p402 q402 p425 q425 (by omega) p448 q448 (by omega) p471)
                                · refine gv_run 1 true hD (pc' := 361) (lv' := [(0, .inr (.inr (some 0))), (1, .inl v1_12), (3, .inl v3_56)]) (st' := [.inl 0]) (h' := gr_h I359 J360) (C := (True ∧ True)) rfl ⟨trivial, trivial⟩ ?_
                                  exact gv_zret hD rfl (by omega) ⟨I359, J360, rfl, hI359, FI359, FJ360, KLN_I359, KGR_I359, KST_I359, ⟨_, rfl, by omega⟩⟩
                              have f492 := (show 0 ≤ I136 19 (Int.toNat v1_12) ∧ I136 19 (Int.toNat v1_12) ≤ 384 from (hI136 19 (Int.toNat v1_12)).1)
                              refine gv_run 5 true hD (pc' := 313) (lv' := [(0, .inr (.inr (some 0))), (1, .inl v1_12), (3, .inl v3_56), (4, .inl v4_171), (5, .inl v5_171)]) (st' := [.inl (I136 19 (Int.toNat v1_12)), .inl v5_171]) (h' := gr_h I136 J137) (C := (((((True ∧ True) ∧ True) ∧ True) ∧ True) ∧ (0 ≤ v1_12 ∧ v1_12 < ((8 : Nat) : Int)))) rfl ⟨⟨⟨⟨⟨trivial, trivial⟩, trivial⟩, trivial⟩, trivial⟩, ⟨by omega, by omega⟩⟩ ?_
                              refine gv_icmp_ge (t := 342) hD rfl rfl ⟨⟨by omega, by omega⟩, ⟨by omega, by omega⟩⟩ (fun c493 => ?_) (fun c493 => ?_)
                              · refine gv_run 3 true hD (pc' := 346) (lv' := [(0, .inr (.inr (some 0))), (1, .inl v1_12), (3, .inl v3_56), (4, .inl v4_171), (5, .inl v5_171)]) (st' := [.inl 4, .inl v4_171, .inr (.inr (some 0))]) (h' := gr_h I136 J137) (C := (((True ∧ True) ∧ True) ∧ True)) rfl ⟨⟨⟨trivial, trivial⟩, trivial⟩, trivial⟩ ?_
                                refine gv_icmp_ge (t := 353) hD rfl rfl ⟨⟨by omega, by omega⟩, ⟨by omega, by omega⟩⟩ (fun c494 => ?_) (fun c494 => ?_)
                                · refine gv_run 1 true hD (pc' := 354) (lv' := [(0, .inr (.inr (some 0))), (1, .inl v1_12), (3, .inl v3_56), (4, .inl v4_171), (5, .inl v5_171)]) (st' := [.inl 0, .inr (.inr (some 0))]) (h' := gr_h I136 J137) (C := (True ∧ True)) rfl ⟨trivial, trivial⟩ ?_
                                  refine gv_pick [0, 1, 2] rfl ?_
                                  exact L354 0 (by omega) e3_171
                                · refine gv_run 2 true hD (pc' := 354) (lv' := [(0, .inr (.inr (some 0))), (1, .inl v1_12), (3, .inl v3_56), (4, .inl v4_171), (5, .inl v5_171)]) (st' := [.inl 1, .inr (.inr (some 0))]) (h' := gr_h I136 J137) (C := ((True ∧ True) ∧ True)) rfl ⟨⟨trivial, trivial⟩, trivial⟩ ?_
                                  refine gv_pick [0, 1, 2] rfl ?_
                                  exact L354 1 (by omega) e3_171
                              · refine gv_run 7 true hD (pc' := 328) (lv' := [(0, .inr (.inr (some 0))), (1, .inl v1_12), (3, .inl v3_56), (4, .inl v4_171), (5, .inl v5_171)]) (st' := [.inl ((384 * v1_12) + v5_171), .inr (.inr (some 41))]) (h' := gr_h I136 J137) (C := (((((((True ∧ True) ∧ True) ∧ True) ∧ True) ∧ True) ∧ True) ∧ True)) rfl ⟨⟨⟨⟨⟨⟨⟨trivial, trivial⟩, trivial⟩, trivial⟩, trivial⟩, trivial⟩, trivial⟩, trivial⟩ ?_
                                have f495 := (show 0 ≤ I136 41 (Int.toNat (((384 * v1_12) + v5_171))) ∧ I136 41 (Int.toNat (((384 * v1_12) + v5_171))) ≤ 95 from (hI136 41 (Int.toNat (((384 * v1_12) + v5_171)))).1)
                                refine gv_run 1 true hD (pc' := 329) (lv' := [(0, .inr (.inr (some 0))), (1, .inl v1_12), (3, .inl v3_56), (4, .inl v4_171), (5, .inl v5_171)]) (st' := [.inl (I136 41 (Int.toNat (((384 * v1_12) + v5_171))))]) (h' := gr_h I136 J137) (C := (True ∧ (0 ≤ (((384 * v1_12) + v5_171)) ∧ (((384 * v1_12) + v5_171)) < ((3072 : Nat) : Int)))) rfl ⟨trivial, ⟨by omega, by omega⟩⟩ ?_
                                refine gv_run 1 true hD (pc' := 330) (lv' := [(0, .inr (.inr (some 0))), (1, .inl v1_12), (3, .inl v3_56), (4, .inl v4_171), (5, .inl v5_171)]) (st' := [.inl v3_56, .inl (I136 41 (Int.toNat (((384 * v1_12) + v5_171))))]) (h' := gr_h I136 J137) (C := (True ∧ True)) rfl ⟨trivial, trivial⟩ ?_
                                refine gv_icmp_ne (t := 336) hD rfl rfl ⟨⟨by omega, by omega⟩, ⟨by omega, by omega⟩⟩ (fun c496 => ?_) (fun c496 => ?_)
                                · exact L336 v4_171 (by omega) e3_171
                                · refine gv_run 1 true hD (pc' := 336) (lv' := [(4, .inl (v4_171 + 1)), (0, .inr (.inr (some 0))), (1, .inl v1_12), (3, .inl v3_56), (5, .inl v5_171)]) (st' := []) (h' := gr_h I136 J137) (C := (True ∧ True)) rfl ⟨trivial, trivial⟩ ?_
                                  refine gv_pick [1, 2, 3, 0, 4] rfl ?_
                                  exact L336 (v4_171 + 1) (by omega) e3_171
                          have f497 := (show 0 ≤ I136 6 (Int.toNat v3_56) ∧ I136 6 (Int.toNat v3_56) ≤ 4 from (hI136 6 (Int.toNat v3_56)).1)
                          refine gv_run 5 true hD (pc' := 272) (lv' := [(0, .inr (.inr (some 0))), (1, .inl v1_12), (2, .inl v2_56), (3, .inl v3_56), (4, .inl v4_160)]) (st' := [.inl (I136 6 (Int.toNat v3_56)), .inl v4_160]) (h' := gr_h I136 J137) (C := (((((True ∧ True) ∧ True) ∧ True) ∧ True) ∧ (0 ≤ v3_56 ∧ v3_56 < ((96 : Nat) : Int)))) rfl ⟨⟨⟨⟨⟨trivial, trivial⟩, trivial⟩, trivial⟩, trivial⟩, ⟨by omega, by omega⟩⟩ ?_
                          refine gv_icmp_ge (t := 299) hD rfl rfl ⟨⟨by omega, by omega⟩, ⟨by omega, by omega⟩⟩ (fun c498 => ?_) (fun c498 => ?_)
                          · refine gv_run 4 true hD (pc' := 305) (lv' := [(5, .inl 0), (4, .inl 0), (0, .inr (.inr (some 0))), (1, .inl v1_12), (2, .inl v2_56), (3, .inl v3_56)]) (st' := []) (h' := gr_h I136 J137) (C := ((((True ∧ True) ∧ True) ∧ True) ∧ True)) rfl ⟨⟨⟨⟨trivial, trivial⟩, trivial⟩, trivial⟩, trivial⟩ ?_
                            refine gv_pick [2, 3, 5, 1, 0] rfl ?_
                            exact L305 _ 0 0 (Nat.lt_succ_self _) (by omega) (gr_LI_of e2_160 (by omega) (by omega) (by omega))
                          · have f499 := (show (-1) ≤ I136 74 (Int.toNat v4_160) ∧ I136 74 (Int.toNat v4_160) ≤ 1000 from (hI136 74 (Int.toNat v4_160)).1)
                            refine gv_run 4 true hD (pc' := 282) (lv' := [(0, .inr (.inr (some 0))), (1, .inl v1_12), (2, .inl v2_56), (3, .inl v3_56), (4, .inl v4_160)]) (st' := [.inl (I136 74 (Int.toNat v4_160))]) (h' := gr_h I136 J137) (C := ((((True ∧ True) ∧ True) ∧ True) ∧ (0 ≤ v4_160 ∧ v4_160 < ((4 : Nat) : Int)))) rfl ⟨⟨⟨⟨trivial, trivial⟩, trivial⟩, trivial⟩, ⟨by omega, by omega⟩⟩ ?_
                            refine gv_if_ge (t := 293) hD rfl rfl ⟨by omega, by omega⟩ (fun c500 => ?_) (fun c500 => ?_)
                            · refine gv_run 2 true hD (pc' := 264) (lv' := [(4, .inl (v4_160 + 1)), (0, .inr (.inr (some 0))), (1, .inl v1_12), (2, .inl v2_56), (3, .inl v3_56)]) (st' := []) (h' := gr_h I136 J137) (C := ((True ∧ True) ∧ True)) rfl ⟨⟨trivial, trivial⟩, trivial⟩ ?_
                              refine gv_pick [1, 2, 3, 4, 0] rfl ?_
                              exact ih264 (v4_160 + 1) (by omega) (by omega) (gr_R3_nx e2_160 (by omega) (by omega))
                            · refine gv_run 3 true hD (pc' := 289) (lv' := [(0, .inr (.inr (some 0))), (1, .inl v1_12), (2, .inl v2_56), (3, .inl v3_56), (4, .inl v4_160)]) (st' := [.inl v2_56, .inl 6, .inr (.inr (some 0))]) (h' := gr_h I136 J137) (C := (((True ∧ True) ∧ True) ∧ True)) rfl ⟨⟨⟨trivial, trivial⟩, trivial⟩, trivial⟩ ?_
                              obtain ⟨r501, h501, E501, P501⟩ := r_no (ws0 := ws0) (tb := tb) hws htb ext I136 J137 hI136 6 v2_56 ⟨by omega, by omega⟩ ⟨by omega, by omega⟩ 
                              obtain ⟨I502, J503, rfl, hI502, g501, k501, ⟨z501, rfl, q501⟩⟩ := P501
                              have FI502 := gr_frt FI136 g501 rfl rfl
                              have FJ503 := gr_fjt FJ137 k501 rfl rfl
                              have t504 := g501 0 71 rfl
                              have t505 := g501 0 72 rfl
                              have t506 := g501 0 73 rfl
                              have t507 := g501 0 69 rfl
                              have t508 := g501 0 6 rfl
                              have t509 := g501 0 59 rfl
                              have t510 := g501 0 118 rfl
                              have t511 := g501 0 119 rfl
                              have t512 := g501 0 3 rfl
                              have t513 := g501 19 (Int.toNat v1_12) rfl
                              have f514 := (show 0 ≤ I502 0 71 ∧ I502 0 71 ≤ 5 from (hI502 0 71).1)
                              have f515 := (show 0 ≤ I502 0 72 ∧ I502 0 72 ≤ 1000 from (hI502 0 72).1)
                              have f516 := (show 0 ≤ I502 0 73 ∧ I502 0 73 ≤ 1001 from (hI502 0 73).1)
                              have f517 := (show 0 ≤ I502 0 69 ∧ I502 0 69 ≤ 1000 from (hI502 0 69).1)
                              have f518 := (show (-1) ≤ I502 0 6 ∧ I502 0 6 ≤ 7 from (hI502 0 6).1)
                              have f519 := (show 0 ≤ I502 0 59 ∧ I502 0 59 ≤ 2000 from (hI502 0 59).1)
                              have f520 := (show 0 ≤ I502 0 118 ∧ I502 0 118 ≤ 6 from (hI502 0 118).1)
                              have f521 := (show 0 ≤ I502 0 119 ∧ I502 0 119 ≤ 6 from (hI502 0 119).1)
                              have f522 := (show 0 ≤ I502 0 3 ∧ I502 0 3 ≤ 96 from (hI502 0 3).1)
                              have KLN_I502 := gr_LN_fr KLN_I136 (fun k => g501 19 k rfl) (by omega) (by omega)
                              have KGR_I502 := gr_GR_fr KGR_I136 (fun k => g501 19 k rfl) (fun k => g501 18 k rfl) (fun k => g501 36 k rfl) (fun k => g501 41 k rfl) (fun k => g501 42 k rfl) (fun k => g501 43 k rfl) (fun k => g501 45 k rfl) (fun k => g501 46 k rfl) (fun k => g501 47 k rfl) (fun k => g501 6 k rfl) (fun k => g501 7 k rfl) (fun k => g501 8 k rfl) (g501 0 3 rfl)
                              have KST_I502 := gr_ST_fr KST_I136 (fun k => g501 6 k rfl) (fun k => g501 19 k rfl) (fun k => g501 18 k rfl) (fun k => g501 41 k rfl) (fun k => g501 36 k rfl) (g501 0 3 rfl)
                              have t523 := KLN_I502 (Int.toNat v1_12) (by omega)
                              refine gv_callV hD rfl (As := [.inl 6, .inl v2_56]) (st := []) rfl (by decide) rfl rfl (gr_lV hws rfl) (Nat.le_of_ble_eq_true rfl) (gz_Ev_mono (d := 1) (by decide) E501) ?_
                              show gv_X _ _ (292, [(0, .inr (.inr (some 0))), (1, .inl v1_12), (2, .inl v2_56), (3, .inl v3_56), (4, .inl v4_160)], [.inl z501], gr_sh ++ ext, gr_h I502 J503)
                              exact gv_zret hD rfl (by omega) ⟨I502, J503, rfl, hI502, FI502, FJ503, KLN_I502, KGR_I502, KST_I502, ⟨_, rfl, by omega⟩⟩
                      refine gv_run 2 true hD (pc' := 264) (lv' := [(4, .inl 0), (0, .inr (.inr (some 0))), (1, .inl v1_12), (2, .inl v2_56), (3, .inl v3_56)]) (st' := []) (h' := gr_h I136 J137) (C := ((True ∧ True) ∧ True)) rfl ⟨⟨trivial, trivial⟩, trivial⟩ ?_
                      refine gv_pick [1, 2, 3, 4, 0] rfl ?_
                      exact L264 _ 0 (Nat.lt_succ_self _) (by omega) e3_149
                    refine gv_run 2 true hD (pc' := 186) (lv' := [(0, .inr (.inr (some 0))), (1, .inl v1_12), (2, .inl v2_56), (3, .inl v3_56)]) (st' := [.inl 59, .inr (.inr (some 0))]) (h' := gr_h I136 J137) (C := ((True ∧ True) ∧ True)) rfl ⟨⟨trivial, trivial⟩, trivial⟩ ?_
                    obtain ⟨r524, h524, E524, P524⟩ := r_sign (ws0 := ws0) (tb := tb) hws htb ext I136 J137 hI136 59 ⟨by omega, by omega⟩ (by omega)
                    obtain ⟨rfl, ⟨z524, rfl, q524⟩⟩ := P524
                    refine gv_callV hD rfl (As := [.inl 59]) (st := []) rfl (by decide) rfl rfl (gr_lV hws rfl) (Nat.le_of_ble_eq_true rfl) (gz_Ev_mono (d := 1) (by decide) E524) ?_
                    show gv_X _ _ (189, [(0, .inr (.inr (some 0))), (1, .inl v1_12), (2, .inl v2_56), (3, .inl v3_56)], [.inl z524], gr_sh ++ ext, gr_h I136 J137)
                    refine gv_if_ne (t := 198) hD rfl rfl ⟨by omega, by omega⟩ (fun c525 => ?_) (fun c525 => ?_)
                    · have f526 := (show 0 ≤ I136 0 118 ∧ I136 0 118 ≤ 6 from (hI136 0 118).1)
                      refine gv_run 3 true hD (pc' := 203) (lv' := [(0, .inr (.inr (some 0))), (1, .inl v1_12), (2, .inl v2_56), (3, .inl v3_56)]) (st' := [.inl 1, .inl (I136 0 118)]) (h' := gr_h I136 J137) (C := (((True ∧ True) ∧ True) ∧ True)) rfl ⟨⟨⟨trivial, trivial⟩, trivial⟩, trivial⟩ ?_
                      refine gv_icmp_ne (t := 261) hD rfl rfl ⟨⟨by omega, by omega⟩, ⟨by omega, by omega⟩⟩ (fun c527 => ?_) (fun c527 => ?_)
                      · exact L261 (by omega) ⟨e3_138, (fun (a9 : I136 0 118 = 1) (b9 : (I136 68 (Int.toNat 0)) < 0) => (by omega : I136 7 (Int.toNat (((4 * v3_56) - 1) - (I136 68 (Int.toNat 0)))) < I136 8 (Int.toNat v3_56))), fun j hj => absurd hj (by omega)⟩
                      · have f528 := (show (-4) ≤ I136 68 (Int.toNat 0) ∧ I136 68 (Int.toNat 0) ≤ 32015 from (hI136 68 (Int.toNat 0)).1)
                        refine gv_run 4 true hD (pc' := 212) (lv' := [(0, .inr (.inr (some 0))), (1, .inl v1_12), (2, .inl v2_56), (3, .inl v3_56)]) (st' := [.inl (I136 68 (Int.toNat 0))]) (h' := gr_h I136 J137) (C := ((((True ∧ True) ∧ True) ∧ True) ∧ (0 ≤ 0 ∧ 0 < ((6 : Nat) : Int)))) rfl ⟨⟨⟨⟨trivial, trivial⟩, trivial⟩, trivial⟩, ⟨by omega, by omega⟩⟩ ?_
                        refine gv_if_ge (t := 261) hD rfl rfl ⟨by omega, by omega⟩ (fun c529 => ?_) (fun c529 => ?_)
                        · exact L261 (by omega) ⟨e3_138, (fun (a9 : I136 0 118 = 1) (b9 : (I136 68 (Int.toNat 0)) < 0) => (by omega : I136 7 (Int.toNat (((4 * v3_56) - 1) - (I136 68 (Int.toNat 0)))) < I136 8 (Int.toNat v3_56))), fun j hj => absurd hj (by omega)⟩
                        · refine gv_run 7 true hD (pc' := 224) (lv' := [(0, .inr (.inr (some 0))), (1, .inl v1_12), (2, .inl v2_56), (3, .inl v3_56)]) (st' := [.inl ((4 * v3_56) - 1), .inr (.inr (some 7))]) (h' := gr_h I136 J137) (C := (((((((True ∧ True) ∧ True) ∧ True) ∧ True) ∧ True) ∧ True) ∧ True)) rfl ⟨⟨⟨⟨⟨⟨⟨trivial, trivial⟩, trivial⟩, trivial⟩, trivial⟩, trivial⟩, trivial⟩, trivial⟩ ?_
                          have f530 := (show (-4) ≤ I136 68 (Int.toNat 0) ∧ I136 68 (Int.toNat 0) ≤ 32015 from (hI136 68 (Int.toNat 0)).1)
                          refine gv_run 4 true hD (pc' := 230) (lv' := [(0, .inr (.inr (some 0))), (1, .inl v1_12), (2, .inl v2_56), (3, .inl v3_56)]) (st' := [.inl (I136 68 (Int.toNat 0)), .inl ((4 * v3_56) - 1), .inr (.inr (some 7))]) (h' := gr_h I136 J137) (C := ((((True ∧ True) ∧ True) ∧ True) ∧ (0 ≤ 0 ∧ 0 < ((6 : Nat) : Int)))) rfl ⟨⟨⟨⟨trivial, trivial⟩, trivial⟩, trivial⟩, ⟨by omega, by omega⟩⟩ ?_
                          have f531 := (show 0 ≤ I136 7 (Int.toNat ((((4 * v3_56) - 1) - (I136 68 (Int.toNat 0))))) ∧ I136 7 (Int.toNat ((((4 * v3_56) - 1) - (I136 68 (Int.toNat 0))))) ≤ 31 from (hI136 7 (Int.toNat ((((4 * v3_56) - 1) - (I136 68 (Int.toNat 0)))))).1)
                          refine gv_run 2 true hD (pc' := 232) (lv' := [(0, .inr (.inr (some 0))), (1, .inl v1_12), (2, .inl v2_56), (3, .inl v3_56)]) (st' := [.inl (I136 7 (Int.toNat ((((4 * v3_56) - 1) - (I136 68 (Int.toNat 0))))))]) (h' := gr_h I136 J137) (C := ((True ∧ True) ∧ (0 ≤ ((((4 * v3_56) - 1) - (I136 68 (Int.toNat 0)))) ∧ ((((4 * v3_56) - 1) - (I136 68 (Int.toNat 0)))) < ((384 : Nat) : Int)))) rfl ⟨⟨trivial, trivial⟩, ⟨by omega, by omega⟩⟩ ?_
                          have f532 := (show 0 ≤ I136 8 (Int.toNat v3_56) ∧ I136 8 (Int.toNat v3_56) ≤ 31 from (hI136 8 (Int.toNat v3_56)).1)
                          refine gv_run 4 true hD (pc' := 238) (lv' := [(0, .inr (.inr (some 0))), (1, .inl v1_12), (2, .inl v2_56), (3, .inl v3_56)]) (st' := [.inl (I136 8 (Int.toNat v3_56)), .inl (I136 7 (Int.toNat ((((4 * v3_56) - 1) - (I136 68 (Int.toNat 0))))))]) (h' := gr_h I136 J137) (C := ((((True ∧ True) ∧ True) ∧ True) ∧ (0 ≤ v3_56 ∧ v3_56 < ((96 : Nat) : Int)))) rfl ⟨⟨⟨⟨trivial, trivial⟩, trivial⟩, trivial⟩, ⟨by omega, by omega⟩⟩ ?_
                          refine gv_icmp_lt (t := 261) hD rfl rfl ⟨⟨by omega, by omega⟩, ⟨by omega, by omega⟩⟩ (fun c533 => ?_) (fun c533 => ?_)
                          · exact L261 (by omega) ⟨e3_138, (fun (a9 : I136 0 118 = 1) (b9 : (I136 68 (Int.toNat 0)) < 0) => (by omega : I136 7 (Int.toNat (((4 * v3_56) - 1) - (I136 68 (Int.toNat 0)))) < I136 8 (Int.toNat v3_56))), fun j hj => absurd hj (by omega)⟩
                          · refine gv_run 7 true hD (pc' := 253) (lv' := [(0, .inr (.inr (some 0))), (1, .inl v1_12), (2, .inl v2_56), (3, .inl v3_56)]) (st' := [.inr (.inr (some 68)), .inl (-1), .inr (.inr (some 74)), .inl 6, .inr (.inr (some 0))]) (h' := gr_h I136 J137) (C := (((((((True ∧ True) ∧ True) ∧ True) ∧ True) ∧ True) ∧ True) ∧ True)) rfl ⟨⟨⟨⟨⟨⟨⟨trivial, trivial⟩, trivial⟩, trivial⟩, trivial⟩, trivial⟩, trivial⟩, trivial⟩ ?_
                            have f534 := (show (-4) ≤ I136 68 (Int.toNat 0) ∧ I136 68 (Int.toNat 0) ≤ 32015 from (hI136 68 (Int.toNat 0)).1)
                            refine gv_run 2 true hD (pc' := 255) (lv' := [(0, .inr (.inr (some 0))), (1, .inl v1_12), (2, .inl v2_56), (3, .inl v3_56)]) (st' := [.inl (I136 68 (Int.toNat 0)), .inl (-1), .inr (.inr (some 74)), .inl 6, .inr (.inr (some 0))]) (h' := gr_h I136 J137) (C := ((True ∧ True) ∧ (0 ≤ 0 ∧ 0 < ((6 : Nat) : Int)))) rfl ⟨⟨trivial, trivial⟩, ⟨by omega, by omega⟩⟩ ?_
                            have f535 := (show (-1) ≤ I136 74 (Int.toNat (((-1) - (I136 68 (Int.toNat 0))))) ∧ I136 74 (Int.toNat (((-1) - (I136 68 (Int.toNat 0))))) ≤ 1000 from (hI136 74 (Int.toNat (((-1) - (I136 68 (Int.toNat 0)))))).1)
                            refine gv_run 2 true hD (pc' := 257) (lv' := [(0, .inr (.inr (some 0))), (1, .inl v1_12), (2, .inl v2_56), (3, .inl v3_56)]) (st' := [.inl (I136 74 (Int.toNat (((-1) - (I136 68 (Int.toNat 0)))))), .inl 6, .inr (.inr (some 0))]) (h' := gr_h I136 J137) (C := ((True ∧ True) ∧ (0 ≤ (((-1) - (I136 68 (Int.toNat 0)))) ∧ (((-1) - (I136 68 (Int.toNat 0)))) < ((4 : Nat) : Int)))) rfl ⟨⟨trivial, trivial⟩, ⟨by omega, by omega⟩⟩ ?_
                            obtain ⟨r536, h536, E536, P536⟩ := r_no (ws0 := ws0) (tb := tb) hws htb ext I136 J137 hI136 6 ((I136 74 (Int.toNat (((-1) - (I136 68 (Int.toNat 0))))))) ⟨by omega, by omega⟩ ⟨by omega, by omega⟩ 
                            obtain ⟨I537, J538, rfl, hI537, g536, k536, ⟨z536, rfl, q536⟩⟩ := P536
                            have FI537 := gr_frt FI136 g536 rfl rfl
                            have FJ538 := gr_fjt FJ137 k536 rfl rfl
                            have t539 := g536 0 71 rfl
                            have t540 := g536 0 72 rfl
                            have t541 := g536 0 73 rfl
                            have t542 := g536 0 69 rfl
                            have t543 := g536 0 6 rfl
                            have t544 := g536 0 59 rfl
                            have t545 := g536 0 118 rfl
                            have t546 := g536 0 119 rfl
                            have t547 := g536 0 3 rfl
                            have t548 := g536 19 (Int.toNat v1_12) rfl
                            have f549 := (show 0 ≤ I537 0 71 ∧ I537 0 71 ≤ 5 from (hI537 0 71).1)
                            have f550 := (show 0 ≤ I537 0 72 ∧ I537 0 72 ≤ 1000 from (hI537 0 72).1)
                            have f551 := (show 0 ≤ I537 0 73 ∧ I537 0 73 ≤ 1001 from (hI537 0 73).1)
                            have f552 := (show 0 ≤ I537 0 69 ∧ I537 0 69 ≤ 1000 from (hI537 0 69).1)
                            have f553 := (show (-1) ≤ I537 0 6 ∧ I537 0 6 ≤ 7 from (hI537 0 6).1)
                            have f554 := (show 0 ≤ I537 0 59 ∧ I537 0 59 ≤ 2000 from (hI537 0 59).1)
                            have f555 := (show 0 ≤ I537 0 118 ∧ I537 0 118 ≤ 6 from (hI537 0 118).1)
                            have f556 := (show 0 ≤ I537 0 119 ∧ I537 0 119 ≤ 6 from (hI537 0 119).1)
                            have f557 := (show 0 ≤ I537 0 3 ∧ I537 0 3 ≤ 96 from (hI537 0 3).1)
                            have KLN_I537 := gr_LN_fr KLN_I136 (fun k => g536 19 k rfl) (by omega) (by omega)
                            have KGR_I537 := gr_GR_fr KGR_I136 (fun k => g536 19 k rfl) (fun k => g536 18 k rfl) (fun k => g536 36 k rfl) (fun k => g536 41 k rfl) (fun k => g536 42 k rfl) (fun k => g536 43 k rfl) (fun k => g536 45 k rfl) (fun k => g536 46 k rfl) (fun k => g536 47 k rfl) (fun k => g536 6 k rfl) (fun k => g536 7 k rfl) (fun k => g536 8 k rfl) (g536 0 3 rfl)
                            have KST_I537 := gr_ST_fr KST_I136 (fun k => g536 6 k rfl) (fun k => g536 19 k rfl) (fun k => g536 18 k rfl) (fun k => g536 41 k rfl) (fun k => g536 36 k rfl) (g536 0 3 rfl)
                            have t558 := KLN_I537 (Int.toNat v1_12) (by omega)
                            refine gv_callV hD rfl (As := [.inl 6, .inl (I136 74 (Int.toNat (((-1) - (I136 68 (Int.toNat 0))))))]) (st := []) rfl (by decide) rfl rfl (gr_lV hws rfl) (Nat.le_of_ble_eq_true rfl) (gz_Ev_mono (d := 1) (by decide) E536) ?_
                            show gv_X _ _ (260, [(0, .inr (.inr (some 0))), (1, .inl v1_12), (2, .inl v2_56), (3, .inl v3_56)], [.inl z536], gr_sh ++ ext, gr_h I537 J538)
                            exact gv_zret hD rfl (by omega) ⟨I537, J538, rfl, hI537, FI537, FJ538, KLN_I537, KGR_I537, KST_I537, ⟨_, rfl, by omega⟩⟩
                    · refine gv_run 2 true hD (pc' := 194) (lv' := [(0, .inr (.inr (some 0))), (1, .inl v1_12), (2, .inl v2_56), (3, .inl v3_56)]) (st' := [.inl 1, .inr (.inr (some 0))]) (h' := gr_h I136 J137) (C := ((True ∧ True) ∧ True)) rfl ⟨⟨trivial, trivial⟩, trivial⟩ ?_
                      obtain ⟨r559, h559, E559, P559⟩ := r_no_ (ws0 := ws0) (tb := tb) hws htb ext I136 J137 hI136 1 ⟨by omega, by omega⟩ 
                      obtain ⟨I560, J561, rfl, hI560, g559, k559, ⟨z559, rfl, q559⟩⟩ := P559
                      have FI560 := gr_frt FI136 g559 rfl rfl
                      have FJ561 := gr_fjt FJ137 k559 rfl rfl
                      have t562 := g559 0 71 rfl
                      have t563 := g559 0 72 rfl
                      have t564 := g559 0 73 rfl
                      have t565 := g559 0 69 rfl
                      have t566 := g559 0 6 rfl
                      have t567 := g559 0 59 rfl
                      have t568 := g559 0 118 rfl
                      have t569 := g559 0 119 rfl
                      have t570 := g559 0 3 rfl
                      have t571 := g559 19 (Int.toNat v1_12) rfl
                      have f572 := (show 0 ≤ I560 0 71 ∧ I560 0 71 ≤ 5 from (hI560 0 71).1)
                      have f573 := (show 0 ≤ I560 0 72 ∧ I560 0 72 ≤ 1000 from (hI560 0 72).1)
                      have f574 := (show 0 ≤ I560 0 73 ∧ I560 0 73 ≤ 1001 from (hI560 0 73).1)
                      have f575 := (show 0 ≤ I560 0 69 ∧ I560 0 69 ≤ 1000 from (hI560 0 69).1)
                      have f576 := (show (-1) ≤ I560 0 6 ∧ I560 0 6 ≤ 7 from (hI560 0 6).1)
                      have f577 := (show 0 ≤ I560 0 59 ∧ I560 0 59 ≤ 2000 from (hI560 0 59).1)
                      have f578 := (show 0 ≤ I560 0 118 ∧ I560 0 118 ≤ 6 from (hI560 0 118).1)
                      have f579 := (show 0 ≤ I560 0 119 ∧ I560 0 119 ≤ 6 from (hI560 0 119).1)
                      have f580 := (show 0 ≤ I560 0 3 ∧ I560 0 3 ≤ 96 from (hI560 0 3).1)
                      have KLN_I560 := gr_LN_fr KLN_I136 (fun k => g559 19 k rfl) (by omega) (by omega)
                      have KGR_I560 := gr_GR_fr KGR_I136 (fun k => g559 19 k rfl) (fun k => g559 18 k rfl) (fun k => g559 36 k rfl) (fun k => g559 41 k rfl) (fun k => g559 42 k rfl) (fun k => g559 43 k rfl) (fun k => g559 45 k rfl) (fun k => g559 46 k rfl) (fun k => g559 47 k rfl) (fun k => g559 6 k rfl) (fun k => g559 7 k rfl) (fun k => g559 8 k rfl) (g559 0 3 rfl)
                      have KST_I560 := gr_ST_fr KST_I136 (fun k => g559 6 k rfl) (fun k => g559 19 k rfl) (fun k => g559 18 k rfl) (fun k => g559 41 k rfl) (fun k => g559 36 k rfl) (g559 0 3 rfl)
                      have t581 := KLN_I560 (Int.toNat v1_12) (by omega)
                      refine gv_callV hD rfl (As := [.inl 1]) (st := []) rfl (by decide) rfl rfl (gr_lV hws rfl) (Nat.le_of_ble_eq_true rfl) (gz_Ev_mono (d := 2) (by decide) E559) ?_
                      show gv_X _ _ (197, [(0, .inr (.inr (some 0))), (1, .inl v1_12), (2, .inl v2_56), (3, .inl v3_56)], [.inl z559], gr_sh ++ ext, gr_h I560 J561)
                      exact gv_zret hD rfl (by omega) ⟨I560, J561, rfl, hI560, FI560, FJ561, KLN_I560, KGR_I560, KST_I560, ⟨_, rfl, by omega⟩⟩
                  refine gv_run 2 true hD (pc' := 154) (lv' := [(0, .inr (.inr (some 0))), (1, .inl v1_12), (2, .inl v2_56), (3, .inl v3_56)]) (st' := [.inl 44, .inr (.inr (some 0))]) (h' := gr_h I123 J124) (C := ((True ∧ True) ∧ True)) rfl ⟨⟨trivial, trivial⟩, trivial⟩ ?_
                  obtain ⟨r582, h582, E582, P582⟩ := r_sign (ws0 := ws0) (tb := tb) hws htb ext I123 J124 hI123 44 ⟨by omega, by omega⟩ (by omega)
                  obtain ⟨rfl, ⟨z582, rfl, q582⟩⟩ := P582
                  refine gv_callV hD rfl (As := [.inl 44]) (st := []) rfl (by decide) rfl rfl (gr_lV hws rfl) (Nat.le_of_ble_eq_true rfl) (gz_Ev_mono (d := 1) (by decide) E582) ?_
                  show gv_X _ _ (157, [(0, .inr (.inr (some 0))), (1, .inl v1_12), (2, .inl v2_56), (3, .inl v3_56)], [.inl z582], gr_sh ++ ext, gr_h I123 J124)
                  refine gv_if_eq (t := 174) hD rfl rfl ⟨by omega, by omega⟩ (fun c583 => ?_) (fun c583 => ?_)
                  · refine gv_run 1 true hD (pc' := 175) (lv' := [(0, .inr (.inr (some 0))), (1, .inl v1_12), (2, .inl v2_56), (3, .inl v3_56)]) (st' := [.inr (.inr (some 0))]) (h' := gr_h I123 J124) (C := (True ∧ True)) rfl ⟨trivial, trivial⟩ ?_
                    obtain ⟨r584, h584, E584, P584⟩ := r_cost (ws0 := ws0) (tb := tb) hws htb ext I123 J124 hI123   (by omega) (by omega) (by omega) (by omega) (by omega)
                    obtain ⟨I585, J586, rfl, hI585, g584, k584, ⟨z584, rfl, q584⟩⟩ := P584
                    have FI585 := gr_frt FI123 g584 rfl rfl
                    have FJ586 := gr_fjt FJ124 k584 rfl rfl
                    have t587 := g584 0 69 rfl
                    have t588 := g584 0 6 rfl
                    have t589 := g584 0 59 rfl
                    have t590 := g584 0 118 rfl
                    have t591 := g584 0 119 rfl
                    have t592 := g584 0 3 rfl
                    have t593 := g584 19 (Int.toNat v1_12) rfl
                    have f594 := (show 0 ≤ I585 0 71 ∧ I585 0 71 ≤ 5 from (hI585 0 71).1)
                    have f595 := (show 0 ≤ I585 0 72 ∧ I585 0 72 ≤ 1000 from (hI585 0 72).1)
                    have f596 := (show 0 ≤ I585 0 73 ∧ I585 0 73 ≤ 1001 from (hI585 0 73).1)
                    have f597 := (show 0 ≤ I585 0 69 ∧ I585 0 69 ≤ 1000 from (hI585 0 69).1)
                    have f598 := (show (-1) ≤ I585 0 6 ∧ I585 0 6 ≤ 7 from (hI585 0 6).1)
                    have f599 := (show 0 ≤ I585 0 59 ∧ I585 0 59 ≤ 2000 from (hI585 0 59).1)
                    have f600 := (show 0 ≤ I585 0 118 ∧ I585 0 118 ≤ 6 from (hI585 0 118).1)
                    have f601 := (show 0 ≤ I585 0 119 ∧ I585 0 119 ≤ 6 from (hI585 0 119).1)
                    have f602 := (show 0 ≤ I585 0 3 ∧ I585 0 3 ≤ 96 from (hI585 0 3).1)
                    have KLN_I585 := gr_LN_fr KLN_I123 (fun k => g584 19 k rfl) (by omega) (by omega)
                    have KGR_I585 := gr_GR_fr KGR_I123 (fun k => g584 19 k rfl) (fun k => g584 18 k rfl) (fun k => g584 36 k rfl) (fun k => g584 41 k rfl) (fun k => g584 42 k rfl) (fun k => g584 43 k rfl) (fun k => g584 45 k rfl) (fun k => g584 46 k rfl) (fun k => g584 47 k rfl) (fun k => g584 6 k rfl) (fun k => g584 7 k rfl) (fun k => g584 8 k rfl) (g584 0 3 rfl)
                    have KST_I585 := gr_ST_fr KST_I123 (fun k => g584 6 k rfl) (fun k => g584 19 k rfl) (fun k => g584 18 k rfl) (fun k => g584 41 k rfl) (fun k => g584 36 k rfl) (g584 0 3 rfl)
                    have t603 := KLN_I585 (Int.toNat v1_12) (by omega)
                    refine gv_callV hD rfl (As := []) (st := []) rfl (by decide) rfl rfl (gr_lV hws rfl) (Nat.le_of_ble_eq_true rfl) (gz_Ev_mono (d := 11) (by decide) E584) ?_
                    show gv_X _ _ (178, [(0, .inr (.inr (some 0))), (1, .inl v1_12), (2, .inl v2_56), (3, .inl v3_56)], [.inl z584], gr_sh ++ ext, gr_h I585 J586)
                    refine gv_if_ne (t := 183) hD rfl rfl ⟨by omega, by omega⟩ (fun c604 => ?_) (fun c604 => ?_)
                    · exact L183 I585 J586 hI585 FI585 FJ586 KLN_I585 KGR_I585 KST_I585 (by omega) (gr_R1_fr e3_125 (fun k => g584 68 k rfl) (fun k => g584 74 k rfl) (fun k => g584 6 k rfl) (fun k => g584 70 k rfl) (fun k => g584 71 k rfl) (g584 0 118 rfl) (g584 0 119 rfl))
                    · refine gv_run 1 true hD (pc' := 182) (lv' := [(0, .inr (.inr (some 0))), (1, .inl v1_12), (2, .inl v2_56), (3, .inl v3_56)]) (st' := [.inl 0]) (h' := gr_h I585 J586) (C := (True ∧ True)) rfl ⟨trivial, trivial⟩ ?_
                      exact gv_zret hD rfl (by omega) ⟨I585, J586, rfl, hI585, FI585, FJ586, KLN_I585, KGR_I585, KST_I585, ⟨_, rfl, by omega⟩⟩
                  · refine gv_run 1 true hD (pc' := 161) (lv' := [(0, .inr (.inr (some 0))), (1, .inl v1_12), (2, .inl v2_56), (3, .inl v3_56)]) (st' := [.inr (.inr (some 0))]) (h' := gr_h I123 J124) (C := (True ∧ True)) rfl ⟨trivial, trivial⟩ ?_
                    obtain ⟨r605, h605, E605, P605⟩ := r_next (ws0 := ws0) (tb := tb) hws htb ext I123 J124 hI123   (by omega)
                    obtain ⟨I606, J607, rfl, hI606, g605, k605, ⟨rfl, q605⟩⟩ := P605
                    have FI606 := gr_frt FI123 g605 rfl rfl
                    have FJ607 := gr_fjt FJ124 k605 rfl rfl
                    have t608 := g605 0 69 rfl
                    have t609 := g605 0 6 rfl
                    have t610 := g605 0 59 rfl
                    have t611 := g605 0 118 rfl
                    have t612 := g605 0 119 rfl
                    have t613 := g605 0 3 rfl
                    have t614 := g605 19 (Int.toNat v1_12) rfl
                    have f615 := (show 0 ≤ I606 0 71 ∧ I606 0 71 ≤ 5 from (hI606 0 71).1)
                    have f616 := (show 0 ≤ I606 0 72 ∧ I606 0 72 ≤ 1000 from (hI606 0 72).1)
                    have f617 := (show 0 ≤ I606 0 73 ∧ I606 0 73 ≤ 1001 from (hI606 0 73).1)
                    have f618 := (show 0 ≤ I606 0 69 ∧ I606 0 69 ≤ 1000 from (hI606 0 69).1)
                    have f619 := (show (-1) ≤ I606 0 6 ∧ I606 0 6 ≤ 7 from (hI606 0 6).1)
                    have f620 := (show 0 ≤ I606 0 59 ∧ I606 0 59 ≤ 2000 from (hI606 0 59).1)
                    have f621 := (show 0 ≤ I606 0 118 ∧ I606 0 118 ≤ 6 from (hI606 0 118).1)
                    have f622 := (show 0 ≤ I606 0 119 ∧ I606 0 119 ≤ 6 from (hI606 0 119).1)
                    have f623 := (show 0 ≤ I606 0 3 ∧ I606 0 3 ≤ 96 from (hI606 0 3).1)
                    have KLN_I606 := gr_LN_fr KLN_I123 (fun k => g605 19 k rfl) (by omega) (by omega)
                    have KGR_I606 := gr_GR_fr KGR_I123 (fun k => g605 19 k rfl) (fun k => g605 18 k rfl) (fun k => g605 36 k rfl) (fun k => g605 41 k rfl) (fun k => g605 42 k rfl) (fun k => g605 43 k rfl) (fun k => g605 45 k rfl) (fun k => g605 46 k rfl) (fun k => g605 47 k rfl) (fun k => g605 6 k rfl) (fun k => g605 7 k rfl) (fun k => g605 8 k rfl) (g605 0 3 rfl)
                    have KST_I606 := gr_ST_fr KST_I123 (fun k => g605 6 k rfl) (fun k => g605 19 k rfl) (fun k => g605 18 k rfl) (fun k => g605 41 k rfl) (fun k => g605 36 k rfl) (g605 0 3 rfl)
                    have t624 := KLN_I606 (Int.toNat v1_12) (by omega)
                    refine gv_callV hD rfl (As := []) (st := []) rfl (by decide) rfl rfl (gr_lV hws rfl) (Nat.le_of_ble_eq_true rfl) (gz_Ev_mono (d := 10) (by decide) E605) ?_
                    show gv_X _ _ (164, [(0, .inr (.inr (some 0))), (1, .inl v1_12), (2, .inl v2_56), (3, .inl v3_56)], [], gr_sh ++ ext, gr_h I606 J607)
                    refine gv_run 2 true hD (pc' := 166) (lv' := [(0, .inr (.inr (some 0))), (1, .inl v1_12), (2, .inl v2_56), (3, .inl v3_56)]) (st' := [.inl v3_56, .inr (.inr (some 0))]) (h' := gr_h I606 J607) (C := ((True ∧ True) ∧ True)) rfl ⟨⟨trivial, trivial⟩, trivial⟩ ?_
                    obtain ⟨r625, h625, E625, P625⟩ := r_said_w (ws0 := ws0) (tb := tb) hws htb ext I606 J607 hI606 v3_56 ⟨by omega, by omega⟩ (by omega) (by omega) (by omega) (by omega) (by omega) (by omega) (gr_R1_fr e3_125 (fun k => g605 68 k rfl) (fun k => g605 74 k rfl) (fun k => g605 6 k rfl) (fun k => g605 70 k rfl) (fun k => g605 71 k rfl) (g605 0 118 rfl) (g605 0 119 rfl))
                    obtain ⟨I626, J627, rfl, hI626, g625, k625, ⟨z625, rfl, q625⟩⟩ := P625
                    have FI626 := gr_frt FI606 g625 rfl rfl
                    have FJ627 := gr_fjt FJ607 k625 rfl rfl
                    have t628 := g625 0 69 rfl
                    have t629 := g625 0 6 rfl
                    have t630 := g625 0 59 rfl
                    have t631 := g625 0 118 rfl
                    have t632 := g625 0 3 rfl
                    have t633 := g625 19 (Int.toNat v1_12) rfl
                    have f634 := (show 0 ≤ I626 0 71 ∧ I626 0 71 ≤ 5 from (hI626 0 71).1)
                    have f635 := (show 0 ≤ I626 0 72 ∧ I626 0 72 ≤ 1000 from (hI626 0 72).1)
                    have f636 := (show 0 ≤ I626 0 73 ∧ I626 0 73 ≤ 1001 from (hI626 0 73).1)
                    have f637 := (show 0 ≤ I626 0 69 ∧ I626 0 69 ≤ 1000 from (hI626 0 69).1)
                    have f638 := (show (-1) ≤ I626 0 6 ∧ I626 0 6 ≤ 7 from (hI626 0 6).1)
                    have f639 := (show 0 ≤ I626 0 59 ∧ I626 0 59 ≤ 2000 from (hI626 0 59).1)
                    have f640 := (show 0 ≤ I626 0 118 ∧ I626 0 118 ≤ 6 from (hI626 0 118).1)
                    have f641 := (show 0 ≤ I626 0 119 ∧ I626 0 119 ≤ 6 from (hI626 0 119).1)
                    have f642 := (show 0 ≤ I626 0 3 ∧ I626 0 3 ≤ 96 from (hI626 0 3).1)
                    have KLN_I626 := gr_LN_fr KLN_I606 (fun k => g625 19 k rfl) (by omega) (by omega)
                    have KGR_I626 := gr_GR_fr KGR_I606 (fun k => g625 19 k rfl) (fun k => g625 18 k rfl) (fun k => g625 36 k rfl) (fun k => g625 41 k rfl) (fun k => g625 42 k rfl) (fun k => g625 43 k rfl) (fun k => g625 45 k rfl) (fun k => g625 46 k rfl) (fun k => g625 47 k rfl) (fun k => g625 6 k rfl) (fun k => g625 7 k rfl) (fun k => g625 8 k rfl) (g625 0 3 rfl)
                    have KST_I626 := gr_ST_fr KST_I606 (fun k => g625 6 k rfl) (fun k => g625 19 k rfl) (fun k => g625 18 k rfl) (fun k => g625 41 k rfl) (fun k => g625 36 k rfl) (g625 0 3 rfl)
                    have t643 := KLN_I626 (Int.toNat v1_12) (by omega)
                    refine gv_callV hD rfl (As := [.inl v3_56]) (st := []) rfl (by decide) rfl rfl (gr_lV hws rfl) (Nat.le_of_ble_eq_true rfl) (gz_Ev_mono (d := 12) (by decide) E625) ?_
                    show gv_X _ _ (169, [(0, .inr (.inr (some 0))), (1, .inl v1_12), (2, .inl v2_56), (3, .inl v3_56)], [.inl z625], gr_sh ++ ext, gr_h I626 J627)
                    refine gv_if_ne (t := 151) hD rfl rfl ⟨by omega, by omega⟩ (fun c644 => ?_) (fun c644 => ?_)
                    · exact ih151 I626 J627 (by omega) hI626 FI626 FJ627 KLN_I626 KGR_I626 KST_I626 (by omega) (gr_o_x q625.2.2.2.2.2.2.2.2.2.2 (by omega))
                    · refine gv_run 1 true hD (pc' := 173) (lv' := [(0, .inr (.inr (some 0))), (1, .inl v1_12), (2, .inl v2_56), (3, .inl v3_56)]) (st' := [.inl 0]) (h' := gr_h I626 J627) (C := (True ∧ True)) rfl ⟨trivial, trivial⟩ ?_
                      exact gv_zret hD rfl (by omega) ⟨I626, J627, rfl, hI626, FI626, FJ627, KLN_I626, KGR_I626, KST_I626, ⟨_, rfl, by omega⟩⟩
              have f645 := (show 0 ≤ I80 0 71 ∧ I80 0 71 ≤ 5 from (hI80 0 71).1)
              refine gv_run 3 true hD (pc' := 130) (lv' := [(0, .inr (.inr (some 0))), (1, .inl v1_12), (2, .inl v2_56), (3, .inl v3_56)]) (st' := [.inl 3, .inl (I80 0 71)]) (h' := gr_h I80 J81) (C := (((True ∧ True) ∧ True) ∧ True)) rfl ⟨⟨⟨trivial, trivial⟩, trivial⟩, trivial⟩ ?_
              refine gv_icmp_eq (t := 141) hD rfl rfl ⟨⟨by omega, by omega⟩, ⟨by omega, by omega⟩⟩ (fun c646 => ?_) (fun c646 => ?_)
              · exact L141 (by omega) e3_82
              · have f647 := (show 0 ≤ I80 0 71 ∧ I80 0 71 ≤ 5 from (hI80 0 71).1)
                refine gv_run 3 true hD (pc' := 138) (lv' := [(0, .inr (.inr (some 0))), (1, .inl v1_12), (2, .inl v2_56), (3, .inl v3_56)]) (st' := [.inl 2, .inl (I80 0 71)]) (h' := gr_h I80 J81) (C := (((True ∧ True) ∧ True) ∧ True)) rfl ⟨⟨⟨trivial, trivial⟩, trivial⟩, trivial⟩ ?_
                refine gv_icmp_ne (t := 151) hD rfl rfl ⟨⟨by omega, by omega⟩, ⟨by omega, by omega⟩⟩ (fun c648 => ?_) (fun c648 => ?_)
                · exact L151 _ I80 J81 (Nat.lt_succ_self _) hI80 FI80 FJ81 KLN_I80 KGR_I80 KST_I80 (by omega) e3_82
                · exact L141 (by omega) e3_82
          refine gv_run 2 true hD (pc' := 86) (lv' := [(0, .inr (.inr (some 0))), (1, .inl v1_12), (2, .inl v2_56), (3, .inl v3_56), (4, .inl v4_69)]) (st' := [.inl 4, .inl v4_69]) (h' := gr_h I67 J68) (C := ((True ∧ True) ∧ True)) rfl ⟨⟨trivial, trivial⟩, trivial⟩ ?_
          refine gv_icmp_ge (t := 103) hD rfl rfl ⟨⟨by omega, by omega⟩, ⟨by omega, by omega⟩⟩ (fun c649 => ?_) (fun c649 => ?_)
          · have f650 := (show 0 ≤ I67 0 71 ∧ I67 0 71 ≤ 5 from (hI67 0 71).1)
            refine gv_run 3 true hD (pc' := 108) (lv' := [(0, .inr (.inr (some 0))), (1, .inl v1_12), (2, .inl v2_56), (3, .inl v3_56), (4, .inl v4_69)]) (st' := [.inl 3, .inl (I67 0 71)]) (h' := gr_h I67 J68) (C := (((True ∧ True) ∧ True) ∧ True)) rfl ⟨⟨⟨trivial, trivial⟩, trivial⟩, trivial⟩ ?_
            refine gv_icmp_eq (t := 125) hD rfl rfl ⟨⟨by omega, by omega⟩, ⟨by omega, by omega⟩⟩ (fun c651 => ?_) (fun c651 => ?_)
            · refine gv_pick [0, 1, 2, 3] rfl ?_
              exact L125 _ I67 J68 (Nat.lt_succ_self _) hI67 FI67 FJ68 KLN_I67 KGR_I67 KST_I67 (by omega) (gr_R1_00 e5_69 (by omega) (by omega) (by omega))
            · have f652 := (show 0 ≤ I67 0 71 ∧ I67 0 71 ≤ 5 from (hI67 0 71).1)
              refine gv_run 3 true hD (pc' := 116) (lv' := [(0, .inr (.inr (some 0))), (1, .inl v1_12), (2, .inl v2_56), (3, .inl v3_56), (4, .inl v4_69)]) (st' := [.inl 2, .inl (I67 0 71)]) (h' := gr_h I67 J68) (C := (((True ∧ True) ∧ True) ∧ True)) rfl ⟨⟨⟨trivial, trivial⟩, trivial⟩, trivial⟩ ?_
              refine gv_icmp_eq (t := 125) hD rfl rfl ⟨⟨by omega, by omega⟩, ⟨by omega, by omega⟩⟩ (fun c653 => ?_) (fun c653 => ?_)
              · refine gv_pick [0, 1, 2, 3] rfl ?_
                exact L125 _ I67 J68 (Nat.lt_succ_self _) hI67 FI67 FJ68 KLN_I67 KGR_I67 KST_I67 (by omega) (gr_R1_00 e5_69 (by omega) (by omega) (by omega))
              · refine gv_run 2 true hD (pc' := 121) (lv' := [(0, .inr (.inr (some 0))), (1, .inl v1_12), (2, .inl v2_56), (3, .inl v3_56), (4, .inl v4_69)]) (st' := [.inl 1, .inr (.inr (some 0))]) (h' := gr_h I67 J68) (C := ((True ∧ True) ∧ True)) rfl ⟨⟨trivial, trivial⟩, trivial⟩ ?_
                obtain ⟨r654, h654, E654, P654⟩ := r_no_ (ws0 := ws0) (tb := tb) hws htb ext I67 J68 hI67 1 ⟨by omega, by omega⟩ 
                obtain ⟨I655, J656, rfl, hI655, g654, k654, ⟨z654, rfl, q654⟩⟩ := P654
                have FI655 := gr_frt FI67 g654 rfl rfl
                have FJ656 := gr_fjt FJ68 k654 rfl rfl
                have t657 := g654 0 71 rfl
                have t658 := g654 0 72 rfl
                have t659 := g654 0 73 rfl
                have t660 := g654 0 69 rfl
                have t661 := g654 0 6 rfl
                have t662 := g654 0 59 rfl
                have t663 := g654 0 118 rfl
                have t664 := g654 0 119 rfl
                have t665 := g654 0 3 rfl
                have t666 := g654 19 (Int.toNat v1_12) rfl
                have f667 := (show 0 ≤ I655 0 71 ∧ I655 0 71 ≤ 5 from (hI655 0 71).1)
                have f668 := (show 0 ≤ I655 0 72 ∧ I655 0 72 ≤ 1000 from (hI655 0 72).1)
                have f669 := (show 0 ≤ I655 0 73 ∧ I655 0 73 ≤ 1001 from (hI655 0 73).1)
                have f670 := (show 0 ≤ I655 0 69 ∧ I655 0 69 ≤ 1000 from (hI655 0 69).1)
                have f671 := (show (-1) ≤ I655 0 6 ∧ I655 0 6 ≤ 7 from (hI655 0 6).1)
                have f672 := (show 0 ≤ I655 0 59 ∧ I655 0 59 ≤ 2000 from (hI655 0 59).1)
                have f673 := (show 0 ≤ I655 0 118 ∧ I655 0 118 ≤ 6 from (hI655 0 118).1)
                have f674 := (show 0 ≤ I655 0 119 ∧ I655 0 119 ≤ 6 from (hI655 0 119).1)
                have f675 := (show 0 ≤ I655 0 3 ∧ I655 0 3 ≤ 96 from (hI655 0 3).1)
                have KLN_I655 := gr_LN_fr KLN_I67 (fun k => g654 19 k rfl) (by omega) (by omega)
                have KGR_I655 := gr_GR_fr KGR_I67 (fun k => g654 19 k rfl) (fun k => g654 18 k rfl) (fun k => g654 36 k rfl) (fun k => g654 41 k rfl) (fun k => g654 42 k rfl) (fun k => g654 43 k rfl) (fun k => g654 45 k rfl) (fun k => g654 46 k rfl) (fun k => g654 47 k rfl) (fun k => g654 6 k rfl) (fun k => g654 7 k rfl) (fun k => g654 8 k rfl) (g654 0 3 rfl)
                have KST_I655 := gr_ST_fr KST_I67 (fun k => g654 6 k rfl) (fun k => g654 19 k rfl) (fun k => g654 18 k rfl) (fun k => g654 41 k rfl) (fun k => g654 36 k rfl) (g654 0 3 rfl)
                have t676 := KLN_I655 (Int.toNat v1_12) (by omega)
                refine gv_callV hD rfl (As := [.inl 1]) (st := []) rfl (by decide) rfl rfl (gr_lV hws rfl) (Nat.le_of_ble_eq_true rfl) (gz_Ev_mono (d := 2) (by decide) E654) ?_
                show gv_X _ _ (124, [(0, .inr (.inr (some 0))), (1, .inl v1_12), (2, .inl v2_56), (3, .inl v3_56), (4, .inl v4_69)], [.inl z654], gr_sh ++ ext, gr_h I655 J656)
                exact gv_zret hD rfl (by omega) ⟨I655, J656, rfl, hI655, FI655, FJ656, KLN_I655, KGR_I655, KST_I655, ⟨_, rfl, by omega⟩⟩
          · refine gv_run 4 true hD (pc' := 96) (lv' := [(0, .inr (.inr (some 0))), (1, .inl v1_12), (2, .inl v2_56), (3, .inl v3_56), (4, .inl v4_69)]) (st' := [.inl (-1), .inl v4_69, .inr (.inr (some 74))]) (h' := gr_h I67 J68) (C := ((((True ∧ True) ∧ True) ∧ True) ∧ True)) rfl ⟨⟨⟨⟨trivial, trivial⟩, trivial⟩, trivial⟩, trivial⟩ ?_
            refine gv_run 1 true hD (pc' := 97) (lv' := [(0, .inr (.inr (some 0))), (1, .inl v1_12), (2, .inl v2_56), (3, .inl v3_56), (4, .inl v4_69)]) (st' := []) (h' := gz_up (gr_h I67 J68) 74 (Int.toNat v4_69) (.inl (-1))) (C := (True ∧ (0 ≤ v4_69 ∧ v4_69 < ((4 : Nat) : Int)))) rfl ⟨trivial, ⟨by omega, by omega⟩⟩ ?_
            refine gr_st hI67 FI67 rfl rfl ⟨⟨by show (-1) ≤ _; omega, by show _ ≤ 1000; omega⟩, trivial⟩ (fun I677 hI677 FI677 q678 p678 => ?_)
            have t679 := p678 0 71 (fun q => absurd q.1 (by decide))
            have t680 := p678 0 72 (fun q => absurd q.1 (by decide))
            have t681 := p678 0 73 (fun q => absurd q.1 (by decide))
            have t682 := p678 0 69 (fun q => absurd q.1 (by decide))
            have t683 := p678 0 6 (fun q => absurd q.1 (by decide))
            have t684 := p678 0 59 (fun q => absurd q.1 (by decide))
            have t685 := p678 0 118 (fun q => absurd q.1 (by decide))
            have t686 := p678 0 119 (fun q => absurd q.1 (by decide))
            have t687 := p678 0 3 (fun q => absurd q.1 (by decide))
            have t688 := p678 19 (Int.toNat v1_12) (fun q => absurd q.1 (by decide))
            have f689 := (show 0 ≤ I677 0 71 ∧ I677 0 71 ≤ 5 from (hI677 0 71).1)
            have f690 := (show 0 ≤ I677 0 72 ∧ I677 0 72 ≤ 1000 from (hI677 0 72).1)
            have f691 := (show 0 ≤ I677 0 73 ∧ I677 0 73 ≤ 1001 from (hI677 0 73).1)
            have f692 := (show 0 ≤ I677 0 69 ∧ I677 0 69 ≤ 1000 from (hI677 0 69).1)
            have f693 := (show (-1) ≤ I677 0 6 ∧ I677 0 6 ≤ 7 from (hI677 0 6).1)
            have f694 := (show 0 ≤ I677 0 59 ∧ I677 0 59 ≤ 2000 from (hI677 0 59).1)
            have f695 := (show 0 ≤ I677 0 118 ∧ I677 0 118 ≤ 6 from (hI677 0 118).1)
            have f696 := (show 0 ≤ I677 0 119 ∧ I677 0 119 ≤ 6 from (hI677 0 119).1)
            have f697 := (show 0 ≤ I677 0 3 ∧ I677 0 3 ≤ 96 from (hI677 0 3).1)
            have KLN_I677 := gr_LN_fr KLN_I67 (fun k => p678 19 k (fun q => absurd q.1 (by decide))) (by omega) (by omega)
            have KGR_I677 := gr_GR_fr KGR_I67 (fun k => p678 19 k (fun q => absurd q.1 (by decide))) (fun k => p678 18 k (fun q => absurd q.1 (by decide))) (fun k => p678 36 k (fun q => absurd q.1 (by decide))) (fun k => p678 41 k (fun q => absurd q.1 (by decide))) (fun k => p678 42 k (fun q => absurd q.1 (by decide))) (fun k => p678 43 k (fun q => absurd q.1 (by decide))) (fun k => p678 45 k (fun q => absurd q.1 (by decide))) (fun k => p678 46 k (fun q => absurd q.1 (by decide))) (fun k => p678 47 k (fun q => absurd q.1 (by decide))) (fun k => p678 6 k (fun q => absurd q.1 (by decide))) (fun k => p678 7 k (fun q => absurd q.1 (by decide))) (fun k => p678 8 k (fun q => absurd q.1 (by decide))) (p678 0 3 (fun q => absurd q.1 (by decide)))
            have KST_I677 := gr_ST_fr KST_I67 (fun k => p678 6 k (fun q => absurd q.1 (by decide))) (fun k => p678 19 k (fun q => absurd q.1 (by decide))) (fun k => p678 18 k (fun q => absurd q.1 (by decide))) (fun k => p678 41 k (fun q => absurd q.1 (by decide))) (fun k => p678 36 k (fun q => absurd q.1 (by decide))) (p678 0 3 (fun q => absurd q.1 (by decide)))
            have t698 := KLN_I677 (Int.toNat v1_12) (by omega)
            refine gv_run 2 true hD (pc' := 83) (lv' := [(4, .inl (v4_69 + 1)), (0, .inr (.inr (some 0))), (1, .inl v1_12), (2, .inl v2_56), (3, .inl v3_56)]) (st' := []) (h' := gr_h I677 J68) (C := ((True ∧ True) ∧ True)) rfl ⟨⟨trivial, trivial⟩, trivial⟩ ?_
            refine gv_pick [1, 2, 3, 4, 0] rfl ?_
            exact ih83 I677 J68 (v4_69 + 1) (by omega) hI677 FI677 FJ68 KLN_I677 KGR_I677 KST_I677 (by omega) (gr_A1_nx e5_69 (by omega) p678 q678)
      refine gv_run 3 true hD (pc' := 75) (lv' := [(0, .inr (.inr (some 0))), (1, .inl v1_12), (2, .inl v2_56), (3, .inl v3_56)]) (st' := []) (h' := gz_up (gr_h I54 J55) 0 118 (.inl 0)) (C := (((True ∧ True) ∧ True) ∧ True)) rfl ⟨⟨⟨trivial, trivial⟩, trivial⟩, trivial⟩ ?_
      refine gr_st hI54 FI54 rfl rfl ⟨⟨by show 0 ≤ _; omega, by show _ ≤ 6; omega⟩, trivial⟩ (fun I699 hI699 FI699 q700 p700 => ?_)
      have t701 := p700 0 71 (by decide)
      have t702 := p700 0 72 (by decide)
      have t703 := p700 0 73 (by decide)
      have t704 := p700 0 69 (by decide)
      have t705 := p700 0 6 (by decide)
      have t706 := p700 0 59 (by decide)
      have t707 := p700 0 119 (by decide)
      have t708 := p700 0 3 (by decide)
      have t709 := p700 19 (Int.toNat v1_12) (fun q => absurd q.1 (by decide))
      have f710 := (show 0 ≤ I699 0 71 ∧ I699 0 71 ≤ 5 from (hI699 0 71).1)
      have f711 := (show 0 ≤ I699 0 72 ∧ I699 0 72 ≤ 1000 from (hI699 0 72).1)
      have f712 := (show 0 ≤ I699 0 73 ∧ I699 0 73 ≤ 1001 from (hI699 0 73).1)
      have f713 := (show 0 ≤ I699 0 69 ∧ I699 0 69 ≤ 1000 from (hI699 0 69).1)
      have f714 := (show (-1) ≤ I699 0 6 ∧ I699 0 6 ≤ 7 from (hI699 0 6).1)
      have f715 := (show 0 ≤ I699 0 59 ∧ I699 0 59 ≤ 2000 from (hI699 0 59).1)
      have f716 := (show 0 ≤ I699 0 118 ∧ I699 0 118 ≤ 6 from (hI699 0 118).1)
      have f717 := (show 0 ≤ I699 0 119 ∧ I699 0 119 ≤ 6 from (hI699 0 119).1)
      have f718 := (show 0 ≤ I699 0 3 ∧ I699 0 3 ≤ 96 from (hI699 0 3).1)
      have KLN_I699 := gr_LN_fr KLN_I54 (fun k => p700 19 k (fun q => absurd q.1 (by decide))) (by omega) (by omega)
      have KGR_I699 := gr_GR_fr KGR_I54 (fun k => p700 19 k (fun q => absurd q.1 (by decide))) (fun k => p700 18 k (fun q => absurd q.1 (by decide))) (fun k => p700 36 k (fun q => absurd q.1 (by decide))) (fun k => p700 41 k (fun q => absurd q.1 (by decide))) (fun k => p700 42 k (fun q => absurd q.1 (by decide))) (fun k => p700 43 k (fun q => absurd q.1 (by decide))) (fun k => p700 45 k (fun q => absurd q.1 (by decide))) (fun k => p700 46 k (fun q => absurd q.1 (by decide))) (fun k => p700 47 k (fun q => absurd q.1 (by decide))) (fun k => p700 6 k (fun q => absurd q.1 (by decide))) (fun k => p700 7 k (fun q => absurd q.1 (by decide))) (fun k => p700 8 k (fun q => absurd q.1 (by decide))) (p700 0 3 (by decide))
      have KST_I699 := gr_ST_fr KST_I54 (fun k => p700 6 k (fun q => absurd q.1 (by decide))) (fun k => p700 19 k (fun q => absurd q.1 (by decide))) (fun k => p700 18 k (fun q => absurd q.1 (by decide))) (fun k => p700 41 k (fun q => absurd q.1 (by decide))) (fun k => p700 36 k (fun q => absurd q.1 (by decide))) (p700 0 3 (by decide))
      have t719 := KLN_I699 (Int.toNat v1_12) (by omega)
      refine gv_run 3 true hD (pc' := 80) (lv' := [(0, .inr (.inr (some 0))), (1, .inl v1_12), (2, .inl v2_56), (3, .inl v3_56)]) (st' := []) (h' := gz_up (gr_h I699 J55) 0 119 (.inl 0)) (C := (((True ∧ True) ∧ True) ∧ True)) rfl ⟨⟨⟨trivial, trivial⟩, trivial⟩, trivial⟩ ?_
      refine gr_st hI699 FI699 rfl rfl ⟨⟨by show 0 ≤ _; omega, by show _ ≤ 6; omega⟩, trivial⟩ (fun I720 hI720 FI720 q721 p721 => ?_)
      have t722 := p721 0 71 (by decide)
      have t723 := p721 0 72 (by decide)
      have t724 := p721 0 73 (by decide)
      have t725 := p721 0 69 (by decide)
      have t726 := p721 0 6 (by decide)
      have t727 := p721 0 59 (by decide)
      have t728 := p721 0 118 (by decide)
      have t729 := p721 0 3 (by decide)
      have t730 := p721 19 (Int.toNat v1_12) (fun q => absurd q.1 (by decide))
      have f731 := (show 0 ≤ I720 0 71 ∧ I720 0 71 ≤ 5 from (hI720 0 71).1)
      have f732 := (show 0 ≤ I720 0 72 ∧ I720 0 72 ≤ 1000 from (hI720 0 72).1)
      have f733 := (show 0 ≤ I720 0 73 ∧ I720 0 73 ≤ 1001 from (hI720 0 73).1)
      have f734 := (show 0 ≤ I720 0 69 ∧ I720 0 69 ≤ 1000 from (hI720 0 69).1)
      have f735 := (show (-1) ≤ I720 0 6 ∧ I720 0 6 ≤ 7 from (hI720 0 6).1)
      have f736 := (show 0 ≤ I720 0 59 ∧ I720 0 59 ≤ 2000 from (hI720 0 59).1)
      have f737 := (show 0 ≤ I720 0 118 ∧ I720 0 118 ≤ 6 from (hI720 0 118).1)
      have f738 := (show 0 ≤ I720 0 119 ∧ I720 0 119 ≤ 6 from (hI720 0 119).1)
      have f739 := (show 0 ≤ I720 0 3 ∧ I720 0 3 ≤ 96 from (hI720 0 3).1)
      have KLN_I720 := gr_LN_fr KLN_I699 (fun k => p721 19 k (fun q => absurd q.1 (by decide))) (by omega) (by omega)
      have KGR_I720 := gr_GR_fr KGR_I699 (fun k => p721 19 k (fun q => absurd q.1 (by decide))) (fun k => p721 18 k (fun q => absurd q.1 (by decide))) (fun k => p721 36 k (fun q => absurd q.1 (by decide))) (fun k => p721 41 k (fun q => absurd q.1 (by decide))) (fun k => p721 42 k (fun q => absurd q.1 (by decide))) (fun k => p721 43 k (fun q => absurd q.1 (by decide))) (fun k => p721 45 k (fun q => absurd q.1 (by decide))) (fun k => p721 46 k (fun q => absurd q.1 (by decide))) (fun k => p721 47 k (fun q => absurd q.1 (by decide))) (fun k => p721 6 k (fun q => absurd q.1 (by decide))) (fun k => p721 7 k (fun q => absurd q.1 (by decide))) (fun k => p721 8 k (fun q => absurd q.1 (by decide))) (p721 0 3 (by decide))
      have KST_I720 := gr_ST_fr KST_I699 (fun k => p721 6 k (fun q => absurd q.1 (by decide))) (fun k => p721 19 k (fun q => absurd q.1 (by decide))) (fun k => p721 18 k (fun q => absurd q.1 (by decide))) (fun k => p721 41 k (fun q => absurd q.1 (by decide))) (fun k => p721 36 k (fun q => absurd q.1 (by decide))) (p721 0 3 (by decide))
      have t740 := KLN_I720 (Int.toNat v1_12) (by omega)
      refine gv_run 2 true hD (pc' := 83) (lv' := [(4, .inl 0), (0, .inr (.inr (some 0))), (1, .inl v1_12), (2, .inl v2_56), (3, .inl v3_56)]) (st' := []) (h' := gr_h I720 J55) (C := ((True ∧ True) ∧ True)) rfl ⟨⟨trivial, trivial⟩, trivial⟩ ?_
      refine gv_pick [1, 2, 3, 4, 0] rfl ?_
      exact L83 _ I720 J55 0 (Nat.lt_succ_self _) hI720 FI720 FJ55 KLN_I720 KGR_I720 KST_I720 (by omega) (fun j hj => absurd hj (by omega))
    have f741 := (show 0 ≤ I10 0 72 ∧ I10 0 72 ≤ 1000 from (hI10 0 72).1)
    refine gv_run 7 true hD (pc' := 25) (lv' := [(2, .inl (I10 0 72)), (0, .inr (.inr (some 0))), (1, .inl v1_12)]) (st' := [.inr (.inr (some 0)), .inl 0, .inr (.inr (some 3))]) (h' := gr_h I10 J11) (C := (((((((True ∧ True) ∧ True) ∧ True) ∧ True) ∧ True) ∧ True) ∧ True)) rfl ⟨⟨⟨⟨⟨⟨⟨trivial, trivial⟩, trivial⟩, trivial⟩, trivial⟩, trivial⟩, trivial⟩, trivial⟩ ?_
    have f742 := (show 0 ≤ I10 0 3 ∧ I10 0 3 ≤ 96 from (hI10 0 3).1)
    refine gv_run 3 true hD (pc' := 32) (lv' := [(2, .inl (I10 0 72)), (0, .inr (.inr (some 0))), (1, .inl v1_12)]) (st' := [.inr (.inl (J11 0 75)), .inl (I10 0 3), .inl 0, .inr (.inr (some 3))]) (h' := gr_h I10 J11) (C := (((True ∧ True) ∧ True) ∧ True)) rfl ⟨⟨⟨trivial, trivial⟩, trivial⟩, trivial⟩ ?_
    obtain ⟨r743, h743, E743, P743⟩ := r_find_3 (ws0 := ws0) (tb := tb) hws htb ext I10 J11 hI10 0 (I10 0 3) (J11 0 75) ⟨by omega, by omega⟩ ⟨by omega, by omega⟩ (by omega)
    obtain ⟨rfl, ⟨z743, rfl, q743⟩⟩ := P743
    refine gv_callS hD rfl (As := [.inr (.inr (some 3)), .inl 0, .inl (I10 0 3), .inr (.inl (J11 0 75))]) (st := []) rfl (gr_lS hws rfl) (Nat.le_of_ble_eq_true rfl) (gz_Ev_mono (d := 1) (by decide) E743) ?_
    show gv_X _ _ (35, [(2, .inl (I10 0 72)), (0, .inr (.inr (some 0))), (1, .inl v1_12)], [.inl z743], gr_sh ++ ext, gr_h I10 J11)
    refine gv_run 2 true hD (pc' := 37) (lv' := [(3, .inl z743), (2, .inl (I10 0 72)), (0, .inr (.inr (some 0))), (1, .inl v1_12)]) (st' := [.inl z743]) (h' := gr_h I10 J11) (C := ((True ∧ True) ∧ True)) rfl ⟨⟨trivial, trivial⟩, trivial⟩ ?_
    refine gv_if_lt (t := 49) hD rfl rfl ⟨by omega, by omega⟩ (fun c744 => ?_) (fun c744 => ?_)
    · refine gv_pick [2] rfl ?_
      exact L49 (by omega)
    · have f745 := (show 0 ≤ I10 6 (Int.toNat z743) ∧ I10 6 (Int.toNat z743) ≤ 4 from (hI10 6 (Int.toNat z743)).1)
      refine gv_run 4 true hD (pc' := 46) (lv' := [(3, .inl z743), (2, .inl (I10 0 72)), (0, .inr (.inr (some 0))), (1, .inl v1_12)]) (st' := [.inl (I10 6 (Int.toNat z743))]) (h' := gr_h I10 J11) (C := ((((True ∧ True) ∧ True) ∧ True) ∧ (0 ≤ z743 ∧ z743 < ((96 : Nat) : Int)))) rfl ⟨⟨⟨⟨trivial, trivial⟩, trivial⟩, trivial⟩, ⟨by omega, by omega⟩⟩ ?_
      refine gv_if_ne (t := 55) hD rfl rfl ⟨by omega, by omega⟩ (fun c746 => ?_) (fun c746 => ?_)
      · refine gv_run 1 true hD (pc' := 56) (lv' := [(3, .inl z743), (2, .inl (I10 0 72)), (0, .inr (.inr (some 0))), (1, .inl v1_12)]) (st' := [.inr (.inr (some 0))]) (h' := gr_h I10 J11) (C := (True ∧ True)) rfl ⟨trivial, trivial⟩ ?_
        obtain ⟨r747, h747, E747, P747⟩ := r_next (ws0 := ws0) (tb := tb) hws htb ext I10 J11 hI10   (by omega)
        obtain ⟨I748, J749, rfl, hI748, g747, k747, ⟨rfl, q747⟩⟩ := P747
        have FI748 := gr_frt FI10 g747 rfl rfl
        have FJ749 := gr_fjt FJ11 k747 rfl rfl
        have t750 := g747 0 69 rfl
        have t751 := g747 0 6 rfl
        have t752 := g747 0 59 rfl
        have t753 := g747 0 118 rfl
        have t754 := g747 0 119 rfl
        have t755 := g747 0 3 rfl
        have t756 := g747 19 (Int.toNat v1_12) rfl
        have f757 := (show 0 ≤ I748 0 71 ∧ I748 0 71 ≤ 5 from (hI748 0 71).1)
        have f758 := (show 0 ≤ I748 0 72 ∧ I748 0 72 ≤ 1000 from (hI748 0 72).1)
        have f759 := (show 0 ≤ I748 0 73 ∧ I748 0 73 ≤ 1001 from (hI748 0 73).1)
        have f760 := (show 0 ≤ I748 0 69 ∧ I748 0 69 ≤ 1000 from (hI748 0 69).1)
        have f761 := (show (-1) ≤ I748 0 6 ∧ I748 0 6 ≤ 7 from (hI748 0 6).1)
        have f762 := (show 0 ≤ I748 0 59 ∧ I748 0 59 ≤ 2000 from (hI748 0 59).1)
        have f763 := (show 0 ≤ I748 0 118 ∧ I748 0 118 ≤ 6 from (hI748 0 118).1)
        have f764 := (show 0 ≤ I748 0 119 ∧ I748 0 119 ≤ 6 from (hI748 0 119).1)
        have f765 := (show 0 ≤ I748 0 3 ∧ I748 0 3 ≤ 96 from (hI748 0 3).1)
        have KLN_I748 := gr_LN_fr KLN_I10 (fun k => g747 19 k rfl) (by omega) (by omega)
        have KGR_I748 := gr_GR_fr KGR_I10 (fun k => g747 19 k rfl) (fun k => g747 18 k rfl) (fun k => g747 36 k rfl) (fun k => g747 41 k rfl) (fun k => g747 42 k rfl) (fun k => g747 43 k rfl) (fun k => g747 45 k rfl) (fun k => g747 46 k rfl) (fun k => g747 47 k rfl) (fun k => g747 6 k rfl) (fun k => g747 7 k rfl) (fun k => g747 8 k rfl) (g747 0 3 rfl)
        have KST_I748 := gr_ST_fr KST_I10 (fun k => g747 6 k rfl) (fun k => g747 19 k rfl) (fun k => g747 18 k rfl) (fun k => g747 41 k rfl) (fun k => g747 36 k rfl) (g747 0 3 rfl)
        have t766 := KLN_I748 (Int.toNat v1_12) (by omega)
        refine gv_callV hD rfl (As := []) (st := []) rfl (by decide) rfl rfl (gr_lV hws rfl) (Nat.le_of_ble_eq_true rfl) (gz_Ev_mono (d := 10) (by decide) E747) ?_
        show gv_X _ _ (59, [(3, .inl z743), (2, .inl (I10 0 72)), (0, .inr (.inr (some 0))), (1, .inl v1_12)], [], gr_sh ++ ext, gr_h I748 J749)
        refine gv_run 2 true hD (pc' := 62) (lv' := [(3, .inl z743), (2, .inl (I10 0 72)), (0, .inr (.inr (some 0))), (1, .inl v1_12)]) (st' := [.inl 61, .inr (.inr (some 0))]) (h' := gr_h I748 J749) (C := ((True ∧ True) ∧ True)) rfl ⟨⟨trivial, trivial⟩, trivial⟩ ?_
        obtain ⟨r767, h767, E767, P767⟩ := r_need (ws0 := ws0) (tb := tb) hws htb ext I748 J749 hI748 61 ⟨by omega, by omega⟩ (by omega) (by omega) (by omega) (by omega) (by omega)
        obtain ⟨I768, J769, rfl, hI768, g767, k767, ⟨z767, rfl, q767⟩⟩ := P767
        have FI768 := gr_frt FI748 g767 rfl rfl
        have FJ769 := gr_fjt FJ749 k767 rfl rfl
        have t770 := g767 0 69 rfl
        have t771 := g767 0 6 rfl
        have t772 := g767 0 59 rfl
        have t773 := g767 0 118 rfl
        have t774 := g767 0 119 rfl
        have t775 := g767 0 3 rfl
        have t776 := g767 19 (Int.toNat v1_12) rfl
        have f777 := (show 0 ≤ I768 0 71 ∧ I768 0 71 ≤ 5 from (hI768 0 71).1)
        have f778 := (show 0 ≤ I768 0 72 ∧ I768 0 72 ≤ 1000 from (hI768 0 72).1)
        have f779 := (show 0 ≤ I768 0 73 ∧ I768 0 73 ≤ 1001 from (hI768 0 73).1)
        have f780 := (show 0 ≤ I768 0 69 ∧ I768 0 69 ≤ 1000 from (hI768 0 69).1)
        have f781 := (show (-1) ≤ I768 0 6 ∧ I768 0 6 ≤ 7 from (hI768 0 6).1)
        have f782 := (show 0 ≤ I768 0 59 ∧ I768 0 59 ≤ 2000 from (hI768 0 59).1)
        have f783 := (show 0 ≤ I768 0 118 ∧ I768 0 118 ≤ 6 from (hI768 0 118).1)
        have f784 := (show 0 ≤ I768 0 119 ∧ I768 0 119 ≤ 6 from (hI768 0 119).1)
        have f785 := (show 0 ≤ I768 0 3 ∧ I768 0 3 ≤ 96 from (hI768 0 3).1)
        have KLN_I768 := gr_LN_fr KLN_I748 (fun k => g767 19 k rfl) (by omega) (by omega)
        have KGR_I768 := gr_GR_fr KGR_I748 (fun k => g767 19 k rfl) (fun k => g767 18 k rfl) (fun k => g767 36 k rfl) (fun k => g767 41 k rfl) (fun k => g767 42 k rfl) (fun k => g767 43 k rfl) (fun k => g767 45 k rfl) (fun k => g767 46 k rfl) (fun k => g767 47 k rfl) (fun k => g767 6 k rfl) (fun k => g767 7 k rfl) (fun k => g767 8 k rfl) (g767 0 3 rfl)
        have KST_I768 := gr_ST_fr KST_I748 (fun k => g767 6 k rfl) (fun k => g767 19 k rfl) (fun k => g767 18 k rfl) (fun k => g767 41 k rfl) (fun k => g767 36 k rfl) (g767 0 3 rfl)
        have t786 := KLN_I768 (Int.toNat v1_12) (by omega)
        refine gv_callV hD rfl (As := [.inl 61]) (st := []) rfl (by decide) rfl rfl (gr_lV hws rfl) (Nat.le_of_ble_eq_true rfl) (gz_Ev_mono (d := 11) (by decide) E767) ?_
        show gv_X _ _ (65, [(3, .inl z743), (2, .inl (I10 0 72)), (0, .inr (.inr (some 0))), (1, .inl v1_12)], [.inl z767], gr_sh ++ ext, gr_h I768 J769)
        refine gv_if_ne (t := 70) hD rfl rfl ⟨by omega, by omega⟩ (fun c787 => ?_) (fun c787 => ?_)
        · refine gv_pick [2, 3, 1, 0] rfl ?_
          exact L70 I768 J769 (I10 0 72) z743 hI768 FI768 FJ769 KLN_I768 KGR_I768 KST_I768 (by omega)
        · refine gv_run 1 true hD (pc' := 69) (lv' := [(3, .inl z743), (2, .inl (I10 0 72)), (0, .inr (.inr (some 0))), (1, .inl v1_12)]) (st' := [.inl 0]) (h' := gr_h I768 J769) (C := (True ∧ True)) rfl ⟨trivial, trivial⟩ ?_
          exact gv_zret hD rfl (by omega) ⟨I768, J769, rfl, hI768, FI768, FJ769, KLN_I768, KGR_I768, KST_I768, ⟨_, rfl, by omega⟩⟩
      · refine gv_pick [2] rfl ?_
        exact L49 (by omega)
  have f788 := (show (-1) ≤ I 0 6 ∧ I 0 6 ≤ 7 from (hI 0 6).1)
  refine gv_run 4 true hD (pc' := 6) (lv' := [(1, .inl (I 0 6)), (0, .inr (.inr (some 0)))]) (st' := [.inr (.inr (some 0))]) (h' := gr_h I J) (C := ((((True ∧ True) ∧ True) ∧ True) ∧ True)) rfl ⟨⟨⟨⟨trivial, trivial⟩, trivial⟩, trivial⟩, trivial⟩ ?_
  obtain ⟨r789, h789, E789, P789⟩ := r_name (ws0 := ws0) (tb := tb) hws htb ext I J hI   
  obtain ⟨I790, J791, rfl, hI790, g789, k789, ⟨z789, rfl, q789⟩⟩ := P789
  have FI790 := gr_frt FI g789 rfl rfl
  have FJ791 := gr_fjt FJ k789 rfl rfl
  have t792 := g789 0 71 rfl
  have t793 := g789 0 72 rfl
  have t794 := g789 0 73 rfl
  have t795 := g789 0 69 rfl
  have t796 := g789 0 6 rfl
  have t797 := g789 0 59 rfl
  have t798 := g789 0 118 rfl
  have t799 := g789 0 119 rfl
  have t800 := g789 0 3 rfl
  have t801 := g789 19 (Int.toNat ((I 0 6))) rfl
  have f802 := (show 0 ≤ I790 0 71 ∧ I790 0 71 ≤ 5 from (hI790 0 71).1)
  have f803 := (show 0 ≤ I790 0 72 ∧ I790 0 72 ≤ 1000 from (hI790 0 72).1)
  have f804 := (show 0 ≤ I790 0 73 ∧ I790 0 73 ≤ 1001 from (hI790 0 73).1)
  have f805 := (show 0 ≤ I790 0 69 ∧ I790 0 69 ≤ 1000 from (hI790 0 69).1)
  have f806 := (show (-1) ≤ I790 0 6 ∧ I790 0 6 ≤ 7 from (hI790 0 6).1)
  have f807 := (show 0 ≤ I790 0 59 ∧ I790 0 59 ≤ 2000 from (hI790 0 59).1)
  have f808 := (show 0 ≤ I790 0 118 ∧ I790 0 118 ≤ 6 from (hI790 0 118).1)
  have f809 := (show 0 ≤ I790 0 119 ∧ I790 0 119 ≤ 6 from (hI790 0 119).1)
  have f810 := (show 0 ≤ I790 0 3 ∧ I790 0 3 ≤ 96 from (hI790 0 3).1)
  have KLN_I790 := gr_LN_fr KLN_I (fun k => g789 19 k rfl) (by omega) (by omega)
  have KGR_I790 := gr_GR_fr KGR_I (fun k => g789 19 k rfl) (fun k => g789 18 k rfl) (fun k => g789 36 k rfl) (fun k => g789 41 k rfl) (fun k => g789 42 k rfl) (fun k => g789 43 k rfl) (fun k => g789 45 k rfl) (fun k => g789 46 k rfl) (fun k => g789 47 k rfl) (fun k => g789 6 k rfl) (fun k => g789 7 k rfl) (fun k => g789 8 k rfl) (g789 0 3 rfl)
  have KST_I790 := gr_ST_fr KST_I (fun k => g789 6 k rfl) (fun k => g789 19 k rfl) (fun k => g789 18 k rfl) (fun k => g789 41 k rfl) (fun k => g789 36 k rfl) (g789 0 3 rfl)
  have t811 := KLN_I790 (Int.toNat ((I 0 6))) (by omega)
  refine gv_callV hD rfl (As := []) (st := []) rfl (by decide) rfl rfl (gr_lV hws rfl) (Nat.le_of_ble_eq_true rfl) (gz_Ev_mono (d := 3) (by decide) E789) ?_
  show gv_X _ _ (9, [(1, .inl (I 0 6)), (0, .inr (.inr (some 0)))], [.inl z789], gr_sh ++ ext, gr_h I790 J791)
  refine gv_if_ne (t := 14) hD rfl rfl ⟨by omega, by omega⟩ (fun c812 => ?_) (fun c812 => ?_)
  · refine gv_pick [1, 0] rfl ?_
    exact L14 I790 J791 (I 0 6) hI790 FI790 FJ791 KLN_I790 KGR_I790 KST_I790 (by omega)
  · refine gv_run 1 true hD (pc' := 13) (lv' := [(1, .inl (I 0 6)), (0, .inr (.inr (some 0)))]) (st' := [.inl 0]) (h' := gr_h I790 J791) (C := (True ∧ True)) rfl ⟨trivial, trivial⟩ ?_
    exact gv_zret hD rfl (by omega) ⟨I790, J791, rfl, hI790, FI790, FJ791, KLN_I790, KGR_I790, KST_I790, ⟨_, rfl, by omega⟩⟩
