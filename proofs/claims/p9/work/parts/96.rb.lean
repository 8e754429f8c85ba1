/-! R through a statement -/
section RB
variable {Ir Irₚ : gr_I} {Jr Jrₚ : gr_J} {I Iₚ : gr_I} {J Jₚ : gr_J} {A Aₚ : gc_A}
theorem gs_cT_of {t : Nat} (f : ∀ q j : Nat, 144 ≤ q → Iₚ q j = I q j) (g : ∀ q j : Nat, 144 ≤ q → Jₚ q j = J q j) (ht : 144 ≤ t) (hl : ∀ k q : Nat, (k : Int) < I t 13 → A (t + 16) k = some q → 144 ≤ q) : gs_cT t I J A Iₚ Jₚ A :=
  ⟨⟨f _ _ (by omega), fun k => g _ _ (by omega)⟩, ⟨f _ _ (by omega), fun k => g _ _ (by omega), fun k => f _ _ (by omega), fun k => f _ _ (by omega)⟩, ⟨f _ _ (by omega), fun k => g _ _ (by omega)⟩, f _ _ ht, ⟨f _ _ (by omega), fun k => g _ _ (by omega), fun k => f _ _ (by omega), fun k => f _ _ (by omega)⟩, f _ _ ht, f _ _ ht, fun k q hk hA => ⟨hA, f _ _ (hl k q hk hA)⟩⟩
/-- a statement of the store: the tongues stay -/
theorem gs_R_glob (h : gs_R I J A Ir Jr) (n2 : gs_GN 2 2 2 Iₚ Jₚ Irₚ Jrₚ) (n4 : gs_GN 4 3 3 Iₚ Jₚ Irₚ Jrₚ) (n6 : gs_GN 6 4 4 Iₚ Jₚ Irₚ Jrₚ) (e8 : Iₚ 8 1 = I 8 1) (j9 : ∀ k, Jₚ 9 k = J 9 k) (gf : gs_GF Iₚ Jₚ Irₚ Jrₚ) (gk : gs_GK Iₚ Irₚ) (c5 : Iₚ 1 5 = I 1 5) (ct : ∀ i t : Nat, (i : Int) < I 8 1 → A 10 i = some t → gs_cT t I J A Iₚ Jₚ A) (ra : gs_rA Ir Jr Irₚ Jrₚ) (r1 : Irₚ 0 1 = Ir 0 1) (r6 : Irₚ 0 6 = Ir 0 6) (rj : ∀ k, Jrₚ 1 k = Jr 1 k) : gs_R Iₚ Jₚ A Irₚ Jrₚ := by
  obtain ⟨_, _, _, h8, _, _, hc, hT, h0⟩ := h
  exact ⟨n2, n4, n6, gs_GN_fr h8 e8 j9 r1 rj, gf, gk, c5.trans (hc.trans r6.symm), fun i t hi hA => gs_RT_fr (hT i t (by omega) hA) (ct i t (by omega) hA) ra, gs_G0_fr h0 (by omega) (fun i _ _ => ra.1 i)⟩
theorem gs_GN_put {p row f n : Nat} {w v : Int64} (h : gs_GN p row f I J Ir Jr) (h0 : 0 ≤ I p 1) (hn : I p 1 < (n : Int)) (pu : gc_PU p n w I J Iₚ Jₚ) (rp : gs_put row f v Ir Jr Irₚ Jrₚ) (al : gs_al w v) : gs_GN p row f Iₚ Jₚ Irₚ Jrₚ := by
  obtain ⟨a, b, c⟩ := pu hn
  obtain ⟨d, e, g⟩ := rp
  have h1 := h.1
  refine ⟨by omega, ?_⟩
  rw [a]
  exact gs_NA_p2 h.2 h0 b (by rw [h1]; exact e) al (fun k hk => c k (by omega)) (fun k hk => g k (by omega))
theorem gs_GF_put {w v : Int64} {a b : Int} (h : gs_GF I J Ir Jr) (h0 : 0 ≤ I 1 13) (c : gs_Cfact w (gs_isf Ir Jr v a b) a b I J Iₚ Jₚ) (r : gs_Ufact v a b Ir Jr Irₚ Jrₚ) (al : gs_al w v) : gs_GF Iₚ Jₚ Irₚ Jrₚ := by
  by_cases e : gs_isf Ir Jr v a b = 1
  · obtain ⟨c1, c2, c3⟩ := c.1 e
    obtain ⟨r1, r2⟩ := r.1 e
    exact gs_GF_fr h c1 c2 c3 r1 r2
  · obtain ⟨⟨c1, c2, c3, c4⟩, c5, c6⟩ := c.2 e
    obtain ⟨⟨r1, r2, r3, r4⟩, r5⟩ := r.2 e
    have h1 := h.1
    refine ⟨by omega, fun k hk => ?_⟩
    by_cases d : (k : Int) < I 1 13
    · have g := h.2 k d
      have r6 := r5 k (by omega)
      rw [c5 k (by omega), c6 (2 * k) (by omega) (by omega), c6 (2 * k + 1) (by omega) (by omega), r6.1, r6.2.1, r6.2.2]
      exact g
    · have k1 : k = Int.toNat (I 1 13) := by omega
      have k2 : k = Int.toNat (Ir 0 5) := by omega
      refine ⟨?_, ?_, ?_⟩
      · rw [show Jₚ 18 k = w from by rw [k1]; exact c2, show Jrₚ 5 k = v from by rw [k2]; exact r2]
        exact al
      · rw [show Iₚ 19 (2 * k) = a from by rw [show 2 * k = Int.toNat (2 * I 1 13) from by omega]; exact c3, show Irₚ 11 k = a from by rw [k2]; exact r3]
      · rw [show Iₚ 19 (2 * k + 1) = b from by rw [show 2 * k + 1 = Int.toNat (2 * I 1 13 + 1) from by omega]; exact c4, show Irₚ 12 k = b from by rw [k2]; exact r4]
theorem gs_GN_fun {w v : Int64} {n k : Int} {ks : Nat → Int} (h : gs_GN 4 3 3 I J Ir Jr) (h0 : 0 ≤ I 4 1) (c : gs_Cfun w n ks k I J Iₚ Jₚ) (r : gs_Ufun v n ks k Ir Jr Irₚ Jrₚ) (al : gs_al w v) : gs_GN 4 3 3 Iₚ Jₚ Irₚ Jrₚ := by
  obtain ⟨⟨c1, c2, _, _⟩, _, c5, _⟩ := c
  obtain ⟨r1, ⟨r2, _, _, _⟩, _, r6, _⟩ := r
  have h1 := h.1
  refine ⟨by omega, ?_⟩
  rw [c1]
  exact gs_NA_p2 h.2 h0 c2 (by rw [h1]; exact r2) al (fun j hj => (c5 j (by omega)).1) (fun j hj => (r6 j (by omega)).1)
theorem gs_GK_fun {w v : Int64} {n k : Int} {ks : Nat → Int} (h : gs_GK I Ir) (e3 : I 4 1 = Ir 0 3) (h0 : 0 ≤ I 4 1) (hn : 0 ≤ n) (b12 : ∀ k, I 12 k ≤ 4) (m : ∀ f : Nat, f = Int.toNat (I 4 1) → ¬ 0 < I 15 f) (r15 : ∀ j, Iₚ 15 j = I 15 j) (c : gs_Cfun w n ks k I J Iₚ Jₚ) (r : gs_Ufun v n ks k Ir Jr Irₚ Jrₚ) {c9 : Int} (cc : gs_Cfc c9 I Iₚ) (rc : gs_Ufc c9 Ir Irₚ) : gs_GK Iₚ Irₚ := by
  obtain ⟨⟨c1, _, c3, c4⟩, c5, c6, c7⟩ := c
  obtain ⟨r1, ⟨_, r3, r4, r5⟩, r6, r7, r8⟩ := r
  have e : ∀ f : Int, 0 ≤ f → f < Iₚ 4 1 → f = I 4 1 ∨ f < I 4 1 := fun f _ _ => by omega
  refine ⟨fun f f0 f1 => ?_, fun f f0 f1 => ?_, fun f f0 f1 => ?_, fun f f0 f1 => ?_⟩
  · rcases e f f0 f1 with rfl | g
    · rw [c3, e3, r3]
    · rw [(c6 (Int.toNat f) (by omega)).2.2, (r7 (Int.toNat f) (by omega)).2.1]
      exact h.1 f f0 g
  · rcases e f f0 f1 with rfl | g
    · refine ⟨by rw [c4, e3, r4], fun j j0 j1 => ?_⟩
      rw [c3] at j1
      have a := c5 (Int.toNat j) (by omega)
      have b := r6 (Int.toNat j) (by omega)
      rw [show Int.toNat (I 4 1 * 4 + j) = 4 * Int.toNat (I 4 1) + Int.toNat j from by omega, a, show Int.toNat (4 * I 4 1 + j) = 4 * Int.toNat (Ir 0 3) + Int.toNat j from by omega, b]
    · obtain ⟨a, b⟩ := h.2.1 f f0 g
      refine ⟨by rw [(c6 (Int.toNat f) (by omega)).2.1, (r7 (Int.toNat f) (by omega)).2.2.1]; exact a, fun j j0 j1 => ?_⟩
      rw [(c6 (Int.toNat f) (by omega)).2.2] at j1
      by_cases c9 : f * 4 + j < 4 * I 4 1
      · rw [c7 (Int.toNat (f * 4 + j)) (by omega), r8 (Int.toNat (4 * f + j)) (by omega)]
        exact b j j0 j1
      · exact absurd j1 (by have := b12 (Int.toNat f); omega)
  · rcases e f f0 f1 with rfl | g
    · rw [r15, e3, r5]
      have := m (Int.toNat (Ir 0 3)) (by omega)
      exact ⟨fun q => absurd q this, fun q => absurd q (by first | exact gz_ne rfl | decide)⟩
    · rw [r15, (r7 (Int.toNat f) (by omega)).2.2.2]
      exact h.2.2.1 f f0 g
  · rcases e f f0 f1 with rfl | g
    · rw [cc.1, e3, rc.1]
    · rw [cc.2 (Int.toNat f) (by omega), rc.2 (Int.toNat f) (by omega)]
      exact h.2.2.2 f f0 g
theorem gs_GK_mean {f9 : Int} (h : gs_GK I Ir) (e4 : Iₚ 4 1 = I 4 1) (r11 : ∀ k, Iₚ 11 k = I 11 k) (r12 : ∀ k, Iₚ 12 k = I 12 k) (r13 : ∀ k, Iₚ 13 k = I 13 k) (g : ∀ k, Irₚ 6 k = Ir 6 k ∧ Irₚ 7 k = Ir 7 k ∧ Irₚ 8 k = Ir 8 k) (c : 0 ≤ f9 ∧ 0 < Iₚ 15 (Int.toNat f9) ∧ ∀ j, ¬ j = Int.toNat f9 → Iₚ 15 j = I 15 j) (r : gs_Umn f9 Ir Irₚ) (r14 : ∀ k, Iₚ 14 k = I 14 k) (g9 : ∀ k, Irₚ 9 k = Ir 9 k) : gs_GK Iₚ Irₚ := by
  refine ⟨fun k h0 h1 => ?_, fun f h0 h1 => ⟨?_, fun j j0 j1 => ?_⟩, fun f h0 h1 => ?_, fun f h0 h1 => by rw [r14, g9]; exact h.2.2.2 f h0 (by omega)⟩
  · rw [r12, (g _).1]
    exact h.1 k h0 (by omega)
  · rw [r11, (g _).2.2]
    exact (h.2.1 f h0 (by omega)).1
  · rw [r12] at j1
    rw [r13, (g _).2.1]
    exact (h.2.1 f h0 (by omega)).2 j j0 j1
  · by_cases d : f = f9
    · rw [d]
      exact ⟨fun _ => r.1, fun _ => c.2.1⟩
    · rw [c.2.2 (Int.toNat f) (by have := c.1; omega), r.2.1 (Int.toNat f) (by have := c.1; omega)]
      exact h.2.2.1 f h0 (by omega)
/-! statements of a TONGUE -/
/-- the reference's rows, but for those of the TONGUE i -/
def gs_rO (i : Int) (Ir : gr_I) (Jr : gr_J) (Irₚ : gr_I) (Jrₚ : gr_J) : Prop := (∀ j : Nat, ¬ (j : Int) = i → Irₚ 13 j = Ir 13 j ∧ Irₚ 14 j = Ir 14 j ∧ Irₚ 15 j = Ir 15 j ∧ Irₚ 16 j = Ir 16 j ∧ Irₚ 17 j = Ir 17 j ∧ Irₚ 18 j = Ir 18 j ∧ Irₚ 19 j = Ir 19 j) ∧ (∀ j : Nat, ¬ (8 * i ≤ (j : Int) ∧ (j : Int) < 8 * i + 8) → Jrₚ 20 j = Jr 20 j) ∧ (∀ j : Nat, ¬ (48 * i ≤ (j : Int) ∧ (j : Int) < 48 * i + 48) → Jrₚ 21 j = Jr 21 j ∧ Irₚ 24 j = Ir 24 j ∧ Irₚ 25 j = Ir 25 j) ∧ (∀ j : Nat, ¬ (16 * i ≤ (j : Int) ∧ (j : Int) < 16 * i + 16) → Jrₚ 22 j = Jr 22 j) ∧ (∀ j : Nat, ¬ (24 * i ≤ (j : Int) ∧ (j : Int) < 24 * i + 24) → Jrₚ 23 j = Jr 23 j ∧ Irₚ 31 j = Ir 31 j) ∧ (∀ j : Nat, ¬ (576 * i ≤ (j : Int) ∧ (j : Int) < 576 * i + 576) → Irₚ 32 j = Ir 32 j) ∧ ∀ j : Nat, ¬ (384 * i ≤ (j : Int) ∧ (j : Int) < 384 * i + 384) → Irₚ 41 j = Ir 41 j
/-- how large a TONGUE's tables are -/
def gs_bT (t : Nat) (I : gr_I) : Prop := (0 ≤ I (t + 1) 1 ∧ I (t + 1) 1 ≤ 8) ∧ (0 ≤ I (t + 3) 1 ∧ I (t + 3) 1 ≤ 48) ∧ (0 ≤ I (t + 7) 1 ∧ I (t + 7) 1 ≤ 16) ∧ (0 ≤ I (t + 11) 1 ∧ I (t + 11) 1 ≤ 24) ∧ (0 ≤ I t 13 ∧ I t 13 ≤ 384) ∧ ∀ f, 0 ≤ I (t + 13) f ∧ I (t + 13) f ≤ 24
theorem gs_RT_o {i i2 : Nat} {t2 : Nat} (h : gs_RT (i2 : Int) t2 Ir Jr I J A) (hi : ¬ i2 = i) (b : gs_bT t2 I) (c : gs_cT t2 I J A Iₚ Jₚ Aₚ) (r : gs_rO (i : Int) Ir Jr Irₚ Jrₚ) : gs_RT (i2 : Int) t2 Irₚ Jrₚ Iₚ Jₚ Aₚ := by
  obtain ⟨h1, h3, h7, hs, hp, hw, hl⟩ := h
  obtain ⟨⟨c1, c2⟩, ⟨c3, c4, c5, c6⟩, ⟨c7, c8⟩, c9, ⟨d1, d2, d3, d4⟩, d5, d6, d7⟩ := c
  obtain ⟨ra, rb, rc, rd, re, rf, rg⟩ := r
  obtain ⟨b1, b3, b7, bp, bl, bc⟩ := b
  have a := ra (Int.toNat (i2 : Int)) (by omega)
  refine ⟨gs_T1_fr h1 c1 c2 a.1 (fun k hk => rb _ (by omega)), gs_T3_fr h3 c3 c4 c5 c6 a.2.1 (fun k k0 k1 => rc _ (by omega)), gs_T7_fr h7 c7 c8 a.2.2.1 (fun k hk => rd _ (by omega)), c9.trans (hs.trans a.2.2.2.1.symm), gs_TP_fr hp d1 d2 d3 d4 a.2.2.2.2.1 (fun k k0 k1 => ⟨(re _ (by omega)).1, (re _ (by omega)).2, fun j hj => rf _ (by have := bc (Int.toNat k); omega)⟩), d5.trans (hw.trans a.2.2.2.2.2.1.symm), gs_TL_fr hl d6 d7 a.2.2.2.2.2.2 (fun k hk => rg _ (by omega))⟩
/-- the store's tables stay, on both sides -/
def gs_cG (I : gr_I) (J : gr_J) (Iₚ : gr_I) (Jₚ : gr_J) : Prop := (Iₚ 2 1 = I 2 1 ∧ Iₚ 4 1 = I 4 1 ∧ Iₚ 6 1 = I 6 1 ∧ Iₚ 8 1 = I 8 1) ∧ (∀ k, Jₚ 3 k = J 3 k ∧ Jₚ 5 k = J 5 k ∧ Jₚ 7 k = J 7 k ∧ Jₚ 9 k = J 9 k ∧ Jₚ 18 k = J 18 k) ∧ (Iₚ 1 13 = I 1 13 ∧ Iₚ 1 5 = I 1 5) ∧ ∀ k, Iₚ 11 k = I 11 k ∧ Iₚ 12 k = I 12 k ∧ Iₚ 13 k = I 13 k ∧ Iₚ 15 k = I 15 k ∧ Iₚ 19 k = I 19 k ∧ Iₚ 14 k = I 14 k
theorem gs_R_tong {i t : Nat} {m : List Nat} (h : gs_R I J A Ir Jr) (hi : (i : Int) < I 8 1) (hu : ∀ i2 t2 : Nat, (i2 : Int) < I 8 1 → Aₚ 10 i2 = some t2 → A 10 i2 = some t2) (ht : Aₚ 10 i = some t) (cg : gs_cG I J Iₚ Jₚ) (ts : gs_TsX m Ir Jr Irₚ Jrₚ) (hm : ([101, 102, 103, 104, 105, 106, 6, 7, 8, 9, 10, 11, 12, 1001, 1002, 1003, 1004, 1005].all (fun a => !(m.elem a))) = true) (ro : gs_rO (i : Int) Ir Jr Irₚ Jrₚ) (bt : ∀ i2 t2 : Nat, (i2 : Int) < I 8 1 → A 10 i2 = some t2 → gs_bT t2 I) (ct : ∀ i2 t2 : Nat, (i2 : Int) < I 8 1 → ¬ i2 = i → A 10 i2 = some t2 → gs_cT t2 I J A Iₚ Jₚ Aₚ) (rt : gs_RT (i : Int) t Irₚ Jrₚ Iₚ Jₚ Aₚ) : gs_R Iₚ Jₚ Aₚ Irₚ Jrₚ := by
  simp only [List.all_cons, List.all_nil, Bool.and_true, Bool.and_eq_true, Bool.not_eq_true'] at hm
  obtain ⟨m1, m2, m3, m4, m5, m6, k6, k7, k8, k9x, k10, k11, k12, j1, j2, j3, j4, j5⟩ := hm
  obtain ⟨⟨g1, g2, g3, g4⟩, gj, ⟨g5, g6⟩, gr⟩ := cg
  obtain ⟨n2, n4, n6, n8, gf, gk, hc, hT, h0⟩ := h
  have e8 := n8.1
  refine ⟨gs_GN_fr n2 g1 (fun k => (gj k).1) (ts.1 2 rfl m2) (ts.2.2 2 rfl j2), gs_GN_fr n4 g2 (fun k => (gj k).2.1) (ts.1 3 rfl m3) (ts.2.2 3 rfl j3), gs_GN_fr n6 g3 (fun k => (gj k).2.2.1) (ts.1 4 rfl m4) (ts.2.2 4 rfl j4), gs_GN_fr n8 g4 (fun k => (gj k).2.2.2.1) (ts.1 1 rfl m1) (ts.2.2 1 rfl j1), gs_GF_fr gf g5 (fun k => (gj k).2.2.2.2) (fun k => (gr k).2.2.2.2.1) (ts.1 5 rfl m5) (fun k => ⟨ts.2.2 5 rfl j5 k, ts.2.1 11 rfl k11 k, ts.2.1 12 rfl k12 k⟩), gs_GK_fr gk g2 (fun k => (gr k).1) (fun k => (gr k).2.1) (fun k => (gr k).2.2.1) (fun k => (gr k).2.2.2.1) (fun k => ⟨ts.2.1 6 rfl k6 k, ts.2.1 7 rfl k7 k, ts.2.1 8 rfl k8 k, ts.2.1 10 rfl k10 k⟩) (fun k => (gr k).2.2.2.2.2) (fun k => ts.2.1 9 rfl k9x k), g6.trans (hc.trans (ts.1 6 rfl m6).symm), fun i2 t2 h2 hA => ?_, gs_G0_fr h0 (by rw [ts.1 1 rfl m1]; exact Int.le_refl _) (fun j j0 j8 => ro.1 j (by rw [ts.1 1 rfl m1] at j0; omega))⟩
  by_cases c : i2 = i
  · subst c
    rw [ht] at hA
    rw [← Option.some.inj hA]
    exact rt
  · have hA2 := hu i2 t2 (by omega) hA
    exact gs_RT_o (hT i2 t2 (by omega) hA2) c (bt i2 t2 (by omega) hA2) (ct i2 t2 (by omega) c hA2) ro
end RB
