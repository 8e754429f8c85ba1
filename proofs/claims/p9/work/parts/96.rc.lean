/-! R through the statements of a TONGUE: the tables of the TONGUE at hand -/
section RC
variable {Ir Irₚ : gr_I} {Jr Jrₚ : gr_J} {I Iₚ : gr_I} {J Jₚ : gr_J} {A Aₚ : gc_A} {t : Nat} {i : Nat}
/-- names of the TONGUE at hand: one more -/
theorem gs_NAt_put {p row cr n : Nat} {m : Int} {w v : Int64} (h : I p 1 = Ir cr (Int.toNat (i : Int)) ∧ gs_NA (I p 1) (J (p + 1)) (fun k => Jr row (Int.toNat (m * (i : Int) + (k : Int))))) (h0 : 0 ≤ I p 1) (hm : 0 ≤ m) (hn : I p 1 < (n : Int)) (pu : gc_PU p n w I J Iₚ Jₚ) (c6 : Ir 0 6 = (i : Int)) (rp : gs_putT row cr m v Ir Jr Irₚ Jrₚ) (al : gs_al w v) : Iₚ p 1 = Irₚ cr (Int.toNat (i : Int)) ∧ gs_NA (Iₚ p 1) (Jₚ (p + 1)) (fun k => Jrₚ row (Int.toNat (m * (i : Int) + (k : Int)))) := by
  obtain ⟨a, b, c⟩ := pu hn
  obtain ⟨d, _, e, g⟩ := rp
  rw [c6] at d e g
  have h1 := h.1
  have hp : 0 ≤ m * (i : Int) := Int.mul_nonneg hm (by omega)
  refine ⟨by omega, ?_⟩
  rw [a]
  exact gs_NA_p2 h.2 h0 b (by
    show Jrₚ row (Int.toNat (m * (i : Int) + ((Int.toNat (I p 1) : Nat) : Int))) = v
    rw [show m * (i : Int) + ((Int.toNat (I p 1) : Nat) : Int) = m * (i : Int) + Ir cr (Int.toNat (i : Int)) from by omega]
    exact e) al (fun k hk => c k (by omega)) (fun k hk => g _ (by omega))
/-- FEATURE: its VALUES -/
theorem gs_T3_up {m : Nat} {ns nr : Nat → Int64} {w : Int64} (h : gs_T3 (i : Int) t Ir Jr I J) (h1 : I (t + 1) 1 = Ir 13 (Int.toNat (i : Int))) (h0 : 0 ≤ I (t + 3) 1) (c6 : Ir 0 6 = (i : Int)) (c : gs_Cfv ns m t I J Iₚ Jₚ) (r : gs_Ufe w nr m Ir Jr Irₚ Jrₚ) (al : ∀ k : Nat, k < m → gs_al (ns k) (nr k)) : gs_T3 (i : Int) t Irₚ Jrₚ Iₚ Jₚ := by
  obtain ⟨c1, c2, c3⟩ := c
  obtain ⟨_, _, ⟨r1, _⟩, r2, r3⟩ := r
  rw [c6] at r1 r2 r3
  have e := h.1.1
  have key : ∀ k : Int, 0 ≤ k → k < Iₚ (t + 3) 1 → k < I (t + 3) 1 ∨ ∃ x : Nat, x < m ∧ k = I (t + 3) 1 + (x : Int) := fun k k0 k1 => by
    by_cases d : k < I (t + 3) 1
    · exact Or.inl d
    · exact Or.inr ⟨Int.toNat (k - I (t + 3) 1), by omega, by omega⟩
  refine ⟨⟨by omega, fun k hk => ?_⟩, fun k k0 k1 => ?_⟩
  · show gs_al (Jₚ (t + 4) k) (Jrₚ 21 (Int.toNat (48 * (i : Int) + (k : Int))))
    rcases key (k : Int) (by omega) hk with d | ⟨x, hx, d⟩
    · rw [(c3 k (by omega)).1, (r3 (Int.toNat (48 * (i : Int) + (k : Int))) (by omega)).1]
      exact h.1.2 k d
    · rw [show k = Int.toNat (I (t + 3) 1) + x from by omega, (c2 x hx).1, show Int.toNat (48 * (i : Int) + ((Int.toNat (I (t + 3) 1) + x : Nat) : Int)) = Int.toNat (48 * (i : Int) + Ir 14 (Int.toNat (i : Int))) + x from by omega, (r2 x hx).1]
      exact al x hx
  · rcases key k k0 k1 with d | ⟨x, hx, d⟩
    · rw [(c3 (Int.toNat k) (by omega)).2.1, (c3 (Int.toNat k) (by omega)).2.2, (r3 (Int.toNat (48 * (i : Int) + k)) (by omega)).2.1, (r3 (Int.toNat (48 * (i : Int) + k)) (by omega)).2.2]
      exact h.2 k k0 d
    · have a := c2 x hx
      have b := r2 x hx
      rw [show Int.toNat k = Int.toNat (I (t + 3) 1) + x from by omega, a.2.1, a.2.2, show Int.toNat (48 * (i : Int) + k) = Int.toNat (48 * (i : Int) + Ir 14 (Int.toNat (i : Int))) + x from by omega, b.2.1, b.2.2]
      exact ⟨h1, rfl, by omega⟩
theorem gs_T1_up {m : Nat} {nr : Nat → Int64} {w v : Int64} (h : gs_T1 (i : Int) t Ir Jr I J) (h0 : 0 ≤ I (t + 1) 1) (hn : I (t + 1) 1 < 8) (pu : gc_PU (t + 1) 8 w I J Iₚ Jₚ) (c6 : Ir 0 6 = (i : Int)) (r : gs_Ufe v nr m Ir Jr Irₚ Jrₚ) (al : gs_al w v) : gs_T1 (i : Int) t Irₚ Jrₚ Iₚ Jₚ := by
  obtain ⟨⟨r1, r2⟩, ⟨r3, r4⟩, _, _, _⟩ := r
  exact gs_NAt_put (p := t + 1) (row := 20) (cr := 13) (m := 8) h h0 (by decide) hn pu c6 ⟨r1, r2, r3, r4⟩ al
theorem gs_ll_at {f : Nat → Int} {n : Int} {V : List Int} (h : gs_ll f n = V) {j : Nat} (hj : (j : Int) < n) : V.getD j 0 = f j := by
  rw [← h]
  exact gs_ll_getD hj
/-- PATTERN -/
theorem gs_TP_up {V : List Int} {w v : Int64} (h : gs_TP (i : Int) t Ir Jr I J) (h0 : 0 ≤ I (t + 11) 1) (hn : I (t + 11) 1 < 24) (b13 : ∀ f, I (t + 13) f ≤ 24) (c6 : Ir 0 6 = (i : Int)) (pu : gc_PU (t + 11) 24 w I J Iₚ Jₚ) (c : gs_Cpt V t I Iₚ) (r : gs_Upat v V Ir Jr Irₚ Jrₚ) (al : gs_al w v) : gs_TP (i : Int) t Irₚ Jrₚ Iₚ Jₚ := by
  obtain ⟨c1, c2, c3, c4⟩ := c
  obtain ⟨r1, r2, r3, r4, r5, r6, r7, r8⟩ := r
  have e := h.1.1
  have hP : gs_Pn Ir = Int.toNat (24 * (i : Int) + I (t + 11) 1) := by
    rw [e, ← c6]
    rfl
  have hnm := gs_NAt_put (p := t + 11) (row := 23) (cr := 17) (m := 24) (n := 24) (w := w) (v := v) (Iₚ := Iₚ) (Jₚ := Jₚ) (Irₚ := Irₚ) (Jrₚ := Jrₚ) h.1 h0 (by decide) hn pu c6 ⟨by rw [c6] at r1 ⊢; exact r1, by rw [c6] at r2 ⊢; exact r2, r3, r4⟩ al
  refine ⟨hnm, fun f f0 f1 => ?_⟩
  obtain ⟨pa, _, _⟩ := pu hn
  by_cases d : f < I (t + 11) 1
  · obtain ⟨a, b⟩ := h.2 f f0 d
    refine ⟨?_, fun j hj => ?_⟩
    · rw [c2 (Int.toNat f) (by omega), r6 (Int.toNat (24 * (i : Int) + f)) (by omega)]
      exact a
    · rw [c2 (Int.toNat f) (by omega)] at hj
      have b9 := b13 (Int.toNat f)
      rw [c4 _ (by omega), r8 _ (by omega)]
      exact b j hj
  · have f2 : f = I (t + 11) 1 := by omega
    subst f2
    refine ⟨by rw [c1, ← hP, r5], fun j hj => ?_⟩
    rw [c1] at hj
    have a := c3 j (by omega)
    rw [show Int.toNat (72 * I (t + 11) 1) + 3 * j = 72 * Int.toNat (I (t + 11) 1) + 3 * j from by omega]
    rw [gs_ll_at r7 (by rw [r5]; exact hj)] at a
    rw [show Int.toNat (24 * (24 * (i : Int) + I (t + 11) 1) + (j : Int)) = 24 * gs_Pn Ir + j from by rw [hP]; omega]
    exact a
/-- LIN -/
theorem gs_TL_up {f : Int} {L : Nat} (h : gs_TL (i : Int) t Ir I A) (h0 : 0 ≤ I t 13) (hf : 0 ≤ f ∧ f < 96) (h4 : gs_cf (gs_lfi (i : Int) Ir) f (Int.toNat (I t 13)) < 4) (c6 : Ir 0 6 = (i : Int)) (c1 : Iₚ t 13 = I t 13 + 1) (a : ∀ k q : Nat, (k : Int) < I t 13 → Aₚ (t + 16) k = some q → A (t + 16) k = some q ∧ Iₚ q 1 = I q 1) (aL : ∀ q : Nat, Aₚ (t + 16) (Int.toNat (I t 13)) = some q → Iₚ q 1 = f) (r : gs_Uln f Ir Irₚ) : gs_TL (i : Int) t Irₚ Iₚ Aₚ := by
  obtain ⟨r1, r2, r3, r4⟩ := r
  rw [c6] at r1 r2 r3 r4
  have e := h.1
  have g : ∀ k : Nat, (k : Int) < I t 13 → gs_lfi (i : Int) Irₚ k = gs_lfi (i : Int) Ir k := fun k hk => r4 _ (by omega)
  have gn : gs_lfi (i : Int) Irₚ (Int.toNat (I t 13)) = f := by
    unfold gs_lfi
    rw [show 384 * (i : Int) + ((Int.toNat (I t 13) : Nat) : Int) = 384 * (i : Int) + Ir 19 (Int.toNat (i : Int)) from by omega]
    exact r3
  refine ⟨by omega, fun k q hk hA => ?_, fun x hx => ?_, fun k hk => ?_⟩
  · by_cases d : (k : Int) < I t 13
    · have b := a k q d hA
      rw [b.2, g k d]
      exact h.2.1 k q d b.1
    · have kn : k = Int.toNat (I t 13) := by omega
      rw [kn] at hA
      rw [kn, gn]
      exact aL q hA
  · rw [c1, show Int.toNat (I t 13 + 1) = Int.toNat (I t 13) + 1 from by omega]
    show gs_cf (gs_lfi (i : Int) Irₚ) x (Int.toNat (I t 13)) + (if gs_lfi (i : Int) Irₚ (Int.toNat (I t 13)) = x then 1 else 0) ≤ 4
    rw [gn, gs_cf_m (g := gs_lfi (i : Int) Ir) (gₚ := gs_lfi (i : Int) Irₚ) _ (fun k hk => g k (by omega))]
    by_cases d : f = x
    · rw [if_pos d, ← d]
      omega
    · rw [if_neg d]
      have := h.2.2.1 x hx
      omega
  · by_cases d : (k : Int) < I t 13
    · rw [g k d]
      exact h.2.2.2 k d
    · rw [show k = Int.toNat (I t 13) from by omega, gn]
      exact hf
end RC
/-! the reference's rows of other TONGUES, through each statement -/
section RO
variable {Ir Irₚ : gr_I} {Jr Jrₚ : gr_J} {i : Nat}
theorem gs_rO_83 {w : Int64} {nr : Nat → Int64} {m : Nat} (c6 : Ir 0 6 = (i : Int)) (b1 : 0 ≤ Ir 13 i ∧ Ir 13 i < 8) (b3 : 0 ≤ Ir 14 i ∧ Ir 14 i + m ≤ 48) (r : gs_Ufe w nr m Ir Jr Irₚ Jrₚ) (ts : gs_TsX [13, 14, 24, 25, 1020, 1021] Ir Jr Irₚ Jrₚ) : gs_rO (i : Int) Ir Jr Irₚ Jrₚ := by
  obtain ⟨⟨_, r2⟩, ⟨_, r4⟩, ⟨_, r6⟩, _, r8⟩ := r
  rw [c6] at r2 r4 r6 r8
  rw [show Int.toNat (i : Int) = i from by omega] at r2 r4 r6 r8
  exact ⟨fun j hj => ⟨r2 j (by omega), r6 j (by omega), ts.2.1 15 rfl rfl j, ts.2.1 16 rfl rfl j, ts.2.1 17 rfl rfl j, ts.2.1 18 rfl rfl j, ts.2.1 19 rfl rfl j⟩, fun j hj => r4 j (by omega), fun j hj => r8 j (by omega), fun j _ => ts.2.2 22 rfl rfl j, fun j _ => ⟨ts.2.2 23 rfl rfl j, ts.2.1 31 rfl rfl j⟩, fun j _ => ts.2.1 32 rfl rfl j, fun j _ => ts.2.1 41 rfl rfl j⟩
theorem gs_rO_84 {w : Int64} (c6 : Ir 0 6 = (i : Int)) (b : 0 ≤ Ir 15 i ∧ Ir 15 i < 16) (r : gs_putT 22 15 16 w Ir Jr Irₚ Jrₚ) (ts : gs_TsX [15, 1022, 26] Ir Jr Irₚ Jrₚ) : gs_rO (i : Int) Ir Jr Irₚ Jrₚ := by
  obtain ⟨_, r2, _, r4⟩ := r
  rw [c6] at r2 r4
  rw [show Int.toNat (i : Int) = i from by omega] at r2 r4
  exact ⟨fun j hj => ⟨ts.2.1 13 rfl rfl j, ts.2.1 14 rfl rfl j, r2 j (by omega), ts.2.1 16 rfl rfl j, ts.2.1 17 rfl rfl j, ts.2.1 18 rfl rfl j, ts.2.1 19 rfl rfl j⟩, fun j _ => ts.2.2 20 rfl rfl j, fun j _ => ⟨ts.2.2 21 rfl rfl j, ts.2.1 24 rfl rfl j, ts.2.1 25 rfl rfl j⟩, fun j hj => r4 j (by omega), fun j _ => ⟨ts.2.2 23 rfl rfl j, ts.2.1 31 rfl rfl j⟩, fun j _ => ts.2.1 32 rfl rfl j, fun j _ => ts.2.1 41 rfl rfl j⟩
theorem gs_rO_85 (c6 : Ir 0 6 = (i : Int)) (r : ∀ j, ¬ j = Int.toNat (Ir 0 6) → Irₚ 16 j = Ir 16 j) (ts : gs_TsX [16, 27, 28, 29, 30] Ir Jr Irₚ Jrₚ) : gs_rO (i : Int) Ir Jr Irₚ Jrₚ := by
  rw [c6] at r
  exact ⟨fun j hj => ⟨ts.2.1 13 rfl rfl j, ts.2.1 14 rfl rfl j, ts.2.1 15 rfl rfl j, r j (by omega), ts.2.1 17 rfl rfl j, ts.2.1 18 rfl rfl j, ts.2.1 19 rfl rfl j⟩, fun j _ => ts.2.2 20 rfl rfl j, fun j _ => ⟨ts.2.2 21 rfl rfl j, ts.2.1 24 rfl rfl j, ts.2.1 25 rfl rfl j⟩, fun j _ => ts.2.2 22 rfl rfl j, fun j _ => ⟨ts.2.2 23 rfl rfl j, ts.2.1 31 rfl rfl j⟩, fun j _ => ts.2.1 32 rfl rfl j, fun j _ => ts.2.1 41 rfl rfl j⟩
theorem gs_rO_87 (c6 : Ir 0 6 = (i : Int)) (r : ∀ j, ¬ j = Int.toNat (Ir 0 6) → Irₚ 18 j = Ir 18 j) (ts : gs_TsX [18, 36, 37, 38, 39, 40] Ir Jr Irₚ Jrₚ) : gs_rO (i : Int) Ir Jr Irₚ Jrₚ := by
  rw [c6] at r
  exact ⟨fun j hj => ⟨ts.2.1 13 rfl rfl j, ts.2.1 14 rfl rfl j, ts.2.1 15 rfl rfl j, ts.2.1 16 rfl rfl j, ts.2.1 17 rfl rfl j, r j (by omega), ts.2.1 19 rfl rfl j⟩, fun j _ => ts.2.2 20 rfl rfl j, fun j _ => ⟨ts.2.2 21 rfl rfl j, ts.2.1 24 rfl rfl j, ts.2.1 25 rfl rfl j⟩, fun j _ => ts.2.2 22 rfl rfl j, fun j _ => ⟨ts.2.2 23 rfl rfl j, ts.2.1 31 rfl rfl j⟩, fun j _ => ts.2.1 32 rfl rfl j, fun j _ => ts.2.1 41 rfl rfl j⟩
theorem gs_rO_86 {w : Int64} {V : List Int} (c6 : Ir 0 6 = (i : Int)) (b : 0 ≤ Ir 17 i ∧ Ir 17 i < 24) (r : gs_Upat w V Ir Jr Irₚ Jrₚ) (ts : gs_TsX [17, 1023, 31, 32, 33, 34] Ir Jr Irₚ Jrₚ) : gs_rO (i : Int) Ir Jr Irₚ Jrₚ := by
  obtain ⟨_, r2, _, r4, _, r6, _, r8⟩ := r
  have hP : gs_Pn Ir = Int.toNat (24 * (i : Int) + Ir 17 i) := by
    show Int.toNat (24 * Ir 0 6 + Ir 17 (Int.toNat (Ir 0 6))) = _
    rw [c6, show Int.toNat (i : Int) = i from by omega]
  rw [c6] at r2
  exact ⟨fun j hj => ⟨ts.2.1 13 rfl rfl j, ts.2.1 14 rfl rfl j, ts.2.1 15 rfl rfl j, ts.2.1 16 rfl rfl j, r2 j (by omega), ts.2.1 18 rfl rfl j, ts.2.1 19 rfl rfl j⟩, fun j _ => ts.2.2 20 rfl rfl j, fun j _ => ⟨ts.2.2 21 rfl rfl j, ts.2.1 24 rfl rfl j, ts.2.1 25 rfl rfl j⟩, fun j _ => ts.2.2 22 rfl rfl j, fun j hj => ⟨r4 j (by omega), r6 j (by omega)⟩, fun j hj => r8 j (by omega), fun j _ => ts.2.1 41 rfl rfl j⟩
theorem gs_rO_88 {f : Int} (c6 : Ir 0 6 = (i : Int)) (b : 0 ≤ Ir 19 i ∧ Ir 19 i < 384) (r : gs_Uln f Ir Irₚ) (ts : gs_TsX [19, 41] Ir Jr Irₚ Jrₚ) : gs_rO (i : Int) Ir Jr Irₚ Jrₚ := by
  obtain ⟨_, r2, _, r4⟩ := r
  rw [c6] at r2 r4
  rw [show Int.toNat (i : Int) = i from by omega] at r2 r4
  exact ⟨fun j hj => ⟨ts.2.1 13 rfl rfl j, ts.2.1 14 rfl rfl j, ts.2.1 15 rfl rfl j, ts.2.1 16 rfl rfl j, ts.2.1 17 rfl rfl j, ts.2.1 18 rfl rfl j, r2 j (by omega)⟩, fun j _ => ts.2.2 20 rfl rfl j, fun j _ => ⟨ts.2.2 21 rfl rfl j, ts.2.1 24 rfl rfl j, ts.2.1 25 rfl rfl j⟩, fun j _ => ts.2.2 22 rfl rfl j, fun j _ => ⟨ts.2.2 23 rfl rfl j, ts.2.1 31 rfl rfl j⟩, fun j _ => ts.2.1 32 rfl rfl j, fun j hj => r4 j (by omega)⟩
end RO
