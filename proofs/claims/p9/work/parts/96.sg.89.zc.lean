/-! WHAT THE LATER METHODS ASK OF LINS AND WAYS, out of what the store keeps. -/
theorem gh_c1 (x : Int) : (gc_c1 x = 1 ∧ 0 ≤ x) ∨ (gc_c1 x = 0 ∧ x < 0) := by
  by_cases h : 0 ≤ x
  · exact Or.inl ⟨gc_c1p h, h⟩
  · exact Or.inr ⟨gc_c1n (by omega), by omega⟩
/-- as many slots as arguments, and every argument has its slot -/
theorem gh_sl {q : Nat} {I : gr_I} (h : gh_LN q I) (h4 : 0 ≤ I 12 (Int.toNat (I q 1)) ∧ I 12 (Int.toNat (I q 1)) ≤ 4) : I q 8 = I 12 (Int.toNat (I q 1)) ∧ ∀ a : Nat, (a : Int) < I 12 (Int.toNat (I q 1)) → 0 ≤ I (q + 6) a := by
  obtain ⟨h1, h2, _, _, _, _, h7⟩ := h
  obtain ⟨_, _, _, l4⟩ := h1
  unfold gc_CT at h2
  have m0 := l4 0 (by decide)
  have m1 := l4 1 (by decide)
  have m2 := l4 2 (by decide)
  have m3 := l4 3 (by decide)
  generalize hx0 : I (q + 6) 0 = x0 at *
  generalize hx1 : I (q + 6) 1 = x1 at *
  generalize hx2 : I (q + 6) 2 = x2 at *
  generalize hx3 : I (q + 6) 3 = x3 at *
  have d0 : 0 ≤ x0 → (0 : Int) < I 12 (Int.toNat (I q 1)) := fun g => (m0 g).1
  have d1 : 0 ≤ x1 → (1 : Int) < I 12 (Int.toNat (I q 1)) := fun g => (m1 g).1
  have d2 : 0 ≤ x2 → (2 : Int) < I 12 (Int.toNat (I q 1)) := fun g => (m2 g).1
  have d3 : 0 ≤ x3 → (3 : Int) < I 12 (Int.toNat (I q 1)) := fun g => (m3 g).1
  have e0 := gh_c1 x0
  have e1 := gh_c1 x1
  have e2 := gh_c1 x2
  have e3 := gh_c1 x3
  clear m0 m1 m2 m3 l4
  refine ⟨by omega, fun a ha => ?_⟩
  have ha4 : a < 4 := by omega
  match a, ha4 with
  | 0, _ => rw [hx0]; omega
  | 1, _ => rw [hx1]; omega
  | 2, _ => rw [hx2]; omega
  | 3, _ => rw [hx3]; omega
  | _ + 4, h9 => omega
def gh_sg (A : gc_A) (I : gr_I) (t i : Nat) (s : Int) : Int := match A (t + 16) i with
  | some q => I (q + 4) (Int.toNat s)
  | none => 0
theorem gh_sg_at {A : gc_A} {I : gr_I} {t i q : Nat} {s : Int} (h : A (t + 16) i = some q) : gh_sg A I t i s = I (q + 4) (Int.toNat s) := by
  unfold gh_sg
  rw [h]
theorem gh_LP_of {A : gc_A} {t : Nat} {I : gr_I} (h : gh_TL A I t) : gc_LP (gc_lsl A I t) (gh_sg A I t) A t I := fun i q hi hA => by
  obtain ⟨l1, _, _, l4, _, _, _⟩ := h i q hi hA
  refine ⟨l4, gc_lsl_at hA, fun s _ _ => gh_sg_at hA, fun s h0 hs => ?_⟩
  exact (l1.2.2.1 (Int.toNat s) (by omega)).2
theorem gh_SO_of {A : gc_A} {t : Nat} {I : gr_I} (h : gh_TL A I t) (ha : ∀ k, 0 ≤ I 12 k ∧ I 12 k ≤ 4) : gc_SO A t I := fun i q hi hA a h0 h1 => by
  have hL := h i q hi hA
  have h4 := ha (Int.toNat (I q 1))
  have hz := (gh_sl hL h4).2 (Int.toNat a) (by omega)
  obtain ⟨_, g2, g3⟩ := hL.1.2.2.2 (Int.toNat a) (by omega) hz
  exact ⟨⟨hz, g2⟩, by rw [g3]; omega⟩
theorem gh_SOP_of {A : gc_A} {t : Nat} {I : gr_I} (h : gh_TL A I t) (ha : ∀ k, 0 ≤ I 12 k ∧ I 12 k ≤ 4) : ∀ i q : Nat, (i : Int) < I t 13 → A (t + 16) i = some q → ∀ a : Int, 0 ≤ a → a < I q 8 → 0 ≤ I (q + 6) (Int.toNat a) ∧ I (q + 6) (Int.toNat a) < I q 8 := fun i q hi hA a h0 h1 => by
  have hL := h i q hi hA
  have h4 := ha (Int.toNat (I q 1))
  have h8 := (gh_sl hL h4).1
  exact (gh_SO_of h ha i q hi hA a h0 (by omega)).1
theorem gh_AG_of {A : gc_A} {t : Nat} {I : gr_I} (h : gh_TL A I t) : gc_AG A t I := fun i q hi hA k h0 h1 => (h i q hi hA).1.2.1 (Int.toNat k) (by omega)
/-- a way's FUN takes as many as it has parts -/
theorem gh_ARF {sh : gz_Sh} {ro : Nat → Nat} {A : gc_A} {t : Nat} {I : gr_I} (hL : gc_Ls sh ro A t I) (h : gh_TL A I t) (hw : gh_TW I t) (ha : ∀ k, 0 ≤ I 12 k ∧ I 12 k ≤ 4) (wv : gc_WV t I) (wb : gc_WB (24 * I t 11) I) : ∀ k : Nat, (k : Int) < I 48 6 → I 12 (Int.toNat (gc_fn A I t k)) = gc_ws (gc_lsl A I t) I k ∧ gc_fn A I t k < I 4 1 := fun k hk => by
  by_cases h0 : 0 ≤ I 54 k
  · have h9 := wb k hk
    have e : Int.toNat (I 54 k / 24 * 11) = 11 * Int.toNat (I 54 k / 24) := by omega
    obtain ⟨g1, g2⟩ := hw (Int.toNat (I 54 k / 24)) (by omega)
    unfold gc_fn gc_ws
    rw [if_pos h0, if_pos h0, e]
    exact ⟨g1, g2⟩
  · have h9 := (wv k hk).resolve_left h0
    obtain ⟨q, hA, _⟩ := hL (Int.toNat (-1 - I 54 k)) (by omega)
    have hl := h _ q (by omega) hA
    have h4 := ha (Int.toNat (I q 1))
    have h8 := (gh_sl hl h4).1
    unfold gc_fn gc_ws
    rw [if_neg h0, if_neg h0, hA, gc_lsl_at hA]
    exact ⟨h8.symm, hl.2.2.2.2.2.1⟩
