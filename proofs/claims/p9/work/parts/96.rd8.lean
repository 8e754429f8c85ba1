/-! what a statement does to WORDS and PATTERNS of the class, out of its frames (p9 to p13) -/
section SD
variable {B : Int} {β : Int → Int} {η p z : Int} {sh shₚ : gz_Sh} {ro ro' : Nat → Nat} {i t a s : Nat} {I Iₚ I8 : gr_I} {J Jₚ : gr_J} {A Aₚ : gc_A} {Ir Irₚ : gr_I} {Jr Jrₚ : gr_J}
theorem gs_cD_of (f : ∀ q j : Nat, 144 ≤ q → Iₚ q j = I q j) (ht : 144 ≤ t) : gs_cD t I Iₚ := ⟨⟨f _ _ (by omega), fun k => f _ _ (by omega), fun k => f _ _ (by omega)⟩, f _ _ ht, fun k => f _ _ (by omega)⟩
theorem gs_SD_s (hs : gh_HS sh ro I J A) (h8 : Iₚ 8 1 = I 8 1) (f : ∀ q j : Nat, 144 ≤ q → Iₚ q j = I q j) : gs_SD β η p Ir Jr I A z Iₚ A := fun i t hi hA => Or.inr ⟨by omega, hA, Or.inl (gs_cD_of f (gs_hT9 hs (show (i : Int) < I 8 1 by omega) hA).2)⟩
theorem gs_SD_t (hs : gh_HS sh ro I J A) (hi : (i : Int) < I 8 1) (ht : A 10 i = some t) (h8 : Iₚ 8 1 = I 8 1) (f : ∀ q j : Nat, 144 ≤ q → (t ≤ q ∧ q < t + 17) ∨ Iₚ q j = I q j) (h : gs_cD t I Iₚ ∨ (z = 1 ∧ (i : Int) = I 1 5 ∧ ((gs_rn β η p = gs_W 86 ∧ gs_c86 β η p Ir Jr I t Iₚ) ∨ (gs_rn β η p = gs_W 87 ∧ gs_c87 β η p Ir Jr I t Iₚ)))) : gs_SD β η p Ir Jr I A z Iₚ A := fun i2 t2 hi2 hA => Or.inr ⟨by omega, hA, by
  by_cases c : i2 = i
  · subst c
    rw [← Option.some.inj (ht.symm.trans hA)]
    exact h
  · have G2 := (gs_hT9 hs (show (i2 : Int) < I 8 1 by omega) hA).2
    have dj := gs_hJ9 hs hi ht (show (i2 : Int) < I 8 1 by omega) hA c
    have fz : ∀ q j : Nat, t2 ≤ q → q < t2 + 17 → Iₚ q j = I q j := fun q j h1 h2 => (f q j (by omega)).resolve_left (by omega)
    exact Or.inl ⟨⟨fz _ _ (by omega) (by omega), fun k => fz _ _ (by omega) (by omega), fun k => fz _ _ (by omega) (by omega)⟩, fz _ _ (by omega) (by omega), fun k => fz _ _ (by omega) (by omega)⟩⟩
theorem gs_SD_pre (f : ∀ q j : Nat, ¬ q = 39 → ¬ q = 23 → I8 q j = I q j) (h8 : I8 8 1 = I 8 1) (h5 : I8 1 5 = I 1 5) (hs : gh_HS sh ro I J A) (h : gs_SD β η p Ir Jr I8 A z Iₚ Aₚ) : gs_SD β η p Ir Jr I A z Iₚ Aₚ := fun i t hi hA => by
  rcases h i t hi hA with ⟨g1, g2⟩ | ⟨g1, g2, g3⟩
  · exact Or.inl ⟨by omega, g2⟩
  · have G := (gs_hT9 hs (show (i : Int) < I 8 1 by omega) g2).2
    have fz : ∀ q j : Nat, 144 ≤ q → I8 q j = I q j := fun q j h => f q j (by omega) (by omega)
    have e11 := fz (t + 11) 1 (by omega)
    have ew := fz t 11 (by omega)
    refine Or.inr ⟨by omega, g2, ?_⟩
    rcases g3 with g | ⟨z1, gi, ⟨gw, g⟩ | ⟨gw, g⟩⟩
    · exact Or.inl ⟨⟨g.1.1.trans e11, fun k => (g.1.2.1 k).trans (fz _ _ (by omega)), fun k => (g.1.2.2 k).trans (fz _ _ (by omega))⟩, g.2.1.trans ew, fun k => (g.2.2 k).trans (fz _ _ (by omega))⟩
    · refine Or.inr ⟨z1, by omega, Or.inl ⟨gw, ?_, g.2.1.trans ew, fun k => (g.2.2 k).trans (fz _ _ (by omega))⟩⟩
      obtain ⟨x1, x2, x3, x4, x5⟩ := g.1
      unfold gs_Cct at x5 ⊢
      rw [e11] at x1 x2 x3 x4 x5
      exact ⟨x1, fun j hj => (x2 j hj).trans (fz _ _ (by omega)), fun j hj => (x3 j hj).trans (fz _ _ (by omega)), x4, x5⟩
    · refine Or.inr ⟨z1, by omega, Or.inr ⟨gw, ⟨g.1.1.trans e11, fun k => (g.1.2.1 k).trans (fz _ _ (by omega)), fun k => (g.1.2.2 k).trans (fz _ _ (by omega))⟩, by have := g.2.1; omega, ?_⟩⟩
      have m := g.2.2
      unfold gs_Cwd at m ⊢
      rw [ew] at m
      exact ⟨m.1, fun j hj => (m.2 j hj).trans (fz _ _ (by omega))⟩
theorem gs_Rb9_of (hs : gh_HS sh ro I J A) (hR : gs_R I J A Ir Jr) : gs_Rb9 Ir := by
  have i8 : 0 ≤ I 8 1 ∧ I 8 1 ≤ 8 := gc_in hs.2.1 (gc_bR hs.1 (by decide) rfl) rfl rfl
  have hc := hs.2.2.2.2.2.2
  obtain ⟨_, _, _, r8, _, _, r5, hT, h0⟩ := hR
  have e8 := r8.1
  refine ⟨fun j hj => ?_, by omega⟩
  by_cases c : (j : Int) < I 8 1
  · obtain ⟨u, w1, _⟩ := hs.2.2.2.2.1 j c
    obtain ⟨_, _, _, _, qp, qw, _⟩ := hT j u c w1
    have iT := (gs_hT9 hs c w1).1
    have b := (gs_bT_of hs.2.1 iT).2.2.2.1
    have b6 : 0 ≤ I u 11 ∧ I u 11 ≤ 64 := gc_in hs.2.1 iT.2.1 rfl rfl
    have e7 := qp.1.1
    rw [show Int.toNat (j : Int) = j from by omega] at e7 qw
    exact ⟨by omega, by omega⟩
  · obtain ⟨_, _, _, _, z3, z4, _⟩ := h0 j (by omega) hj
    exact ⟨by omega, by omega⟩
theorem gs_SD_80 (hs : gh_HS sh ro I J A) (hR : gh_RS B sh ro I A z a s shₚ ro' Iₚ Jₚ Aₚ) (hP : gs_RTp β η (gs_X β η p) Ir Jr sh I J A z Iₚ Jₚ Aₚ) : gs_SD β η p Ir Jr I A z Iₚ Aₚ := by
  have h144 := gc_Base_len hs.1
  have i8 : 0 ≤ I 8 1 ∧ I 8 1 ≤ 8 := gc_in hs.2.1 (gc_bR hs.1 (by decide) rfl) rfl rfl
  have same : ∀ I2 : gr_I, (∀ q j : Nat, ((q = 39 ∧ j = 3) ∨ (q = 39 ∧ j = 4) ∨ (q = 23 ∧ j = 5) ∨ (q = 23 ∧ j = 6) ∨ (q = 23 ∧ j = 7) ∨ (q = 23 ∧ j = 8) ∨ (q = 1 ∧ j = 5)) ∨ I2 q j = I q j) → gs_SD β η p Ir Jr I A z I2 A := fun I2 c5 => gs_SD_s hs ((c5 8 1).resolve_left (by omega)) (fun q j h => (c5 q j).resolve_left (by omega))
  have hz := hR.1
  by_cases c0 : z = 0
  · obtain ⟨_, _, e, _, c5, _⟩ := hP.1 c0
    rw [e]
    exact same Iₚ c5
  · obtain ⟨_, _, hc⟩ := hP.2 (by omega)
    rcases hc with ⟨_, _, e, c5, _⟩ | ⟨_, l7, _, pu, t, G, hA, hA9, hAf, hz0, c5, _⟩
    · rw [e]
      exact same Iₚ c5
    · have pu3 := (pu (show I 8 1 < ((8 : Nat) : Int) by omega)).1
      intro i t2 hi ht
      by_cases c : i = Int.toNat (I 8 1)
      · rw [c] at ht
        have et : t = t2 := Option.some.inj (hA.symm.trans ht)
        rw [← et]
        exact Or.inl ⟨by omega, hz0.2.2.2.1, hz0.2.2.2.2.2.1⟩
      · have hi2 : (i : Int) < I 8 1 := by omega
        have ht2 : A 10 i = some t2 := (hAf 10 i (by omega) (fun h => c h.2)).symm.trans ht
        have lt := gs_SC_lt hs hi2 ht2
        have dj : t2 + 16 < t ∨ t + 25 ≤ t2 := by
          rcases hA9 with h9 | h9
          · have := gs_SC_dj hs (show Int.toNat (I 8 1) < 8 by omega) h9 (show i < 8 by omega) ht2 c
            omega
          · exact Or.inl (by omega)
        have G2 := (gs_hT9 hs hi2 ht2).2
        have fz : ∀ d j : Nat, d ≤ 16 → Iₚ (t2 + d) j = I (t2 + d) j := fun d j hd => (c5 (t2 + d) j (by omega)).resolve_left (by omega)
        exact Or.inr ⟨hi2, ht2, Or.inl ⟨⟨fz 11 1 (by decide), fun k => fz 13 k (by decide), fun k => fz 14 k (by decide)⟩, fz 0 11 (by decide), fun k => fz 15 k (by decide)⟩⟩
theorem gs_SD_88 (hs : gh_HS sh ro I J A) (hi : (i : Int) < I 8 1) (ht : A 10 i = some t) (hR : gc_RL B sh ro I J A t z a s shₚ ro' Iₚ Jₚ Aₚ) (hP : gs_RLp β η (gs_X β η p) Ir Jr I t z Iₚ Jₚ Aₚ) : gs_SD β η p Ir Jr I A z Iₚ Aₚ := by
  obtain ⟨_, _, _, _, _, _, _, _, fr, _, _, hres⟩ := hR
  have h144 := gc_Base_len hs.1
  have hA10 : ∀ i9, Aₚ 10 i9 = A 10 i9 := fun i9 => by
    have G := (gs_hT9 hs hi ht).2
    rcases hres with ⟨_, _, g⟩ | ⟨_, _, _, g, _⟩
    · exact g 10 i9 (by omega)
    · exact g 10 i9 (by omega) (fun h9 => by have := h9.1; omega)
  have e8 := (fr 8 1 (by omega)).resolve_left (by have := (gs_hT9 hs hi ht).2; omega)
  intro i2 t2 hi2 hA
  rw [hA10] at hA
  have hi9 : (i2 : Int) < I 8 1 := by omega
  have G2 := (gs_hT9 hs hi9 hA).2
  have lt := gs_SC_lt hs hi9 hA
  have G := (gs_hT9 hs hi ht).2
  have dj : t2 = t ∨ t2 + 25 ≤ t ∨ t + 25 ≤ t2 := by
    by_cases c : i2 = i
    · subst c
      exact Or.inl (Option.some.inj (hA.symm.trans ht))
    · exact Or.inr (gs_hJ9 hs hi ht hi9 hA c)
  have fz : ∀ d j : Nat, d ≤ 16 → ¬ (d = 0 ∧ j = 13) → Iₚ (t2 + d) j = I (t2 + d) j := fun d j hd hn => (fr (t2 + d) j (by omega)).resolve_left (by omega)
  exact Or.inr ⟨hi9, hA, Or.inl ⟨⟨fz 11 1 (by decide) (by decide), fun k => fz 13 k (by decide) (fun h => by omega), fun k => fz 14 k (by decide) (fun h => by omega)⟩, fz 0 11 (by decide) (by decide), fun k => fz 15 k (by decide) (fun h => by omega)⟩⟩
end SD
/-! since a module's start; where it was wrong; where nothing of it is touched -/
section CD
variable {β : Int → Int} {η p i : Int} {t : Nat} {I Iₚ I0 Ir Irₚ Ir0 : gr_I} {J Jₚ Jr Jrₚ : gr_J} {A Aₚ A0 : gc_A}
def gs_CD (I0 : gr_I) (A0 : gc_A) (I : gr_I) (A : gc_A) : Prop := I0 8 1 ≤ I 8 1 ∧ ∀ i t : Nat, (i : Int) < I0 8 1 → A 10 i = some t → A0 10 i = some t ∧ I0 t 11 ≤ I t 11 ∧ gs_kD t I0 I
def gs_RE9 (Ir0 Ir : gr_I) : Prop := Ir0 0 3 ≤ Ir 0 3 ∧ ∀ i : Int, 0 ≤ i → i < 8 → Ir0 18 (Int.toNat i) ≤ Ir 18 (Int.toNat i) ∧ gs_kE i Ir0 Ir
theorem gs_kD_tr (b : I0 t 11 ≤ I t 11) (h : gs_kD t I0 I) (g : gs_kD t I Iₚ) : gs_kD t I0 Iₚ := ⟨⟨Int.le_trans h.1.1 g.1.1, fun k hk => (g.1.2.1 k (by have := h.1.1; omega)).trans (h.1.2.1 k hk), fun k hk => (g.1.2.2 k (by have := h.1.1; omega)).trans (h.1.2.2 k hk)⟩, fun k hk => (g.2 k (by omega)).trans (h.2 k hk)⟩
theorem gs_kE_tr (b : Ir0 18 (Int.toNat i) ≤ Ir 18 (Int.toNat i)) (h : gs_kE i Ir0 Ir) (g : gs_kE i Ir Irₚ) : gs_kE i Ir0 Irₚ := ⟨⟨Int.le_trans h.1.1 g.1.1, fun f f0 f1 => (g.1.2.1 f f0 (by have := h.1.1; omega)).trans (h.1.2.1 f f0 f1), fun f f0 f1 j j0 j1 => by
    obtain ⟨a1, a2, a3⟩ := h.1.2.2 f f0 f1 j j0 j1
    obtain ⟨b1, b2, b3⟩ := g.1.2.2 f f0 (by have := h.1.1; omega) j j0 j1
    exact ⟨b1.trans a1, b2.trans a2, b3.trans a3⟩⟩, fun w w0 w1 => by
    obtain ⟨⟨⟨a1, a2⟩, a3, a4⟩, a5⟩ := h.2 w w0 w1
    obtain ⟨⟨⟨b1, b2⟩, b3, b4⟩, b5⟩ := g.2 w w0 (by omega)
    exact ⟨⟨⟨b1.trans a1, b2.trans a2⟩, b3.trans a3, b4.trans a4⟩, fun k hk => (b5 k hk).trans (a5 k hk)⟩⟩
theorem gs_kE_rf : gs_kE i Ir Ir := ⟨⟨Int.le_refl _, fun _ _ _ => rfl, fun _ _ _ _ _ _ => ⟨rfl, rfl, rfl⟩⟩, fun _ _ _ => ⟨⟨⟨rfl, rfl⟩, rfl, rfl⟩, fun _ _ => rfl⟩⟩
theorem gs_RE9_rf : gs_RE9 Ir Ir := ⟨Int.le_refl _, fun i _ _ => ⟨Int.le_refl _, gs_kE_rf⟩⟩
theorem gs_CD_st {z : Int} (h : gs_CD I0 A0 I A) (sd : gs_SD β η p Ir Jr I A z Iₚ Aₚ) (h8 : I 8 1 ≤ Iₚ 8 1) : gs_CD I0 A0 Iₚ Aₚ := by
  refine ⟨Int.le_trans h.1 h8, fun i t hi hA => ?_⟩
  have h1 := h.1
  rcases sd i t (by omega) hA with ⟨g, _⟩ | ⟨hi0, hA0, g⟩
  · exact absurd g (by omega)
  · obtain ⟨a, b, c⟩ := h.2 i t hi hA0
    rcases g with g | ⟨_, _, ⟨_, g⟩ | ⟨_, g⟩⟩
    · exact ⟨a, by have := g.2.1; omega, gs_kD_tr b c (gs_kD_s g)⟩
    · exact ⟨a, by have := g.2.1; omega, gs_kD_tr b c (gs_kD_86 g)⟩
    · exact ⟨a, by have := g.2.1; omega, gs_kD_tr b c (gs_kD_87 g)⟩
theorem gs_RE9_ts {m : List Nat} (h : gs_RE9 Ir0 Ir) (ts : gs_TsX m Ir Jr Irₚ Jrₚ) (hm : ([17, 31, 32, 33, 34, 36, 37, 38, 39, 40].all (fun a => !(m.elem a)) && (!(m.elem 18) && !(m.elem 103))) = true) : gs_RE9 Ir0 Irₚ := by
  rw [Bool.and_eq_true] at hm
  obtain ⟨h1, h2⟩ := hm
  simp only [Bool.and_eq_true, Bool.not_eq_true'] at h2
  refine ⟨by rw [ts.1 3 rfl h2.2]; exact h.1, fun i hi hi8 => ?_⟩
  obtain ⟨a, b⟩ := h.2 i hi hi8
  exact ⟨by rw [ts.2.1 18 rfl h2.1]; exact a, gs_kE_tr a b (gs_kE_ts ts h1)⟩
theorem gs_f3_st (u : gs_STU β η p Ir Jr Irₚ Jrₚ) : Ir 0 3 ≤ Irₚ 0 3 := by
  obtain ⟨k, ek, uk⟩ := u
  have r := gs_UK_r uk
  have hk : k = 80 ∨ k = 81 ∨ k = 82 ∨ k = 83 ∨ k = 84 ∨ k = 85 ∨ k = 86 ∨ k = 87 ∨ k = 88 ∨ k = 89 ∨ k = 90 ∨ k = 91 := by omega
  rcases hk with e | e | e | e | e | e | e | e | e | e | e | e <;> subst e <;> first | (rw [uk.2.1 3 rfl rfl]; exact Int.le_refl _) | skip
  have x := uk.1.1.1
  omega
theorem gs_RE9_st (h : gs_RE9 Ir0 Ir) (u : gs_STU β η p Ir Jr Irₚ Jrₚ) (b : gs_Rb9 Ir) (b' : gs_Rb9 Irₚ) (hc : gs_K6 (gs_rn β η p) → 0 ≤ Ir 0 6) : gs_RE9 Ir0 Irₚ := by
  refine ⟨Int.le_trans h.1 (gs_f3_st u), fun i hi hi8 => ?_⟩
  obtain ⟨a, g⟩ := h.2 i hi hi8
  refine ⟨Int.le_trans a ?_, gs_kE_tr a g (gs_kE_st u ⟨hi, hi8⟩ b b' hc)⟩
  obtain ⟨k, ek, uk⟩ := u
  have r := gs_UK_r uk
  have hk : k = 80 ∨ k = 81 ∨ k = 82 ∨ k = 83 ∨ k = 84 ∨ k = 85 ∨ k = 86 ∨ k = 87 ∨ k = 88 ∨ k = 89 ∨ k = 90 ∨ k = 91 := by omega
  rcases hk with e | e | e | e | e | e | e | e | e | e | e | e <;> subst e <;> first | (rw [uk.2.2.1 18 rfl rfl]; exact Int.le_refl _) | skip
  obtain ⟨⟨⟨x, y⟩, _⟩, _⟩ := uk
  by_cases c : Int.toNat i = Int.toNat (Ir 0 6)
  · rw [c]
    omega
  · rw [y _ c]
    exact Int.le_refl _
/-- PATTERNS and WORDS kept on both sides, where counts are as they were -/
theorem gs_RW_kp (h : gs_RW I0 A0 Ir0) (hR : gs_R I0 J A0 Ir0 Jr) (h8 : Iₚ 8 1 = I0 8 1) (b8 : I0 8 1 ≤ 8) (lc : gc_PKs I0 Iₚ) (ht : ∀ i t : Nat, (i : Int) < I0 8 1 → Aₚ 10 i = some t → A0 10 i = some t ∧ gs_kD t I0 Iₚ ∧ Iₚ (t + 11) 1 = I0 (t + 11) 1 ∧ Iₚ t 11 = I0 t 11) (lr : gr_LKs Ir0 Irₚ) (lp : gr_PTs Ir0 Irₚ) (kr : ∀ i : Int, 0 ≤ i → i < 8 → gs_kE i Ir0 Irₚ) (f3 : Ir0 0 3 ≤ Irₚ 0 3) (pd : gs_PDa Irₚ) : gs_RW Iₚ Aₚ Irₚ := by
  obtain ⟨_, _, _, _, _, _, _, hT, _⟩ := hR
  refine ⟨pd, fun i t hi hA => ?_⟩
  obtain ⟨hA0, kc, c11, cw⟩ := ht i t (by omega) hA
  obtain ⟨_, _, _, _, qp, qw, _⟩ := hT i t (by omega) hA0
  have hh := h.2 i t (by omega) hA0
  have k := kr (i : Int) (by omega) (by omega)
  refine ⟨fun f f0 f1 => ?_, fun w w0 w1 => gs_WA9_kp (hh.2 w w0 (by omega)) w0 (by omega) qw lc kc lr k f3⟩
  have f2 : f < I0 (t + 11) 1 := by omega
  have o := h.1.2 (i : Int) f (by omega) (by omega) f0 (by rw [← qp.1.1]; exact f2)
  exact gs_CA9_kp (hh.1 f f0 f2) f0 f2 qp.1.1 (qp.2 f f0 f2).1 o.1.2 o.2 lc kc lr lp k
end CD
