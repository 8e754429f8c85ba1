/-! what a statement does to CLASSES and RULES, out of its frames (p8) -/
section SC
variable {β : Int → Int} {η p z B : Int} {sh shₚ : gz_Sh} {ro ro' : Nat → Nat} {I Iₚ I8 : gr_I} {J Jₚ : gr_J} {A Aₚ : gc_A} {Ir : gr_I} {Jr : gr_J} {a s i t : Nat}
theorem gs_SC_lt (hs : gh_HS sh ro I J A) (hi : (i : Int) < I 8 1) (ht : A 10 i = some t) : t + 16 < sh.length := by
  obtain ⟨S_t, R_t, B_t, A_t_0, h_t_1, A_t_1, h_t_3, A_t_2, S_t_5, R_t_5, B_t_5, A_t_3, S_t_6, R_t_6, B_t_6, A_t_4, h_t_7, A_t_5, S_t_9, R_t_9, B_t_9, A_t_7, S_t_10, R_t_10, B_t_10, A_t_8, h_t_11, A_t_9, S_t_13, R_t_13, B_t_13, A_t_10, S_t_14, R_t_14, B_t_14, A_t_12, S_t_15, R_t_15, B_t_15, A_t_14, S_t_16, R_t_16, B_t_16, A_t_15, h_t_17⟩ := (gs_hT9 hs hi ht).1
  exact gc_x_lt S_t_16
theorem gs_SC_dj {i2 t2 : Nat} (hs : gh_HS sh ro I J A) (h1 : i < 8) (ht : A 10 i = some t) (h2 : i2 < 8) (ht2 : A 10 i2 = some t2) (hne : ¬ i2 = i) : t2 + 25 ≤ t ∨ t + 25 ≤ t2 := by
  rcases gc_dj_TT (hs.2.2.2.1.1 i2 t2 h2 ht2).1 (hs.2.2.2.1.1 i t h1 ht).1 with e | e | e
  · rw [e] at ht2
    exact absurd (hs.2.2.2.1.2 i2 i t h2 h1 ht2 ht) hne
  · exact Or.inl e
  · exact Or.inr e
theorem gs_cS_of (f : ∀ q j : Nat, 144 ≤ q → Iₚ q j = I q j) (ht : 144 ≤ t) : gs_cS t I Iₚ := ⟨f _ _ (by omega), fun k => f _ _ (by omega), f _ _ ht, fun k => f _ _ (by omega)⟩
theorem gs_SC_s (hs : gh_HS sh ro I J A) (l : gc_PKs I Iₚ) (h8 : Iₚ 8 1 = I 8 1) (f : ∀ q j : Nat, 144 ≤ q → Iₚ q j = I q j) : gs_SC β η p Ir Jr I A z Iₚ A := ⟨l, fun i t hi hA => Or.inr ⟨by omega, hA, Or.inl (gs_cS_of f (gs_hT9 hs (show (i : Int) < I 8 1 by omega) hA).2)⟩⟩
theorem gs_SC_n (hs : gh_HS sh ro I J A) (f : ∀ q j : Nat, ¬ q = 39 → ¬ q = 23 → Iₚ q j = I q j) (h8 : Iₚ 8 1 = I 8 1) (h17 : Iₚ 1 17 = I 1 17) : gs_SC β η p Ir Jr I A z Iₚ A := gs_SC_s hs (gc_PKs_fr gc_PKs_rf h17 (fun k => f 20 k (by decide) (by decide))) h8 (fun q j h => f q j (by omega) (by omega))
theorem gs_SC_t (hs : gh_HS sh ro I J A) (hi : (i : Int) < I 8 1) (ht : A 10 i = some t) (l : gc_PKs I Iₚ) (h8 : Iₚ 8 1 = I 8 1) (f : ∀ q j : Nat, 144 ≤ q → (t ≤ q ∧ q < t + 17) ∨ Iₚ q j = I q j) (h : gs_cS t I Iₚ ∨ (z = 1 ∧ (i : Int) = I 1 5 ∧ ((gs_rn β η p = gs_W 84 ∧ gs_c84 β η p I t Iₚ) ∨ (gs_rn β η p = gs_W 85 ∧ gs_c85 β η p Ir Jr I t Iₚ)))) : gs_SC β η p Ir Jr I A z Iₚ A := ⟨l, fun i2 t2 hi2 hA => Or.inr ⟨by omega, hA, by
  by_cases c : i2 = i
  · subst c
    rw [← Option.some.inj (ht.symm.trans hA)]
    exact h
  · have G2 := (gs_hT9 hs (show (i2 : Int) < I 8 1 by omega) hA).2
    have dj := gs_hJ9 hs hi ht (show (i2 : Int) < I 8 1 by omega) hA c
    have fz : ∀ q j : Nat, t2 ≤ q → q < t2 + 17 → Iₚ q j = I q j := fun q j h1 h2 => (f q j (by omega)).resolve_left (by omega)
    exact Or.inl ⟨fz _ _ (by omega) (by omega), fun k => fz _ _ (by omega) (by omega), fz _ _ (by omega) (by omega), fun k => fz _ _ (by omega) (by omega)⟩⟩⟩
theorem gs_SC_pre (f : ∀ q j : Nat, ¬ q = 39 → ¬ q = 23 → I8 q j = I q j) (h8 : I8 8 1 = I 8 1) (h17 : I8 1 17 = I 1 17) (h5 : I8 1 5 = I 1 5) (hs : gh_HS sh ro I J A) (h : gs_SC β η p Ir Jr I8 A z Iₚ Aₚ) : gs_SC β η p Ir Jr I A z Iₚ Aₚ := by
  refine ⟨gc_PKs_tr (gc_PKs_fr gc_PKs_rf h17 (fun k => f 20 k (by decide) (by decide))) h.1, fun i t hi hA => ?_⟩
  rcases h.2 i t hi hA with ⟨g1, g2⟩ | ⟨g1, g2, g3⟩
  · exact Or.inl ⟨by omega, g2⟩
  · have G := (gs_hT9 hs (show (i : Int) < I 8 1 by omega) g2).2
    have fz : ∀ q j : Nat, 144 ≤ q → I8 q j = I q j := fun q j h => f q j (by omega) (by omega)
    have e7 := fz (t + 7) 1 (by omega)
    have e6 := fz t 6 (by omega)
    refine Or.inr ⟨by omega, g2, ?_⟩
    rcases g3 with g | ⟨z1, gi, ⟨gw, g⟩ | ⟨gw, g⟩⟩
    · exact Or.inl ⟨g.1.trans e7, fun k => (g.2.1 k).trans (fz _ _ (by omega)), g.2.2.1.trans e6, fun k => (g.2.2.2 k).trans (fz _ _ (by omega))⟩
    · refine Or.inr ⟨z1, by omega, Or.inl ⟨gw, by have := g.1; omega, ?_, g.2.2.1.trans e6, fun k => (g.2.2.2 k).trans (fz _ _ (by omega))⟩⟩
      have m := g.2.1
      unfold gs_Cml at m ⊢
      rw [e7] at m
      exact ⟨m.1, fun j hj => (m.2 j hj).trans (fz _ _ (by omega))⟩
    · refine Or.inr ⟨z1, by omega, Or.inr ⟨gw, g.1.trans e7, fun k => (g.2.1 k).trans (fz _ _ (by omega)), by have := g.2.2.1; omega, ?_⟩⟩
      have m := g.2.2.2
      unfold gs_Csn at m ⊢
      rw [e6] at m
      exact ⟨m.1, fun j hj => (m.2 j hj).trans (fz _ _ (by omega))⟩
theorem gs_RS_u (h : gs_RS I A Ir) (hR : gs_R I J A Ir Jr) (hs : gh_HS sh ro I J A) (f : ∀ q j : Nat, ¬ q = 39 → ¬ q = 23 → Iₚ q j = I q j) (h8 : Iₚ 8 1 = I 8 1) (h17 : Iₚ 1 17 = I 1 17) : gs_RS Iₚ A Ir := gs_RS_fr h hR h8 (gc_PKs_fr gc_PKs_rf h17 (fun k => f 20 k (by decide) (by decide))) (fun i t hi hA => ⟨hA, gs_cS_of (fun q j h => f q j (by omega) (by omega)) (gs_hT9 hs hi hA).2⟩) gr_LKs_rf (fun _ => ⟨rfl, rfl⟩) (fun _ => ⟨rfl, rfl, rfl, rfl, rfl⟩)
theorem gs_Rb_of (hs : gh_HS sh ro I J A) (hR : gs_R I J A Ir Jr) : gs_Rb Ir := by
  have i8 : 0 ≤ I 8 1 ∧ I 8 1 ≤ 8 := gc_in hs.2.1 (gc_bR hs.1 (by decide) rfl) rfl rfl
  have hc := hs.2.2.2.2.2.2
  obtain ⟨_, _, _, r8, _, _, r5, hT, h0⟩ := hR
  have e8 := r8.1
  refine ⟨fun j hj => ?_, by omega⟩
  by_cases c : (j : Int) < I 8 1
  · obtain ⟨u, w1, _⟩ := hs.2.2.2.2.1 j c
    obtain ⟨_, _, q7, qs, _⟩ := hT j u c w1
    have iT := (gs_hT9 hs c w1).1
    have b := (gs_bT_of hs.2.1 iT).2.2.1
    have b6 : 0 ≤ I u 6 ∧ I u 6 ≤ 24 := gc_in hs.2.1 iT.2.1 rfl rfl
    have e7 := q7.1
    rw [show Int.toNat (j : Int) = j from by omega] at e7 qs
    exact ⟨by omega, by omega⟩
  · obtain ⟨_, _, z3, z4, _⟩ := h0 j (by omega) hj
    exact ⟨by omega, by omega⟩
theorem gs_SC_80 (hs : gh_HS sh ro I J A) (hR : gh_RS B sh ro I A z a s shₚ ro' Iₚ Jₚ Aₚ) (hP : gs_RTp β η (gs_X β η p) Ir Jr sh I J A z Iₚ Jₚ Aₚ) : gs_SC β η p Ir Jr I A z Iₚ Aₚ := by
  have h144 := gc_Base_len hs.1
  have i8 : 0 ≤ I 8 1 ∧ I 8 1 ≤ 8 := gc_in hs.2.1 (gc_bR hs.1 (by decide) rfl) rfl rfl
  have same : ∀ I2 : gr_I, (∀ q j : Nat, ((q = 39 ∧ j = 3) ∨ (q = 39 ∧ j = 4) ∨ (q = 23 ∧ j = 5) ∨ (q = 23 ∧ j = 6) ∨ (q = 23 ∧ j = 7) ∨ (q = 23 ∧ j = 8) ∨ (q = 1 ∧ j = 5)) ∨ I2 q j = I q j) → gs_SC β η p Ir Jr I A z I2 A := fun I2 c5 => gs_SC_s hs (gc_PKs_fr gc_PKs_rf ((c5 1 17).resolve_left (by omega)) (fun k => (c5 20 k).resolve_left (by omega))) ((c5 8 1).resolve_left (by omega)) (fun q j h => (c5 q j).resolve_left (by omega))
  have hz := hR.1
  by_cases c0 : z = 0
  · obtain ⟨_, _, e, _, c5, _⟩ := hP.1 c0
    rw [e]
    exact same Iₚ c5
  · obtain ⟨_, _, hc⟩ := hP.2 (by omega)
    rcases hc with ⟨_, _, e, c5, _⟩ | ⟨_, l7, _, pu, t, G, hA, hA9, hAf, hz0, c5, _⟩
    · rw [e]
      exact same Iₚ c5
    · have pu3 := (pu (show I 8 1 < ((8 : Nat) : Int) by omega)).1
      refine ⟨gc_PKs_fr gc_PKs_rf ((c5 1 17 (by omega)).resolve_left (by omega)) (fun k => (c5 20 k (by omega)).resolve_left (by omega)), fun i t2 hi ht => ?_⟩
      by_cases c : i = Int.toNat (I 8 1)
      · rw [c] at ht
        have et : t = t2 := Option.some.inj (hA.symm.trans ht)
        rw [← et]
        exact Or.inl ⟨by omega, hz0.2.2.1, hz0.2.2.2.2.1⟩
      · have hi2 : (i : Int) < I 8 1 := by omega
        have ht2 : A 10 i = some t2 := (hAf 10 i (by omega) (fun h => c h.2)).symm.trans ht
        have lt := gs_SC_lt hs hi2 ht2
        have dj : t2 + 16 < t ∨ t + 25 ≤ t2 := by
          rcases hA9 with h9 | h9
          · have := gs_SC_dj hs (show Int.toNat (I 8 1) < 8 by omega) h9 (show i < 8 by omega) ht2 c
            omega
          · exact Or.inl (by omega)
        have G2 := (gs_hT9 hs hi2 ht2).2
        have fz : ∀ d j : Nat, d ≤ 16 → Iₚ (t2 + d) j = I (t2 + d) j := fun d j hd => (c5 (t2 + d) j (by omega)).resolve_left (by omega)
        exact Or.inr ⟨hi2, ht2, Or.inl ⟨fz 7 1 (by decide), fun k => fz 9 k (by decide), fz 0 6 (by decide), fun k => fz 10 k (by decide)⟩⟩
theorem gs_SC_88 (hs : gh_HS sh ro I J A) (hi : (i : Int) < I 8 1) (ht : A 10 i = some t) (hR : gc_RL B sh ro I J A t z a s shₚ ro' Iₚ Jₚ Aₚ) (hP : gs_RLp β η (gs_X β η p) Ir Jr I t z Iₚ Jₚ Aₚ) : gs_SC β η p Ir Jr I A z Iₚ Aₚ := by
  obtain ⟨_, _, _, _, _, _, _, _, fr, _, _, hres⟩ := hR
  have h144 := gc_Base_len hs.1
  have hA10 : ∀ i9, Aₚ 10 i9 = A 10 i9 := fun i9 => by
    have G := (gs_hT9 hs hi ht).2
    rcases hres with ⟨_, _, g⟩ | ⟨_, _, _, g, _⟩
    · exact g 10 i9 (by omega)
    · exact g 10 i9 (by omega) (fun h9 => by have := h9.1; omega)
  have e8 := (fr 8 1 (by omega)).resolve_left (by have := (gs_hT9 hs hi ht).2; omega)
  refine ⟨hP.2.2, fun i2 t2 hi2 hA => ?_⟩
  rw [hA10] at hA
  have hi9 : (i2 : Int) < I 8 1 := by omega
  have G2 := (gs_hT9 hs hi9 hA).2
  have lt := gs_SC_lt hs hi9 hA
  have G := (gs_hT9 hs hi ht).2
  have dj : t2 = t ∨ t2 + 25 ≤ t ∨ t + 25 ≤ t2 := by
    by_cases c : i2 = i
    · subst c
      exact Or.inl (Option.some.inj (hA.symm.trans ht))
    · exact Or.inr (gs_hJ9 hs hi ht hi9 hA c)
  have fz : ∀ d j : Nat, d ≤ 16 → ¬ (d = 0 ∧ j = 13) → Iₚ (t2 + d) j = I (t2 + d) j := fun d j hd hn => (fr (t2 + d) j (by omega)).resolve_left (by omega)
  exact Or.inr ⟨hi9, hA, Or.inl ⟨fz 7 1 (by decide) (by decide), fun k => fz 9 k (by decide) (fun h => by omega), fz 0 6 (by decide) (by decide), fun k => fz 10 k (by decide) (fun h => by omega)⟩⟩
end SC
