/-! STATEMENTS KEEP THE STORE: of the current tongue, of all tongues, lins, new tongues. -/
def gh_mt (q : Nat) : Prop := q = 1 ∨ q = 20 ∨ q = 23 ∨ (39 ≤ q ∧ q ≤ 47)
theorem gh_mt_mw {q : Nat} (h : gh_mt q) : gh_mw q := by
  unfold gh_mt at h
  unfold gh_mw
  omega
theorem gh_MS_st {I Iₚ : gr_I} (h : gc_MS I) (fu : gh_FU I Iₚ) (r15 : ∀ k, Iₚ 15 k = I 15 k) (r16 : ∀ k, Iₚ 16 k = I 16 k) : gc_MS Iₚ := fun f h1 h2 => by
  rw [r15] at h2
  obtain ⟨a, b⟩ := h f h1 h2
  have e := (fu.2.1 f a).2
  refine ⟨by have := fu.1; omega, ?_, fun k hk => ?_⟩
  · rw [r15]
    exact gc_TC_eq b.1 (fun k hk => r16 _)
  · rw [r15] at hk
    rw [e]
    show _ ≤ Iₚ 16 (f * 40 + k)
    rw [r16]
    exact b.2 k hk
theorem gh_HS_t {sh : gz_Sh} {ro : Nat → Nat} {I Iₚ : gr_I} {J Jₚ : gr_J} {A : gc_A} {i t : Nat} (hs : gh_HS sh ro I J A) (hi : (i : Int) < I 8 1) (ht : A 10 i = some t) (hIₚ : gc_Inv ro Iₚ) (hok' : gc_OK sh Iₚ Jₚ A) (f1 : ∀ q j : Nat, q < 144 → gh_mt q ∨ Iₚ q j = I q j) (f15 : Iₚ 1 5 = I 1 5) (f2 : ∀ q j : Nat, 144 ≤ q → (t ≤ q ∧ q < t + 17) ∨ Iₚ q j = I q j) (f3 : Iₚ t 13 = I t 13) (f4 : I t 11 ≤ Iₚ t 11) (f4' : ∀ j : Nat, (j : Int) < 11 * I t 11 → Iₚ (t + 15) j = I (t + 15) j) (f5 : ∀ w : Nat, I t 11 ≤ (w : Int) → (w : Int) < Iₚ t 11 → Iₚ 12 (Int.toNat (Iₚ (t + 15) (11 * w))) = 0 ∧ Iₚ (t + 15) (11 * w) < Iₚ 4 1) (f6 : Iₚ (t + 3) 1 ≤ 6 * Iₚ (t + 1) 1) (f7 : gc_sc (t + 10) Iₚ) : gh_HS sh ro Iₚ Jₚ A ∧ gh_AO sh ro I A sh ro Iₚ A := by
  have hs0 := hs
  obtain ⟨hb, hI, hok, hT, hU, hM, hc⟩ := hs
  have h81 : 0 ≤ I 8 1 ∧ I 8 1 ≤ 8 := gc_in hI (gc_bR hb (by decide) rfl) rfl rfl
  have fz : ∀ q j : Nat, q < 144 → ¬ gh_mt q → Iₚ q j = I q j := fun q j h1 h2 => (f1 q j h1).resolve_left h2
  have e8 : Iₚ 8 1 = I 8 1 := fz 8 1 (by decide) (by unfold gh_mt; omega)
  have fu : gh_FU I Iₚ := gh_FU_of (fz 4 1 (by decide) (by unfold gh_mt; omega)) (fun j => fz 11 j (by decide) (by unfold gh_mt; omega)) (fun j => fz 12 j (by decide) (by unfold gh_mt; omega)) (fun j => fz 13 j (by decide) (by unfold gh_mt; omega))
  have r15 : ∀ j, Iₚ 15 j = I 15 j := fun j => fz 15 j (by decide) (by unfold gh_mt; omega)
  have r16 : ∀ j, Iₚ 16 j = I 16 j := fun j => fz 16 j (by decide) (by unfold gh_mt; omega)
  have Tt := hT.1 i t (by omega) ht
  have oth : ∀ i2 u : Nat, i2 < 8 → A 10 i2 = some u → ¬ u = t → ∀ d j : Nat, d < 25 → Iₚ (u + d) j = I (u + d) j := fun i2 u h2 hu ne d j hd => by
    have Tu := hT.1 i2 u h2 hu
    have dj := gc_dj_TT Tu.1 Tt.1
    exact (f2 (u + d) j (by omega)).resolve_left (by omega)
  have ao : gh_AO sh ro I A sh ro Iₚ A := by
    refine ⟨gc_x_refl, fun q j hq => (f1 q j hq).imp gh_mt_mw id, fun q j h1 _ => (f2 q j h1).imp (fun h => ⟨i, t, by omega, ht, h⟩) id, fu, gh_ME_of r15 r16, ⟨by omega, by have := fz 2 1 (by decide) (by unfold gh_mt; omega); omega⟩, fun _ _ _ h => h, fun i2 u h2 hu => ?_, gh_AO_n (fun _ => rfl), fun _ => rfl⟩
    by_cases e : u = t
    · subst e
      exact ⟨by omega, f4, fun _ _ => rfl, f4'⟩
    · have g := oth i2 u (by omega) hu e
      exact ⟨by have := g 0 13 (by decide); rw [Nat.add_zero] at this; omega, by have := g 0 11 (by decide); rw [Nat.add_zero] at this; omega, fun _ _ => rfl, fun j _ => g 15 j (by decide)⟩
  refine ⟨gh_step hs0 ao hIₚ hok' ⟨fun i2 u h2 hu => ?_, hT.2⟩ (fun i2 h1 h2 => by omega) (fun i2 u h2 hu => ?_) (gh_MS_st hM fu r15 r16) (by omega), ao⟩
  · have Tu := hT.1 i2 u h2 hu
    refine ⟨Tu.1, Tu.2.1, ?_⟩
    by_cases e : u = t
    · rw [e]; exact f7
    · exact gc_sc_fr Tu.2.2 (fun k => oth i2 u h2 hu e 10 k (by decide))
  · by_cases e : u = t
    · subst e
      exact ⟨f6, fun j a b => by omega, f5⟩
    · have g := oth i2 u (by omega) hu e
      obtain ⟨u9, w1, _, w3, _, _⟩ := hU i2 h2
      cases w1.symm.trans hu
      have g13 := g 0 13 (by decide)
      have g11 := g 0 11 (by decide)
      rw [Nat.add_zero] at g13 g11
      exact ⟨by rw [g 3 1 (by decide), g 1 1 (by decide)]; exact w3, fun j a b => by omega, fun w a b => by omega⟩
theorem gh_HS_s {sh : gz_Sh} {ro : Nat → Nat} {I Iₚ : gr_I} {J Jₚ : gr_J} {A : gc_A} (hs : gh_HS sh ro I J A) (hIₚ : gc_Inv ro Iₚ) (hok' : gc_OK sh Iₚ Jₚ A) (g1 : ∀ q j : Nat, q < 144 → gh_mw q ∨ Iₚ q j = I q j) (g2 : ∀ q j : Nat, 144 ≤ q → Iₚ q j = I q j) (g3 : Iₚ 8 1 = I 8 1) (cu : -1 ≤ Iₚ 1 5 ∧ Iₚ 1 5 < I 8 1) (g6 : I 2 1 ≤ Iₚ 2 1) (fu : gh_FU I Iₚ) (me : gh_ME I Iₚ) (ms : gc_MS Iₚ) : gh_HS sh ro Iₚ Jₚ A ∧ gh_AO sh ro I A sh ro Iₚ A := by
  have hs0 := hs
  obtain ⟨hb, hI, hok, hT, hU, hM, hc⟩ := hs
  have h81 : 0 ≤ I 8 1 ∧ I 8 1 ≤ 8 := gc_in hI (gc_bR hb (by decide) rfl) rfl rfl
  have ao : gh_AO sh ro I A sh ro Iₚ A := by
    refine ⟨gc_x_refl, g1, fun q j h1 _ => Or.inr (g2 q j h1), fu, me, ⟨by omega, g6⟩, fun _ _ _ h => h, fun i2 u h2 hu => ?_, gh_AO_n (fun _ => rfl), fun _ => rfl⟩
    have Tu := hT.1 i2 u (by omega) hu
    exact ⟨by have := g2 u 13 Tu.2.1; omega, by have := g2 u 11 Tu.2.1; omega, fun _ _ => rfl, fun j _ => g2 (u + 15) j (by omega)⟩
  refine ⟨gh_step hs0 ao hIₚ hok' ⟨fun i2 u h2 hu => ?_, hT.2⟩ (fun i2 h1 h2 => by omega) (fun i2 u h2 hu => ?_) ms (by omega), ao⟩
  · have Tu := hT.1 i2 u h2 hu
    exact ⟨Tu.1, Tu.2.1, gc_sc_fr Tu.2.2 (fun k => g2 (u + 10) k (by omega))⟩
  · have Tu := hT.1 i2 u (by omega) hu
    obtain ⟨u9, w1, _, w3, _, _⟩ := hU i2 h2
    cases w1.symm.trans hu
    have g13 := g2 u 13 Tu.2.1
    have g11 := g2 u 11 Tu.2.1
    exact ⟨by rw [g2 (u + 3) 1 (by omega), g2 (u + 1) 1 (by omega)]; exact w3, fun j a b => by omega, fun w a b => by omega⟩
theorem gh_HS_l {sh shₚ : gz_Sh} {ro ro' : Nat → Nat} {I Iₚ : gr_I} {J Jₚ : gr_J} {A Aₚ : gc_A} {i t a s : Nat} {z B : Int} (hs : gh_HS sh ro I J A) (hi : (i : Int) < I 8 1) (ht : A 10 i = some t) (h : gc_RL B sh ro I J A t z a s shₚ ro' Iₚ Jₚ Aₚ) : gh_HS shₚ ro' Iₚ Jₚ Aₚ ∧ gh_AO sh ro I A shₚ ro' Iₚ Aₚ := by
  have hs0 := hs
  obtain ⟨hb, hI, hok, hT, hU, hM, hc⟩ := hs
  obtain ⟨hz, hcn, hln, hx, hIₚ, hok', hLT, hTK, fr, frJ, hrd, hres⟩ := h
  have h81 : 0 ≤ I 8 1 ∧ I 8 1 ≤ 8 := gc_in hI (gc_bR hb (by decide) rfl) rfl rfl
  have h144 := gc_Base_len hb
  have Tt := hT.1 i t (by omega) ht
  have St : t + 16 < sh.length := by
    obtain ⟨b0, b1, b2, b3, b4, b5, b6, b7, b8, b9, b10, b11, b12, b13, b14, b15, b16, b17, b18, b19, b20, b21, b22, b23, b24, b25, b26, b27, b28, b29, b30, b31, b32, b33, b34, b35, b36, b37, b38, b39, b40, b41, b42, b43, b44⟩ := Tt.1
    exact gc_x_lt b40
  have fz : ∀ q j : Nat, q < 144 → ¬ gh_mt q → Iₚ q j = I q j := fun q j h1 h2 => (fr q j (by omega)).resolve_left (fun h9 => by
    unfold gh_mt at h2
    omega)
  have fh : ∀ q j : Nat, 144 ≤ q → q < sh.length → ¬ (q = t ∧ j = 13) → Iₚ q j = I q j := fun q j h1 h2 h3 => (fr q j h2).resolve_left (by omega)
  have hA : ∀ q k, q < sh.length → ¬ q = t + 16 → Aₚ q k = A q k := fun q k h1 h2 => by
    rcases hres with ⟨_, _, g⟩ | ⟨_, _, _, g, _⟩
    · exact g q k h1
    · exact g q k h1 (fun h9 => h2 h9.1)
  have e10 : ∀ k, Aₚ 10 k = A 10 k := fun k => hA 10 k (by omega) (by omega)
  have e8 : Iₚ 8 1 = I 8 1 := fz 8 1 (by decide) (by unfold gh_mt; omega)
  have fu : gh_FU I Iₚ := gh_FU_of (fz 4 1 (by decide) (by unfold gh_mt; omega)) (fun j => fz 11 j (by decide) (by unfold gh_mt; omega)) (fun j => fz 12 j (by decide) (by unfold gh_mt; omega)) (fun j => fz 13 j (by decide) (by unfold gh_mt; omega))
  have r15 : ∀ j, Iₚ 15 j = I 15 j := fun j => fz 15 j (by decide) (by unfold gh_mt; omega)
  have r16 : ∀ j, Iₚ 16 j = I 16 j := fun j => fz 16 j (by decide) (by unfold gh_mt; omega)
  have rng : ∀ i2 u : Nat, i2 < 8 → A 10 i2 = some u → 144 ≤ u ∧ u + 24 < sh.length := fun i2 u h2 hu => gh_rng hT h2 hu
  have oth : ∀ i2 u : Nat, i2 < 8 → A 10 i2 = some u → ∀ d j : Nat, d < 25 → ¬ (u + d = t ∧ j = 13) → Iₚ (u + d) j = I (u + d) j := fun i2 u h2 hu d j hd hn => by
    have h9 := rng i2 u h2 hu
    exact fh (u + d) j (by omega) (by omega) hn
  have dj : ∀ i2 u : Nat, i2 < 8 → A 10 i2 = some u → u = t ∨ u + 25 ≤ t ∨ t + 25 ≤ u := fun i2 u h2 hu => gc_dj_TT (hT.1 i2 u h2 hu).1 Tt.1
  have ao : gh_AO sh ro I A shₚ ro' Iₚ Aₚ := by
    refine ⟨hx, fun q j hq => ?_, fun q j h1 h2 => ?_, fu, gh_ME_of r15 r16, ⟨by omega, by have := fz 2 1 (by decide) (by unfold gh_mt; omega); omega⟩, fun i2 u _ hu => (e10 i2).trans hu, fun i2 u h2 hu => ?_, gh_AO_n e10, fun k => hA 104 k (by omega) (by omega)⟩
    · by_cases e : gh_mt q
      · exact Or.inl (gh_mt_mw e)
      · exact Or.inr (fz q j hq e)
    · by_cases e : q = t ∧ j = 13
      · exact Or.inl ⟨i, t, by omega, (e10 i).trans ht, by omega, by omega⟩
      · exact Or.inr (fh q j h1 h2 e)
    · have d9 := dj i2 u (by omega) hu
      have g11 := oth i2 u (by omega) hu 0 11 (by decide) (by omega)
      rw [Nat.add_zero] at g11
      have rg := rng i2 u (by omega) hu
      refine ⟨?_, by omega, fun j hj => ?_, fun j _ => oth i2 u (by omega) hu 15 j (by decide) (by omega)⟩
      · by_cases e : u = t
        · subst e
          rcases hres with ⟨_, g, _⟩ | ⟨_, g, _⟩ <;> omega
        · have g := oth i2 u (by omega) hu 0 13 (by decide) (by omega)
          rw [Nat.add_zero] at g
          omega
      · by_cases e : u = t
        · subst e
          rcases hres with ⟨_, _, g⟩ | ⟨_, _, _, g, _⟩
          · exact g _ _ (by omega)
          · exact g _ _ (by omega) (fun h9 => by have := h9.2; omega)
        · exact hA (u + 16) j (by omega) (by omega)
  refine ⟨gh_step hs0 ao hIₚ hok' ⟨fun i2 u h2 hu => ?_, fun i2 j2 u h2 h3 hu hv => hT.2 i2 j2 u h2 h3 ((e10 i2).symm.trans hu) ((e10 j2).symm.trans hv)⟩ (fun i2 h1 h2 => by omega) (fun i2 u h2 hu => ?_) (gh_MS_st hM fu r15 r16) (by have := fz 1 5 (by decide); have h9 := (fr 1 5 (by omega)).resolve_left (by omega); omega), ao⟩
  · have hu9 := (e10 i2).symm.trans hu
    have Tu := hT.1 i2 u h2 hu9
    exact ⟨gc_isTongue_x hx Tu.1, Tu.2.1, gc_sc_fr Tu.2.2 (fun k => oth i2 u h2 hu9 10 k (by decide) (by have := dj i2 u h2 hu9; omega))⟩
  · have d9 := dj i2 u (by omega) hu
    obtain ⟨u9, w1, _, w3, _, _⟩ := hU i2 h2
    cases w1.symm.trans hu
    have g11 := oth i2 u (by omega) hu 0 11 (by decide) (by omega)
    rw [Nat.add_zero] at g11
    refine ⟨by rw [oth i2 u (by omega) hu 3 1 (by decide) (by omega), oth i2 u (by omega) hu 1 1 (by decide) (by omega)]; exact w3, fun j a b => ?_, fun w a b => by omega⟩
    by_cases e : u = t
    · subst e
      rcases hres with ⟨_, g, _⟩ | ⟨_, g, _, _, L, l1, l2, l3, l4, l5, l6, l7, l8⟩
      · omega
      · have ej : j = Int.toNat (I u 13) := by omega
        subst ej
        exact ⟨L, l3, l4, l1, by omega, l5.1, l5, l6, l7, by omega, by omega, by omega, by omega⟩
    · have g := oth i2 u (by omega) hu 0 13 (by decide) (by omega)
      rw [Nat.add_zero] at g
      omega
theorem gh_HS_m {sh shₚ : gz_Sh} {ro ro' : Nat → Nat} {I Iₚ : gr_I} {J Jₚ : gr_J} {A Aₚ : gc_A} {t a s : Nat} (hs : gh_HS sh ro I J A) (h7 : I 8 1 ≤ 7) (h : gc_MK sh ro I J A a s shₚ ro' Iₚ Jₚ Aₚ t) : gh_HS shₚ ro' Iₚ Jₚ Aₚ ∧ gh_AO sh ro I A shₚ ro' Iₚ Aₚ := by
  have hs0 := hs
  obtain ⟨hb, hI, hok, hT, hU, hM, hc⟩ := hs
  obtain ⟨hx, hIₚ, hok', ⟨T1, T2, T3⟩, hA, ⟨e8, z0, z1, z2, z3, z4, z5, z6⟩, fr, frJ, hcs⟩ := h
  have h81 : 0 ≤ I 8 1 ∧ I 8 1 ≤ 8 := gc_in hI (gc_bR hb (by decide) rfl) rfl rfl
  have h144 := gc_Base_len hb
  obtain ⟨n, hn⟩ : ∃ n, Int.toNat (I 8 1) = n := ⟨_, rfl⟩
  rw [hn] at T3 hA hcs
  have fz : ∀ q j : Nat, q < 144 → ¬ (q = 8 ∧ j = 1) → Iₚ q j = I q j := fun q j h1 h2 => (fr q j (by omega)).resolve_left (by omega)
  have fh : ∀ q j : Nat, 144 ≤ q → q < sh.length → ¬ (t ≤ q ∧ q < t + 17 ∧ ¬ q = t + 10) → Iₚ q j = I q j := fun q j h1 h2 h3 => (fr q j h2).resolve_left (by omega)
  have eA : ∀ i, ¬ i = n → Aₚ 10 i = A 10 i := fun i hi => hA 10 i (by omega) (fun h9 => hi h9.2)
  have use : ∀ i u : Nat, i < 8 → ¬ i = n → A 10 i = some u → u + 25 ≤ t ∨ t + 25 ≤ u := fun i u hi hne hu => by
    have Tu := hT.1 i u hi hu
    rcases gc_dj_TT (gc_isTongue_x hx Tu.1) T1 with h | h
    · subst h
      rcases hcs with ⟨g, _⟩ | ⟨_, g, _⟩
      · exact absurd (hT.2 i n _ hi (by omega) hu g) hne
      · have h9 := gc_x_lt Tu.1.1
        omega
    · exact h
  have rng : ∀ i2 u : Nat, i2 < 8 → A 10 i2 = some u → 144 ≤ u ∧ u + 24 < sh.length := fun i2 u h2 hu => gh_rng hT h2 hu
  have oth : ∀ i2 u : Nat, i2 < 8 → ¬ i2 = n → A 10 i2 = some u → ∀ d j : Nat, d < 25 → Iₚ (u + d) j = I (u + d) j := fun i2 u h2 hne hu d j hd => by
    have h9 := rng i2 u h2 hu
    have h8 := use i2 u h2 hne hu
    exact fh (u + d) j (by omega) (by omega) (by omega)
  have fu : gh_FU I Iₚ := gh_FU_of (fz 4 1 (by decide) (by omega)) (fun j => fz 11 j (by decide) (by omega)) (fun j => fz 12 j (by decide) (by omega)) (fun j => fz 13 j (by decide) (by omega))
  have r15 : ∀ j, Iₚ 15 j = I 15 j := fun j => fz 15 j (by decide) (by omega)
  have r16 : ∀ j, Iₚ 16 j = I 16 j := fun j => fz 16 j (by decide) (by omega)
  have ao : gh_AO sh ro I A shₚ ro' Iₚ Aₚ := by
    refine ⟨hx, fun q j hq => ?_, fun q j h1 h2 => ?_, fu, gh_ME_of r15 r16, ⟨by omega, by have := fz 2 1 (by decide) (by omega); omega⟩, fun i2 u h2 hu => ?_, fun i2 u h2 hu => ?_, fun i2 u h2 h0 hu => ?_, fun k => hA 104 k (by omega) (by omega)⟩
    · by_cases e : q = 8 ∧ j = 1
      · exact Or.inl (by unfold gh_mw; omega)
      · exact Or.inr (fz q j hq e)
    · by_cases e : t ≤ q ∧ q < t + 17 ∧ ¬ q = t + 10
      · exact Or.inl ⟨n, t, by omega, T3, e.1, e.2.1⟩
      · exact Or.inr (fh q j h1 h2 e)
    · by_cases e : i2 = n
      · subst e
        rcases hcs with ⟨g, _⟩ | ⟨g, _⟩
        · exact T3.trans (g.symm.trans hu)
        · rw [g] at hu
          cases hu
      · exact (eA i2 e).trans hu
    · have hne : ¬ i2 = n := by omega
      have g := oth i2 u (by omega) hne hu
      have g13 := g 0 13 (by decide)
      have g11 := g 0 11 (by decide)
      rw [Nat.add_zero] at g13 g11
      have rg := rng i2 u (by omega) hu
      exact ⟨by omega, by omega, fun j _ => hA (u + 16) j (by omega) (by omega), fun j _ => g 15 j (by decide)⟩
    · by_cases e : i2 = n
      · subst e
        cases hu.symm.trans T3
        rcases hcs with ⟨g, _⟩ | ⟨_, _, _, _, _, _, g⟩
        · rw [h0] at g
          cases g
        · exact g
      · rw [eA i2 e, h0] at hu
        cases hu
  refine ⟨gh_step hs0 ao hIₚ hok' ⟨fun i2 u h2 hu => ?_, fun i2 j2 u h2 h3 hu hv => ?_⟩ (fun i2 h1 h2 => ?_) (fun i2 u h2 hu => ?_) (gh_MS_st hM fu r15 r16) (by have := fz 1 5 (by decide) (by omega); omega), ao⟩
  · by_cases e : i2 = n
    · subst e
      cases hu.symm.trans T3
      refine ⟨T1, T2, ?_⟩
      rcases hcs with ⟨g, g2, _⟩ | ⟨_, _, _, _, _, g, _⟩
      · have Tu := hT.1 i2 t h2 g
        have rg := rng i2 t h2 g
        exact gc_sc_fr Tu.2.2 (fun k => fh (t + 10) k (by omega) (by omega) (by omega))
      · intro k a b c d
        rw [g] at d
        exact absurd d (by decide)
    · have hu9 := (eA i2 e).symm.trans hu
      have Tu := hT.1 i2 u h2 hu9
      exact ⟨gc_isTongue_x hx Tu.1, Tu.2.1, gc_sc_fr Tu.2.2 (fun k => oth i2 u h2 e hu9 10 k (by decide))⟩
  · by_cases e : i2 = n
    · by_cases e2 : j2 = n
      · omega
      · exfalso
        rw [e] at hu
        cases hu.symm.trans T3
        have := use j2 t h3 e2 ((eA j2 e2).symm.trans hv)
        omega
    · by_cases e2 : j2 = n
      · exfalso
        rw [e2] at hv
        cases hv.symm.trans T3
        have := use i2 t h2 e ((eA i2 e).symm.trans hu)
        omega
      · exact hT.2 i2 j2 u h2 h3 ((eA i2 e).symm.trans hu) ((eA j2 e2).symm.trans hv)
  · have e : i2 = n := by omega
    subst e
    exact ⟨t, T3, z6, z5, by omega⟩
  · have hne : ¬ i2 = n := by omega
    have g := oth i2 u (by omega) hne hu
    obtain ⟨u9, w1, _, w3, _, _⟩ := hU i2 h2
    cases w1.symm.trans hu
    have g13 := g 0 13 (by decide)
    have g11 := g 0 11 (by decide)
    rw [Nat.add_zero] at g13 g11
    exact ⟨by rw [g 3 1 (by decide), g 1 1 (by decide)]; exact w3, fun j a b => by omega, fun w a b => by omega⟩
