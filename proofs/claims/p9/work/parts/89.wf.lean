/-! WHAT THE STORE KEEPS (gh_HS), and what stays of what was there (gh_AO). -/
def gh_LN (q : Nat) (I : gr_I) : Prop := gc_LI q (I q 4) I ∧ gc_CT q I ∧ gc_UN q I ∧ 1 ≤ I q 4 ∧ 0 ≤ I q 1 ∧ I q 1 < I 4 1 ∧ I 12 (Int.toNat (I q 1)) ≤ I q 8
def gh_TL (A : gc_A) (I : gr_I) (t : Nat) : Prop := ∀ i q : Nat, (i : Int) < I t 13 → A (t + 16) i = some q → gh_LN q I
def gh_TW (I : gr_I) (t : Nat) : Prop := ∀ w : Nat, (w : Int) < I t 11 → I 12 (Int.toNat (I (t + 15) (11 * w))) = 0 ∧ I (t + 15) (11 * w) < I 4 1
def gh_TT (sh : gz_Sh) (ro : Nat → Nat) (A : gc_A) (I : gr_I) : Prop := (∀ i t : Nat, i < 8 → A 10 i = some t → gc_isTongue sh ro A t ∧ 144 ≤ t ∧ gc_sc (t + 10) I) ∧ (∀ i j t : Nat, i < 8 → j < 8 → A 10 i = some t → A 10 j = some t → i = j)
def gh_TU (sh : gz_Sh) (ro : Nat → Nat) (A : gc_A) (I : gr_I) : Prop := ∀ i : Nat, (i : Int) < I 8 1 → ∃ t, A 10 i = some t ∧ gc_Ls sh ro A t I ∧ I (t + 3) 1 ≤ 6 * I (t + 1) 1 ∧ gh_TL A I t ∧ gh_TW I t
def gh_HS (sh : gz_Sh) (ro : Nat → Nat) (I : gr_I) (J : gr_J) (A : gc_A) : Prop := gc_Base sh ro A ∧ gc_Inv ro I ∧ gc_OK sh I J A ∧ gh_TT sh ro A I ∧ gh_TU sh ro A I ∧ gc_MS I ∧ (-1 ≤ I 1 5 ∧ I 1 5 < I 8 1)
def gh_mw (q : Nat) : Prop := q = 1 ∨ q = 2 ∨ q = 4 ∨ q = 6 ∨ q = 8 ∨ (11 ≤ q ∧ q ≤ 21) ∨ q = 23 ∨ (39 ≤ q ∧ q ≤ 47)
def gh_FU (I Iₚ : gr_I) : Prop := I 4 1 ≤ Iₚ 4 1 ∧ (∀ j : Nat, (j : Int) < I 4 1 → Iₚ 11 j = I 11 j ∧ Iₚ 12 j = I 12 j) ∧ (∀ j : Nat, (j : Int) < 4 * I 4 1 → Iₚ 13 j = I 13 j)
def gh_ME (I Iₚ : gr_I) : Prop := ∀ f : Nat, f < 96 → 0 < I 15 f → Iₚ 15 f = I 15 f ∧ ∀ k : Nat, k < 40 → Iₚ 16 (f * 40 + k) = I 16 (f * 40 + k)
def gh_TO (A : gc_A) (I : gr_I) (Aₚ : gc_A) (Iₚ : gr_I) (t : Nat) : Prop := I t 13 ≤ Iₚ t 13 ∧ I t 11 ≤ Iₚ t 11 ∧ (∀ j : Nat, (j : Int) < I t 13 → Aₚ (t + 16) j = A (t + 16) j) ∧ (∀ j : Nat, (j : Int) < 11 * I t 11 → Iₚ (t + 15) j = I (t + 15) j)
def gh_AO (sh : gz_Sh) (ro : Nat → Nat) (I : gr_I) (A : gc_A) (shₚ : gz_Sh) (ro' : Nat → Nat) (Iₚ : gr_I) (Aₚ : gc_A) : Prop := gc_ext sh ro A shₚ ro' Aₚ ∧ (∀ q j : Nat, q < 144 → gh_mw q ∨ Iₚ q j = I q j) ∧ (∀ q j : Nat, 144 ≤ q → q < sh.length → (∃ i t, i < 8 ∧ Aₚ 10 i = some t ∧ t ≤ q ∧ q < t + 17) ∨ Iₚ q j = I q j) ∧ gh_FU I Iₚ ∧ gh_ME I Iₚ ∧ (I 8 1 ≤ Iₚ 8 1 ∧ I 2 1 ≤ Iₚ 2 1) ∧ (∀ i t : Nat, i < 8 → A 10 i = some t → Aₚ 10 i = some t) ∧ (∀ i t : Nat, (i : Int) < I 8 1 → A 10 i = some t → gh_TO A I Aₚ Iₚ t) ∧ (∀ i t : Nat, i < 8 → A 10 i = none → Aₚ 10 i = some t → gc_FB (t + 17) 0 Iₚ ∧ Iₚ (t + 17) 8 = 0 ∧ ¬ Iₚ (t + 17) 6 = Iₚ (t + 17) 7 ∧ Iₚ (t + 17) 9 = 0) ∧ (∀ k, Aₚ 104 k = A 104 k)
theorem gh_FU_of {I Iₚ : gr_I} (h4 : Iₚ 4 1 = I 4 1) (h1 : ∀ j, Iₚ 11 j = I 11 j) (h2 : ∀ j, Iₚ 12 j = I 12 j) (h3 : ∀ j, Iₚ 13 j = I 13 j) : gh_FU I Iₚ := ⟨by omega, fun j _ => ⟨h1 j, h2 j⟩, fun j _ => h3 j⟩
theorem gh_FU_trans {I Iₚ I2 : gr_I} (h : gh_FU I Iₚ) (g : gh_FU Iₚ I2) : gh_FU I I2 := ⟨by have := h.1; have := g.1; omega, fun j hj => by
    have a := h.2.1 j hj
    have b := g.2.1 j (by have := h.1; omega)
    exact ⟨b.1.trans a.1, b.2.trans a.2⟩, fun j hj => (g.2.2 j (by have := h.1; omega)).trans (h.2.2 j hj)⟩
theorem gh_ME_of {I Iₚ : gr_I} (h1 : ∀ j, Iₚ 15 j = I 15 j) (h2 : ∀ j, Iₚ 16 j = I 16 j) : gh_ME I Iₚ := fun f _ _ => ⟨h1 f, fun _ _ => h2 _⟩
theorem gh_ME_trans {I Iₚ I2 : gr_I} (h : gh_ME I Iₚ) (g : gh_ME Iₚ I2) : gh_ME I I2 := fun f h9 hf => by
  obtain ⟨a, b⟩ := h f h9 hf
  obtain ⟨c, d⟩ := g f h9 (by omega)
  exact ⟨c.trans a, fun k hk => (d k hk).trans (b k hk)⟩
theorem gh_TO_trans {A Aₚ A2 : gc_A} {I Iₚ I2 : gr_I} {t : Nat} (h : gh_TO A I Aₚ Iₚ t) (g : gh_TO Aₚ Iₚ A2 I2 t) : gh_TO A I A2 I2 t := ⟨by have := h.1; have := g.1; omega, by have := h.2.1; have := g.2.1; omega, fun j hj => (g.2.2.1 j (by have := h.1; omega)).trans (h.2.2.1 j hj), fun j hj => (g.2.2.2 j (by have := h.2.1; omega)).trans (h.2.2.2 j hj)⟩
theorem gh_AO_n {A Aₚ : gc_A} {Iₚ : gr_I} (h : ∀ i, Aₚ 10 i = A 10 i) : ∀ i t : Nat, i < 8 → A 10 i = none → Aₚ 10 i = some t → gc_FB (t + 17) 0 Iₚ ∧ Iₚ (t + 17) 8 = 0 ∧ ¬ Iₚ (t + 17) 6 = Iₚ (t + 17) 7 ∧ Iₚ (t + 17) 9 = 0 := fun i t _ h1 h2 => by
  rw [h, h1] at h2
  cases h2
theorem gh_x_le {sh shₚ : gz_Sh} {ro ro' : Nat → Nat} {A Aₚ : gc_A} (h : gc_ext sh ro A shₚ ro' Aₚ) : sh.length ≤ shₚ.length := by
  obtain ⟨⟨e, rfl⟩, -⟩ := h
  rw [List.length_append]
  omega
theorem gh_rng {sh : gz_Sh} {ro : Nat → Nat} {A : gc_A} {I : gr_I} (hT : gh_TT sh ro A I) {i u : Nat} (h2 : i < 8) (hu : A 10 i = some u) : 144 ≤ u ∧ u + 24 < sh.length := by
  have Tu := hT.1 i u h2 hu
  obtain ⟨b0, b1, b2, b3, b4, b5, b6, b7, b8, b9, b10, b11, b12, b13, b14, b15, b16, b17, b18, b19, b20, b21, b22, b23, b24, b25, b26, b27, b28, b29, b30, b31, b32, b33, b34, b35, b36, b37, b38, b39, b40, b41, b42, b43, b44⟩ := Tu.1
  obtain ⟨c0, c1, c2, c3, c4, c5, c6, c7, c8, c9, c10, c11, c12, c13, c14, c15, c16, c17, c18, c19, c20, c21, c22, c23, c24, c25, c26, c27, c28, c29, c30, c31, c32⟩ := b44
  have h9 := gc_x_lt c30
  exact ⟨Tu.2.1, by omega⟩
theorem gh_AO_trans {sh shₚ sh2 : gz_Sh} {ro ro' ro2 : Nat → Nat} {I Iₚ I2 : gr_I} {Jₚ J2 : gr_J} {A Aₚ A2 : gc_A} (h81 : I 8 1 ≤ 8) (hs1 : gh_HS shₚ ro' Iₚ Jₚ Aₚ) (hs2 : gh_HS sh2 ro2 I2 J2 A2) (h : gh_AO sh ro I A shₚ ro' Iₚ Aₚ) (g : gh_AO shₚ ro' Iₚ Aₚ sh2 ro2 I2 A2) : gh_AO sh ro I A sh2 ro2 I2 A2 := by
  obtain ⟨a1, a2, a3, a4, a5, a6, a7, a8, a9, a10⟩ := h
  obtain ⟨b1, b2, b3, b4, b5, b6, b7, b8, b9, b10⟩ := g
  have hl := gh_x_le a1
  refine ⟨gc_x_trans a1 b1, fun q j hq => ?_, fun q j h1 h2 => ?_, gh_FU_trans a4 b4, gh_ME_trans a5 b5, ⟨by omega, by omega⟩, fun i t hi ht => b7 i t hi (a7 i t hi ht), fun i t hi ht => gh_TO_trans (a8 i t hi ht) (b8 i t (by omega) (a7 i t (by omega) ht)), fun i t hi h0 h2 => ?_, fun k => (b10 k).trans (a10 k)⟩
  · rcases b2 q j hq with h | h
    · exact Or.inl h
    · rcases a2 q j hq with h3 | h3
      · exact Or.inl h3
      · exact Or.inr (h.trans h3)
  · rcases b3 q j h1 (by omega) with h | h
    · exact Or.inl h
    · rcases a3 q j h1 h2 with ⟨i, t, c1, c2, c3⟩ | h3
      · exact Or.inl ⟨i, t, c1, b7 i t c1 c2, c3⟩
      · exact Or.inr (h.trans h3)
  · cases h1 : Aₚ 10 i with
    | none => exact b9 i t hi h1 h2
    | some u =>
      cases (b7 i u hi h1).symm.trans h2
      obtain ⟨c1, c2⟩ := a9 i t hi h0 h1
      have rg := gh_rng hs1.2.2.2.1 hi h1
      have fr : ∀ d j : Nat, 17 ≤ d → d < 25 → I2 (t + d) j = Iₚ (t + d) j := fun d j h17 h25 => by
        rcases b3 (t + d) j (by omega) (by omega) with ⟨i9, u9, e1, e2, e3, e4⟩ | h
        · have dj := gc_dj_TT (hs2.2.2.2.1.1 i9 u9 e1 e2).1 (hs2.2.2.2.1.1 i t hi h2).1
          omega
        · exact h
      exact ⟨gc_FB_fr c1 (fun k => fr 21 k (by decide) (by decide)) (fun k => fr 20 k (by decide) (by decide)), (fr 17 8 (by decide) (by decide)).trans c2.1, by rw [fr 17 6 (by decide) (by decide), fr 17 7 (by decide) (by decide)]; exact c2.2.1, (fr 17 9 (by decide) (by decide)).trans c2.2.2⟩
/-- a lin stays good -/
theorem gh_LN_st {q : Nat} {I Iₚ : gr_I} (h : gh_LN q I) (hr : ∀ d k, d ≤ 8 → Iₚ (q + d) k = I (q + d) k) (fu : gh_FU I Iₚ) (ha : ∀ k, 0 ≤ I 12 k ∧ I 12 k ≤ 4) : gh_LN q Iₚ := by
  obtain ⟨h1, h2, h3, h4, h5, h6, h7⟩ := h
  have r0 : Iₚ q = I q := funext fun k => hr 0 k (by decide)
  have r1 : Iₚ (q + 1) = I (q + 1) := funext fun k => hr 1 k (by decide)
  have r4 : Iₚ (q + 4) = I (q + 4) := funext fun k => hr 4 k (by decide)
  have r6 : Iₚ (q + 6) = I (q + 6) := funext fun k => hr 6 k (by decide)
  have e1 := fu.2.1 (Int.toNat (I q 1)) (by omega)
  have e0 := fu.1
  refine ⟨?_, ?_, ?_, by rw [r0]; exact h4, by rw [r0]; exact h5, by rw [r0]; omega, by rw [r0, e1.2]; exact h7⟩
  · unfold gc_LI at h1 ⊢
    rw [r0, r1, r4, r6, e1.2]
    exact h1
  · unfold gc_CT at h2 ⊢
    rw [r0, r6]
    exact h2
  · unfold gc_UN gc_un at h3 ⊢
    rw [r0, r1, e1.1]
    intro g1 g2
    have g3 := h1.2.1 0 (by omega)
    have g4 := ha (Int.toNat (I q 1))
    rw [fu.2.2 _ (by omega)]
    exact h3 g1 g2
/-- what is in use and was there stays good; what is new is asked for -/
theorem gh_step {sh shₚ : gz_Sh} {ro ro' : Nat → Nat} {I Iₚ : gr_I} {J Jₚ : gr_J} {A Aₚ : gc_A} (hs : gh_HS sh ro I J A) (ao : gh_AO sh ro I A shₚ ro' Iₚ Aₚ) (hIₚ : gc_Inv ro' Iₚ) (hok' : gc_OK shₚ Iₚ Jₚ Aₚ) (tt : gh_TT shₚ ro' Aₚ Iₚ)
    (nt : ∀ i : Nat, I 8 1 ≤ (i : Int) → (i : Int) < Iₚ 8 1 → ∃ t, Aₚ 10 i = some t ∧ Iₚ t 13 = 0 ∧ Iₚ t 11 = 0 ∧ Iₚ (t + 3) 1 ≤ 6 * Iₚ (t + 1) 1)
    (ot : ∀ i t : Nat, (i : Int) < I 8 1 → A 10 i = some t → Iₚ (t + 3) 1 ≤ 6 * Iₚ (t + 1) 1 ∧ (∀ j : Nat, I t 13 ≤ (j : Int) → (j : Int) < Iₚ t 13 → ∃ q, Aₚ (t + 16) j = some q ∧ gc_isLin shₚ ro' Aₚ q ∧ 144 ≤ q ∧ Iₚ q 0 = (j : Int) ∧ gc_lv q Iₚ ∧ gh_LN q Iₚ) ∧ (∀ w : Nat, I t 11 ≤ (w : Int) → (w : Int) < Iₚ t 11 → Iₚ 12 (Int.toNat (Iₚ (t + 15) (11 * w))) = 0 ∧ Iₚ (t + 15) (11 * w) < Iₚ 4 1))
    (ms : gc_MS Iₚ) (cu : -1 ≤ Iₚ 1 5 ∧ Iₚ 1 5 < Iₚ 8 1) : gh_HS shₚ ro' Iₚ Jₚ Aₚ := by
  obtain ⟨hb, hI, hok, hT, hU, hM, hc⟩ := hs
  obtain ⟨a1, a2, a3, a4, a5, a6, a7, a8, a9, a10⟩ := ao
  have h81 : 0 ≤ I 8 1 ∧ I 8 1 ≤ 8 := gc_in hI (gc_bR hb (by decide) rfl) rfl rfl
  have h12 : ∀ k, 0 ≤ I 12 k ∧ I 12 k ≤ 4 := fun k => gc_in hI (gc_bR hb (by decide) rfl) rfl rfl
  have h4p : ∀ k p, 0 ≤ I p k ∨ True := fun _ _ => Or.inr trivial
  refine ⟨gc_Base_x a1 hb, hIₚ, hok', tt, fun i hi => ?_, ms, cu⟩
  by_cases hi2 : (i : Int) < I 8 1
  · obtain ⟨t, u1, u2, u3, u4, u5⟩ := hU i hi2
    obtain ⟨v1, v2, v3⟩ := ot i t hi2 u1
    obtain ⟨w1, w2, w3, w4⟩ := a8 i t hi2 u1
    obtain ⟨T1, T2, T3⟩ := hT.1 i t (by omega) u1
    have hA' := a7 i t (by omega) u1
    have rows : ∀ q, gc_isLin sh ro A q → 144 ≤ q → ∀ d k, d ≤ 8 → Iₚ (q + d) k = I (q + d) k := fun q g1 g2 d k hd => by
      rcases a3 (q + d) k (by omega) (by have h9 := gc_x_lt (gc_linS8 g1); omega) with ⟨i9, t9, c1, c2, c3, c4⟩ | h
      · have h8 := gc_dj_LT (gc_isLin_x a1 g1) (tt.1 i9 t9 c1 c2).1
        omega
      · exact h
    have old : ∀ j : Nat, (j : Int) < I t 13 → ∃ q, Aₚ (t + 16) j = some q ∧ gc_isLin shₚ ro' Aₚ q ∧ 144 ≤ q ∧ Iₚ q 0 = (j : Int) ∧ gc_lv q Iₚ ∧ gh_LN q Iₚ := fun j hj => by
      obtain ⟨q, p1, p2, p3, p4, p5⟩ := u2 j hj
      have rw9 := rows q p2 p3
      exact ⟨q, (w3 j hj).trans p1, gc_isLin_x a1 p2, p3, (rw9 0 0 (by decide)).trans p4, gc_lv_fr p5 (rw9 0 8 (by decide)) (rw9 0 4 (by decide)) (fun k => rw9 1 k (by decide)), gh_LN_st (u4 j q hj p1) rw9 a4 h12⟩
    have all : ∀ j : Nat, (j : Int) < Iₚ t 13 → ∃ q, Aₚ (t + 16) j = some q ∧ gc_isLin shₚ ro' Aₚ q ∧ 144 ≤ q ∧ Iₚ q 0 = (j : Int) ∧ gc_lv q Iₚ ∧ gh_LN q Iₚ := fun j hj => by
      by_cases e : (j : Int) < I t 13
      · exact old j e
      · exact v2 j (by omega) hj
    refine ⟨t, hA', fun j hj => ?_, v1, fun j q hj hq => ?_, fun w hw => ?_⟩
    · obtain ⟨q, p1, p2, p3, p4, p5, _⟩ := all j hj
      exact ⟨q, p1, p2, p3, p4, p5⟩
    · obtain ⟨q9, p1, _, _, _, _, p6⟩ := all j hj
      cases p1.symm.trans hq
      exact p6
    · by_cases e : (w : Int) < I t 11
      · obtain ⟨z1, z2⟩ := u5 w e
        have z3 := w4 (11 * w) (by omega)
        have z4 : 0 ≤ I (t + 15) (11 * w) := by
          obtain ⟨b0, b1, b2, b3, b4, b5, b6, b7, b8, b9, b10, b11, b12, b13, b14, b15, b16, b17, b18, b19, b20, b21, b22, b23, b24, b25, b26, b27, b28, b29, b30, b31, b32, b33, b34, b35, b36, b37, b38, b39, b40, b41, b42, b43, b44⟩ := T1
          have h9 : (0 : Int) ≤ I (t + 15) (11 * w) ∧ I (t + 15) (11 * w) ≤ 95 := gc_inm (c := 0) hI b37 rfl rfl (by omega) rfl rfl
          exact h9.1
        have z5 := a4.2.1 (Int.toNat (I (t + 15) (11 * w))) (by omega)
        rw [z3, z5.2]
        exact ⟨z1, by have := a4.1; omega⟩
      · exact v3 w (by omega) hw
  · obtain ⟨t, n1, n2, n3, n4⟩ := nt i (by omega) hi
    exact ⟨t, n1, fun j hj => by omega, n4, fun j q hj _ => by omega, fun w hw => by omega⟩
