/-! R where a module was wrong: both sides go back -/
set_option maxHeartbeats 4000000 in
theorem gs_R_back {sh : gz_Sh} {ro : Nat → Nat} {I0 I I' : gr_I} {J0 J : gr_J} {A0 A : gc_A} {Ir0 Ir Ir' : gr_I} {Jr0 Jr Jr' : gr_J} (hs : gh_HS sh ro I J A) (h0 : gs_R I0 J0 A0 Ir0 Jr0) (hn : gs_R I J A Ir Jr) (cz : gs_CZ Ir0 Ir) (bk : gs_BK Ir0 Ir Jr Ir' Jr') (re : gh_RE A I I0 I') (h8 : I0 8 1 ≤ I 8 1) (h4 : I0 4 1 ≤ 96) (hA : ∀ i t : Nat, (i : Int) < I0 8 1 → A 10 i = some t → A0 10 i = some t) (n0 : 0 ≤ I0 2 1 ∧ 0 ≤ I0 4 1 ∧ 0 ≤ I0 6 1 ∧ 0 ≤ I0 8 1) : gs_R I' J A Ir' Jr' := by
  obtain ⟨⟨s2, s4, s6, s8, s13, s17, s5⟩, s15, s7, sf⟩ := re
  obtain ⟨⟨b1, b2, b3, b4, b5, b6⟩, bc, bm, bn, ts⟩ := bk
  obtain ⟨⟨⟨m1, m2, m3, m4, m5⟩, mr⟩, mL0, mL1, mL2⟩ := cz
  obtain ⟨a2, a4, a6, a8, af, ak, ac, aT, a0⟩ := h0
  obtain ⟨c2, c4, c6, c8, cf, ck, cc, cT, c0⟩ := hn
  have i8 : 0 ≤ I 8 1 ∧ I 8 1 ≤ 8 := gc_in hs.2.1 (gc_bR hs.1 (by decide) rfl) rfl rfl
  -- what lies below 144 and is no size stays
  have low : ∀ q j : Nat, q < 144 → ¬ gh_sz q j → ¬ q = 15 → I' q j = I q j := fun q j x y z => (sf q j).resolve_left (fun h => by
    rcases h with h | h | ⟨i, t, h1, h2, h3⟩
    · exact y h
    · exact z h
    · have G := (gs_hT9 hs (show (i : Int) < I 8 1 by omega) h2).2
      unfold gh_c7 at h3
      omega)
  have lo1 : ∀ q j : Nat, q < 144 → ¬ (q = 1 ∨ q = 2 ∨ q = 4 ∨ q = 6 ∨ q = 8) → ¬ q = 15 → I' q j = I q j := fun q j x y z => low q j x (fun h => by unfold gh_sz at h; omega) z
  -- cells of TONGUES that are no sizes stay
  have tgc : ∀ (i t d j : Nat), (i : Int) < I 8 1 → A 10 i = some t → (d = 5 ∨ d = 6 ∨ d = 13 ∨ d = 14) → I' (t + d) j = I (t + d) j := fun i t d j hi ht hd => (sf (t + d) j).resolve_left (fun h => by
    have G := (gs_hT9 hs hi ht).2
    rcases h with h | h | ⟨i2, t2, h1, h2, h3⟩
    · unfold gh_sz at h
      omega
    · omega
    · have hi2 : (i2 : Int) < I 8 1 := by omega
      unfold gh_c7 at h3
      by_cases c : i2 = i
      · subst c
        have e := Option.some.inj (ht.symm.trans h2)
        omega
      · have dj := gs_hJ9 hs hi ht hi2 h2 c
        omega)
  have lin : ∀ (i t k q : Nat), (i : Int) < I 8 1 → A 10 i = some t → (k : Int) < I t 13 → A (t + 16) k = some q → I' q 1 = I q 1 := fun i t k q hi ht hk hq => (sf q 1).resolve_left (fun h => by
    obtain ⟨g1, g2⟩ := gs_hL9 hs hi ht k q hk hq
    rcases h with h | h | ⟨i2, t2, h1, h2, h3⟩
    · unfold gh_sz at h
      omega
    · omega
    · have dl := gc_dj_LT g2 (gs_hT9 hs (show (i2 : Int) < I 8 1 by omega) h2).1
      unfold gh_c7 at h3
      omega)
  have J1 := ts.2.2 1 rfl rfl
  have J2 := ts.2.2 2 rfl rfl
  have J3 := ts.2.2 3 rfl rfl
  have J4 := ts.2.2 4 rfl rfl
  have J5 := ts.2.2 5 rfl rfl
  have e2 := a2.1
  have e4 := a4.1
  have e6 := a6.1
  have e8 := a8.1
  have d2 := c2.1
  have d4 := c4.1
  have d6 := c6.1
  have d8 := c8.1
  refine ⟨⟨by omega, gs_NA_2 c2.2 (by omega) (fun _ _ => rfl) (fun k _ => J2 k)⟩, ⟨by omega, gs_NA_2 c4.2 (by omega) (fun _ _ => rfl) (fun k _ => J3 k)⟩, ⟨by omega, gs_NA_2 c6.2 (by omega) (fun _ _ => rfl) (fun k _ => J4 k)⟩, ⟨by omega, gs_NA_2 c8.2 (by omega) (fun _ _ => rfl) (fun k _ => J1 k)⟩, ⟨by have := af.1; omega, fun k hk => ?_⟩, ⟨fun f f0 f1 => ?_, fun f f0 f1 => ?_, fun f f0 f1 => ?_⟩, by omega, fun i t hi ht => ?_, fun i h1 h2 => ?_⟩
  · have g := cf.2 k (by have := af.1; have := cf.1; omega)
    rw [lo1 19 (2 * k) (by decide) (by decide) (by decide), lo1 19 (2 * k + 1) (by decide) (by decide) (by decide), J5 k, ts.2.1 11 rfl rfl k, ts.2.1 12 rfl rfl k]
    exact g
  · rw [lo1 12 _ (by decide) (by decide) (by decide), ts.2.1 6 rfl rfl]
    exact ck.1 f f0 (by omega)
  · obtain ⟨g1, g2⟩ := ck.2.1 f f0 (by omega)
    refine ⟨by rw [lo1 11 _ (by decide) (by decide) (by decide), ts.2.1 8 rfl rfl]; exact g1, fun j j0 j1 => ?_⟩
    rw [lo1 12 _ (by decide) (by decide) (by decide)] at j1
    rw [lo1 13 _ (by decide) (by decide) (by decide), ts.2.1 7 rfl rfl]
    exact g2 j j0 j1
  · have fn : (Int.toNat f : Int) < Ir0 0 3 := by omega
    rw [s15 (Int.toNat f) (by omega), ak.2.2 f f0 (by omega)]
    constructor
    · intro x
      rcases bn (Int.toNat f) with y | ⟨j, y, z⟩
      · rw [y]
        exact (mL1 _ fn).mpr (Or.inl x)
      · exact absurd x (by rw [← z]; exact mL2 j y (by rw [z]; exact fn))
    · intro x
      rcases bn (Int.toNat f) with y | ⟨j, y, z⟩
      · rw [y] at x
        rcases (mL1 _ fn).mp x with w | ⟨j, w, z⟩
        · exact w
        · have v := bm j w
          rw [z] at v
          rw [← y, v] at x
          exact absurd x (by decide)
      · have v := bm j y
        rw [z] at v
        rw [v] at x
        exact absurd x (by decide)
  · have hi0 : (i : Int) < I0 8 1 := by omega
    have hi9 : (i : Int) < I 8 1 := by omega
    obtain ⟨a1, a3, a7, as, ap, aw, al⟩ := aT i t hi0 (hA i t hi0 ht)
    obtain ⟨q1, q3, q7, qs, qp, qw, ql⟩ := cT i t hi9 ht
    have h7 := s7 i t hi0 ht
    unfold gh_7 at h7
    obtain ⟨w1, w3, w7, ws, wp, ww, wl⟩ := h7
    have ei : Int.toNat (i : Int) = i := by omega
    have bc9 := bc i (by omega)
    have mr9 := mr i
    unfold gs_T1 at a1 q1
    unfold gs_T3 at a3 q3
    unfold gs_T7 at a7 q7
    unfold gs_TP at ap qp
    unfold gs_TL at al ql
    rw [ei] at a1 q1 a3 q3 a7 q7 ap qp al ql as aw
    unfold gs_RT gs_T1 gs_T3 gs_T7 gs_TP gs_TL
    rw [ei]
    have x1 := a1.1
    have x3 := a3.1.1
    have x7 := a7.1
    have xp := ap.1.1
    have xl := al.1
    have y1 := q1.1
    have y3 := q3.1.1
    have y7 := q7.1
    have yp := qp.1.1
    have yl := ql.1
    refine ⟨⟨by omega, gs_NA_2 q1.2 (by omega) (fun _ _ => rfl) (fun k _ => ts.2.2 20 rfl rfl _)⟩, ⟨⟨by omega, gs_NA_2 q3.1.2 (by omega) (fun _ _ => rfl) (fun k _ => ts.2.2 21 rfl rfl _)⟩, fun k k0 k1 => ?_⟩, ⟨by omega, gs_NA_2 q7.2 (by omega) (fun _ _ => rfl) (fun k _ => ts.2.2 22 rfl rfl _)⟩, by omega, ⟨⟨by omega, gs_NA_2 qp.1.2 (by omega) (fun _ _ => rfl) (fun k _ => ts.2.2 23 rfl rfl _)⟩, fun f f0 f1 => ?_⟩, by omega, by omega, fun k q hk hq => ?_, fun x hx => ?_, fun k hk => ?_⟩
    · rw [tgc i t 5 _ hi9 ht (by omega), tgc i t 6 _ hi9 ht (by omega), ts.2.1 24 rfl rfl, ts.2.1 25 rfl rfl]
      exact q3.2 k k0 (by omega)
    · obtain ⟨g1, g2⟩ := qp.2 f f0 (by omega)
      refine ⟨by rw [tgc i t 13 _ hi9 ht (by omega), ts.2.1 31 rfl rfl]; exact g1, fun j hj => ?_⟩
      rw [tgc i t 13 _ hi9 ht (by omega)] at hj
      rw [tgc i t 14 _ hi9 ht (by omega), ts.2.1 32 rfl rfl]
      exact g2 j hj
    · rw [lin i t k q hi9 ht (by omega) hq, ql.2.1 k q (by omega) hq]
      exact (ts.2.1 41 rfl rfl _).symm
    · have g := ql.2.2.1 x hx
      rw [gs_cf_m (g := gs_lfi (i : Int) Ir) (g' := gs_lfi (i : Int) Ir') _ (fun k _ => ts.2.1 41 rfl rfl _)]
      exact Int.le_trans (gs_cf_le _ (by omega)) g
    · have g := ql.2.2.2 k (by omega)
      rw [show gs_lfi (i : Int) Ir' k = gs_lfi (i : Int) Ir k from ts.2.1 41 rfl rfl _]
      exact g
  · obtain ⟨d1, d2, d3, d4, d5, d6, d7⟩ := bc i h2
    rw [d1, d2, d3, d4, d5, d6, d7]
    exact a0 i (by omega) h2
