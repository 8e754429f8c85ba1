/-! R where a module was wrong: both sides go back -/
set_option maxHeartbeats 8000000 in
theorem gs_R_back {sh : gz_Sh} {ro : Nat → Nat} {I0 I Iₚ : gr_I} {J0 J : gr_J} {A0 A : gc_A} {Ir0 Ir Irₚ : gr_I} {Jr0 Jr Jrₚ : gr_J} (hs : gh_HS sh ro I J A) (h0 : gs_R I0 J0 A0 Ir0 Jr0) (hn : gs_R I J A Ir Jr) (cz : gs_CZ Ir0 Ir) (bk : gs_BK Ir0 Ir Jr Irₚ Jrₚ) (re : gh_RE A I I0 Iₚ) (h8 : I0 8 1 ≤ I 8 1) (h4 : I0 4 1 ≤ 96) (hA : ∀ i t : Nat, (i : Int) < I0 8 1 → A 10 i = some t → A0 10 i = some t) (n0 : 0 ≤ I0 2 1 ∧ 0 ≤ I0 4 1 ∧ 0 ≤ I0 6 1 ∧ 0 ≤ I0 8 1) : gs_R Iₚ J A Irₚ Jrₚ := by
  obtain ⟨⟨s2, s4, s6, s8, s13, s17, s5⟩, s15, s7, sf⟩ := re
  obtain ⟨⟨b1, b2, b3, b4, b5, b6⟩, bc, bm, bn, ts, _⟩ := bk
  obtain ⟨⟨⟨m1, m2, m3, m4, m5⟩, mr⟩, mL0, mL1, mL2⟩ := cz
  obtain ⟨a2, a4, a6, a8, af, ak, ac, aT, a0⟩ := h0
  obtain ⟨c2, c4, c6, c8, cf, ck, cc, cT, c0⟩ := hn
  have i8 : 0 ≤ I 8 1 ∧ I 8 1 ≤ 8 := gc_in hs.2.1 (gc_bR hs.1 (by decide) rfl) rfl rfl
  -- what lies below 144 and is no size stays
  have low : ∀ q j : Nat, q < 144 → ¬ gh_sz q j → ¬ q = 15 → Iₚ q j = I q j := fun q j x y z => (sf q j).resolve_left (fun h => by
    rcases h with h | h | ⟨i, t, h1, h2, h3⟩
    · exact y h
    · exact z h
    · have G := (gs_hT9 hs (show (i : Int) < I 8 1 by omega) h2).2
      unfold gh_c7 at h3
      omega)
  have lo1 : ∀ q j : Nat, q < 144 → ¬ (q = 1 ∨ q = 2 ∨ q = 4 ∨ q = 6 ∨ q = 8) → ¬ q = 15 → Iₚ q j = I q j := fun q j x y z => low q j x (fun h => by unfold gh_sz at h; omega) z
  -- cells of TONGUES that are no sizes stay
  have tgc : ∀ (i t d j : Nat), (i : Int) < I 8 1 → A 10 i = some t → (d = 5 ∨ d = 6 ∨ d = 13 ∨ d = 14) → Iₚ (t + d) j = I (t + d) j := fun i t d j hi ht hd => (sf (t + d) j).resolve_left (fun h => by
    have G := (gs_hT9 hs hi ht).2
    rcases h with h | h | ⟨i2, t2, h1, h2, h3⟩
    · unfold gh_sz at h
      omega
    · omega
    · have hi2 : (i2 : Int) < I 8 1 := by omega
      unfold gh_c7 at h3
      by_cases c : i2 = i
      · subst c
        have e := Option.some.inj (ht.symm.trans h2)
        omega
      · have dj := gs_hJ9 hs hi ht hi2 h2 c
        omega)
  have lin : ∀ (i t k q : Nat), (i : Int) < I 8 1 → A 10 i = some t → (k : Int) < I t 13 → A (t + 16) k = some q → Iₚ q 1 = I q 1 := fun i t k q hi ht hk hq => (sf q 1).resolve_left (fun h => by
    obtain ⟨g1, g2⟩ := gs_hL9 hs hi ht k q hk hq
    rcases h with h | h | ⟨i2, t2, h1, h2, h3⟩
    · unfold gh_sz at h
      omega
    · omega
    · have dl := gc_dj_LT g2 (gs_hT9 hs (show (i2 : Int) < I 8 1 by omega) h2).1
      unfold gh_c7 at h3
      omega)
  have J1 := ts.2.2 1 rfl rfl
  have J2 := ts.2.2 2 rfl rfl
  have J3 := ts.2.2 3 rfl rfl
  have J4 := ts.2.2 4 rfl rfl
  have J5 := ts.2.2 5 rfl rfl
  have e2 := a2.1
  have e4 := a4.1
  have e6 := a6.1
  have e8 := a8.1
  have d2 := c2.1
  have d4 := c4.1
  have d6 := c6.1
  have d8 := c8.1
  refine ⟨⟨by omega, gs_NA_2 c2.2 (by omega) (fun _ _ => rfl) (fun k _ => J2 k)⟩, ⟨by omega, gs_NA_2 c4.2 (by omega) (fun _ _ => rfl) (fun k _ => J3 k)⟩, ⟨by omega, gs_NA_2 c6.2 (by omega) (fun _ _ => rfl) (fun k _ => J4 k)⟩, ⟨by omega, gs_NA_2 c8.2 (by omega) (fun _ _ => rfl) (fun k _ => J1 k)⟩, ⟨by have := af.1; omega, fun k hk => ?_⟩, ⟨fun f f0 f1 => ?_, fun f f0 f1 => ?_, fun f f0 f1 => ?_, fun f f0 f1 => by rw [lo1 14 _ (by decide) (by decide) (by decide), ts.2.1 9 rfl rfl]; exact ck.2.2.2 f f0 (by omega)⟩, by omega, fun i t hi ht => ?_, fun i h1 h2 => ?_⟩
  · have g := cf.2 k (by have := af.1; have := cf.1; omega)
    rw [lo1 19 (2 * k) (by decide) (by decide) (by decide), lo1 19 (2 * k + 1) (by decide) (by decide) (by decide), J5 k, ts.2.1 11 rfl rfl k, ts.2.1 12 rfl rfl k]
    exact g
  · rw [lo1 12 _ (by decide) (by decide) (by decide), ts.2.1 6 rfl rfl]
    exact ck.1 f f0 (by omega)
  · obtain ⟨g1, g2⟩ := ck.2.1 f f0 (by omega)
    refine ⟨by rw [lo1 11 _ (by decide) (by decide) (by decide), ts.2.1 8 rfl rfl]; exact g1, fun j j0 j1 => ?_⟩
    rw [lo1 12 _ (by decide) (by decide) (by decide)] at j1
    rw [lo1 13 _ (by decide) (by decide) (by decide), ts.2.1 7 rfl rfl]
    exact g2 j j0 j1
  · have fn : (Int.toNat f : Int) < Ir0 0 3 := by omega
    rw [s15 (Int.toNat f) (by omega), ak.2.2.1 f f0 (by omega)]
    constructor
    · intro x
      rcases bn (Int.toNat f) with y | ⟨j, y, z⟩
      · rw [y]
        exact (mL1 _ fn).mpr (Or.inl x)
      · exact absurd x (by rw [← z]; exact mL2 j y (by rw [z]; exact fn))
    · intro x
      rcases bn (Int.toNat f) with y | ⟨j, y, z⟩
      · rw [y] at x
        rcases (mL1 _ fn).mp x with w | ⟨j, w, z⟩
        · exact w
        · have v := bm j w
          rw [z] at v
          rw [← y, v] at x
          exact absurd x (by decide)
      · have v := bm j y
        rw [z] at v
        rw [v] at x
        exact absurd x (by decide)
  · have hi0 : (i : Int) < I0 8 1 := by omega
    have hi9 : (i : Int) < I 8 1 := by omega
    obtain ⟨a1, a3, a7, as, ap, aw, al⟩ := aT i t hi0 (hA i t hi0 ht)
    obtain ⟨q1, q3, q7, qs, qp, qw, ql⟩ := cT i t hi9 ht
    have h7 := s7 i t hi0 ht
    unfold gh_7 at h7
    obtain ⟨w1, w3, w7, ws, wp, ww, wl⟩ := h7
    have ei : Int.toNat (i : Int) = i := by omega
    have bc9 := bc i (by omega)
    have mr9 := mr i
    unfold gs_T1 at a1 q1
    unfold gs_T3 at a3 q3
    unfold gs_T7 at a7 q7
    unfold gs_TP at ap qp
    unfold gs_TL at al ql
    rw [ei] at a1 q1 a3 q3 a7 q7 ap qp al ql as aw
    unfold gs_RT gs_T1 gs_T3 gs_T7 gs_TP gs_TL
    rw [ei]
    have x1 := a1.1
    have x3 := a3.1.1
    have x7 := a7.1
    have xp := ap.1.1
    have xl := al.1
    have y1 := q1.1
    have y3 := q3.1.1
    have y7 := q7.1
    have yp := qp.1.1
    have yl := ql.1
    refine ⟨⟨by omega, gs_NA_2 q1.2 (by omega) (fun _ _ => rfl) (fun k _ => ts.2.2 20 rfl rfl _)⟩, ⟨⟨by omega, gs_NA_2 q3.1.2 (by omega) (fun _ _ => rfl) (fun k _ => ts.2.2 21 rfl rfl _)⟩, fun k k0 k1 => ?_⟩, ⟨by omega, gs_NA_2 q7.2 (by omega) (fun _ _ => rfl) (fun k _ => ts.2.2 22 rfl rfl _)⟩, by omega, ⟨⟨by omega, gs_NA_2 qp.1.2 (by omega) (fun _ _ => rfl) (fun k _ => ts.2.2 23 rfl rfl _)⟩, fun f f0 f1 => ?_⟩, by omega, by omega, fun k q hk hq => ?_, fun x hx => ?_, fun k hk => ?_⟩
    · rw [tgc i t 5 _ hi9 ht (by omega), tgc i t 6 _ hi9 ht (by omega), ts.2.1 24 rfl rfl, ts.2.1 25 rfl rfl]
      exact q3.2 k k0 (by omega)
    · obtain ⟨g1, g2⟩ := qp.2 f f0 (by omega)
      refine ⟨by rw [tgc i t 13 _ hi9 ht (by omega), ts.2.1 31 rfl rfl]; exact g1, fun j hj => ?_⟩
      rw [tgc i t 13 _ hi9 ht (by omega)] at hj
      rw [tgc i t 14 _ hi9 ht (by omega), ts.2.1 32 rfl rfl]
      exact g2 j hj
    · rw [lin i t k q hi9 ht (by omega) hq, ql.2.1 k q (by omega) hq]
      exact (ts.2.1 41 rfl rfl _).symm
    · have g := ql.2.2.1 x hx
      rw [gs_cf_m (g := gs_lfi (i : Int) Ir) (gₚ := gs_lfi (i : Int) Irₚ) _ (fun k _ => ts.2.1 41 rfl rfl _)]
      exact Int.le_trans (gs_cf_le _ (by omega)) g
    · have g := ql.2.2.2 k (by omega)
      rw [show gs_lfi (i : Int) Irₚ k = gs_lfi (i : Int) Ir k from ts.2.1 41 rfl rfl _]
      exact g
  · obtain ⟨d1, d2, d3, d4, d5, d6, d7⟩ := bc i h2
    rw [d1, d2, d3, d4, d5, d6, d7]
    exact a0 i (by omega) h2
/-! CLASSES and RULES where a module was wrong, where nothing comes -/
section SB8
variable {sh : gz_Sh} {ro : Nat → Nat} {I0 I Iₚ : gr_I} {J Jₚ : gr_J} {A Aₚ : gc_A} {Ir Irₚ : gr_I} {Jr Jrₚ : gr_J}
theorem gs_RE_c (hs : gh_HS sh ro I J A) (re : gh_RE A I I0 Iₚ) (h8 : I0 8 1 ≤ I 8 1) : (Iₚ 8 1 = I0 8 1 ∧ Iₚ 1 17 = I0 1 17) ∧ (∀ k, Iₚ 20 k = I 20 k) ∧ ∀ i t : Nat, (i : Int) < I0 8 1 → A 10 i = some t → Iₚ (t + 7) 1 = I0 (t + 7) 1 ∧ Iₚ t 6 = I0 t 6 ∧ (∀ k, Iₚ (t + 9) k = I (t + 9) k) ∧ ∀ k, Iₚ (t + 10) k = I (t + 10) k := by
  obtain ⟨⟨s2, s4, s6, s8, s13, s17, s5⟩, s15, s7, sf⟩ := re
  have tgc : ∀ (i t d j : Nat), (i : Int) < I 8 1 → A 10 i = some t → (d = 9 ∨ d = 10) → Iₚ (t + d) j = I (t + d) j := fun i t d j hi ht hd => (sf (t + d) j).resolve_left (fun h => by
    have G := (gs_hT9 hs hi ht).2
    rcases h with h | h | ⟨i2, t2, h1, h2, h3⟩
    · unfold gh_sz at h
      omega
    · omega
    · have hi2 : (i2 : Int) < I 8 1 := by omega
      unfold gh_c7 at h3
      by_cases c : i2 = i
      · subst c
        have e := Option.some.inj (ht.symm.trans h2)
        omega
      · have dj := gs_hJ9 hs hi ht hi2 h2 c
        omega)
  refine ⟨⟨s8, s17⟩, fun k => (sf 20 k).resolve_left (fun h => ?_), fun i t hi ht => ?_⟩
  · rcases h with h | h | ⟨i2, t2, h1, h2, h3⟩
    · unfold gh_sz at h
      omega
    · omega
    · have G := (gs_hT9 hs (show (i2 : Int) < I 8 1 by omega) h2).2
      unfold gh_c7 at h3
      omega
  · have h7 := s7 i t hi ht
    unfold gh_7 at h7
    obtain ⟨w1, w3, w7, ws, wp, ww, wl⟩ := h7
    exact ⟨w7, ws, fun k => tgc i t 9 k (by omega) ht (by omega), fun k => tgc i t 10 k (by omega) ht (by omega)⟩
theorem gs_RS_ts {m : List Nat} (h : gs_RS I A Ir) (hR : gs_R I J A Ir Jr) (ts : gs_TsX m Ir Jr Irₚ Jrₚ) (hm : ([15, 16, 26, 27, 28, 29, 30].all (fun a => !(m.elem a))) = true) (l : gr_LKs Ir Irₚ) : gs_RS I A Irₚ := by
  simp only [List.all_cons, List.all_nil, Bool.and_true, Bool.and_eq_true, Bool.not_eq_true'] at hm
  obtain ⟨m1, m0, m2, m3, m4, m5, m6⟩ := hm
  exact gs_RS_fr h hR rfl gc_PKs_rf (fun i t _ hA => ⟨hA, rfl, fun _ => rfl, rfl, fun _ => rfl⟩) l (fun j => ⟨ts.2.1 15 rfl m1 j, ts.2.1 16 rfl m0 j⟩) (fun j => ⟨ts.2.1 26 rfl m2 j, ts.2.1 27 rfl m3 j, ts.2.1 28 rfl m4 j, ts.2.1 29 rfl m5 j, ts.2.1 30 rfl m6 j⟩)
theorem gs_RS_c (h : gs_RS I A Ir) (hR : gs_R I J A Ir Jr) (hs : gh_HS sh ro I J A) (f : ∀ q j : Nat, 144 ≤ q → Iₚ q j = I q j) (h8 : Iₚ 8 1 = I 8 1) (h17 : Iₚ 1 17 = I 1 17) (h20 : ∀ k, Iₚ 20 k = I 20 k) : gs_RS Iₚ A Ir ∧ gs_CK I A Iₚ A := ⟨gs_RS_fr h hR h8 (gc_PKs_fr gc_PKs_rf h17 h20) (fun i t hi hA => ⟨hA, gs_cS_of f (gs_hT9 hs hi hA).2⟩) gr_LKs_rf (fun _ => ⟨rfl, rfl⟩) (fun _ => ⟨rfl, rfl, rfl, rfl, rfl⟩), gc_PKs_fr gc_PKs_rf h17 h20, by rw [h8]; exact Int.le_refl _, fun i t hi hA => ⟨hA, Int.le_of_eq (f t 6 (gs_hT9 hs hi hA).2).symm, gs_kC_s (gs_cS_of f (gs_hT9 hs hi hA).2)⟩⟩
end SB8
theorem gs_RE_d {sh : gz_Sh} {ro : Nat → Nat} {I0 I Iₚ : gr_I} {J : gr_J} {A : gc_A} (hs : gh_HS sh ro I J A) (re : gh_RE A I I0 Iₚ) (h8 : I0 8 1 ≤ I 8 1) : ∀ i t : Nat, (i : Int) < I0 8 1 → A 10 i = some t → (Iₚ (t + 11) 1 = I0 (t + 11) 1 ∧ Iₚ t 11 = I0 t 11) ∧ (∀ k, Iₚ (t + 13) k = I (t + 13) k) ∧ (∀ k, Iₚ (t + 14) k = I (t + 14) k) ∧ ∀ k, Iₚ (t + 15) k = I (t + 15) k := by
  obtain ⟨⟨s2, s4, s6, s8, s13, s17, s5⟩, s15, s7, sf⟩ := re
  have tgc : ∀ (i t d j : Nat), (i : Int) < I 8 1 → A 10 i = some t → (d = 13 ∨ d = 14 ∨ d = 15) → Iₚ (t + d) j = I (t + d) j := fun i t d j hi ht hd => (sf (t + d) j).resolve_left (fun h => by
    have G := (gs_hT9 hs hi ht).2
    rcases h with h | h | ⟨i2, t2, h1, h2, h3⟩
    · unfold gh_sz at h
      omega
    · omega
    · have hi2 : (i2 : Int) < I 8 1 := by omega
      unfold gh_c7 at h3
      by_cases c : i2 = i
      · subst c
        have e := Option.some.inj (ht.symm.trans h2)
        omega
      · have dj := gs_hJ9 hs hi ht hi2 h2 c
        omega)
  intro i t hi ht
  have h7 := s7 i t hi ht
  unfold gh_7 at h7
  obtain ⟨w1, w3, w7, ws, wp, ww, wl⟩ := h7
  exact ⟨⟨wp, ww⟩, fun k => tgc i t 13 k (by omega) ht (by omega), fun k => tgc i t 14 k (by omega) ht (by omega), fun k => tgc i t 15 k (by omega) ht (by omega)⟩
section RV9
variable {B : Int} {β : Int → Int} {η p z : Int} {sh shₚ : gz_Sh} {ro ro' : Nat → Nat} {i t a s : Nat} {I Iₚ I8 I0 : gr_I} {J Jₚ : gr_J} {A Aₚ A0 : gc_A} {Ir Irₚ Ir0 : gr_I} {Jr Jrₚ : gr_J}
theorem gs_RV_ts {m : List Nat} (h : gs_RV I A Ir) (hR : gs_R I J A Ir Jr) (b8 : I 8 1 ≤ 8) (ts : gs_TsX m Ir Jr Irₚ Jrₚ) (hm : (([15, 16, 26, 27, 28, 29, 30].all (fun a => !(m.elem a))) && ([17, 31, 32, 33, 34, 36, 37, 38, 39, 40].all (fun a => !(m.elem a)) && !(m.elem 103))) = true) (l : gr_LV Ir Irₚ) : gs_RV I A Irₚ := by
  rw [Bool.and_eq_true] at hm
  exact ⟨gs_RS_ts h.1 hR ts hm.1 l.1, gs_RW_ts h.2 hR b8 ts hm.2 l⟩
theorem gs_RV_c (h : gs_RV I A Ir) (hR : gs_R I J A Ir Jr) (hs : gh_HS sh ro I J A) (f : ∀ q j : Nat, 144 ≤ q → Iₚ q j = I q j) (h8 : Iₚ 8 1 = I 8 1) (h17 : Iₚ 1 17 = I 1 17) (h20 : ∀ k, Iₚ 20 k = I 20 k) : gs_RV Iₚ A Ir ∧ gs_CV I A Iₚ A := by
  obtain ⟨a, b⟩ := gs_RS_c h.1 hR hs f h8 h17 h20
  refine ⟨⟨a, gs_RW_fr h.2 hR (gs_h8_of hs) h8 (gc_PKs_fr gc_PKs_rf h17 h20) (fun i t hi hA => ⟨hA, gs_cD_of f (gs_hT9 hs hi hA).2⟩) gr_LV_rf rfl (fun _ _ _ => rfl)⟩, b, by rw [h8]; exact Int.le_refl _, fun i t hi hA => ⟨hA, Int.le_of_eq (f t 11 (gs_hT9 hs hi hA).2).symm, gs_kD_s (gs_cD_of f (gs_hT9 hs hi hA).2)⟩⟩
/-- a wrong module: both sides go back to what they had at its start -/
theorem gs_RW_bk (h : gs_RW I0 A0 Ir0) (hR : gs_R I0 J A0 Ir0 Jr) (pk : gc_PKs I0 I) (ck : gs_CD I0 A0 I A) (lk : gr_LKs Ir0 Ir) (rk : gr_PTs Ir0 Ir ∧ gs_RE9 Ir0 Ir) (h8 : Iₚ 8 1 = I0 8 1) (h17 : Iₚ 1 17 = I0 1 17) (h20 : ∀ k, Iₚ 20 k = I 20 k) (ht : ∀ i t : Nat, (i : Int) < I0 8 1 → A 10 i = some t → (Iₚ (t + 11) 1 = I0 (t + 11) 1 ∧ Iₚ t 11 = I0 t 11) ∧ (∀ k, Iₚ (t + 13) k = I (t + 13) k) ∧ (∀ k, Iₚ (t + 14) k = I (t + 14) k) ∧ ∀ k, Iₚ (t + 15) k = I (t + 15) k) (lt : (Irₚ 0 59 = Ir0 0 59 ∧ ∀ j, Irₚ 51 j = Ir 51 j) ∧ (Irₚ 0 42 = Ir0 0 42 ∧ ∀ j, Irₚ 35 j = Ir 35 j)) (f3 : Irₚ 0 3 = Ir0 0 3) (r17 : ∀ j : Nat, j < 8 → Irₚ 17 j = Ir0 17 j ∧ Irₚ 18 j = Ir0 18 j) (rr : ∀ a : Nat, [31, 32, 33, 34, 36, 37, 38, 39, 40].elem a = true → ∀ j, Irₚ a j = Ir a j) (b8 : I0 8 1 ≤ 8) : gs_RW Iₚ A Irₚ := by
  have lr : gr_LKs Ir0 Irₚ := ⟨by have := lt.1.1; omega, fun j hj => (lt.1.2 j).trans (lk.2 j hj)⟩
  have lp : gr_PTs Ir0 Irₚ := ⟨by have := lt.2.1; omega, fun j hj => (lt.2.2 j).trans (rk.1.2 j hj)⟩
  have kr : ∀ i : Int, 0 ≤ i → i < 8 → gs_kE i Ir0 Irₚ := fun i i0 i1 => by
    obtain ⟨_, k⟩ := rk.2.2 i i0 i1
    refine ⟨⟨by rw [(r17 (Int.toNat i) (by omega)).1]; exact Int.le_refl _, fun f f0 f1 => (rr 31 rfl _).trans (k.1.2.1 f f0 f1), fun f f0 f1 j j0 j1 => ?_⟩, fun w w0 w1 => ?_⟩
    · obtain ⟨a1, a2, a3⟩ := k.1.2.2 f f0 f1 j j0 j1
      exact ⟨(rr 32 rfl _).trans a1, (rr 33 rfl _).trans a2, (rr 34 rfl _).trans a3⟩
    · obtain ⟨⟨⟨a1, a2⟩, a3, a4⟩, a5⟩ := k.2 w w0 w1
      exact ⟨⟨⟨(rr 36 rfl _).trans a1, (rr 37 rfl _).trans a2⟩, (rr 39 rfl _).trans a3, (rr 40 rfl _).trans a4⟩, fun k9 hk => (rr 38 rfl _).trans (a5 k9 hk)⟩
  refine gs_RW_kp h hR h8 b8 ⟨by omega, fun j hj => (h20 j).trans (pk.2 j hj)⟩ (fun i t hi hA => ?_) lr lp kr (by omega) ?_
  · obtain ⟨a, _, k⟩ := ck.2 i t hi hA
    obtain ⟨⟨c1, c2⟩, c13, c14, c15⟩ := ht i t hi hA
    exact ⟨a, ⟨⟨by omega, fun k9 hk => (c13 k9).trans (k.1.2.1 k9 hk), fun k9 hk => (c14 k9).trans (k.1.2.2 k9 hk)⟩, fun k9 hk => (c15 k9).trans (k.2 k9 hk)⟩, c1, c2⟩
  · refine ⟨fun i i0 i1 => by rw [(r17 (Int.toNat i) (by omega)).1]; exact h.1.1 i i0 i1, fun i f i0 i1 f0 f1 => ?_⟩
    rw [(r17 (Int.toNat i) (by omega)).1] at f1
    obtain ⟨a, b⟩ := h.1.2 i f i0 i1 f0 f1
    rw [(kr i i0 i1).1.2.1 f f0 f1]
    refine ⟨a, fun j j0 j1 => ?_⟩
    obtain ⟨_, a2, a3⟩ := (kr i i0 i1).1.2.2 f f0 f1 j j0 (by omega)
    rw [a2, a3]
    exact fo_okr_kp (b j j0 j1) lr.2 lp.2 lr.1 lp.1
end RV9
theorem gs_CV_u {I0 I Iₚ : gr_I} {A0 A : gc_A} (h : gs_CV I0 A0 I A) (f : ∀ q j : Nat, ¬ q = 23 → Iₚ q j = I q j) (l : ∀ i t : Nat, (i : Int) < I0 8 1 → A 10 i = some t → 144 ≤ t) : gs_CV I0 A0 Iₚ A := by
  obtain ⟨⟨⟨p1, p2⟩, k1, k2⟩, d1, d2⟩ := h
  have f17 := gz_hi (f 1 17 (by decide))
  have f81 := gz_hi (f 8 1 (by decide))
  refine ⟨⟨⟨by (/-0-/first | (have o1 := gz_sh f17; omega) | (simp only [gz_hd] at *; omega)), fun j hj => (f 20 j (by decide)).trans (p2 j hj)⟩, by (/-1-/first | (have o1 := gz_sh f81; omega) | (simp only [gz_hd] at *; omega)), fun i t hi hA => ?_⟩, by (/-2-/first | (have o1 := gz_sh f81; omega) | (simp only [gz_hd] at *; omega)), fun i t hi hA => ?_⟩
  · obtain ⟨a, b, c⟩ := k2 i t hi hA
    have G := l i t hi hA
    have e6 := f t 6 (by (/-3-/first | omega | (simp only [gz_hd] at *; omega)))
    have e7 := f (t + 7) 1 (by (/-4-/first | omega | (simp only [gz_hd] at *; omega)))
    exact ⟨a, by (/-5-/first | omega | (simp only [gz_hd] at *; omega)), ⟨by have := c.1.1; (/-6-/first | omega | (simp only [gz_hd] at *; omega)), fun k hk => (f (t + 9) k (by (/-7-/first | omega | (simp only [gz_hd] at *; omega)))).trans (c.1.2 k hk)⟩, fun k hk => (f (t + 10) k (by (/-8-/first | omega | (simp only [gz_hd] at *; omega)))).trans (c.2 k hk)⟩
  · obtain ⟨a, b, c⟩ := d2 i t hi hA
    have G := l i t hi hA
    have e11 := f t 11 (by (/-9-/first | omega | (simp only [gz_hd] at *; omega)))
    have e12 := f (t + 11) 1 (by (/-10-/first | omega | (simp only [gz_hd] at *; omega)))
    exact ⟨a, by (/-11-/first | omega | (simp only [gz_hd] at *; omega)), ⟨by have := c.1.1; (/-12-/first | omega | (simp only [gz_hd] at *; omega)), fun k hk => (f (t + 13) k (by (/-13-/first | omega | (simp only [gz_hd] at *; omega)))).trans (c.1.2.1 k hk), fun k hk => (f (t + 14) k (by (/-14-/first | omega | (simp only [gz_hd] at *; omega)))).trans (c.1.2.2 k hk)⟩, fun k hk => (f (t + 15) k (by (/-15-/first | omega | (simp only [gz_hd] at *; omega)))).trans (c.2 k hk)⟩
theorem gs_CV_bk {I0 I Iₚ : gr_I} {A0 A : gc_A} (h : gs_CV I0 A0 I A) (h8 : Iₚ 8 1 = I0 8 1) (h17 : Iₚ 1 17 = I0 1 17) (h20 : ∀ k, Iₚ 20 k = I 20 k) (ht : ∀ i t : Nat, (i : Int) < I0 8 1 → A 10 i = some t → Iₚ (t + 7) 1 = I0 (t + 7) 1 ∧ Iₚ t 6 = I0 t 6 ∧ (∀ k, Iₚ (t + 9) k = I (t + 9) k) ∧ ∀ k, Iₚ (t + 10) k = I (t + 10) k) (hd : ∀ i t : Nat, (i : Int) < I0 8 1 → A 10 i = some t → (Iₚ (t + 11) 1 = I0 (t + 11) 1 ∧ Iₚ t 11 = I0 t 11) ∧ (∀ k, Iₚ (t + 13) k = I (t + 13) k) ∧ (∀ k, Iₚ (t + 14) k = I (t + 14) k) ∧ ∀ k, Iₚ (t + 15) k = I (t + 15) k) : gs_CV I0 A0 Iₚ A := by
  obtain ⟨⟨⟨p1, p2⟩, k1, k2⟩, d1, d2⟩ := h
  refine ⟨⟨⟨by omega, fun j hj => (h20 j).trans (p2 j hj)⟩, by omega, fun i t hi hA => ?_⟩, by omega, fun i t hi hA => ?_⟩
  · obtain ⟨a, b, c⟩ := k2 i t hi hA
    obtain ⟨e7, e6, e9, e10⟩ := ht i t hi hA
    exact ⟨a, by omega, ⟨by omega, fun k hk => (e9 k).trans (c.1.2 k hk)⟩, fun k hk => (e10 k).trans (c.2 k hk)⟩
  · obtain ⟨a, b, c⟩ := d2 i t hi hA
    obtain ⟨⟨e12, e11⟩, e13, e14, e15⟩ := hd i t hi hA
    exact ⟨a, by omega, ⟨by omega, fun k hk => (e13 k).trans (c.1.2.1 k hk), fun k hk => (e14 k).trans (c.1.2.2 k hk)⟩, fun k hk => (e15 k).trans (c.2 k hk)⟩
