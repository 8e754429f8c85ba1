def gh_QSp (B : Int) (sh : gz_Sh) (ro : Nat → Nat) (I : gr_I) (A : gc_A) (β : Int → Int) (η p : Int) (Ir : gr_I) (Jr : gr_J) (v : gz_S) (a s : Nat) : Prop := ∃ (z : Int) (sh' : gz_Sh) (ro' : Nat → Nat) (I' : gr_I) (J' : gr_J) (A' : gc_A), gz_fin cX6_readStatement (some .boolean) v (some (.inl z)) ∧ v.2.2.2.1 = sh' ∧ v.2.2.2.2 = gc_h sh' I' J' A' ∧ gh_RS B sh ro I A z a s sh' ro' I' J' A' ∧ (gs_SP β η p Ir Jr z I' J' A' ∧ gs_SCV β η p Ir Jr I A z I' A')
theorem gs_cn_0 {β : Int → Int} {N : Int} : ∀ (m : Nat) (q : Int), 0 ≤ gs_cn β N m q
  | 0, _ => by
    show (0 : Int) ≤ 0
    decide
  | m + 1, q => by
    have h := gs_cn_0 (β := β) (N := N) m (gs_X β N q)
    show 0 ≤ (if gs_T β N q = 1 then 1 + gs_cn β N m (gs_X β N q) else 0)
    by_cases c : gs_T β N q = 1
    · rw [if_pos c]
      omega
    · rw [if_neg c]
      exact Int.le_refl _
theorem gs_fz9 {I I' : gr_I} {q j : Nat} (h : ((q = 39 ∧ j = 3) ∨ (q = 39 ∧ j = 4) ∨ (q = 23 ∧ j = 5) ∨ (q = 23 ∧ j = 6) ∨ (q = 23 ∧ j = 7) ∨ (q = 23 ∧ j = 8) ∨ (q = 1 ∧ j = 5)) ∨ I' q j = I q j) (a : ¬ q = 39) (b : ¬ q = 23) (c : ¬ (q = 1 ∧ j = 5)) : I' q j = I q j := by
  rcases h with h | h
  · rcases h with h | h | h | h | h | h | h
    · exact absurd h.1 a
    · exact absurd h.1 a
    · exact absurd h.1 b
    · exact absurd h.1 b
    · exact absurd h.1 b
    · exact absurd h.1 b
    · exact absurd h c
  · exact h
/-- the store's tables, out of such frames -/
theorem gs_cG_9 {I I' : gr_I} {J J' : gr_J} (f : ∀ q j : Nat, ¬ q = 39 → ¬ q = 23 → ¬ (q = 1 ∧ j = 5) → I' q j = I q j) (g : ∀ q j : Nat, ¬ q = 23 → J' q j = J q j) (c : I' 1 5 = I 1 5) : gs_cG I J I' J' :=
  ⟨⟨f 2 1 (by decide) (by decide) (by decide), f 4 1 (by decide) (by decide) (by decide), f 6 1 (by decide) (by decide) (by decide), f 8 1 (by decide) (by decide) (by decide)⟩, fun k => ⟨g 3 k (by decide), g 5 k (by decide), g 7 k (by decide), g 9 k (by decide), g 18 k (by decide)⟩, ⟨f 1 13 (by decide) (by decide) (by decide), c⟩, fun k => ⟨f 11 k (by decide) (by decide) (fun h => absurd h.1 (by first | exact gz_ne rfl | decide)), f 12 k (by decide) (by decide) (fun h => absurd h.1 (by first | exact gz_ne rfl | decide)), f 13 k (by decide) (by decide) (fun h => absurd h.1 (by first | exact gz_ne rfl | decide)), f 15 k (by decide) (by decide) (fun h => absurd h.1 (by first | exact gz_ne rfl | decide)), f 19 k (by decide) (by decide) (fun h => absurd h.1 (by first | exact gz_ne rfl | decide)), f 14 k (by decide) (by decide) (fun h => absurd h.1 (by first | exact gz_ne rfl | decide))⟩⟩
set_option maxHeartbeats 8000000 in
/-- a new TONGUE: its tables are empty, on both sides -/
theorem gs_RT_0 {i t : Nat} {Ir : gr_I} {Jr : gr_J} {I : gr_I} {J : gr_J} {A : gc_A} (c : I (t + 1) 1 = 0 ∧ I (t + 3) 1 = 0 ∧ I (t + 7) 1 = 0 ∧ I (t + 11) 1 = 0 ∧ I t 6 = 0 ∧ I t 11 = 0 ∧ I t 13 = 0) (r : Ir 13 i = 0 ∧ Ir 14 i = 0 ∧ Ir 15 i = 0 ∧ Ir 16 i = 0 ∧ Ir 17 i = 0 ∧ Ir 18 i = 0 ∧ Ir 19 i = 0) : gs_RT (i : Int) t Ir Jr I J A := by
  obtain ⟨c1, c2, c3, c4, c5, c6, c7⟩ := c
  obtain ⟨r1, r2, r3, r4, r5, r6, r7⟩ := r
  have e : Int.toNat (i : Int) = i := by exact gz_m 0 (by omega)
  unfold gs_RT gs_T1 gs_T3 gs_T7 gs_TP gs_TL
  rw [e, c1, c2, c3, c4, c5, c6, c7, r1, r2, r3, r4, r5, r6, r7]
  refine ⟨⟨rfl, fun k h => absurd h (by exact gz_m 1 (by omega))⟩, ⟨⟨rfl, fun k h => absurd h (by exact gz_m 2 (by omega))⟩, fun k h0 h1 => absurd h1 (by exact gz_m 3 (by omega))⟩, ⟨rfl, fun k h => absurd h (by exact gz_m 4 (by omega))⟩, rfl, ⟨⟨rfl, fun k h => absurd h (by exact gz_m 5 (by omega))⟩, fun k h0 h1 => absurd h1 (by exact gz_m 6 (by omega))⟩, rfl, rfl, fun k q h => absurd h (by exact gz_m 7 (by omega)), fun x _ => ?_, fun k h => absurd h (by exact gz_m 8 (by omega))⟩
  show (0 : Int) ≤ 4
  decide
set_option maxHeartbeats 8000000 in
theorem gs_SP_80 {sh sh' : gz_Sh} {ro ro' : Nat → Nat} {I I' : gr_I} {J J' : gr_J} {A A' : gc_A} {Ir : gr_I} {Jr : gr_J} {β : Int → Int} {η p z B : Int} {a s : Nat} (hs : gh_HS sh ro I J A) (yR : gs_R I J A Ir Jr) (fA : 0 ≤ gs_A β η (gs_X β η p)) (eK : gs_rn β η p = gs_W 80) (eC : gs_stc β η Ir Jr p = gs_tong β η Ir Jr (I 39 5) (gs_X β η p)) (hR : gh_RS B sh ro I A z a s sh' ro' I' J' A') (hP : gs_RTp β η (gs_X β η p) Ir Jr sh I J A z I' J' A') : gs_SP β η p Ir Jr z I' J' A' := by
  unfold gs_SP
  rw [eC]
  refine ⟨fun h9 => ?_, fun h9 => ?_⟩
  · obtain ⟨c1, c2, rfl, c4, c5, c6⟩ := hP.1 h9
    have f : ∀ q j : Nat, ¬ q = 39 → ¬ q = 23 → ¬ (q = 1 ∧ j = 5) → I' q j = I q j := fun q j x y z => gs_fz9 (c5 q j) x y z
    have g : ∀ q j : Nat, ¬ q = 23 → J' q j = J q j := fun q j x => (c6 q j).resolve_left (fun h => x h.1)
    refine ⟨c1, c2, gs_R_same yR (gs_cG_9 f g c4) (fun i t hi ht => ⟨ht, ?_⟩)⟩
    exact gs_ct_s hs (fun q j h => f q j (by exact gz_m 0 (by omega)) (by exact gz_m 1 (by omega)) (by exact gz_m 2 (by omega))) (fun q j h => g q j (by exact gz_m 3 (by omega))) i t hi ht
  · obtain ⟨c1, c18, hc⟩ := hP.2 h9
    refine ⟨c1.1, c1.2, c18, fun Ir' Jr' hU => ?_⟩
    obtain ⟨⟨u1, u2⟩, ts⟩ := gs_STU_k hU 80 (by decide) eK
    have ra : gs_rA Ir Jr Ir' Jr' := gs_rA_ts ts rfl
    obtain ⟨rn2, rn4, rn6, rn8, rgf, rgk, rc5, rT, r00⟩ := id yR
    rcases hc with ⟨l0, l5, rfl, c5, c6⟩ | ⟨l0, l7, l5, pu, t, G, hA, hA9, hAf, hz, c5, c6⟩
    · obtain ⟨⟨v1, v2⟩, v6⟩ := u2 l0
      have f : ∀ q j : Nat, ¬ q = 39 → ¬ q = 23 → ¬ (q = 1 ∧ j = 5) → I' q j = I q j := fun q j x y z => gs_fz9 (c5 q j) x y z
      have g : ∀ q j : Nat, ¬ q = 23 → J' q j = J q j := fun q j x => (c6 q j).resolve_left (fun h => x h.1)
      have fr : ∀ q j : Nat, ¬ q = 39 → ¬ q = 23 → ¬ q = 1 → I' q j = I q j := fun q j x y z => f q j x y (fun h => z h.1)
      refine ⟨gs_GN_fr rn2 (fr 2 1 (by decide) (by decide) (by decide)) (fun k => g 3 k (by decide)) (ts.1 2 rfl rfl) (ts.2.2 2 rfl rfl), gs_GN_fr rn4 (fr 4 1 (by decide) (by decide) (by decide)) (fun k => g 5 k (by decide)) (ts.1 3 rfl rfl) (ts.2.2 3 rfl rfl), gs_GN_fr rn6 (fr 6 1 (by decide) (by decide) (by decide)) (fun k => g 7 k (by decide)) (ts.1 4 rfl rfl) (ts.2.2 4 rfl rfl), gs_GN_fr rn8 (fr 8 1 (by decide) (by decide) (by decide)) (fun k => g 9 k (by decide)) v1 v2, gs_GF_fr rgf (f 1 13 (by decide) (by decide) (by decide)) (fun k => g 18 k (by decide)) (fun k => fr 19 k (by decide) (by decide) (by decide)) (ts.1 5 rfl rfl) (fun k => ⟨ts.2.2 5 rfl rfl k, ts.2.1 11 rfl rfl k, ts.2.1 12 rfl rfl k⟩), gs_GK_fr rgk (fr 4 1 (by decide) (by decide) (by decide)) (fun k => fr 11 k (by decide) (by decide) (by decide)) (fun k => fr 12 k (by decide) (by decide) (by decide)) (fun k => fr 13 k (by decide) (by decide) (by decide)) (fun k => fr 15 k (by decide) (by decide) (by decide)) (fun k => ⟨ts.2.1 6 rfl rfl k, ts.2.1 7 rfl rfl k, ts.2.1 8 rfl rfl k, ts.2.1 10 rfl rfl k⟩) (fun k => fr 14 k (by decide) (by decide) (by decide)) (fun k => ts.2.1 9 rfl rfl k), l5.trans v6.symm, fun i t hi ht => ?_, gs_G0_fr r00 (by rw [v1]; exact Int.le_refl _) (fun i _ _ => ra.1 i)⟩
      have e8 : I' 8 1 = I 8 1 := fr 8 1 (by decide) (by decide) (by decide)
      exact gs_RT_fr (rT i t (by exact gz_m 4 (by omega)) ht) (gs_ct_s hs (fun q j h => fr q j (by exact gz_m 5 (by omega)) (by exact gz_m 6 (by omega)) (by exact gz_m 7 (by omega))) (fun q j h => g q j (by exact gz_m 8 (by omega))) i t (by exact gz_m 9 (by omega)) ht) ra
    · obtain ⟨v1, v6⟩ := u1 l0
      have h144 := gc_Base_len hs.1
      have i8 : 0 ≤ I 8 1 ∧ I 8 1 ≤ 8 := gc_in hs.2.1 (gc_bR hs.1 (by decide) rfl) rfl rfl
      have t1 := gs_al_p (gs_t_tong c1.1 fA)
      have pu3 := pu (show I 8 1 < ((8 : Nat) : Int) by exact gz_m 10 (by omega))
      have fr : ∀ q j : Nat, q < 144 → ¬ q = 39 → ¬ q = 23 → ¬ (q = 1 ∧ j = 5) → ¬ q = 8 → I' q j = I q j := fun q j x y z w v => (c5 q j (by exact gz_m 11 (by omega))).resolve_left (by exact gz_m 12 (by omega))
      have g : ∀ q j : Nat, q < sh.length → ¬ q = 23 → ¬ q = 9 → J' q j = J q j := fun q j x y z => (c6 q j x).resolve_left (by exact gz_m 13 (by omega))
      have e8 := rn8.1
      refine ⟨gs_GN_fr rn2 (fr 2 1 (by decide) (by decide) (by decide) (by decide) (by decide)) (fun k => g 3 k (by exact gz_m 14 (by omega)) (by decide) (by decide)) (ts.1 2 rfl rfl) (ts.2.2 2 rfl rfl), gs_GN_fr rn4 (fr 4 1 (by decide) (by decide) (by decide) (by decide) (by decide)) (fun k => g 5 k (by exact gz_m 15 (by omega)) (by decide) (by decide)) (ts.1 3 rfl rfl) (ts.2.2 3 rfl rfl), gs_GN_fr rn6 (fr 6 1 (by decide) (by decide) (by decide) (by decide) (by decide)) (fun k => g 7 k (by exact gz_m 16 (by omega)) (by decide) (by decide)) (ts.1 4 rfl rfl) (ts.2.2 4 rfl rfl), gs_GN_put (n := 8) rn8 i8.1 (by exact gz_m 17 (by omega)) pu v1 t1, gs_GF_fr rgf (fr 1 13 (by decide) (by decide) (by decide) (by decide) (by decide)) (fun k => g 18 k (by exact gz_m 18 (by omega)) (by decide) (by decide)) (fun k => fr 19 k (by decide) (by decide) (by decide) (fun h => absurd h.1 (by first | exact gz_ne rfl | decide)) (by decide)) (ts.1 5 rfl rfl) (fun k => ⟨ts.2.2 5 rfl rfl k, ts.2.1 11 rfl rfl k, ts.2.1 12 rfl rfl k⟩), gs_GK_fr rgk (fr 4 1 (by decide) (by decide) (by decide) (by decide) (by decide)) (fun k => fr 11 k (by decide) (by decide) (by decide) (fun h => absurd h.1 (by first | exact gz_ne rfl | decide)) (by decide)) (fun k => fr 12 k (by decide) (by decide) (by decide) (fun h => absurd h.1 (by first | exact gz_ne rfl | decide)) (by decide)) (fun k => fr 13 k (by decide) (by decide) (by decide) (fun h => absurd h.1 (by first | exact gz_ne rfl | decide)) (by decide)) (fun k => fr 15 k (by decide) (by decide) (by decide) (fun h => absurd h.1 (by first | exact gz_ne rfl | decide)) (by decide)) (fun k => ⟨ts.2.1 6 rfl rfl k, ts.2.1 7 rfl rfl k, ts.2.1 8 rfl rfl k, ts.2.1 10 rfl rfl k⟩) (fun k => fr 14 k (by decide) (by decide) (by decide) (fun h => absurd h.1 (by first | exact gz_ne rfl | decide)) (by decide)) (fun k => ts.2.1 9 rfl rfl k), by rw [l5, v6, e8], fun i t2 hi ht => ?_, gs_G0_fr r00 (by rw [v1.1]; exact gz_m 19 (by omega)) (fun i _ _ => ra.1 i)⟩
      by_cases c : i = Int.toNat (I 8 1)
      · rw [c] at ht
        have et : t = t2 := Option.some.inj (hA.symm.trans ht)
        rw [← et]
        refine gs_RT_0 hz ?_
        obtain ⟨d1, d2, d3, d4, d5, d6, d7⟩ := ra.1 i
        rw [d1, d2, d3, d4, d5, d6, d7]
        exact r00 i (by exact gz_m 20 (by omega)) (by exact gz_m 21 (by omega))
      · have hi2 : (i : Int) < I 8 1 := by exact gz_m 22 (by omega)
        have ht2 : A 10 i = some t2 := (hAf 10 i (by exact gz_m 23 (by omega)) (fun h => c h.2)).symm.trans ht
        obtain ⟨iT, G2⟩ := gs_hT9 hs hi2 ht2
        have bT := gs_bT_of hs.2.1 iT
        obtain ⟨S_t, R_t, B_t, A_t_0, h_t_1, A_t_1, h_t_3, A_t_2, S_t_5, R_t_5, B_t_5, A_t_3, S_t_6, R_t_6, B_t_6, A_t_4, h_t_7, A_t_5, S_t_9, R_t_9, B_t_9, A_t_7, S_t_10, R_t_10, B_t_10, A_t_8, h_t_11, A_t_9, S_t_13, R_t_13, B_t_13, A_t_10, S_t_14, R_t_14, B_t_14, A_t_12, S_t_15, R_t_15, B_t_15, A_t_14, S_t_16, R_t_16, B_t_16, A_t_15, h_t_17⟩ := id iT
        have l16 := gc_x_lt S_t_16
        have dj : t2 + 17 ≤ t ∨ t + 17 ≤ t2 := by
          rcases hA9 with h | h
          · have hT := hs.2.2.2.1.1 (Int.toNat (I 8 1)) t (by exact gz_m 24 (by omega)) h
            rcases gc_dj_TT iT hT.1 with e | e | e
            · rw [e] at ht2
              exact absurd (hs.2.2.2.1.2 i (Int.toNat (I 8 1)) t (by exact gz_m 25 (by omega)) (by exact gz_m 26 (by omega)) ht2 h) c
            · exact gz_m 27 (by omega)
            · exact gz_m 28 (by omega)
          · exact gz_m 29 (by omega)
        have fz : ∀ q j : Nat, t2 ≤ q → q < t2 + 17 → I' q j = I q j := fun q j h1 h2 => (c5 q j (by exact gz_m 30 (by omega))).resolve_left (by exact gz_m 31 (by omega))
        have gz : ∀ q j : Nat, t2 ≤ q → q < t2 + 17 → J' q j = J q j := fun q j h1 h2 => g q j (by exact gz_m 32 (by omega)) (by exact gz_m 33 (by omega)) (by exact gz_m 34 (by omega))
        refine gs_RT_fr (rT i t2 hi2 ht2) ⟨⟨fz _ _ (by exact gz_m 35 (by omega)) (by exact gz_m 36 (by omega)), fun k => gz _ _ (by exact gz_m 37 (by omega)) (by exact gz_m 38 (by omega))⟩, ⟨fz _ _ (by exact gz_m 39 (by omega)) (by exact gz_m 40 (by omega)), fun k => gz _ _ (by exact gz_m 41 (by omega)) (by exact gz_m 42 (by omega)), fun k => fz _ _ (by exact gz_m 43 (by omega)) (by exact gz_m 44 (by omega)), fun k => fz _ _ (by exact gz_m 45 (by omega)) (by exact gz_m 46 (by omega))⟩, ⟨fz _ _ (by exact gz_m 47 (by omega)) (by exact gz_m 48 (by omega)), fun k => gz _ _ (by exact gz_m 49 (by omega)) (by exact gz_m 50 (by omega))⟩, fz _ _ (by exact gz_m 51 (by omega)) (by exact gz_m 52 (by omega)), ⟨fz _ _ (by exact gz_m 53 (by omega)) (by exact gz_m 54 (by omega)), fun k => gz _ _ (by exact gz_m 55 (by omega)) (by exact gz_m 56 (by omega)), fun k => fz _ _ (by exact gz_m 57 (by omega)) (by exact gz_m 58 (by omega)), fun k => fz _ _ (by exact gz_m 59 (by omega)) (by exact gz_m 60 (by omega))⟩, fz _ _ (by exact gz_m 61 (by omega)) (by exact gz_m 62 (by omega)), fz _ _ (by exact gz_m 63 (by omega)) (by exact gz_m 64 (by omega)), fun k q hk hq => ?_⟩ ra
        have hq2 : A (t2 + 16) k = some q := (hAf (t2 + 16) k l16 (fun h => by have := h.1; exact gz_m 65 (by omega))).symm.trans hq
        obtain ⟨b1, b2⟩ := gs_hL9 hs hi2 ht2 k q hk hq2
        have ql := gc_x_lt b2.1
        refine ⟨hq2, (c5 q 1 ql).resolve_left ?_⟩
        rcases hA9 with h | h
        · have hT := hs.2.2.2.1.1 (Int.toNat (I 8 1)) t (by exact gz_m 66 (by omega)) h
          have dl := gc_dj_LT b2 hT.1
          exact gz_m 67 (by omega)
        · exact gz_m 68 (by omega)
set_option maxHeartbeats 8000000 in
set_option maxRecDepth 100000 in
theorem gh_rs1_p {ws0 : List Cond} {tb : String → gz_T} (hw : gc_Wn ws0) (hws : gc_Ws ws0) (htb : gc_tbs tb) {sh : gz_Sh} {ro : Nat → Nat} {I : gr_I} {J : gr_J} {A : gc_A} (v1 : Int64) (hs : gh_HS sh ro I J A) (B : Int) (x0 : B ≤ 1280 ∧ I 1 17 + I 23 1 ≤ B + I 23 5) (KLT_I : gc_LT I) (KTK_I : gc_TK I) (hlen : sh.length + 25 ≤ 1000000) (β : Int → Int) (η p : Int) (Ir : gr_I) (Jr : gr_J) (yT : gs_T β η p = 1) (yv : v1 = gs_M β η p) (yf : I 39 5 = gs_A β η p) (y1 : gc_AT β η (gs_X β η p) 23 I J) (y2 : 0 ≤ gs_X β η p) (y4 : I 1 18 = 0) (yR : gs_R I J A Ir Jr) (yS : gs_RV I A Ir) (k139 : ¬ gs_rn β η p = gs_W 80 → ¬ gs_rn β η p = gs_W 81 → ¬ gs_rn β η p = gs_W 82 → ¬ gs_rn β η p = gs_W 89 → ¬ gs_rn β η p = gs_W 90 → ¬ gs_rn β η p = gs_W 91 → gv_Y (gc_E6 ws0 tb 91 (yX6_readStatement, cX6_readStatement, 4, (some .boolean)) kX6_readStatement) (gh_QSp B sh ro I A β η p Ir Jr) (139, [(0, .inr (.inr (some 39))), (1, .inr (.inl v1))], [], sh, gc_h sh I J A)) : gv_Y (gc_E6 ws0 tb 91 (yX6_readStatement, cX6_readStatement, 4, (some .boolean)) kX6_readStatement) (gh_QSp B sh ro I A β η p Ir Jr) (47, [(0, .inr (.inr (some 39))), (1, .inr (.inl v1))], [], sh, gc_h sh I J A) := by
  have hb := hs.1
  have hI := hs.2.1
  have hok := hs.2.2.1
  have hcu := hs.2.2.2.2.2.2
  have h144 := gc_Base_len hb
  have i8 : 0 ≤ I 8 1 ∧ I 8 1 ≤ 8 := gc_in hI (gc_bR hb (by decide) rfl) rfl rfl
  have S39 : sh[39]? = some (false, 6, 19) := gc_bS_39 hb
  have S1 : sh[1]? = some (false, 8, 21) := gc_bS_1 hb
  have A39 : A 39 0 = some 1 := gc_bA_39_0 hb
  have hD : gv_D (gc_E6 ws0 tb 91 (yX6_readStatement, cX6_readStatement, 4, (some .boolean)) kX6_readStatement) := gq_of oX6_readStatement
  obtain ⟨rn2, rn4, rn6, rn8, rgf, rgk, rc5, rT, r00⟩ := id yR
  have fA : 0 ≤ gs_A β η (gs_X β η p) := by have h9 := (gc_AT_l y1).2.1; have h8 : 0 ≤ I 23 5 ∧ I 23 5 ≤ 1000 := gc_in hI (gc_bR hb (by decide) rfl) rfl rfl; exact gz_m 0 (by omega)
  have f47 := gw_cmp v1 (128021942465893)
  refine gv_lift (fun hk => gv_run 3 true hD (pc' := 52) (lv' := [(0, .inr (.inr (some 39))), (1, .inr (.inl v1))]) (st' := [.inl ((lg_cmp v1 (128021942465893)).toInt)]) (h' := gc_h sh I J A) (C := (((True ∧ True) ∧ True) ∧ True)) rfl ⟨⟨⟨trivial, trivial⟩, trivial⟩, trivial⟩ hk) ?_
  refine gv_YofX (gv_if_ne (t := 60) hD rfl rfl ⟨by exact gz_m 1 (by omega), by exact gz_m 2 (by omega)⟩ (fun c => gv_Xz ?_) (fun c => gv_Xz ?_))
  rotate_left
  · show gv_Y _ _ (55, [(0, .inr (.inr (some 39))), (1, .inr (.inl v1))], [], sh, gc_h sh I J A)
    refine gv_lift (fun hk => gv_run 1 true hD (pc' := 56) (lv' := [(0, .inr (.inr (some 39))), (1, .inr (.inl v1))]) (st' := [.inr (.inr (some 39))]) (h' := gc_h sh I J A) (C := (True ∧ True)) rfl ⟨trivial, trivial⟩ hk) ?_
    have eK : gs_rn β η p = gs_W 80 := (gs_al_eq (gs_al_p yT) (gs_W_al 80 (by decide) (by decide))).mp (yv.symm.trans (gs_cmp0 (a := v1) (b := 128021942465893) (by exact gz_m 3 (by omega))))
    obtain ⟨z, a, s, sh', ro', I', J', A', EV, hR, hP⟩ := e_X6_readTongue_p hw hws htb sh ro I J A hs B x0 β η (gs_X β η p) Ir Jr y1 y2 rn8 y4 KLT_I KTK_I hlen
    refine gc_YcallV hD (ix := 83) (M := (yX6_readTongue, cX6_readTongue, 4, (some .boolean))) (As := []) (b := 39) (st := []) rfl rfl (by decide) S39 rfl (gc_lV6 hws rfl) (Nat.le_of_ble_eq_true rfl) (gz_Ev_mono (d := 10) (by decide) EV) (gc_okc (Or.inl (by exact gz_m 4 (by omega))) (gc_okc trivial gc_ok0)) gc_ok0 ?_
    have eC : gs_stc β η Ir Jr p = gs_tong β η Ir Jr (I 39 5) (gs_X β η p) := by rw [yf]; exact (if_pos yT).trans (gs_stk_80 eK)
    have sp : (gs_SP β η p Ir Jr z I' J' A' ∧ gs_SCV β η p Ir Jr I A z I' A') := ⟨gs_SP_80 hs yR fA eK eC hR hP, gs_SCV_80 hs hR hP⟩
    exact gv_Yend ⟨z, sh', ro', I', J', A', Or.inr (Or.inl ⟨z, .boolean, hD 59 _ rfl, rfl, Or.inr ⟨rfl, by have := hR.1; exact gz_m 5 (by omega)⟩, rfl, rfl⟩), rfl, rfl, hR, sp⟩
  have n80 : ¬ gs_rn β η p = gs_W 80 := fun e9 => gs_cmpn (a := v1) (b := 128021942465893) (by exact gz_m 6 (by omega)) (yv.trans ((gs_al_eq (gs_al_p yT) (gs_W_al 80 (by decide) (by decide))).mpr e9))
  show gv_Y _ _ (60, [(0, .inr (.inr (some 39))), (1, .inr (.inl v1))], [], sh, gc_h sh I J A)
  have f60 := gw_cmp v1 (1802071652)
  refine gv_lift (fun hk => gv_run 3 true hD (pc' := 65) (lv' := [(0, .inr (.inr (some 39))), (1, .inr (.inl v1))]) (st' := [.inl ((lg_cmp v1 (1802071652)).toInt)]) (h' := gc_h sh I J A) (C := (((True ∧ True) ∧ True) ∧ True)) rfl ⟨⟨⟨trivial, trivial⟩, trivial⟩, trivial⟩ hk) ?_
  refine gv_YofX (gv_if_ne (t := 80) hD rfl rfl ⟨by exact gz_m 7 (by omega), by exact gz_m 8 (by omega)⟩ (fun c => gv_Xz ?_) (fun c => gv_Xz ?_))
  rotate_left
  · show gv_Y _ _ (68, [(0, .inr (.inr (some 39))), (1, .inr (.inl v1))], [], sh, gc_h sh I J A)
    refine gv_lift (fun hk => gv_run 2 true hD (pc' := 70) (lv' := [(0, .inr (.inr (some 39))), (1, .inr (.inl v1))]) (st' := [.inr (.inr (some 39)), .inr (.inr (some 39))]) (h' := gc_h sh I J A) (C := ((True ∧ True) ∧ True)) rfl ⟨⟨trivial, trivial⟩, trivial⟩ hk) ?_
    refine gv_lift (fun hk => gv_get hD rfl rfl S39 ⟨by decide, by decide⟩ (gc_hA S39 rfl A39) hk) ?_
    refine gv_lift (fun hk => gv_get hD rfl rfl S1 ⟨by decide, by decide⟩ (gc_hA S1 rfl (show A 1 0 = some 2 from gc_bA hb rfl)) hk) ?_
    have eK : gs_rn β η p = gs_W 81 := (gs_al_eq (gs_al_p yT) (gs_W_al 81 (by decide) (by decide))).mp (yv.symm.trans (gs_cmp0 (a := v1) (b := 1802071652) (by exact gz_m 9 (by omega))))
    obtain ⟨r9, h9, E9, P9⟩ := d_X6_readNewName_a_p hws htb sh ro I J A hI 32 9 β η (gs_X β η p) Ir Jr 2 2 2 hb (gc_b2 hb) y1 y2 y4 rn2.1 rn2.2 KLT_I KTK_I
    obtain ⟨I', J', rfl, hI', g, k, KE_LT, KE_TK, z, rfl, z0, z1, p0, p1, p2, p3⟩ := P9
    refine gv_lift (fun hk => gv_callV hD rfl (As := [.inr (.inr (some 2))]) (st := []) rfl (by decide) S39 rfl (gc_lV6 hws rfl) (Nat.le_of_ble_eq_true rfl) (gz_Ev_mono (d := 5) (by decide) E9) hk) ?_
    have ok9 : gc_OK sh I' J' A := gc_OK_fr hok (fun q j => (g q j).imp (fun h => by
        rcases h with ⟨rfl, rfl⟩ | ⟨rfl, rfl⟩ | ⟨rfl, rfl⟩ | ⟨rfl, rfl⟩ | ⟨rfl, rfl⟩ | ⟨rfl, rfl⟩ | ⟨rfl, rfl⟩
        · exact ⟨gc_x_lt (gc_bS hb (p := 39) rfl), gc_tyx (gc_bS hb (p := 39) rfl)⟩
        · exact ⟨gc_x_lt (gc_bS hb (p := 39) rfl), gc_tyx (gc_bS hb (p := 39) rfl)⟩
        · exact ⟨gc_x_lt (gc_bS hb (p := 23) rfl), gc_tyx (gc_bS hb (p := 23) rfl)⟩
        · exact ⟨gc_x_lt (gc_bS hb (p := 23) rfl), gc_tyx (gc_bS hb (p := 23) rfl)⟩
        · exact ⟨gc_x_lt (gc_bS hb (p := 23) rfl), gc_tyx (gc_bS hb (p := 23) rfl)⟩
        · exact ⟨gc_x_lt (gc_bS hb (p := 23) rfl), gc_tyx (gc_bS hb (p := 23) rfl)⟩
        · exact ⟨gc_x_lt (gc_bS hb (p := 2) rfl), gc_tyx (gc_bS hb (p := 2) rfl)⟩
        ) id) (fun q j => (k q j).imp (fun h => by first | exact False.elim h | exact gz_m 10 (by omega)) id)
    have fz : ∀ q j : Nat, ¬ ((q = 39 ∧ j = 3) ∨ (q = 39 ∧ j = 4) ∨ (q = 23 ∧ j = 5) ∨ (q = 23 ∧ j = 6) ∨ (q = 23 ∧ j = 7) ∨ (q = 23 ∧ j = 8) ∨ (q = 2 ∧ j = 1)) → I' q j = I q j := fun q j h => (g q j).resolve_left h
    have gz : ∀ q j : Nat, ¬ ((q = 23 ∧ j = 9) ∨ q = 3) → J' q j = J q j := fun q j h => (k q j).resolve_left h
    have h17 := fz 1 17 (by exact gz_m 11 (by omega))
    have fu : gh_FU I I' := gh_FU_of (fz 4 1 (by exact gz_m 12 (by omega))) (fun j => fz 11 j (by exact gz_m 13 (by omega))) (fun j => fz 12 j (by exact gz_m 14 (by omega))) (fun j => fz 13 j (by exact gz_m 15 (by omega)))
    have me : gh_ME I I' := gh_ME_of (fun j => fz 15 j (by exact gz_m 16 (by omega))) (fun j => fz 16 j (by exact gz_m 17 (by omega)))
    have hh := gh_HS_s hs hI' ok9 (fun q j _ => (g q j).imp (fun h => by unfold gh_mw; exact gz_m 18 (by omega)) id) (fun q j h1 => fz q j (by exact gz_m 19 (by omega))) (fz 8 1 (by exact gz_m 20 (by omega))) (by have := fz 1 5 (by exact gz_m 21 (by omega)); exact gz_m 22 (by omega)) (p2) fu me (gh_MS_st hs.2.2.2.2.2.1 fu (fun j => fz 15 j (by exact gz_m 23 (by omega))) (fun j => fz 16 j (by exact gz_m 24 (by omega))))
    have ct := gs_ct_s (I' := I') (J' := J') hs (fun q j h1 => fz q j (by exact gz_m 25 (by omega))) (fun q j h1 => gz q j (by exact gz_m 26 (by omega)))
    have eC : gs_stc β η Ir Jr p = gs_new β η Ir Jr 2 2 ((32 : Nat) : Int) (I 39 5) (gs_X β η p) := by rw [yf]; exact (if_pos yT).trans (gs_stk_81 eK)
    have sp : gs_SP β η p Ir Jr z I' J' A := by
      unfold gs_SP
      rw [eC]
      refine ⟨fun h9 => ?_, fun h9 => ?_⟩
      · obtain ⟨c1, c2, d1, d2⟩ := gs_or0 p3 h9
        exact ⟨c1, c2, gs_R_same yR ⟨⟨d1, (fz 4 1 (by exact gz_m 27 (by omega))), (fz 6 1 (by exact gz_m 28 (by omega))), (fz 8 1 (by exact gz_m 29 (by omega)))⟩, (fun k9 => ⟨(d2 k9), (gz 5 k9 (by exact gz_m 30 (by omega))), (gz 7 k9 (by exact gz_m 31 (by omega))), (gz 9 k9 (by exact gz_m 32 (by omega))), (gz 18 k9 (by exact gz_m 33 (by omega)))⟩), ⟨(fz 1 13 (by exact gz_m 34 (by omega))), (fz 1 5 (by exact gz_m 35 (by omega)))⟩, fun k9 => ⟨(fz 11 k9 (by exact gz_m 36 (by omega))), (fz 12 k9 (by exact gz_m 37 (by omega))), (fz 13 k9 (by exact gz_m 38 (by omega))), (fz 15 k9 (by exact gz_m 39 (by omega))), (fz 19 k9 (by exact gz_m 40 (by omega))), (fz 14 k9 (by exact gz_m 41 (by omega)))⟩⟩ (fun i t hi ht => ⟨ht, ct i t hi ht⟩)⟩
      · obtain ⟨c1, c2, s1, s2⟩ := gs_or1 p3 (by exact gz_m 42 (by omega))
        have t1 := gs_al_p (gs_t_new c1 fA)
        refine ⟨c1, c2, (fz 1 18 (by exact gz_m 43 (by omega))).trans y4, fun Ir' Jr' hU => ?_⟩
        obtain ⟨u1, ts⟩ := gs_STU_k hU 81 (by decide) eK
        exact gs_R_glob yR (gs_GN_put (n := 32) rn2 (gc_b_9_1 hI (gc_bR_2 hb)).1 s2 s1 u1 t1) (gs_GN_fr rn4 (fz 4 1 (by exact gz_m 44 (by omega))) (fun k9 => (gz 5 k9 (by exact gz_m 45 (by omega)))) (ts.1 3 rfl rfl) (ts.2.2 3 rfl rfl)) (gs_GN_fr rn6 (fz 6 1 (by exact gz_m 46 (by omega))) (fun k9 => (gz 7 k9 (by exact gz_m 47 (by omega)))) (ts.1 4 rfl rfl) (ts.2.2 4 rfl rfl)) (fz 8 1 (by exact gz_m 48 (by omega))) (fun k9 => (gz 9 k9 (by exact gz_m 49 (by omega)))) (gs_GF_fr rgf (fz 1 13 (by exact gz_m 50 (by omega))) (fun k9 => (gz 18 k9 (by exact gz_m 51 (by omega)))) (fun k9 => (fz 19 k9 (by exact gz_m 52 (by omega)))) (ts.1 5 rfl rfl) (fun k9 => ⟨ts.2.2 5 rfl rfl k9, ts.2.1 11 rfl rfl k9, ts.2.1 12 rfl rfl k9⟩)) (gs_GK_fr rgk (fz 4 1 (by exact gz_m 53 (by omega))) (fun k9 => (fz 11 k9 (by exact gz_m 54 (by omega)))) (fun k9 => (fz 12 k9 (by exact gz_m 55 (by omega)))) (fun k9 => (fz 13 k9 (by exact gz_m 56 (by omega)))) (fun k9 => (fz 15 k9 (by exact gz_m 57 (by omega)))) (fun k9 => ⟨ts.2.1 6 rfl rfl k9, ts.2.1 7 rfl rfl k9, ts.2.1 8 rfl rfl k9, ts.2.1 10 rfl rfl k9⟩) (fun k9 => (fz 14 k9 (by exact gz_m 58 (by omega)))) (fun k9 => ts.2.1 9 rfl rfl k9)) (fz 1 5 (by exact gz_m 59 (by omega))) ct (gs_rA_ts ts rfl) (ts.1 1 rfl rfl) (ts.1 6 rfl rfl) (ts.2.2 1 rfl rfl)
    have sc : gs_SCV β η p Ir Jr I A z I' A := gs_SCV_s hs (gc_PKs_fr gc_PKs_rf (fz 1 17 (by exact gz_m 60 (by omega))) (fun k9 => fz 20 k9 (by exact gz_m 61 (by omega)))) (fz 8 1 (by exact gz_m 62 (by omega))) (fun q j h1 => fz q j (by exact gz_m 63 (by omega)))
    exact gv_Yend ⟨z, sh, ro, I', J', A, Or.inr (Or.inl ⟨z, .boolean, hD 79 _ rfl, rfl, Or.inr ⟨rfl, by exact gz_m 64 (by omega)⟩, rfl, rfl⟩), rfl, rfl, ⟨⟨z0, z1⟩, hh.1, hh.2, KE_LT, KE_TK, ⟨p0, p1, by exact gz_m 65 (by omega), fun k9 => fz 21 k9 (by exact gz_m 66 (by omega))⟩, ⟨by exact gz_m 67 (by omega), by exact gz_m 68 (by omega), by exact gz_m 69 (by omega)⟩⟩, ⟨sp, sc⟩⟩
  have n81 : ¬ gs_rn β η p = gs_W 81 := fun e9 => gs_cmpn (a := v1) (b := 1802071652) (by exact gz_m 70 (by omega)) (yv.trans ((gs_al_eq (gs_al_p yT) (gs_W_al 81 (by decide) (by decide))).mpr e9))
  show gv_Y _ _ (80, [(0, .inr (.inr (some 39))), (1, .inr (.inl v1))], [], sh, gc_h sh I J A)
  have f80 := gw_cmp v1 (6714734)
  refine gv_lift (fun hk => gv_run 3 true hD (pc' := 85) (lv' := [(0, .inr (.inr (some 39))), (1, .inr (.inl v1))]) (st' := [.inl ((lg_cmp v1 (6714734)).toInt)]) (h' := gc_h sh I J A) (C := (((True ∧ True) ∧ True) ∧ True)) rfl ⟨⟨⟨trivial, trivial⟩, trivial⟩, trivial⟩ hk) ?_
  refine gv_YofX (gv_if_ne (t := 93) hD rfl rfl ⟨by exact gz_m 71 (by omega), by exact gz_m 72 (by omega)⟩ (fun c => gv_Xz ?_) (fun c => gv_Xz ?_))
  rotate_left
  · show gv_Y _ _ (88, [(0, .inr (.inr (some 39))), (1, .inr (.inl v1))], [], sh, gc_h sh I J A)
    refine gv_lift (fun hk => gv_run 1 true hD (pc' := 89) (lv' := [(0, .inr (.inr (some 39))), (1, .inr (.inl v1))]) (st' := [.inr (.inr (some 39))]) (h' := gc_h sh I J A) (C := (True ∧ True)) rfl ⟨trivial, trivial⟩ hk) ?_
    have eK : gs_rn β η p = gs_W 82 := (gs_al_eq (gs_al_p yT) (gs_W_al 82 (by decide) (by decide))).mp (yv.symm.trans (gs_cmp0 (a := v1) (b := 6714734) (by exact gz_m 73 (by omega))))
    obtain ⟨r9, h9, E9, P9⟩ := d_X6_readFun_a_p hws htb sh ro I J A hI β η (gs_X β η p) Ir Jr hb y1 y2 y4 rn4.1 rn4.2 rn2.1 rn2.2 KLT_I KTK_I
    obtain ⟨I', J', rfl, hI', g, k, KE_LT, KE_TK, z, rfl, z0, z1, p0, p1, p2, p3, p4⟩ := P9
    refine gv_lift (fun hk => gv_callV hD rfl (As := []) (st := []) rfl (by decide) S39 rfl (gc_lV6 hws rfl) (Nat.le_of_ble_eq_true rfl) (gz_Ev_mono (d := 5) (by decide) E9) hk) ?_
    have ok9 : gc_OK sh I' J' A := gc_OK_fr hok (fun q j => (g q j).imp (fun h => by
        rcases h with ⟨rfl, rfl⟩ | ⟨rfl, rfl⟩ | ⟨rfl, rfl⟩ | ⟨rfl, rfl⟩ | ⟨rfl, rfl⟩ | ⟨rfl, rfl⟩ | ⟨rfl, rfl⟩ | rfl | ⟨rfl, rfl⟩ | ⟨rfl, h9⟩ | ⟨rfl, h9⟩ | ⟨rfl, h9⟩ | rfl
        · exact ⟨gc_x_lt (gc_bS hb (p := 39) rfl), gc_tyx (gc_bS hb (p := 39) rfl)⟩
        · exact ⟨gc_x_lt (gc_bS hb (p := 39) rfl), gc_tyx (gc_bS hb (p := 39) rfl)⟩
        · exact ⟨gc_x_lt (gc_bS hb (p := 23) rfl), gc_tyx (gc_bS hb (p := 23) rfl)⟩
        · exact ⟨gc_x_lt (gc_bS hb (p := 23) rfl), gc_tyx (gc_bS hb (p := 23) rfl)⟩
        · exact ⟨gc_x_lt (gc_bS hb (p := 23) rfl), gc_tyx (gc_bS hb (p := 23) rfl)⟩
        · exact ⟨gc_x_lt (gc_bS hb (p := 23) rfl), gc_tyx (gc_bS hb (p := 23) rfl)⟩
        · exact ⟨gc_x_lt (gc_bS hb (p := 39) rfl), gc_tyx (gc_bS hb (p := 39) rfl)⟩
        · exact ⟨gc_x_lt (gc_bS hb (p := 41) rfl), gc_tyx (gc_bS hb (p := 41) rfl)⟩
        · exact ⟨gc_x_lt (gc_bS hb (p := 4) rfl), gc_tyx (gc_bS hb (p := 4) rfl)⟩
        · exact ⟨gc_x_lt (gc_bS hb (p := 11) rfl), gc_tyx (gc_bS hb (p := 11) rfl)⟩
        · exact ⟨gc_x_lt (gc_bS hb (p := 12) rfl), gc_tyx (gc_bS hb (p := 12) rfl)⟩
        · exact ⟨gc_x_lt (gc_bS hb (p := 13) rfl), gc_tyx (gc_bS hb (p := 13) rfl)⟩
        · exact ⟨gc_x_lt (gc_bS hb (p := 14) rfl), gc_tyx (gc_bS hb (p := 14) rfl)⟩
        ) id) (fun q j => (k q j).imp (fun h => by first | exact False.elim h | exact gz_m 74 (by omega)) id)
    have fz : ∀ q j : Nat, ¬ ((q = 39 ∧ j = 3) ∨ (q = 39 ∧ j = 4) ∨ (q = 23 ∧ j = 5) ∨ (q = 23 ∧ j = 6) ∨ (q = 23 ∧ j = 7) ∨ (q = 23 ∧ j = 8) ∨ (q = 39 ∧ j = 7) ∨ q = 41 ∨ (q = 4 ∧ j = 1) ∨ (q = 11 ∧ (I 4 1 ≤ (j : Int))) ∨ (q = 12 ∧ (I 4 1 ≤ (j : Int))) ∨ (q = 13 ∧ (4 * I 4 1 ≤ (j : Int))) ∨ q = 14) → I' q j = I q j := fun q j h => (g q j).resolve_left h
    have gz : ∀ q j : Nat, ¬ ((q = 23 ∧ j = 9) ∨ q = 5) → J' q j = J q j := fun q j h => (k q j).resolve_left h
    have h17 := fz 1 17 (by exact gz_m 75 (by omega))
    have fu : gh_FU I I' := ⟨p2, fun j hj => ⟨fz 11 j (by exact gz_m 76 (by omega)), fz 12 j (by exact gz_m 77 (by omega))⟩, fun j hj => fz 13 j (by exact gz_m 78 (by omega))⟩
    have me : gh_ME I I' := gh_ME_of (fun j => fz 15 j (by exact gz_m 79 (by omega))) (fun j => fz 16 j (by exact gz_m 80 (by omega)))
    have hh := gh_HS_s hs hI' ok9 (fun q j _ => (g q j).imp (fun h => by unfold gh_mw; exact gz_m 81 (by omega)) id) (fun q j h1 => fz q j (by exact gz_m 82 (by omega))) (fz 8 1 (by exact gz_m 83 (by omega))) (by have := fz 1 5 (by exact gz_m 84 (by omega)); exact gz_m 85 (by omega)) (by have := fz 2 1 (by exact gz_m 86 (by omega)); exact gz_m 87 (by omega)) fu me (gh_MS_st hs.2.2.2.2.2.1 fu (fun j => fz 15 j (by exact gz_m 88 (by omega))) (fun j => fz 16 j (by exact gz_m 89 (by omega))))
    have ct := gs_ct_s (I' := I') (J' := J') hs (fun q j h1 => fz q j (by exact gz_m 90 (by omega))) (fun q j h1 => gz q j (by exact gz_m 91 (by omega)))
    have eC : gs_stc β η Ir Jr p = gs_fun β η Ir Jr (I 39 5) (gs_X β η p) := by rw [yf]; exact (if_pos yT).trans (gs_stk_82 eK)
    have n0 : 0 ≤ gs_cn β η 5 (gs_need β η 58 (gs_X β η (gs_X β η p))) := gs_cn_0 _ _
    have sp : gs_SP β η p Ir Jr z I' J' A := by
      unfold gs_SP
      rw [eC]
      refine ⟨fun h9 => ?_, fun h9 => ?_⟩
      · obtain ⟨c1, c2, d1, d2⟩ := gs_or0 p4 h9
        exact ⟨c1, c2, gs_R_same yR ⟨⟨(fz 2 1 (by exact gz_m 92 (by omega))), d1, (fz 6 1 (by exact gz_m 93 (by omega))), (fz 8 1 (by exact gz_m 94 (by omega)))⟩, (fun k9 => ⟨(gz 3 k9 (by exact gz_m 95 (by omega))), (d2 k9).1, (gz 7 k9 (by exact gz_m 96 (by omega))), (gz 9 k9 (by exact gz_m 97 (by omega))), (gz 18 k9 (by exact gz_m 98 (by omega)))⟩), ⟨(fz 1 13 (by exact gz_m 99 (by omega))), (fz 1 5 (by exact gz_m 100 (by omega)))⟩, fun k9 => ⟨(d2 k9).2.1, (d2 k9).2.2.1, (d2 k9).2.2.2.1, (fz 15 k9 (by exact gz_m 101 (by omega))), (fz 19 k9 (by exact gz_m 102 (by omega))), (d2 k9).2.2.2.2⟩⟩ (fun i t hi ht => ⟨ht, ct i t hi ht⟩)⟩
      · obtain ⟨c1, c2, s1⟩ := gs_or1 p4 (by exact gz_m 103 (by omega))
        have t1 := gs_al_p (gs_t_fun c1 fA)
        refine ⟨c1, c2, (fz 1 18 (by exact gz_m 104 (by omega))).trans y4, fun Ir' Jr' hU => ?_⟩
        obtain ⟨u1, ts⟩ := gs_STU_k hU 82 (by decide) eK
        exact gs_R_glob yR (gs_GN_fr rn2 (fz 2 1 (by exact gz_m 105 (by omega))) (fun k9 => (gz 3 k9 (by exact gz_m 106 (by omega)))) (ts.1 2 rfl rfl) (ts.2.2 2 rfl rfl)) (gs_GN_fun rn4 (gc_b_11_1 hI (gc_bR_4 hb)).1 s1.1 u1.1 t1) (gs_GN_fr rn6 (fz 6 1 (by exact gz_m 107 (by omega))) (fun k9 => (gz 7 k9 (by exact gz_m 108 (by omega)))) (ts.1 4 rfl rfl) (ts.2.2 4 rfl rfl)) (fz 8 1 (by exact gz_m 109 (by omega))) (fun k9 => (gz 9 k9 (by exact gz_m 110 (by omega)))) (gs_GF_fr rgf (fz 1 13 (by exact gz_m 111 (by omega))) (fun k9 => (gz 18 k9 (by exact gz_m 112 (by omega)))) (fun k9 => (fz 19 k9 (by exact gz_m 113 (by omega)))) (ts.1 5 rfl rfl) (fun k9 => ⟨ts.2.2 5 rfl rfl k9, ts.2.1 11 rfl rfl k9, ts.2.1 12 rfl rfl k9⟩)) (gs_GK_fun rgk rn4.1 (gc_b_11_1 hI (gc_bR_4 hb)).1 n0 (fun k9 => (gc_b_26 hI (gc_bR_12 hb) k9).2) (fun f hf => fun h0 => by have h8 := (gc_b_11_1 hI (gc_bR_4 hb)); by_cases c96 : f < 96; (have h7 := hs.2.2.2.2.2.1 f c96 h0; exact gz_m 114 (by omega)); (have h6 : I 4 1 < 96 := (by have h5 := s1.1.1.1; have h4 : 0 ≤ I' 4 1 ∧ I' 4 1 ≤ 96 := gc_in hI' (gc_bR hb (by decide) rfl) rfl rfl; exact gz_m 115 (by omega)); exact gz_m 116 (by omega))) (fun k9 => fz 15 k9 (by exact gz_m 117 (by omega))) s1.1 u1.1 s1.2 u1.2) (fz 1 5 (by exact gz_m 118 (by omega))) ct (gs_rA_ts ts rfl) (ts.1 1 rfl rfl) (ts.1 6 rfl rfl) (ts.2.2 1 rfl rfl)
    have sc : gs_SCV β η p Ir Jr I A z I' A := gs_SCV_s hs (gc_PKs_fr gc_PKs_rf (fz 1 17 (by exact gz_m 119 (by omega))) (fun k9 => fz 20 k9 (by exact gz_m 120 (by omega)))) (fz 8 1 (by exact gz_m 121 (by omega))) (fun q j h1 => fz q j (by exact gz_m 122 (by omega)))
    exact gv_Yend ⟨z, sh, ro, I', J', A, Or.inr (Or.inl ⟨z, .boolean, hD 92 _ rfl, rfl, Or.inr ⟨rfl, by exact gz_m 123 (by omega)⟩, rfl, rfl⟩), rfl, rfl, ⟨⟨z0, z1⟩, hh.1, hh.2, KE_LT, KE_TK, ⟨p0, p1, by exact gz_m 124 (by omega), fun k9 => fz 21 k9 (by exact gz_m 125 (by omega))⟩, ⟨by exact gz_m 126 (by omega), by exact gz_m 127 (by omega), by exact gz_m 128 (by omega)⟩⟩, ⟨sp, sc⟩⟩
  have n82 : ¬ gs_rn β η p = gs_W 82 := fun e9 => gs_cmpn (a := v1) (b := 6714734) (by exact gz_m 129 (by omega)) (yv.trans ((gs_al_eq (gs_al_p yT) (gs_W_al 82 (by decide) (by decide))).mpr e9))
  show gv_Y _ _ (93, [(0, .inr (.inr (some 39))), (1, .inr (.inl v1))], [], sh, gc_h sh I J A)
  have f93 := gw_cmp v1 (1835360622)
  refine gv_lift (fun hk => gv_run 3 true hD (pc' := 98) (lv' := [(0, .inr (.inr (some 39))), (1, .inr (.inl v1))]) (st' := [.inl ((lg_cmp v1 (1835360622)).toInt)]) (h' := gc_h sh I J A) (C := (((True ∧ True) ∧ True) ∧ True)) rfl ⟨⟨⟨trivial, trivial⟩, trivial⟩, trivial⟩ hk) ?_
  refine gv_YofX (gv_if_ne (t := 106) hD rfl rfl ⟨by exact gz_m 130 (by omega), by exact gz_m 131 (by omega)⟩ (fun c => gv_Xz ?_) (fun c => gv_Xz ?_))
  rotate_left
  · show gv_Y _ _ (101, [(0, .inr (.inr (some 39))), (1, .inr (.inl v1))], [], sh, gc_h sh I J A)
    refine gv_lift (fun hk => gv_run 1 true hD (pc' := 102) (lv' := [(0, .inr (.inr (some 39))), (1, .inr (.inl v1))]) (st' := [.inr (.inr (some 39))]) (h' := gc_h sh I J A) (C := (True ∧ True)) rfl ⟨trivial, trivial⟩ hk) ?_
    have eK : gs_rn β η p = gs_W 89 := (gs_al_eq (gs_al_p yT) (gs_W_al 89 (by decide) (by decide))).mp (yv.symm.trans (gs_cmp0 (a := v1) (b := 1835360622) (by exact gz_m 132 (by omega))))
    obtain ⟨r9, h9, E9, P9⟩ := d_X6_readMean_a_p hws htb sh ro I J A hI β η (gs_X β η p) Ir Jr hb y1 y2 y4 rgk.1 rgk.2.2.1 rn4.1 rn4.2 KLT_I KTK_I hs.2.2.2.2.2.1
    obtain ⟨I', J', rfl, hI', g, k, KE_LT, KE_TK, KE_MS, z, rfl, z0, z1, p0, p1, p2⟩ := P9
    refine gv_lift (fun hk => gv_callV hD rfl (As := []) (st := []) rfl (by decide) S39 rfl (gc_lV6 hws rfl) (Nat.le_of_ble_eq_true rfl) (gz_Ev_mono (d := 91) (by decide) E9) hk) ?_
    have ok9 : gc_OK sh I' J' A := gc_OK_fr hok (fun q j => (g q j).imp (fun h => by
        rcases h with ⟨rfl, rfl⟩ | ⟨rfl, rfl⟩ | ⟨rfl, rfl⟩ | ⟨rfl, rfl⟩ | ⟨rfl, rfl⟩ | ⟨rfl, rfl⟩ | ⟨rfl, rfl⟩ | ⟨rfl, rfl⟩ | rfl | ⟨rfl, h9⟩ | ⟨rfl, h9⟩
        · exact ⟨gc_x_lt (gc_bS hb (p := 39) rfl), gc_tyx (gc_bS hb (p := 39) rfl)⟩
        · exact ⟨gc_x_lt (gc_bS hb (p := 39) rfl), gc_tyx (gc_bS hb (p := 39) rfl)⟩
        · exact ⟨gc_x_lt (gc_bS hb (p := 23) rfl), gc_tyx (gc_bS hb (p := 23) rfl)⟩
        · exact ⟨gc_x_lt (gc_bS hb (p := 23) rfl), gc_tyx (gc_bS hb (p := 23) rfl)⟩
        · exact ⟨gc_x_lt (gc_bS hb (p := 23) rfl), gc_tyx (gc_bS hb (p := 23) rfl)⟩
        · exact ⟨gc_x_lt (gc_bS hb (p := 23) rfl), gc_tyx (gc_bS hb (p := 23) rfl)⟩
        · exact ⟨gc_x_lt (gc_bS hb (p := 39) rfl), gc_tyx (gc_bS hb (p := 39) rfl)⟩
        · exact ⟨gc_x_lt (gc_bS hb (p := 39) rfl), gc_tyx (gc_bS hb (p := 39) rfl)⟩
        · exact ⟨gc_x_lt (gc_bS hb (p := 43) rfl), gc_tyx (gc_bS hb (p := 43) rfl)⟩
        · exact ⟨gc_x_lt (gc_bS hb (p := 15) rfl), gc_tyx (gc_bS hb (p := 15) rfl)⟩
        · exact ⟨gc_x_lt (gc_bS hb (p := 16) rfl), gc_tyx (gc_bS hb (p := 16) rfl)⟩
        ) id) (fun q j => (k q j).imp (fun h => by first | exact False.elim h | exact gz_m 133 (by omega)) id)
    have fz : ∀ q j : Nat, ¬ ((q = 39 ∧ j = 3) ∨ (q = 39 ∧ j = 4) ∨ (q = 23 ∧ j = 5) ∨ (q = 23 ∧ j = 6) ∨ (q = 23 ∧ j = 7) ∨ (q = 23 ∧ j = 8) ∨ (q = 39 ∧ j = 12) ∨ (q = 39 ∧ j = 15) ∨ q = 43 ∨ (q = 15 ∧ (I 15 j ≤ 0)) ∨ (q = 16 ∧ (I 15 (j / 40) ≤ 0))) → I' q j = I q j := fun q j h => (g q j).resolve_left h
    have gz : ∀ q j : Nat, ¬ ((q = 23 ∧ j = 9) ∨ q = 44 ∨ q = 45 ∨ q = 17) → J' q j = J q j := fun q j h => (k q j).resolve_left h
    have h17 := fz 1 17 (by exact gz_m 134 (by omega))
    have fu : gh_FU I I' := gh_FU_of (fz 4 1 (by exact gz_m 135 (by omega))) (fun j => fz 11 j (by exact gz_m 136 (by omega))) (fun j => fz 12 j (by exact gz_m 137 (by omega))) (fun j => fz 13 j (by exact gz_m 138 (by omega)))
    have me : gh_ME I I' := fun f _ hf => ⟨fz 15 f (by exact gz_m 139 (by omega)), fun k9 hk9 => fz 16 (f * 40 + k9) (by rw [show (f * 40 + k9) / 40 = f from by exact gz_m 140 (by omega)]; exact gz_m 141 (by omega))⟩
    have hh := gh_HS_s hs hI' ok9 (fun q j _ => (g q j).imp (fun h => by unfold gh_mw; exact gz_m 142 (by omega)) id) (fun q j h1 => fz q j (by exact gz_m 143 (by omega))) (fz 8 1 (by exact gz_m 144 (by omega))) (by have := fz 1 5 (by exact gz_m 145 (by omega)); exact gz_m 146 (by omega)) (by have := fz 2 1 (by exact gz_m 147 (by omega)); exact gz_m 148 (by omega)) fu me (KE_MS)
    have ct := gs_ct_s (I' := I') (J' := J') hs (fun q j h1 => fz q j (by exact gz_m 149 (by omega))) (fun q j h1 => gz q j (by exact gz_m 150 (by omega)))
    have eC : gs_stc β η Ir Jr p = gs_mn β η Ir Jr (I 39 5) (gs_X β η p) := by rw [yf]; exact (if_pos yT).trans (gs_stk_89 eK)
    have sp : gs_SP β η p Ir Jr z I' J' A := by
      unfold gs_SP
      rw [eC]
      refine ⟨fun h9 => ?_, fun h9 => ?_⟩
      · obtain ⟨c1, c2, d1⟩ := gs_or0 p2 h9
        exact ⟨c1, c2, gs_R_same yR ⟨⟨(fz 2 1 (by exact gz_m 151 (by omega))), (fz 4 1 (by exact gz_m 152 (by omega))), (fz 6 1 (by exact gz_m 153 (by omega))), (fz 8 1 (by exact gz_m 154 (by omega)))⟩, (fun k9 => ⟨(gz 3 k9 (by exact gz_m 155 (by omega))), (gz 5 k9 (by exact gz_m 156 (by omega))), (gz 7 k9 (by exact gz_m 157 (by omega))), (gz 9 k9 (by exact gz_m 158 (by omega))), (gz 18 k9 (by exact gz_m 159 (by omega)))⟩), ⟨(fz 1 13 (by exact gz_m 160 (by omega))), (fz 1 5 (by exact gz_m 161 (by omega)))⟩, fun k9 => ⟨(fz 11 k9 (by exact gz_m 162 (by omega))), (fz 12 k9 (by exact gz_m 163 (by omega))), (fz 13 k9 (by exact gz_m 164 (by omega))), (d1 k9), (fz 19 k9 (by exact gz_m 165 (by omega))), (fz 14 k9 (by exact gz_m 166 (by omega)))⟩⟩ (fun i t hi ht => ⟨ht, ct i t hi ht⟩)⟩
      · obtain ⟨c1, c2, s1⟩ := gs_or1 p2 (by exact gz_m 167 (by omega))
        refine ⟨c1, c2, (fz 1 18 (by exact gz_m 168 (by omega))).trans y4, fun Ir' Jr' hU => ?_⟩
        obtain ⟨u1, ts⟩ := gs_STU_k hU 89 (by decide) eK
        exact gs_R_glob yR (gs_GN_fr rn2 (fz 2 1 (by exact gz_m 169 (by omega))) (fun k9 => (gz 3 k9 (by exact gz_m 170 (by omega)))) (ts.1 2 rfl rfl) (ts.2.2 2 rfl rfl)) (gs_GN_fr rn4 (fz 4 1 (by exact gz_m 171 (by omega))) (fun k9 => (gz 5 k9 (by exact gz_m 172 (by omega)))) (ts.1 3 rfl rfl) (ts.2.2 3 rfl rfl)) (gs_GN_fr rn6 (fz 6 1 (by exact gz_m 173 (by omega))) (fun k9 => (gz 7 k9 (by exact gz_m 174 (by omega)))) (ts.1 4 rfl rfl) (ts.2.2 4 rfl rfl)) (fz 8 1 (by exact gz_m 175 (by omega))) (fun k9 => (gz 9 k9 (by exact gz_m 176 (by omega)))) (gs_GF_fr rgf (fz 1 13 (by exact gz_m 177 (by omega))) (fun k9 => (gz 18 k9 (by exact gz_m 178 (by omega)))) (fun k9 => (fz 19 k9 (by exact gz_m 179 (by omega)))) (ts.1 5 rfl rfl) (fun k9 => ⟨ts.2.2 5 rfl rfl k9, ts.2.1 11 rfl rfl k9, ts.2.1 12 rfl rfl k9⟩)) (gs_GK_mean rgk (fz 4 1 (by exact gz_m 180 (by omega))) (fun k9 => (fz 11 k9 (by exact gz_m 181 (by omega)))) (fun k9 => (fz 12 k9 (by exact gz_m 182 (by omega)))) (fun k9 => (fz 13 k9 (by exact gz_m 183 (by omega)))) (fun k9 => ⟨ts.2.1 6 rfl rfl k9, ts.2.1 7 rfl rfl k9, ts.2.1 8 rfl rfl k9⟩) s1 u1 (fun k9 => (fz 14 k9 (by exact gz_m 184 (by omega)))) (fun k9 => ts.2.1 9 rfl rfl k9)) (fz 1 5 (by exact gz_m 185 (by omega))) ct (gs_rA_ts ts rfl) (ts.1 1 rfl rfl) (ts.1 6 rfl rfl) (ts.2.2 1 rfl rfl)
    have sc : gs_SCV β η p Ir Jr I A z I' A := gs_SCV_s hs (gc_PKs_fr gc_PKs_rf (fz 1 17 (by exact gz_m 186 (by omega))) (fun k9 => fz 20 k9 (by exact gz_m 187 (by omega)))) (fz 8 1 (by exact gz_m 188 (by omega))) (fun q j h1 => fz q j (by exact gz_m 189 (by omega)))
    exact gv_Yend ⟨z, sh, ro, I', J', A, Or.inr (Or.inl ⟨z, .boolean, hD 105 _ rfl, rfl, Or.inr ⟨rfl, by exact gz_m 190 (by omega)⟩, rfl, rfl⟩), rfl, rfl, ⟨⟨z0, z1⟩, hh.1, hh.2, KE_LT, KE_TK, ⟨p0, p1, by exact gz_m 191 (by omega), fun k9 => fz 21 k9 (by exact gz_m 192 (by omega))⟩, ⟨by exact gz_m 193 (by omega), by exact gz_m 194 (by omega), by exact gz_m 195 (by omega)⟩⟩, ⟨sp, sc⟩⟩
  have n89 : ¬ gs_rn β η p = gs_W 89 := fun e9 => gs_cmpn (a := v1) (b := 1835360622) (by exact gz_m 196 (by omega)) (yv.trans ((gs_al_eq (gs_al_p yT) (gs_W_al 89 (by decide) (by decide))).mpr e9))
  show gv_Y _ _ (106, [(0, .inr (.inr (some 39))), (1, .inr (.inl v1))], [], sh, gc_h sh I J A)
  have f106 := gw_cmp v1 (499967946343)
  refine gv_lift (fun hk => gv_run 3 true hD (pc' := 111) (lv' := [(0, .inr (.inr (some 39))), (1, .inr (.inl v1))]) (st' := [.inl ((lg_cmp v1 (499967946343)).toInt)]) (h' := gc_h sh I J A) (C := (((True ∧ True) ∧ True) ∧ True)) rfl ⟨⟨⟨trivial, trivial⟩, trivial⟩, trivial⟩ hk) ?_
  refine gv_YofX (gv_if_ne (t := 126) hD rfl rfl ⟨by exact gz_m 197 (by omega), by exact gz_m 198 (by omega)⟩ (fun c => gv_Xz ?_) (fun c => gv_Xz ?_))
  rotate_left
  · show gv_Y _ _ (114, [(0, .inr (.inr (some 39))), (1, .inr (.inl v1))], [], sh, gc_h sh I J A)
    refine gv_lift (fun hk => gv_run 2 true hD (pc' := 116) (lv' := [(0, .inr (.inr (some 39))), (1, .inr (.inl v1))]) (st' := [.inr (.inr (some 39)), .inr (.inr (some 39))]) (h' := gc_h sh I J A) (C := ((True ∧ True) ∧ True)) rfl ⟨⟨trivial, trivial⟩, trivial⟩ hk) ?_
    refine gv_lift (fun hk => gv_get hD rfl rfl S39 ⟨by decide, by decide⟩ (gc_hA S39 rfl A39) hk) ?_
    refine gv_lift (fun hk => gv_get hD rfl rfl S1 ⟨by decide, by decide⟩ (gc_hA S1 rfl (show A 1 2 = some 6 from gc_bA hb rfl)) hk) ?_
    have eK : gs_rn β η p = gs_W 90 := (gs_al_eq (gs_al_p yT) (gs_W_al 90 (by decide) (by decide))).mp (yv.symm.trans (gs_cmp0 (a := v1) (b := 499967946343) (by exact gz_m 199 (by omega))))
    obtain ⟨r9, h9, E9, P9⟩ := d_X6_readNewName_a_p hws htb sh ro I J A hI 8 6 β η (gs_X β η p) Ir Jr 4 4 6 hb (gc_b6 hb) y1 y2 y4 rn6.1 rn6.2 KLT_I KTK_I
    obtain ⟨I', J', rfl, hI', g, k, KE_LT, KE_TK, z, rfl, z0, z1, p0, p1, p2, p3⟩ := P9
    refine gv_lift (fun hk => gv_callV hD rfl (As := [.inr (.inr (some 6))]) (st := []) rfl (by decide) S39 rfl (gc_lV6 hws rfl) (Nat.le_of_ble_eq_true rfl) (gz_Ev_mono (d := 5) (by decide) E9) hk) ?_
    have ok9 : gc_OK sh I' J' A := gc_OK_fr hok (fun q j => (g q j).imp (fun h => by
        rcases h with ⟨rfl, rfl⟩ | ⟨rfl, rfl⟩ | ⟨rfl, rfl⟩ | ⟨rfl, rfl⟩ | ⟨rfl, rfl⟩ | ⟨rfl, rfl⟩ | ⟨rfl, rfl⟩
        · exact ⟨gc_x_lt (gc_bS hb (p := 39) rfl), gc_tyx (gc_bS hb (p := 39) rfl)⟩
        · exact ⟨gc_x_lt (gc_bS hb (p := 39) rfl), gc_tyx (gc_bS hb (p := 39) rfl)⟩
        · exact ⟨gc_x_lt (gc_bS hb (p := 23) rfl), gc_tyx (gc_bS hb (p := 23) rfl)⟩
        · exact ⟨gc_x_lt (gc_bS hb (p := 23) rfl), gc_tyx (gc_bS hb (p := 23) rfl)⟩
        · exact ⟨gc_x_lt (gc_bS hb (p := 23) rfl), gc_tyx (gc_bS hb (p := 23) rfl)⟩
        · exact ⟨gc_x_lt (gc_bS hb (p := 23) rfl), gc_tyx (gc_bS hb (p := 23) rfl)⟩
        · exact ⟨gc_x_lt (gc_bS hb (p := 6) rfl), gc_tyx (gc_bS hb (p := 6) rfl)⟩
        ) id) (fun q j => (k q j).imp (fun h => by first | exact False.elim h | exact gz_m 200 (by omega)) id)
    have fz : ∀ q j : Nat, ¬ ((q = 39 ∧ j = 3) ∨ (q = 39 ∧ j = 4) ∨ (q = 23 ∧ j = 5) ∨ (q = 23 ∧ j = 6) ∨ (q = 23 ∧ j = 7) ∨ (q = 23 ∧ j = 8) ∨ (q = 6 ∧ j = 1)) → I' q j = I q j := fun q j h => (g q j).resolve_left h
    have gz : ∀ q j : Nat, ¬ ((q = 23 ∧ j = 9) ∨ q = 7) → J' q j = J q j := fun q j h => (k q j).resolve_left h
    have h17 := fz 1 17 (by exact gz_m 201 (by omega))
    have fu : gh_FU I I' := gh_FU_of (fz 4 1 (by exact gz_m 202 (by omega))) (fun j => fz 11 j (by exact gz_m 203 (by omega))) (fun j => fz 12 j (by exact gz_m 204 (by omega))) (fun j => fz 13 j (by exact gz_m 205 (by omega)))
    have me : gh_ME I I' := gh_ME_of (fun j => fz 15 j (by exact gz_m 206 (by omega))) (fun j => fz 16 j (by exact gz_m 207 (by omega)))
    have hh := gh_HS_s hs hI' ok9 (fun q j _ => (g q j).imp (fun h => by unfold gh_mw; exact gz_m 208 (by omega)) id) (fun q j h1 => fz q j (by exact gz_m 209 (by omega))) (fz 8 1 (by exact gz_m 210 (by omega))) (by have := fz 1 5 (by exact gz_m 211 (by omega)); exact gz_m 212 (by omega)) (by have := fz 2 1 (by exact gz_m 213 (by omega)); exact gz_m 214 (by omega)) fu me (gh_MS_st hs.2.2.2.2.2.1 fu (fun j => fz 15 j (by exact gz_m 215 (by omega))) (fun j => fz 16 j (by exact gz_m 216 (by omega))))
    have ct := gs_ct_s (I' := I') (J' := J') hs (fun q j h1 => fz q j (by exact gz_m 217 (by omega))) (fun q j h1 => gz q j (by exact gz_m 218 (by omega)))
    have eC : gs_stc β η Ir Jr p = gs_new β η Ir Jr 4 4 ((8 : Nat) : Int) (I 39 5) (gs_X β η p) := by rw [yf]; exact (if_pos yT).trans (gs_stk_90 eK)
    have sp : gs_SP β η p Ir Jr z I' J' A := by
      unfold gs_SP
      rw [eC]
      refine ⟨fun h9 => ?_, fun h9 => ?_⟩
      · obtain ⟨c1, c2, d1, d2⟩ := gs_or0 p3 h9
        exact ⟨c1, c2, gs_R_same yR ⟨⟨(fz 2 1 (by exact gz_m 219 (by omega))), (fz 4 1 (by exact gz_m 220 (by omega))), d1, (fz 8 1 (by exact gz_m 221 (by omega)))⟩, (fun k9 => ⟨(gz 3 k9 (by exact gz_m 222 (by omega))), (gz 5 k9 (by exact gz_m 223 (by omega))), (d2 k9), (gz 9 k9 (by exact gz_m 224 (by omega))), (gz 18 k9 (by exact gz_m 225 (by omega)))⟩), ⟨(fz 1 13 (by exact gz_m 226 (by omega))), (fz 1 5 (by exact gz_m 227 (by omega)))⟩, fun k9 => ⟨(fz 11 k9 (by exact gz_m 228 (by omega))), (fz 12 k9 (by exact gz_m 229 (by omega))), (fz 13 k9 (by exact gz_m 230 (by omega))), (fz 15 k9 (by exact gz_m 231 (by omega))), (fz 19 k9 (by exact gz_m 232 (by omega))), (fz 14 k9 (by exact gz_m 233 (by omega)))⟩⟩ (fun i t hi ht => ⟨ht, ct i t hi ht⟩)⟩
      · obtain ⟨c1, c2, s1, s2⟩ := gs_or1 p3 (by exact gz_m 234 (by omega))
        have t1 := gs_al_p (gs_t_new c1 fA)
        refine ⟨c1, c2, (fz 1 18 (by exact gz_m 235 (by omega))).trans y4, fun Ir' Jr' hU => ?_⟩
        obtain ⟨u1, ts⟩ := gs_STU_k hU 90 (by decide) eK
        exact gs_R_glob yR (gs_GN_fr rn2 (fz 2 1 (by exact gz_m 236 (by omega))) (fun k9 => (gz 3 k9 (by exact gz_m 237 (by omega)))) (ts.1 2 rfl rfl) (ts.2.2 2 rfl rfl)) (gs_GN_fr rn4 (fz 4 1 (by exact gz_m 238 (by omega))) (fun k9 => (gz 5 k9 (by exact gz_m 239 (by omega)))) (ts.1 3 rfl rfl) (ts.2.2 3 rfl rfl)) (gs_GN_put (n := 8) rn6 (gc_b_6_1 hI (gc_bR_6 hb)).1 s2 s1 u1 t1) (fz 8 1 (by exact gz_m 240 (by omega))) (fun k9 => (gz 9 k9 (by exact gz_m 241 (by omega)))) (gs_GF_fr rgf (fz 1 13 (by exact gz_m 242 (by omega))) (fun k9 => (gz 18 k9 (by exact gz_m 243 (by omega)))) (fun k9 => (fz 19 k9 (by exact gz_m 244 (by omega)))) (ts.1 5 rfl rfl) (fun k9 => ⟨ts.2.2 5 rfl rfl k9, ts.2.1 11 rfl rfl k9, ts.2.1 12 rfl rfl k9⟩)) (gs_GK_fr rgk (fz 4 1 (by exact gz_m 245 (by omega))) (fun k9 => (fz 11 k9 (by exact gz_m 246 (by omega)))) (fun k9 => (fz 12 k9 (by exact gz_m 247 (by omega)))) (fun k9 => (fz 13 k9 (by exact gz_m 248 (by omega)))) (fun k9 => (fz 15 k9 (by exact gz_m 249 (by omega)))) (fun k9 => ⟨ts.2.1 6 rfl rfl k9, ts.2.1 7 rfl rfl k9, ts.2.1 8 rfl rfl k9, ts.2.1 10 rfl rfl k9⟩) (fun k9 => (fz 14 k9 (by exact gz_m 250 (by omega)))) (fun k9 => ts.2.1 9 rfl rfl k9)) (fz 1 5 (by exact gz_m 251 (by omega))) ct (gs_rA_ts ts rfl) (ts.1 1 rfl rfl) (ts.1 6 rfl rfl) (ts.2.2 1 rfl rfl)
    have sc : gs_SCV β η p Ir Jr I A z I' A := gs_SCV_s hs (gc_PKs_fr gc_PKs_rf (fz 1 17 (by exact gz_m 252 (by omega))) (fun k9 => fz 20 k9 (by exact gz_m 253 (by omega)))) (fz 8 1 (by exact gz_m 254 (by omega))) (fun q j h1 => fz q j (by exact gz_m 255 (by omega)))
    exact gv_Yend ⟨z, sh, ro, I', J', A, Or.inr (Or.inl ⟨z, .boolean, hD 125 _ rfl, rfl, Or.inr ⟨rfl, by exact gz_m 256 (by omega)⟩, rfl, rfl⟩), rfl, rfl, ⟨⟨z0, z1⟩, hh.1, hh.2, KE_LT, KE_TK, ⟨p0, p1, by exact gz_m 257 (by omega), fun k9 => fz 21 k9 (by exact gz_m 258 (by omega))⟩, ⟨by exact gz_m 259 (by omega), by exact gz_m 260 (by omega), by exact gz_m 261 (by omega)⟩⟩, ⟨sp, sc⟩⟩
  have n90 : ¬ gs_rn β η p = gs_W 90 := fun e9 => gs_cmpn (a := v1) (b := 499967946343) (by exact gz_m 262 (by omega)) (yv.trans ((gs_al_eq (gs_al_p yT) (gs_W_al 90 (by decide) (by decide))).mpr e9))
  show gv_Y _ _ (126, [(0, .inr (.inr (some 39))), (1, .inr (.inl v1))], [], sh, gc_h sh I J A)
  have f126 := gw_cmp v1 (1717658484)
  refine gv_lift (fun hk => gv_run 3 true hD (pc' := 131) (lv' := [(0, .inr (.inr (some 39))), (1, .inr (.inl v1))]) (st' := [.inl ((lg_cmp v1 (1717658484)).toInt)]) (h' := gc_h sh I J A) (C := (((True ∧ True) ∧ True) ∧ True)) rfl ⟨⟨⟨trivial, trivial⟩, trivial⟩, trivial⟩ hk) ?_
  refine gv_YofX (gv_if_ne (t := 139) hD rfl rfl ⟨by exact gz_m 263 (by omega), by exact gz_m 264 (by omega)⟩ (fun c => gv_Xz ?_) (fun c => gv_Xz ?_))
  rotate_left
  · show gv_Y _ _ (134, [(0, .inr (.inr (some 39))), (1, .inr (.inl v1))], [], sh, gc_h sh I J A)
    refine gv_lift (fun hk => gv_run 1 true hD (pc' := 135) (lv' := [(0, .inr (.inr (some 39))), (1, .inr (.inl v1))]) (st' := [.inr (.inr (some 39))]) (h' := gc_h sh I J A) (C := (True ∧ True)) rfl ⟨trivial, trivial⟩ hk) ?_
    have eK : gs_rn β η p = gs_W 91 := (gs_al_eq (gs_al_p yT) (gs_W_al 91 (by decide) (by decide))).mp (yv.symm.trans (gs_cmp0 (a := v1) (b := 1717658484) (by exact gz_m 265 (by omega))))
    obtain ⟨r9, h9, E9, P9⟩ := d_X6_readFact_p hws htb sh ro I J A hI β η (gs_X β η p) Ir Jr hb y1 y2 y4 rgf.1 rgf.2 rn6.1 rn6.2 KLT_I KTK_I
    obtain ⟨I', J', rfl, hI', g, k, KE_LT, KE_TK, z, rfl, z0, z1, p0, p1, p2⟩ := P9
    refine gv_lift (fun hk => gv_callV hD rfl (As := []) (st := []) rfl (by decide) S39 rfl (gc_lV6 hws rfl) (Nat.le_of_ble_eq_true rfl) (gz_Ev_mono (d := 5) (by decide) E9) hk) ?_
    have ok9 : gc_OK sh I' J' A := gc_OK_fr hok (fun q j => (g q j).imp (fun h => by
        rcases h with ⟨rfl, rfl⟩ | ⟨rfl, rfl⟩ | ⟨rfl, rfl⟩ | ⟨rfl, rfl⟩ | ⟨rfl, rfl⟩ | ⟨rfl, rfl⟩ | rfl | ⟨rfl, rfl⟩
        · exact ⟨gc_x_lt (gc_bS hb (p := 39) rfl), gc_tyx (gc_bS hb (p := 39) rfl)⟩
        · exact ⟨gc_x_lt (gc_bS hb (p := 39) rfl), gc_tyx (gc_bS hb (p := 39) rfl)⟩
        · exact ⟨gc_x_lt (gc_bS hb (p := 23) rfl), gc_tyx (gc_bS hb (p := 23) rfl)⟩
        · exact ⟨gc_x_lt (gc_bS hb (p := 23) rfl), gc_tyx (gc_bS hb (p := 23) rfl)⟩
        · exact ⟨gc_x_lt (gc_bS hb (p := 23) rfl), gc_tyx (gc_bS hb (p := 23) rfl)⟩
        · exact ⟨gc_x_lt (gc_bS hb (p := 23) rfl), gc_tyx (gc_bS hb (p := 23) rfl)⟩
        · exact ⟨gc_x_lt (gc_bS hb (p := 19) rfl), gc_tyx (gc_bS hb (p := 19) rfl)⟩
        · exact ⟨gc_x_lt (gc_bS hb (p := 1) rfl), gc_tyx (gc_bS hb (p := 1) rfl)⟩
        ) id) (fun q j => (k q j).imp (fun h => by first | exact False.elim h | exact gz_m 266 (by omega)) id)
    have fz : ∀ q j : Nat, ¬ ((q = 39 ∧ j = 3) ∨ (q = 39 ∧ j = 4) ∨ (q = 23 ∧ j = 5) ∨ (q = 23 ∧ j = 6) ∨ (q = 23 ∧ j = 7) ∨ (q = 23 ∧ j = 8) ∨ q = 19 ∨ (q = 1 ∧ j = 13)) → I' q j = I q j := fun q j h => (g q j).resolve_left h
    have gz : ∀ q j : Nat, ¬ ((q = 23 ∧ j = 9) ∨ q = 18) → J' q j = J q j := fun q j h => (k q j).resolve_left h
    have h17 := fz 1 17 (by exact gz_m 267 (by omega))
    have fu : gh_FU I I' := gh_FU_of (fz 4 1 (by exact gz_m 268 (by omega))) (fun j => fz 11 j (by exact gz_m 269 (by omega))) (fun j => fz 12 j (by exact gz_m 270 (by omega))) (fun j => fz 13 j (by exact gz_m 271 (by omega)))
    have me : gh_ME I I' := gh_ME_of (fun j => fz 15 j (by exact gz_m 272 (by omega))) (fun j => fz 16 j (by exact gz_m 273 (by omega)))
    have hh := gh_HS_s hs hI' ok9 (fun q j _ => (g q j).imp (fun h => by unfold gh_mw; exact gz_m 274 (by omega)) id) (fun q j h1 => fz q j (by exact gz_m 275 (by omega))) (fz 8 1 (by exact gz_m 276 (by omega))) (by have := fz 1 5 (by exact gz_m 277 (by omega)); exact gz_m 278 (by omega)) (by have := fz 2 1 (by exact gz_m 279 (by omega)); exact gz_m 280 (by omega)) fu me (gh_MS_st hs.2.2.2.2.2.1 fu (fun j => fz 15 j (by exact gz_m 281 (by omega))) (fun j => fz 16 j (by exact gz_m 282 (by omega))))
    have ct := gs_ct_s (I' := I') (J' := J') hs (fun q j h1 => fz q j (by exact gz_m 283 (by omega))) (fun q j h1 => gz q j (by exact gz_m 284 (by omega)))
    have eC : gs_stc β η Ir Jr p = gs_fact β η Ir Jr (I 39 5) (gs_X β η p) := by rw [yf]; exact (if_pos yT).trans (gs_stk_91 eK)
    have sp : gs_SP β η p Ir Jr z I' J' A := by
      unfold gs_SP
      rw [eC]
      refine ⟨fun h9 => ?_, fun h9 => ?_⟩
      · obtain ⟨c1, c2, d1, d2, d3⟩ := gs_or0 p2 h9
        exact ⟨c1, c2, gs_R_same yR ⟨⟨(fz 2 1 (by exact gz_m 285 (by omega))), (fz 4 1 (by exact gz_m 286 (by omega))), (fz 6 1 (by exact gz_m 287 (by omega))), (fz 8 1 (by exact gz_m 288 (by omega)))⟩, (fun k9 => ⟨(gz 3 k9 (by exact gz_m 289 (by omega))), (gz 5 k9 (by exact gz_m 290 (by omega))), (gz 7 k9 (by exact gz_m 291 (by omega))), (gz 9 k9 (by exact gz_m 292 (by omega))), (d2 k9)⟩), ⟨d1, (fz 1 5 (by exact gz_m 293 (by omega)))⟩, fun k9 => ⟨(fz 11 k9 (by exact gz_m 294 (by omega))), (fz 12 k9 (by exact gz_m 295 (by omega))), (fz 13 k9 (by exact gz_m 296 (by omega))), (fz 15 k9 (by exact gz_m 297 (by omega))), (d3 k9), (fz 14 k9 (by exact gz_m 298 (by omega)))⟩⟩ (fun i t hi ht => ⟨ht, ct i t hi ht⟩)⟩
      · obtain ⟨c1, c2, s1⟩ := gs_or1 p2 (by exact gz_m 299 (by omega))
        have t1 := gs_al_p (gs_t_fact c1 fA)
        refine ⟨c1, c2, (fz 1 18 (by exact gz_m 300 (by omega))).trans y4, fun Ir' Jr' hU => ?_⟩
        obtain ⟨u1, ts⟩ := gs_STU_k hU 91 (by decide) eK
        exact gs_R_glob yR (gs_GN_fr rn2 (fz 2 1 (by exact gz_m 301 (by omega))) (fun k9 => (gz 3 k9 (by exact gz_m 302 (by omega)))) (ts.1 2 rfl rfl) (ts.2.2 2 rfl rfl)) (gs_GN_fr rn4 (fz 4 1 (by exact gz_m 303 (by omega))) (fun k9 => (gz 5 k9 (by exact gz_m 304 (by omega)))) (ts.1 3 rfl rfl) (ts.2.2 3 rfl rfl)) (gs_GN_fr rn6 (fz 6 1 (by exact gz_m 305 (by omega))) (fun k9 => (gz 7 k9 (by exact gz_m 306 (by omega)))) (ts.1 4 rfl rfl) (ts.2.2 4 rfl rfl)) (fz 8 1 (by exact gz_m 307 (by omega))) (fun k9 => (gz 9 k9 (by exact gz_m 308 (by omega)))) (gs_GF_put rgf (gc_b_22_13 hI (gc_bR_1 hb)).1 s1 u1 t1) (gs_GK_fr rgk (fz 4 1 (by exact gz_m 309 (by omega))) (fun k9 => (fz 11 k9 (by exact gz_m 310 (by omega)))) (fun k9 => (fz 12 k9 (by exact gz_m 311 (by omega)))) (fun k9 => (fz 13 k9 (by exact gz_m 312 (by omega)))) (fun k9 => (fz 15 k9 (by exact gz_m 313 (by omega)))) (fun k9 => ⟨ts.2.1 6 rfl rfl k9, ts.2.1 7 rfl rfl k9, ts.2.1 8 rfl rfl k9, ts.2.1 10 rfl rfl k9⟩) (fun k9 => (fz 14 k9 (by exact gz_m 314 (by omega)))) (fun k9 => ts.2.1 9 rfl rfl k9)) (fz 1 5 (by exact gz_m 315 (by omega))) ct (gs_rA_ts ts rfl) (ts.1 1 rfl rfl) (ts.1 6 rfl rfl) (ts.2.2 1 rfl rfl)
    have sc : gs_SCV β η p Ir Jr I A z I' A := gs_SCV_s hs (gc_PKs_fr gc_PKs_rf (fz 1 17 (by exact gz_m 316 (by omega))) (fun k9 => fz 20 k9 (by exact gz_m 317 (by omega)))) (fz 8 1 (by exact gz_m 318 (by omega))) (fun q j h1 => fz q j (by exact gz_m 319 (by omega)))
    exact gv_Yend ⟨z, sh, ro, I', J', A, Or.inr (Or.inl ⟨z, .boolean, hD 138 _ rfl, rfl, Or.inr ⟨rfl, by exact gz_m 320 (by omega)⟩, rfl, rfl⟩), rfl, rfl, ⟨⟨z0, z1⟩, hh.1, hh.2, KE_LT, KE_TK, ⟨p0, p1, by exact gz_m 321 (by omega), fun k9 => fz 21 k9 (by exact gz_m 322 (by omega))⟩, ⟨by exact gz_m 323 (by omega), by exact gz_m 324 (by omega), by exact gz_m 325 (by omega)⟩⟩, ⟨sp, sc⟩⟩
  have n91 : ¬ gs_rn β η p = gs_W 91 := fun e9 => gs_cmpn (a := v1) (b := 1717658484) (by exact gz_m 326 (by omega)) (yv.trans ((gs_al_eq (gs_al_p yT) (gs_W_al 91 (by decide) (by decide))).mpr e9))
  exact k139 n80 n81 n82 n89 n90 n91
