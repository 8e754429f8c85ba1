set_option maxHeartbeats 8000000 in
theorem gs_SP_88 {sh sh' : gz_Sh} {ro ro' : Nat → Nat} {I I' : gr_I} {J J' : gr_J} {A A' : gc_A} {Ir : gr_I} {Jr : gr_J} {β : Int → Int} {η p z B : Int} {a s i t : Nat} (hs : gh_HS sh ro I J A) (yR : gs_R I J A Ir Jr) (hi : (i : Int) < I 8 1) (ht : A 10 i = some t) (c6 : Ir 0 6 = (i : Int)) (eK : gs_rn β η p = gs_W 88) (eC : gs_stc β η Ir Jr p = gs_lin β η Ir Jr (I 39 5) (gs_X β η p)) (hR : gc_RL B sh ro I J A t z a s sh' ro' I' J' A') (hP : gs_RLp β η (gs_X β η p) Ir Jr I t z I' J' A') : gs_SP β η p Ir Jr z I' J' A' := by
  have hRT := yR.2.2.2.2.2.2.2.1 i t hi ht
  have h144 := gc_Base_len hs.1
  obtain ⟨iT, G⟩ := gs_hT9 hs hi ht
  have bT := gs_bT_of hs.2.1 iT
  obtain ⟨hz, hcn, hln, hx, hI', hok', hLT, hTK, fr, frJ, hrd, hres⟩ := hR
  have f : ∀ q j : Nat, q < sh.length → ¬ q = 39 → ¬ q = 23 → ¬ (q = 1 ∧ (j = 17 ∨ j = 18)) → ¬ q = 20 → ¬ (q = t ∧ j = 13) → I' q j = I q j := fun q j a b c d e g => (fr q j a).resolve_left (by exact gz_m 0 (by omega))
  have g : ∀ q j : Nat, q < sh.length → ¬ q = 23 → J' q j = J q j := fun q j a b => (frJ q j a).resolve_left (by exact gz_m 1 (by omega))
  have cg : gs_cG I J I' J' := ⟨⟨f 2 1 (by exact gz_m 2 (by omega)) (by decide) (by decide) (by exact gz_m 3 (by omega)) (by decide) (by exact gz_m 4 (by omega)), f 4 1 (by exact gz_m 5 (by omega)) (by decide) (by decide) (by exact gz_m 6 (by omega)) (by decide) (by exact gz_m 7 (by omega)), f 6 1 (by exact gz_m 8 (by omega)) (by decide) (by decide) (by exact gz_m 9 (by omega)) (by decide) (by exact gz_m 10 (by omega)), f 8 1 (by exact gz_m 11 (by omega)) (by decide) (by decide) (by exact gz_m 12 (by omega)) (by decide) (by exact gz_m 13 (by omega))⟩, fun k => ⟨g 3 k (by exact gz_m 14 (by omega)) (by decide), g 5 k (by exact gz_m 15 (by omega)) (by decide), g 7 k (by exact gz_m 16 (by omega)) (by decide), g 9 k (by exact gz_m 17 (by omega)) (by decide), g 18 k (by exact gz_m 18 (by omega)) (by decide)⟩, ⟨f 1 13 (by exact gz_m 19 (by omega)) (by decide) (by decide) (by exact gz_m 20 (by omega)) (by decide) (by exact gz_m 21 (by omega)), f 1 5 (by exact gz_m 22 (by omega)) (by decide) (by decide) (by exact gz_m 23 (by omega)) (by decide) (by exact gz_m 24 (by omega))⟩, fun k => ⟨f 11 k (by exact gz_m 25 (by omega)) (by decide) (by decide) (by exact gz_m 26 (by omega)) (by decide) (by exact gz_m 27 (by omega)), f 12 k (by exact gz_m 28 (by omega)) (by decide) (by decide) (by exact gz_m 29 (by omega)) (by decide) (by exact gz_m 30 (by omega)), f 13 k (by exact gz_m 31 (by omega)) (by decide) (by decide) (by exact gz_m 32 (by omega)) (by decide) (by exact gz_m 33 (by omega)), f 15 k (by exact gz_m 34 (by omega)) (by decide) (by decide) (by exact gz_m 35 (by omega)) (by decide) (by exact gz_m 36 (by omega)), f 19 k (by exact gz_m 37 (by omega)) (by decide) (by decide) (by exact gz_m 38 (by omega)) (by decide) (by exact gz_m 39 (by omega)), f 14 k (by exact gz_m 40 (by omega)) (by decide) (by decide) (by exact gz_m 41 (by omega)) (by decide) (by exact gz_m 42 (by omega))⟩⟩
  -- a TONGUE's cells lie below the pool's old end
  have low : ∀ i2 t2 : Nat, (i2 : Int) < I 8 1 → A 10 i2 = some t2 → 144 ≤ t2 ∧ t2 + 16 < sh.length := fun i2 t2 h2 ht2 => by
    obtain ⟨iT2, G2⟩ := gs_hT9 hs h2 ht2
    obtain ⟨S_t, R_t, B_t, A_t_0, h_t_1, A_t_1, h_t_3, A_t_2, S_t_5, R_t_5, B_t_5, A_t_3, S_t_6, R_t_6, B_t_6, A_t_4, h_t_7, A_t_5, S_t_9, R_t_9, B_t_9, A_t_7, S_t_10, R_t_10, B_t_10, A_t_8, h_t_11, A_t_9, S_t_13, R_t_13, B_t_13, A_t_10, S_t_14, R_t_14, B_t_14, A_t_12, S_t_15, R_t_15, B_t_15, A_t_14, S_t_16, R_t_16, B_t_16, A_t_15, h_t_17⟩ := id iT2
    exact ⟨G2, gc_x_lt S_t_16⟩
  -- cells of any TONGUE, but the number of LINS of the one at hand
  have fT : ∀ i2 t2 q j : Nat, (i2 : Int) < I 8 1 → A 10 i2 = some t2 → t2 ≤ q → q < t2 + 17 → ¬ (q = t ∧ j = 13) → I' q j = I q j := fun i2 t2 q j h2 ht2 h3 h4 h5 => by
    obtain ⟨l1, l2⟩ := low i2 t2 h2 ht2
    exact f q j (by exact gz_m 43 (by omega)) (by exact gz_m 44 (by omega)) (by exact gz_m 45 (by omega)) (by exact gz_m 46 (by omega)) (by exact gz_m 47 (by omega)) h5
  have gT : ∀ i2 t2 q j : Nat, (i2 : Int) < I 8 1 → A 10 i2 = some t2 → t2 ≤ q → q < t2 + 17 → J' q j = J q j := fun i2 t2 q j h2 ht2 h3 h4 => by
    obtain ⟨l1, l2⟩ := low i2 t2 h2 ht2
    exact g q j (by exact gz_m 48 (by omega)) (by exact gz_m 49 (by omega))
  have cL : (∀ i2 t2 k : Nat, (i2 : Int) < I 8 1 → A 10 i2 = some t2 → (k : Int) < I t2 13 → A' (t2 + 16) k = A (t2 + 16) k) → ∀ i2 t2 : Nat, (i2 : Int) < I 8 1 → A 10 i2 = some t2 → ∀ k q : Nat, (k : Int) < I t2 13 → A' (t2 + 16) k = some q → A (t2 + 16) k = some q ∧ I' q 1 = I q 1 := fun hA i2 t2 h2 ht2 k q hk hq => by
    have hq2 := (hA i2 t2 k h2 ht2 hk).symm.trans hq
    obtain ⟨b1, b2⟩ := gs_hL9 hs h2 ht2 k q hk hq2
    have ql := gc_x_lt b2.1
    exact ⟨hq2, f q 1 ql (by exact gz_m 50 (by omega)) (by exact gz_m 51 (by omega)) (by exact gz_m 52 (by omega)) (by exact gz_m 53 (by omega)) (by exact gz_m 54 (by omega))⟩
  have cT : ∀ i2 t2 : Nat, (i2 : Int) < I 8 1 → A 10 i2 = some t2 → (∀ k q : Nat, (k : Int) < I t2 13 → A' (t2 + 16) k = some q → A (t2 + 16) k = some q ∧ I' q 1 = I q 1) → I' t2 13 = I t2 13 → gs_cT t2 I J A I' J' A' := fun i2 t2 h2 ht2 cl e13 => by
    have fz : ∀ q j : Nat, t2 ≤ q → q < t2 + 17 → ¬ (q = t ∧ j = 13) → I' q j = I q j := fun q j => fT i2 t2 q j h2 ht2
    have gz : ∀ q j : Nat, t2 ≤ q → q < t2 + 17 → J' q j = J q j := fun q j => gT i2 t2 q j h2 ht2
    have dj : ∀ d : Nat, 1 ≤ d → d < 17 → ¬ t2 + d = t := fun d d1 d2 e => by
      by_cases c : i2 = i
      · subst c
        have := Option.some.inj (ht.symm.trans ht2)
        exact gz_m 55 (by omega)
      · have := gs_hJ9 hs hi ht h2 ht2 c
        exact gz_m 56 (by omega)
    exact ⟨⟨fz _ _ (by exact gz_m 57 (by omega)) (by exact gz_m 58 (by omega)) (by exact gz_m 59 (by omega)), fun k => gz _ _ (by exact gz_m 60 (by omega)) (by exact gz_m 61 (by omega))⟩, ⟨fz _ _ (by exact gz_m 62 (by omega)) (by exact gz_m 63 (by omega)) (by exact gz_m 64 (by omega)), fun k => gz _ _ (by exact gz_m 65 (by omega)) (by exact gz_m 66 (by omega)), fun k => fz _ _ (by exact gz_m 67 (by omega)) (by exact gz_m 68 (by omega)) (fun h => dj 5 (by decide) (by decide) h.1), fun k => fz _ _ (by exact gz_m 69 (by omega)) (by exact gz_m 70 (by omega)) (fun h => dj 6 (by decide) (by decide) h.1)⟩, ⟨fz _ _ (by exact gz_m 71 (by omega)) (by exact gz_m 72 (by omega)) (by exact gz_m 73 (by omega)), fun k => gz _ _ (by exact gz_m 74 (by omega)) (by exact gz_m 75 (by omega))⟩, fz _ _ (by exact gz_m 76 (by omega)) (by exact gz_m 77 (by omega)) (by exact gz_m 78 (by omega)), ⟨fz _ _ (by exact gz_m 79 (by omega)) (by exact gz_m 80 (by omega)) (by exact gz_m 81 (by omega)), fun k => gz _ _ (by exact gz_m 82 (by omega)) (by exact gz_m 83 (by omega)), fun k => fz _ _ (by exact gz_m 84 (by omega)) (by exact gz_m 85 (by omega)) (fun h => dj 13 (by decide) (by decide) h.1), fun k => fz _ _ (by exact gz_m 86 (by omega)) (by exact gz_m 87 (by omega)) (fun h => dj 14 (by decide) (by decide) h.1)⟩, fz _ _ (by exact gz_m 88 (by omega)) (by exact gz_m 89 (by omega)) (by exact gz_m 90 (by omega)), e13, cl⟩
  have e13 : ∀ i2 t2 : Nat, (i2 : Int) < I 8 1 → ¬ i2 = i → A 10 i2 = some t2 → I' t2 13 = I t2 13 := fun i2 t2 h2 hne ht2 => by
    have := gs_hJ9 hs hi ht h2 ht2 hne
    exact fT i2 t2 t2 13 h2 ht2 (by exact gz_m 91 (by omega)) (by exact gz_m 92 (by omega)) (by exact gz_m 93 (by omega))
  unfold gs_SP
  rw [eC]
  refine ⟨fun h9 => ?_, fun h9 => ?_⟩
  · obtain ⟨c1, c2⟩ := hP.1 h9
    rcases hres with ⟨_, n1, hA⟩ | ⟨n0, _⟩
    · refine ⟨c1, c2, gs_R_same yR cg (fun i2 t2 hi2 ht2 => ?_)⟩
      have ht3 : A 10 i2 = some t2 := (hA 10 i2 (by exact gz_m 94 (by omega))).symm.trans ht2
      refine ⟨ht3, cT i2 t2 hi2 ht3 (cL (fun i3 t3 k h3 ht4 hk => hA _ _ (low i3 t3 h3 ht4).2) i2 t2 hi2 ht3) ?_⟩
      by_cases c : i2 = i
      · subst c
        rw [← Option.some.inj (ht.symm.trans ht3)]
        exact n1
      · exact e13 i2 t2 hi2 c ht3
    · exact gz_m 95 (by omega)
  · obtain ⟨c1, c18, cLn, c4⟩ := hP.2.1 h9
    refine ⟨c1.1, c1.2, c18, fun Ir' Jr' hU => ?_⟩
    obtain ⟨u1, ts⟩ := gs_STU_k hU 88 (by decide) eK
    rcases hres with ⟨n0, _⟩ | ⟨_, n1, n383, hA, L, L1, L2, L3, L4, L5, L6, L7, L8⟩
    · exact gz_m 96 (by omega)
    have ei : Int.toNat (i : Int) = i := by exact gz_m 97 (by omega)
    have hf0 := cLn L L3
    have i4 : 0 ≤ I' 4 1 ∧ I' 4 1 ≤ 96 := by
      have e4 := cg.1.2.1
      have h4 : 0 ≤ I 4 1 ∧ I 4 1 ≤ 96 := gc_in hs.2.1 (gc_bR hs.1 (by decide) rfl) rfl rfl
      exact gz_m 98 (by omega)
    have hA10 : ∀ i2 t2 : Nat, (i2 : Int) < I 8 1 → A' 10 i2 = some t2 → A 10 i2 = some t2 := fun i2 t2 h2 ht2 => (hA 10 i2 (by exact gz_m 99 (by omega)) (fun h => by have := h.1; exact gz_m 100 (by omega))).symm.trans ht2
    have hAl : ∀ i2 t2 k : Nat, (i2 : Int) < I 8 1 → A 10 i2 = some t2 → (k : Int) < I t2 13 → A' (t2 + 16) k = A (t2 + 16) k := fun i2 t2 k h2 ht2 hk => hA _ _ (low i2 t2 h2 ht2).2 (fun h => by
      by_cases c : i2 = i
      · subst c
        have e := Option.some.inj (ht.symm.trans ht2)
        rw [← e] at hk
        have := h.2
        have := bT.2.2.2.2.1
        exact gz_m 101 (by omega)
      · have := gs_hJ9 hs hi ht h2 ht2 c
        have := h.1
        exact gz_m 102 (by omega))
    have cl := cL hAl
    obtain ⟨q1, q3, q7, qs, qp, qw, ql⟩ := hRT
    have fz : ∀ q j : Nat, t ≤ q → q < t + 17 → ¬ (q = t ∧ j = 13) → I' q j = I q j := fun q j => fT i t q j hi ht
    have gz : ∀ q j : Nat, t ≤ q → q < t + 17 → J' q j = J q j := fun q j => gT i t q j hi ht
    have ht' : A' 10 i = some t := (hA 10 i (by exact gz_m 103 (by omega)) (fun h => by have := h.1; exact gz_m 104 (by omega))).trans ht
    have q19 := ql.1
    rw [ei] at q19
    refine gs_R_tong (m := [19, 41]) yR hi hA10 ht' cg ts rfl (gs_rO_88 c6 (by have := bT.2.2.2.2.1; exact gz_m 105 (by omega)) u1 ts) (fun i2 t2 h2 ht2 => gs_bT_of hs.2.1 (gs_hT9 hs h2 ht2).1) (fun i2 t2 h2 hne ht2 => cT i2 t2 h2 ht2 (cl i2 t2 h2 ht2) (e13 i2 t2 h2 hne ht2)) ⟨gs_T1_fr q1 (fz _ _ (by exact gz_m 106 (by omega)) (by exact gz_m 107 (by omega)) (by exact gz_m 108 (by omega))) (fun k => gz _ _ (by exact gz_m 109 (by omega)) (by exact gz_m 110 (by omega))) (ts.2.1 13 rfl rfl _) (fun k _ => ts.2.2 20 rfl rfl _), gs_T3_fr q3 (fz _ _ (by exact gz_m 111 (by omega)) (by exact gz_m 112 (by omega)) (by exact gz_m 113 (by omega))) (fun k => gz _ _ (by exact gz_m 114 (by omega)) (by exact gz_m 115 (by omega))) (fun k => fz _ _ (by exact gz_m 116 (by omega)) (by exact gz_m 117 (by omega)) (by exact gz_m 118 (by omega))) (fun k => fz _ _ (by exact gz_m 119 (by omega)) (by exact gz_m 120 (by omega)) (by exact gz_m 121 (by omega))) (ts.2.1 14 rfl rfl _) (fun k _ _ => ⟨ts.2.2 21 rfl rfl _, ts.2.1 24 rfl rfl _, ts.2.1 25 rfl rfl _⟩), gs_T7_fr q7 (fz _ _ (by exact gz_m 122 (by omega)) (by exact gz_m 123 (by omega)) (by exact gz_m 124 (by omega))) (fun k => gz _ _ (by exact gz_m 125 (by omega)) (by exact gz_m 126 (by omega))) (ts.2.1 15 rfl rfl _) (fun k _ => ts.2.2 22 rfl rfl _), (fz t 6 (by exact gz_m 127 (by omega)) (by exact gz_m 128 (by omega)) (by exact gz_m 129 (by omega))).trans (qs.trans (ts.2.1 16 rfl rfl _).symm), gs_TP_fr qp (fz _ _ (by exact gz_m 130 (by omega)) (by exact gz_m 131 (by omega)) (by exact gz_m 132 (by omega))) (fun k => gz _ _ (by exact gz_m 133 (by omega)) (by exact gz_m 134 (by omega))) (fun k => fz _ _ (by exact gz_m 135 (by omega)) (by exact gz_m 136 (by omega)) (by exact gz_m 137 (by omega))) (fun k => fz _ _ (by exact gz_m 138 (by omega)) (by exact gz_m 139 (by omega)) (by exact gz_m 140 (by omega))) (ts.2.1 17 rfl rfl _) (fun k _ _ => ⟨ts.2.2 23 rfl rfl _, ts.2.1 31 rfl rfl _, fun j _ => ts.2.1 32 rfl rfl _⟩), (fz t 11 (by exact gz_m 141 (by omega)) (by exact gz_m 142 (by omega)) (by exact gz_m 143 (by omega))).trans (qw.trans (ts.2.1 18 rfl rfl _).symm), ?_⟩
    refine gs_TL_up (L := L) ql bT.2.2.2.2.1.1 (by exact gz_m 144 (by omega)) ?_ c6 n1 (cl i t hi ht) (fun q hq => cLn q hq) u1
    have e : gs_lfi (i : Int) Ir = gs_lf Ir := by
      rw [← c6]
      rfl
    rw [e, ql.1, ← c6]
    exact c4
set_option maxHeartbeats 8000000 in
set_option maxRecDepth 100000 in
theorem gh_rs4_p {ws0 : List Cond} {tb : String → gz_T} (hw : gc_Wn ws0) (hws : gc_Ws ws0) (htb : gc_tbs tb) {sh : gz_Sh} {ro : Nat → Nat} {I : gr_I} {J : gr_J} {A : gc_A} (v1 : Int64) (hs : gh_HS sh ro I J A) (B : Int) (x0 : B ≤ 1280 ∧ I 1 17 + I 23 1 ≤ B + I 23 5) (KLT_I : gc_LT I) (KTK_I : gc_TK I) (hlen : sh.length + 25 ≤ 1000000) (β : Int → Int) (η p : Int) (Ir : gr_I) (Jr : gr_J) (yT : gs_T β η p = 1) (yv : v1 = gs_M β η p) (yf : I 39 5 = gs_A β η p) (y1 : gc_AT β η (gs_X β η p) 23 I J) (y2 : 0 ≤ gs_X β η p) (y4 : I 1 18 = 0) (yR : gs_R I J A Ir Jr) (yS : gs_RV I A Ir) (hK6 : gs_K6 (gs_rn β η p)) {i t : Nat} (hi : (i : Int) < I 8 1) (ht : A 10 i = some t) (hc5 : I 1 5 = (i : Int)) (x39 : I 39 2 = (t : Int)) : gv_Y (gc_E6 ws0 tb 91 (yX6_readStatement, cX6_readStatement, 4, (some .boolean)) kX6_readStatement) (gh_QSp B sh ro I A β η p Ir Jr) (257, [(0, .inr (.inr (some 39))), (1, .inr (.inl v1))], [], sh, gc_h sh I J A) := by
  have hb := hs.1
  have hI := hs.2.1
  have hok := hs.2.2.1
  have hcu := hs.2.2.2.2.2.2
  have h144 := gc_Base_len hb
  have i8 : 0 ≤ I 8 1 ∧ I 8 1 ≤ 8 := gc_in hI (gc_bR hb (by decide) rfl) rfl rfl
  have S39 : sh[39]? = some (false, 6, 19) := gc_bS_39 hb
  have S1 : sh[1]? = some (false, 8, 21) := gc_bS_1 hb
  have A39 : A 39 0 = some 1 := gc_bA_39_0 hb
  have hD : gv_D (gc_E6 ws0 tb 91 (yX6_readStatement, cX6_readStatement, 4, (some .boolean)) kX6_readStatement) := gq_of oX6_readStatement
  obtain ⟨rn2, rn4, rn6, rn8, rgf, rgk, rc5, rT, r00⟩ := id yR
  have fA : 0 ≤ gs_A β η (gs_X β η p) := by have h9 := (gc_AT_l y1).2.1; have h8 : 0 ≤ I 23 5 ∧ I 23 5 ≤ 1000 := gc_in hI (gc_bR hb (by decide) rfl) rfl rfl; exact gz_m 0 (by omega)
  have hTt := hs.2.2.2.1.1 i t (by exact gz_m 1 (by omega)) ht
  obtain ⟨u9, w1, w2, w3, w4, w5⟩ := hs.2.2.2.2.1 i hi
  cases w1.symm.trans ht
  obtain ⟨b0, b1, b2, b3, b4, b5, b6, b7, b8, b9, b10, b11, b12, b13, b14, b15, b16, b17, b18, b19, b20, b21, b22, b23, b24, b25, b26, b27, b28, b29, b30, b31, b32, b33, b34, b35, b36, b37, b38, b39, b40, b41, b42, b43, b44⟩ := id hTt.1
  have ST_0 := b0
  have ST_1 := b4.1
  have ST_2 : sh[t + 2]? = _ := b4.2.2.2.2.1
  have ST_3 := b6.1
  have ST_4 : sh[t + 4]? = _ := b6.2.2.2.2.1
  have ST_5 := b8
  have ST_6 := b12
  have ST_7 := b16.1
  have ST_8 : sh[t + 8]? = _ := b16.2.2.2.2.1
  have ST_9 := b18
  have ST_10 := b22
  have ST_11 := b26.1
  have ST_12 : sh[t + 12]? = _ := b26.2.2.2.2.1
  have ST_13 := b28
  have ST_14 := b32
  have ST_15 := b36
  have ST_16 := b40
  have lt16 := gc_x_lt ST_16
  have G_t := hTt.2.1
  have c6 : Ir 0 6 = (i : Int) := rc5.symm.trans hc5
  have nc6 : ¬ Ir 0 6 < 0 := by exact gz_m 2 (by omega)
  have hRT := rT i t hi ht
  have hRc : gs_RT (Ir 0 6) t Ir Jr I J A := by rw [c6]; exact hRT
  have bT := gs_bT_of hI hTt.1
  have bts : ∀ i2 t2 : Nat, (i2 : Int) < I 8 1 → A 10 i2 = some t2 → gs_bT t2 I := fun i2 t2 h2 ht2 => gs_bT_of hI (gs_hT9 hs h2 ht2).1
  obtain ⟨q1, q3, q7, qs, qp, qw, ql⟩ := id hRT
  obtain ⟨z1c, z3c, z7c, zsc, zpc, zwc, zlc⟩ := id hRc
  have zMA : gs_MA Ir I t := fun k9 hk9 => by rw [c6]; exact (yS.1 i t hi ht).1 k9 hk9
  have zPM : gs_PM Ir I t := fun f9 a9 b9 j9 hj9 => by rw [c6]; exact (yS.2.2 i t hi ht).1 f9 a9 b9 j9 hj9
  have ei : Int.toNat (i : Int) = i := by exact gz_m 3 (by omega)
  show gv_Y _ _ (257, [(0, .inr (.inr (some 39))), (1, .inr (.inl v1))], [], sh, gc_h sh I J A)
  have f257 := gw_cmp v1 (28821916864574053)
  refine gv_lift (fun hk => gv_run 3 true hD (pc' := 262) (lv' := [(0, .inr (.inr (some 39))), (1, .inr (.inl v1))]) (st' := [.inl ((lg_cmp v1 (28821916864574053)).toInt)]) (h' := gc_h sh I J A) (C := (((True ∧ True) ∧ True) ∧ True)) rfl ⟨⟨⟨trivial, trivial⟩, trivial⟩, trivial⟩ hk) ?_
  refine gv_YofX (gv_if_ne (t := 270) hD rfl rfl ⟨by exact gz_m 4 (by omega), by exact gz_m 5 (by omega)⟩ (fun c => gv_Xz ?_) (fun c => gv_Xz ?_))
  rotate_left
  · show gv_Y _ _ (265, [(0, .inr (.inr (some 39))), (1, .inr (.inl v1))], [], sh, gc_h sh I J A)
    refine gv_lift (fun hk => gv_run 1 true hD (pc' := 266) (lv' := [(0, .inr (.inr (some 39))), (1, .inr (.inl v1))]) (st' := [.inr (.inr (some 39))]) (h' := gc_h sh I J A) (C := (True ∧ True)) rfl ⟨trivial, trivial⟩ hk) ?_
    have eK : gs_rn β η p = gs_W 83 := (gs_al_eq (gs_al_p yT) (gs_W_al 83 (by decide) (by decide))).mp (yv.symm.trans (gs_cmp0 (a := v1) (b := 28821916864574053) (by exact gz_m 6 (by omega))))
    obtain ⟨r9, h9, E9, P9⟩ := d_X6_readFeature_p hws htb sh ro I J A hI t β η (gs_X β η p) Ir Jr hb hTt.1 G_t w3 y1 y2 y4 z1c.1 z1c.2 z3c.1.1 z3c.1.2 x39 KLT_I KTK_I
    obtain ⟨I', J', rfl, hI', g, k, KE_LT, KE_TK, z, rfl, z0, z1, p0, p1, p2, p3⟩ := P9
    refine gv_lift (fun hk => gv_callV hD rfl (As := []) (st := []) rfl (by decide) S39 rfl (gc_lV6 hws rfl) (Nat.le_of_ble_eq_true rfl) (gz_Ev_mono (d := 5) (by decide) E9) hk) ?_
    have ok9 : gc_OK sh I' J' A := gc_OK_fr hok (fun q j => (g q j).imp (fun h => by
        rcases h with ⟨rfl, rfl⟩ | ⟨rfl, rfl⟩ | ⟨rfl, rfl⟩ | ⟨rfl, rfl⟩ | ⟨rfl, rfl⟩ | ⟨rfl, rfl⟩ | rfl | rfl | ⟨rfl, rfl⟩ | ⟨rfl, rfl⟩
        · exact ⟨gc_x_lt (gc_bS hb (p := 39) rfl), gc_tyx (gc_bS hb (p := 39) rfl)⟩
        · exact ⟨gc_x_lt (gc_bS hb (p := 39) rfl), gc_tyx (gc_bS hb (p := 39) rfl)⟩
        · exact ⟨gc_x_lt (gc_bS hb (p := 23) rfl), gc_tyx (gc_bS hb (p := 23) rfl)⟩
        · exact ⟨gc_x_lt (gc_bS hb (p := 23) rfl), gc_tyx (gc_bS hb (p := 23) rfl)⟩
        · exact ⟨gc_x_lt (gc_bS hb (p := 23) rfl), gc_tyx (gc_bS hb (p := 23) rfl)⟩
        · exact ⟨gc_x_lt (gc_bS hb (p := 23) rfl), gc_tyx (gc_bS hb (p := 23) rfl)⟩
        · exact ⟨gc_x_lt ST_5, gc_tyx ST_5⟩
        · exact ⟨gc_x_lt ST_6, gc_tyx ST_6⟩
        · exact ⟨gc_x_lt ST_3, gc_tyx ST_3⟩
        · exact ⟨gc_x_lt ST_1, gc_tyx ST_1⟩
        ) id) (fun q j => (k q j).imp (fun h => by first | exact False.elim h | exact gz_m 7 (by omega)) id)
    have fz : ∀ q j : Nat, ¬ ((q = 39 ∧ j = 3) ∨ (q = 39 ∧ j = 4) ∨ (q = 23 ∧ j = 5) ∨ (q = 23 ∧ j = 6) ∨ (q = 23 ∧ j = 7) ∨ (q = 23 ∧ j = 8) ∨ q = (t + 5) ∨ q = (t + 6) ∨ (q = (t + 3) ∧ j = 1) ∨ (q = (t + 1) ∧ j = 1)) → I' q j = I q j := fun q j h => (g q j).resolve_left h
    have gz : ∀ q j : Nat, ¬ ((q = 23 ∧ j = 9) ∨ q = 42 ∨ q = (t + 4) ∨ q = (t + 2)) → J' q j = J q j := fun q j h => (k q j).resolve_left h
    have h17 := fz 1 17 (by exact gz_m 8 (by omega))
    have f2 : ∀ q j : Nat, 144 ≤ q → (t ≤ q ∧ q < t + 17) ∨ I' q j = I q j := fun q j _ => (g q j).imp (fun h => by exact gz_m 9 (by omega)) id
    have f3 : ∀ q j : Nat, 144 ≤ q → (t ≤ q ∧ q < t + 17) ∨ J' q j = J q j := fun q j _ => (k q j).imp (fun h => by exact gz_m 10 (by omega)) id
    have hh := gh_HS_t hs hi ht hI' ok9 (fun q j _ => (g q j).imp (fun h => by unfold gh_mt; exact gz_m 11 (by omega)) id) (fz 1 5 (by exact gz_m 12 (by omega))) f2 (fz t 13 (by exact gz_m 13 (by omega))) (by have := fz t 11 (by exact gz_m 14 (by omega)); exact gz_m 15 (by omega)) (fun j _ => fz (t + 15) j (by exact gz_m 16 (by omega))) (fun w a b => by have := fz t 11 (by exact gz_m 17 (by omega)); exact gz_m 18 (by omega)) (p2) (gc_sc_fr hTt.2.2 (fun k9 => fz (t + 10) k9 (by exact gz_m 19 (by omega))))
    have ct := gs_ct_o hs hi ht f2 f3
    have cl := gs_cl_o hs hi ht f2
    have bT' := gs_bT_of hI' hTt.1
    have eC : gs_stc β η Ir Jr p = gs_fea β η Ir Jr (I 39 5) (gs_X β η p) := by rw [yf]; exact (if_pos yT).trans (gs_stk_83 eK nc6)
    have cg : gs_cG I J I' J' := ⟨⟨(fz 2 1 (by exact gz_m 20 (by omega))), (fz 4 1 (by exact gz_m 21 (by omega))), (fz 6 1 (by exact gz_m 22 (by omega))), (fz 8 1 (by exact gz_m 23 (by omega)))⟩, (fun k9 => ⟨(gz 3 k9 (by exact gz_m 24 (by omega))), (gz 5 k9 (by exact gz_m 25 (by omega))), (gz 7 k9 (by exact gz_m 26 (by omega))), (gz 9 k9 (by exact gz_m 27 (by omega))), (gz 18 k9 (by exact gz_m 28 (by omega)))⟩), ⟨(fz 1 13 (by exact gz_m 29 (by omega))), (fz 1 5 (by exact gz_m 30 (by omega)))⟩, fun k9 => ⟨(fz 11 k9 (by exact gz_m 31 (by omega))), (fz 12 k9 (by exact gz_m 32 (by omega))), (fz 13 k9 (by exact gz_m 33 (by omega))), (fz 15 k9 (by exact gz_m 34 (by omega))), (fz 19 k9 (by exact gz_m 35 (by omega))), (fz 14 k9 (by exact gz_m 36 (by omega)))⟩⟩
    have sp : gs_SP β η p Ir Jr z I' J' A := by
      unfold gs_SP
      rw [eC]
      refine ⟨fun h9 => ?_, fun h9 => ?_⟩
      · obtain ⟨c1, c2, d1, d2, d3⟩ := gs_or0 p3 h9
        refine ⟨c1, c2, gs_R_same yR cg (fun i2 t2 hi2 ht2 => ⟨ht2, ?_⟩)⟩
        by_cases c9 : i2 = i
        · subst c9
          rw [← Option.some.inj (ht.symm.trans ht2)]
          exact ⟨⟨d1, fun k9 => (d3 k9).1⟩, ⟨d2, fun k9 => (d3 k9).2.1, fun k9 => (d3 k9).2.2.1, fun k9 => (d3 k9).2.2.2⟩, ⟨(fz (t + 7) 1 (by exact gz_m 37 (by omega))), fun k9 => (gz (t + 8) k9 (by exact gz_m 38 (by omega)))⟩, (fz t 6 (by exact gz_m 39 (by omega))), ⟨(fz (t + 11) 1 (by exact gz_m 40 (by omega))), fun k9 => (gz (t + 12) k9 (by exact gz_m 41 (by omega))), fun k9 => (fz (t + 13) k9 (by exact gz_m 42 (by omega))), fun k9 => (fz (t + 14) k9 (by exact gz_m 43 (by omega)))⟩, (fz t 11 (by exact gz_m 44 (by omega))), (fz t 13 (by exact gz_m 45 (by omega))), cl⟩
        · exact ct i2 t2 hi2 c9 ht2
      · obtain ⟨c1, c2, s1, s2, s3⟩ := gs_or1 p3 (by exact gz_m 46 (by omega))
        have t1 := gs_al_p (gs_t_fea c1 fA)
        refine ⟨c1, c2, (fz 1 18 (by exact gz_m 47 (by omega))).trans y4, fun Ir' Jr' hU => ?_⟩
        obtain ⟨u1, ts⟩ := gs_STU_k hU 83 (by decide) eK
        exact gs_R_tong yR hi (fun i2 t2 _ h => h) ht cg ts rfl (gs_rO_83 c6 (by have h8 := q1.1; rw [ei] at h8; have := bT.1; exact gz_m 48 (by omega)) (by have h8 := q3.1.1; rw [ei] at h8; have h7 := s3.1; have := bT'.2.1; have := bT.2.1; exact gz_m 49 (by omega)) u1 ts) bts ct ⟨(gs_T1_up q1 bT.1.1 s2 s1 c6 u1 t1), (gs_T3_up q3 q1.1 bT.2.1.1 c6 s3 u1 (fun k9 hk9 => gs_al_p (gs_cn_t 7 _ k9 (by exact gz_m 50 (by omega))))), (gs_T7_fr q7 (fz (t + 7) 1 (by exact gz_m 51 (by omega))) (fun k9 => (gz (t + 8) k9 (by exact gz_m 52 (by omega)))) (ts.2.1 15 rfl rfl _) (fun k9 _ => (ts.2.2 22 rfl rfl _))), ((fz t 6 (by exact gz_m 53 (by omega))).trans (qs.trans (ts.2.1 16 rfl rfl _).symm)), (gs_TP_fr qp (fz (t + 11) 1 (by exact gz_m 54 (by omega))) (fun k9 => (gz (t + 12) k9 (by exact gz_m 55 (by omega)))) (fun k9 => (fz (t + 13) k9 (by exact gz_m 56 (by omega)))) (fun k9 => (fz (t + 14) k9 (by exact gz_m 57 (by omega)))) (ts.2.1 17 rfl rfl _) (fun k9 _ _ => ⟨(ts.2.2 23 rfl rfl _), (ts.2.1 31 rfl rfl _), fun j9 _ => (ts.2.1 32 rfl rfl _)⟩)), ((fz t 11 (by exact gz_m 58 (by omega))).trans (qw.trans (ts.2.1 18 rfl rfl _).symm)), (gs_TL_fr ql (fz t 13 (by exact gz_m 59 (by omega))) cl (ts.2.1 19 rfl rfl _) (fun k9 _ => (ts.2.1 41 rfl rfl _)))⟩
    have sc : gs_SC β η p Ir Jr I A z I' A := by
      refine gs_SC_t hs hi ht (gc_PKs_fr gc_PKs_rf (fz 1 17 (by exact gz_m 60 (by omega))) (fun k9 => fz 20 k9 (by exact gz_m 61 (by omega)))) (fz 8 1 (by exact gz_m 62 (by omega))) f2 ?_
      exact Or.inl ⟨fz (t + 7) 1 (by exact gz_m 63 (by omega)), fun k9 => fz (t + 9) k9 (by exact gz_m 64 (by omega)), fz t 6 (by exact gz_m 65 (by omega)), fun k9 => fz (t + 10) k9 (by exact gz_m 66 (by omega))⟩
    have sd : gs_SD β η p Ir Jr I A z I' A := by
      refine gs_SD_t hs hi ht (fz 8 1 (by exact gz_m 67 (by omega))) f2 ?_
      exact Or.inl ⟨⟨fz (t + 11) 1 (by exact gz_m 68 (by omega)), fun k9 => fz (t + 13) k9 (by exact gz_m 69 (by omega)), fun k9 => fz (t + 14) k9 (by exact gz_m 70 (by omega))⟩, fz t 11 (by exact gz_m 71 (by omega)), fun k9 => fz (t + 15) k9 (by exact gz_m 72 (by omega))⟩
    exact gv_Yend ⟨z, sh, ro, I', J', A, Or.inr (Or.inl ⟨z, .boolean, hD 269 _ rfl, rfl, Or.inr ⟨rfl, by exact gz_m 73 (by omega)⟩, rfl, rfl⟩), rfl, rfl, ⟨⟨z0, z1⟩, hh.1, hh.2, KE_LT, KE_TK, ⟨p0, p1, by exact gz_m 74 (by omega), fun k9 => fz 21 k9 (by exact gz_m 75 (by omega))⟩, ⟨by exact gz_m 76 (by omega), by exact gz_m 77 (by omega), by exact gz_m 78 (by omega)⟩⟩, ⟨sp, sc, sd⟩⟩
  have n83 : ¬ gs_rn β η p = gs_W 83 := fun e9 => gs_cmpn (a := v1) (b := 28821916864574053) (by exact gz_m 79 (by omega)) (yv.trans ((gs_al_eq (gs_al_p yT) (gs_W_al 83 (by decide) (by decide))).mpr e9))
  show gv_Y _ _ (270, [(0, .inr (.inr (some 39))), (1, .inr (.inl v1))], [], sh, gc_h sh I J A)
  have f270 := gw_cmp v1 (30510848328168051)
  refine gv_lift (fun hk => gv_run 3 true hD (pc' := 275) (lv' := [(0, .inr (.inr (some 39))), (1, .inr (.inl v1))]) (st' := [.inl ((lg_cmp v1 (30510848328168051)).toInt)]) (h' := gc_h sh I J A) (C := (((True ∧ True) ∧ True) ∧ True)) rfl ⟨⟨⟨trivial, trivial⟩, trivial⟩, trivial⟩ hk) ?_
  refine gv_YofX (gv_if_ne (t := 283) hD rfl rfl ⟨by exact gz_m 80 (by omega), by exact gz_m 81 (by omega)⟩ (fun c => gv_Xz ?_) (fun c => gv_Xz ?_))
  rotate_left
  · show gv_Y _ _ (278, [(0, .inr (.inr (some 39))), (1, .inr (.inl v1))], [], sh, gc_h sh I J A)
    refine gv_lift (fun hk => gv_run 1 true hD (pc' := 279) (lv' := [(0, .inr (.inr (some 39))), (1, .inr (.inl v1))]) (st' := [.inr (.inr (some 39))]) (h' := gc_h sh I J A) (C := (True ∧ True)) rfl ⟨trivial, trivial⟩ hk) ?_
    have eK : gs_rn β η p = gs_W 84 := (gs_al_eq (gs_al_p yT) (gs_W_al 84 (by decide) (by decide))).mp (yv.symm.trans (gs_cmp0 (a := v1) (b := 30510848328168051) (by exact gz_m 82 (by omega))))
    obtain ⟨r9, h9, E9, P9⟩ := d_X6_readClass_p hws htb sh ro I J A hI t β η (gs_X β η p) Ir Jr hb hTt.1 G_t y1 y2 y4 z7c.1 z7c.2 x39 KLT_I KTK_I
    obtain ⟨I', J', rfl, hI', g, k, KE_LT, KE_TK, z, rfl, z0, z1, p0, p1, p2⟩ := P9
    refine gv_lift (fun hk => gv_callV hD rfl (As := []) (st := []) rfl (by decide) S39 rfl (gc_lV6 hws rfl) (Nat.le_of_ble_eq_true rfl) (gz_Ev_mono (d := 5) (by decide) E9) hk) ?_
    have ok9 : gc_OK sh I' J' A := gc_OK_fr hok (fun q j => (g q j).imp (fun h => by
        rcases h with ⟨rfl, rfl⟩ | ⟨rfl, rfl⟩ | ⟨rfl, rfl⟩ | ⟨rfl, rfl⟩ | ⟨rfl, rfl⟩ | ⟨rfl, rfl⟩ | rfl | ⟨rfl, rfl⟩
        · exact ⟨gc_x_lt (gc_bS hb (p := 39) rfl), gc_tyx (gc_bS hb (p := 39) rfl)⟩
        · exact ⟨gc_x_lt (gc_bS hb (p := 39) rfl), gc_tyx (gc_bS hb (p := 39) rfl)⟩
        · exact ⟨gc_x_lt (gc_bS hb (p := 23) rfl), gc_tyx (gc_bS hb (p := 23) rfl)⟩
        · exact ⟨gc_x_lt (gc_bS hb (p := 23) rfl), gc_tyx (gc_bS hb (p := 23) rfl)⟩
        · exact ⟨gc_x_lt (gc_bS hb (p := 23) rfl), gc_tyx (gc_bS hb (p := 23) rfl)⟩
        · exact ⟨gc_x_lt (gc_bS hb (p := 23) rfl), gc_tyx (gc_bS hb (p := 23) rfl)⟩
        · exact ⟨gc_x_lt ST_9, gc_tyx ST_9⟩
        · exact ⟨gc_x_lt ST_7, gc_tyx ST_7⟩
        ) id) (fun q j => (k q j).imp (fun h => by first | exact False.elim h | exact gz_m 83 (by omega)) id)
    have fz : ∀ q j : Nat, ¬ ((q = 39 ∧ j = 3) ∨ (q = 39 ∧ j = 4) ∨ (q = 23 ∧ j = 5) ∨ (q = 23 ∧ j = 6) ∨ (q = 23 ∧ j = 7) ∨ (q = 23 ∧ j = 8) ∨ q = (t + 9) ∨ (q = (t + 7) ∧ j = 1)) → I' q j = I q j := fun q j h => (g q j).resolve_left h
    have gz : ∀ q j : Nat, ¬ ((q = 23 ∧ j = 9) ∨ q = (t + 8)) → J' q j = J q j := fun q j h => (k q j).resolve_left h
    have h17 := fz 1 17 (by exact gz_m 84 (by omega))
    have f2 : ∀ q j : Nat, 144 ≤ q → (t ≤ q ∧ q < t + 17) ∨ I' q j = I q j := fun q j _ => (g q j).imp (fun h => by exact gz_m 85 (by omega)) id
    have f3 : ∀ q j : Nat, 144 ≤ q → (t ≤ q ∧ q < t + 17) ∨ J' q j = J q j := fun q j _ => (k q j).imp (fun h => by exact gz_m 86 (by omega)) id
    have hh := gh_HS_t hs hi ht hI' ok9 (fun q j _ => (g q j).imp (fun h => by unfold gh_mt; exact gz_m 87 (by omega)) id) (fz 1 5 (by exact gz_m 88 (by omega))) f2 (fz t 13 (by exact gz_m 89 (by omega))) (by have := fz t 11 (by exact gz_m 90 (by omega)); exact gz_m 91 (by omega)) (fun j _ => fz (t + 15) j (by exact gz_m 92 (by omega))) (fun w a b => by have := fz t 11 (by exact gz_m 93 (by omega)); exact gz_m 94 (by omega)) (by rw [fz (t + 3) 1 (by exact gz_m 95 (by omega)), fz (t + 1) 1 (by exact gz_m 96 (by omega))]; exact w3) (gc_sc_fr hTt.2.2 (fun k9 => fz (t + 10) k9 (by exact gz_m 97 (by omega))))
    have ct := gs_ct_o hs hi ht f2 f3
    have cl := gs_cl_o hs hi ht f2
    have bT' := gs_bT_of hI' hTt.1
    have eC : gs_stc β η Ir Jr p = gs_let β η Ir Jr (I 39 5) (gs_X β η p) := by rw [yf]; exact (if_pos yT).trans (gs_stk_84 eK nc6)
    have cg : gs_cG I J I' J' := ⟨⟨(fz 2 1 (by exact gz_m 98 (by omega))), (fz 4 1 (by exact gz_m 99 (by omega))), (fz 6 1 (by exact gz_m 100 (by omega))), (fz 8 1 (by exact gz_m 101 (by omega)))⟩, (fun k9 => ⟨(gz 3 k9 (by exact gz_m 102 (by omega))), (gz 5 k9 (by exact gz_m 103 (by omega))), (gz 7 k9 (by exact gz_m 104 (by omega))), (gz 9 k9 (by exact gz_m 105 (by omega))), (gz 18 k9 (by exact gz_m 106 (by omega)))⟩), ⟨(fz 1 13 (by exact gz_m 107 (by omega))), (fz 1 5 (by exact gz_m 108 (by omega)))⟩, fun k9 => ⟨(fz 11 k9 (by exact gz_m 109 (by omega))), (fz 12 k9 (by exact gz_m 110 (by omega))), (fz 13 k9 (by exact gz_m 111 (by omega))), (fz 15 k9 (by exact gz_m 112 (by omega))), (fz 19 k9 (by exact gz_m 113 (by omega))), (fz 14 k9 (by exact gz_m 114 (by omega)))⟩⟩
    have sp : gs_SP β η p Ir Jr z I' J' A := by
      unfold gs_SP
      rw [eC]
      refine ⟨fun h9 => ?_, fun h9 => ?_⟩
      · obtain ⟨c1, c2, d1, d2, d3⟩ := gs_or0 p2 h9
        refine ⟨c1, c2, gs_R_same yR cg (fun i2 t2 hi2 ht2 => ⟨ht2, ?_⟩)⟩
        by_cases c9 : i2 = i
        · subst c9
          rw [← Option.some.inj (ht.symm.trans ht2)]
          exact ⟨⟨(fz (t + 1) 1 (by exact gz_m 115 (by omega))), fun k9 => (gz (t + 2) k9 (by exact gz_m 116 (by omega)))⟩, ⟨(fz (t + 3) 1 (by exact gz_m 117 (by omega))), fun k9 => (gz (t + 4) k9 (by exact gz_m 118 (by omega))), fun k9 => (fz (t + 5) k9 (by exact gz_m 119 (by omega))), fun k9 => (fz (t + 6) k9 (by exact gz_m 120 (by omega)))⟩, ⟨d1, fun k9 => (d2 k9)⟩, (fz t 6 (by exact gz_m 121 (by omega))), ⟨(fz (t + 11) 1 (by exact gz_m 122 (by omega))), fun k9 => (gz (t + 12) k9 (by exact gz_m 123 (by omega))), fun k9 => (fz (t + 13) k9 (by exact gz_m 124 (by omega))), fun k9 => (fz (t + 14) k9 (by exact gz_m 125 (by omega)))⟩, (fz t 11 (by exact gz_m 126 (by omega))), (fz t 13 (by exact gz_m 127 (by omega))), cl⟩
        · exact ct i2 t2 hi2 c9 ht2
      · obtain ⟨c1, c2, s1, s2, s3⟩ := gs_or1 p2 (by exact gz_m 128 (by omega))
        have t1 := gs_al_p (gs_t_let c1 fA)
        refine ⟨c1, c2, (fz 1 18 (by exact gz_m 129 (by omega))).trans y4, fun Ir' Jr' hU => ?_⟩
        obtain ⟨u1, ts⟩ := gs_STU_k hU 84 (by decide) eK
        exact gs_R_tong yR hi (fun i2 t2 _ h => h) ht cg ts rfl (gs_rO_84 c6 (by have h8 := q7.1; rw [ei] at h8; have := bT.2.2.1; exact gz_m 130 (by omega)) u1.1 ts) bts ct ⟨(gs_T1_fr q1 (fz (t + 1) 1 (by exact gz_m 131 (by omega))) (fun k9 => (gz (t + 2) k9 (by exact gz_m 132 (by omega)))) (ts.2.1 13 rfl rfl _) (fun k9 _ => (ts.2.2 20 rfl rfl _))), (gs_T3_fr q3 (fz (t + 3) 1 (by exact gz_m 133 (by omega))) (fun k9 => (gz (t + 4) k9 (by exact gz_m 134 (by omega)))) (fun k9 => (fz (t + 5) k9 (by exact gz_m 135 (by omega)))) (fun k9 => (fz (t + 6) k9 (by exact gz_m 136 (by omega)))) (ts.2.1 14 rfl rfl _) (fun k9 _ _ => ⟨(ts.2.2 21 rfl rfl _), (ts.2.1 24 rfl rfl _), (ts.2.1 25 rfl rfl _)⟩)), (gs_NAt_put (p := t + 7) (row := 22) (cr := 15) (m := 16) (n := 16) q7 bT.2.2.1.1 (by decide) s2 s1 c6 u1.1 t1), ((fz t 6 (by exact gz_m 137 (by omega))).trans (qs.trans (ts.2.1 16 rfl rfl _).symm)), (gs_TP_fr qp (fz (t + 11) 1 (by exact gz_m 138 (by omega))) (fun k9 => (gz (t + 12) k9 (by exact gz_m 139 (by omega)))) (fun k9 => (fz (t + 13) k9 (by exact gz_m 140 (by omega)))) (fun k9 => (fz (t + 14) k9 (by exact gz_m 141 (by omega)))) (ts.2.1 17 rfl rfl _) (fun k9 _ _ => ⟨(ts.2.2 23 rfl rfl _), (ts.2.1 31 rfl rfl _), fun j9 _ => (ts.2.1 32 rfl rfl _)⟩)), ((fz t 11 (by exact gz_m 142 (by omega))).trans (qw.trans (ts.2.1 18 rfl rfl _).symm)), (gs_TL_fr ql (fz t 13 (by exact gz_m 143 (by omega))) cl (ts.2.1 19 rfl rfl _) (fun k9 _ => (ts.2.1 41 rfl rfl _)))⟩
    have sc : gs_SC β η p Ir Jr I A z I' A := by
      refine gs_SC_t hs hi ht (gc_PKs_fr gc_PKs_rf (fz 1 17 (by exact gz_m 144 (by omega))) (fun k9 => fz 20 k9 (by exact gz_m 145 (by omega)))) (fz 8 1 (by exact gz_m 146 (by omega))) f2 ?_
      by_cases h9 : z = 0
      · obtain ⟨c1, c2, d1, d2, d3⟩ := gs_or0 p2 h9
        exact Or.inl ⟨d1, d3, fz t 6 (by exact gz_m 147 (by omega)), fun k9 => fz (t + 10) k9 (by exact gz_m 148 (by omega))⟩
      · obtain ⟨c1, c2, s1, s2, s3⟩ := gs_or1 p2 (by exact gz_m 149 (by omega))
        exact Or.inr ⟨by exact gz_m 150 (by omega), by exact gz_m 151 (by omega), Or.inl ⟨eK, by have := (s1 (by exact gz_m 152 (by omega))).1; exact gz_m 153 (by omega), s3, fz t 6 (by exact gz_m 154 (by omega)), fun k9 => fz (t + 10) k9 (by exact gz_m 155 (by omega))⟩⟩
    have sd : gs_SD β η p Ir Jr I A z I' A := by
      refine gs_SD_t hs hi ht (fz 8 1 (by exact gz_m 156 (by omega))) f2 ?_
      exact Or.inl ⟨⟨fz (t + 11) 1 (by exact gz_m 157 (by omega)), fun k9 => fz (t + 13) k9 (by exact gz_m 158 (by omega)), fun k9 => fz (t + 14) k9 (by exact gz_m 159 (by omega))⟩, fz t 11 (by exact gz_m 160 (by omega)), fun k9 => fz (t + 15) k9 (by exact gz_m 161 (by omega))⟩
    exact gv_Yend ⟨z, sh, ro, I', J', A, Or.inr (Or.inl ⟨z, .boolean, hD 282 _ rfl, rfl, Or.inr ⟨rfl, by exact gz_m 162 (by omega)⟩, rfl, rfl⟩), rfl, rfl, ⟨⟨z0, z1⟩, hh.1, hh.2, KE_LT, KE_TK, ⟨p0, p1, by exact gz_m 163 (by omega), fun k9 => fz 21 k9 (by exact gz_m 164 (by omega))⟩, ⟨by exact gz_m 165 (by omega), by exact gz_m 166 (by omega), by exact gz_m 167 (by omega)⟩⟩, ⟨sp, sc, sd⟩⟩
  have n84 : ¬ gs_rn β η p = gs_W 84 := fun e9 => gs_cmpn (a := v1) (b := 30510848328168051) (by exact gz_m 168 (by omega)) (yv.trans ((gs_al_eq (gs_al_p yT) (gs_W_al 84 (by decide) (by decide))).mpr e9))
  show gv_Y _ _ (283, [(0, .inr (.inr (some 39))), (1, .inr (.inl v1))], [], sh, gc_h sh I J A)
  have f283 := gw_cmp v1 (495791205988)
  refine gv_lift (fun hk => gv_run 3 true hD (pc' := 288) (lv' := [(0, .inr (.inr (some 39))), (1, .inr (.inl v1))]) (st' := [.inl ((lg_cmp v1 (495791205988)).toInt)]) (h' := gc_h sh I J A) (C := (((True ∧ True) ∧ True) ∧ True)) rfl ⟨⟨⟨trivial, trivial⟩, trivial⟩, trivial⟩ hk) ?_
  refine gv_YofX (gv_if_ne (t := 296) hD rfl rfl ⟨by exact gz_m 169 (by omega), by exact gz_m 170 (by omega)⟩ (fun c => gv_Xz ?_) (fun c => gv_Xz ?_))
  rotate_left
  · show gv_Y _ _ (291, [(0, .inr (.inr (some 39))), (1, .inr (.inl v1))], [], sh, gc_h sh I J A)
    refine gv_lift (fun hk => gv_run 1 true hD (pc' := 292) (lv' := [(0, .inr (.inr (some 39))), (1, .inr (.inl v1))]) (st' := [.inr (.inr (some 39))]) (h' := gc_h sh I J A) (C := (True ∧ True)) rfl ⟨trivial, trivial⟩ hk) ?_
    have eK : gs_rn β η p = gs_W 85 := (gs_al_eq (gs_al_p yT) (gs_W_al 85 (by decide) (by decide))).mp (yv.symm.trans (gs_cmp0 (a := v1) (b := 495791205988) (by exact gz_m 171 (by omega))))
    obtain ⟨r9, h9, E9, P9⟩ := d_X6_readSound_p hws htb sh ro I J A hI t B β η (gs_X β η p) Ir Jr hb hTt.1 G_t x0 y1 y2 y4 zsc z7c.1 z7c.2 zMA x39 KLT_I KTK_I hTt.2.2
    obtain ⟨I', J', rfl, hI', g, k, KE_LT, KE_TK, KE_SC, z, rfl, z0, z1, p0, p1, p2, p3, p4⟩ := P9
    refine gv_lift (fun hk => gv_callV hD rfl (As := []) (st := []) rfl (by decide) S39 rfl (gc_lV6 hws rfl) (Nat.le_of_ble_eq_true rfl) (gz_Ev_mono (d := 6) (by decide) E9) hk) ?_
    have ok9 : gc_OK sh I' J' A := gc_OK_fr hok (fun q j => (g q j).imp (fun h => by
        rcases h with ⟨rfl, rfl⟩ | ⟨rfl, rfl⟩ | ⟨rfl, rfl⟩ | ⟨rfl, rfl⟩ | ⟨rfl, rfl⟩ | ⟨rfl, rfl⟩ | ⟨rfl, rfl⟩ | ⟨rfl, rfl⟩ | rfl | rfl | rfl | ⟨rfl, rfl⟩
        · exact ⟨gc_x_lt (gc_bS hb (p := 39) rfl), gc_tyx (gc_bS hb (p := 39) rfl)⟩
        · exact ⟨gc_x_lt (gc_bS hb (p := 39) rfl), gc_tyx (gc_bS hb (p := 39) rfl)⟩
        · exact ⟨gc_x_lt (gc_bS hb (p := 23) rfl), gc_tyx (gc_bS hb (p := 23) rfl)⟩
        · exact ⟨gc_x_lt (gc_bS hb (p := 23) rfl), gc_tyx (gc_bS hb (p := 23) rfl)⟩
        · exact ⟨gc_x_lt (gc_bS hb (p := 23) rfl), gc_tyx (gc_bS hb (p := 23) rfl)⟩
        · exact ⟨gc_x_lt (gc_bS hb (p := 23) rfl), gc_tyx (gc_bS hb (p := 23) rfl)⟩
        · exact ⟨gc_x_lt (gc_bS hb (p := 1) rfl), gc_tyx (gc_bS hb (p := 1) rfl)⟩
        · exact ⟨gc_x_lt (gc_bS hb (p := 1) rfl), gc_tyx (gc_bS hb (p := 1) rfl)⟩
        · exact ⟨gc_x_lt (gc_bS hb (p := 20) rfl), gc_tyx (gc_bS hb (p := 20) rfl)⟩
        · exact ⟨gc_x_lt (gc_bS hb (p := 41) rfl), gc_tyx (gc_bS hb (p := 41) rfl)⟩
        · exact ⟨gc_x_lt ST_10, gc_tyx ST_10⟩
        · exact ⟨gc_x_lt ST_0, gc_tyx ST_0⟩
        ) id) (fun q j => (k q j).imp (fun h => by first | exact False.elim h | exact gz_m 172 (by omega)) id)
    have fz : ∀ q j : Nat, ¬ ((q = 39 ∧ j = 3) ∨ (q = 39 ∧ j = 4) ∨ (q = 23 ∧ j = 5) ∨ (q = 23 ∧ j = 6) ∨ (q = 23 ∧ j = 7) ∨ (q = 23 ∧ j = 8) ∨ (q = 1 ∧ j = 17) ∨ (q = 1 ∧ j = 18) ∨ q = 20 ∨ q = 41 ∨ q = (t + 10) ∨ (q = t ∧ j = 6)) → I' q j = I q j := fun q j h => (g q j).resolve_left h
    have gz : ∀ q j : Nat, ¬ ((q = 23 ∧ j = 9)) → J' q j = J q j := fun q j h => (k q j).resolve_left h
    have f2 : ∀ q j : Nat, 144 ≤ q → (t ≤ q ∧ q < t + 17) ∨ I' q j = I q j := fun q j _ => (g q j).imp (fun h => by exact gz_m 173 (by omega)) id
    have f3 : ∀ q j : Nat, 144 ≤ q → (t ≤ q ∧ q < t + 17) ∨ J' q j = J q j := fun q j _ => (k q j).imp (fun h => by exact gz_m 174 (by omega)) id
    have hh := gh_HS_t hs hi ht hI' ok9 (fun q j _ => (g q j).imp (fun h => by unfold gh_mt; exact gz_m 175 (by omega)) id) (fz 1 5 (by exact gz_m 176 (by omega))) f2 (fz t 13 (by exact gz_m 177 (by omega))) (by have := fz t 11 (by exact gz_m 178 (by omega)); exact gz_m 179 (by omega)) (fun j _ => fz (t + 15) j (by exact gz_m 180 (by omega))) (fun w a b => by have := fz t 11 (by exact gz_m 181 (by omega)); exact gz_m 182 (by omega)) (by rw [fz (t + 3) 1 (by exact gz_m 183 (by omega)), fz (t + 1) 1 (by exact gz_m 184 (by omega))]; exact w3) (KE_SC)
    have ct := gs_ct_o hs hi ht f2 f3
    have cl := gs_cl_o hs hi ht f2
    have bT' := gs_bT_of hI' hTt.1
    have eC : gs_stc β η Ir Jr p = gs_snd β η Ir Jr (I 39 5) (gs_X β η p) := by rw [yf]; exact (if_pos yT).trans (gs_stk_85 eK nc6)
    have cg : gs_cG I J I' J' := ⟨⟨(fz 2 1 (by exact gz_m 185 (by omega))), (fz 4 1 (by exact gz_m 186 (by omega))), (fz 6 1 (by exact gz_m 187 (by omega))), (fz 8 1 (by exact gz_m 188 (by omega)))⟩, (fun k9 => ⟨(gz 3 k9 (by exact gz_m 189 (by omega))), (gz 5 k9 (by exact gz_m 190 (by omega))), (gz 7 k9 (by exact gz_m 191 (by omega))), (gz 9 k9 (by exact gz_m 192 (by omega))), (gz 18 k9 (by exact gz_m 193 (by omega)))⟩), ⟨(fz 1 13 (by exact gz_m 194 (by omega))), (fz 1 5 (by exact gz_m 195 (by omega)))⟩, fun k9 => ⟨(fz 11 k9 (by exact gz_m 196 (by omega))), (fz 12 k9 (by exact gz_m 197 (by omega))), (fz 13 k9 (by exact gz_m 198 (by omega))), (fz 15 k9 (by exact gz_m 199 (by omega))), (fz 19 k9 (by exact gz_m 200 (by omega))), (fz 14 k9 (by exact gz_m 201 (by omega)))⟩⟩
    have sp : gs_SP β η p Ir Jr z I' J' A := by
      unfold gs_SP
      rw [eC]
      refine ⟨fun h9 => ?_, fun h9 => ?_⟩
      · obtain ⟨c1, c2, d1, d2⟩ := gs_or0 p4 h9
        refine ⟨c1, c2, gs_R_same yR cg (fun i2 t2 hi2 ht2 => ⟨ht2, ?_⟩)⟩
        by_cases c9 : i2 = i
        · subst c9
          rw [← Option.some.inj (ht.symm.trans ht2)]
          exact ⟨⟨(fz (t + 1) 1 (by exact gz_m 202 (by omega))), fun k9 => (gz (t + 2) k9 (by exact gz_m 203 (by omega)))⟩, ⟨(fz (t + 3) 1 (by exact gz_m 204 (by omega))), fun k9 => (gz (t + 4) k9 (by exact gz_m 205 (by omega))), fun k9 => (fz (t + 5) k9 (by exact gz_m 206 (by omega))), fun k9 => (fz (t + 6) k9 (by exact gz_m 207 (by omega)))⟩, ⟨(fz (t + 7) 1 (by exact gz_m 208 (by omega))), fun k9 => (gz (t + 8) k9 (by exact gz_m 209 (by omega)))⟩, d1, ⟨(fz (t + 11) 1 (by exact gz_m 210 (by omega))), fun k9 => (gz (t + 12) k9 (by exact gz_m 211 (by omega))), fun k9 => (fz (t + 13) k9 (by exact gz_m 212 (by omega))), fun k9 => (fz (t + 14) k9 (by exact gz_m 213 (by omega)))⟩, (fz t 11 (by exact gz_m 214 (by omega))), (fz t 13 (by exact gz_m 215 (by omega))), cl⟩
        · exact ct i2 t2 hi2 c9 ht2
      · obtain ⟨c1, c2, s1, s18, s20⟩ := gs_or1 p4 (by exact gz_m 216 (by omega))
        refine ⟨c1, c2, s18, fun Ir' Jr' hU => ?_⟩
        obtain ⟨u1, ts⟩ := gs_STU_k hU 85 (by decide) eK
        exact gs_R_tong yR hi (fun i2 t2 _ h => h) ht cg ts rfl (gs_rO_85 c6 u1.1.2 ts) bts ct ⟨(gs_T1_fr q1 (fz (t + 1) 1 (by exact gz_m 217 (by omega))) (fun k9 => (gz (t + 2) k9 (by exact gz_m 218 (by omega)))) (ts.2.1 13 rfl rfl _) (fun k9 _ => (ts.2.2 20 rfl rfl _))), (gs_T3_fr q3 (fz (t + 3) 1 (by exact gz_m 219 (by omega))) (fun k9 => (gz (t + 4) k9 (by exact gz_m 220 (by omega)))) (fun k9 => (fz (t + 5) k9 (by exact gz_m 221 (by omega)))) (fun k9 => (fz (t + 6) k9 (by exact gz_m 222 (by omega)))) (ts.2.1 14 rfl rfl _) (fun k9 _ _ => ⟨(ts.2.2 21 rfl rfl _), (ts.2.1 24 rfl rfl _), (ts.2.1 25 rfl rfl _)⟩)), (gs_T7_fr q7 (fz (t + 7) 1 (by exact gz_m 223 (by omega))) (fun k9 => (gz (t + 8) k9 (by exact gz_m 224 (by omega)))) (ts.2.1 15 rfl rfl _) (fun k9 _ => (ts.2.2 22 rfl rfl _))), (by have h8 := u1.1.1; rw [c6] at h8; have h7 := qs; show I' t 6 = Ir' 16 (Int.toNat (i : Int)); exact gz_m 225 (by omega)), (gs_TP_fr qp (fz (t + 11) 1 (by exact gz_m 226 (by omega))) (fun k9 => (gz (t + 12) k9 (by exact gz_m 227 (by omega)))) (fun k9 => (fz (t + 13) k9 (by exact gz_m 228 (by omega)))) (fun k9 => (fz (t + 14) k9 (by exact gz_m 229 (by omega)))) (ts.2.1 17 rfl rfl _) (fun k9 _ _ => ⟨(ts.2.2 23 rfl rfl _), (ts.2.1 31 rfl rfl _), fun j9 _ => (ts.2.1 32 rfl rfl _)⟩)), ((fz t 11 (by exact gz_m 230 (by omega))).trans (qw.trans (ts.2.1 18 rfl rfl _).symm)), (gs_TL_fr ql (fz t 13 (by exact gz_m 231 (by omega))) cl (ts.2.1 19 rfl rfl _) (fun k9 _ => (ts.2.1 41 rfl rfl _)))⟩
    have sc : gs_SC β η p Ir Jr I A z I' A := by
      refine gs_SC_t hs hi ht p3 (fz 8 1 (by exact gz_m 232 (by omega))) f2 ?_
      by_cases h9 : z = 0
      · obtain ⟨c1, c2, d1, d2⟩ := gs_or0 p4 h9
        exact Or.inl ⟨fz (t + 7) 1 (by exact gz_m 233 (by omega)), fun k9 => fz (t + 9) k9 (by exact gz_m 234 (by omega)), d1, d2⟩
      · obtain ⟨c1, c2, s1, s18, s20⟩ := gs_or1 p4 (by exact gz_m 235 (by omega))
        exact Or.inr ⟨by exact gz_m 236 (by omega), by exact gz_m 237 (by omega), Or.inr ⟨eK, fz (t + 7) 1 (by exact gz_m 238 (by omega)), fun k9 => fz (t + 9) k9 (by exact gz_m 239 (by omega)), s1, s20⟩⟩
    have sd : gs_SD β η p Ir Jr I A z I' A := by
      refine gs_SD_t hs hi ht (fz 8 1 (by exact gz_m 240 (by omega))) f2 ?_
      exact Or.inl ⟨⟨fz (t + 11) 1 (by exact gz_m 241 (by omega)), fun k9 => fz (t + 13) k9 (by exact gz_m 242 (by omega)), fun k9 => fz (t + 14) k9 (by exact gz_m 243 (by omega))⟩, fz t 11 (by exact gz_m 244 (by omega)), fun k9 => fz (t + 15) k9 (by exact gz_m 245 (by omega))⟩
    exact gv_Yend ⟨z, sh, ro, I', J', A, Or.inr (Or.inl ⟨z, .boolean, hD 295 _ rfl, rfl, Or.inr ⟨rfl, by exact gz_m 246 (by omega)⟩, rfl, rfl⟩), rfl, rfl, ⟨⟨z0, z1⟩, hh.1, hh.2, KE_LT, KE_TK, ⟨p0, p1, by exact gz_m 247 (by omega), fun k9 => fz 21 k9 (by exact gz_m 248 (by omega))⟩, ⟨by exact gz_m 249 (by omega), by exact gz_m 250 (by omega), by exact gz_m 251 (by omega)⟩⟩, ⟨sp, sc, sd⟩⟩
  have n85 : ¬ gs_rn β η p = gs_W 85 := fun e9 => gs_cmpn (a := v1) (b := 495791205988) (by exact gz_m 252 (by omega)) (yv.trans ((gs_al_eq (gs_al_p yT) (gs_W_al 85 (by decide) (by decide))).mpr e9))
  show gv_Y _ _ (296, [(0, .inr (.inr (some 39))), (1, .inr (.inl v1))], [], sh, gc_h sh I J A)
  have f296 := gw_cmp v1 (31632350188499566)
  refine gv_lift (fun hk => gv_run 3 true hD (pc' := 301) (lv' := [(0, .inr (.inr (some 39))), (1, .inr (.inl v1))]) (st' := [.inl ((lg_cmp v1 (31632350188499566)).toInt)]) (h' := gc_h sh I J A) (C := (((True ∧ True) ∧ True) ∧ True)) rfl ⟨⟨⟨trivial, trivial⟩, trivial⟩, trivial⟩ hk) ?_
  refine gv_YofX (gv_if_ne (t := 309) hD rfl rfl ⟨by exact gz_m 253 (by omega), by exact gz_m 254 (by omega)⟩ (fun c => gv_Xz ?_) (fun c => gv_Xz ?_))
  rotate_left
  · show gv_Y _ _ (304, [(0, .inr (.inr (some 39))), (1, .inr (.inl v1))], [], sh, gc_h sh I J A)
    refine gv_lift (fun hk => gv_run 1 true hD (pc' := 305) (lv' := [(0, .inr (.inr (some 39))), (1, .inr (.inl v1))]) (st' := [.inr (.inr (some 39))]) (h' := gc_h sh I J A) (C := (True ∧ True)) rfl ⟨trivial, trivial⟩ hk) ?_
    have eK : gs_rn β η p = gs_W 86 := (gs_al_eq (gs_al_p yT) (gs_W_al 86 (by decide) (by decide))).mp (yv.symm.trans (gs_cmp0 (a := v1) (b := 31632350188499566) (by exact gz_m 255 (by omega))))
    obtain ⟨r9, h9, E9, P9⟩ := d_X6_readPattern_p hws htb sh ro I J A hI t B β η (gs_X β η p) Ir Jr hb hTt.1 G_t x0 y1 y2 y4 zpc.1.1 zpc.1.2 z3c.1.1 z3c.1.2 z3c.2 zpc.2 zPM x39 KLT_I KTK_I
    obtain ⟨I', J', rfl, hI', g, k, KE_LT, KE_TK, z, rfl, z0, z1, p0, p1, p2, p3, p4⟩ := P9
    refine gv_lift (fun hk => gv_callV hD rfl (As := []) (st := []) rfl (by decide) S39 rfl (gc_lV6 hws rfl) (Nat.le_of_ble_eq_true rfl) (gz_Ev_mono (d := 5) (by decide) E9) hk) ?_
    have ok9 : gc_OK sh I' J' A := gc_OK_fr hok (fun q j => (g q j).imp (fun h => by
        rcases h with ⟨rfl, rfl⟩ | ⟨rfl, rfl⟩ | ⟨rfl, rfl⟩ | ⟨rfl, rfl⟩ | ⟨rfl, rfl⟩ | ⟨rfl, rfl⟩ | ⟨rfl, rfl⟩ | ⟨rfl, rfl⟩ | rfl | ⟨rfl, rfl⟩ | ⟨rfl, rfl⟩ | rfl | ⟨rfl, rfl⟩ | ⟨rfl, rfl⟩ | ⟨rfl, rfl⟩ | rfl | rfl | ⟨rfl, rfl⟩
        · exact ⟨gc_x_lt (gc_bS hb (p := 39) rfl), gc_tyx (gc_bS hb (p := 39) rfl)⟩
        · exact ⟨gc_x_lt (gc_bS hb (p := 39) rfl), gc_tyx (gc_bS hb (p := 39) rfl)⟩
        · exact ⟨gc_x_lt (gc_bS hb (p := 23) rfl), gc_tyx (gc_bS hb (p := 23) rfl)⟩
        · exact ⟨gc_x_lt (gc_bS hb (p := 23) rfl), gc_tyx (gc_bS hb (p := 23) rfl)⟩
        · exact ⟨gc_x_lt (gc_bS hb (p := 23) rfl), gc_tyx (gc_bS hb (p := 23) rfl)⟩
        · exact ⟨gc_x_lt (gc_bS hb (p := 23) rfl), gc_tyx (gc_bS hb (p := 23) rfl)⟩
        · exact ⟨gc_x_lt (gc_bS hb (p := 1) rfl), gc_tyx (gc_bS hb (p := 1) rfl)⟩
        · exact ⟨gc_x_lt (gc_bS hb (p := 1) rfl), gc_tyx (gc_bS hb (p := 1) rfl)⟩
        · exact ⟨gc_x_lt (gc_bS hb (p := 20) rfl), gc_tyx (gc_bS hb (p := 20) rfl)⟩
        · exact ⟨gc_x_lt (gc_bS hb (p := 39) rfl), gc_tyx (gc_bS hb (p := 39) rfl)⟩
        · exact ⟨gc_x_lt (gc_bS hb (p := 39) rfl), gc_tyx (gc_bS hb (p := 39) rfl)⟩
        · exact ⟨gc_x_lt (gc_bS hb (p := 40) rfl), gc_tyx (gc_bS hb (p := 40) rfl)⟩
        · exact ⟨gc_x_lt (gc_bS hb (p := 41) rfl), gc_tyx (gc_bS hb (p := 41) rfl)⟩
        · exact ⟨gc_x_lt (gc_bS hb (p := 41) rfl), gc_tyx (gc_bS hb (p := 41) rfl)⟩
        · exact ⟨gc_x_lt (gc_bS hb (p := 41) rfl), gc_tyx (gc_bS hb (p := 41) rfl)⟩
        · exact ⟨gc_x_lt ST_13, gc_tyx ST_13⟩
        · exact ⟨gc_x_lt ST_14, gc_tyx ST_14⟩
        · exact ⟨gc_x_lt ST_11, gc_tyx ST_11⟩
        ) id) (fun q j => (k q j).imp (fun h => by first | exact False.elim h | exact gz_m 256 (by omega)) id)
    have fz : ∀ q j : Nat, ¬ ((q = 39 ∧ j = 3) ∨ (q = 39 ∧ j = 4) ∨ (q = 23 ∧ j = 5) ∨ (q = 23 ∧ j = 6) ∨ (q = 23 ∧ j = 7) ∨ (q = 23 ∧ j = 8) ∨ (q = 1 ∧ j = 17) ∨ (q = 1 ∧ j = 18) ∨ q = 20 ∨ (q = 39 ∧ j = 6) ∨ (q = 39 ∧ j = 8) ∨ q = 40 ∨ (q = 41 ∧ j = 0) ∨ (q = 41 ∧ j = 1) ∨ (q = 41 ∧ j = 2) ∨ q = (t + 13) ∨ q = (t + 14) ∨ (q = (t + 11) ∧ j = 1)) → I' q j = I q j := fun q j h => (g q j).resolve_left h
    have gz : ∀ q j : Nat, ¬ ((q = 23 ∧ j = 9) ∨ q = (t + 12)) → J' q j = J q j := fun q j h => (k q j).resolve_left h
    have f2 : ∀ q j : Nat, 144 ≤ q → (t ≤ q ∧ q < t + 17) ∨ I' q j = I q j := fun q j _ => (g q j).imp (fun h => by exact gz_m 257 (by omega)) id
    have f3 : ∀ q j : Nat, 144 ≤ q → (t ≤ q ∧ q < t + 17) ∨ J' q j = J q j := fun q j _ => (k q j).imp (fun h => by exact gz_m 258 (by omega)) id
    have hh := gh_HS_t hs hi ht hI' ok9 (fun q j _ => (g q j).imp (fun h => by unfold gh_mt; exact gz_m 259 (by omega)) id) (fz 1 5 (by exact gz_m 260 (by omega))) f2 (fz t 13 (by exact gz_m 261 (by omega))) (by have := fz t 11 (by exact gz_m 262 (by omega)); exact gz_m 263 (by omega)) (fun j _ => fz (t + 15) j (by exact gz_m 264 (by omega))) (fun w a b => by have := fz t 11 (by exact gz_m 265 (by omega)); exact gz_m 266 (by omega)) (by rw [fz (t + 3) 1 (by exact gz_m 267 (by omega)), fz (t + 1) 1 (by exact gz_m 268 (by omega))]; exact w3) (gc_sc_fr hTt.2.2 (fun k9 => fz (t + 10) k9 (by exact gz_m 269 (by omega))))
    have ct := gs_ct_o hs hi ht f2 f3
    have cl := gs_cl_o hs hi ht f2
    have bT' := gs_bT_of hI' hTt.1
    have eC : gs_stc β η Ir Jr p = gs_pat β η Ir Jr (I 39 5) (gs_X β η p) := by rw [yf]; exact (if_pos yT).trans (gs_stk_86 eK nc6)
    have cg : gs_cG I J I' J' := ⟨⟨(fz 2 1 (by exact gz_m 270 (by omega))), (fz 4 1 (by exact gz_m 271 (by omega))), (fz 6 1 (by exact gz_m 272 (by omega))), (fz 8 1 (by exact gz_m 273 (by omega)))⟩, (fun k9 => ⟨(gz 3 k9 (by exact gz_m 274 (by omega))), (gz 5 k9 (by exact gz_m 275 (by omega))), (gz 7 k9 (by exact gz_m 276 (by omega))), (gz 9 k9 (by exact gz_m 277 (by omega))), (gz 18 k9 (by exact gz_m 278 (by omega)))⟩), ⟨(fz 1 13 (by exact gz_m 279 (by omega))), (fz 1 5 (by exact gz_m 280 (by omega)))⟩, fun k9 => ⟨(fz 11 k9 (by exact gz_m 281 (by omega))), (fz 12 k9 (by exact gz_m 282 (by omega))), (fz 13 k9 (by exact gz_m 283 (by omega))), (fz 15 k9 (by exact gz_m 284 (by omega))), (fz 19 k9 (by exact gz_m 285 (by omega))), (fz 14 k9 (by exact gz_m 286 (by omega)))⟩⟩
    have sp : gs_SP β η p Ir Jr z I' J' A := by
      unfold gs_SP
      rw [eC]
      refine ⟨fun h9 => ?_, fun h9 => ?_⟩
      · obtain ⟨c1, c2, d1, d2⟩ := gs_or0 p4 h9
        refine ⟨c1, c2, gs_R_same yR cg (fun i2 t2 hi2 ht2 => ⟨ht2, ?_⟩)⟩
        by_cases c9 : i2 = i
        · subst c9
          rw [← Option.some.inj (ht.symm.trans ht2)]
          exact ⟨⟨(fz (t + 1) 1 (by exact gz_m 287 (by omega))), fun k9 => (gz (t + 2) k9 (by exact gz_m 288 (by omega)))⟩, ⟨(fz (t + 3) 1 (by exact gz_m 289 (by omega))), fun k9 => (gz (t + 4) k9 (by exact gz_m 290 (by omega))), fun k9 => (fz (t + 5) k9 (by exact gz_m 291 (by omega))), fun k9 => (fz (t + 6) k9 (by exact gz_m 292 (by omega)))⟩, ⟨(fz (t + 7) 1 (by exact gz_m 293 (by omega))), fun k9 => (gz (t + 8) k9 (by exact gz_m 294 (by omega)))⟩, (fz t 6 (by exact gz_m 295 (by omega))), ⟨d1, fun k9 => (d2 k9).1, fun k9 => (d2 k9).2.1, fun k9 => (d2 k9).2.2⟩, (fz t 11 (by exact gz_m 296 (by omega))), (fz t 13 (by exact gz_m 297 (by omega))), cl⟩
        · exact ct i2 t2 hi2 c9 ht2
      · obtain ⟨c1, c2, s1, s2, s3, s4⟩ := gs_or1 p4 (by exact gz_m 298 (by omega))
        have t1 := gs_al_p (gs_t_pat c1 fA)
        refine ⟨c1, c2, s2.2, fun Ir' Jr' hU => ?_⟩
        obtain ⟨u1, ts⟩ := gs_STU_k hU 86 (by decide) eK
        exact gs_R_tong yR hi (fun i2 t2 _ h => h) ht cg ts rfl (gs_rO_86 c6 (by have h8 := qp.1.1; rw [ei] at h8; have := bT.2.2.2.1; have := s2.1; exact gz_m 299 (by omega)) u1.1 ts) bts ct ⟨(gs_T1_fr q1 (fz (t + 1) 1 (by exact gz_m 300 (by omega))) (fun k9 => (gz (t + 2) k9 (by exact gz_m 301 (by omega)))) (ts.2.1 13 rfl rfl _) (fun k9 _ => (ts.2.2 20 rfl rfl _))), (gs_T3_fr q3 (fz (t + 3) 1 (by exact gz_m 302 (by omega))) (fun k9 => (gz (t + 4) k9 (by exact gz_m 303 (by omega)))) (fun k9 => (fz (t + 5) k9 (by exact gz_m 304 (by omega)))) (fun k9 => (fz (t + 6) k9 (by exact gz_m 305 (by omega)))) (ts.2.1 14 rfl rfl _) (fun k9 _ _ => ⟨(ts.2.2 21 rfl rfl _), (ts.2.1 24 rfl rfl _), (ts.2.1 25 rfl rfl _)⟩)), (gs_T7_fr q7 (fz (t + 7) 1 (by exact gz_m 306 (by omega))) (fun k9 => (gz (t + 8) k9 (by exact gz_m 307 (by omega)))) (ts.2.1 15 rfl rfl _) (fun k9 _ => (ts.2.2 22 rfl rfl _))), ((fz t 6 (by exact gz_m 308 (by omega))).trans (qs.trans (ts.2.1 16 rfl rfl _).symm)), (gs_TP_up qp bT.2.2.2.1.1 s2.1 (fun k9 => (bT.2.2.2.2.2 k9).2) c6 s1 s3 u1.1 t1), ((fz t 11 (by exact gz_m 309 (by omega))).trans (qw.trans (ts.2.1 18 rfl rfl _).symm)), (gs_TL_fr ql (fz t 13 (by exact gz_m 310 (by omega))) cl (ts.2.1 19 rfl rfl _) (fun k9 _ => (ts.2.1 41 rfl rfl _)))⟩
    have sc : gs_SC β η p Ir Jr I A z I' A := by
      refine gs_SC_t hs hi ht p3 (fz 8 1 (by exact gz_m 311 (by omega))) f2 ?_
      exact Or.inl ⟨fz (t + 7) 1 (by exact gz_m 312 (by omega)), fun k9 => fz (t + 9) k9 (by exact gz_m 313 (by omega)), fz t 6 (by exact gz_m 314 (by omega)), fun k9 => fz (t + 10) k9 (by exact gz_m 315 (by omega))⟩
    have sd : gs_SD β η p Ir Jr I A z I' A := by
      refine gs_SD_t hs hi ht (fz 8 1 (by exact gz_m 316 (by omega))) f2 ?_
      by_cases h9 : z = 0
      · obtain ⟨c1, c2, d1, d2⟩ := gs_or0 p4 h9
        exact Or.inl ⟨⟨d1, fun k9 => (d2 k9).2.1, fun k9 => (d2 k9).2.2⟩, fz t 11 (by exact gz_m 317 (by omega)), fun k9 => fz (t + 15) k9 (by exact gz_m 318 (by omega))⟩
      · obtain ⟨c1, c2, s1, s2, s3, s4⟩ := gs_or1 p4 (by exact gz_m 319 (by omega))
        exact Or.inr ⟨by exact gz_m 320 (by omega), by exact gz_m 321 (by omega), Or.inl ⟨eK, ⟨by have := (s1 (by exact gz_m 322 (by omega))).1; exact gz_m 323 (by omega), s3.2.1, s3.2.2.2, s3.1, s4⟩, fz t 11 (by exact gz_m 324 (by omega)), fun k9 => fz (t + 15) k9 (by exact gz_m 325 (by omega))⟩⟩
    exact gv_Yend ⟨z, sh, ro, I', J', A, Or.inr (Or.inl ⟨z, .boolean, hD 308 _ rfl, rfl, Or.inr ⟨rfl, by exact gz_m 326 (by omega)⟩, rfl, rfl⟩), rfl, rfl, ⟨⟨z0, z1⟩, hh.1, hh.2, KE_LT, KE_TK, ⟨p0, p1, by exact gz_m 327 (by omega), fun k9 => fz 21 k9 (by exact gz_m 328 (by omega))⟩, ⟨by exact gz_m 329 (by omega), by exact gz_m 330 (by omega), by exact gz_m 331 (by omega)⟩⟩, ⟨sp, sc, sd⟩⟩
  have n86 : ¬ gs_rn β η p = gs_W 86 := fun e9 => gs_cmpn (a := v1) (b := 31632350188499566) (by exact gz_m 332 (by omega)) (yv.trans ((gs_al_eq (gs_al_p yT) (gs_W_al 86 (by decide) (by decide))).mpr e9))
  show gv_Y _ _ (309, [(0, .inr (.inr (some 39))), (1, .inr (.inl v1))], [], sh, gc_h sh I J A)
  have f309 := gw_cmp v1 (2003792484)
  refine gv_lift (fun hk => gv_run 3 true hD (pc' := 314) (lv' := [(0, .inr (.inr (some 39))), (1, .inr (.inl v1))]) (st' := [.inl ((lg_cmp v1 (2003792484)).toInt)]) (h' := gc_h sh I J A) (C := (((True ∧ True) ∧ True) ∧ True)) rfl ⟨⟨⟨trivial, trivial⟩, trivial⟩, trivial⟩ hk) ?_
  refine gv_YofX (gv_if_ne (t := 324) hD rfl rfl ⟨by exact gz_m 333 (by omega), by exact gz_m 334 (by omega)⟩ (fun c => gv_Xz ?_) (fun c => gv_Xz ?_))
  rotate_left
  · show gv_Y _ _ (317, [(0, .inr (.inr (some 39))), (1, .inr (.inl v1))], [], sh, gc_h sh I J A)
    refine gv_lift (fun hk => gv_run 1 true hD (pc' := 318) (lv' := [(0, .inr (.inr (some 39))), (1, .inr (.inl v1))]) (st' := [.inr (.inr (some 39))]) (h' := gc_h sh I J A) (C := (True ∧ True)) rfl ⟨trivial, trivial⟩ hk) ?_
    have eK : gs_rn β η p = gs_W 87 := (gs_al_eq (gs_al_p yT) (gs_W_al 87 (by decide) (by decide))).mp (yv.symm.trans (gs_cmp0 (a := v1) (b := 2003792484) (by exact gz_m 335 (by omega))))
    obtain ⟨r9, h9, E9, P9⟩ := d_X6_readWord_a_p hws htb sh ro I J A hI t B β η (gs_X β η p) Ir Jr hb hTt.1 G_t x0 y1 y2 y4 zwc rgk.1 rn4.1 rn4.2 zpc.1.1 zpc.1.2 z3c.1.1 z3c.1.2 z3c.2 x39 KLT_I KTK_I
    obtain ⟨I', J', rfl, hI', g, k, KE_LT, KE_TK, z, rfl, z0, z1, p0, p1, p2, p3, p4, p5, p6, p7⟩ := P9
    refine gv_lift (fun hk => gv_callV hD rfl (As := []) (st := []) rfl (by decide) S39 rfl (gc_lV6 hws rfl) (Nat.le_of_ble_eq_true rfl) (gz_Ev_mono (d := 5) (by decide) E9) hk) ?_
    have ok9 : gc_OK sh I' J' A := gc_OK_fr hok (fun q j => (g q j).imp (fun h => by
        rcases h with ⟨rfl, rfl⟩ | ⟨rfl, rfl⟩ | ⟨rfl, rfl⟩ | ⟨rfl, rfl⟩ | ⟨rfl, rfl⟩ | ⟨rfl, rfl⟩ | ⟨rfl, rfl⟩ | ⟨rfl, rfl⟩ | rfl | ⟨rfl, rfl⟩ | ⟨rfl, rfl⟩ | rfl | ⟨rfl, h9⟩ | ⟨rfl, rfl⟩
        · exact ⟨gc_x_lt (gc_bS hb (p := 39) rfl), gc_tyx (gc_bS hb (p := 39) rfl)⟩
        · exact ⟨gc_x_lt (gc_bS hb (p := 39) rfl), gc_tyx (gc_bS hb (p := 39) rfl)⟩
        · exact ⟨gc_x_lt (gc_bS hb (p := 23) rfl), gc_tyx (gc_bS hb (p := 23) rfl)⟩
        · exact ⟨gc_x_lt (gc_bS hb (p := 23) rfl), gc_tyx (gc_bS hb (p := 23) rfl)⟩
        · exact ⟨gc_x_lt (gc_bS hb (p := 23) rfl), gc_tyx (gc_bS hb (p := 23) rfl)⟩
        · exact ⟨gc_x_lt (gc_bS hb (p := 23) rfl), gc_tyx (gc_bS hb (p := 23) rfl)⟩
        · exact ⟨gc_x_lt (gc_bS hb (p := 1) rfl), gc_tyx (gc_bS hb (p := 1) rfl)⟩
        · exact ⟨gc_x_lt (gc_bS hb (p := 1) rfl), gc_tyx (gc_bS hb (p := 1) rfl)⟩
        · exact ⟨gc_x_lt (gc_bS hb (p := 20) rfl), gc_tyx (gc_bS hb (p := 20) rfl)⟩
        · exact ⟨gc_x_lt (gc_bS hb (p := 39) rfl), gc_tyx (gc_bS hb (p := 39) rfl)⟩
        · exact ⟨gc_x_lt (gc_bS hb (p := 39) rfl), gc_tyx (gc_bS hb (p := 39) rfl)⟩
        · exact ⟨gc_x_lt (gc_bS hb (p := 41) rfl), gc_tyx (gc_bS hb (p := 41) rfl)⟩
        · exact ⟨gc_x_lt ST_15, gc_tyx ST_15⟩
        · exact ⟨gc_x_lt ST_0, gc_tyx ST_0⟩
        ) id) (fun q j => (k q j).imp (fun h => by first | exact False.elim h | exact gz_m 336 (by omega)) id)
    have fz : ∀ q j : Nat, ¬ ((q = 39 ∧ j = 3) ∨ (q = 39 ∧ j = 4) ∨ (q = 23 ∧ j = 5) ∨ (q = 23 ∧ j = 6) ∨ (q = 23 ∧ j = 7) ∨ (q = 23 ∧ j = 8) ∨ (q = 1 ∧ j = 17) ∨ (q = 1 ∧ j = 18) ∨ q = 20 ∨ (q = 39 ∧ j = 6) ∨ (q = 39 ∧ j = 7) ∨ q = 41 ∨ (q = (t + 15) ∧ (11 * I t 11 ≤ (j : Int))) ∨ (q = t ∧ j = 11)) → I' q j = I q j := fun q j h => (g q j).resolve_left h
    have gz : ∀ q j : Nat, ¬ ((q = 23 ∧ j = 9)) → J' q j = J q j := fun q j h => (k q j).resolve_left h
    have f2 : ∀ q j : Nat, 144 ≤ q → (t ≤ q ∧ q < t + 17) ∨ I' q j = I q j := fun q j _ => (g q j).imp (fun h => by exact gz_m 337 (by omega)) id
    have f3 : ∀ q j : Nat, 144 ≤ q → (t ≤ q ∧ q < t + 17) ∨ J' q j = J q j := fun q j _ => (k q j).imp (fun h => by exact gz_m 338 (by omega)) id
    have hh := gh_HS_t hs hi ht hI' ok9 (fun q j _ => (g q j).imp (fun h => by unfold gh_mt; exact gz_m 339 (by omega)) id) (fz 1 5 (by exact gz_m 340 (by omega))) f2 (fz t 13 (by exact gz_m 341 (by omega))) (by exact gz_m 342 (by omega)) (fun j hj => fz (t + 15) j (by exact gz_m 343 (by omega))) (fun w a b => by
      have e9 : 11 * w = Int.toNat (11 * I t 11) := by exact gz_m 344 (by omega)
      have e8 := p5.resolve_left (by exact gz_m 345 (by omega))
      rw [e9, fz 12 _ (by exact gz_m 346 (by omega)), fz 4 1 (by exact gz_m 347 (by omega))]
      exact e8) (by rw [fz (t + 3) 1 (by exact gz_m 348 (by omega)), fz (t + 1) 1 (by exact gz_m 349 (by omega))]; exact w3) (gc_sc_fr hTt.2.2 (fun k9 => fz (t + 10) k9 (by exact gz_m 350 (by omega))))
    have ct := gs_ct_o hs hi ht f2 f3
    have cl := gs_cl_o hs hi ht f2
    have bT' := gs_bT_of hI' hTt.1
    have eC : gs_stc β η Ir Jr p = gs_wd β η Ir Jr (I 39 5) (gs_X β η p) := by rw [yf]; exact (if_pos yT).trans (gs_stk_87 eK nc6)
    have cg : gs_cG I J I' J' := ⟨⟨(fz 2 1 (by exact gz_m 351 (by omega))), (fz 4 1 (by exact gz_m 352 (by omega))), (fz 6 1 (by exact gz_m 353 (by omega))), (fz 8 1 (by exact gz_m 354 (by omega)))⟩, (fun k9 => ⟨(gz 3 k9 (by exact gz_m 355 (by omega))), (gz 5 k9 (by exact gz_m 356 (by omega))), (gz 7 k9 (by exact gz_m 357 (by omega))), (gz 9 k9 (by exact gz_m 358 (by omega))), (gz 18 k9 (by exact gz_m 359 (by omega)))⟩), ⟨(fz 1 13 (by exact gz_m 360 (by omega))), (fz 1 5 (by exact gz_m 361 (by omega)))⟩, fun k9 => ⟨(fz 11 k9 (by exact gz_m 362 (by omega))), (fz 12 k9 (by exact gz_m 363 (by omega))), (fz 13 k9 (by exact gz_m 364 (by omega))), (fz 15 k9 (by exact gz_m 365 (by omega))), (fz 19 k9 (by exact gz_m 366 (by omega))), (fz 14 k9 (by exact gz_m 367 (by omega)))⟩⟩
    have sp : gs_SP β η p Ir Jr z I' J' A := by
      unfold gs_SP
      rw [eC]
      refine ⟨fun h9 => ?_, fun h9 => ?_⟩
      · obtain ⟨c1, c2, d1⟩ := gs_or0 p7 h9
        refine ⟨c1, c2, gs_R_same yR cg (fun i2 t2 hi2 ht2 => ⟨ht2, ?_⟩)⟩
        by_cases c9 : i2 = i
        · subst c9
          rw [← Option.some.inj (ht.symm.trans ht2)]
          exact ⟨⟨(fz (t + 1) 1 (by exact gz_m 368 (by omega))), fun k9 => (gz (t + 2) k9 (by exact gz_m 369 (by omega)))⟩, ⟨(fz (t + 3) 1 (by exact gz_m 370 (by omega))), fun k9 => (gz (t + 4) k9 (by exact gz_m 371 (by omega))), fun k9 => (fz (t + 5) k9 (by exact gz_m 372 (by omega))), fun k9 => (fz (t + 6) k9 (by exact gz_m 373 (by omega)))⟩, ⟨(fz (t + 7) 1 (by exact gz_m 374 (by omega))), fun k9 => (gz (t + 8) k9 (by exact gz_m 375 (by omega)))⟩, (fz t 6 (by exact gz_m 376 (by omega))), ⟨(fz (t + 11) 1 (by exact gz_m 377 (by omega))), fun k9 => (gz (t + 12) k9 (by exact gz_m 378 (by omega))), fun k9 => (fz (t + 13) k9 (by exact gz_m 379 (by omega))), fun k9 => (fz (t + 14) k9 (by exact gz_m 380 (by omega)))⟩, (p4.resolve_left (by exact gz_m 381 (by omega))), (fz t 13 (by exact gz_m 382 (by omega))), cl⟩
        · exact ct i2 t2 hi2 c9 ht2
      · obtain ⟨c1, c2, s18, s19⟩ := gs_or1 p7 (by exact gz_m 383 (by omega))
        refine ⟨c1, c2, s18, fun Ir' Jr' hU => ?_⟩
        obtain ⟨u1, ts⟩ := gs_STU_k hU 87 (by decide) eK
        have s11 := p3.resolve_left (by exact gz_m 384 (by omega))
        exact gs_R_tong yR hi (fun i2 t2 _ h => h) ht cg ts rfl (gs_rO_87 c6 u1.1.2 ts) bts ct ⟨(gs_T1_fr q1 (fz (t + 1) 1 (by exact gz_m 385 (by omega))) (fun k9 => (gz (t + 2) k9 (by exact gz_m 386 (by omega)))) (ts.2.1 13 rfl rfl _) (fun k9 _ => (ts.2.2 20 rfl rfl _))), (gs_T3_fr q3 (fz (t + 3) 1 (by exact gz_m 387 (by omega))) (fun k9 => (gz (t + 4) k9 (by exact gz_m 388 (by omega)))) (fun k9 => (fz (t + 5) k9 (by exact gz_m 389 (by omega)))) (fun k9 => (fz (t + 6) k9 (by exact gz_m 390 (by omega)))) (ts.2.1 14 rfl rfl _) (fun k9 _ _ => ⟨(ts.2.2 21 rfl rfl _), (ts.2.1 24 rfl rfl _), (ts.2.1 25 rfl rfl _)⟩)), (gs_T7_fr q7 (fz (t + 7) 1 (by exact gz_m 391 (by omega))) (fun k9 => (gz (t + 8) k9 (by exact gz_m 392 (by omega)))) (ts.2.1 15 rfl rfl _) (fun k9 _ => (ts.2.2 22 rfl rfl _))), ((fz t 6 (by exact gz_m 393 (by omega))).trans (qs.trans (ts.2.1 16 rfl rfl _).symm)), (gs_TP_fr qp (fz (t + 11) 1 (by exact gz_m 394 (by omega))) (fun k9 => (gz (t + 12) k9 (by exact gz_m 395 (by omega)))) (fun k9 => (fz (t + 13) k9 (by exact gz_m 396 (by omega)))) (fun k9 => (fz (t + 14) k9 (by exact gz_m 397 (by omega)))) (ts.2.1 17 rfl rfl _) (fun k9 _ _ => ⟨(ts.2.2 23 rfl rfl _), (ts.2.1 31 rfl rfl _), fun j9 _ => (ts.2.1 32 rfl rfl _)⟩)), (by have h8 := u1.1.1; rw [c6] at h8; have h7 := qw; show I' t 11 = Ir' 18 (Int.toNat (i : Int)); exact gz_m 398 (by omega)), (gs_TL_fr ql (fz t 13 (by exact gz_m 399 (by omega))) cl (ts.2.1 19 rfl rfl _) (fun k9 _ => (ts.2.1 41 rfl rfl _)))⟩
    refine gv_lift (fun hk => gv_run 1 true hD (pc' := 328) (lv' := [(0, .inr (.inr (some 39))), (1, .inr (.inl v1))]) (st' := [.inl z]) (h' := gc_h sh I' J' A) (C := (True ∧ True)) rfl ⟨trivial, trivial⟩ hk) ?_
    have sc : gs_SC β η p Ir Jr I A z I' A := by
      refine gs_SC_t hs hi ht p6 (fz 8 1 (by exact gz_m 400 (by omega))) f2 ?_
      exact Or.inl ⟨fz (t + 7) 1 (by exact gz_m 401 (by omega)), fun k9 => fz (t + 9) k9 (by exact gz_m 402 (by omega)), fz t 6 (by exact gz_m 403 (by omega)), fun k9 => fz (t + 10) k9 (by exact gz_m 404 (by omega))⟩
    have sd : gs_SD β η p Ir Jr I A z I' A := by
      refine gs_SD_t hs hi ht (fz 8 1 (by exact gz_m 405 (by omega))) f2 ?_
      by_cases h9 : z = 0
      · obtain ⟨c1, c2, d1⟩ := gs_or0 p7 h9
        exact Or.inl ⟨⟨fz (t + 11) 1 (by exact gz_m 406 (by omega)), fun k9 => fz (t + 13) k9 (by exact gz_m 407 (by omega)), fun k9 => fz (t + 14) k9 (by exact gz_m 408 (by omega))⟩, p4.resolve_left (by exact gz_m 409 (by omega)), d1⟩
      · obtain ⟨c1, c2, s18, s19⟩ := gs_or1 p7 (by exact gz_m 410 (by omega))
        exact Or.inr ⟨by exact gz_m 411 (by omega), by exact gz_m 412 (by omega), Or.inr ⟨eK, ⟨fz (t + 11) 1 (by exact gz_m 413 (by omega)), fun k9 => fz (t + 13) k9 (by exact gz_m 414 (by omega)), fun k9 => fz (t + 14) k9 (by exact gz_m 415 (by omega))⟩, p3.resolve_left (by exact gz_m 416 (by omega)), s19⟩⟩
    exact gv_Yend ⟨z, sh, ro, I', J', A, Or.inr (Or.inl ⟨z, .boolean, hD 328 _ rfl, rfl, Or.inr ⟨rfl, by exact gz_m 417 (by omega)⟩, rfl, rfl⟩), rfl, rfl, ⟨⟨z0, z1⟩, hh.1, hh.2, KE_LT, KE_TK, ⟨p0, p1, by exact gz_m 418 (by omega), fun k9 => fz 21 k9 (by exact gz_m 419 (by omega))⟩, ⟨by exact gz_m 420 (by omega), by exact gz_m 421 (by omega), by exact gz_m 422 (by omega)⟩⟩, ⟨sp, sc, sd⟩⟩
  have n87 : ¬ gs_rn β η p = gs_W 87 := fun e9 => gs_cmpn (a := v1) (b := 2003792484) (by exact gz_m 423 (by omega)) (yv.trans ((gs_al_eq (gs_al_p yT) (gs_W_al 87 (by decide) (by decide))).mpr e9))
  show gv_Y _ _ (324, [(0, .inr (.inr (some 39))), (1, .inr (.inl v1))], [], sh, gc_h sh I J A)
  refine gv_lift (fun hk => gv_run 1 true hD (pc' := 325) (lv' := [(0, .inr (.inr (some 39))), (1, .inr (.inl v1))]) (st' := [.inr (.inr (some 39))]) (h' := gc_h sh I J A) (C := (True ∧ True)) rfl ⟨trivial, trivial⟩ hk) ?_
  have eK : gs_rn β η p = gs_W 88 := by rcases hK6 with h | h | h | h | h | h; exact absurd h n83; exact absurd h n84; exact absurd h n85; exact absurd h n86; exact absurd h n87; exact h
  obtain ⟨z, a, s, sh', ro', I', J', A', EV, hR, hP⟩ := e_X6_readLin_p hw hws htb sh ro I J A hI t B hb hTt.1 G_t x0 w2 x39 KLT_I KTK_I β η (gs_X β η p) Ir Jr y1 y2 ⟨⟨rgk.1, rgk.2.1, zlc.2.1⟩, ⟨zlc.1, zlc.2.2⟩, rn4, z1c, z3c.1, z3c.2⟩ y4 hok (by exact gz_m 424 (by omega))
  refine gc_YcallV hD (ix := 155) (M := (yX6_readLin, cX6_readLin, 4, (some .boolean))) (As := []) (b := 39) (st := []) rfl rfl (by decide) S39 rfl (gc_lV6 hws rfl) (Nat.le_of_ble_eq_true rfl) (gz_Ev_mono (d := 9) (by decide) EV) (gc_okc (Or.inl (by exact gz_m 425 (by omega))) (gc_okc trivial gc_ok0)) gc_ok0 ?_
  have hh := gh_HS_l hs hi ht hR
  have eC : gs_stc β η Ir Jr p = gs_lin β η Ir Jr (I 39 5) (gs_X β η p) := by rw [yf]; exact (if_pos yT).trans (gs_stk_88 eK nc6)
  have sp : (gs_SP β η p Ir Jr z I' J' A' ∧ gs_SCV β η p Ir Jr I A z I' A') := ⟨gs_SP_88 hs yR hi ht c6 eK eC hR hP, gs_SCV_88 hs hi ht hR hP⟩
  obtain ⟨hz, hcn, hln, hx, hI', hok', hLT, hTK, fr, frJ, hrd, hres⟩ := hR
  have hA10 : ∀ i9, i9 < 8 → A' 10 i9 = A 10 i9 := fun i9 _ => by
    rcases hres with ⟨_, _, g⟩ | ⟨_, _, _, g, _⟩
    · exact g 10 i9 (by exact gz_m 426 (by omega))
    · exact g 10 i9 (by exact gz_m 427 (by omega)) (fun h9 => by have := h9.1; exact gz_m 428 (by omega))
  have nl := gh_nl_eq hA10
  exact gv_Yend ⟨z, sh', ro', I', J', A', Or.inr (Or.inl ⟨z, .boolean, hD 328 _ rfl, rfl, Or.inr ⟨rfl, by exact gz_m 429 (by omega)⟩, rfl, rfl⟩), rfl, rfl, ⟨hz, hh.1, hh.2, hLT, hTK, ⟨hrd.1, hrd.2.1, hrd.2.2, fun k9 => (fr 21 k9 (by exact gz_m 430 (by omega))).resolve_left (by exact gz_m 431 (by omega))⟩, ⟨by exact gz_m 432 (by omega), by exact gz_m 433 (by omega), by exact gz_m 434 (by omega)⟩⟩, sp⟩
