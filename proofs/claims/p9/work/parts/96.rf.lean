set_option maxHeartbeats 8000000 in
theorem gs_SP_88 {sh shₚ : gz_Sh} {ro ro' : Nat → Nat} {I Iₚ : gr_I} {J Jₚ : gr_J} {A Aₚ : gc_A} {Ir : gr_I} {Jr : gr_J} {β : Int → Int} {η p z B : Int} {a s i t : Nat} (hs : gh_HS sh ro I J A) (yR : gs_R I J A Ir Jr) (hi : (i : Int) < I 8 1) (ht : A 10 i = some t) (c6 : Ir 0 6 = (i : Int)) (eK : gs_rn β η p = gs_W 88) (eC : gs_stc β η Ir Jr p = gs_lin β η Ir Jr (I 39 5) (gs_X β η p)) (hR : gc_RL B sh ro I J A t z a s shₚ ro' Iₚ Jₚ Aₚ) (hP : gs_RLp β η (gs_X β η p) Ir Jr I t z Iₚ Jₚ Aₚ) : gs_SP β η p Ir Jr z Iₚ Jₚ Aₚ := by
  have hRT := yR.2.2.2.2.2.2.2.1 i t hi ht
  have h144 := gc_Base_len hs.1
  obtain ⟨iT, G⟩ := gs_hT9 hs hi ht
  have bT := gs_bT_of hs.2.1 iT
  obtain ⟨hz, hcn, hln, hx, hIₚ, hok', hLT, hTK, fr, frJ, hrd, hres⟩ := hR
  have f : ∀ q j : Nat, q < sh.length → ¬ q = 39 → ¬ q = 23 → ¬ (q = 1 ∧ (j = 17 ∨ j = 18)) → ¬ q = 20 → ¬ (q = t ∧ j = 13) → Iₚ q j = I q j := fun q j a b c d e g => (fr q j a).resolve_left (by omega)
  have g : ∀ q j : Nat, q < sh.length → ¬ q = 23 → Jₚ q j = J q j := fun q j a b => (frJ q j a).resolve_left (by omega)
  have cg : gs_cG I J Iₚ Jₚ := ⟨⟨f 2 1 (by omega) (by decide) (by decide) (by omega) (by decide) (by omega), f 4 1 (by omega) (by decide) (by decide) (by omega) (by decide) (by omega), f 6 1 (by omega) (by decide) (by decide) (by omega) (by decide) (by omega), f 8 1 (by omega) (by decide) (by decide) (by omega) (by decide) (by omega)⟩, fun k => ⟨g 3 k (by omega) (by decide), g 5 k (by omega) (by decide), g 7 k (by omega) (by decide), g 9 k (by omega) (by decide), g 18 k (by omega) (by decide)⟩, ⟨f 1 13 (by omega) (by decide) (by decide) (by omega) (by decide) (by omega), f 1 5 (by omega) (by decide) (by decide) (by omega) (by decide) (by omega)⟩, fun k => ⟨f 11 k (by omega) (by decide) (by decide) (by omega) (by decide) (by omega), f 12 k (by omega) (by decide) (by decide) (by omega) (by decide) (by omega), f 13 k (by omega) (by decide) (by decide) (by omega) (by decide) (by omega), f 15 k (by omega) (by decide) (by decide) (by omega) (by decide) (by omega), f 19 k (by omega) (by decide) (by decide) (by omega) (by decide) (by omega), f 14 k (by omega) (by decide) (by decide) (by omega) (by decide) (by omega)⟩⟩
  -- a TONGUE's cells lie below the pool's old end
  have low : ∀ i2 t2 : Nat, (i2 : Int) < I 8 1 → A 10 i2 = some t2 → 144 ≤ t2 ∧ t2 + 16 < sh.length := fun i2 t2 h2 ht2 => by
    obtain ⟨iT2, G2⟩ := gs_hT9 hs h2 ht2
    obtain ⟨S_t, R_t, B_t, A_t_0, h_t_1, A_t_1, h_t_3, A_t_2, S_t_5, R_t_5, B_t_5, A_t_3, S_t_6, R_t_6, B_t_6, A_t_4, h_t_7, A_t_5, S_t_9, R_t_9, B_t_9, A_t_7, S_t_10, R_t_10, B_t_10, A_t_8, h_t_11, A_t_9, S_t_13, R_t_13, B_t_13, A_t_10, S_t_14, R_t_14, B_t_14, A_t_12, S_t_15, R_t_15, B_t_15, A_t_14, S_t_16, R_t_16, B_t_16, A_t_15, h_t_17⟩ := id iT2
    exact ⟨G2, gc_x_lt S_t_16⟩
  -- cells of any TONGUE, but the number of LINS of the one at hand
  have fT : ∀ i2 t2 q j : Nat, (i2 : Int) < I 8 1 → A 10 i2 = some t2 → t2 ≤ q → q < t2 + 17 → ¬ (q = t ∧ j = 13) → Iₚ q j = I q j := fun i2 t2 q j h2 ht2 h3 h4 h5 => by
    obtain ⟨l1, l2⟩ := low i2 t2 h2 ht2
    exact f q j (by omega) (by omega) (by omega) (by omega) (by omega) h5
  have gT : ∀ i2 t2 q j : Nat, (i2 : Int) < I 8 1 → A 10 i2 = some t2 → t2 ≤ q → q < t2 + 17 → Jₚ q j = J q j := fun i2 t2 q j h2 ht2 h3 h4 => by
    obtain ⟨l1, l2⟩ := low i2 t2 h2 ht2
    exact g q j (by omega) (by omega)
  have cL : (∀ i2 t2 k : Nat, (i2 : Int) < I 8 1 → A 10 i2 = some t2 → (k : Int) < I t2 13 → Aₚ (t2 + 16) k = A (t2 + 16) k) → ∀ i2 t2 : Nat, (i2 : Int) < I 8 1 → A 10 i2 = some t2 → ∀ k q : Nat, (k : Int) < I t2 13 → Aₚ (t2 + 16) k = some q → A (t2 + 16) k = some q ∧ Iₚ q 1 = I q 1 := fun hA i2 t2 h2 ht2 k q hk hq => by
    have hq2 := (hA i2 t2 k h2 ht2 hk).symm.trans hq
    obtain ⟨b1, b2⟩ := gs_hL9 hs h2 ht2 k q hk hq2
    have ql := gc_x_lt b2.1
    exact ⟨hq2, f q 1 ql (by omega) (by omega) (by omega) (by omega) (by omega)⟩
  have cT : ∀ i2 t2 : Nat, (i2 : Int) < I 8 1 → A 10 i2 = some t2 → (∀ k q : Nat, (k : Int) < I t2 13 → Aₚ (t2 + 16) k = some q → A (t2 + 16) k = some q ∧ Iₚ q 1 = I q 1) → Iₚ t2 13 = I t2 13 → gs_cT t2 I J A Iₚ Jₚ Aₚ := fun i2 t2 h2 ht2 cl e13 => by
    have fz : ∀ q j : Nat, t2 ≤ q → q < t2 + 17 → ¬ (q = t ∧ j = 13) → Iₚ q j = I q j := fun q j => fT i2 t2 q j h2 ht2
    have gz : ∀ q j : Nat, t2 ≤ q → q < t2 + 17 → Jₚ q j = J q j := fun q j => gT i2 t2 q j h2 ht2
    have dj : ∀ d : Nat, 1 ≤ d → d < 17 → ¬ t2 + d = t := fun d d1 d2 e => by
      by_cases c : i2 = i
      · subst c
        have := Option.some.inj (ht.symm.trans ht2)
        omega
      · have := gs_hJ9 hs hi ht h2 ht2 c
        omega
    exact ⟨⟨fz _ _ (by omega) (by omega) (by omega), fun k => gz _ _ (by omega) (by omega)⟩, ⟨fz _ _ (by omega) (by omega) (by omega), fun k => gz _ _ (by omega) (by omega), fun k => fz _ _ (by omega) (by omega) (fun h => dj 5 (by decide) (by decide) h.1), fun k => fz _ _ (by omega) (by omega) (fun h => dj 6 (by decide) (by decide) h.1)⟩, ⟨fz _ _ (by omega) (by omega) (by omega), fun k => gz _ _ (by omega) (by omega)⟩, fz _ _ (by omega) (by omega) (by omega), ⟨fz _ _ (by omega) (by omega) (by omega), fun k => gz _ _ (by omega) (by omega), fun k => fz _ _ (by omega) (by omega) (fun h => dj 13 (by decide) (by decide) h.1), fun k => fz _ _ (by omega) (by omega) (fun h => dj 14 (by decide) (by decide) h.1)⟩, fz _ _ (by omega) (by omega) (by omega), e13, cl⟩
  have e13 : ∀ i2 t2 : Nat, (i2 : Int) < I 8 1 → ¬ i2 = i → A 10 i2 = some t2 → Iₚ t2 13 = I t2 13 := fun i2 t2 h2 hne ht2 => by
    have := gs_hJ9 hs hi ht h2 ht2 hne
    exact fT i2 t2 t2 13 h2 ht2 (by omega) (by omega) (by omega)
  unfold gs_SP
  rw [eC]
  refine ⟨fun h9 => ?_, fun h9 => ?_⟩
  · obtain ⟨c1, c2⟩ := hP.1 h9
    rcases hres with ⟨_, n1, hA⟩ | ⟨n0, _⟩
    · refine ⟨c1, c2, gs_R_same yR cg (fun i2 t2 hi2 ht2 => ?_)⟩
      have ht3 : A 10 i2 = some t2 := (hA 10 i2 (by omega)).symm.trans ht2
      refine ⟨ht3, cT i2 t2 hi2 ht3 (cL (fun i3 t3 k h3 ht4 hk => hA _ _ (low i3 t3 h3 ht4).2) i2 t2 hi2 ht3) ?_⟩
      by_cases c : i2 = i
      · subst c
        rw [← Option.some.inj (ht.symm.trans ht3)]
        exact n1
      · exact e13 i2 t2 hi2 c ht3
    · omega
  · obtain ⟨c1, c18, cLn, c4⟩ := hP.2.1 h9
    refine ⟨c1.1, c1.2, c18, fun Irₚ Jrₚ hU => ?_⟩
    obtain ⟨u1, ts⟩ := gs_STU_k hU 88 (by decide) eK
    rcases hres with ⟨n0, _⟩ | ⟨_, n1, n383, hA, L, L1, L2, L3, L4, L5, L6, L7, L8⟩
    · omega
    have ei : Int.toNat (i : Int) = i := by omega
    have hf0 := cLn L L3
    have i4 : 0 ≤ Iₚ 4 1 ∧ Iₚ 4 1 ≤ 96 := by
      have e4 := cg.1.2.1
      have h4 : 0 ≤ I 4 1 ∧ I 4 1 ≤ 96 := gc_in hs.2.1 (gc_bR hs.1 (by decide) rfl) rfl rfl
      omega
    have hA10 : ∀ i2 t2 : Nat, (i2 : Int) < I 8 1 → Aₚ 10 i2 = some t2 → A 10 i2 = some t2 := fun i2 t2 h2 ht2 => (hA 10 i2 (by omega) (fun h => by have := h.1; omega)).symm.trans ht2
    have hAl : ∀ i2 t2 k : Nat, (i2 : Int) < I 8 1 → A 10 i2 = some t2 → (k : Int) < I t2 13 → Aₚ (t2 + 16) k = A (t2 + 16) k := fun i2 t2 k h2 ht2 hk => hA _ _ (low i2 t2 h2 ht2).2 (fun h => by
      by_cases c : i2 = i
      · subst c
        have e := Option.some.inj (ht.symm.trans ht2)
        rw [← e] at hk
        have := h.2
        have := bT.2.2.2.2.1
        omega
      · have := gs_hJ9 hs hi ht h2 ht2 c
        have := h.1
        omega)
    have cl := cL hAl
    obtain ⟨q1, q3, q7, qs, qp, qw, ql⟩ := hRT
    have fz : ∀ q j : Nat, t ≤ q → q < t + 17 → ¬ (q = t ∧ j = 13) → Iₚ q j = I q j := fun q j => fT i t q j hi ht
    have gz : ∀ q j : Nat, t ≤ q → q < t + 17 → Jₚ q j = J q j := fun q j => gT i t q j hi ht
    have ht' : Aₚ 10 i = some t := (hA 10 i (by omega) (fun h => by have := h.1; omega)).trans ht
    have q19 := ql.1
    rw [ei] at q19
    refine gs_R_tong (m := [19, 41]) yR hi hA10 ht' cg ts rfl (gs_rO_88 c6 (by have := bT.2.2.2.2.1; omega) u1 ts) (fun i2 t2 h2 ht2 => gs_bT_of hs.2.1 (gs_hT9 hs h2 ht2).1) (fun i2 t2 h2 hne ht2 => cT i2 t2 h2 ht2 (cl i2 t2 h2 ht2) (e13 i2 t2 h2 hne ht2)) ⟨gs_T1_fr q1 (fz _ _ (by omega) (by omega) (by omega)) (fun k => gz _ _ (by omega) (by omega)) (ts.2.1 13 rfl rfl _) (fun k _ => ts.2.2 20 rfl rfl _), gs_T3_fr q3 (fz _ _ (by omega) (by omega) (by omega)) (fun k => gz _ _ (by omega) (by omega)) (fun k => fz _ _ (by omega) (by omega) (by omega)) (fun k => fz _ _ (by omega) (by omega) (by omega)) (ts.2.1 14 rfl rfl _) (fun k _ _ => ⟨ts.2.2 21 rfl rfl _, ts.2.1 24 rfl rfl _, ts.2.1 25 rfl rfl _⟩), gs_T7_fr q7 (fz _ _ (by omega) (by omega) (by omega)) (fun k => gz _ _ (by omega) (by omega)) (ts.2.1 15 rfl rfl _) (fun k _ => ts.2.2 22 rfl rfl _), (fz t 6 (by omega) (by omega) (by omega)).trans (qs.trans (ts.2.1 16 rfl rfl _).symm), gs_TP_fr qp (fz _ _ (by omega) (by omega) (by omega)) (fun k => gz _ _ (by omega) (by omega)) (fun k => fz _ _ (by omega) (by omega) (by omega)) (fun k => fz _ _ (by omega) (by omega) (by omega)) (ts.2.1 17 rfl rfl _) (fun k _ _ => ⟨ts.2.2 23 rfl rfl _, ts.2.1 31 rfl rfl _, fun j _ => ts.2.1 32 rfl rfl _⟩), (fz t 11 (by omega) (by omega) (by omega)).trans (qw.trans (ts.2.1 18 rfl rfl _).symm), ?_⟩
    refine gs_TL_up (L := L) ql bT.2.2.2.2.1.1 (by omega) ?_ c6 n1 (cl i t hi ht) (fun q hq => cLn q hq) u1
    have e : gs_lfi (i : Int) Ir = gs_lf Ir := by
      rw [← c6]
      rfl
    rw [e, ql.1, ← c6]
    exact c4
set_option maxHeartbeats 8000000 in
set_option maxRecDepth 100000 in
theorem gh_rs4_p {ws0 : List Cond} {tb : String → gz_T} (hw : gc_Wn ws0) (hws : gc_Ws ws0) (htb : gc_tbs tb) {sh : gz_Sh} {ro : Nat → Nat} {I : gr_I} {J : gr_J} {A : gc_A} (v1 : Int64) (hs : gh_HS sh ro I J A) (B : Int) (x0 : B ≤ 1280 ∧ I 1 17 + I 23 1 ≤ B + I 23 5) (KLT_I : gc_LT I) (KTK_I : gc_TK I) (hlen : sh.length + 25 ≤ 1000000) (β : Int → Int) (η p : Int) (Ir : gr_I) (Jr : gr_J) (yT : gs_T β η p = 1) (yv : v1 = gs_M β η p) (yf : I 39 5 = gs_A β η p) (y1 : gc_AT β η (gs_X β η p) 23 I J) (y2 : 0 ≤ gs_X β η p) (y4 : I 1 18 = 0) (yR : gs_R I J A Ir Jr) (yS : gs_RV I A Ir) (hK6 : gs_K6 (gs_rn β η p)) {i t : Nat} (hi : (i : Int) < I 8 1) (ht : A 10 i = some t) (hc5 : I 1 5 = (i : Int)) (x39 : I 39 2 = (t : Int)) : gv_Y (gc_E6 ws0 tb 91 (yX6_readStatement, cX6_readStatement, 4, (some .boolean)) kX6_readStatement) (gh_QSp B sh ro I A β η p Ir Jr) (257, [(0, .inr (.inr (some 39))), (1, .inr (.inl v1))], [], sh, gc_h sh I J A) := by
  have hb := hs.1
  have hI := hs.2.1
  have hok := hs.2.2.1
  have hcu := hs.2.2.2.2.2.2
  have h144 := gc_Base_len hb
  have i8 : 0 ≤ I 8 1 ∧ I 8 1 ≤ 8 := gc_in hI (gc_bR hb (by decide) rfl) rfl rfl
  have S39 : sh[39]? = some (false, 6, 19) := gc_bS_39 hb
  have S1 : sh[1]? = some (false, 8, 21) := gc_bS_1 hb
  have A39 : A 39 0 = some 1 := gc_bA_39_0 hb
  have hD : gv_D (gc_E6 ws0 tb 91 (yX6_readStatement, cX6_readStatement, 4, (some .boolean)) kX6_readStatement) := gq_of oX6_readStatement
  obtain ⟨rn2, rn4, rn6, rn8, rgf, rgk, rc5, rT, r00⟩ := id yR
  have fA : 0 ≤ gs_A β η (gs_X β η p) := by have h9 := (gc_AT_l y1).2.1; have h8 : 0 ≤ I 23 5 ∧ I 23 5 ≤ 1000 := gc_in hI (gc_bR hb (by decide) rfl) rfl rfl; (/-0-/first | omega | (simp only [gz_hd] at *; omega))
  have hTt := hs.2.2.2.1.1 i t (by (/-1-/first | omega | (simp only [gz_hd] at *; omega))) ht
  obtain ⟨u9, w1, w2, w3, w4, w5⟩ := hs.2.2.2.2.1 i hi
  cases w1.symm.trans ht
  obtain ⟨b0, b1, b2, b3, b4, b5, b6, b7, b8, b9, b10, b11, b12, b13, b14, b15, b16, b17, b18, b19, b20, b21, b22, b23, b24, b25, b26, b27, b28, b29, b30, b31, b32, b33, b34, b35, b36, b37, b38, b39, b40, b41, b42, b43, b44⟩ := id hTt.1
  have ST_0 := b0
  have ST_1 := b4.1
  have ST_2 : sh[t + 2]? = _ := b4.2.2.2.2.1
  have ST_3 := b6.1
  have ST_4 : sh[t + 4]? = _ := b6.2.2.2.2.1
  have ST_5 := b8
  have ST_6 := b12
  have ST_7 := b16.1
  have ST_8 : sh[t + 8]? = _ := b16.2.2.2.2.1
  have ST_9 := b18
  have ST_10 := b22
  have ST_11 := b26.1
  have ST_12 : sh[t + 12]? = _ := b26.2.2.2.2.1
  have ST_13 := b28
  have ST_14 := b32
  have ST_15 := b36
  have ST_16 := b40
  have lt16 := gc_x_lt ST_16
  have G_t := hTt.2.1
  have c6 : Ir 0 6 = (i : Int) := rc5.symm.trans hc5
  have nc6 : ¬ Ir 0 6 < 0 := by (/-2-/first | omega | (simp only [gz_hd] at *; omega))
  have hRT := rT i t hi ht
  have hRc : gs_RT (Ir 0 6) t Ir Jr I J A := by rw [c6]; exact hRT
  have bT := gs_bT_of hI hTt.1
  have bts : ∀ i2 t2 : Nat, (i2 : Int) < I 8 1 → A 10 i2 = some t2 → gs_bT t2 I := fun i2 t2 h2 ht2 => gs_bT_of hI (gs_hT9 hs h2 ht2).1
  obtain ⟨q1, q3, q7, qs, qp, qw, ql⟩ := id hRT
  obtain ⟨z1c, z3c, z7c, zsc, zpc, zwc, zlc⟩ := id hRc
  have zMA : gs_MA Ir I t := fun k9 hk9 => by rw [c6]; exact (yS.1 i t hi ht).1 k9 hk9
  have zPM : gs_PM Ir I t := fun f9 a9 b9 j9 hj9 => by rw [c6]; exact (yS.2.2 i t hi ht).1 f9 a9 b9 j9 hj9
  have ei : Int.toNat (i : Int) = i := by (/-3-/first | omega | (simp only [gz_hd] at *; omega))
  show gv_Y _ _ (257, [(0, .inr (.inr (some 39))), (1, .inr (.inl v1))], [], sh, gc_h sh I J A)
  have f257 := gz_hi (gw_cmp v1 (28821916864574053))
  refine gv_lift (fun hk => gv_run 3 true hD (pcₚ := 262) (lvₚ := [(0, .inr (.inr (some 39))), (1, .inr (.inl v1))]) (stₚ := [.inl ((lg_cmp v1 (28821916864574053)).toInt)]) (hₚ := gc_h sh I J A) (C := (((True ∧ True) ∧ True) ∧ True)) rfl ⟨⟨⟨trivial, trivial⟩, trivial⟩, trivial⟩ hk) ?_
  refine gv_YofX (gv_if_ne (t := 270) hD rfl rfl ⟨by (/-4-/first | (have o1 := gz_sh f257; omega) | (simp only [gz_hd] at *; omega)), by (/-5-/first | (have o1 := gz_sh f257; omega) | (simp only [gz_hd] at *; omega))⟩ (fun c => gv_Xz ?_) (fun c => gv_Xz ?_))
  rotate_left
  · show gv_Y _ _ (265, [(0, .inr (.inr (some 39))), (1, .inr (.inl v1))], [], sh, gc_h sh I J A)
    refine gv_lift (fun hk => gv_run 1 true hD (pcₚ := 266) (lvₚ := [(0, .inr (.inr (some 39))), (1, .inr (.inl v1))]) (stₚ := [.inr (.inr (some 39))]) (hₚ := gc_h sh I J A) (C := (True ∧ True)) rfl ⟨trivial, trivial⟩ hk) ?_
    have eK : gs_rn β η p = gs_W 83 := (gs_al_eq (gs_al_p yT) (gs_W_al 83 (by decide) (by decide))).mp (yv.symm.trans (gs_cmp0 (a := v1) (b := 28821916864574053) (by (/-6-/first | omega | (simp only [gz_hd] at *; omega)))))
    obtain ⟨r9, h9, E9, P9⟩ := d_X6_readFeature_p hws htb sh ro I J A hI t β η (gs_X β η p) Ir Jr hb hTt.1 G_t w3 y1 y2 y4 z1c.1 z1c.2 z3c.1.1 z3c.1.2 x39 KLT_I KTK_I
    obtain ⟨Iₚ, Jₚ, rfl, hIₚ, g, k, KE_LT, KE_TK, z, rfl, z0, z1, p0, p1, p2, p3⟩ := P9
    refine gv_lift (fun hk => gv_callV hD rfl (As := []) (st := []) rfl (by decide) S39 rfl (gc_lV6 hws rfl) (Nat.le_of_ble_eq_true rfl) (gz_Ev_mono (d := 5) (by decide) E9) hk) ?_
    have ok9 : gc_OK sh Iₚ Jₚ A := gc_OK_fr hok (fun q j => (g q j).imp (fun h => by
        rcases h with ⟨rfl, rfl⟩ | ⟨rfl, rfl⟩ | ⟨rfl, rfl⟩ | ⟨rfl, rfl⟩ | ⟨rfl, rfl⟩ | ⟨rfl, rfl⟩ | rfl | rfl | ⟨rfl, rfl⟩ | ⟨rfl, rfl⟩
        · exact ⟨gc_x_lt (gc_bS hb (p := 39) rfl), gc_tyx (gc_bS hb (p := 39) rfl)⟩
        · exact ⟨gc_x_lt (gc_bS hb (p := 39) rfl), gc_tyx (gc_bS hb (p := 39) rfl)⟩
        · exact ⟨gc_x_lt (gc_bS hb (p := 23) rfl), gc_tyx (gc_bS hb (p := 23) rfl)⟩
        · exact ⟨gc_x_lt (gc_bS hb (p := 23) rfl), gc_tyx (gc_bS hb (p := 23) rfl)⟩
        · exact ⟨gc_x_lt (gc_bS hb (p := 23) rfl), gc_tyx (gc_bS hb (p := 23) rfl)⟩
        · exact ⟨gc_x_lt (gc_bS hb (p := 23) rfl), gc_tyx (gc_bS hb (p := 23) rfl)⟩
        · exact ⟨gc_x_lt ST_5, gc_tyx ST_5⟩
        · exact ⟨gc_x_lt ST_6, gc_tyx ST_6⟩
        · exact ⟨gc_x_lt ST_3, gc_tyx ST_3⟩
        · exact ⟨gc_x_lt ST_1, gc_tyx ST_1⟩
        ) id) (fun q j => (k q j).imp (fun h => by first | exact False.elim h | (/-7-/first | omega | (simp only [gz_hd] at *; omega))) id)
    have fz : ∀ q j : Nat, ¬ ((q = 39 ∧ j = 3) ∨ (q = 39 ∧ j = 4) ∨ (q = 23 ∧ j = 5) ∨ (q = 23 ∧ j = 6) ∨ (q = 23 ∧ j = 7) ∨ (q = 23 ∧ j = 8) ∨ q = (t + 5) ∨ q = (t + 6) ∨ (q = (t + 3) ∧ j = 1) ∨ (q = (t + 1) ∧ j = 1)) → Iₚ q j = I q j := fun q j h => (g q j).resolve_left h
    have gz : ∀ q j : Nat, ¬ ((q = 23 ∧ j = 9) ∨ q = 42 ∨ q = (t + 4) ∨ q = (t + 2)) → Jₚ q j = J q j := fun q j h => (k q j).resolve_left h
    have h17 := fz 1 17 (by (/-8-/first | omega | (simp only [gz_hd] at *; omega)))
    have f2 : ∀ q j : Nat, 144 ≤ q → (t ≤ q ∧ q < t + 17) ∨ Iₚ q j = I q j := fun q j _ => (g q j).imp (fun h => by (/-9-/first | (and_intros <;> omega) | (simp only [gz_hd] at *; omega))) id
    have f3 : ∀ q j : Nat, 144 ≤ q → (t ≤ q ∧ q < t + 17) ∨ Jₚ q j = J q j := fun q j _ => (k q j).imp (fun h => by (/-10-/first | (and_intros <;> omega) | (simp only [gz_hd] at *; omega))) id
    have hh := gh_HS_t hs hi ht hIₚ ok9 (fun q j _ => (g q j).imp (fun h => by unfold gh_mt; (/-11-/first | omega | (simp only [gz_hd] at *; omega))) id) (fz 1 5 (by (/-12-/first | omega | (simp only [gz_hd] at *; omega)))) f2 (fz t 13 (by (/-13-/first | omega | (simp only [gz_hd] at *; omega)))) (by have := fz t 11 (by (/-14-/first | omega | (simp only [gz_hd] at *; omega))); (/-15-/first | omega | (simp only [gz_hd] at *; omega))) (fun j _ => fz (t + 15) j (by (/-16-/first | omega | (simp only [gz_hd] at *; omega)))) (fun w a b => by have := fz t 11 (by (/-17-/first | omega | (simp only [gz_hd] at *; omega))); (/-18-/first | (and_intros <;> omega) | (simp only [gz_hd] at *; omega))) (p2) (gc_sc_fr hTt.2.2 (fun k9 => fz (t + 10) k9 (by (/-19-/first | omega | (simp only [gz_hd] at *; omega)))))
    have ct := gs_ct_o hs hi ht f2 f3
    have cl := gs_cl_o hs hi ht f2
    have bT' := gs_bT_of hIₚ hTt.1
    have eC : gs_stc β η Ir Jr p = gs_fea β η Ir Jr (I 39 5) (gs_X β η p) := by rw [yf]; exact (if_pos yT).trans (gs_stk_83 eK nc6)
    have cg : gs_cG I J Iₚ Jₚ := ⟨⟨(fz 2 1 (by (/-20-/first | omega | (simp only [gz_hd] at *; omega)))), (fz 4 1 (by (/-21-/first | omega | (simp only [gz_hd] at *; omega)))), (fz 6 1 (by (/-22-/first | omega | (simp only [gz_hd] at *; omega)))), (fz 8 1 (by (/-23-/first | omega | (simp only [gz_hd] at *; omega))))⟩, (fun k9 => ⟨(gz 3 k9 (by (/-24-/first | omega | (simp only [gz_hd] at *; omega)))), (gz 5 k9 (by (/-25-/first | omega | (simp only [gz_hd] at *; omega)))), (gz 7 k9 (by (/-26-/first | omega | (simp only [gz_hd] at *; omega)))), (gz 9 k9 (by (/-27-/first | omega | (simp only [gz_hd] at *; omega)))), (gz 18 k9 (by (/-28-/first | omega | (simp only [gz_hd] at *; omega))))⟩), ⟨(fz 1 13 (by (/-29-/first | omega | (simp only [gz_hd] at *; omega)))), (fz 1 5 (by (/-30-/first | omega | (simp only [gz_hd] at *; omega))))⟩, fun k9 => ⟨(fz 11 k9 (by (/-31-/first | omega | (simp only [gz_hd] at *; omega)))), (fz 12 k9 (by (/-32-/first | omega | (simp only [gz_hd] at *; omega)))), (fz 13 k9 (by (/-33-/first | omega | (simp only [gz_hd] at *; omega)))), (fz 15 k9 (by (/-34-/first | omega | (simp only [gz_hd] at *; omega)))), (fz 19 k9 (by (/-35-/first | omega | (simp only [gz_hd] at *; omega)))), (fz 14 k9 (by (/-36-/first | omega | (simp only [gz_hd] at *; omega))))⟩⟩
    have sp : gs_SP β η p Ir Jr z Iₚ Jₚ A := by
      unfold gs_SP
      rw [eC]
      refine ⟨fun h9 => ?_, fun h9 => ?_⟩
      · obtain ⟨c1, c2, d1, d2, d3⟩ := gs_or0 p3 h9
        refine ⟨c1, c2, gs_R_same yR cg (fun i2 t2 hi2 ht2 => ⟨ht2, ?_⟩)⟩
        by_cases c9 : i2 = i
        · subst c9
          rw [← Option.some.inj (ht.symm.trans ht2)]
          exact ⟨⟨d1, fun k9 => (d3 k9).1⟩, ⟨d2, fun k9 => (d3 k9).2.1, fun k9 => (d3 k9).2.2.1, fun k9 => (d3 k9).2.2.2⟩, ⟨(fz (t + 7) 1 (by (/-37-/first | omega | (simp only [gz_hd] at *; omega)))), fun k9 => (gz (t + 8) k9 (by (/-38-/first | omega | (simp only [gz_hd] at *; omega))))⟩, (fz t 6 (by (/-39-/first | omega | (simp only [gz_hd] at *; omega)))), ⟨(fz (t + 11) 1 (by (/-40-/first | omega | (simp only [gz_hd] at *; omega)))), fun k9 => (gz (t + 12) k9 (by (/-41-/first | omega | (simp only [gz_hd] at *; omega)))), fun k9 => (fz (t + 13) k9 (by (/-42-/first | omega | (simp only [gz_hd] at *; omega)))), fun k9 => (fz (t + 14) k9 (by (/-43-/first | omega | (simp only [gz_hd] at *; omega))))⟩, (fz t 11 (by (/-44-/first | omega | (simp only [gz_hd] at *; omega)))), (fz t 13 (by (/-45-/first | omega | (simp only [gz_hd] at *; omega)))), cl⟩
        · exact ct i2 t2 hi2 c9 ht2
      · obtain ⟨c1, c2, s1, s2, s3⟩ := gs_or1 p3 (by (/-46-/first | omega | (simp only [gz_hd] at *; omega)))
        have t1 := gz_hi (gs_al_p (gs_t_fea c1 fA))
        refine ⟨c1, c2, (fz 1 18 (by (/-47-/first | omega | (simp only [gz_hd] at *; omega)))).trans y4, fun Irₚ Jrₚ hU => ?_⟩
        obtain ⟨u1, ts⟩ := gs_STU_k hU 83 (by decide) eK
        exact gs_R_tong yR hi (fun i2 t2 _ h => h) ht cg ts rfl (gs_rO_83 c6 (by have h8 := q1.1; rw [ei] at h8; have := bT.1; (/-48-/first | (and_intros <;> omega) | (simp only [gz_hd] at *; omega))) (by have h8 := q3.1.1; rw [ei] at h8; have h7 := s3.1; have := bT'.2.1; have := bT.2.1; (/-49-/first | (and_intros <;> omega) | (simp only [gz_hd] at *; omega))) u1 ts) bts ct ⟨(gs_T1_up q1 bT.1.1 s2 s1 c6 u1 (gz_sh t1)), (gs_T3_up q3 q1.1 bT.2.1.1 c6 s3 u1 (fun k9 hk9 => gs_al_p (gs_cn_t 7 _ k9 (by (/-50-/first | omega | (simp only [gz_hd] at *; omega)))))), (gs_T7_fr q7 (fz (t + 7) 1 (by (/-51-/first | omega | (simp only [gz_hd] at *; omega)))) (fun k9 => (gz (t + 8) k9 (by (/-52-/first | omega | (simp only [gz_hd] at *; omega))))) (ts.2.1 15 rfl rfl _) (fun k9 _ => (ts.2.2 22 rfl rfl _))), ((fz t 6 (by (/-53-/first | omega | (simp only [gz_hd] at *; omega)))).trans (qs.trans (ts.2.1 16 rfl rfl _).symm)), (gs_TP_fr qp (fz (t + 11) 1 (by (/-54-/first | omega | (simp only [gz_hd] at *; omega)))) (fun k9 => (gz (t + 12) k9 (by (/-55-/first | omega | (simp only [gz_hd] at *; omega))))) (fun k9 => (fz (t + 13) k9 (by (/-56-/first | omega | (simp only [gz_hd] at *; omega))))) (fun k9 => (fz (t + 14) k9 (by (/-57-/first | omega | (simp only [gz_hd] at *; omega))))) (ts.2.1 17 rfl rfl _) (fun k9 _ _ => ⟨(ts.2.2 23 rfl rfl _), (ts.2.1 31 rfl rfl _), fun j9 _ => (ts.2.1 32 rfl rfl _)⟩)), ((fz t 11 (by (/-58-/first | omega | (simp only [gz_hd] at *; omega)))).trans (qw.trans (ts.2.1 18 rfl rfl _).symm)), (gs_TL_fr ql (fz t 13 (by (/-59-/first | omega | (simp only [gz_hd] at *; omega)))) cl (ts.2.1 19 rfl rfl _) (fun k9 _ => (ts.2.1 41 rfl rfl _)))⟩
    have sc : gs_SC β η p Ir Jr I A z Iₚ A := by
      refine gs_SC_t hs hi ht (gc_PKs_fr gc_PKs_rf (fz 1 17 (by (/-60-/first | omega | (simp only [gz_hd] at *; omega)))) (fun k9 => fz 20 k9 (by (/-61-/first | omega | (simp only [gz_hd] at *; omega))))) (fz 8 1 (by (/-62-/first | omega | (simp only [gz_hd] at *; omega)))) f2 ?_
      exact Or.inl ⟨fz (t + 7) 1 (by (/-63-/first | omega | (simp only [gz_hd] at *; omega))), fun k9 => fz (t + 9) k9 (by (/-64-/first | omega | (simp only [gz_hd] at *; omega))), fz t 6 (by (/-65-/first | omega | (simp only [gz_hd] at *; omega))), fun k9 => fz (t + 10) k9 (by (/-66-/first | omega | (simp only [gz_hd] at *; omega)))⟩
    have sd : gs_SD β η p Ir Jr I A z Iₚ A := by
      refine gs_SD_t hs hi ht (fz 8 1 (by (/-67-/first | omega | (simp only [gz_hd] at *; omega)))) f2 ?_
      exact Or.inl ⟨⟨fz (t + 11) 1 (by (/-68-/first | omega | (simp only [gz_hd] at *; omega))), fun k9 => fz (t + 13) k9 (by (/-69-/first | omega | (simp only [gz_hd] at *; omega))), fun k9 => fz (t + 14) k9 (by (/-70-/first | omega | (simp only [gz_hd] at *; omega)))⟩, fz t 11 (by (/-71-/first | omega | (simp only [gz_hd] at *; omega))), fun k9 => fz (t + 15) k9 (by (/-72-/first | omega | (simp only [gz_hd] at *; omega)))⟩
    exact gv_Yend ⟨z, sh, ro, Iₚ, Jₚ, A, Or.inr (Or.inl ⟨z, .boolean, hD 269 _ rfl, rfl, Or.inr ⟨rfl, by (/-73-/first | omega | (simp only [gz_hd] at *; omega))⟩, rfl, rfl⟩), rfl, rfl, ⟨⟨z0, z1⟩, hh.1, hh.2, KE_LT, KE_TK, ⟨p0, p1, by (/-74-/first | omega | (simp only [gz_hd] at *; omega)), fun k9 => fz 21 k9 (by (/-75-/first | omega | (simp only [gz_hd] at *; omega)))⟩, ⟨by (/-76-/first | omega | (simp only [gz_hd] at *; omega)), by (/-77-/first | omega | (simp only [gz_hd] at *; omega)), by (/-78-/first | omega | (simp only [gz_hd] at *; omega))⟩⟩, ⟨sp, sc, sd⟩⟩
  have n83 : ¬ gs_rn β η p = gs_W 83 := fun e9 => gs_cmpn (a := v1) (b := 28821916864574053) (by (/-79-/first | omega | (simp only [gz_hd] at *; omega))) (yv.trans ((gs_al_eq (gs_al_p yT) (gs_W_al 83 (by decide) (by decide))).mpr e9))
  show gv_Y _ _ (270, [(0, .inr (.inr (some 39))), (1, .inr (.inl v1))], [], sh, gc_h sh I J A)
  have f270 := gz_hi (gw_cmp v1 (30510848328168051))
  refine gv_lift (fun hk => gv_run 3 true hD (pcₚ := 275) (lvₚ := [(0, .inr (.inr (some 39))), (1, .inr (.inl v1))]) (stₚ := [.inl ((lg_cmp v1 (30510848328168051)).toInt)]) (hₚ := gc_h sh I J A) (C := (((True ∧ True) ∧ True) ∧ True)) rfl ⟨⟨⟨trivial, trivial⟩, trivial⟩, trivial⟩ hk) ?_
  refine gv_YofX (gv_if_ne (t := 283) hD rfl rfl ⟨by (/-80-/first | (have o1 := gz_sh f270; omega) | (simp only [gz_hd] at *; omega)), by (/-81-/first | (have o1 := gz_sh f270; omega) | (simp only [gz_hd] at *; omega))⟩ (fun c => gv_Xz ?_) (fun c => gv_Xz ?_))
  rotate_left
  · show gv_Y _ _ (278, [(0, .inr (.inr (some 39))), (1, .inr (.inl v1))], [], sh, gc_h sh I J A)
    refine gv_lift (fun hk => gv_run 1 true hD (pcₚ := 279) (lvₚ := [(0, .inr (.inr (some 39))), (1, .inr (.inl v1))]) (stₚ := [.inr (.inr (some 39))]) (hₚ := gc_h sh I J A) (C := (True ∧ True)) rfl ⟨trivial, trivial⟩ hk) ?_
    have eK : gs_rn β η p = gs_W 84 := (gs_al_eq (gs_al_p yT) (gs_W_al 84 (by decide) (by decide))).mp (yv.symm.trans (gs_cmp0 (a := v1) (b := 30510848328168051) (by (/-82-/first | omega | (simp only [gz_hd] at *; omega)))))
    obtain ⟨r9, h9, E9, P9⟩ := d_X6_readClass_p hws htb sh ro I J A hI t β η (gs_X β η p) Ir Jr hb hTt.1 G_t y1 y2 y4 z7c.1 z7c.2 x39 KLT_I KTK_I
    obtain ⟨Iₚ, Jₚ, rfl, hIₚ, g, k, KE_LT, KE_TK, z, rfl, z0, z1, p0, p1, p2⟩ := P9
    refine gv_lift (fun hk => gv_callV hD rfl (As := []) (st := []) rfl (by decide) S39 rfl (gc_lV6 hws rfl) (Nat.le_of_ble_eq_true rfl) (gz_Ev_mono (d := 5) (by decide) E9) hk) ?_
    have ok9 : gc_OK sh Iₚ Jₚ A := gc_OK_fr hok (fun q j => (g q j).imp (fun h => by
        rcases h with ⟨rfl, rfl⟩ | ⟨rfl, rfl⟩ | ⟨rfl, rfl⟩ | ⟨rfl, rfl⟩ | ⟨rfl, rfl⟩ | ⟨rfl, rfl⟩ | rfl | ⟨rfl, rfl⟩
        · exact ⟨gc_x_lt (gc_bS hb (p := 39) rfl), gc_tyx (gc_bS hb (p := 39) rfl)⟩
        · exact ⟨gc_x_lt (gc_bS hb (p := 39) rfl), gc_tyx (gc_bS hb (p := 39) rfl)⟩
        · exact ⟨gc_x_lt (gc_bS hb (p := 23) rfl), gc_tyx (gc_bS hb (p := 23) rfl)⟩
        · exact ⟨gc_x_lt (gc_bS hb (p := 23) rfl), gc_tyx (gc_bS hb (p := 23) rfl)⟩
        · exact ⟨gc_x_lt (gc_bS hb (p := 23) rfl), gc_tyx (gc_bS hb (p := 23) rfl)⟩
        · exact ⟨gc_x_lt (gc_bS hb (p := 23) rfl), gc_tyx (gc_bS hb (p := 23) rfl)⟩
        · exact ⟨gc_x_lt ST_9, gc_tyx ST_9⟩
        · exact ⟨gc_x_lt ST_7, gc_tyx ST_7⟩
        ) id) (fun q j => (k q j).imp (fun h => by first | exact False.elim h | (/-83-/first | omega | (simp only [gz_hd] at *; omega))) id)
    have fz : ∀ q j : Nat, ¬ ((q = 39 ∧ j = 3) ∨ (q = 39 ∧ j = 4) ∨ (q = 23 ∧ j = 5) ∨ (q = 23 ∧ j = 6) ∨ (q = 23 ∧ j = 7) ∨ (q = 23 ∧ j = 8) ∨ q = (t + 9) ∨ (q = (t + 7) ∧ j = 1)) → Iₚ q j = I q j := fun q j h => (g q j).resolve_left h
    have gz : ∀ q j : Nat, ¬ ((q = 23 ∧ j = 9) ∨ q = (t + 8)) → Jₚ q j = J q j := fun q j h => (k q j).resolve_left h
    have h17 := fz 1 17 (by (/-84-/first | omega | (simp only [gz_hd] at *; omega)))
    have f2 : ∀ q j : Nat, 144 ≤ q → (t ≤ q ∧ q < t + 17) ∨ Iₚ q j = I q j := fun q j _ => (g q j).imp (fun h => by (/-85-/first | (and_intros <;> omega) | (simp only [gz_hd] at *; omega))) id
    have f3 : ∀ q j : Nat, 144 ≤ q → (t ≤ q ∧ q < t + 17) ∨ Jₚ q j = J q j := fun q j _ => (k q j).imp (fun h => by (/-86-/first | (and_intros <;> omega) | (simp only [gz_hd] at *; omega))) id
    have hh := gh_HS_t hs hi ht hIₚ ok9 (fun q j _ => (g q j).imp (fun h => by unfold gh_mt; (/-87-/first | omega | (simp only [gz_hd] at *; omega))) id) (fz 1 5 (by (/-88-/first | omega | (simp only [gz_hd] at *; omega)))) f2 (fz t 13 (by (/-89-/first | omega | (simp only [gz_hd] at *; omega)))) (by have := fz t 11 (by (/-90-/first | omega | (simp only [gz_hd] at *; omega))); (/-91-/first | omega | (simp only [gz_hd] at *; omega))) (fun j _ => fz (t + 15) j (by (/-92-/first | omega | (simp only [gz_hd] at *; omega)))) (fun w a b => by have := fz t 11 (by (/-93-/first | omega | (simp only [gz_hd] at *; omega))); (/-94-/first | (and_intros <;> omega) | (simp only [gz_hd] at *; omega))) (by rw [fz (t + 3) 1 (by (/-95-/first | omega | (simp only [gz_hd] at *; omega))), fz (t + 1) 1 (by (/-96-/first | omega | (simp only [gz_hd] at *; omega)))]; exact w3) (gc_sc_fr hTt.2.2 (fun k9 => fz (t + 10) k9 (by (/-97-/first | omega | (simp only [gz_hd] at *; omega)))))
    have ct := gs_ct_o hs hi ht f2 f3
    have cl := gs_cl_o hs hi ht f2
    have bT' := gs_bT_of hIₚ hTt.1
    have eC : gs_stc β η Ir Jr p = gs_let β η Ir Jr (I 39 5) (gs_X β η p) := by rw [yf]; exact (if_pos yT).trans (gs_stk_84 eK nc6)
    have cg : gs_cG I J Iₚ Jₚ := ⟨⟨(fz 2 1 (by (/-98-/first | omega | (simp only [gz_hd] at *; omega)))), (fz 4 1 (by (/-99-/first | omega | (simp only [gz_hd] at *; omega)))), (fz 6 1 (by (/-100-/first | omega | (simp only [gz_hd] at *; omega)))), (fz 8 1 (by (/-101-/first | omega | (simp only [gz_hd] at *; omega))))⟩, (fun k9 => ⟨(gz 3 k9 (by (/-102-/first | omega | (simp only [gz_hd] at *; omega)))), (gz 5 k9 (by (/-103-/first | omega | (simp only [gz_hd] at *; omega)))), (gz 7 k9 (by (/-104-/first | omega | (simp only [gz_hd] at *; omega)))), (gz 9 k9 (by (/-105-/first | omega | (simp only [gz_hd] at *; omega)))), (gz 18 k9 (by (/-106-/first | omega | (simp only [gz_hd] at *; omega))))⟩), ⟨(fz 1 13 (by (/-107-/first | omega | (simp only [gz_hd] at *; omega)))), (fz 1 5 (by (/-108-/first | omega | (simp only [gz_hd] at *; omega))))⟩, fun k9 => ⟨(fz 11 k9 (by (/-109-/first | omega | (simp only [gz_hd] at *; omega)))), (fz 12 k9 (by (/-110-/first | omega | (simp only [gz_hd] at *; omega)))), (fz 13 k9 (by (/-111-/first | omega | (simp only [gz_hd] at *; omega)))), (fz 15 k9 (by (/-112-/first | omega | (simp only [gz_hd] at *; omega)))), (fz 19 k9 (by (/-113-/first | omega | (simp only [gz_hd] at *; omega)))), (fz 14 k9 (by (/-114-/first | omega | (simp only [gz_hd] at *; omega))))⟩⟩
    have sp : gs_SP β η p Ir Jr z Iₚ Jₚ A := by
      unfold gs_SP
      rw [eC]
      refine ⟨fun h9 => ?_, fun h9 => ?_⟩
      · obtain ⟨c1, c2, d1, d2, d3⟩ := gs_or0 p2 h9
        refine ⟨c1, c2, gs_R_same yR cg (fun i2 t2 hi2 ht2 => ⟨ht2, ?_⟩)⟩
        by_cases c9 : i2 = i
        · subst c9
          rw [← Option.some.inj (ht.symm.trans ht2)]
          exact ⟨⟨(fz (t + 1) 1 (by (/-115-/first | omega | (simp only [gz_hd] at *; omega)))), fun k9 => (gz (t + 2) k9 (by (/-116-/first | omega | (simp only [gz_hd] at *; omega))))⟩, ⟨(fz (t + 3) 1 (by (/-117-/first | omega | (simp only [gz_hd] at *; omega)))), fun k9 => (gz (t + 4) k9 (by (/-118-/first | omega | (simp only [gz_hd] at *; omega)))), fun k9 => (fz (t + 5) k9 (by (/-119-/first | omega | (simp only [gz_hd] at *; omega)))), fun k9 => (fz (t + 6) k9 (by (/-120-/first | omega | (simp only [gz_hd] at *; omega))))⟩, ⟨d1, fun k9 => (d2 k9)⟩, (fz t 6 (by (/-121-/first | omega | (simp only [gz_hd] at *; omega)))), ⟨(fz (t + 11) 1 (by (/-122-/first | omega | (simp only [gz_hd] at *; omega)))), fun k9 => (gz (t + 12) k9 (by (/-123-/first | omega | (simp only [gz_hd] at *; omega)))), fun k9 => (fz (t + 13) k9 (by (/-124-/first | omega | (simp only [gz_hd] at *; omega)))), fun k9 => (fz (t + 14) k9 (by (/-125-/first | omega | (simp only [gz_hd] at *; omega))))⟩, (fz t 11 (by (/-126-/first | omega | (simp only [gz_hd] at *; omega)))), (fz t 13 (by (/-127-/first | omega | (simp only [gz_hd] at *; omega)))), cl⟩
        · exact ct i2 t2 hi2 c9 ht2
      · obtain ⟨c1, c2, s1, s2, s3⟩ := gs_or1 p2 (by (/-128-/first | omega | (simp only [gz_hd] at *; omega)))
        have t1 := gz_hi (gs_al_p (gs_t_let c1 fA))
        refine ⟨c1, c2, (fz 1 18 (by (/-129-/first | omega | (simp only [gz_hd] at *; omega)))).trans y4, fun Irₚ Jrₚ hU => ?_⟩
        obtain ⟨u1, ts⟩ := gs_STU_k hU 84 (by decide) eK
        exact gs_R_tong yR hi (fun i2 t2 _ h => h) ht cg ts rfl (gs_rO_84 c6 (by have h8 := q7.1; rw [ei] at h8; have := bT.2.2.1; (/-130-/first | (and_intros <;> omega) | (simp only [gz_hd] at *; omega))) u1.1 ts) bts ct ⟨(gs_T1_fr q1 (fz (t + 1) 1 (by (/-131-/first | omega | (simp only [gz_hd] at *; omega)))) (fun k9 => (gz (t + 2) k9 (by (/-132-/first | omega | (simp only [gz_hd] at *; omega))))) (ts.2.1 13 rfl rfl _) (fun k9 _ => (ts.2.2 20 rfl rfl _))), (gs_T3_fr q3 (fz (t + 3) 1 (by (/-133-/first | omega | (simp only [gz_hd] at *; omega)))) (fun k9 => (gz (t + 4) k9 (by (/-134-/first | omega | (simp only [gz_hd] at *; omega))))) (fun k9 => (fz (t + 5) k9 (by (/-135-/first | omega | (simp only [gz_hd] at *; omega))))) (fun k9 => (fz (t + 6) k9 (by (/-136-/first | omega | (simp only [gz_hd] at *; omega))))) (ts.2.1 14 rfl rfl _) (fun k9 _ _ => ⟨(ts.2.2 21 rfl rfl _), (ts.2.1 24 rfl rfl _), (ts.2.1 25 rfl rfl _)⟩)), (gs_NAt_put (p := t + 7) (row := 22) (cr := 15) (m := 16) (n := 16) q7 bT.2.2.1.1 (by decide) s2 s1 c6 u1.1 (gz_sh t1)), ((fz t 6 (by (/-137-/first | omega | (simp only [gz_hd] at *; omega)))).trans (qs.trans (ts.2.1 16 rfl rfl _).symm)), (gs_TP_fr qp (fz (t + 11) 1 (by (/-138-/first | omega | (simp only [gz_hd] at *; omega)))) (fun k9 => (gz (t + 12) k9 (by (/-139-/first | omega | (simp only [gz_hd] at *; omega))))) (fun k9 => (fz (t + 13) k9 (by (/-140-/first | omega | (simp only [gz_hd] at *; omega))))) (fun k9 => (fz (t + 14) k9 (by (/-141-/first | omega | (simp only [gz_hd] at *; omega))))) (ts.2.1 17 rfl rfl _) (fun k9 _ _ => ⟨(ts.2.2 23 rfl rfl _), (ts.2.1 31 rfl rfl _), fun j9 _ => (ts.2.1 32 rfl rfl _)⟩)), ((fz t 11 (by (/-142-/first | omega | (simp only [gz_hd] at *; omega)))).trans (qw.trans (ts.2.1 18 rfl rfl _).symm)), (gs_TL_fr ql (fz t 13 (by (/-143-/first | omega | (simp only [gz_hd] at *; omega)))) cl (ts.2.1 19 rfl rfl _) (fun k9 _ => (ts.2.1 41 rfl rfl _)))⟩
    have sc : gs_SC β η p Ir Jr I A z Iₚ A := by
      refine gs_SC_t hs hi ht (gc_PKs_fr gc_PKs_rf (fz 1 17 (by (/-144-/first | omega | (simp only [gz_hd] at *; omega)))) (fun k9 => fz 20 k9 (by (/-145-/first | omega | (simp only [gz_hd] at *; omega))))) (fz 8 1 (by (/-146-/first | omega | (simp only [gz_hd] at *; omega)))) f2 ?_
      by_cases h9 : z = 0
      · obtain ⟨c1, c2, d1, d2, d3⟩ := gs_or0 p2 h9
        exact Or.inl ⟨d1, d3, fz t 6 (by (/-147-/first | omega | (simp only [gz_hd] at *; omega))), fun k9 => fz (t + 10) k9 (by (/-148-/first | omega | (simp only [gz_hd] at *; omega)))⟩
      · obtain ⟨c1, c2, s1, s2, s3⟩ := gs_or1 p2 (by (/-149-/first | omega | (simp only [gz_hd] at *; omega)))
        exact Or.inr ⟨by (/-150-/first | omega | (simp only [gz_hd] at *; omega)), by (/-151-/first | omega | (simp only [gz_hd] at *; omega)), Or.inl ⟨eK, by have := (s1 (by (/-152-/first | omega | (simp only [gz_hd] at *; omega)))).1; (/-153-/first | omega | (simp only [gz_hd] at *; omega)), s3, fz t 6 (by (/-154-/first | omega | (simp only [gz_hd] at *; omega))), fun k9 => fz (t + 10) k9 (by (/-155-/first | omega | (simp only [gz_hd] at *; omega)))⟩⟩
    have sd : gs_SD β η p Ir Jr I A z Iₚ A := by
      refine gs_SD_t hs hi ht (fz 8 1 (by (/-156-/first | omega | (simp only [gz_hd] at *; omega)))) f2 ?_
      exact Or.inl ⟨⟨fz (t + 11) 1 (by (/-157-/first | omega | (simp only [gz_hd] at *; omega))), fun k9 => fz (t + 13) k9 (by (/-158-/first | omega | (simp only [gz_hd] at *; omega))), fun k9 => fz (t + 14) k9 (by (/-159-/first | omega | (simp only [gz_hd] at *; omega)))⟩, fz t 11 (by (/-160-/first | omega | (simp only [gz_hd] at *; omega))), fun k9 => fz (t + 15) k9 (by (/-161-/first | omega | (simp only [gz_hd] at *; omega)))⟩
    exact gv_Yend ⟨z, sh, ro, Iₚ, Jₚ, A, Or.inr (Or.inl ⟨z, .boolean, hD 282 _ rfl, rfl, Or.inr ⟨rfl, by (/-162-/first | omega | (simp only [gz_hd] at *; omega))⟩, rfl, rfl⟩), rfl, rfl, ⟨⟨z0, z1⟩, hh.1, hh.2, KE_LT, KE_TK, ⟨p0, p1, by (/-163-/first | omega | (simp only [gz_hd] at *; omega)), fun k9 => fz 21 k9 (by (/-164-/first | omega | (simp only [gz_hd] at *; omega)))⟩, ⟨by (/-165-/first | omega | (simp only [gz_hd] at *; omega)), by (/-166-/first | omega | (simp only [gz_hd] at *; omega)), by (/-167-/first | omega | (simp only [gz_hd] at *; omega))⟩⟩, ⟨sp, sc, sd⟩⟩
  have n84 : ¬ gs_rn β η p = gs_W 84 := fun e9 => gs_cmpn (a := v1) (b := 30510848328168051) (by (/-168-/first | omega | (simp only [gz_hd] at *; omega))) (yv.trans ((gs_al_eq (gs_al_p yT) (gs_W_al 84 (by decide) (by decide))).mpr e9))
  show gv_Y _ _ (283, [(0, .inr (.inr (some 39))), (1, .inr (.inl v1))], [], sh, gc_h sh I J A)
  have f283 := gz_hi (gw_cmp v1 (495791205988))
  refine gv_lift (fun hk => gv_run 3 true hD (pcₚ := 288) (lvₚ := [(0, .inr (.inr (some 39))), (1, .inr (.inl v1))]) (stₚ := [.inl ((lg_cmp v1 (495791205988)).toInt)]) (hₚ := gc_h sh I J A) (C := (((True ∧ True) ∧ True) ∧ True)) rfl ⟨⟨⟨trivial, trivial⟩, trivial⟩, trivial⟩ hk) ?_
  refine gv_YofX (gv_if_ne (t := 296) hD rfl rfl ⟨by (/-169-/first | (have o1 := gz_sh f283; omega) | (simp only [gz_hd] at *; omega)), by (/-170-/first | (have o1 := gz_sh f283; omega) | (simp only [gz_hd] at *; omega))⟩ (fun c => gv_Xz ?_) (fun c => gv_Xz ?_))
  rotate_left
  · show gv_Y _ _ (291, [(0, .inr (.inr (some 39))), (1, .inr (.inl v1))], [], sh, gc_h sh I J A)
    refine gv_lift (fun hk => gv_run 1 true hD (pcₚ := 292) (lvₚ := [(0, .inr (.inr (some 39))), (1, .inr (.inl v1))]) (stₚ := [.inr (.inr (some 39))]) (hₚ := gc_h sh I J A) (C := (True ∧ True)) rfl ⟨trivial, trivial⟩ hk) ?_
    have eK : gs_rn β η p = gs_W 85 := (gs_al_eq (gs_al_p yT) (gs_W_al 85 (by decide) (by decide))).mp (yv.symm.trans (gs_cmp0 (a := v1) (b := 495791205988) (by (/-171-/first | omega | (simp only [gz_hd] at *; omega)))))
    obtain ⟨r9, h9, E9, P9⟩ := d_X6_readSound_p hws htb sh ro I J A hI t B β η (gs_X β η p) Ir Jr hb hTt.1 G_t x0 y1 y2 y4 zsc z7c.1 z7c.2 zMA x39 KLT_I KTK_I hTt.2.2
    obtain ⟨Iₚ, Jₚ, rfl, hIₚ, g, k, KE_LT, KE_TK, KE_SC, z, rfl, z0, z1, p0, p1, p2, p3, p4⟩ := P9
    refine gv_lift (fun hk => gv_callV hD rfl (As := []) (st := []) rfl (by decide) S39 rfl (gc_lV6 hws rfl) (Nat.le_of_ble_eq_true rfl) (gz_Ev_mono (d := 6) (by decide) E9) hk) ?_
    have ok9 : gc_OK sh Iₚ Jₚ A := gc_OK_fr hok (fun q j => (g q j).imp (fun h => by
        rcases h with ⟨rfl, rfl⟩ | ⟨rfl, rfl⟩ | ⟨rfl, rfl⟩ | ⟨rfl, rfl⟩ | ⟨rfl, rfl⟩ | ⟨rfl, rfl⟩ | ⟨rfl, rfl⟩ | ⟨rfl, rfl⟩ | rfl | rfl | rfl | ⟨rfl, rfl⟩
        · exact ⟨gc_x_lt (gc_bS hb (p := 39) rfl), gc_tyx (gc_bS hb (p := 39) rfl)⟩
        · exact ⟨gc_x_lt (gc_bS hb (p := 39) rfl), gc_tyx (gc_bS hb (p := 39) rfl)⟩
        · exact ⟨gc_x_lt (gc_bS hb (p := 23) rfl), gc_tyx (gc_bS hb (p := 23) rfl)⟩
        · exact ⟨gc_x_lt (gc_bS hb (p := 23) rfl), gc_tyx (gc_bS hb (p := 23) rfl)⟩
        · exact ⟨gc_x_lt (gc_bS hb (p := 23) rfl), gc_tyx (gc_bS hb (p := 23) rfl)⟩
        · exact ⟨gc_x_lt (gc_bS hb (p := 23) rfl), gc_tyx (gc_bS hb (p := 23) rfl)⟩
        · exact ⟨gc_x_lt (gc_bS hb (p := 1) rfl), gc_tyx (gc_bS hb (p := 1) rfl)⟩
        · exact ⟨gc_x_lt (gc_bS hb (p := 1) rfl), gc_tyx (gc_bS hb (p := 1) rfl)⟩
        · exact ⟨gc_x_lt (gc_bS hb (p := 20) rfl), gc_tyx (gc_bS hb (p := 20) rfl)⟩
        · exact ⟨gc_x_lt (gc_bS hb (p := 41) rfl), gc_tyx (gc_bS hb (p := 41) rfl)⟩
        · exact ⟨gc_x_lt ST_10, gc_tyx ST_10⟩
        · exact ⟨gc_x_lt ST_0, gc_tyx ST_0⟩
        ) id) (fun q j => (k q j).imp (fun h => by first | exact False.elim h | (/-172-/first | omega | (simp only [gz_hd] at *; omega))) id)
    have fz : ∀ q j : Nat, ¬ ((q = 39 ∧ j = 3) ∨ (q = 39 ∧ j = 4) ∨ (q = 23 ∧ j = 5) ∨ (q = 23 ∧ j = 6) ∨ (q = 23 ∧ j = 7) ∨ (q = 23 ∧ j = 8) ∨ (q = 1 ∧ j = 17) ∨ (q = 1 ∧ j = 18) ∨ q = 20 ∨ q = 41 ∨ q = (t + 10) ∨ (q = t ∧ j = 6)) → Iₚ q j = I q j := fun q j h => (g q j).resolve_left h
    have gz : ∀ q j : Nat, ¬ ((q = 23 ∧ j = 9)) → Jₚ q j = J q j := fun q j h => (k q j).resolve_left h
    have f2 : ∀ q j : Nat, 144 ≤ q → (t ≤ q ∧ q < t + 17) ∨ Iₚ q j = I q j := fun q j _ => (g q j).imp (fun h => by (/-173-/first | (and_intros <;> omega) | (simp only [gz_hd] at *; omega))) id
    have f3 : ∀ q j : Nat, 144 ≤ q → (t ≤ q ∧ q < t + 17) ∨ Jₚ q j = J q j := fun q j _ => (k q j).imp (fun h => by (/-174-/first | (and_intros <;> omega) | (simp only [gz_hd] at *; omega))) id
    have hh := gh_HS_t hs hi ht hIₚ ok9 (fun q j _ => (g q j).imp (fun h => by unfold gh_mt; (/-175-/first | omega | (simp only [gz_hd] at *; omega))) id) (fz 1 5 (by (/-176-/first | omega | (simp only [gz_hd] at *; omega)))) f2 (fz t 13 (by (/-177-/first | omega | (simp only [gz_hd] at *; omega)))) (by have := fz t 11 (by (/-178-/first | omega | (simp only [gz_hd] at *; omega))); (/-179-/first | omega | (simp only [gz_hd] at *; omega))) (fun j _ => fz (t + 15) j (by (/-180-/first | omega | (simp only [gz_hd] at *; omega)))) (fun w a b => by have := fz t 11 (by (/-181-/first | omega | (simp only [gz_hd] at *; omega))); (/-182-/first | (and_intros <;> omega) | (simp only [gz_hd] at *; omega))) (by rw [fz (t + 3) 1 (by (/-183-/first | omega | (simp only [gz_hd] at *; omega))), fz (t + 1) 1 (by (/-184-/first | omega | (simp only [gz_hd] at *; omega)))]; exact w3) (KE_SC)
    have ct := gs_ct_o hs hi ht f2 f3
    have cl := gs_cl_o hs hi ht f2
    have bT' := gs_bT_of hIₚ hTt.1
    have eC : gs_stc β η Ir Jr p = gs_snd β η Ir Jr (I 39 5) (gs_X β η p) := by rw [yf]; exact (if_pos yT).trans (gs_stk_85 eK nc6)
    have cg : gs_cG I J Iₚ Jₚ := ⟨⟨(fz 2 1 (by (/-185-/first | omega | (simp only [gz_hd] at *; omega)))), (fz 4 1 (by (/-186-/first | omega | (simp only [gz_hd] at *; omega)))), (fz 6 1 (by (/-187-/first | omega | (simp only [gz_hd] at *; omega)))), (fz 8 1 (by (/-188-/first | omega | (simp only [gz_hd] at *; omega))))⟩, (fun k9 => ⟨(gz 3 k9 (by (/-189-/first | omega | (simp only [gz_hd] at *; omega)))), (gz 5 k9 (by (/-190-/first | omega | (simp only [gz_hd] at *; omega)))), (gz 7 k9 (by (/-191-/first | omega | (simp only [gz_hd] at *; omega)))), (gz 9 k9 (by (/-192-/first | omega | (simp only [gz_hd] at *; omega)))), (gz 18 k9 (by (/-193-/first | omega | (simp only [gz_hd] at *; omega))))⟩), ⟨(fz 1 13 (by (/-194-/first | omega | (simp only [gz_hd] at *; omega)))), (fz 1 5 (by (/-195-/first | omega | (simp only [gz_hd] at *; omega))))⟩, fun k9 => ⟨(fz 11 k9 (by (/-196-/first | omega | (simp only [gz_hd] at *; omega)))), (fz 12 k9 (by (/-197-/first | omega | (simp only [gz_hd] at *; omega)))), (fz 13 k9 (by (/-198-/first | omega | (simp only [gz_hd] at *; omega)))), (fz 15 k9 (by (/-199-/first | omega | (simp only [gz_hd] at *; omega)))), (fz 19 k9 (by (/-200-/first | omega | (simp only [gz_hd] at *; omega)))), (fz 14 k9 (by (/-201-/first | omega | (simp only [gz_hd] at *; omega))))⟩⟩
    have sp : gs_SP β η p Ir Jr z Iₚ Jₚ A := by
      unfold gs_SP
      rw [eC]
      refine ⟨fun h9 => ?_, fun h9 => ?_⟩
      · obtain ⟨c1, c2, d1, d2⟩ := gs_or0 p4 h9
        refine ⟨c1, c2, gs_R_same yR cg (fun i2 t2 hi2 ht2 => ⟨ht2, ?_⟩)⟩
        by_cases c9 : i2 = i
        · subst c9
          rw [← Option.some.inj (ht.symm.trans ht2)]
          exact ⟨⟨(fz (t + 1) 1 (by (/-202-/first | omega | (simp only [gz_hd] at *; omega)))), fun k9 => (gz (t + 2) k9 (by (/-203-/first | omega | (simp only [gz_hd] at *; omega))))⟩, ⟨(fz (t + 3) 1 (by (/-204-/first | omega | (simp only [gz_hd] at *; omega)))), fun k9 => (gz (t + 4) k9 (by (/-205-/first | omega | (simp only [gz_hd] at *; omega)))), fun k9 => (fz (t + 5) k9 (by (/-206-/first | omega | (simp only [gz_hd] at *; omega)))), fun k9 => (fz (t + 6) k9 (by (/-207-/first | omega | (simp only [gz_hd] at *; omega))))⟩, ⟨(fz (t + 7) 1 (by (/-208-/first | omega | (simp only [gz_hd] at *; omega)))), fun k9 => (gz (t + 8) k9 (by (/-209-/first | omega | (simp only [gz_hd] at *; omega))))⟩, d1, ⟨(fz (t + 11) 1 (by (/-210-/first | omega | (simp only [gz_hd] at *; omega)))), fun k9 => (gz (t + 12) k9 (by (/-211-/first | omega | (simp only [gz_hd] at *; omega)))), fun k9 => (fz (t + 13) k9 (by (/-212-/first | omega | (simp only [gz_hd] at *; omega)))), fun k9 => (fz (t + 14) k9 (by (/-213-/first | omega | (simp only [gz_hd] at *; omega))))⟩, (fz t 11 (by (/-214-/first | omega | (simp only [gz_hd] at *; omega)))), (fz t 13 (by (/-215-/first | omega | (simp only [gz_hd] at *; omega)))), cl⟩
        · exact ct i2 t2 hi2 c9 ht2
      · obtain ⟨c1, c2, s1, s18, s20⟩ := gs_or1 p4 (by (/-216-/first | omega | (simp only [gz_hd] at *; omega)))
        refine ⟨c1, c2, s18, fun Irₚ Jrₚ hU => ?_⟩
        obtain ⟨u1, ts⟩ := gs_STU_k hU 85 (by decide) eK
        exact gs_R_tong yR hi (fun i2 t2 _ h => h) ht cg ts rfl (gs_rO_85 c6 u1.1.2 ts) bts ct ⟨(gs_T1_fr q1 (fz (t + 1) 1 (by (/-217-/first | omega | (simp only [gz_hd] at *; omega)))) (fun k9 => (gz (t + 2) k9 (by (/-218-/first | omega | (simp only [gz_hd] at *; omega))))) (ts.2.1 13 rfl rfl _) (fun k9 _ => (ts.2.2 20 rfl rfl _))), (gs_T3_fr q3 (fz (t + 3) 1 (by (/-219-/first | omega | (simp only [gz_hd] at *; omega)))) (fun k9 => (gz (t + 4) k9 (by (/-220-/first | omega | (simp only [gz_hd] at *; omega))))) (fun k9 => (fz (t + 5) k9 (by (/-221-/first | omega | (simp only [gz_hd] at *; omega))))) (fun k9 => (fz (t + 6) k9 (by (/-222-/first | omega | (simp only [gz_hd] at *; omega))))) (ts.2.1 14 rfl rfl _) (fun k9 _ _ => ⟨(ts.2.2 21 rfl rfl _), (ts.2.1 24 rfl rfl _), (ts.2.1 25 rfl rfl _)⟩)), (gs_T7_fr q7 (fz (t + 7) 1 (by (/-223-/first | omega | (simp only [gz_hd] at *; omega)))) (fun k9 => (gz (t + 8) k9 (by (/-224-/first | omega | (simp only [gz_hd] at *; omega))))) (ts.2.1 15 rfl rfl _) (fun k9 _ => (ts.2.2 22 rfl rfl _))), (by have h8 := u1.1.1; rw [c6] at h8; have h7 := qs; show Iₚ t 6 = Irₚ 16 (Int.toNat (i : Int)); (/-225-/first | omega | (simp only [gz_hd] at *; omega))), (gs_TP_fr qp (fz (t + 11) 1 (by (/-226-/first | omega | (simp only [gz_hd] at *; omega)))) (fun k9 => (gz (t + 12) k9 (by (/-227-/first | omega | (simp only [gz_hd] at *; omega))))) (fun k9 => (fz (t + 13) k9 (by (/-228-/first | omega | (simp only [gz_hd] at *; omega))))) (fun k9 => (fz (t + 14) k9 (by (/-229-/first | omega | (simp only [gz_hd] at *; omega))))) (ts.2.1 17 rfl rfl _) (fun k9 _ _ => ⟨(ts.2.2 23 rfl rfl _), (ts.2.1 31 rfl rfl _), fun j9 _ => (ts.2.1 32 rfl rfl _)⟩)), ((fz t 11 (by (/-230-/first | omega | (simp only [gz_hd] at *; omega)))).trans (qw.trans (ts.2.1 18 rfl rfl _).symm)), (gs_TL_fr ql (fz t 13 (by (/-231-/first | omega | (simp only [gz_hd] at *; omega)))) cl (ts.2.1 19 rfl rfl _) (fun k9 _ => (ts.2.1 41 rfl rfl _)))⟩
    have sc : gs_SC β η p Ir Jr I A z Iₚ A := by
      refine gs_SC_t hs hi ht p3 (fz 8 1 (by (/-232-/first | omega | (simp only [gz_hd] at *; omega)))) f2 ?_
      by_cases h9 : z = 0
      · obtain ⟨c1, c2, d1, d2⟩ := gs_or0 p4 h9
        exact Or.inl ⟨fz (t + 7) 1 (by (/-233-/first | omega | (simp only [gz_hd] at *; omega))), fun k9 => fz (t + 9) k9 (by (/-234-/first | omega | (simp only [gz_hd] at *; omega))), d1, d2⟩
      · obtain ⟨c1, c2, s1, s18, s20⟩ := gs_or1 p4 (by (/-235-/first | omega | (simp only [gz_hd] at *; omega)))
        exact Or.inr ⟨by (/-236-/first | omega | (simp only [gz_hd] at *; omega)), by (/-237-/first | omega | (simp only [gz_hd] at *; omega)), Or.inr ⟨eK, fz (t + 7) 1 (by (/-238-/first | omega | (simp only [gz_hd] at *; omega))), fun k9 => fz (t + 9) k9 (by (/-239-/first | omega | (simp only [gz_hd] at *; omega))), s1, s20⟩⟩
    have sd : gs_SD β η p Ir Jr I A z Iₚ A := by
      refine gs_SD_t hs hi ht (fz 8 1 (by (/-240-/first | omega | (simp only [gz_hd] at *; omega)))) f2 ?_
      exact Or.inl ⟨⟨fz (t + 11) 1 (by (/-241-/first | omega | (simp only [gz_hd] at *; omega))), fun k9 => fz (t + 13) k9 (by (/-242-/first | omega | (simp only [gz_hd] at *; omega))), fun k9 => fz (t + 14) k9 (by (/-243-/first | omega | (simp only [gz_hd] at *; omega)))⟩, fz t 11 (by (/-244-/first | omega | (simp only [gz_hd] at *; omega))), fun k9 => fz (t + 15) k9 (by (/-245-/first | omega | (simp only [gz_hd] at *; omega)))⟩
    exact gv_Yend ⟨z, sh, ro, Iₚ, Jₚ, A, Or.inr (Or.inl ⟨z, .boolean, hD 295 _ rfl, rfl, Or.inr ⟨rfl, by (/-246-/first | omega | (simp only [gz_hd] at *; omega))⟩, rfl, rfl⟩), rfl, rfl, ⟨⟨z0, z1⟩, hh.1, hh.2, KE_LT, KE_TK, ⟨p0, p1, by (/-247-/first | omega | (simp only [gz_hd] at *; omega)), fun k9 => fz 21 k9 (by (/-248-/first | omega | (simp only [gz_hd] at *; omega)))⟩, ⟨by (/-249-/first | omega | (simp only [gz_hd] at *; omega)), by (/-250-/first | omega | (simp only [gz_hd] at *; omega)), by (/-251-/first | omega | (simp only [gz_hd] at *; omega))⟩⟩, ⟨sp, sc, sd⟩⟩
  have n85 : ¬ gs_rn β η p = gs_W 85 := fun e9 => gs_cmpn (a := v1) (b := 495791205988) (by (/-252-/first | omega | (simp only [gz_hd] at *; omega))) (yv.trans ((gs_al_eq (gs_al_p yT) (gs_W_al 85 (by decide) (by decide))).mpr e9))
  show gv_Y _ _ (296, [(0, .inr (.inr (some 39))), (1, .inr (.inl v1))], [], sh, gc_h sh I J A)
  have f296 := gz_hi (gw_cmp v1 (31632350188499566))
  refine gv_lift (fun hk => gv_run 3 true hD (pcₚ := 301) (lvₚ := [(0, .inr (.inr (some 39))), (1, .inr (.inl v1))]) (stₚ := [.inl ((lg_cmp v1 (31632350188499566)).toInt)]) (hₚ := gc_h sh I J A) (C := (((True ∧ True) ∧ True) ∧ True)) rfl ⟨⟨⟨trivial, trivial⟩, trivial⟩, trivial⟩ hk) ?_
  refine gv_YofX (gv_if_ne (t := 309) hD rfl rfl ⟨by (/-253-/first | (have o1 := gz_sh f296; omega) | (simp only [gz_hd] at *; omega)), by (/-254-/first | (have o1 := gz_sh f296; omega) | (simp only [gz_hd] at *; omega))⟩ (fun c => gv_Xz ?_) (fun c => gv_Xz ?_))
  rotate_left
  · show gv_Y _ _ (304, [(0, .inr (.inr (some 39))), (1, .inr (.inl v1))], [], sh, gc_h sh I J A)
    refine gv_lift (fun hk => gv_run 1 true hD (pcₚ := 305) (lvₚ := [(0, .inr (.inr (some 39))), (1, .inr (.inl v1))]) (stₚ := [.inr (.inr (some 39))]) (hₚ := gc_h sh I J A) (C := (True ∧ True)) rfl ⟨trivial, trivial⟩ hk) ?_
    have eK : gs_rn β η p = gs_W 86 := (gs_al_eq (gs_al_p yT) (gs_W_al 86 (by decide) (by decide))).mp (yv.symm.trans (gs_cmp0 (a := v1) (b := 31632350188499566) (by (/-255-/first | omega | (simp only [gz_hd] at *; omega)))))
    obtain ⟨r9, h9, E9, P9⟩ := d_X6_readPattern_p hws htb sh ro I J A hI t B β η (gs_X β η p) Ir Jr hb hTt.1 G_t x0 y1 y2 y4 zpc.1.1 zpc.1.2 z3c.1.1 z3c.1.2 z3c.2 zpc.2 zPM x39 KLT_I KTK_I
    obtain ⟨Iₚ, Jₚ, rfl, hIₚ, g, k, KE_LT, KE_TK, z, rfl, z0, z1, p0, p1, p2, p3, p4⟩ := P9
    refine gv_lift (fun hk => gv_callV hD rfl (As := []) (st := []) rfl (by decide) S39 rfl (gc_lV6 hws rfl) (Nat.le_of_ble_eq_true rfl) (gz_Ev_mono (d := 5) (by decide) E9) hk) ?_
    have ok9 : gc_OK sh Iₚ Jₚ A := gc_OK_fr hok (fun q j => (g q j).imp (fun h => by
        rcases h with ⟨rfl, rfl⟩ | ⟨rfl, rfl⟩ | ⟨rfl, rfl⟩ | ⟨rfl, rfl⟩ | ⟨rfl, rfl⟩ | ⟨rfl, rfl⟩ | ⟨rfl, rfl⟩ | ⟨rfl, rfl⟩ | rfl | ⟨rfl, rfl⟩ | ⟨rfl, rfl⟩ | rfl | ⟨rfl, rfl⟩ | ⟨rfl, rfl⟩ | ⟨rfl, rfl⟩ | rfl | rfl | ⟨rfl, rfl⟩
        · exact ⟨gc_x_lt (gc_bS hb (p := 39) rfl), gc_tyx (gc_bS hb (p := 39) rfl)⟩
        · exact ⟨gc_x_lt (gc_bS hb (p := 39) rfl), gc_tyx (gc_bS hb (p := 39) rfl)⟩
        · exact ⟨gc_x_lt (gc_bS hb (p := 23) rfl), gc_tyx (gc_bS hb (p := 23) rfl)⟩
        · exact ⟨gc_x_lt (gc_bS hb (p := 23) rfl), gc_tyx (gc_bS hb (p := 23) rfl)⟩
        · exact ⟨gc_x_lt (gc_bS hb (p := 23) rfl), gc_tyx (gc_bS hb (p := 23) rfl)⟩
        · exact ⟨gc_x_lt (gc_bS hb (p := 23) rfl), gc_tyx (gc_bS hb (p := 23) rfl)⟩
        · exact ⟨gc_x_lt (gc_bS hb (p := 1) rfl), gc_tyx (gc_bS hb (p := 1) rfl)⟩
        · exact ⟨gc_x_lt (gc_bS hb (p := 1) rfl), gc_tyx (gc_bS hb (p := 1) rfl)⟩
        · exact ⟨gc_x_lt (gc_bS hb (p := 20) rfl), gc_tyx (gc_bS hb (p := 20) rfl)⟩
        · exact ⟨gc_x_lt (gc_bS hb (p := 39) rfl), gc_tyx (gc_bS hb (p := 39) rfl)⟩
        · exact ⟨gc_x_lt (gc_bS hb (p := 39) rfl), gc_tyx (gc_bS hb (p := 39) rfl)⟩
        · exact ⟨gc_x_lt (gc_bS hb (p := 40) rfl), gc_tyx (gc_bS hb (p := 40) rfl)⟩
        · exact ⟨gc_x_lt (gc_bS hb (p := 41) rfl), gc_tyx (gc_bS hb (p := 41) rfl)⟩
        · exact ⟨gc_x_lt (gc_bS hb (p := 41) rfl), gc_tyx (gc_bS hb (p := 41) rfl)⟩
        · exact ⟨gc_x_lt (gc_bS hb (p := 41) rfl), gc_tyx (gc_bS hb (p := 41) rfl)⟩
        · exact ⟨gc_x_lt ST_13, gc_tyx ST_13⟩
        · exact ⟨gc_x_lt ST_14, gc_tyx ST_14⟩
        · exact ⟨gc_x_lt ST_11, gc_tyx ST_11⟩
        ) id) (fun q j => (k q j).imp (fun h => by first | exact False.elim h | (/-256-/first | omega | (simp only [gz_hd] at *; omega))) id)
    have fz : ∀ q j : Nat, ¬ ((q = 39 ∧ j = 3) ∨ (q = 39 ∧ j = 4) ∨ (q = 23 ∧ j = 5) ∨ (q = 23 ∧ j = 6) ∨ (q = 23 ∧ j = 7) ∨ (q = 23 ∧ j = 8) ∨ (q = 1 ∧ j = 17) ∨ (q = 1 ∧ j = 18) ∨ q = 20 ∨ (q = 39 ∧ j = 6) ∨ (q = 39 ∧ j = 8) ∨ q = 40 ∨ (q = 41 ∧ j = 0) ∨ (q = 41 ∧ j = 1) ∨ (q = 41 ∧ j = 2) ∨ q = (t + 13) ∨ q = (t + 14) ∨ (q = (t + 11) ∧ j = 1)) → Iₚ q j = I q j := fun q j h => (g q j).resolve_left h
    have gz : ∀ q j : Nat, ¬ ((q = 23 ∧ j = 9) ∨ q = (t + 12)) → Jₚ q j = J q j := fun q j h => (k q j).resolve_left h
    have f2 : ∀ q j : Nat, 144 ≤ q → (t ≤ q ∧ q < t + 17) ∨ Iₚ q j = I q j := fun q j _ => (g q j).imp (fun h => by (/-257-/first | (and_intros <;> omega) | (simp only [gz_hd] at *; omega))) id
    have f3 : ∀ q j : Nat, 144 ≤ q → (t ≤ q ∧ q < t + 17) ∨ Jₚ q j = J q j := fun q j _ => (k q j).imp (fun h => by (/-258-/first | (and_intros <;> omega) | (simp only [gz_hd] at *; omega))) id
    have hh := gh_HS_t hs hi ht hIₚ ok9 (fun q j _ => (g q j).imp (fun h => by unfold gh_mt; (/-259-/first | omega | (simp only [gz_hd] at *; omega))) id) (fz 1 5 (by (/-260-/first | omega | (simp only [gz_hd] at *; omega)))) f2 (fz t 13 (by (/-261-/first | omega | (simp only [gz_hd] at *; omega)))) (by have := fz t 11 (by (/-262-/first | omega | (simp only [gz_hd] at *; omega))); (/-263-/first | omega | (simp only [gz_hd] at *; omega))) (fun j _ => fz (t + 15) j (by (/-264-/first | omega | (simp only [gz_hd] at *; omega)))) (fun w a b => by have := fz t 11 (by (/-265-/first | omega | (simp only [gz_hd] at *; omega))); (/-266-/first | (and_intros <;> omega) | (simp only [gz_hd] at *; omega))) (by rw [fz (t + 3) 1 (by (/-267-/first | omega | (simp only [gz_hd] at *; omega))), fz (t + 1) 1 (by (/-268-/first | omega | (simp only [gz_hd] at *; omega)))]; exact w3) (gc_sc_fr hTt.2.2 (fun k9 => fz (t + 10) k9 (by (/-269-/first | omega | (simp only [gz_hd] at *; omega)))))
    have ct := gs_ct_o hs hi ht f2 f3
    have cl := gs_cl_o hs hi ht f2
    have bT' := gs_bT_of hIₚ hTt.1
    have eC : gs_stc β η Ir Jr p = gs_pat β η Ir Jr (I 39 5) (gs_X β η p) := by rw [yf]; exact (if_pos yT).trans (gs_stk_86 eK nc6)
    have cg : gs_cG I J Iₚ Jₚ := ⟨⟨(fz 2 1 (by (/-270-/first | omega | (simp only [gz_hd] at *; omega)))), (fz 4 1 (by (/-271-/first | omega | (simp only [gz_hd] at *; omega)))), (fz 6 1 (by (/-272-/first | omega | (simp only [gz_hd] at *; omega)))), (fz 8 1 (by (/-273-/first | omega | (simp only [gz_hd] at *; omega))))⟩, (fun k9 => ⟨(gz 3 k9 (by (/-274-/first | omega | (simp only [gz_hd] at *; omega)))), (gz 5 k9 (by (/-275-/first | omega | (simp only [gz_hd] at *; omega)))), (gz 7 k9 (by (/-276-/first | omega | (simp only [gz_hd] at *; omega)))), (gz 9 k9 (by (/-277-/first | omega | (simp only [gz_hd] at *; omega)))), (gz 18 k9 (by (/-278-/first | omega | (simp only [gz_hd] at *; omega))))⟩), ⟨(fz 1 13 (by (/-279-/first | omega | (simp only [gz_hd] at *; omega)))), (fz 1 5 (by (/-280-/first | omega | (simp only [gz_hd] at *; omega))))⟩, fun k9 => ⟨(fz 11 k9 (by (/-281-/first | omega | (simp only [gz_hd] at *; omega)))), (fz 12 k9 (by (/-282-/first | omega | (simp only [gz_hd] at *; omega)))), (fz 13 k9 (by (/-283-/first | omega | (simp only [gz_hd] at *; omega)))), (fz 15 k9 (by (/-284-/first | omega | (simp only [gz_hd] at *; omega)))), (fz 19 k9 (by (/-285-/first | omega | (simp only [gz_hd] at *; omega)))), (fz 14 k9 (by (/-286-/first | omega | (simp only [gz_hd] at *; omega))))⟩⟩
    have sp : gs_SP β η p Ir Jr z Iₚ Jₚ A := by
      unfold gs_SP
      rw [eC]
      refine ⟨fun h9 => ?_, fun h9 => ?_⟩
      · obtain ⟨c1, c2, d1, d2⟩ := gs_or0 p4 h9
        refine ⟨c1, c2, gs_R_same yR cg (fun i2 t2 hi2 ht2 => ⟨ht2, ?_⟩)⟩
        by_cases c9 : i2 = i
        · subst c9
          rw [← Option.some.inj (ht.symm.trans ht2)]
          exact ⟨⟨(fz (t + 1) 1 (by (/-287-/first | omega | (simp only [gz_hd] at *; omega)))), fun k9 => (gz (t + 2) k9 (by (/-288-/first | omega | (simp only [gz_hd] at *; omega))))⟩, ⟨(fz (t + 3) 1 (by (/-289-/first | omega | (simp only [gz_hd] at *; omega)))), fun k9 => (gz (t + 4) k9 (by (/-290-/first | omega | (simp only [gz_hd] at *; omega)))), fun k9 => (fz (t + 5) k9 (by (/-291-/first | omega | (simp only [gz_hd] at *; omega)))), fun k9 => (fz (t + 6) k9 (by (/-292-/first | omega | (simp only [gz_hd] at *; omega))))⟩, ⟨(fz (t + 7) 1 (by (/-293-/first | omega | (simp only [gz_hd] at *; omega)))), fun k9 => (gz (t + 8) k9 (by (/-294-/first | omega | (simp only [gz_hd] at *; omega))))⟩, (fz t 6 (by (/-295-/first | omega | (simp only [gz_hd] at *; omega)))), ⟨d1, fun k9 => (d2 k9).1, fun k9 => (d2 k9).2.1, fun k9 => (d2 k9).2.2⟩, (fz t 11 (by (/-296-/first | omega | (simp only [gz_hd] at *; omega)))), (fz t 13 (by (/-297-/first | omega | (simp only [gz_hd] at *; omega)))), cl⟩
        · exact ct i2 t2 hi2 c9 ht2
      · obtain ⟨c1, c2, s1, s2, s3, s4⟩ := gs_or1 p4 (by (/-298-/first | omega | (simp only [gz_hd] at *; omega)))
        have t1 := gz_hi (gs_al_p (gs_t_pat c1 fA))
        refine ⟨c1, c2, s2.2, fun Irₚ Jrₚ hU => ?_⟩
        obtain ⟨u1, ts⟩ := gs_STU_k hU 86 (by decide) eK
        exact gs_R_tong yR hi (fun i2 t2 _ h => h) ht cg ts rfl (gs_rO_86 c6 (by have h8 := qp.1.1; rw [ei] at h8; have := bT.2.2.2.1; have := s2.1; (/-299-/first | (and_intros <;> omega) | (simp only [gz_hd] at *; omega))) u1.1 ts) bts ct ⟨(gs_T1_fr q1 (fz (t + 1) 1 (by (/-300-/first | omega | (simp only [gz_hd] at *; omega)))) (fun k9 => (gz (t + 2) k9 (by (/-301-/first | omega | (simp only [gz_hd] at *; omega))))) (ts.2.1 13 rfl rfl _) (fun k9 _ => (ts.2.2 20 rfl rfl _))), (gs_T3_fr q3 (fz (t + 3) 1 (by (/-302-/first | omega | (simp only [gz_hd] at *; omega)))) (fun k9 => (gz (t + 4) k9 (by (/-303-/first | omega | (simp only [gz_hd] at *; omega))))) (fun k9 => (fz (t + 5) k9 (by (/-304-/first | omega | (simp only [gz_hd] at *; omega))))) (fun k9 => (fz (t + 6) k9 (by (/-305-/first | omega | (simp only [gz_hd] at *; omega))))) (ts.2.1 14 rfl rfl _) (fun k9 _ _ => ⟨(ts.2.2 21 rfl rfl _), (ts.2.1 24 rfl rfl _), (ts.2.1 25 rfl rfl _)⟩)), (gs_T7_fr q7 (fz (t + 7) 1 (by (/-306-/first | omega | (simp only [gz_hd] at *; omega)))) (fun k9 => (gz (t + 8) k9 (by (/-307-/first | omega | (simp only [gz_hd] at *; omega))))) (ts.2.1 15 rfl rfl _) (fun k9 _ => (ts.2.2 22 rfl rfl _))), ((fz t 6 (by (/-308-/first | omega | (simp only [gz_hd] at *; omega)))).trans (qs.trans (ts.2.1 16 rfl rfl _).symm)), (gs_TP_up qp bT.2.2.2.1.1 s2.1 (fun k9 => (bT.2.2.2.2.2 k9).2) c6 s1 s3 u1.1 (gz_sh t1)), ((fz t 11 (by (/-309-/first | omega | (simp only [gz_hd] at *; omega)))).trans (qw.trans (ts.2.1 18 rfl rfl _).symm)), (gs_TL_fr ql (fz t 13 (by (/-310-/first | omega | (simp only [gz_hd] at *; omega)))) cl (ts.2.1 19 rfl rfl _) (fun k9 _ => (ts.2.1 41 rfl rfl _)))⟩
    have sc : gs_SC β η p Ir Jr I A z Iₚ A := by
      refine gs_SC_t hs hi ht p3 (fz 8 1 (by (/-311-/first | omega | (simp only [gz_hd] at *; omega)))) f2 ?_
      exact Or.inl ⟨fz (t + 7) 1 (by (/-312-/first | omega | (simp only [gz_hd] at *; omega))), fun k9 => fz (t + 9) k9 (by (/-313-/first | omega | (simp only [gz_hd] at *; omega))), fz t 6 (by (/-314-/first | omega | (simp only [gz_hd] at *; omega))), fun k9 => fz (t + 10) k9 (by (/-315-/first | omega | (simp only [gz_hd] at *; omega)))⟩
    have sd : gs_SD β η p Ir Jr I A z Iₚ A := by
      refine gs_SD_t hs hi ht (fz 8 1 (by (/-316-/first | omega | (simp only [gz_hd] at *; omega)))) f2 ?_
      by_cases h9 : z = 0
      · obtain ⟨c1, c2, d1, d2⟩ := gs_or0 p4 h9
        exact Or.inl ⟨⟨d1, fun k9 => (d2 k9).2.1, fun k9 => (d2 k9).2.2⟩, fz t 11 (by (/-317-/first | omega | (simp only [gz_hd] at *; omega))), fun k9 => fz (t + 15) k9 (by (/-318-/first | omega | (simp only [gz_hd] at *; omega)))⟩
      · obtain ⟨c1, c2, s1, s2, s3, s4⟩ := gs_or1 p4 (by (/-319-/first | omega | (simp only [gz_hd] at *; omega)))
        exact Or.inr ⟨by (/-320-/first | omega | (simp only [gz_hd] at *; omega)), by (/-321-/first | omega | (simp only [gz_hd] at *; omega)), Or.inl ⟨eK, ⟨by have := (s1 (by (/-322-/first | omega | (simp only [gz_hd] at *; omega)))).1; (/-323-/first | omega | (simp only [gz_hd] at *; omega)), s3.2.1, s3.2.2.2, s3.1, s4⟩, fz t 11 (by (/-324-/first | omega | (simp only [gz_hd] at *; omega))), fun k9 => fz (t + 15) k9 (by (/-325-/first | omega | (simp only [gz_hd] at *; omega)))⟩⟩
    exact gv_Yend ⟨z, sh, ro, Iₚ, Jₚ, A, Or.inr (Or.inl ⟨z, .boolean, hD 308 _ rfl, rfl, Or.inr ⟨rfl, by (/-326-/first | omega | (simp only [gz_hd] at *; omega))⟩, rfl, rfl⟩), rfl, rfl, ⟨⟨z0, z1⟩, hh.1, hh.2, KE_LT, KE_TK, ⟨p0, p1, by (/-327-/first | omega | (simp only [gz_hd] at *; omega)), fun k9 => fz 21 k9 (by (/-328-/first | omega | (simp only [gz_hd] at *; omega)))⟩, ⟨by (/-329-/first | omega | (simp only [gz_hd] at *; omega)), by (/-330-/first | omega | (simp only [gz_hd] at *; omega)), by (/-331-/first | omega | (simp only [gz_hd] at *; omega))⟩⟩, ⟨sp, sc, sd⟩⟩
  have n86 : ¬ gs_rn β η p = gs_W 86 := fun e9 => gs_cmpn (a := v1) (b := 31632350188499566) (by (/-332-/first | omega | (simp only [gz_hd] at *; omega))) (yv.trans ((gs_al_eq (gs_al_p yT) (gs_W_al 86 (by decide) (by decide))).mpr e9))
  show gv_Y _ _ (309, [(0, .inr (.inr (some 39))), (1, .inr (.inl v1))], [], sh, gc_h sh I J A)
  have f309 := gz_hi (gw_cmp v1 (2003792484))
  refine gv_lift (fun hk => gv_run 3 true hD (pcₚ := 314) (lvₚ := [(0, .inr (.inr (some 39))), (1, .inr (.inl v1))]) (stₚ := [.inl ((lg_cmp v1 (2003792484)).toInt)]) (hₚ := gc_h sh I J A) (C := (((True ∧ True) ∧ True) ∧ True)) rfl ⟨⟨⟨trivial, trivial⟩, trivial⟩, trivial⟩ hk) ?_
  refine gv_YofX (gv_if_ne (t := 324) hD rfl rfl ⟨by (/-333-/first | (have o1 := gz_sh f309; omega) | (simp only [gz_hd] at *; omega)), by (/-334-/first | (have o1 := gz_sh f309; omega) | (simp only [gz_hd] at *; omega))⟩ (fun c => gv_Xz ?_) (fun c => gv_Xz ?_))
  rotate_left
  · show gv_Y _ _ (317, [(0, .inr (.inr (some 39))), (1, .inr (.inl v1))], [], sh, gc_h sh I J A)
    refine gv_lift (fun hk => gv_run 1 true hD (pcₚ := 318) (lvₚ := [(0, .inr (.inr (some 39))), (1, .inr (.inl v1))]) (stₚ := [.inr (.inr (some 39))]) (hₚ := gc_h sh I J A) (C := (True ∧ True)) rfl ⟨trivial, trivial⟩ hk) ?_
    have eK : gs_rn β η p = gs_W 87 := (gs_al_eq (gs_al_p yT) (gs_W_al 87 (by decide) (by decide))).mp (yv.symm.trans (gs_cmp0 (a := v1) (b := 2003792484) (by (/-335-/first | omega | (simp only [gz_hd] at *; omega)))))
    obtain ⟨r9, h9, E9, P9⟩ := d_X6_readWord_a_p hws htb sh ro I J A hI t B β η (gs_X β η p) Ir Jr hb hTt.1 G_t x0 y1 y2 y4 zwc rgk.1 rn4.1 rn4.2 zpc.1.1 zpc.1.2 z3c.1.1 z3c.1.2 z3c.2 x39 KLT_I KTK_I
    obtain ⟨Iₚ, Jₚ, rfl, hIₚ, g, k, KE_LT, KE_TK, z, rfl, z0, z1, p0, p1, p2, p3, p4, p5, p6, p7⟩ := P9
    refine gv_lift (fun hk => gv_callV hD rfl (As := []) (st := []) rfl (by decide) S39 rfl (gc_lV6 hws rfl) (Nat.le_of_ble_eq_true rfl) (gz_Ev_mono (d := 5) (by decide) E9) hk) ?_
    have ok9 : gc_OK sh Iₚ Jₚ A := gc_OK_fr hok (fun q j => (g q j).imp (fun h => by
        rcases h with ⟨rfl, rfl⟩ | ⟨rfl, rfl⟩ | ⟨rfl, rfl⟩ | ⟨rfl, rfl⟩ | ⟨rfl, rfl⟩ | ⟨rfl, rfl⟩ | ⟨rfl, rfl⟩ | ⟨rfl, rfl⟩ | rfl | ⟨rfl, rfl⟩ | ⟨rfl, rfl⟩ | rfl | ⟨rfl, h9⟩ | ⟨rfl, rfl⟩
        · exact ⟨gc_x_lt (gc_bS hb (p := 39) rfl), gc_tyx (gc_bS hb (p := 39) rfl)⟩
        · exact ⟨gc_x_lt (gc_bS hb (p := 39) rfl), gc_tyx (gc_bS hb (p := 39) rfl)⟩
        · exact ⟨gc_x_lt (gc_bS hb (p := 23) rfl), gc_tyx (gc_bS hb (p := 23) rfl)⟩
        · exact ⟨gc_x_lt (gc_bS hb (p := 23) rfl), gc_tyx (gc_bS hb (p := 23) rfl)⟩
        · exact ⟨gc_x_lt (gc_bS hb (p := 23) rfl), gc_tyx (gc_bS hb (p := 23) rfl)⟩
        · exact ⟨gc_x_lt (gc_bS hb (p := 23) rfl), gc_tyx (gc_bS hb (p := 23) rfl)⟩
        · exact ⟨gc_x_lt (gc_bS hb (p := 1) rfl), gc_tyx (gc_bS hb (p := 1) rfl)⟩
        · exact ⟨gc_x_lt (gc_bS hb (p := 1) rfl), gc_tyx (gc_bS hb (p := 1) rfl)⟩
        · exact ⟨gc_x_lt (gc_bS hb (p := 20) rfl), gc_tyx (gc_bS hb (p := 20) rfl)⟩
        · exact ⟨gc_x_lt (gc_bS hb (p := 39) rfl), gc_tyx (gc_bS hb (p := 39) rfl)⟩
        · exact ⟨gc_x_lt (gc_bS hb (p := 39) rfl), gc_tyx (gc_bS hb (p := 39) rfl)⟩
        · exact ⟨gc_x_lt (gc_bS hb (p := 41) rfl), gc_tyx (gc_bS hb (p := 41) rfl)⟩
        · exact ⟨gc_x_lt ST_15, gc_tyx ST_15⟩
        · exact ⟨gc_x_lt ST_0, gc_tyx ST_0⟩
        ) id) (fun q j => (k q j).imp (fun h => by first | exact False.elim h | (/-336-/first | omega | (simp only [gz_hd] at *; omega))) id)
    have fz : ∀ q j : Nat, ¬ ((q = 39 ∧ j = 3) ∨ (q = 39 ∧ j = 4) ∨ (q = 23 ∧ j = 5) ∨ (q = 23 ∧ j = 6) ∨ (q = 23 ∧ j = 7) ∨ (q = 23 ∧ j = 8) ∨ (q = 1 ∧ j = 17) ∨ (q = 1 ∧ j = 18) ∨ q = 20 ∨ (q = 39 ∧ j = 6) ∨ (q = 39 ∧ j = 7) ∨ q = 41 ∨ (q = (t + 15) ∧ (11 * I t 11 ≤ (j : Int))) ∨ (q = t ∧ j = 11)) → Iₚ q j = I q j := fun q j h => (g q j).resolve_left h
    have gz : ∀ q j : Nat, ¬ ((q = 23 ∧ j = 9)) → Jₚ q j = J q j := fun q j h => (k q j).resolve_left h
    have f2 : ∀ q j : Nat, 144 ≤ q → (t ≤ q ∧ q < t + 17) ∨ Iₚ q j = I q j := fun q j _ => (g q j).imp (fun h => by (/-337-/first | (and_intros <;> omega) | (simp only [gz_hd] at *; omega))) id
    have f3 : ∀ q j : Nat, 144 ≤ q → (t ≤ q ∧ q < t + 17) ∨ Jₚ q j = J q j := fun q j _ => (k q j).imp (fun h => by (/-338-/first | (and_intros <;> omega) | (simp only [gz_hd] at *; omega))) id
    have hh := gh_HS_t hs hi ht hIₚ ok9 (fun q j _ => (g q j).imp (fun h => by unfold gh_mt; (/-339-/first | omega | (simp only [gz_hd] at *; omega))) id) (fz 1 5 (by (/-340-/first | omega | (simp only [gz_hd] at *; omega)))) f2 (fz t 13 (by (/-341-/first | omega | (simp only [gz_hd] at *; omega)))) (by (/-342-/first | omega | (simp only [gz_hd] at *; omega))) (fun j hj => fz (t + 15) j (by (/-343-/first | omega | (simp only [gz_hd] at *; omega)))) (fun w a b => by
      have e9 : 11 * w = Int.toNat (11 * I t 11) := by (/-344-/first | omega | (simp only [gz_hd] at *; omega))
      have e8 := p5.resolve_left (by (/-345-/first | omega | (simp only [gz_hd] at *; omega)))
      rw [e9, fz 12 _ (by (/-346-/first | omega | (simp only [gz_hd] at *; omega))), fz 4 1 (by (/-347-/first | omega | (simp only [gz_hd] at *; omega)))]
      exact e8) (by rw [fz (t + 3) 1 (by (/-348-/first | omega | (simp only [gz_hd] at *; omega))), fz (t + 1) 1 (by (/-349-/first | omega | (simp only [gz_hd] at *; omega)))]; exact w3) (gc_sc_fr hTt.2.2 (fun k9 => fz (t + 10) k9 (by (/-350-/first | omega | (simp only [gz_hd] at *; omega)))))
    have ct := gs_ct_o hs hi ht f2 f3
    have cl := gs_cl_o hs hi ht f2
    have bT' := gs_bT_of hIₚ hTt.1
    have eC : gs_stc β η Ir Jr p = gs_wd β η Ir Jr (I 39 5) (gs_X β η p) := by rw [yf]; exact (if_pos yT).trans (gs_stk_87 eK nc6)
    have cg : gs_cG I J Iₚ Jₚ := ⟨⟨(fz 2 1 (by (/-351-/first | omega | (simp only [gz_hd] at *; omega)))), (fz 4 1 (by (/-352-/first | omega | (simp only [gz_hd] at *; omega)))), (fz 6 1 (by (/-353-/first | omega | (simp only [gz_hd] at *; omega)))), (fz 8 1 (by (/-354-/first | omega | (simp only [gz_hd] at *; omega))))⟩, (fun k9 => ⟨(gz 3 k9 (by (/-355-/first | omega | (simp only [gz_hd] at *; omega)))), (gz 5 k9 (by (/-356-/first | omega | (simp only [gz_hd] at *; omega)))), (gz 7 k9 (by (/-357-/first | omega | (simp only [gz_hd] at *; omega)))), (gz 9 k9 (by (/-358-/first | omega | (simp only [gz_hd] at *; omega)))), (gz 18 k9 (by (/-359-/first | omega | (simp only [gz_hd] at *; omega))))⟩), ⟨(fz 1 13 (by (/-360-/first | omega | (simp only [gz_hd] at *; omega)))), (fz 1 5 (by (/-361-/first | omega | (simp only [gz_hd] at *; omega))))⟩, fun k9 => ⟨(fz 11 k9 (by (/-362-/first | omega | (simp only [gz_hd] at *; omega)))), (fz 12 k9 (by (/-363-/first | omega | (simp only [gz_hd] at *; omega)))), (fz 13 k9 (by (/-364-/first | omega | (simp only [gz_hd] at *; omega)))), (fz 15 k9 (by (/-365-/first | omega | (simp only [gz_hd] at *; omega)))), (fz 19 k9 (by (/-366-/first | omega | (simp only [gz_hd] at *; omega)))), (fz 14 k9 (by (/-367-/first | omega | (simp only [gz_hd] at *; omega))))⟩⟩
    have sp : gs_SP β η p Ir Jr z Iₚ Jₚ A := by
      unfold gs_SP
      rw [eC]
      refine ⟨fun h9 => ?_, fun h9 => ?_⟩
      · obtain ⟨c1, c2, d1⟩ := gs_or0 p7 h9
        refine ⟨c1, c2, gs_R_same yR cg (fun i2 t2 hi2 ht2 => ⟨ht2, ?_⟩)⟩
        by_cases c9 : i2 = i
        · subst c9
          rw [← Option.some.inj (ht.symm.trans ht2)]
          exact ⟨⟨(fz (t + 1) 1 (by (/-368-/first | omega | (simp only [gz_hd] at *; omega)))), fun k9 => (gz (t + 2) k9 (by (/-369-/first | omega | (simp only [gz_hd] at *; omega))))⟩, ⟨(fz (t + 3) 1 (by (/-370-/first | omega | (simp only [gz_hd] at *; omega)))), fun k9 => (gz (t + 4) k9 (by (/-371-/first | omega | (simp only [gz_hd] at *; omega)))), fun k9 => (fz (t + 5) k9 (by (/-372-/first | omega | (simp only [gz_hd] at *; omega)))), fun k9 => (fz (t + 6) k9 (by (/-373-/first | omega | (simp only [gz_hd] at *; omega))))⟩, ⟨(fz (t + 7) 1 (by (/-374-/first | omega | (simp only [gz_hd] at *; omega)))), fun k9 => (gz (t + 8) k9 (by (/-375-/first | omega | (simp only [gz_hd] at *; omega))))⟩, (fz t 6 (by (/-376-/first | omega | (simp only [gz_hd] at *; omega)))), ⟨(fz (t + 11) 1 (by (/-377-/first | omega | (simp only [gz_hd] at *; omega)))), fun k9 => (gz (t + 12) k9 (by (/-378-/first | omega | (simp only [gz_hd] at *; omega)))), fun k9 => (fz (t + 13) k9 (by (/-379-/first | omega | (simp only [gz_hd] at *; omega)))), fun k9 => (fz (t + 14) k9 (by (/-380-/first | omega | (simp only [gz_hd] at *; omega))))⟩, (p4.resolve_left (by (/-381-/first | omega | (simp only [gz_hd] at *; omega)))), (fz t 13 (by (/-382-/first | omega | (simp only [gz_hd] at *; omega)))), cl⟩
        · exact ct i2 t2 hi2 c9 ht2
      · obtain ⟨c1, c2, s18, s19⟩ := gs_or1 p7 (by (/-383-/first | omega | (simp only [gz_hd] at *; omega)))
        refine ⟨c1, c2, s18, fun Irₚ Jrₚ hU => ?_⟩
        obtain ⟨u1, ts⟩ := gs_STU_k hU 87 (by decide) eK
        have s11 := p3.resolve_left (by (/-384-/first | omega | (simp only [gz_hd] at *; omega)))
        exact gs_R_tong yR hi (fun i2 t2 _ h => h) ht cg ts rfl (gs_rO_87 c6 u1.1.2 ts) bts ct ⟨(gs_T1_fr q1 (fz (t + 1) 1 (by (/-385-/first | omega | (simp only [gz_hd] at *; omega)))) (fun k9 => (gz (t + 2) k9 (by (/-386-/first | omega | (simp only [gz_hd] at *; omega))))) (ts.2.1 13 rfl rfl _) (fun k9 _ => (ts.2.2 20 rfl rfl _))), (gs_T3_fr q3 (fz (t + 3) 1 (by (/-387-/first | omega | (simp only [gz_hd] at *; omega)))) (fun k9 => (gz (t + 4) k9 (by (/-388-/first | omega | (simp only [gz_hd] at *; omega))))) (fun k9 => (fz (t + 5) k9 (by (/-389-/first | omega | (simp only [gz_hd] at *; omega))))) (fun k9 => (fz (t + 6) k9 (by (/-390-/first | omega | (simp only [gz_hd] at *; omega))))) (ts.2.1 14 rfl rfl _) (fun k9 _ _ => ⟨(ts.2.2 21 rfl rfl _), (ts.2.1 24 rfl rfl _), (ts.2.1 25 rfl rfl _)⟩)), (gs_T7_fr q7 (fz (t + 7) 1 (by (/-391-/first | omega | (simp only [gz_hd] at *; omega)))) (fun k9 => (gz (t + 8) k9 (by (/-392-/first | omega | (simp only [gz_hd] at *; omega))))) (ts.2.1 15 rfl rfl _) (fun k9 _ => (ts.2.2 22 rfl rfl _))), ((fz t 6 (by (/-393-/first | omega | (simp only [gz_hd] at *; omega)))).trans (qs.trans (ts.2.1 16 rfl rfl _).symm)), (gs_TP_fr qp (fz (t + 11) 1 (by (/-394-/first | omega | (simp only [gz_hd] at *; omega)))) (fun k9 => (gz (t + 12) k9 (by (/-395-/first | omega | (simp only [gz_hd] at *; omega))))) (fun k9 => (fz (t + 13) k9 (by (/-396-/first | omega | (simp only [gz_hd] at *; omega))))) (fun k9 => (fz (t + 14) k9 (by (/-397-/first | omega | (simp only [gz_hd] at *; omega))))) (ts.2.1 17 rfl rfl _) (fun k9 _ _ => ⟨(ts.2.2 23 rfl rfl _), (ts.2.1 31 rfl rfl _), fun j9 _ => (ts.2.1 32 rfl rfl _)⟩)), (by have h8 := u1.1.1; rw [c6] at h8; have h7 := qw; show Iₚ t 11 = Irₚ 18 (Int.toNat (i : Int)); (/-398-/first | omega | (simp only [gz_hd] at *; omega))), (gs_TL_fr ql (fz t 13 (by (/-399-/first | omega | (simp only [gz_hd] at *; omega)))) cl (ts.2.1 19 rfl rfl _) (fun k9 _ => (ts.2.1 41 rfl rfl _)))⟩
    refine gv_lift (fun hk => gv_run 1 true hD (pcₚ := 328) (lvₚ := [(0, .inr (.inr (some 39))), (1, .inr (.inl v1))]) (stₚ := [.inl z]) (hₚ := gc_h sh Iₚ Jₚ A) (C := (True ∧ True)) rfl ⟨trivial, trivial⟩ hk) ?_
    have sc : gs_SC β η p Ir Jr I A z Iₚ A := by
      refine gs_SC_t hs hi ht p6 (fz 8 1 (by (/-400-/first | omega | (simp only [gz_hd] at *; omega)))) f2 ?_
      exact Or.inl ⟨fz (t + 7) 1 (by (/-401-/first | omega | (simp only [gz_hd] at *; omega))), fun k9 => fz (t + 9) k9 (by (/-402-/first | omega | (simp only [gz_hd] at *; omega))), fz t 6 (by (/-403-/first | omega | (simp only [gz_hd] at *; omega))), fun k9 => fz (t + 10) k9 (by (/-404-/first | omega | (simp only [gz_hd] at *; omega)))⟩
    have sd : gs_SD β η p Ir Jr I A z Iₚ A := by
      refine gs_SD_t hs hi ht (fz 8 1 (by (/-405-/first | omega | (simp only [gz_hd] at *; omega)))) f2 ?_
      by_cases h9 : z = 0
      · obtain ⟨c1, c2, d1⟩ := gs_or0 p7 h9
        exact Or.inl ⟨⟨fz (t + 11) 1 (by (/-406-/first | omega | (simp only [gz_hd] at *; omega))), fun k9 => fz (t + 13) k9 (by (/-407-/first | omega | (simp only [gz_hd] at *; omega))), fun k9 => fz (t + 14) k9 (by (/-408-/first | omega | (simp only [gz_hd] at *; omega)))⟩, p4.resolve_left (by (/-409-/first | omega | (simp only [gz_hd] at *; omega))), d1⟩
      · obtain ⟨c1, c2, s18, s19⟩ := gs_or1 p7 (by (/-410-/first | omega | (simp only [gz_hd] at *; omega)))
        exact Or.inr ⟨by (/-411-/first | omega | (simp only [gz_hd] at *; omega)), by (/-412-/first | omega | (simp only [gz_hd] at *; omega)), Or.inr ⟨eK, ⟨fz (t + 11) 1 (by (/-413-/first | omega | (simp only [gz_hd] at *; omega))), fun k9 => fz (t + 13) k9 (by (/-414-/first | omega | (simp only [gz_hd] at *; omega))), fun k9 => fz (t + 14) k9 (by (/-415-/first | omega | (simp only [gz_hd] at *; omega)))⟩, p3.resolve_left (by (/-416-/first | omega | (simp only [gz_hd] at *; omega))), s19⟩⟩
    exact gv_Yend ⟨z, sh, ro, Iₚ, Jₚ, A, Or.inr (Or.inl ⟨z, .boolean, hD 328 _ rfl, rfl, Or.inr ⟨rfl, by (/-417-/first | omega | (simp only [gz_hd] at *; omega))⟩, rfl, rfl⟩), rfl, rfl, ⟨⟨z0, z1⟩, hh.1, hh.2, KE_LT, KE_TK, ⟨p0, p1, by (/-418-/first | omega | (simp only [gz_hd] at *; omega)), fun k9 => fz 21 k9 (by (/-419-/first | omega | (simp only [gz_hd] at *; omega)))⟩, ⟨by (/-420-/first | omega | (simp only [gz_hd] at *; omega)), by (/-421-/first | omega | (simp only [gz_hd] at *; omega)), by (/-422-/first | omega | (simp only [gz_hd] at *; omega))⟩⟩, ⟨sp, sc, sd⟩⟩
  have n87 : ¬ gs_rn β η p = gs_W 87 := fun e9 => gs_cmpn (a := v1) (b := 2003792484) (by (/-423-/first | omega | (simp only [gz_hd] at *; omega))) (yv.trans ((gs_al_eq (gs_al_p yT) (gs_W_al 87 (by decide) (by decide))).mpr e9))
  show gv_Y _ _ (324, [(0, .inr (.inr (some 39))), (1, .inr (.inl v1))], [], sh, gc_h sh I J A)
  refine gv_lift (fun hk => gv_run 1 true hD (pcₚ := 325) (lvₚ := [(0, .inr (.inr (some 39))), (1, .inr (.inl v1))]) (stₚ := [.inr (.inr (some 39))]) (hₚ := gc_h sh I J A) (C := (True ∧ True)) rfl ⟨trivial, trivial⟩ hk) ?_
  have eK : gs_rn β η p = gs_W 88 := by rcases hK6 with h | h | h | h | h | h; exact absurd h n83; exact absurd h n84; exact absurd h n85; exact absurd h n86; exact absurd h n87; exact h
  obtain ⟨z, a, s, shₚ, ro', Iₚ, Jₚ, Aₚ, EV, hR, hP⟩ := e_X6_readLin_p hw hws htb sh ro I J A hI t B hb hTt.1 G_t x0 w2 x39 KLT_I KTK_I β η (gs_X β η p) Ir Jr y1 y2 ⟨⟨rgk.1, rgk.2.1, zlc.2.1⟩, ⟨zlc.1, zlc.2.2⟩, rn4, z1c, z3c.1, z3c.2⟩ y4 hok (by (/-424-/first | omega | (simp only [gz_hd] at *; omega)))
  refine gc_YcallV hD (ix := 155) (M := (yX6_readLin, cX6_readLin, 4, (some .boolean))) (As := []) (b := 39) (st := []) rfl rfl (by decide) S39 rfl (gc_lV6 hws rfl) (Nat.le_of_ble_eq_true rfl) (gz_Ev_mono (d := 9) (by decide) EV) (gc_okc (Or.inl (by (/-425-/first | omega | (simp only [gz_hd] at *; omega)))) (gc_okc trivial gc_ok0)) gc_ok0 ?_
  have hh := gh_HS_l hs hi ht hR
  have eC : gs_stc β η Ir Jr p = gs_lin β η Ir Jr (I 39 5) (gs_X β η p) := by rw [yf]; exact (if_pos yT).trans (gs_stk_88 eK nc6)
  have sp : (gs_SP β η p Ir Jr z Iₚ Jₚ Aₚ ∧ gs_SCV β η p Ir Jr I A z Iₚ Aₚ) := ⟨gs_SP_88 hs yR hi ht c6 eK eC hR hP, gs_SCV_88 hs hi ht hR hP⟩
  obtain ⟨hz, hcn, hln, hx, hIₚ, hok', hLT, hTK, fr, frJ, hrd, hres⟩ := hR
  have hA10 : ∀ i9, i9 < 8 → Aₚ 10 i9 = A 10 i9 := fun i9 _ => by
    rcases hres with ⟨_, _, g⟩ | ⟨_, _, _, g, _⟩
    · exact g 10 i9 (by (/-426-/first | omega | (simp only [gz_hd] at *; omega)))
    · exact g 10 i9 (by (/-427-/first | omega | (simp only [gz_hd] at *; omega))) (fun h9 => by have := h9.1; (/-428-/first | omega | (simp only [gz_hd] at *; omega)))
  have nl := gh_nl_eq hA10
  exact gv_Yend ⟨z, shₚ, ro', Iₚ, Jₚ, Aₚ, Or.inr (Or.inl ⟨z, .boolean, hD 328 _ rfl, rfl, Or.inr ⟨rfl, by (/-429-/first | omega | (simp only [gz_hd] at *; omega))⟩, rfl, rfl⟩), rfl, rfl, ⟨hz, hh.1, hh.2, hLT, hTK, ⟨hrd.1, hrd.2.1, hrd.2.2, fun k9 => (fr 21 k9 (by (/-430-/first | omega | (simp only [gz_hd] at *; omega)))).resolve_left (by (/-431-/first | omega | (simp only [gz_hd] at *; omega)))⟩, ⟨by (/-432-/first | omega | (simp only [gz_hd] at *; omega)), by (/-433-/first | omega | (simp only [gz_hd] at *; omega)), by (/-434-/first | omega | (simp only [gz_hd] at *; omega))⟩⟩, sp⟩
