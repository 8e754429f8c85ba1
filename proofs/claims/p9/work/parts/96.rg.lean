set_option maxHeartbeats 8000000 in
set_option maxRecDepth 100000 in
theorem gh_rs3_p {ws0 : List Cond} {tb : String → gz_T} (hw : gc_Wn ws0) (hws : gc_Ws ws0) (htb : gc_tbs tb) {sh : gz_Sh} {ro : Nat → Nat} {I : gr_I} {J : gr_J} {A : gc_A} (v1 : Int64) (hs : gh_HS sh ro I J A) (B : Int) (x0 : B ≤ 1280 ∧ I 1 17 + I 23 1 ≤ B + I 23 5) (KLT_I : gc_LT I) (KTK_I : gc_TK I) (hlen : sh.length + 25 ≤ 1000000) (β : Int → Int) (η p : Int) (Ir : gr_I) (Jr : gr_J) (yT : gs_T β η p = 1) (yv : v1 = gs_M β η p) (yf : I 39 5 = gs_A β η p) (y1 : gc_AT β η (gs_X β η p) 23 I J) (y2 : 0 ≤ gs_X β η p) (y4 : I 1 18 = 0) (yR : gs_R I J A Ir Jr) (yS : gs_RV I A Ir) (hK6 : gs_K6 (gs_rn β η p)) : gv_Y (gc_E6 ws0 tb 91 (yX6_readStatement, cX6_readStatement, 4, (some .boolean)) kX6_readStatement) (gh_QSp B sh ro I A β η p Ir Jr) (207, [(0, .inr (.inr (some 39))), (1, .inr (.inl v1))], [], sh, gc_h sh I J A) := by
  have hb := hs.1
  have hI := hs.2.1
  have hok := hs.2.2.1
  have hcu := hs.2.2.2.2.2.2
  have h144 := gc_Base_len hb
  have i8 : 0 ≤ I 8 1 ∧ I 8 1 ≤ 8 := gc_in hI (gc_bR hb (by decide) rfl) rfl rfl
  have S39 : sh[39]? = some (false, 6, 19) := gc_bS_39 hb
  have S1 : sh[1]? = some (false, 8, 21) := gc_bS_1 hb
  have A39 : A 39 0 = some 1 := gc_bA_39_0 hb
  have hD : gv_D (gc_E6 ws0 tb 91 (yX6_readStatement, cX6_readStatement, 4, (some .boolean)) kX6_readStatement) := gq_of oX6_readStatement
  obtain ⟨rn2, rn4, rn6, rn8, rgf, rgk, rc5, rT, r00⟩ := id yR
  have fA : 0 ≤ gs_A β η (gs_X β η p) := by have h9 := (gc_AT_l y1).2.1; have h8 : 0 ≤ I 23 5 ∧ I 23 5 ≤ 1000 := gc_in hI (gc_bR hb (by decide) rfl) rfl rfl; omega
  have f15 : -1 ≤ I 1 5 ∧ I 1 5 ≤ 7 := gc_in hI (gc_bR hb (by decide) rfl) rfl rfl
  have f5 : 0 ≤ I 39 5 ∧ I 39 5 ≤ 1000 := gc_in hI (gc_bR hb (by decide) rfl) rfl rfl
  refine gv_lift (fun hk => gv_run 2 true hD (pcₚ := 209) (lvₚ := [(0, .inr (.inr (some 39))), (1, .inr (.inl v1))]) (stₚ := [.inr (.inr (some 39)), .inr (.inr (some 39))]) (hₚ := gc_h sh I J A) (C := ((True ∧ True) ∧ True)) rfl ⟨⟨trivial, trivial⟩, trivial⟩ hk) ?_
  refine gv_lift (fun hk => gv_get hD rfl rfl S39 ⟨by decide, by decide⟩ (gc_hA S39 rfl A39) hk) ?_
  refine gv_lift (fun hk => gv_get hD rfl rfl S1 ⟨by decide, by decide⟩ (gc_hI S1 rfl) hk) ?_
  refine gv_YofX (gv_if_lt (t := 236) hD rfl rfl ⟨by omega, by omega⟩ (fun c => gv_Xz ?_) (fun c => gv_Xz ?_))
  · show gv_Y _ _ (236, [(0, .inr (.inr (some 39))), (1, .inr (.inl v1))], [.inr (.inr (some 39))], sh, gc_h sh I J A)
    refine gv_lift (fun hk => gv_run 1 true hD (pcₚ := 237) (lvₚ := [(0, .inr (.inr (some 39))), (1, .inr (.inl v1))]) (stₚ := [.inr (.inr none), .inr (.inr (some 39))]) (hₚ := gc_h sh I J A) (C := (True ∧ True)) rfl ⟨trivial, trivial⟩ hk) ?_
    refine gv_lift (fun hk => gv_put hD rfl rfl S39 ⟨by decide, by decide⟩ rfl trivial hk) ?_
    rw [gc_p5n S39 rfl]
    have e2 := gr_u_eq I 39 2 (-1)
    have g1 : ∀ q j : Nat, (q = 39 ∧ j = 2) ∨ (gr_u I 39 2 (-1)) q j = I q j := fun q j => by
        by_cases h : q = 39 ∧ j = 2
        · exact Or.inl h
        · exact Or.inr (gr_u_ne I _ h)
    have hI1 : gc_Inv ro (gr_u I 39 2 (-1)) := gc_Invu (lo := -1) (hi := 999999) hI (gc_bR hb (by decide) rfl) rfl rfl ⟨by omega, by omega⟩
    have ok1 : gc_OK sh (gr_u I 39 2 (-1)) J A := gh_OK5 hok S39 rfl (by omega)
    have fz : ∀ q j : Nat, ¬ (q = 39 ∧ j = 2) → (gr_u I 39 2 (-1)) q j = I q j := fun q j h => (g1 q j).resolve_left h
    have hh := gh_HS_r hs hI1 ok1 (fun q j => (g1 q j).imp (fun h => by omega) id) (by have := fz 1 5 (by decide); omega)
    have kLT : gc_LT (gr_u I 39 2 (-1)) := gc_LT_fr KLT_I (fz 23 5 (by decide)) (fz 23 6 (by decide)) (fz 23 7 (by decide)) (fun k9 => fz 24 k9 (by omega))
    have kTK : gc_TK (gr_u I 39 2 (-1)) := gc_TK_fr KTK_I (fz 23 1 (by decide)) (fz 23 5 (by decide)) (fz 23 6 (by decide)) (fz 23 7 (by decide))
    have q23_1 := fz 23 1 (by decide)
    have q23_5 := fz 23 5 (by decide)
    have q1_17 := fz 1 17 (by decide)
    have q8_1 := fz 8 1 (by decide)
    have q39_5 := fz 39 5 (by decide)
    have yS1 : gs_RV (gr_u I 39 2 (-1)) A Ir := gs_RV_u yS yR hs (fun q j a b => fz q j (by omega)) (fz 8 1 (by decide)) (fz 1 17 (by decide))
    have yR1 : gs_R (gr_u I 39 2 (-1)) J A Ir Jr := gs_R_same yR (gs_cG_9 (fun q j a b c => fz q j (by omega)) (fun _ _ _ => rfl) (fz 1 5 (by decide))) (fun i9 t9 hi9 ht9 => ⟨ht9, gs_ct_s hs (fun q j h => fz q j (by omega)) (fun _ _ _ => rfl) i9 t9 hi9 ht9⟩)
    refine gv_lift (fun hk => gv_run 1 true hD (pcₚ := 241) (lvₚ := [(0, .inr (.inr (some 39))), (1, .inr (.inl v1))]) (stₚ := [.inr (.inr (some 39))]) (hₚ := gc_h sh (gr_u I 39 2 (-1)) J A) (C := (True ∧ True)) rfl ⟨trivial, trivial⟩ hk) ?_
    refine gv_lift (fun hk => gv_get hD rfl rfl S39 ⟨by decide, by decide⟩ (v := .inr (.inr none)) (gh_h5n S39 rfl (by omega)) hk) ?_
    refine gv_lift (fun hk => gv_run 4 true hD (pcₚ := 250) (lvₚ := [(0, .inr (.inr (some 39))), (1, .inr (.inl v1))]) (stₚ := [.inr (.inr (some 39)), .inl 3, .inr (.inr (some 39))]) (hₚ := gc_h sh (gr_u I 39 2 (-1)) J A) (C := ((((True ∧ True) ∧ True) ∧ True) ∧ True)) rfl ⟨⟨⟨⟨trivial, trivial⟩, trivial⟩, trivial⟩, trivial⟩ hk) ?_
    refine gv_lift (fun hk => gv_get hD rfl rfl S39 ⟨by decide, by decide⟩ (gc_hI S39 rfl) hk) ?_
    obtain ⟨r9, h9, E9, P9⟩ := d_X6_wrong_p hws htb sh ro (gr_u I 39 2 (-1)) J A hI1 3 ((gr_u I 39 2 (-1)) 39 5) hb ⟨by omega, by omega⟩ ⟨by omega, by omega⟩
    obtain ⟨Iₚ, Jₚ, rfl, hIₚ, g, k, z, rfl, z0, z1, p0, p1⟩ := P9
    refine gv_lift (fun hk => gv_callV hD rfl (As := [.inl 3, .inl ((gr_u I 39 2 (-1)) 39 5)]) (st := []) rfl (by decide) S39 rfl (gc_lV6 hws rfl) (Nat.le_of_ble_eq_true rfl) (gz_Ev_mono (d := 1) (by decide) E9) hk) ?_
    have ok9 : gc_OK sh Iₚ Jₚ A := gc_OK_fr ok1 (fun q j => (g q j).imp (fun h => by
        rcases h with ⟨rfl, rfl⟩ | ⟨rfl, rfl⟩
        · exact ⟨gc_x_lt (gc_bS hb (p := 39) rfl), gc_tyx (gc_bS hb (p := 39) rfl)⟩
        · exact ⟨gc_x_lt (gc_bS hb (p := 39) rfl), gc_tyx (gc_bS hb (p := 39) rfl)⟩
        ) id) (fun q j => (k q j).imp (fun h => by first | exact False.elim h | omega) id)
    have fy : ∀ q j : Nat, ¬ ((q = 39 ∧ j = 3) ∨ (q = 39 ∧ j = 4)) → Iₚ q j = (gr_u I 39 2 (-1)) q j := fun q j h => (g q j).resolve_left h
    have h2 := gh_HS_r hh.1 hIₚ ok9 (fun q j => (g q j).imp (fun h => by omega) id) (by have := fy 1 5 (by omega); have := fz 1 5 (by decide); omega)
    have y23_1 := fy 23 1 (by omega)
    have y23_5 := fy 23 5 (by omega)
    have y1_17 := fy 1 17 (by omega)
    have gy : ∀ q j : Nat, Jₚ q j = J q j := fun q j => (k q j).resolve_left id
    have yR2 : gs_R Iₚ Jₚ A Ir Jr := gs_R_same yR1 (gs_cG_9 (fun q j a b c => fy q j (by omega)) (fun q j _ => gy q j) (fy 1 5 (by omega))) (fun i9 t9 hi9 ht9 => ⟨ht9, gs_ct_s hh.1 (fun q j h => fy q j (by omega)) (fun q j _ => gy q j) i9 t9 hi9 ht9⟩)
    have eC : gs_stc β η Ir Jr p = -1 - gs_A β η p := (if_pos yT).trans (gs_stk_n (gs_KO hK6) (Or.inr (by omega)))
    have sp : gs_SP β η p Ir Jr z Iₚ Jₚ A := by
      unfold gs_SP
      rw [eC]
      exact ⟨fun _ => ⟨by omega, by omega, yR2⟩, fun h9 => absurd h9 (by omega)⟩
    have sc : gs_SCV β η p Ir Jr I A z Iₚ A := gs_SCV_n hs (fun q j a b => (fy q j (by omega)).trans (fz q j (by omega))) ((fy 8 1 (by omega)).trans (fz 8 1 (by decide))) ((fy 1 17 (by omega)).trans (fz 1 17 (by decide)))
    exact gv_Yend ⟨z, sh, ro, Iₚ, Jₚ, A, Or.inr (Or.inl ⟨z, .boolean, hD 256 _ rfl, rfl, Or.inr ⟨rfl, by omega⟩, rfl, rfl⟩), rfl, rfl, ⟨⟨z0, z1⟩, h2.1, gh_AO_trans i8.2 hh.1 h2.1 hh.2 h2.2, gc_LT_fr kLT y23_5 (fy 23 6 (by omega)) (fy 23 7 (by omega)) (fun k9 => fy 24 k9 (by omega)), gc_TK_fr kTK y23_1 y23_5 (fy 23 6 (by omega)) (fy 23 7 (by omega)), ⟨by omega, by omega, by omega, fun k9 => (fy 21 k9 (by omega)).trans (fz 21 k9 (by omega))⟩, ⟨by omega, by omega, by omega⟩⟩, ⟨sp, sc⟩⟩
  show gv_Y _ _ (218, [(0, .inr (.inr (some 39))), (1, .inr (.inl v1))], [.inr (.inr (some 39))], sh, gc_h sh I J A)
  refine gv_lift (fun hk => gv_run 1 true hD (pcₚ := 219) (lvₚ := [(0, .inr (.inr (some 39))), (1, .inr (.inl v1))]) (stₚ := [.inr (.inr (some 39)), .inr (.inr (some 39))]) (hₚ := gc_h sh I J A) (C := (True ∧ True)) rfl ⟨trivial, trivial⟩ hk) ?_
  refine gv_lift (fun hk => gv_get hD rfl rfl S39 ⟨by decide, by decide⟩ (gc_hA S39 rfl A39) hk) ?_
  have A14 : A 1 4 = some 10 := gc_bA_1_4 hb
  refine gv_lift (fun hk => gv_get hD rfl rfl S1 ⟨by decide, by decide⟩ (gc_hA S1 rfl A14) hk) ?_
  refine gv_lift (fun hk => gv_run 1 true hD (pcₚ := 226) (lvₚ := [(0, .inr (.inr (some 39))), (1, .inr (.inl v1))]) (stₚ := [.inr (.inr (some 39)), .inr (.inr (some 10)), .inr (.inr (some 39))]) (hₚ := gc_h sh I J A) (C := (True ∧ True)) rfl ⟨trivial, trivial⟩ hk) ?_
  refine gv_lift (fun hk => gv_get hD rfl rfl S39 ⟨by decide, by decide⟩ (gc_hA S39 rfl A39) hk) ?_
  refine gv_lift (fun hk => gv_get hD rfl rfl S1 ⟨by decide, by decide⟩ (gc_hI S1 rfl) hk) ?_
  obtain ⟨t, ht, w2⟩ := hs.2.2.2.2.1 (Int.toNat (I 1 5)) (by omega)
  have hTt := hs.2.2.2.1.1 (Int.toNat (I 1 5)) t (by omega) ht
  have tlt := gc_x_lt hTt.1.1
  have S10 : sh[10]? = some (true, 5, 8) := gc_bS_10 hb
  refine gv_lift (fun hk => gv_aald hD rfl S10 ⟨by decide, by decide⟩ ⟨by decide, by decide⟩ ⟨by omega, by omega⟩ ((gc_aA S10 rfl).trans ht) hk) ?_
  refine gv_lift (fun hk => gv_run 1 true hD (pcₚ := 237) (lvₚ := [(0, .inr (.inr (some 39))), (1, .inr (.inl v1))]) (stₚ := [.inr (.inr (some t)), .inr (.inr (some 39))]) (hₚ := gc_h sh I J A) (C := (True ∧ True)) rfl ⟨trivial, trivial⟩ hk) ?_
  refine gv_lift (fun hk => gv_put hD rfl rfl S39 ⟨by decide, by decide⟩ rfl trivial hk) ?_
  rw [gc_p5 S39 rfl]
  have e2 := gr_u_eq I 39 2 (t : Int)
  have g1 : ∀ q j : Nat, (q = 39 ∧ j = 2) ∨ (gr_u I 39 2 (t : Int)) q j = I q j := fun q j => by
      by_cases h : q = 39 ∧ j = 2
      · exact Or.inl h
      · exact Or.inr (gr_u_ne I _ h)
  have hI1 : gc_Inv ro (gr_u I 39 2 (t : Int)) := gc_Invu (lo := -1) (hi := 999999) hI (gc_bR hb (by decide) rfl) rfl rfl ⟨by omega, by omega⟩
  have ok1 : gc_OK sh (gr_u I 39 2 (t : Int)) J A := gh_OK5 hok S39 rfl (by omega)
  have fz : ∀ q j : Nat, ¬ (q = 39 ∧ j = 2) → (gr_u I 39 2 (t : Int)) q j = I q j := fun q j h => (g1 q j).resolve_left h
  have hh := gh_HS_r hs hI1 ok1 (fun q j => (g1 q j).imp (fun h => by omega) id) (by have := fz 1 5 (by decide); omega)
  have kLT : gc_LT (gr_u I 39 2 (t : Int)) := gc_LT_fr KLT_I (fz 23 5 (by decide)) (fz 23 6 (by decide)) (fz 23 7 (by decide)) (fun k9 => fz 24 k9 (by omega))
  have kTK : gc_TK (gr_u I 39 2 (t : Int)) := gc_TK_fr KTK_I (fz 23 1 (by decide)) (fz 23 5 (by decide)) (fz 23 6 (by decide)) (fz 23 7 (by decide))
  have q23_1 := fz 23 1 (by decide)
  have q23_5 := fz 23 5 (by decide)
  have q1_17 := fz 1 17 (by decide)
  have q8_1 := fz 8 1 (by decide)
  have q39_5 := fz 39 5 (by decide)
  have yS1 : gs_RV (gr_u I 39 2 (t : Int)) A Ir := gs_RV_u yS yR hs (fun q j a b => fz q j (by omega)) (fz 8 1 (by decide)) (fz 1 17 (by decide))
  have yR1 : gs_R (gr_u I 39 2 (t : Int)) J A Ir Jr := gs_R_same yR (gs_cG_9 (fun q j a b c => fz q j (by omega)) (fun _ _ _ => rfl) (fz 1 5 (by decide))) (fun i9 t9 hi9 ht9 => ⟨ht9, gs_ct_s hs (fun q j h => fz q j (by omega)) (fun _ _ _ => rfl) i9 t9 hi9 ht9⟩)
  refine gv_lift (fun hk => gv_run 1 true hD (pcₚ := 241) (lvₚ := [(0, .inr (.inr (some 39))), (1, .inr (.inl v1))]) (stₚ := [.inr (.inr (some 39))]) (hₚ := gc_h sh (gr_u I 39 2 (t : Int)) J A) (C := (True ∧ True)) rfl ⟨trivial, trivial⟩ hk) ?_
  refine gv_lift (fun hk => gv_get hD rfl rfl S39 ⟨by decide, by decide⟩ (gc_h5 (t := t) S39 rfl e2) hk) ?_
  refine gv_lift (fun hk => gv_run 1 true hD (pcₚ := 257) (lvₚ := [(0, .inr (.inr (some 39))), (1, .inr (.inl v1))]) (stₚ := []) (hₚ := gc_h sh (gr_u I 39 2 (t : Int)) J A) (C := (True ∧ True)) rfl ⟨trivial, trivial⟩ hk) ?_
  have y9 : gc_AT β η (gs_X β η p) 23 (gr_u I 39 2 (t : Int)) J := gc_AT_I y1 (fz 23 1 (by decide)) (fz 23 5 (by decide)) (fz 23 6 (by decide)) (fz 23 7 (by decide)) (fz 23 8 (by decide)) (fun k9 => fz 24 k9 (by omega))
  refine gh_Ym (fun v a s h => ?_) (gh_rs4_p hw hws htb v1 hh.1 B (by omega) kLT kTK hlen β η p Ir Jr yT yv (q39_5.trans yf) y9 y2 ((fz 1 18 (by decide)).trans y4) yR1 yS1 hK6 (i := Int.toNat (I 1 5)) (t := t) (by omega) ht (by have := fz 1 5 (by decide); omega) e2)
  obtain ⟨z, shₚ, ro', Iₚ, Jₚ, Aₚ, q1, q2, q3, q4, q5⟩ := h
  exact ⟨z, shₚ, ro', Iₚ, Jₚ, Aₚ, q1, q2, q3, gh_RS_pre i8.2 hh.1 hh.2 q23_1 (by omega) (fun k9 => fz 21 k9 (by omega)) q4, ⟨q5.1, gs_SCV_pre (fun q j a b => fz q j (by omega)) (fz 8 1 (by decide)) (fz 1 17 (by decide)) (fz 1 5 (by decide)) hs q5.2⟩⟩
def gh_QTp (B : Int) (sh : gz_Sh) (ro : Nat → Nat) (I : gr_I) (A : gc_A) (β : Int → Int) (η p : Int) (Ir : gr_I) (Jr : gr_J) (v : gz_S) (a s : Nat) : Prop := ∃ (z : Int) (shₚ : gz_Sh) (ro' : Nat → Nat) (Iₚ : gr_I) (Jₚ : gr_J) (Aₚ : gc_A), gz_fin cX6_readStatement (some .boolean) v (some (.inl z)) ∧ v.2.2.2.1 = shₚ ∧ v.2.2.2.2 = gc_h shₚ Iₚ Jₚ Aₚ ∧ gh_RS B sh ro I A z a s shₚ ro' Iₚ Jₚ Aₚ ∧ (z = 0 ∨ I 23 5 < Iₚ 23 5) ∧ (gs_SP β η p Ir Jr z Iₚ Jₚ Aₚ ∧ gs_SCV β η p Ir Jr I A z Iₚ Aₚ)
set_option maxHeartbeats 8000000 in
set_option maxRecDepth 100000 in
theorem e_X6_readStatement_p {ws0 : List Cond} {tb : String → gz_T} (hw : gc_Wn ws0) (hws : gc_Ws ws0) (htb : gc_tbs tb) (sh : gz_Sh) (ro : Nat → Nat) (I : gr_I) (J : gr_J) (A : gc_A) (hs : gh_HS sh ro I J A) (B : Int) (x0 : B ≤ 1280 ∧ I 1 17 + I 23 1 ≤ B + I 23 5) (KLT_I : gc_LT I) (KTK_I : gc_TK I) (hlen : sh.length + 25 ≤ 1000000) (β : Int → Int) (η p : Int) (Ir : gr_I) (Jr : gr_J) (y1 : gc_AT β η p 23 I J) (y2 : 0 ≤ p) (y4 : I 1 18 = 0) (yR : gs_R I J A Ir Jr) (yS : gs_RV I A Ir) : ∃ (z : Int) (a s : Nat) (shₚ : gz_Sh) (ro' : Nat → Nat) (Iₚ : gr_I) (Jₚ : gr_J) (Aₚ : gc_A), gz_Ev ws0 tb 92 (yX6_readStatement, cX6_readStatement, 4, (some .boolean)) [.inr (.inr (some 39))] sh (gc_h sh I J A) (some (.inl z)) shₚ (gc_h shₚ Iₚ Jₚ Aₚ) a s ∧ gh_RS B sh ro I A z a s shₚ ro' Iₚ Jₚ Aₚ ∧ (z = 0 ∨ I 23 5 < Iₚ 23 5) ∧ (gs_SP β η p Ir Jr z Iₚ Jₚ Aₚ ∧ gs_SCV β η p Ir Jr I A z Iₚ Aₚ) := by
  have hb := hs.1
  have hI := hs.2.1
  have hok := hs.2.2.1
  have hcu := hs.2.2.2.2.2.2
  have i8 : 0 ≤ I 8 1 ∧ I 8 1 ≤ 8 := gc_in hI (gc_bR hb (by decide) rfl) rfl rfl
  have h144 := gc_Base_len hb
  have fA : 0 ≤ gs_A β η p := by have h9 := (gc_AT_l y1).2.1; have h8 : 0 ≤ I 23 5 ∧ I 23 5 ≤ 1000 := gc_in hI (gc_bR hb (by decide) rfl) rfl rfl; omega
  suffices hY : gv_Y (gc_E6 ws0 tb 91 (yX6_readStatement, cX6_readStatement, 4, (some .boolean)) kX6_readStatement) (gh_QTp B sh ro I A β η p Ir Jr) (0, [(0, .inr (.inr (some 39)))], [], sh, gc_h sh I J A) by
    obtain ⟨n, v, a, s, h1, z, shₚ, ro', Iₚ, Jₚ, Aₚ, h2, h3, h4, h5, h6, h7⟩ := hY
    refine ⟨z, a, s, shₚ, ro', Iₚ, Jₚ, Aₚ, Or.inr (Or.inr ⟨by decide, Nat.le_of_ble_eq_true rfl, n, v, ?_, h2, h3, h4⟩), h5, h6, h7⟩
    show gz_to (gz_do ws0 RX6 (tb RX6) cX6_readStatement 4 (gz_Ev ws0 tb 91)) n _ v a s
    rw [gc_tb6 htb]
    exact h1
  have okh : ∀ (I0 I9 : gr_I) (J0 J9 : gr_J), gc_OK sh I0 J0 A → (∀ q j : Nat, ((q = 39 ∧ j = 3) ∨ (q = 39 ∧ j = 4) ∨ (q = 23 ∧ j = 5) ∨ (q = 23 ∧ j = 6) ∨ (q = 23 ∧ j = 7) ∨ (q = 23 ∧ j = 8) ∨ (q = 39 ∧ j = 5)) ∨ I9 q j = I0 q j) → (∀ q j : Nat, ((q = 23 ∧ j = 9)) ∨ J9 q j = J0 q j) → gc_OK sh I9 J9 A := fun I0 I9 J0 J9 hk0 f g => by
    have ok9 : gc_OK sh I9 J9 A := gc_OK_fr hk0 (fun q j => (f q j).imp (fun h => by
        rcases h with ⟨rfl, rfl⟩ | ⟨rfl, rfl⟩ | ⟨rfl, rfl⟩ | ⟨rfl, rfl⟩ | ⟨rfl, rfl⟩ | ⟨rfl, rfl⟩ | ⟨rfl, rfl⟩
        · exact ⟨gc_x_lt (gc_bS hb (p := 39) rfl), gc_tyx (gc_bS hb (p := 39) rfl)⟩
        · exact ⟨gc_x_lt (gc_bS hb (p := 39) rfl), gc_tyx (gc_bS hb (p := 39) rfl)⟩
        · exact ⟨gc_x_lt (gc_bS hb (p := 23) rfl), gc_tyx (gc_bS hb (p := 23) rfl)⟩
        · exact ⟨gc_x_lt (gc_bS hb (p := 23) rfl), gc_tyx (gc_bS hb (p := 23) rfl)⟩
        · exact ⟨gc_x_lt (gc_bS hb (p := 23) rfl), gc_tyx (gc_bS hb (p := 23) rfl)⟩
        · exact ⟨gc_x_lt (gc_bS hb (p := 23) rfl), gc_tyx (gc_bS hb (p := 23) rfl)⟩
        · exact ⟨gc_x_lt (gc_bS hb (p := 39) rfl), gc_tyx (gc_bS hb (p := 39) rfl)⟩
        ) id) (fun q j => (g q j).imp (fun h => by first | exact False.elim h | omega) id)
    exact ok9
  have same : ∀ (I0 I9 : gr_I) (J0 J9 : gr_J), gh_HS sh ro I0 J0 A → gs_R I0 J0 A Ir Jr → (∀ q j : Nat, ((q = 39 ∧ j = 3) ∨ (q = 39 ∧ j = 4) ∨ (q = 23 ∧ j = 5) ∨ (q = 23 ∧ j = 6) ∨ (q = 23 ∧ j = 7) ∨ (q = 23 ∧ j = 8) ∨ (q = 39 ∧ j = 5)) ∨ I9 q j = I0 q j) → (∀ q j : Nat, ((q = 23 ∧ j = 9)) ∨ J9 q j = J0 q j) → gs_R I9 J9 A Ir Jr := fun I0 I9 J0 J9 h0 hR f g => gs_R_same hR (gs_cG_9 (fun q j a b c => (f q j).resolve_left (by omega)) (fun q j a => (g q j).resolve_left (by omega)) ((f 1 5).resolve_left (by omega))) (fun i9 t9 hi9 ht9 => ⟨ht9, gs_ct_s h0 (fun q j h => (f q j).resolve_left (by omega)) (fun q j h => (g q j).resolve_left (by omega)) i9 t9 hi9 ht9⟩)
  refine gv_YofX (d_X6_readStatement_h_p hws htb sh ro I J A hI β η p hb y1 y2 KLT_I KTK_I (fun v h => ?_) (fun I8 J9 v1 hI8 F8 F9 k1 k2 m mv mA => ?_))
  · obtain ⟨r, hf, hs9, Iₚ, Jₚ, e1, e2, e3, e4, e5, e6, z, rfl, z0, z1, p0, p1, p2, p3⟩ := h
    have hh := gh_HS_r hs e2 (okh I Iₚ J Jₚ hok e3 e4) (fun q j => (e3 q j).imp (fun h => by omega) id) (by have := (e3 1 5).resolve_left (by omega); omega)
    have h17 := (e3 1 17).resolve_left (by omega)
    have eC : gs_stc β η Ir Jr p = -1 - gs_A β η p := if_neg p3.1
    have sp : gs_SP β η p Ir Jr z Iₚ Jₚ A := by
      unfold gs_SP
      rw [eC]
      exact ⟨fun _ => ⟨by omega, by omega, same I Iₚ J Jₚ hs yR e3 e4⟩, fun h9 => absurd h9 (by omega)⟩
    exact gv_Yend ⟨z, sh, ro, Iₚ, Jₚ, A, hf, hs9, e1, ⟨⟨z0, z1⟩, hh.1, hh.2, e5, e6, ⟨p0, p1, by omega, fun k => (e3 21 k).resolve_left (by omega)⟩, ⟨by omega, by omega, by omega⟩⟩, Or.inl p2, ⟨sp, gs_SCV_n hs (fun q j a b => (e3 q j).resolve_left (by omega)) ((e3 8 1).resolve_left (by omega)) h17⟩⟩
  have m9 := m.1
  have hh := gh_HS_r hs hI8 (okh I I8 J J9 hok F8 F9) (fun q j => (F8 q j).imp (fun h => by omega) id) (by have := (F8 1 5).resolve_left (by omega); omega)
  have h17 := (F8 1 17).resolve_left (by omega)
  have yR8 := same I I8 J J9 hs yR F8 F9
  have yS8 : gs_RV I8 A Ir := gs_RV_u yS yR hs (fun q j a b => (F8 q j).resolve_left (by omega)) ((F8 8 1).resolve_left (by omega)) h17
  have pre8 : ∀ {z : Int} {Iₚ : gr_I} {Aₚ : gc_A}, gs_SCV β η p Ir Jr I8 A z Iₚ Aₚ → gs_SCV β η p Ir Jr I A z Iₚ Aₚ := fun h9 => gs_SCV_pre (fun q j a b => (F8 q j).resolve_left (by omega)) ((F8 8 1).resolve_left (by omega)) h17 ((F8 1 5).resolve_left (by omega)) hs h9
  have y48 : I8 1 18 = 0 := ((F8 1 18).resolve_left (by omega)).trans y4
  have yX : 0 ≤ gs_X β η p := by have h9 := (gc_AT_l y1).2.2; have h8 : 0 ≤ I 23 6 ∧ I 23 6 ≤ 1001 := gc_in hI (gc_bR hb (by decide) rfl) rfl rfl; omega
  have yT : gs_T β η p = 1 := m.2.1
  have yf : I8 39 5 = gs_A β η p := m.2.2.1
  refine gv_Xz (gh_Ym (Q := gh_QSp B sh ro I8 A β η p Ir Jr) (fun v a s h => ?_) ?_)
  · obtain ⟨z, shₚ, ro', Iₚ, Jₚ, Aₚ, q1, q2, q3, q4, q5⟩ := h
    exact ⟨z, shₚ, ro', Iₚ, Jₚ, Aₚ, q1, q2, q3, gh_RS_pre i8.2 hh.1 hh.2 (by omega) (by omega) (fun k => (F8 21 k).resolve_left (by omega)) q4, Or.inr (by have := q4.2.2.2.2.2.1.2.1; omega), ⟨q5.1, pre8 q5.2⟩⟩
  have i88 : I8 8 1 = I 8 1 := (F8 8 1).resolve_left (by omega)
  refine gh_rs1_p hw hws htb v1 hh.1 B (by omega) k1 k2 hlen β η p Ir Jr yT mv yf mA yX y48 yR8 yS8 (fun n80 n81 n82 n89 n90 n91 => ?_)
  refine gv_YofX (d_X6_readStatement_m_p hws htb sh ro I8 J9 A hI8 β η p v1 hb mv yT k1 k2 (fun v h => ?_) (fun _ hK => gv_Xz (gh_rs3_p hw hws htb v1 hh.1 B (by omega) k1 k2 hlen β η p Ir Jr yT mv yf mA yX y48 yR8 yS8 hK)))
  obtain ⟨r, hf, hs9, Iₚ, Jₚ, e1, e2, e3, e4, e5, e6, z, rfl, z0, z1, p0, p1, p2, p3⟩ := h
  have e3' : ∀ q j : Nat, ((q = 39 ∧ j = 3) ∨ (q = 39 ∧ j = 4) ∨ (q = 23 ∧ j = 5) ∨ (q = 23 ∧ j = 6) ∨ (q = 23 ∧ j = 7) ∨ (q = 23 ∧ j = 8) ∨ (q = 39 ∧ j = 5)) ∨ Iₚ q j = I8 q j := fun q j => (e3 q j).imp (fun h => by omega) id
  have h2 := gh_HS_r hh.1 e2 (okh I8 Iₚ J9 Jₚ hh.1.2.2.1 e3' e4) (fun q j => (e3 q j).imp (fun h => by omega) id) (by have := (e3 1 5).resolve_left (by omega); have := hh.1.2.2.2.2.2.2; omega)
  have h18 := (e3 1 17).resolve_left (by omega)
  have eC : gs_stc β η Ir Jr p = -1 - gs_A β η p := (if_pos yT).trans (gs_stk_n (fun h => h.elim n80 (fun h => h.elim n81 (fun h => h.elim n82 (fun h => h.elim n89 (fun h => h.elim n90 n91))))) (Or.inl p3.1))
  have sp : gs_SP β η p Ir Jr z Iₚ Jₚ A := by
    unfold gs_SP
    rw [eC]
    have p4 := p3.2
    exact ⟨fun _ => ⟨by omega, by omega, same I8 Iₚ J9 Jₚ hh.1 yR8 e3' e4⟩, fun h9 => absurd h9 (by omega)⟩
  exact gv_Yend ⟨z, sh, ro, Iₚ, Jₚ, A, hf, hs9, e1, ⟨⟨z0, z1⟩, h2.1, h2.2, e5, e6, ⟨p0, p1, by omega, fun k => (e3 21 k).resolve_left (by omega)⟩, ⟨by omega, by omega, by omega⟩⟩, ⟨sp, gs_SCV_n hh.1 (fun q j a b => (e3 q j).resolve_left (by omega)) ((e3 8 1).resolve_left (by omega)) h18⟩⟩
