def gh_n1 (o : Option Nat) : Nat := match o with
  | none => 1
  | some _ => 0
def gh_nl (A : gc_A) : Nat := gh_n1 (A 10 0) + gh_n1 (A 10 1) + gh_n1 (A 10 2) + gh_n1 (A 10 3) + gh_n1 (A 10 4) + gh_n1 (A 10 5) + gh_n1 (A 10 6) + gh_n1 (A 10 7)
theorem gh_nl_eq {A A' : gc_A} (h : ∀ i, i < 8 → A' 10 i = A 10 i) : gh_nl A' = gh_nl A := by
  unfold gh_nl
  rw [h 0 (by decide), h 1 (by decide), h 2 (by decide), h 3 (by decide), h 4 (by decide), h 5 (by decide), h 6 (by decide), h 7 (by decide)]
theorem gh_nl_set {A A' : gc_A} {n t : Nat} (hn : n < 8) (h : ∀ i, ¬ i = n → A' 10 i = A 10 i) (h0 : A 10 n = none) (h1 : A' 10 n = some t) : gh_nl A' + 1 = gh_nl A := by
  have e0 : gh_n1 (A 10 n) = 1 := by rw [h0]; rfl
  have e1 : gh_n1 (A' 10 n) = 0 := by rw [h1]; rfl
  unfold gh_nl
  match n, hn with
  | 0, _ =>
    rw [h 1 (by decide), h 2 (by decide), h 3 (by decide), h 4 (by decide), h 5 (by decide), h 6 (by decide), h 7 (by decide)]
    omega
  | 1, _ =>
    rw [h 0 (by decide), h 2 (by decide), h 3 (by decide), h 4 (by decide), h 5 (by decide), h 6 (by decide), h 7 (by decide)]
    omega
  | 2, _ =>
    rw [h 0 (by decide), h 1 (by decide), h 3 (by decide), h 4 (by decide), h 5 (by decide), h 6 (by decide), h 7 (by decide)]
    omega
  | 3, _ =>
    rw [h 0 (by decide), h 1 (by decide), h 2 (by decide), h 4 (by decide), h 5 (by decide), h 6 (by decide), h 7 (by decide)]
    omega
  | 4, _ =>
    rw [h 0 (by decide), h 1 (by decide), h 2 (by decide), h 3 (by decide), h 5 (by decide), h 6 (by decide), h 7 (by decide)]
    omega
  | 5, _ =>
    rw [h 0 (by decide), h 1 (by decide), h 2 (by decide), h 3 (by decide), h 4 (by decide), h 6 (by decide), h 7 (by decide)]
    omega
  | 6, _ =>
    rw [h 0 (by decide), h 1 (by decide), h 2 (by decide), h 3 (by decide), h 4 (by decide), h 5 (by decide), h 7 (by decide)]
    omega
  | 7, _ =>
    rw [h 0 (by decide), h 1 (by decide), h 2 (by decide), h 3 (by decide), h 4 (by decide), h 5 (by decide), h 6 (by decide)]
    omega
  | _ + 8, h9 => exact absurd h9 (by omega)
def gh_RS (B : Int) (sh : gz_Sh) (ro : Nat → Nat) (I : gr_I) (A : gc_A) (z : Int) (a s : Nat) (sh' : gz_Sh) (ro' : Nat → Nat) (I' : gr_I) (J' : gr_J) (A' : gc_A) : Prop := (0 ≤ z ∧ z ≤ 1) ∧ gh_HS sh' ro' I' J' A' ∧ gh_AO sh ro I A sh' ro' I' A' ∧ gc_LT I' ∧ gc_TK I' ∧ (I' 23 1 = I 23 1 ∧ I 23 5 ≤ I' 23 5 ∧ I' 1 17 + I' 23 1 ≤ B + I' 23 5 ∧ ∀ k, I' 21 k = I 21 k) ∧ (a + 25 * gh_nl A' ≤ 25 * gh_nl A + 9 ∧ s + 45714 * gh_nl A' ≤ 45714 * gh_nl A + 82 ∧ sh'.length + 25 * gh_nl A' ≤ sh.length + 25 * gh_nl A + 9)
theorem gh_RS_pre {sh sh' : gz_Sh} {ro ro' : Nat → Nat} {I I8 I' : gr_I} {J8 J' : gr_J} {A A' : gc_A} {z B : Int} {a s : Nat} (h81 : I 8 1 ≤ 8) (hs8 : gh_HS sh ro I8 J8 A) (ao : gh_AO sh ro I A sh ro I8 A) (e1 : I8 23 1 = I 23 1) (e5 : I 23 5 ≤ I8 23 5) (e21 : ∀ k, I8 21 k = I 21 k) (h : gh_RS B sh ro I8 A z a s sh' ro' I' J' A') : gh_RS B sh ro I A z a s sh' ro' I' J' A' := by
  obtain ⟨a1, a2, a3, a4, a5, a6, a7⟩ := h
  exact ⟨a1, a2, gh_AO_trans h81 hs8 a2 ao a3, a4, a5, ⟨by omega, by omega, a6.2.2.1, fun k => (a6.2.2.2 k).trans (e21 k)⟩, a7⟩
theorem gh_Ym {E : gv_E} {Q Q' : gz_S → Nat → Nat → Prop} {u : gz_S} (h : ∀ v a s, Q v a s → Q' v a s) (k : gv_Y E Q u) : gv_Y E Q' u := by
  obtain ⟨n, v, a, s, g, q⟩ := k
  exact ⟨n, v, a, s, g, h v a s q⟩
theorem gc_YcallV {E : gv_E} {Q : gz_S → Nat → Nat → Prop} {pc ix b ci n n9 a s : Nat} {M : gx_M} {As st stk : List gz_V} {lv : List (Nat × gz_V)} {sh sh' : gz_Sh} {h h' : gz_H} {T9 : u_T} {res : Option gz_V} (hD : gv_D E) (hi : E.2.2.2.2.2.2 pc = some (.invokevirtual ix)) (hk : stk = As.reverse ++ .inr (.inr (some b)) :: st) (hb : b < 1000000) (hs : sh[b]? = some (false, ci, n)) (hc : vwCl[ci]? = some (M.1.cls, T9, n9)) (hl : gx_lV E.1 E.2.1 ix M As.length) (h8 : (st.map gz_c).sum ≤ 8) (hK : E.2.2.2.2.2.1 M (.inr (.inr (some b)) :: As) sh h res sh' h' a s) (hlv : ∀ q ∈ lv, gz_okv sh.length q.2) (hst : ∀ q ∈ st, gz_okv sh.length q) (kk : gv_Y E (fun v a' s' => Q v (a + a') (s + s')) (pc + 3, lv, res.toList ++ st, sh', h')) : gv_Y E Q (pc, lv, stk, sh, h) :=
  gv_Yone (u' := (pc + 3, lv, res.toList ++ st, sh', h')) (a := a) (s := s) (Or.inr (Or.inr (Or.inl ⟨ix, M, As, b, st, ci, n, T9, n9, res, hD pc _ hi, hk, hb, hs, hc, hl, h8, hK, Or.inr ⟨hlv, hst⟩, rfl, rfl, rfl⟩))) kk
/-- what readers alone write keeps the store -/
theorem gh_HS_r {sh : gz_Sh} {ro : Nat → Nat} {I I' : gr_I} {J J' : gr_J} {A : gc_A} (hs : gh_HS sh ro I J A) (hI' : gc_Inv ro I') (hok' : gc_OK sh I' J' A) (g : ∀ q j : Nat, (q = 23 ∨ (39 ≤ q ∧ q ≤ 47) ∨ (q = 1 ∧ j = 5)) ∨ I' q j = I q j) (cu : -1 ≤ I' 1 5 ∧ I' 1 5 < I 8 1) : gh_HS sh ro I' J' A ∧ gh_AO sh ro I A sh ro I' A := by
  have fz : ∀ q j : Nat, ¬ (q = 23 ∨ (39 ≤ q ∧ q ≤ 47) ∨ (q = 1 ∧ j = 5)) → I' q j = I q j := fun q j h => (g q j).resolve_left h
  have fu : gh_FU I I' := gh_FU_of (fz 4 1 (by omega)) (fun j => fz 11 j (by omega)) (fun j => fz 12 j (by omega)) (fun j => fz 13 j (by omega))
  exact gh_HS_s hs hI' hok' (fun q j _ => (g q j).imp (fun h => by unfold gh_mw; omega) id) (fun q j h1 => fz q j (by omega)) (fz 8 1 (by omega)) cu (by have := fz 2 1 (by omega); omega) fu (gh_ME_of (fun j => fz 15 j (by omega)) (fun j => fz 16 j (by omega))) (gh_MS_st hs.2.2.2.2.2.1 fu (fun j => fz 15 j (by omega)) (fun j => fz 16 j (by omega)))
set_option maxHeartbeats 4000000 in
set_option maxRecDepth 100000 in
theorem e_X6_readTongue {ws0 : List Cond} {tb : String → gz_T} (hw : gc_Wn ws0) (hws : gc_Ws ws0) (htb : gc_tbs tb) (sh : gz_Sh) (ro : Nat → Nat) (I : gr_I) (J : gr_J) (A : gc_A) (hs : gh_HS sh ro I J A) (B : Int) (x0 : B ≤ 1280 ∧ I 1 17 + I 23 1 ≤ B + I 23 5) (KLT_I : gc_LT I) (KTK_I : gc_TK I) (hlen : sh.length + 25 ≤ 1000000) : ∃ (z : Int) (a s : Nat) (sh' : gz_Sh) (ro' : Nat → Nat) (I' : gr_I) (J' : gr_J) (A' : gc_A), gz_Ev ws0 tb 10 (yX6_readTongue, cX6_readTongue, 4, (some .boolean)) [.inr (.inr (some 39))] sh (gc_h sh I J A) (some (.inl z)) sh' (gc_h sh' I' J' A') a s ∧ gh_RS B sh ro I A z a s sh' ro' I' J' A' := by
  have hb := hs.1
  have hI := hs.2.1
  have hok := hs.2.2.1
  have hcu := hs.2.2.2.2.2.2
  have h144 := gc_Base_len hb
  have i8 : 0 ≤ I 8 1 ∧ I 8 1 ≤ 8 := gc_in hI (gc_bR hb (by decide) rfl) rfl rfl
  have hD : gv_D (gc_E6 ws0 tb 9 (yX6_readTongue, cX6_readTongue, 4, (some .boolean)) kX6_readTongue) := gq_ok oX6_readTongue
  suffices hY : gv_Y (gc_E6 ws0 tb 9 (yX6_readTongue, cX6_readTongue, 4, (some .boolean)) kX6_readTongue) (fun v a s => ∃ (z : Int) (sh' : gz_Sh) (ro' : Nat → Nat) (I' : gr_I) (J' : gr_J) (A' : gc_A), gz_fin cX6_readTongue (some .boolean) v (some (.inl z)) ∧ v.2.2.2.1 = sh' ∧ v.2.2.2.2 = gc_h sh' I' J' A' ∧ gh_RS B sh ro I A z a s sh' ro' I' J' A') (0, [(0, .inr (.inr (some 39)))], [], sh, gc_h sh I J A) by
    obtain ⟨n, v, a, s, h1, z, sh', ro', I', J', A', h2, h3, h4, h5⟩ := hY
    refine ⟨z, a, s, sh', ro', I', J', A', Or.inr (Or.inr ⟨by decide, Nat.le_of_ble_eq_true rfl, n, v, ?_, h2, h3, h4⟩), h5⟩
    show gz_to (gz_do ws0 RX6 (tb RX6) cX6_readTongue 4 (gz_Ev ws0 tb 9)) n _ v a s
    rw [gc_tb6 htb]
    exact h1
  have okh : ∀ (I9 : gr_I) (J9 : gr_J), (∀ q j : Nat, ((q = 39 ∧ j = 3) ∨ (q = 39 ∧ j = 4) ∨ (q = 23 ∧ j = 5) ∨ (q = 23 ∧ j = 6) ∨ (q = 23 ∧ j = 7) ∨ (q = 23 ∧ j = 8) ∨ (q = 1 ∧ j = 5)) ∨ I9 q j = I q j) → (∀ q j : Nat, ((q = 23 ∧ j = 9)) ∨ J9 q j = J q j) → gc_OK sh I9 J9 A := fun I9 J9 f g => by
    have ok9 : gc_OK sh I9 J9 A := gc_OK_fr hok (fun q j => (f q j).imp (fun h => by
        rcases h with ⟨rfl, rfl⟩ | ⟨rfl, rfl⟩ | ⟨rfl, rfl⟩ | ⟨rfl, rfl⟩ | ⟨rfl, rfl⟩ | ⟨rfl, rfl⟩ | ⟨rfl, rfl⟩
        · exact ⟨gc_x_lt (gc_bS hb (p := 39) rfl), gc_tyx (gc_bS hb (p := 39) rfl)⟩
        · exact ⟨gc_x_lt (gc_bS hb (p := 39) rfl), gc_tyx (gc_bS hb (p := 39) rfl)⟩
        · exact ⟨gc_x_lt (gc_bS hb (p := 23) rfl), gc_tyx (gc_bS hb (p := 23) rfl)⟩
        · exact ⟨gc_x_lt (gc_bS hb (p := 23) rfl), gc_tyx (gc_bS hb (p := 23) rfl)⟩
        · exact ⟨gc_x_lt (gc_bS hb (p := 23) rfl), gc_tyx (gc_bS hb (p := 23) rfl)⟩
        · exact ⟨gc_x_lt (gc_bS hb (p := 23) rfl), gc_tyx (gc_bS hb (p := 23) rfl)⟩
        · exact ⟨gc_x_lt (gc_bS hb (p := 1) rfl), gc_tyx (gc_bS hb (p := 1) rfl)⟩
        ) id) (fun q j => (g q j).imp (fun h => by first | exact False.elim h | omega) id)
    exact ok9
  have hsW : ∀ (I9 : gr_I) (J9 : gr_J), gc_Inv ro I9 → (∀ q j : Nat, ((q = 39 ∧ j = 3) ∨ (q = 39 ∧ j = 4) ∨ (q = 23 ∧ j = 5) ∨ (q = 23 ∧ j = 6) ∨ (q = 23 ∧ j = 7) ∨ (q = 23 ∧ j = 8) ∨ (q = 1 ∧ j = 5)) ∨ I9 q j = I q j) → (∀ q j : Nat, ((q = 23 ∧ j = 9)) ∨ J9 q j = J q j) → (-1 ≤ I9 1 5 ∧ I9 1 5 < I 8 1) → gh_HS sh ro I9 J9 A ∧ gh_AO sh ro I A sh ro I9 A := fun I9 J9 hI9 f g cu => gh_HS_r hs hI9 (okh I9 J9 f g) (fun q j => (f q j).imp (fun h => by omega) id) cu
  refine gv_YofX (d_X6_readTongue_h hws htb sh ro I J A hI hb KLT_I KTK_I (fun v h => ?_) (fun I8 J9 v1 v3 s1 hI8 F8 F9 k1 k2 m => ?_))
  · obtain ⟨r, hf, hs9, I', J', e1, e2, e3, e4, e5, e6, z, rfl, z0, z1, p0, p1, p2, p3⟩ := h
    have hh := hsW I' J' e2 e3 e4 (by omega)
    have h17 := (e3 1 17).resolve_left (by omega)
    exact gv_Yend ⟨z, sh, ro, I', J', A, hf, hs9, e1, ⟨z0, z1⟩, hh.1, hh.2, e5, e6, ⟨p0, p1, by omega, fun k => (e3 21 k).resolve_left (by omega)⟩, ⟨by omega, by omega, by omega⟩⟩
  obtain ⟨m0, m1, m2, m3, m4, m5, m6⟩ := m
  have hh := hsW I8 J9 hI8 F8 F9 (by omega)
  have n8 : Int.toNat (I8 8 1) = Int.toNat (I 8 1) := by omega
  refine gv_Xz ?_
  obtain ⟨a, s, sh', ro', I', J', A', t, EV, hM⟩ := e_X8_makeTongue hw hws htb sh ro I8 J9 A hI8 s1 hb (by omega) (fun t ht => have h := hh.1.2.2.2.1.1 _ t (by omega) ht; ⟨h.1, h.2.1⟩) hh.1.2.2.1 hlen
  refine gc_YcallV hD (ix := 232) (M := (yX8_makeTongue, cX8_makeTongue, 4, none)) (As := [.inr (.inl s1)]) (b := 1) (st := []) rfl rfl (by decide) (gc_bS hb (p := 1) rfl) rfl (gc_lV6 hws rfl) (Nat.le_of_ble_eq_true rfl) EV (gc_okc (Or.inl (by omega)) (gc_okc trivial (gc_okc trivial gc_ok0))) gc_ok0 ?_
  have h2 := gh_HS_m hh.1 (by omega) hM
  obtain ⟨hx, hI2, hok2, hTT, hA2, hz, fr2, frJ2, hcs⟩ := hM
  have hb2 := h2.1.1
  have S39 : sh'[39]? = some (false, 6, 19) := gc_bS hb2 rfl
  have S1 : sh'[1]? = some (false, 8, 21) := gc_bS hb2 rfl
  have A39 : A' 39 0 = some 1 := gc_bA hb2 rfl
  show gv_Y _ _ (91, [(0, .inr (.inr (some 39))), (1, .inr (.inl v1)), (3, .inl v3)], [], sh', gc_h sh' I' J' A')
  refine gv_lift (fun hk => gv_run 1 true hD (pc' := 92) (lv' := [(0, .inr (.inr (some 39))), (1, .inr (.inl v1)), (3, .inl v3)]) (st' := [.inr (.inr (some 39))]) (h' := gc_h sh' I' J' A') (C := (True ∧ True)) rfl ⟨trivial, trivial⟩ hk) ?_
  refine gv_lift (fun hk => gv_get hD rfl rfl S39 ⟨by decide, by decide⟩ (gc_hA S39 rfl A39) hk) ?_
  refine gv_lift (fun hk => gv_run 1 true hD (pc' := 96) (lv' := [(0, .inr (.inr (some 39))), (1, .inr (.inl v1)), (3, .inl v3)]) (st' := [.inl v3, .inr (.inr (some 1))]) (h' := gc_h sh' I' J' A') (C := (True ∧ True)) rfl ⟨trivial, trivial⟩ hk) ?_
  refine gv_lift (fun hk => gv_put hD rfl rfl S1 ⟨by decide, by decide⟩ rfl trivial hk) ?_
  rw [gc_up S1 rfl]
  refine gv_lift (fun hk => gv_run 1 true hD (pc' := 100) (lv' := [(0, .inr (.inr (some 39))), (1, .inr (.inl v1)), (3, .inl v3)]) (st' := [.inl 1]) (h' := gc_h sh' (gr_u I' 1 5 v3) J' A') (C := (True ∧ True)) rfl ⟨trivial, trivial⟩ hk) ?_
  have e5 := gr_u_eq I' 1 5 v3
  have g3 : ∀ q j : Nat, (q = 1 ∧ j = 5) ∨ (gr_u I' 1 5 v3) q j = I' q j := fun q j => by
    by_cases h : q = 1 ∧ j = 5
    · exact Or.inl h
    · exact Or.inr (gr_u_ne I' v3 h)
  have hI3 : gc_Inv ro' (gr_u I' 1 5 v3) := gc_Invu (lo := -1) (hi := 7) hI2 (gc_bR hb2 (by decide) rfl) rfl rfl ⟨by omega, by omega⟩
  have ok3 : gc_OK sh' (gr_u I' 1 5 v3) J' A' := gc_OK_fr hok2 (fun q j => (g3 q j).imp (fun h => by
    obtain ⟨rfl, rfl⟩ := h
    exact ⟨gc_x_lt S1, gc_tyx S1⟩) id) (fun q j => Or.inr rfl)
  have h3 := gh_HS_r h2.1 hI3 ok3 (fun q j => (g3 q j).imp (fun h => by omega) id) (by have := hz.1; omega)
  have fz : ∀ q j : Nat, q < sh.length → ¬ (q = 1 ∧ j = 5) → ¬ (q = 8 ∧ j = 1) → q < 144 → (gr_u I' 1 5 v3) q j = I8 q j := fun q j h1 h2 h4 h5 => ((g3 q j).resolve_left h2).trans ((fr2 q j h1).resolve_left (by have := hTT.2.1; omega))
  have q23_1 := fz 23 1 (by omega) (by decide) (by decide) (by decide)
  have q23_5 := fz 23 5 (by omega) (by decide) (by decide) (by decide)
  have q1_17 := fz 1 17 (by omega) (by decide) (by decide) (by decide)
  have h17 := (F8 1 17).resolve_left (by omega)
  have kLT : gc_LT (gr_u I' 1 5 v3) := gc_LT_fr k1 q23_5 (fz 23 6 (by omega) (by decide) (by decide) (by decide)) (fz 23 7 (by omega) (by decide) (by decide) (by decide)) (fun k => fz 24 k (by omega) (by omega) (by omega) (by decide))
  have kTK : gc_TK (gr_u I' 1 5 v3) := gc_TK_fr k2 q23_1 q23_5 (fz 23 6 (by omega) (by decide) (by decide) (by decide)) (fz 23 7 (by omega) (by decide) (by decide) (by decide))
  have cnt : a + 25 * gh_nl A' ≤ 25 * gh_nl A + 9 ∧ s + 45714 * gh_nl A' ≤ 45714 * gh_nl A + 82 ∧ sh'.length + 25 * gh_nl A' ≤ sh.length + 25 * gh_nl A + 9 := by
    rcases hcs with ⟨c1, c2, c3, c4, c5, c6⟩ | ⟨c1, c2, c3, c4, c5, c6⟩
    · subst c2
      subst c4
      omega
    · have c7 := gh_nl_set (n := Int.toNat (I8 8 1)) (by omega) (fun i hi => hA2 10 i (by omega) (fun h9 => hi h9.2)) c1 hTT.2.2
      omega
  exact gv_Yend ⟨1, sh', ro', (gr_u I' 1 5 v3), J', A', Or.inr (Or.inl ⟨1, .boolean, hD 100 _ rfl, rfl, Or.inr ⟨rfl, Or.inr rfl⟩, rfl, rfl⟩), rfl, rfl, ⟨by decide, by decide⟩, h3.1, gh_AO_trans i8.2 h2.1 h3.1 (gh_AO_trans i8.2 hh.1 h2.1 hh.2 h2.2) h3.2, kLT, kTK, ⟨by omega, by omega, by omega, fun k => (fz 21 k (by omega) (by omega) (by omega) (by decide)).trans ((F8 21 k).resolve_left (by omega))⟩, ⟨by omega, by omega, by omega⟩⟩
