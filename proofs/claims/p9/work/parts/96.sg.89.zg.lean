/-! ADD AND MODULE over what the House keeps: cells are made. -/
theorem gh_HS_x {sh shₚ : gz_Sh} {ro ro' : Nat → Nat} {I Iₚ : gr_I} {J Jₚ : gr_J} {A Aₚ : gc_A} (hs : gh_HS sh ro I J A) (hx : gc_ext sh ro A shₚ ro' Aₚ) (hIₚ : gc_Inv ro' Iₚ) (hok' : gc_OK shₚ Iₚ Jₚ Aₚ) (e : ∀ q j : Nat, q < sh.length → (22 ≤ q ∧ q < 144) ∨ Iₚ q j = I q j) (hA : ∀ q k : Nat, ¬ q = 104 → Aₚ q k = A q k) : gh_HS shₚ ro' Iₚ Jₚ Aₚ := by
  obtain ⟨hb, hI, hok, hT, hU, hM, hc⟩ := hs
  have h144 := gc_Base_len hb
  have i8 : 0 ≤ I 8 1 ∧ I 8 1 ≤ 8 := gc_in hI (gc_bR hb (by decide) rfl) rfl rfl
  have h12 : ∀ k, 0 ≤ I 12 k ∧ I 12 k ≤ 4 := fun k => gc_in hI (gc_bR hb (p := 12) (by decide) rfl) rfl rfl
  have tg : ∀ i t : Nat, i < 8 → A 10 i = some t → ∀ d j : Nat, d < 25 → Iₚ (t + d) j = I (t + d) j := fun i t hi ht d j hd => by
    have rg := gh_rng hT hi ht
    exact (e (t + d) j (by omega)).resolve_left (by omega)
  have ln : ∀ q, gc_isLin sh ro A q → 144 ≤ q → ∀ d k, d ≤ 8 → Iₚ (q + d) k = I (q + d) k := fun q g1 g2 d k hd => (e (q + d) k (by have h9 := gc_x_lt (gc_linS8 g1); omega)).resolve_left (by omega)
  have lo : ∀ q j : Nat, q < 22 → Iₚ q j = I q j := fun q j hq => (e q j (by omega)).resolve_left (by omega)
  have fu : gh_FU I Iₚ := gh_FU_of (lo 4 1 (by decide)) (fun j => lo 11 j (by decide)) (fun j => lo 12 j (by decide)) (fun j => lo 13 j (by decide))
  refine ⟨gc_Base_x hx hb, hIₚ, hok', ⟨fun i t hi ht => ?_, fun i j t hi hj h1 h2 => hT.2 i j t hi hj ((hA 10 i (by decide)).symm.trans h1) ((hA 10 j (by decide)).symm.trans h2)⟩, fun i hi => ?_, gh_MS_st hM fu (fun j => lo 15 j (by decide)) (fun j => lo 16 j (by decide)), by rw [lo 1 5 (by decide), lo 8 1 (by decide)]; exact hc⟩
  · have ht0 := (hA 10 i (by decide)).symm.trans ht
    have Tt := hT.1 i t hi ht0
    exact ⟨gc_isTongue_x hx Tt.1, Tt.2.1, gc_sc_fr Tt.2.2 (fun k => tg i t hi ht0 10 k (by decide))⟩
  · rw [lo 8 1 (by decide)] at hi
    obtain ⟨t, u1, u2, u3, u4, u5⟩ := hU i hi
    have tt := tg i t (by omega) u1
    have e13 := tt 0 13 (by decide)
    have e11 := tt 0 11 (by decide)
    rw [Nat.add_zero] at e13 e11
    have Gt := (hT.1 i t (by omega) u1).2.1
    have hA16 : ∀ j, Aₚ (t + 16) j = A (t + 16) j := fun j => hA (t + 16) j (by omega)
    refine ⟨t, (hA 10 i (by decide)).trans u1, fun j hj => ?_, by rw [tt 3 1 (by decide), tt 1 1 (by decide)]; exact u3, fun j q hj hq => ?_, fun w hw => ?_⟩
    · rw [e13] at hj
      obtain ⟨q, p1, p2, p3, p4, p5⟩ := u2 j hj
      have r := ln q p2 p3
      exact ⟨q, (hA16 j).trans p1, gc_isLin_x hx p2, p3, (r 0 0 (by decide)).trans p4, gc_lv_fr p5 (r 0 8 (by decide)) (r 0 4 (by decide)) (fun k => r 1 k (by decide))⟩
    · rw [e13] at hj
      have hq0 := (hA16 j).symm.trans hq
      obtain ⟨q9, p1, p2, p3, _, _⟩ := u2 j hj
      cases p1.symm.trans hq0
      exact gh_LN_st (u4 j _ hj hq0) (ln _ p2 p3) fu h12
    · rw [e11] at hw
      rw [tt 15 _ (by decide), lo 12 _ (by decide), lo 4 1 (by decide)]
      exact u5 w hw
theorem gh_HC_x {sh shₚ : gz_Sh} {ro ro' : Nat → Nat} {I Iₚ : gr_I} {J : gr_J} {A Aₚ : gc_A} (hs : gh_HS sh ro I J A) (hc : gh_HC sh ro A I) (e : ∀ q j : Nat, q < sh.length → ((22 ≤ q ∧ q ≤ 47) ∨ q = 105 ∨ (q = 100 ∧ j = 9)) ∨ Iₚ q j = I q j) (hA : ∀ q k : Nat, ¬ q = 104 → Aₚ q k = A q k) (sn : gc_SN shₚ ro' Aₚ Iₚ) : gh_HC shₚ ro' Aₚ Iₚ := by
  obtain ⟨c1, c2, c3, c4, c5, c6, c7, c8⟩ := hc
  have hT := hs.2.2.2.1
  have h144 := gc_Base_len hs.1
  have i8 : 0 ≤ I 8 1 ∧ I 8 1 ≤ 8 := gc_in hs.2.1 (gc_bR hs.1 (by decide) rfl) rfl rfl
  have z : ∀ q j : Nat, q < 144 → ¬ (22 ≤ q ∧ q ≤ 47) → ¬ q = 105 → ¬ (q = 100 ∧ j = 9) → Iₚ q j = I q j := fun q j h1 h2 h3 h4 => (e q j (by omega)).resolve_left (by omega)
  have e81 := z 8 1 (by decide) (by decide) (by decide) (by decide)
  have tg : ∀ i t : Nat, i < 8 → A 10 i = some t → ∀ d j : Nat, d < 25 → Iₚ (t + d) j = I (t + d) j := fun i t hi ht d j hd => by
    have rg := gh_rng hT hi ht
    exact (e (t + d) j (by omega)).resolve_left (by omega)
  have ln : ∀ q, gc_isLin sh ro A q → 144 ≤ q → ∀ d k, d ≤ 8 → Iₚ (q + d) k = I (q + d) k := fun q g1 g2 d k hd => (e (q + d) k (by have h9 := gc_x_lt (gc_linS8 g1); omega)).resolve_left (by omega)
  refine ⟨gc_FN_fr c1 (fun k => z 49 k (by decide) (by decide) (by decide) (by omega)) (fun k => z 50 k (by decide) (by decide) (by decide) (by omega)), gc_FZ_fr c2 (z 2 1 (by decide) (by decide) (by decide) (by decide)) (fun k => z 49 k (by decide) (by decide) (by decide) (by omega)) (fun k => z 50 k (by decide) (by decide) (by decide) (by omega)), ?_, ?_, sn, fun i t hi ht => ?_, ?_, ?_⟩
  · rw [z 86 2 (by decide) (by decide) (by decide) (by decide), z 86 4 (by decide) (by decide) (by decide) (by decide)]
    exact c3
  · rw [z 100 2 (by decide) (by decide) (by decide) (by decide), z 100 1 (by decide) (by decide) (by decide) (by decide), e81]
    exact c4
  · have ht0 := (hA 10 i (by decide)).symm.trans ht
    obtain ⟨a, b, c, ne, k9⟩ := c6 i t hi ht0
    have tt := tg i t hi ht0
    have e8 := tt 17 8 (by decide)
    have e11 := tt 0 11 (by decide)
    rw [Nat.add_zero] at e11
    refine ⟨by rw [e8]; exact gc_FB_fr a (fun k => tt 21 k (by decide)) (fun k => tt 20 k (by decide)), fun h9 => ?_, fun h9 => ?_, by rw [tt 17 6 (by decide), tt 17 7 (by decide)]; exact ne, gh_K9_s k9 e81 ⟨fun j => z 20 j (by decide) (by decide) (by decide) (by omega), fun d j _ h2 => tt d j (by omega), by have h6 := tt 0 6 (by decide); rw [Nat.add_zero] at h6; exact h6, e11⟩ (gh_BD_same (fun d j _ h2 _ => tt d j (by omega))) ne (fun _ => tt 17 9 (by decide))⟩
    · have := b (by omega)
      omega
    · have := c (by omega)
      omega
  · exact gh_TRE_fr c7 (fun j _ => z 12 j (by decide) (by decide) (by decide) (by omega)) (Int.le_of_eq (z 4 1 (by decide) (by decide) (by decide) (by decide)).symm) (fun p _ => z 124 p (by decide) (by decide) (by decide) (by omega)) (fun p k hp => z (115 + p) k (by omega) (by omega) (by omega) (by omega))
  · have z2 : ∀ q j : Nat, 48 ≤ q → q ≤ 73 → Iₚ q j = I q j := fun q j h1 h2 => z q j (by omega) (by omega) (by omega) (by omega)
    rcases c8 with ⟨d1, d2⟩ | ⟨d1, i, t, d2, d3, d4, d5⟩
    · exact Or.inl ⟨(z2 61 3 (by decide) (by decide)).trans d1, (z2 61 15 (by decide) (by decide)).trans d2⟩
    · obtain ⟨tL, _⟩ := gh_tng hs d2 d3
      have Gt := (hT.1 i t (by omega) d3).2.1
      have e13 := tg i t (by omega) d3 0 13 (by decide)
      have e11 := tg i t (by omega) d3 0 11 (by decide)
      rw [Nat.add_zero] at e13 e11
      exact Or.inr ⟨(z2 61 3 (by decide) (by decide)).trans d1, i, t, by omega, (hA 10 i (by decide)).trans d3, (z2 61 2 (by decide) (by decide)).trans d4, gh_RK1_fr (shₚ := shₚ) (ro' := ro') d5 z2 tL (by omega) (by omega) (fun j _ => hA (t + 16) j (by omega)) ln (fun k => (show (0 : Int) ≤ I 69 k ∧ I 69 k ≤ 8999 from gc_in hs.2.1 (gc_bR hs.1 (by decide) rfl) rfl rfl).1)⟩
/-- what add leaves -/
def gh_AD (sh : gz_Sh) (ro : Nat → Nat) (I : gr_I) (A : gc_A) (a s : Nat) (shₚ : gz_Sh) (ro' : Nat → Nat) (Iₚ : gr_I) (Jₚ : gr_J) (Aₚ : gc_A) : Prop := gh_HS shₚ ro' Iₚ Jₚ Aₚ ∧ gh_HC shₚ ro' Aₚ Iₚ ∧ gc_ext sh ro A shₚ ro' Aₚ ∧ Iₚ 23 1 = 0 ∧ (a ≤ 1 ∧ s ≤ 1000 ∧ shₚ.length ≤ sh.length + 1) ∧ Iₚ 100 9 ≤ I 100 9 + 1 ∧ (∀ q j : Nat, q < sh.length → (q = 23 ∨ q = 25 ∨ q = 26 ∨ q = 105 ∨ (q = 100 ∧ j = 9)) ∨ Iₚ q j = I q j) ∧ ∀ q k : Nat, ¬ q = 104 → Aₚ q k = A q k
set_option maxHeartbeats 8000000 in
theorem hh_add {ws0 : List Cond} {tb : String → gz_T} (hw : gc_Wc ws0) (hws : gc_Ws ws0) (htb : gc_tbs tb) {sh : gz_Sh} {ro : Nat → Nat} {I : gr_I} {J : gr_J} {A : gc_A} (hs : gh_HS sh ro I J A) (hc : gh_HC sh ro A I) (a1 : Int) (h1 : 0 ≤ a1 ∧ a1 < I 8 1) (h9 : I 100 9 ≤ 99) (hlen : sh.length + 1 ≤ 1000000) : ∃ (z : Int) (a s : Nat) (shₚ : gz_Sh) (ro' : Nat → Nat) (Iₚ : gr_I) (Jₚ : gr_J) (Aₚ : gc_A), gz_Ev ws0 tb 98 (yX12_add, cX12_add, 3, (some .int)) [.inr (.inr (some 0)), .inl a1] sh (gc_h sh I J A) (some (.inl z)) shₚ (gc_h shₚ Iₚ Jₚ Aₚ) a s ∧ gh_AD sh ro I A a s shₚ ro' Iₚ Jₚ Aₚ ∧ ∀ q j : Nat, Jₚ q j = J q j := by
  have hb := hs.1
  have hI := hs.2.1
  have hok := hs.2.2.1
  have hT := hs.2.2.2.1
  have i8 : 0 ≤ I 8 1 ∧ I 8 1 ≤ 8 := gc_in hI (gc_bR hb (by decide) rfl) rfl rfl
  have h144 := gc_Base_len hb
  obtain ⟨t, ht, _⟩ := hs.2.2.2.2.1 (Int.toNat a1) (by omega)
  have Tt := hT.1 (Int.toNat a1) t (by omega) ht
  have hD : gv_D (gc_E12 ws0 tb 97 (yX12_add, cX12_add, 3, (some .int)) kX12_add) := gq_of oX12_add
  suffices hY : gv_Y (gc_E12 ws0 tb 97 (yX12_add, cX12_add, 3, (some .int)) kX12_add) (fun v a s => ∃ (z : Int) (shₚ : gz_Sh) (ro' : Nat → Nat) (Iₚ : gr_I) (Jₚ : gr_J) (Aₚ : gc_A), gz_fin cX12_add (some .int) v (some (.inl z)) ∧ v.2.2.2.1 = shₚ ∧ v.2.2.2.2 = gc_h shₚ Iₚ Jₚ Aₚ ∧ gh_AD sh ro I A a s shₚ ro' Iₚ Jₚ Aₚ ∧ ∀ q j : Nat, Jₚ q j = J q j) (0, [(0, .inr (.inr (some 0))), (1, .inl a1)], [], sh, gc_h sh I J A) by
    obtain ⟨n, v, a, s, h1, z, shₚ, ro', Iₚ, Jₚ, Aₚ, h2, h3, h4, h5⟩ := hY
    refine ⟨z, a, s, shₚ, ro', Iₚ, Jₚ, Aₚ, Or.inr (Or.inr ⟨by decide, Nat.le_of_ble_eq_true rfl, n, v, ?_, h2, h3, h4⟩), h5⟩
    show gz_to (gz_do ws0 RX12 (tb RX12) cX12_add 3 (gz_Ev ws0 tb 97)) n _ v a s
    rw [gc_tb12 htb]
    exact h1
  have ok : ∀ (I1 : gr_I) (J1 : gr_J), (∀ q j : Nat, ((q = 23 ∧ j = 4) ∨ q = 25 ∨ q = 26 ∨ (q = 23 ∧ j = 1)) ∨ I1 q j = I q j) → (∀ q j : Nat, (False) ∨ J1 q j = J q j) → gc_OK sh I1 J1 A := fun I1 J1 g k => gc_OK_fr hok (fun q j => (g q j).imp (fun h => by
      rcases h with ⟨rfl, rfl⟩ | rfl | rfl | ⟨rfl, rfl⟩
      · exact ⟨by omega, gc_tyx (gc_bS hb (p := 23) rfl)⟩
      · exact ⟨by omega, gc_tyx (gc_bS hb (p := 25) rfl)⟩
      · exact ⟨by omega, gc_tyx (gc_bS hb (p := 26) rfl)⟩
      · exact ⟨by omega, gc_tyx (gc_bS hb (p := 23) rfl)⟩) id) (fun q j => (k q j).imp (fun h => h.elim) id)
  refine gv_YofX (d_X12_add_h hws htb sh ro I J A hI t a1 hb Tt.1 Tt.2.1 ⟨by omega, by omega⟩ h1 ht h9 (fun v h => ?_) (fun I1 J1 hI1 g1 k1 m => ?_))
  · obtain ⟨r, hf, hs9, I1, J1, e1, hI1, g1, k1, z, rfl, _, _, p2⟩ := h
    have hs1 := gh_HS_n hs hI1 (ok I1 J1 g1 k1) (fun q j => (g1 q j).imp (fun h => by omega) id) (fun q j => (k1 q j).imp (fun h => h.elim) id)
    exact gv_Yend ⟨z, sh, ro, I1, J1, A, hf, hs9, e1, ⟨hs1.1, gh_HC_x (shₚ := sh) (ro' := ro) hs hc (fun q j _ => (g1 q j).imp (fun h => by omega) id) (fun _ _ _ => rfl) (gh_SN_fr hc.2.2.2.2.1 ((g1 100 9).resolve_left (by omega))), gc_x_refl, p2, ⟨by omega, by omega, by omega⟩, by have := (g1 100 9).resolve_left (by omega); omega, fun q j _ => (g1 q j).imp (fun h => by omega) id, fun _ _ _ => rfl⟩, fun q j => (k1 q j).resolve_left id⟩
  · refine gv_Xz ?_
    have hs1 := gh_HS_n hs hI1 (ok I1 J1 g1 k1) (fun q j => (g1 q j).imp (fun h => by omega) id) (fun q j => (k1 q j).imp (fun h => h.elim) id)
    have e9 := (g1 100 9).resolve_left (by omega)
    have S0 : sh[0]? = some (false, 12, 17) := gc_bS_0 hb
    have A0t : A 0 1 = some 23 := gc_bA_0_1 hb
    have A0f : A 0 10 = some 100 := gc_bA_0_10 hb
    obtain ⟨z, n, sh2, ro2, I2, J2, A2, EV, hco, ok2, hz, hJ2⟩ := e_X1_collect hw hws htb sh ro I1 J1 A hI1 a1 hb ⟨by omega, by omega⟩ (by omega) (gh_SN_fr hc.2.2.2.2.1 e9) (ok I1 J1 g1 k1) hlen
    obtain ⟨rfl, hn, hx, hI2, g2, e2, sn2, hA2⟩ := hco
    have hb2 := gc_Base_x hx hb
    refine gv_lift (fun hk => gv_run 1 true hD (pcₚ := 38) (lvₚ := [(0, .inr (.inr (some 0))), (1, .inl a1)]) (stₚ := [.inr (.inr (some 0))]) (hₚ := gc_h sh I1 J1 A) (C := (True ∧ True)) rfl ⟨trivial, trivial⟩ hk) ?_
    refine gv_lift (fun hk => gv_get hD rfl rfl S0 ⟨by decide, by decide⟩ (gc_hA S0 rfl A0f) hk) ?_
    refine gv_lift (fun hk => gv_run 2 true hD (pcₚ := 43) (lvₚ := [(0, .inr (.inr (some 0))), (1, .inl a1)]) (stₚ := [.inr (.inr (some 0)), .inl a1, .inr (.inr (some 100))]) (hₚ := gc_h sh I1 J1 A) (C := ((True ∧ True) ∧ True)) rfl ⟨⟨trivial, trivial⟩, trivial⟩ hk) ?_
    refine gv_lift (fun hk => gv_get hD rfl rfl S0 ⟨by decide, by decide⟩ (gc_hA S0 rfl A0t) hk) ?_
    refine gc_YcallV hD (ix := 303) (M := (yX1_collect, cX1_collect, 3, (some .int))) (As := [.inl a1, .inr (.inr (some 23))]) (b := 100) (st := []) rfl rfl (by decide) (gc_bS hb (p := 100) rfl) rfl (gc_lV12 hws rfl) (Nat.le_of_ble_eq_true rfl) (gz_Ev_mono (d := 3) (by decide) EV) (gc_okc (Or.inl (by omega)) (gc_okc trivial gc_ok0)) gc_ok0 ?_
    refine gv_lift (fun hk => gv_run 2 true hD (pcₚ := 55) (lvₚ := [(2, .inl z), (0, .inr (.inr (some 0))), (1, .inl a1)]) (stₚ := []) (hₚ := gc_h _ I2 J2 A2) (C := ((True ∧ True) ∧ True)) rfl ⟨⟨trivial, trivial⟩, trivial⟩ hk) ?_
    refine gv_lift (fun hk => gv_pick [1, 2, 0] rfl hk) ?_
    refine gv_YofX (gv_Xm (fun v h => ?_) (d_X12_add_t hws htb _ ro2 I2 J2 A2 hI2 a1 z hb2 ⟨by omega, by omega⟩ ⟨by omega, by omega⟩))
    obtain ⟨r, hf, hs9, I3, J3, e1, hI3, g3, k3, z3, rfl, _, _, p2⟩ := h
    have l2 : (sh ++ [(true, 0, n)]).length = sh.length + 1 := by rw [List.length_append, List.length_singleton]
    have ok3 : gc_OK (sh ++ [(true, 0, n)]) I3 J3 A2 := gc_OK_fr ok2 (fun q j => (g3 q j).imp (fun h => by
        obtain ⟨rfl, rfl⟩ := h
        exact ⟨by omega, gc_tyx (gc_bS hb2 (p := 23) rfl)⟩) id) (fun q j => (k3 q j).imp (fun h => h.elim) id)
    have fr : ∀ q j : Nat, q < sh.length → (q = 23 ∨ q = 25 ∨ q = 26 ∨ q = 105 ∨ (q = 100 ∧ j = 9)) ∨ I3 q j = I q j := fun q j hq => by
      rcases g3 q j with h | h
      · exact Or.inl (by omega)
      · rcases g2 q j (by omega) with h2 | h2
        · exact Or.inl (by omega)
        · rcases g1 q j with h4 | h4
          · exact Or.inl (by omega)
          · exact Or.inr (h.trans (h2.trans h4))
    have e3 := (g3 100 9).resolve_left (by omega)
    refine gv_Yend ⟨z3, _, ro2, I3, J3, A2, hf, hs9, e1, ⟨gh_HS_x hs hx hI3 ok3 (fun q j hq => (fr q j hq).imp (fun h => by omega) id) hA2, gh_HC_x hs hc (fun q j hq => (fr q j hq).imp (fun h => by omega) id) hA2 (gh_SN_fr sn2 e3), hx, p2, ⟨by omega, by omega, by omega⟩, by omega, fr, hA2⟩, fun q j => ((k3 q j).resolve_left id).trans ((hJ2 q j).trans ((k1 q j).resolve_left id))⟩
