set_option maxHeartbeats 4000000 in
set_option maxRecDepth 100000 in
theorem d_X6_readContext {ws0 : List Cond} {tb : String → gz_T} (hws : gc_Ws ws0) (htb : gc_tbs tb) (sh : gz_Sh) (ro : Nat → Nat) (I : gr_I) (J : gr_J) (A : gc_A) (hI : gc_Inv ro I) (t : Nat) (B : Int) (a1 : Int) (hb : gc_Base sh ro A) (h_t : gc_isTongue sh ro A t) (G_t : 144 ≤ t) (ha1 : 0 ≤ a1 ∧ a1 ≤ 22) (x0 : B ≤ 1280 ∧ I 1 17 + I 23 1 ≤ B + I 23 5) (x1 : (a1 = 0 ∨ a1 = 7 ∨ a1 = 10 ∨ a1 = 13 ∨ a1 = 16 ∨ a1 = 19 ∨ a1 = 22)) (x2 : I 39 2 = (t : Int)) (KLT_I : gc_LT I) (KTK_I : gc_TK I) (KRS_I : gc_row 41 25 gc_fS I) (KRC_I : gc_RC I) : ∃ r h', gz_Ev ws0 tb 4 (yX6_readContext, cX6_readContext, 2, (some .boolean)) [.inr (.inr (some 39)), .inl a1] sh (gc_h sh I J A) r sh h' 0 0 ∧ (∃ (I' : gr_I) (J' : gr_J), h' = gc_h sh I' J' A ∧ gc_Inv ro I' ∧ (∀ q j : Nat, ((q = 39 ∧ j = 3) ∨ (q = 39 ∧ j = 4) ∨ (q = 23 ∧ j = 5) ∨ (q = 23 ∧ j = 6) ∨ (q = 23 ∧ j = 7) ∨ (q = 23 ∧ j = 8) ∨ (q = 1 ∧ j = 17) ∨ (q = 1 ∧ j = 18) ∨ q = 20 ∨ (q = 41 ∧ j = (Int.toNat a1)) ∨ (q = 41 ∧ j = (Int.toNat (a1 + 1))) ∨ (q = 41 ∧ j = (Int.toNat (a1 + 2)))) ∨ I' q j = I q j) ∧ (∀ q j : Nat, ((q = 23 ∧ j = 9)) ∨ J' q j = J q j) ∧ gc_LT I' ∧ gc_TK I' ∧ gc_row 41 25 gc_fS I' ∧ gc_RC I' ∧ (∃ z : Int, r = some (.inl z) ∧ 0 ≤ z ∧ z ≤ 1 ∧ (I' 23 1 = I 23 1) ∧ (I 23 5 ≤ I' 23 5) ∧ (B ≤ 1280 ∧ I' 1 17 + I' 23 1 ≤ B + I' 23 5))) := by
  have FI : ∀ q j : Nat, ((q = 39 ∧ j = 3) ∨ (q = 39 ∧ j = 4) ∨ (q = 23 ∧ j = 5) ∨ (q = 23 ∧ j = 6) ∨ (q = 23 ∧ j = 7) ∨ (q = 23 ∧ j = 8) ∨ (q = 1 ∧ j = 17) ∨ (q = 1 ∧ j = 18) ∨ q = 20 ∨ (q = 41 ∧ j = (Int.toNat a1)) ∨ (q = 41 ∧ j = (Int.toNat (a1 + 1))) ∨ (q = 41 ∧ j = (Int.toNat (a1 + 2)))) ∨ I q j = I q j := fun _ _ => Or.inr rfl
  have FJ : ∀ q j : Nat, ((q = 23 ∧ j = 9)) ∨ J q j = J q j := fun _ _ => Or.inr rfl
  have A_39_1 : A 39 1 = some 23 := gc_bA hb rfl
  have A_39_10 : A 39 10 = some 41 := gc_bA hb rfl
  have B_23 : 23 < 1000000 := by decide
  have B_39 : 39 < 1000000 := by decide
  have B_41 : 41 < 1000000 := by decide
  have R_1 : ro 1 = 22 := gc_bR hb (by decide) rfl
  have R_23 : ro 23 = 3 := gc_bR hb (by decide) rfl
  have R_39 : ro 39 = 42 := gc_bR hb (by decide) rfl
  have R_41 : ro 41 = 0 := gc_bR hb (by decide) rfl
  have S_23 : sh[23]? = some (false, 9, 10) := gc_bS hb rfl
  have S_39 : sh[39]? = some (false, 6, 19) := gc_bS hb rfl
  have S_41 : sh[41]? = some (true, 1, 25) := gc_bS hb rfl
  obtain ⟨S_t, R_t, B_t, A_t_0, h_t_1, A_t_1, h_t_3, A_t_2, S_t_5, R_t_5, B_t_5, A_t_3, S_t_6, R_t_6, B_t_6, A_t_4, h_t_7, A_t_5, S_t_9, R_t_9, B_t_9, A_t_7, S_t_10, R_t_10, B_t_10, A_t_8, h_t_11, A_t_9, S_t_13, R_t_13, B_t_13, A_t_10, S_t_14, R_t_14, B_t_14, A_t_12, S_t_15, R_t_15, B_t_15, A_t_14, S_t_16, R_t_16, B_t_16, A_t_15, h_t_17⟩ := id h_t
  obtain ⟨S_t_1, R_t_1, B_t_1, A_t_1_0, S_t_1_1, R_t_1_1, B_t_1_1, Q0_t_1, Q1_t_1, Q2_t_1⟩ := id h_t_1
  obtain ⟨S_t_3, R_t_3, B_t_3, A_t_3_0, S_t_3_1, R_t_3_1, B_t_3_1, Q0_t_3, Q1_t_3, Q2_t_3⟩ := id h_t_3
  obtain ⟨S_t_7, R_t_7, B_t_7, A_t_7_0, S_t_7_1, R_t_7_1, B_t_7_1, Q0_t_7, Q1_t_7, Q2_t_7⟩ := id h_t_7
  obtain ⟨S_t_11, R_t_11, B_t_11, A_t_11_0, S_t_11_1, R_t_11_1, B_t_11_1, Q0_t_11, Q1_t_11, Q2_t_11⟩ := id h_t_11
  obtain ⟨S_t_17, R_t_17, B_t_17, A_t_17_0, S_20, R_20, B_20, A_t_17_1, S_t_17_1, R_t_17_1, B_t_17_1, A_t_17_2, S_t_17_2, R_t_17_2, B_t_17_2, A_t_17_3, S_t_17_3, R_t_17_3, B_t_17_3, A_t_17_4, S_t_17_4, R_t_17_4, B_t_17_4, A_t_17_5, S_t_17_5, R_t_17_5, B_t_17_5, S_t_17_6, R_t_17_6, B_t_17_6, S_t_17_7, R_t_17_7, B_t_17_7⟩ := id h_t_17
  have hD : gv_D (gc_E6 ws0 tb 3 (yX6_readContext, cX6_readContext, 2, (some .boolean)) kX6_readContext) := gq_ok oX6_readContext
  refine gc_ev6 (d := 3) (l := kX6_readContext) (Po := fun r h' => (∃ (I' : gr_I) (J' : gr_J), h' = gc_h sh I' J' A ∧ gc_Inv ro I' ∧ (∀ q j : Nat, ((q = 39 ∧ j = 3) ∨ (q = 39 ∧ j = 4) ∨ (q = 23 ∧ j = 5) ∨ (q = 23 ∧ j = 6) ∨ (q = 23 ∧ j = 7) ∨ (q = 23 ∧ j = 8) ∨ (q = 1 ∧ j = 17) ∨ (q = 1 ∧ j = 18) ∨ q = 20 ∨ (q = 41 ∧ j = (Int.toNat a1)) ∨ (q = 41 ∧ j = (Int.toNat (a1 + 1))) ∨ (q = 41 ∧ j = (Int.toNat (a1 + 2)))) ∨ I' q j = I q j) ∧ (∀ q j : Nat, ((q = 23 ∧ j = 9)) ∨ J' q j = J q j) ∧ gc_LT I' ∧ gc_TK I' ∧ gc_row 41 25 gc_fS I' ∧ gc_RC I' ∧ (∃ z : Int, r = some (.inl z) ∧ 0 ≤ z ∧ z ≤ 1 ∧ (I' 23 1 = I 23 1) ∧ (I 23 5 ≤ I' 23 5) ∧ (B ≤ 1280 ∧ I' 1 17 + I' 23 1 ≤ B + I' 23 5)))) htb rfl (Nat.le_of_ble_eq_true rfl) ?_
  have N_t_7__41 : ¬ ((t + 7) = 41) := by omega
  have N_t_7__20 : ¬ ((t + 7) = 20) := by omega
  have t1 := gc_TK_mo KTK_I
  have f2 := (show 0 ≤ I 23 1 ∧ I 23 1 ≤ 1000 from gc_in hI R_23 rfl rfl)
  have f3 := (show 0 ≤ I 23 5 ∧ I 23 5 ≤ 1000 from gc_in hI R_23 rfl rfl)
  have f4 := (show 0 ≤ I 23 6 ∧ I 23 6 ≤ 1001 from gc_in hI R_23 rfl rfl)
  have f5 := (show 0 ≤ I 23 7 ∧ I 23 7 ≤ 125 from gc_in hI R_23 rfl rfl)
  have f6 := (show 0 ≤ I 1 17 ∧ I 1 17 ≤ 12000 from gc_in hI R_1 rfl rfl)
  have f7 := (show 0 ≤ I (t + 7) 1 ∧ I (t + 7) 1 ≤ 16 from gc_in hI R_t_7 rfl rfl)
  have f8 := (show (-1) ≤ I 39 2 ∧ I 39 2 ≤ 999999 from gc_in hI R_39 rfl rfl)
  have L121 : ∀ (I9 : gr_I) (J10 : gr_J) , gc_Inv ro I9 → (∀ q j : Nat, ((q = 39 ∧ j = 3) ∨ (q = 39 ∧ j = 4) ∨ (q = 23 ∧ j = 5) ∨ (q = 23 ∧ j = 6) ∨ (q = 23 ∧ j = 7) ∨ (q = 23 ∧ j = 8) ∨ (q = 1 ∧ j = 17) ∨ (q = 1 ∧ j = 18) ∨ q = 20 ∨ (q = 41 ∧ j = (Int.toNat a1)) ∨ (q = 41 ∧ j = (Int.toNat (a1 + 1))) ∨ (q = 41 ∧ j = (Int.toNat (a1 + 2)))) ∨ I9 q j = I q j) → (∀ q j : Nat, ((q = 23 ∧ j = 9)) ∨ J10 q j = J q j) → gc_LT I9 → gc_TK I9 → gc_row 41 25 gc_fS I9 → ((I9 41 (Int.toNat a1) = 1 → I9 41 (Int.toNat (a1 + 1)) ≤ 15) ∧ (I 23 7 = 1 ∨ I 23 7 = 3 ∨ I 23 7 = 35) ∧ (I9 23 7 = I 23 7) ∧ (I9 23 6 = I 23 6) ∧ (I9 23 5 = I 23 5) ∧ (I9 1 17 ≤ I 1 17 ∨ I9 1 17 ≤ I 1 17 + I 23 6 - I 23 5) ∧ (I9 23 1 = I 23 1) ∧ (I 23 5 ≤ I9 23 5) ∧ (I9 39 2 = (t : Int))) → gv_X (gc_E6 ws0 tb 3 (yX6_readContext, cX6_readContext, 2, (some .boolean)) kX6_readContext) (gv_Q cX6_readContext (some .boolean) sh (fun r h' => (∃ (I' : gr_I) (J' : gr_J), h' = gc_h sh I' J' A ∧ gc_Inv ro I' ∧ (∀ q j : Nat, ((q = 39 ∧ j = 3) ∨ (q = 39 ∧ j = 4) ∨ (q = 23 ∧ j = 5) ∨ (q = 23 ∧ j = 6) ∨ (q = 23 ∧ j = 7) ∨ (q = 23 ∧ j = 8) ∨ (q = 1 ∧ j = 17) ∨ (q = 1 ∧ j = 18) ∨ q = 20 ∨ (q = 41 ∧ j = (Int.toNat a1)) ∨ (q = 41 ∧ j = (Int.toNat (a1 + 1))) ∨ (q = 41 ∧ j = (Int.toNat (a1 + 2)))) ∨ I' q j = I q j) ∧ (∀ q j : Nat, ((q = 23 ∧ j = 9)) ∨ J' q j = J q j) ∧ gc_LT I' ∧ gc_TK I' ∧ gc_row 41 25 gc_fS I' ∧ gc_RC I' ∧ (∃ z : Int, r = some (.inl z) ∧ 0 ≤ z ∧ z ≤ 1 ∧ (I' 23 1 = I 23 1) ∧ (I 23 5 ≤ I' 23 5) ∧ (B ≤ 1280 ∧ I' 1 17 + I' 23 1 ≤ B + I' 23 5))))) (121, [(0, .inr (.inr (some 39)))], [], sh, gc_h sh I9 J10 A) := by
    intro I9 J10 hI9 FI9 FJ10 KLT_I9 KTK_I9 KRS_I9 m_11
    obtain ⟨e0_11, e1_11, e2_11, e3_11, e4_11, e5_11, e6_11, e7_11, e8_11⟩ := m_11
    have t12 := gc_TK_mo KTK_I9
    have f13 := (show 0 ≤ I9 23 1 ∧ I9 23 1 ≤ 1000 from gc_in hI9 R_23 rfl rfl)
    have f14 := (show 0 ≤ I9 23 5 ∧ I9 23 5 ≤ 1000 from gc_in hI9 R_23 rfl rfl)
    have f15 := (show 0 ≤ I9 23 6 ∧ I9 23 6 ≤ 1001 from gc_in hI9 R_23 rfl rfl)
    have f16 := (show 0 ≤ I9 23 7 ∧ I9 23 7 ≤ 125 from gc_in hI9 R_23 rfl rfl)
    have f17 := (show 0 ≤ I9 1 17 ∧ I9 1 17 ≤ 12000 from gc_in hI9 R_1 rfl rfl)
    have f18 := (show 0 ≤ I9 (t + 7) 1 ∧ I9 (t + 7) 1 ≤ 16 from gc_in hI9 R_t_7 rfl rfl)
    have f19 := (show (-1) ≤ I9 39 2 ∧ I9 39 2 ≤ 999999 from gc_in hI9 R_39 rfl rfl)
    refine gv_run 1 true hD (pc' := 122) (lv' := [(0, .inr (.inr (some 39)))]) (st' := [.inr (.inr (some 39))]) (h' := gc_h sh I9 J10 A) (C := (True ∧ True)) rfl ⟨trivial, trivial⟩ ?_
    refine gv_get hD rfl rfl S_39 ⟨by decide, B_39⟩ (gc_hA S_39 rfl A_39_1) ?_
    show gv_X _ _ (125, [(0, .inr (.inr (some 39)))], [.inr (.inr (some 23))], sh, gc_h sh I9 J10 A)
    have t21 := gc_TK_nx KTK_I9 (by omega)
    have t22 := gc_TK_st KTK_I9 (by omega)
    obtain ⟨r20, h20, E20, P20⟩ := d_X9_advance (ws0 := ws0) (tb := tb) hws htb sh ro I9 J10 A hI9 23  (gc_b23 hb)    (by omega) 
    obtain ⟨I23, J24, rfl, hI23, g20, k20, ⟨rfl, V20_0, V20_1, V20_2, V20_3, V20_4, q20⟩⟩ := P20
    have FI23 := gc_frc (W := fun q j => (q = 39 ∧ j = 3) ∨ (q = 39 ∧ j = 4) ∨ (q = 23 ∧ j = 5) ∨ (q = 23 ∧ j = 6) ∨ (q = 23 ∧ j = 7) ∨ (q = 23 ∧ j = 8) ∨ (q = 1 ∧ j = 17) ∨ (q = 1 ∧ j = 18) ∨ q = 20 ∨ (q = 41 ∧ j = (Int.toNat a1)) ∨ (q = 41 ∧ j = (Int.toNat (a1 + 1))) ∨ (q = 41 ∧ j = (Int.toNat (a1 + 2)))) (V := fun q j => (q = 23 ∧ j = 5) ∨ (q = 23 ∧ j = 6) ∨ (q = 23 ∧ j = 7) ∨ (q = 23 ∧ j = 8)) FI9 (fun q j h => (h.elim (fun h => (Or.inr (Or.inr (Or.inl h)))) (fun h => (h.elim (fun h => (Or.inr (Or.inr (Or.inr (Or.inl h))))) (fun h => (h.elim (fun h => (Or.inr (Or.inr (Or.inr (Or.inr (Or.inl h)))))) (fun h => (Or.inr (Or.inr (Or.inr (Or.inr (Or.inr (Or.inl h))))))))))))) g20
    have FJ24 := gc_frc (W := fun q j => (q = 23 ∧ j = 9)) (V := fun q j => (q = 23 ∧ j = 9)) FJ10 (fun q j h => h) k20
    have t25 := (g20 23 1).resolve_left (fun h => h.elim (fun h => absurd h.2 (by decide)) (fun h => h.elim (fun h => absurd h.2 (by decide)) (fun h => h.elim (fun h => absurd h.2 (by decide)) (fun h => absurd h.2 (by decide)))))
    have t26 := (g20 1 17).resolve_left (fun h => h.elim (fun h => absurd h.2 (by decide)) (fun h => h.elim (fun h => absurd h.2 (by decide)) (fun h => h.elim (fun h => absurd h.2 (by decide)) (fun h => absurd h.2 (by decide)))))
    have t27 := (g20 (t + 7) 1).resolve_left (fun h => h.elim (fun h => absurd h.2 (by decide)) (fun h => h.elim (fun h => absurd h.2 (by decide)) (fun h => h.elim (fun h => absurd h.2 (by decide)) (fun h => absurd h.2 (by decide)))))
    have t28 := (g20 39 2).resolve_left (fun h => h.elim (fun h => absurd h.2 (by decide)) (fun h => h.elim (fun h => absurd h.2 (by decide)) (fun h => h.elim (fun h => absurd h.2 (by decide)) (fun h => absurd h.2 (by decide)))))
    have t29 := (g20 41 (Int.toNat a1)).resolve_left (fun h => h.elim (fun h => absurd h.1 (by decide)) (fun h => h.elim (fun h => absurd h.1 (by decide)) (fun h => h.elim (fun h => absurd h.1 (by decide)) (fun h => absurd h.1 (by decide)))))
    have t30 := (g20 41 (Int.toNat (a1 + 1))).resolve_left (fun h => h.elim (fun h => absurd h.1 (by decide)) (fun h => h.elim (fun h => absurd h.1 (by decide)) (fun h => h.elim (fun h => absurd h.1 (by decide)) (fun h => absurd h.1 (by decide)))))
    have f31 := (show 0 ≤ I23 23 5 ∧ I23 23 5 ≤ 1000 from gc_in hI23 R_23 rfl rfl)
    have f32 := (show 0 ≤ I23 23 6 ∧ I23 23 6 ≤ 1001 from gc_in hI23 R_23 rfl rfl)
    have f33 := (show 0 ≤ I23 23 7 ∧ I23 23 7 ≤ 125 from gc_in hI23 R_23 rfl rfl)
    have KLT_I23 : gc_LT I23 := q20.2.2
    have KRS_I23 := gc_row_fr KRS_I9 (fun k => (g20 41 k).resolve_left (fun h => h.elim (fun h => absurd h.1 (by decide)) (fun h => h.elim (fun h => absurd h.1 (by decide)) (fun h => h.elim (fun h => absurd h.1 (by decide)) (fun h => absurd h.1 (by decide))))))
    have KTK_I23 : gc_TK I23 := And.intro V20_0 (And.intro V20_1 (And.intro V20_2 (And.intro V20_3 V20_4)))
    have t34 := gc_TK_mo KTK_I23
    clear V20_0 V20_1 V20_2 V20_3 V20_4
    refine gv_callV hD rfl (As := []) (st := []) rfl B_23 S_23 rfl (gc_lV6 hws rfl) (Nat.le_of_ble_eq_true rfl) (gz_Ev_mono (d := 2) (by decide) E20) ?_
    show gv_X _ _ (128, [(0, .inr (.inr (some 39)))], [], sh, gc_h sh I23 J24 A)
    refine gv_run 1 true hD (pc' := 129) (lv' := [(0, .inr (.inr (some 39)))]) (st' := [.inl 1]) (h' := gc_h sh I23 J24 A) (C := (True ∧ True)) rfl ⟨trivial, trivial⟩ ?_
    exact gv_zret hD rfl (by omega) ⟨I23, J24, rfl, hI23, FI23, FJ24, KLT_I23, KTK_I23, KRS_I23, (gc_RC_ctx KRC_I (by omega) (fun j h1 h2 h3 => (FI23 41 j).resolve_left (by omega)) (by omega)), ⟨_, rfl, by omega⟩⟩
  refine gv_run 1 true hD (pc' := 1) (lv' := [(0, .inr (.inr (some 39))), (1, .inl a1)]) (st' := [.inr (.inr (some 39))]) (h' := gc_h sh I J A) (C := (True ∧ True)) rfl ⟨trivial, trivial⟩ ?_
  refine gv_get hD rfl rfl S_39 ⟨by decide, B_39⟩ (gc_hA S_39 rfl A_39_1) ?_
  show gv_X _ _ (4, [(0, .inr (.inr (some 39))), (1, .inl a1)], [.inr (.inr (some 23))], sh, gc_h sh I J A)
  have f35 := (show 0 ≤ I 23 7 ∧ I 23 7 ≤ 125 from gc_in hI R_23 rfl rfl)
  refine gv_get hD rfl rfl S_23 ⟨by decide, B_23⟩ (gc_hI S_23 rfl) ?_
  show gv_X _ _ (7, [(0, .inr (.inr (some 39))), (1, .inl a1)], [.inl (I 23 7)], sh, gc_h sh I J A)
  refine gv_run 1 true hD (pc' := 9) (lv' := [(0, .inr (.inr (some 39))), (1, .inl a1)]) (st' := [.inl 35, .inl (I 23 7)]) (h' := gc_h sh I J A) (C := (True ∧ True)) rfl ⟨trivial, trivial⟩ ?_
  refine gv_icmp_ne (t := 22) hD rfl rfl ⟨⟨by omega, by omega⟩, ⟨by omega, by omega⟩⟩ (fun c36 => ?_) (fun c36 => ?_)
  · show gv_X _ _ (22, [(0, .inr (.inr (some 39))), (1, .inl a1)], [], sh, gc_h sh I J A)
    refine gv_run 1 true hD (pc' := 23) (lv' := [(0, .inr (.inr (some 39))), (1, .inl a1)]) (st' := [.inr (.inr (some 39))]) (h' := gc_h sh I J A) (C := (True ∧ True)) rfl ⟨trivial, trivial⟩ ?_
    refine gv_get hD rfl rfl S_39 ⟨by decide, B_39⟩ (gc_hA S_39 rfl A_39_1) ?_
    show gv_X _ _ (26, [(0, .inr (.inr (some 39))), (1, .inl a1)], [.inr (.inr (some 23))], sh, gc_h sh I J A)
    have f37 := (show 0 ≤ I 23 7 ∧ I 23 7 ≤ 125 from gc_in hI R_23 rfl rfl)
    refine gv_get hD rfl rfl S_23 ⟨by decide, B_23⟩ (gc_hI S_23 rfl) ?_
    show gv_X _ _ (29, [(0, .inr (.inr (some 39))), (1, .inl a1)], [.inl (I 23 7)], sh, gc_h sh I J A)
    refine gv_run 1 true hD (pc' := 30) (lv' := [(0, .inr (.inr (some 39))), (1, .inl a1)]) (st' := [.inl 3, .inl (I 23 7)]) (h' := gc_h sh I J A) (C := (True ∧ True)) rfl ⟨trivial, trivial⟩ ?_
    refine gv_icmp_ne (t := 70) hD rfl rfl ⟨⟨by omega, by omega⟩, ⟨by omega, by omega⟩⟩ (fun c38 => ?_) (fun c38 => ?_)
    · show gv_X _ _ (70, [(0, .inr (.inr (some 39))), (1, .inl a1)], [], sh, gc_h sh I J A)
      refine gv_run 2 true hD (pc' := 72) (lv' := [(0, .inr (.inr (some 39))), (1, .inl a1)]) (st' := [.inr (.inr (some 39)), .inr (.inr (some 39))]) (h' := gc_h sh I J A) (C := ((True ∧ True) ∧ True)) rfl ⟨⟨trivial, trivial⟩, trivial⟩ ?_
      refine gv_get hD rfl rfl S_39 ⟨by decide, B_39⟩ (gc_h5 (t := t) S_39 rfl (by omega)) ?_
      show gv_X _ _ (75, [(0, .inr (.inr (some 39))), (1, .inl a1)], [.inr (.inr (some t)), .inr (.inr (some 39))], sh, gc_h sh I J A)
      refine gv_get hD rfl rfl S_t ⟨by decide, B_t⟩ (gc_hA S_t rfl A_t_4) ?_
      show gv_X _ _ (78, [(0, .inr (.inr (some 39))), (1, .inl a1)], [.inr (.inr (some (t + 7))), .inr (.inr (some 39))], sh, gc_h sh I J A)
      obtain ⟨r39, h39, E39, P39⟩ := d_X6_needKnown (ws0 := ws0) (tb := tb) hws htb sh ro I J A hI  16 7 (t + 7) hb h_t_7    
      obtain ⟨I40, J41, rfl, hI40, g39, k39, ⟨z39, rfl, q39⟩⟩ := P39
      have FI40 := gc_frc (W := fun q j => (q = 39 ∧ j = 3) ∨ (q = 39 ∧ j = 4) ∨ (q = 23 ∧ j = 5) ∨ (q = 23 ∧ j = 6) ∨ (q = 23 ∧ j = 7) ∨ (q = 23 ∧ j = 8) ∨ (q = 1 ∧ j = 17) ∨ (q = 1 ∧ j = 18) ∨ q = 20 ∨ (q = 41 ∧ j = (Int.toNat a1)) ∨ (q = 41 ∧ j = (Int.toNat (a1 + 1))) ∨ (q = 41 ∧ j = (Int.toNat (a1 + 2)))) (V := fun q j => (q = 39 ∧ j = 3) ∨ (q = 39 ∧ j = 4)) FI (fun q j h => (h.elim (fun h => (Or.inl h)) (fun h => (Or.inr (Or.inl h))))) g39
      have t42 := (g39 23 1).resolve_left (fun h => h.elim (fun h => absurd h.2 (by decide)) (fun h => absurd h.2 (by decide)))
      have t43 := (g39 23 5).resolve_left (fun h => h.elim (fun h => absurd h.2 (by decide)) (fun h => absurd h.2 (by decide)))
      have t44 := (g39 23 6).resolve_left (fun h => h.elim (fun h => absurd h.2 (by decide)) (fun h => absurd h.2 (by decide)))
      have t45 := (g39 23 7).resolve_left (fun h => h.elim (fun h => absurd h.2 (by decide)) (fun h => absurd h.2 (by decide)))
      have t46 := (g39 1 17).resolve_left (fun h => h.elim (fun h => absurd h.2 (by decide)) (fun h => absurd h.2 (by decide)))
      have t47 := (g39 (t + 7) 1).resolve_left (fun h => h.elim (fun h => absurd h.2 (by decide)) (fun h => absurd h.2 (by decide)))
      have t48 := (g39 39 2).resolve_left (fun h => h.elim (fun h => absurd h.2 (by decide)) (fun h => absurd h.2 (by decide)))
      have t49 := (g39 41 (Int.toNat a1)).resolve_left (fun h => h.elim (fun h => absurd h.1 (by decide)) (fun h => absurd h.1 (by decide)))
      have t50 := (g39 41 (Int.toNat (a1 + 1))).resolve_left (fun h => h.elim (fun h => absurd h.1 (by decide)) (fun h => absurd h.1 (by decide)))
      obtain rfl : J = J41 := funext fun q => funext fun j => ((k39 q j).resolve_left id).symm
      have KLT_I40 := gc_LT_fr KLT_I ((g39 23 5).resolve_left (fun h => h.elim (fun h => absurd h.2 (by decide)) (fun h => absurd h.2 (by decide)))) ((g39 23 6).resolve_left (fun h => h.elim (fun h => absurd h.2 (by decide)) (fun h => absurd h.2 (by decide)))) ((g39 23 7).resolve_left (fun h => h.elim (fun h => absurd h.2 (by decide)) (fun h => absurd h.2 (by decide)))) (fun k => (g39 24 k).resolve_left (fun h => h.elim (fun h => absurd h.1 (by decide)) (fun h => absurd h.1 (by decide))))
      have KTK_I40 := gc_TK_fr KTK_I ((g39 23 1).resolve_left (fun h => h.elim (fun h => absurd h.2 (by decide)) (fun h => absurd h.2 (by decide)))) ((g39 23 5).resolve_left (fun h => h.elim (fun h => absurd h.2 (by decide)) (fun h => absurd h.2 (by decide)))) ((g39 23 6).resolve_left (fun h => h.elim (fun h => absurd h.2 (by decide)) (fun h => absurd h.2 (by decide)))) ((g39 23 7).resolve_left (fun h => h.elim (fun h => absurd h.2 (by decide)) (fun h => absurd h.2 (by decide))))
      have KRS_I40 := gc_row_fr KRS_I (fun k => (g39 41 k).resolve_left (fun h => h.elim (fun h => absurd h.1 (by decide)) (fun h => absurd h.1 (by decide))))
      have KRC_I40 := gc_RC_fr KRC_I (fun k => (g39 41 k).resolve_left (fun h => h.elim (fun h => absurd h.1 (by decide)) (fun h => absurd h.1 (by decide))))
      refine gv_callV hD rfl (As := [.inr (.inr (some (t + 7)))]) (st := []) rfl B_39 S_39 rfl (gc_lV6 hws rfl) (Nat.le_of_ble_eq_true rfl) (gz_Ev_mono (d := 3) (by decide) E39) ?_
      show gv_X _ _ (81, [(0, .inr (.inr (some 39))), (1, .inl a1)], [.inl z39], sh, gc_h sh I40 J A)
      refine gv_if_eq (t := 119) hD rfl rfl ⟨by omega, by omega⟩ (fun c51 => ?_) (fun c51 => ?_)
      · show gv_X _ _ (119, [(0, .inr (.inr (some 39))), (1, .inl a1)], [], sh, gc_h sh I40 J A)
        refine gv_run 1 true hD (pc' := 120) (lv' := [(0, .inr (.inr (some 39))), (1, .inl a1)]) (st' := [.inl 0]) (h' := gc_h sh I40 J A) (C := (True ∧ True)) rfl ⟨trivial, trivial⟩ ?_
        exact gv_zret hD rfl (by omega) ⟨I40, J, rfl, hI40, FI40, FJ, KLT_I40, KTK_I40, KRS_I40, KRC_I40, ⟨_, rfl, by omega⟩⟩
      · show gv_X _ _ (84, [(0, .inr (.inr (some 39))), (1, .inl a1)], [], sh, gc_h sh I40 J A)
        refine gv_run 1 true hD (pc' := 85) (lv' := [(0, .inr (.inr (some 39))), (1, .inl a1)]) (st' := [.inr (.inr (some 39))]) (h' := gc_h sh I40 J A) (C := (True ∧ True)) rfl ⟨trivial, trivial⟩ ?_
        refine gv_get hD rfl rfl S_39 ⟨by decide, B_39⟩ (gc_hA S_39 rfl A_39_10) ?_
        show gv_X _ _ (88, [(0, .inr (.inr (some 39))), (1, .inl a1)], [.inr (.inr (some 41))], sh, gc_h sh I40 J A)
        refine gv_run 2 true hD (pc' := 90) (lv' := [(0, .inr (.inr (some 39))), (1, .inl a1)]) (st' := [.inl 1, .inl a1, .inr (.inr (some 41))]) (h' := gc_h sh I40 J A) (C := ((True ∧ True) ∧ True)) rfl ⟨⟨trivial, trivial⟩, trivial⟩ ?_
        refine gv_iast hD rfl S_41 ⟨by decide, B_41⟩ ⟨by omega, by omega⟩ ?_
        refine gc_st hI40 S_41 rfl R_41 (lo := (-2147483648)) (hi := 2147483647) rfl rfl (by omega) (by omega) (fun I52 hI52 q53 p53 => ?_)
        have FI52 := gc_frs (W := fun q j => (q = 39 ∧ j = 3) ∨ (q = 39 ∧ j = 4) ∨ (q = 23 ∧ j = 5) ∨ (q = 23 ∧ j = 6) ∨ (q = 23 ∧ j = 7) ∨ (q = 23 ∧ j = 8) ∨ (q = 1 ∧ j = 17) ∨ (q = 1 ∧ j = 18) ∨ q = 20 ∨ (q = 41 ∧ j = (Int.toNat a1)) ∨ (q = 41 ∧ j = (Int.toNat (a1 + 1))) ∨ (q = 41 ∧ j = (Int.toNat (a1 + 2)))) FI40 (Or.inr (Or.inr (Or.inr (Or.inr (Or.inr (Or.inr (Or.inr (Or.inr (Or.inr (Or.inl ⟨rfl, rfl⟩)))))))))) p53
        have t54 := p53 23 1 (fun h => absurd h.1 (by decide))
        have t55 := p53 23 5 (fun h => absurd h.1 (by decide))
        have t56 := p53 23 6 (fun h => absurd h.1 (by decide))
        have t57 := p53 23 7 (fun h => absurd h.1 (by decide))
        have t58 := p53 1 17 (fun h => absurd h.1 (by decide))
        have t59 := p53 (t + 7) 1 (fun h => absurd h.1 N_t_7__41)
        have t60 := p53 39 2 (fun h => absurd h.1 (by decide))
        have t61 := p53 41 (Int.toNat (a1 + 1)) (fun h => absurd h.2 (by omega))
        have KLT_I52 := gc_LT_fr KLT_I40 (p53 23 5 (fun h => absurd h.1 (by decide))) (p53 23 6 (fun h => absurd h.1 (by decide))) (p53 23 7 (fun h => absurd h.1 (by decide))) (fun k => p53 24 k (fun h => absurd h.1 (by decide)))
        have KTK_I52 := gc_TK_fr KTK_I40 (p53 23 1 (fun h => absurd h.1 (by decide))) (p53 23 5 (fun h => absurd h.1 (by decide))) (p53 23 6 (fun h => absurd h.1 (by decide))) (p53 23 7 (fun h => absurd h.1 (by decide)))
        have KRS_I52 := gc_row_st KRS_I40 p53 q53 (by unfold gc_fS; omega)
        show gv_X _ _ (91, [(0, .inr (.inr (some 39))), (1, .inl a1)], [], sh, gc_h sh I52 J A)
        refine gv_run 1 true hD (pc' := 92) (lv' := [(0, .inr (.inr (some 39))), (1, .inl a1)]) (st' := [.inr (.inr (some 39))]) (h' := gc_h sh I52 J A) (C := (True ∧ True)) rfl ⟨trivial, trivial⟩ ?_
        refine gv_get hD rfl rfl S_39 ⟨by decide, B_39⟩ (gc_hA S_39 rfl A_39_10) ?_
        show gv_X _ _ (95, [(0, .inr (.inr (some 39))), (1, .inl a1)], [.inr (.inr (some 41))], sh, gc_h sh I52 J A)
        refine gv_run 4 true hD (pc' := 99) (lv' := [(0, .inr (.inr (some 39))), (1, .inl a1)]) (st' := [.inr (.inr (some 39)), .inl (a1 + 1), .inr (.inr (some 41))]) (h' := gc_h sh I52 J A) (C := ((((True ∧ True) ∧ True) ∧ True) ∧ True)) rfl ⟨⟨⟨⟨trivial, trivial⟩, trivial⟩, trivial⟩, trivial⟩ ?_
        refine gv_get hD rfl rfl S_39 ⟨by decide, B_39⟩ (gc_h5 (t := t) S_39 rfl (by omega)) ?_
        show gv_X _ _ (102, [(0, .inr (.inr (some 39))), (1, .inl a1)], [.inr (.inr (some t)), .inl (a1 + 1), .inr (.inr (some 41))], sh, gc_h sh I52 J A)
        refine gv_get hD rfl rfl S_t ⟨by decide, B_t⟩ (gc_hA S_t rfl A_t_4) ?_
        show gv_X _ _ (105, [(0, .inr (.inr (some 39))), (1, .inl a1)], [.inr (.inr (some (t + 7))), .inl (a1 + 1), .inr (.inr (some 41))], sh, gc_h sh I52 J A)
        refine gv_run 1 true hD (pc' := 106) (lv' := [(0, .inr (.inr (some 39))), (1, .inl a1)]) (st' := [.inr (.inr (some 39)), .inr (.inr (some (t + 7))), .inl (a1 + 1), .inr (.inr (some 41))]) (h' := gc_h sh I52 J A) (C := (True ∧ True)) rfl ⟨trivial, trivial⟩ ?_
        refine gv_get hD rfl rfl S_39 ⟨by decide, B_39⟩ (gc_hA S_39 rfl A_39_1) ?_
        show gv_X _ _ (109, [(0, .inr (.inr (some 39))), (1, .inl a1)], [.inr (.inr (some 23)), .inr (.inr (some (t + 7))), .inl (a1 + 1), .inr (.inr (some 41))], sh, gc_h sh I52 J A)
        refine gv_get hD rfl rfl S_23 ⟨by decide, B_23⟩ (gc_hJ S_23 rfl) ?_
        show gv_X _ _ (112, [(0, .inr (.inr (some 39))), (1, .inl a1)], [.inr (.inl (J 23 9)), .inr (.inr (some (t + 7))), .inl (a1 + 1), .inr (.inr (some 41))], sh, gc_h sh I52 J A)
        have t62 := (show gc_fd (J ((t + 7) + 1)) (J 23 9) (Int.toNat (I52 (t + 7) 1)) = gc_fd (J ((t + 7) + 1)) (J 23 9) (Int.toNat (I40 (t + 7) 1)) from by rw [show I52 (t + 7) 1 = I40 (t + 7) 1 from by omega])
        obtain ⟨r63, h63, E63, P63⟩ := d_X4_find (ws0 := ws0) (tb := tb) hws htb sh ro I52 J A hI52 (t + 7) 16 7 (J 23 9) h_t_7     
        obtain ⟨rfl, ⟨z63, rfl, q63⟩⟩ := P63
        refine gv_callV hD rfl (As := [.inr (.inl (J 23 9))]) (st := [.inl (a1 + 1), .inr (.inr (some 41))]) rfl B_t_7 S_t_7 rfl (gc_lV6 hws rfl) (Nat.le_of_ble_eq_true rfl) (gz_Ev_mono (d := 1) (by decide) E63) ?_
        show gv_X _ _ (115, [(0, .inr (.inr (some 39))), (1, .inl a1)], [.inl z63, .inl (a1 + 1), .inr (.inr (some 41))], sh, gc_h sh I52 J A)
        refine gv_iast hD rfl S_41 ⟨by decide, B_41⟩ ⟨by omega, by omega⟩ ?_
        refine gc_st hI52 S_41 rfl R_41 (lo := (-2147483648)) (hi := 2147483647) rfl rfl (by omega) (by omega) (fun I64 hI64 q65 p65 => ?_)
        have FI64 := gc_frs (W := fun q j => (q = 39 ∧ j = 3) ∨ (q = 39 ∧ j = 4) ∨ (q = 23 ∧ j = 5) ∨ (q = 23 ∧ j = 6) ∨ (q = 23 ∧ j = 7) ∨ (q = 23 ∧ j = 8) ∨ (q = 1 ∧ j = 17) ∨ (q = 1 ∧ j = 18) ∨ q = 20 ∨ (q = 41 ∧ j = (Int.toNat a1)) ∨ (q = 41 ∧ j = (Int.toNat (a1 + 1))) ∨ (q = 41 ∧ j = (Int.toNat (a1 + 2)))) FI52 (Or.inr (Or.inr (Or.inr (Or.inr (Or.inr (Or.inr (Or.inr (Or.inr (Or.inr (Or.inr (Or.inl ⟨rfl, rfl⟩))))))))))) p65
        have t66 := p65 23 1 (fun h => absurd h.1 (by decide))
        have t67 := p65 23 5 (fun h => absurd h.1 (by decide))
        have t68 := p65 23 6 (fun h => absurd h.1 (by decide))
        have t69 := p65 23 7 (fun h => absurd h.1 (by decide))
        have t70 := p65 1 17 (fun h => absurd h.1 (by decide))
        have t71 := p65 (t + 7) 1 (fun h => absurd h.1 N_t_7__41)
        have t72 := p65 39 2 (fun h => absurd h.1 (by decide))
        have t73 := p65 41 (Int.toNat a1) (fun h => absurd h.2 (by omega))
        have KLT_I64 := gc_LT_fr KLT_I52 (p65 23 5 (fun h => absurd h.1 (by decide))) (p65 23 6 (fun h => absurd h.1 (by decide))) (p65 23 7 (fun h => absurd h.1 (by decide))) (fun k => p65 24 k (fun h => absurd h.1 (by decide)))
        have KTK_I64 := gc_TK_fr KTK_I52 (p65 23 1 (fun h => absurd h.1 (by decide))) (p65 23 5 (fun h => absurd h.1 (by decide))) (p65 23 6 (fun h => absurd h.1 (by decide))) (p65 23 7 (fun h => absurd h.1 (by decide)))
        have KRS_I64 := gc_row_st KRS_I52 p65 q65 (by unfold gc_fS; omega)
        show gv_X _ _ (116, [(0, .inr (.inr (some 39))), (1, .inl a1)], [], sh, gc_h sh I64 J A)
        refine gv_run 1 true hD (pc' := 121) (lv' := [(0, .inr (.inr (some 39))), (1, .inl a1)]) (st' := []) (h' := gc_h sh I64 J A) (C := (True ∧ True)) rfl ⟨trivial, trivial⟩ ?_
        refine gv_pick [0] rfl ?_
        exact L121 I64 J hI64 FI64 FJ KLT_I64 KTK_I64 KRS_I64 (by omega)
    · show gv_X _ _ (33, [(0, .inr (.inr (some 39))), (1, .inl a1)], [], sh, gc_h sh I J A)
      refine gv_run 1 true hD (pc' := 34) (lv' := [(0, .inr (.inr (some 39))), (1, .inl a1)]) (st' := [.inr (.inr (some 39))]) (h' := gc_h sh I J A) (C := (True ∧ True)) rfl ⟨trivial, trivial⟩ ?_
      refine gv_get hD rfl rfl S_39 ⟨by decide, B_39⟩ (gc_hA S_39 rfl A_39_10) ?_
      show gv_X _ _ (37, [(0, .inr (.inr (some 39))), (1, .inl a1)], [.inr (.inr (some 41))], sh, gc_h sh I J A)
      refine gv_run 2 true hD (pc' := 39) (lv' := [(0, .inr (.inr (some 39))), (1, .inl a1)]) (st' := [.inl 0, .inl a1, .inr (.inr (some 41))]) (h' := gc_h sh I J A) (C := ((True ∧ True) ∧ True)) rfl ⟨⟨trivial, trivial⟩, trivial⟩ ?_
      refine gv_iast hD rfl S_41 ⟨by decide, B_41⟩ ⟨by omega, by omega⟩ ?_
      refine gc_st hI S_41 rfl R_41 (lo := (-2147483648)) (hi := 2147483647) rfl rfl (by omega) (by omega) (fun I74 hI74 q75 p75 => ?_)
      have FI74 := gc_frs (W := fun q j => (q = 39 ∧ j = 3) ∨ (q = 39 ∧ j = 4) ∨ (q = 23 ∧ j = 5) ∨ (q = 23 ∧ j = 6) ∨ (q = 23 ∧ j = 7) ∨ (q = 23 ∧ j = 8) ∨ (q = 1 ∧ j = 17) ∨ (q = 1 ∧ j = 18) ∨ q = 20 ∨ (q = 41 ∧ j = (Int.toNat a1)) ∨ (q = 41 ∧ j = (Int.toNat (a1 + 1))) ∨ (q = 41 ∧ j = (Int.toNat (a1 + 2)))) FI (Or.inr (Or.inr (Or.inr (Or.inr (Or.inr (Or.inr (Or.inr (Or.inr (Or.inr (Or.inl ⟨rfl, rfl⟩)))))))))) p75
      have t76 := p75 23 1 (fun h => absurd h.1 (by decide))
      have t77 := p75 23 5 (fun h => absurd h.1 (by decide))
      have t78 := p75 23 6 (fun h => absurd h.1 (by decide))
      have t79 := p75 23 7 (fun h => absurd h.1 (by decide))
      have t80 := p75 1 17 (fun h => absurd h.1 (by decide))
      have t81 := p75 (t + 7) 1 (fun h => absurd h.1 N_t_7__41)
      have t82 := p75 39 2 (fun h => absurd h.1 (by decide))
      have t83 := p75 41 (Int.toNat (a1 + 1)) (fun h => absurd h.2 (by omega))
      have KLT_I74 := gc_LT_fr KLT_I (p75 23 5 (fun h => absurd h.1 (by decide))) (p75 23 6 (fun h => absurd h.1 (by decide))) (p75 23 7 (fun h => absurd h.1 (by decide))) (fun k => p75 24 k (fun h => absurd h.1 (by decide)))
      have KTK_I74 := gc_TK_fr KTK_I (p75 23 1 (fun h => absurd h.1 (by decide))) (p75 23 5 (fun h => absurd h.1 (by decide))) (p75 23 6 (fun h => absurd h.1 (by decide))) (p75 23 7 (fun h => absurd h.1 (by decide)))
      have KRS_I74 := gc_row_st KRS_I p75 q75 (by unfold gc_fS; omega)
      show gv_X _ _ (40, [(0, .inr (.inr (some 39))), (1, .inl a1)], [], sh, gc_h sh I74 J A)
      refine gv_run 1 true hD (pc' := 41) (lv' := [(0, .inr (.inr (some 39))), (1, .inl a1)]) (st' := [.inr (.inr (some 39))]) (h' := gc_h sh I74 J A) (C := (True ∧ True)) rfl ⟨trivial, trivial⟩ ?_
      refine gv_get hD rfl rfl S_39 ⟨by decide, B_39⟩ (gc_hA S_39 rfl A_39_10) ?_
      show gv_X _ _ (44, [(0, .inr (.inr (some 39))), (1, .inl a1)], [.inr (.inr (some 41))], sh, gc_h sh I74 J A)
      refine gv_run 4 true hD (pc' := 48) (lv' := [(0, .inr (.inr (some 39))), (1, .inl a1)]) (st' := [.inr (.inr (some 39)), .inl (a1 + 1), .inr (.inr (some 41))]) (h' := gc_h sh I74 J A) (C := ((((True ∧ True) ∧ True) ∧ True) ∧ True)) rfl ⟨⟨⟨⟨trivial, trivial⟩, trivial⟩, trivial⟩, trivial⟩ ?_
      obtain ⟨r84, h84, E84, P84⟩ := d_X6_keepLetters (ws0 := ws0) (tb := tb) hws htb sh ro I74 J A hI74   hb    (by omega) KLT_I74 KTK_I74
      obtain ⟨I85, J86, rfl, hI85, g84, k84, KLT_I85, KTK_I85, ⟨z84, rfl, q84⟩⟩ := P84
      have FI85 := gc_frc (W := fun q j => (q = 39 ∧ j = 3) ∨ (q = 39 ∧ j = 4) ∨ (q = 23 ∧ j = 5) ∨ (q = 23 ∧ j = 6) ∨ (q = 23 ∧ j = 7) ∨ (q = 23 ∧ j = 8) ∨ (q = 1 ∧ j = 17) ∨ (q = 1 ∧ j = 18) ∨ q = 20 ∨ (q = 41 ∧ j = (Int.toNat a1)) ∨ (q = 41 ∧ j = (Int.toNat (a1 + 1))) ∨ (q = 41 ∧ j = (Int.toNat (a1 + 2)))) (V := fun q j => (q = 1 ∧ j = 17) ∨ (q = 1 ∧ j = 18) ∨ q = 20) FI74 (fun q j h => (h.elim (fun h => (Or.inr (Or.inr (Or.inr (Or.inr (Or.inr (Or.inr (Or.inl h)))))))) (fun h => (h.elim (fun h => (Or.inr (Or.inr (Or.inr (Or.inr (Or.inr (Or.inr (Or.inr (Or.inl h))))))))) (fun h => (Or.inr (Or.inr (Or.inr (Or.inr (Or.inr (Or.inr (Or.inr (Or.inr (Or.inl h)))))))))))))) g84
      have t87 := (g84 23 1).resolve_left (fun h => h.elim (fun h => absurd h.2 (by decide)) (fun h => h.elim (fun h => absurd h.2 (by decide)) (fun h => absurd h (by decide))))
      have t88 := (g84 23 5).resolve_left (fun h => h.elim (fun h => absurd h.2 (by decide)) (fun h => h.elim (fun h => absurd h.2 (by decide)) (fun h => absurd h (by decide))))
      have t89 := (g84 23 6).resolve_left (fun h => h.elim (fun h => absurd h.2 (by decide)) (fun h => h.elim (fun h => absurd h.2 (by decide)) (fun h => absurd h (by decide))))
      have t90 := (g84 23 7).resolve_left (fun h => h.elim (fun h => absurd h.2 (by decide)) (fun h => h.elim (fun h => absurd h.2 (by decide)) (fun h => absurd h (by decide))))
      have t91 := (g84 (t + 7) 1).resolve_left (fun h => h.elim (fun h => absurd h.2 (by decide)) (fun h => h.elim (fun h => absurd h.2 (by decide)) (fun h => absurd h N_t_7__20)))
      have t92 := (g84 39 2).resolve_left (fun h => h.elim (fun h => absurd h.2 (by decide)) (fun h => h.elim (fun h => absurd h.2 (by decide)) (fun h => absurd h (by decide))))
      have t93 := (g84 41 (Int.toNat a1)).resolve_left (fun h => h.elim (fun h => absurd h.1 (by decide)) (fun h => h.elim (fun h => absurd h.1 (by decide)) (fun h => absurd h (by decide))))
      have t94 := (g84 41 (Int.toNat (a1 + 1))).resolve_left (fun h => h.elim (fun h => absurd h.1 (by decide)) (fun h => h.elim (fun h => absurd h.1 (by decide)) (fun h => absurd h (by decide))))
      have f95 := (show 0 ≤ I85 1 17 ∧ I85 1 17 ≤ 12000 from gc_in hI85 R_1 rfl rfl)
      obtain rfl : J = J86 := funext fun q => funext fun j => ((k84 q j).resolve_left id).symm
      have KRS_I85 := gc_row_fr KRS_I74 (fun k => (g84 41 k).resolve_left (fun h => h.elim (fun h => absurd h.1 (by decide)) (fun h => h.elim (fun h => absurd h.1 (by decide)) (fun h => absurd h (by decide)))))
      refine gv_callV hD rfl (As := []) (st := [.inl (a1 + 1), .inr (.inr (some 41))]) rfl B_39 S_39 rfl (gc_lV6 hws rfl) (Nat.le_of_ble_eq_true rfl) (gz_Ev_mono (d := 2) (by decide) E84) ?_
      show gv_X _ _ (51, [(0, .inr (.inr (some 39))), (1, .inl a1)], [.inl z84, .inl (a1 + 1), .inr (.inr (some 41))], sh, gc_h sh I85 J A)
      refine gv_iast hD rfl S_41 ⟨by decide, B_41⟩ ⟨by omega, by omega⟩ ?_
      refine gc_st hI85 S_41 rfl R_41 (lo := (-2147483648)) (hi := 2147483647) rfl rfl (by omega) (by omega) (fun I96 hI96 q97 p97 => ?_)
      have FI96 := gc_frs (W := fun q j => (q = 39 ∧ j = 3) ∨ (q = 39 ∧ j = 4) ∨ (q = 23 ∧ j = 5) ∨ (q = 23 ∧ j = 6) ∨ (q = 23 ∧ j = 7) ∨ (q = 23 ∧ j = 8) ∨ (q = 1 ∧ j = 17) ∨ (q = 1 ∧ j = 18) ∨ q = 20 ∨ (q = 41 ∧ j = (Int.toNat a1)) ∨ (q = 41 ∧ j = (Int.toNat (a1 + 1))) ∨ (q = 41 ∧ j = (Int.toNat (a1 + 2)))) FI85 (Or.inr (Or.inr (Or.inr (Or.inr (Or.inr (Or.inr (Or.inr (Or.inr (Or.inr (Or.inr (Or.inl ⟨rfl, rfl⟩))))))))))) p97
      have t98 := p97 23 1 (fun h => absurd h.1 (by decide))
      have t99 := p97 23 5 (fun h => absurd h.1 (by decide))
      have t100 := p97 23 6 (fun h => absurd h.1 (by decide))
      have t101 := p97 23 7 (fun h => absurd h.1 (by decide))
      have t102 := p97 1 17 (fun h => absurd h.1 (by decide))
      have t103 := p97 (t + 7) 1 (fun h => absurd h.1 N_t_7__41)
      have t104 := p97 39 2 (fun h => absurd h.1 (by decide))
      have t105 := p97 41 (Int.toNat a1) (fun h => absurd h.2 (by omega))
      have KLT_I96 := gc_LT_fr KLT_I85 (p97 23 5 (fun h => absurd h.1 (by decide))) (p97 23 6 (fun h => absurd h.1 (by decide))) (p97 23 7 (fun h => absurd h.1 (by decide))) (fun k => p97 24 k (fun h => absurd h.1 (by decide)))
      have KTK_I96 := gc_TK_fr KTK_I85 (p97 23 1 (fun h => absurd h.1 (by decide))) (p97 23 5 (fun h => absurd h.1 (by decide))) (p97 23 6 (fun h => absurd h.1 (by decide))) (p97 23 7 (fun h => absurd h.1 (by decide)))
      have KRS_I96 := gc_row_st KRS_I85 p97 q97 (by unfold gc_fS; omega)
      show gv_X _ _ (52, [(0, .inr (.inr (some 39))), (1, .inl a1)], [], sh, gc_h sh I96 J A)
      refine gv_run 1 true hD (pc' := 53) (lv' := [(0, .inr (.inr (some 39))), (1, .inl a1)]) (st' := [.inr (.inr (some 39))]) (h' := gc_h sh I96 J A) (C := (True ∧ True)) rfl ⟨trivial, trivial⟩ ?_
      refine gv_get hD rfl rfl S_39 ⟨by decide, B_39⟩ (gc_hA S_39 rfl A_39_10) ?_
      show gv_X _ _ (56, [(0, .inr (.inr (some 39))), (1, .inl a1)], [.inr (.inr (some 41))], sh, gc_h sh I96 J A)
      refine gv_run 4 true hD (pc' := 60) (lv' := [(0, .inr (.inr (some 39))), (1, .inl a1)]) (st' := [.inr (.inr (some 39)), .inl (a1 + 2), .inr (.inr (some 41))]) (h' := gc_h sh I96 J A) (C := ((((True ∧ True) ∧ True) ∧ True) ∧ True)) rfl ⟨⟨⟨⟨trivial, trivial⟩, trivial⟩, trivial⟩, trivial⟩ ?_
      refine gv_get hD rfl rfl S_39 ⟨by decide, B_39⟩ (gc_hA S_39 rfl A_39_1) ?_
      show gv_X _ _ (63, [(0, .inr (.inr (some 39))), (1, .inl a1)], [.inr (.inr (some 23)), .inl (a1 + 2), .inr (.inr (some 41))], sh, gc_h sh I96 J A)
      have t107 := gc_TK_l3 KTK_I96 (by omega)
      obtain ⟨r106, h106, E106, P106⟩ := d_X9_lettersSize (ws0 := ws0) (tb := tb) hws htb sh ro I96 J A hI96 23  (gc_b23 hb)     
      obtain ⟨rfl, ⟨z106, rfl, q106⟩⟩ := P106
      refine gv_callV hD rfl (As := []) (st := [.inl (a1 + 2), .inr (.inr (some 41))]) rfl B_23 S_23 rfl (gc_lV6 hws rfl) (Nat.le_of_ble_eq_true rfl) (gz_Ev_mono (d := 1) (by decide) E106) ?_
      show gv_X _ _ (66, [(0, .inr (.inr (some 39))), (1, .inl a1)], [.inl z106, .inl (a1 + 2), .inr (.inr (some 41))], sh, gc_h sh I96 J A)
      refine gv_iast hD rfl S_41 ⟨by decide, B_41⟩ ⟨by omega, by omega⟩ ?_
      refine gc_st hI96 S_41 rfl R_41 (lo := (-2147483648)) (hi := 2147483647) rfl rfl (by omega) (by omega) (fun I108 hI108 q109 p109 => ?_)
      have FI108 := gc_frs (W := fun q j => (q = 39 ∧ j = 3) ∨ (q = 39 ∧ j = 4) ∨ (q = 23 ∧ j = 5) ∨ (q = 23 ∧ j = 6) ∨ (q = 23 ∧ j = 7) ∨ (q = 23 ∧ j = 8) ∨ (q = 1 ∧ j = 17) ∨ (q = 1 ∧ j = 18) ∨ q = 20 ∨ (q = 41 ∧ j = (Int.toNat a1)) ∨ (q = 41 ∧ j = (Int.toNat (a1 + 1))) ∨ (q = 41 ∧ j = (Int.toNat (a1 + 2)))) FI96 (Or.inr (Or.inr (Or.inr (Or.inr (Or.inr (Or.inr (Or.inr (Or.inr (Or.inr (Or.inr (Or.inr ⟨rfl, rfl⟩))))))))))) p109
      have t110 := p109 23 1 (fun h => absurd h.1 (by decide))
      have t111 := p109 23 5 (fun h => absurd h.1 (by decide))
      have t112 := p109 23 6 (fun h => absurd h.1 (by decide))
      have t113 := p109 23 7 (fun h => absurd h.1 (by decide))
      have t114 := p109 1 17 (fun h => absurd h.1 (by decide))
      have t115 := p109 (t + 7) 1 (fun h => absurd h.1 N_t_7__41)
      have t116 := p109 39 2 (fun h => absurd h.1 (by decide))
      have t117 := p109 41 (Int.toNat a1) (fun h => absurd h.2 (by omega))
      have t118 := p109 41 (Int.toNat (a1 + 1)) (fun h => absurd h.2 (by omega))
      have KLT_I108 := gc_LT_fr KLT_I96 (p109 23 5 (fun h => absurd h.1 (by decide))) (p109 23 6 (fun h => absurd h.1 (by decide))) (p109 23 7 (fun h => absurd h.1 (by decide))) (fun k => p109 24 k (fun h => absurd h.1 (by decide)))
      have KTK_I108 := gc_TK_fr KTK_I96 (p109 23 1 (fun h => absurd h.1 (by decide))) (p109 23 5 (fun h => absurd h.1 (by decide))) (p109 23 6 (fun h => absurd h.1 (by decide))) (p109 23 7 (fun h => absurd h.1 (by decide)))
      have KRS_I108 := gc_row_st KRS_I96 p109 q109 (by unfold gc_fS; omega)
      show gv_X _ _ (67, [(0, .inr (.inr (some 39))), (1, .inl a1)], [], sh, gc_h sh I108 J A)
      refine gv_run 1 true hD (pc' := 121) (lv' := [(0, .inr (.inr (some 39))), (1, .inl a1)]) (st' := []) (h' := gc_h sh I108 J A) (C := (True ∧ True)) rfl ⟨trivial, trivial⟩ ?_
      refine gv_pick [0] rfl ?_
      exact L121 I108 J hI108 FI108 FJ KLT_I108 KTK_I108 KRS_I108 (by omega)
  · show gv_X _ _ (12, [(0, .inr (.inr (some 39))), (1, .inl a1)], [], sh, gc_h sh I J A)
    refine gv_run 1 true hD (pc' := 13) (lv' := [(0, .inr (.inr (some 39))), (1, .inl a1)]) (st' := [.inr (.inr (some 39))]) (h' := gc_h sh I J A) (C := (True ∧ True)) rfl ⟨trivial, trivial⟩ ?_
    refine gv_get hD rfl rfl S_39 ⟨by decide, B_39⟩ (gc_hA S_39 rfl A_39_10) ?_
    show gv_X _ _ (16, [(0, .inr (.inr (some 39))), (1, .inl a1)], [.inr (.inr (some 41))], sh, gc_h sh I J A)
    refine gv_run 2 true hD (pc' := 18) (lv' := [(0, .inr (.inr (some 39))), (1, .inl a1)]) (st' := [.inl 2, .inl a1, .inr (.inr (some 41))]) (h' := gc_h sh I J A) (C := ((True ∧ True) ∧ True)) rfl ⟨⟨trivial, trivial⟩, trivial⟩ ?_
    refine gv_iast hD rfl S_41 ⟨by decide, B_41⟩ ⟨by omega, by omega⟩ ?_
    refine gc_st hI S_41 rfl R_41 (lo := (-2147483648)) (hi := 2147483647) rfl rfl (by omega) (by omega) (fun I119 hI119 q120 p120 => ?_)
    have FI119 := gc_frs (W := fun q j => (q = 39 ∧ j = 3) ∨ (q = 39 ∧ j = 4) ∨ (q = 23 ∧ j = 5) ∨ (q = 23 ∧ j = 6) ∨ (q = 23 ∧ j = 7) ∨ (q = 23 ∧ j = 8) ∨ (q = 1 ∧ j = 17) ∨ (q = 1 ∧ j = 18) ∨ q = 20 ∨ (q = 41 ∧ j = (Int.toNat a1)) ∨ (q = 41 ∧ j = (Int.toNat (a1 + 1))) ∨ (q = 41 ∧ j = (Int.toNat (a1 + 2)))) FI (Or.inr (Or.inr (Or.inr (Or.inr (Or.inr (Or.inr (Or.inr (Or.inr (Or.inr (Or.inl ⟨rfl, rfl⟩)))))))))) p120
    have t121 := p120 23 1 (fun h => absurd h.1 (by decide))
    have t122 := p120 23 5 (fun h => absurd h.1 (by decide))
    have t123 := p120 23 6 (fun h => absurd h.1 (by decide))
    have t124 := p120 23 7 (fun h => absurd h.1 (by decide))
    have t125 := p120 1 17 (fun h => absurd h.1 (by decide))
    have t126 := p120 (t + 7) 1 (fun h => absurd h.1 N_t_7__41)
    have t127 := p120 39 2 (fun h => absurd h.1 (by decide))
    have t128 := p120 41 (Int.toNat (a1 + 1)) (fun h => absurd h.2 (by omega))
    have KLT_I119 := gc_LT_fr KLT_I (p120 23 5 (fun h => absurd h.1 (by decide))) (p120 23 6 (fun h => absurd h.1 (by decide))) (p120 23 7 (fun h => absurd h.1 (by decide))) (fun k => p120 24 k (fun h => absurd h.1 (by decide)))
    have KTK_I119 := gc_TK_fr KTK_I (p120 23 1 (fun h => absurd h.1 (by decide))) (p120 23 5 (fun h => absurd h.1 (by decide))) (p120 23 6 (fun h => absurd h.1 (by decide))) (p120 23 7 (fun h => absurd h.1 (by decide)))
    have KRS_I119 := gc_row_st KRS_I p120 q120 (by unfold gc_fS; omega)
    show gv_X _ _ (19, [(0, .inr (.inr (some 39))), (1, .inl a1)], [], sh, gc_h sh I119 J A)
    refine gv_run 1 true hD (pc' := 121) (lv' := [(0, .inr (.inr (some 39))), (1, .inl a1)]) (st' := []) (h' := gc_h sh I119 J A) (C := (True ∧ True)) rfl ⟨trivial, trivial⟩ ?_
    refine gv_pick [0] rfl ?_
    exact L121 I119 J hI119 FI119 FJ KLT_I119 KTK_I119 KRS_I119 (by omega)
set_option maxHeartbeats 4000000 in
set_option maxRecDepth 100000 in
theorem d_X6_readSide {ws0 : List Cond} {tb : String → gz_T} (hws : gc_Ws ws0) (htb : gc_tbs tb) (sh : gz_Sh) (ro : Nat → Nat) (I : gr_I) (J : gr_J) (A : gc_A) (hI : gc_Inv ro I) (t : Nat) (B : Int) (a1 : Int) (a2 : Int) (hb : gc_Base sh ro A) (h_t : gc_isTongue sh ro A t) (G_t : 144 ≤ t) (ha1 : 5 ≤ a1 ∧ a1 ≤ 6) (ha2 : 7 ≤ a2 ∧ a2 ≤ 16) (x0 : B ≤ 1280 ∧ I 1 17 + I 23 1 ≤ B + I 23 5) (x1 : (a1 = 5 ∧ a2 = 7) ∨ (a1 = 6 ∧ a2 = 16)) (x2 : I 39 2 = (t : Int)) (KLT_I : gc_LT I) (KTK_I : gc_TK I) (KRS_I : gc_row 41 25 gc_fS I) (KRC_I : gc_RC I) : ∃ r h', gz_Ev ws0 tb 5 (yX6_readSide, cX6_readSide, 4, (some .boolean)) [.inr (.inr (some 39)), .inl a1, .inl a2] sh (gc_h sh I J A) r sh h' 0 0 ∧ (∃ (I' : gr_I) (J' : gr_J), h' = gc_h sh I' J' A ∧ gc_Inv ro I' ∧ (∀ q j : Nat, ((q = 39 ∧ j = 3) ∨ (q = 39 ∧ j = 4) ∨ (q = 23 ∧ j = 5) ∨ (q = 23 ∧ j = 6) ∨ (q = 23 ∧ j = 7) ∨ (q = 23 ∧ j = 8) ∨ (q = 1 ∧ j = 17) ∨ (q = 1 ∧ j = 18) ∨ q = 20 ∨ q = 41) ∨ I' q j = I q j) ∧ (∀ q j : Nat, ((q = 23 ∧ j = 9)) ∨ J' q j = J q j) ∧ gc_LT I' ∧ gc_TK I' ∧ gc_row 41 25 gc_fS I' ∧ gc_RC I' ∧ (∃ z : Int, r = some (.inl z) ∧ 0 ≤ z ∧ z ≤ 1 ∧ (I' 23 1 = I 23 1) ∧ (I 23 5 ≤ I' 23 5) ∧ (B ≤ 1280 ∧ I' 1 17 + I' 23 1 ≤ B + I' 23 5))) := by
  have FI : ∀ q j : Nat, ((q = 39 ∧ j = 3) ∨ (q = 39 ∧ j = 4) ∨ (q = 23 ∧ j = 5) ∨ (q = 23 ∧ j = 6) ∨ (q = 23 ∧ j = 7) ∨ (q = 23 ∧ j = 8) ∨ (q = 1 ∧ j = 17) ∨ (q = 1 ∧ j = 18) ∨ q = 20 ∨ q = 41) ∨ I q j = I q j := fun _ _ => Or.inr rfl
  have FJ : ∀ q j : Nat, ((q = 23 ∧ j = 9)) ∨ J q j = J q j := fun _ _ => Or.inr rfl
  have A_39_1 : A 39 1 = some 23 := gc_bA hb rfl
  have A_39_10 : A 39 10 = some 41 := gc_bA hb rfl
  have B_23 : 23 < 1000000 := by decide
  have B_39 : 39 < 1000000 := by decide
  have B_41 : 41 < 1000000 := by decide
  have R_1 : ro 1 = 22 := gc_bR hb (by decide) rfl
  have R_23 : ro 23 = 3 := gc_bR hb (by decide) rfl
  have R_39 : ro 39 = 42 := gc_bR hb (by decide) rfl
  have R_41 : ro 41 = 0 := gc_bR hb (by decide) rfl
  have S_23 : sh[23]? = some (false, 9, 10) := gc_bS hb rfl
  have S_39 : sh[39]? = some (false, 6, 19) := gc_bS hb rfl
  have S_41 : sh[41]? = some (true, 1, 25) := gc_bS hb rfl
  obtain ⟨S_t, R_t, B_t, A_t_0, h_t_1, A_t_1, h_t_3, A_t_2, S_t_5, R_t_5, B_t_5, A_t_3, S_t_6, R_t_6, B_t_6, A_t_4, h_t_7, A_t_5, S_t_9, R_t_9, B_t_9, A_t_7, S_t_10, R_t_10, B_t_10, A_t_8, h_t_11, A_t_9, S_t_13, R_t_13, B_t_13, A_t_10, S_t_14, R_t_14, B_t_14, A_t_12, S_t_15, R_t_15, B_t_15, A_t_14, S_t_16, R_t_16, B_t_16, A_t_15, h_t_17⟩ := id h_t
  obtain ⟨S_t_1, R_t_1, B_t_1, A_t_1_0, S_t_1_1, R_t_1_1, B_t_1_1, Q0_t_1, Q1_t_1, Q2_t_1⟩ := id h_t_1
  obtain ⟨S_t_3, R_t_3, B_t_3, A_t_3_0, S_t_3_1, R_t_3_1, B_t_3_1, Q0_t_3, Q1_t_3, Q2_t_3⟩ := id h_t_3
  obtain ⟨S_t_7, R_t_7, B_t_7, A_t_7_0, S_t_7_1, R_t_7_1, B_t_7_1, Q0_t_7, Q1_t_7, Q2_t_7⟩ := id h_t_7
  obtain ⟨S_t_11, R_t_11, B_t_11, A_t_11_0, S_t_11_1, R_t_11_1, B_t_11_1, Q0_t_11, Q1_t_11, Q2_t_11⟩ := id h_t_11
  obtain ⟨S_t_17, R_t_17, B_t_17, A_t_17_0, S_20, R_20, B_20, A_t_17_1, S_t_17_1, R_t_17_1, B_t_17_1, A_t_17_2, S_t_17_2, R_t_17_2, B_t_17_2, A_t_17_3, S_t_17_3, R_t_17_3, B_t_17_3, A_t_17_4, S_t_17_4, R_t_17_4, B_t_17_4, A_t_17_5, S_t_17_5, R_t_17_5, B_t_17_5, S_t_17_6, R_t_17_6, B_t_17_6, S_t_17_7, R_t_17_7, B_t_17_7⟩ := id h_t_17
  have hD : gv_D (gc_E6 ws0 tb 4 (yX6_readSide, cX6_readSide, 4, (some .boolean)) kX6_readSide) := gq_ok oX6_readSide
  refine gc_ev6 (d := 4) (l := kX6_readSide) (Po := fun r h' => (∃ (I' : gr_I) (J' : gr_J), h' = gc_h sh I' J' A ∧ gc_Inv ro I' ∧ (∀ q j : Nat, ((q = 39 ∧ j = 3) ∨ (q = 39 ∧ j = 4) ∨ (q = 23 ∧ j = 5) ∨ (q = 23 ∧ j = 6) ∨ (q = 23 ∧ j = 7) ∨ (q = 23 ∧ j = 8) ∨ (q = 1 ∧ j = 17) ∨ (q = 1 ∧ j = 18) ∨ q = 20 ∨ q = 41) ∨ I' q j = I q j) ∧ (∀ q j : Nat, ((q = 23 ∧ j = 9)) ∨ J' q j = J q j) ∧ gc_LT I' ∧ gc_TK I' ∧ gc_row 41 25 gc_fS I' ∧ gc_RC I' ∧ (∃ z : Int, r = some (.inl z) ∧ 0 ≤ z ∧ z ≤ 1 ∧ (I' 23 1 = I 23 1) ∧ (I 23 5 ≤ I' 23 5) ∧ (B ≤ 1280 ∧ I' 1 17 + I' 23 1 ≤ B + I' 23 5)))) htb rfl (Nat.le_of_ble_eq_true rfl) ?_
  have t1 := gc_TK_mo KTK_I
  have f2 := (show 0 ≤ I 23 1 ∧ I 23 1 ≤ 1000 from gc_in hI R_23 rfl rfl)
  have f3 := (show 0 ≤ I 23 5 ∧ I 23 5 ≤ 1000 from gc_in hI R_23 rfl rfl)
  have f4 := (show 0 ≤ I 23 6 ∧ I 23 6 ≤ 1001 from gc_in hI R_23 rfl rfl)
  have f5 := (show 0 ≤ I 23 7 ∧ I 23 7 ≤ 125 from gc_in hI R_23 rfl rfl)
  have f6 := (show 0 ≤ I 1 17 ∧ I 1 17 ≤ 12000 from gc_in hI R_1 rfl rfl)
  have f7 := (show (-1) ≤ I 39 2 ∧ I 39 2 ≤ 999999 from gc_in hI R_39 rfl rfl)
  have L2 : ∀ (n9 : Nat) (I8 : gr_I) (J9 : gr_J) (v3_10 : Int), (5 - v3_10).toNat < n9 → gc_Inv ro I8 → (∀ q j : Nat, ((q = 39 ∧ j = 3) ∨ (q = 39 ∧ j = 4) ∨ (q = 23 ∧ j = 5) ∨ (q = 23 ∧ j = 6) ∨ (q = 23 ∧ j = 7) ∨ (q = 23 ∧ j = 8) ∨ (q = 1 ∧ j = 17) ∨ (q = 1 ∧ j = 18) ∨ q = 20 ∨ q = 41) ∨ I8 q j = I q j) → (∀ q j : Nat, ((q = 23 ∧ j = 9)) ∨ J9 q j = J q j) → gc_LT I8 → gc_TK I8 → gc_row 41 25 gc_fS I8 → gc_RC I8 → ((5 ≤ a1 ∧ a1 ≤ 6) ∧ (7 ≤ a2 ∧ a2 ≤ 16) ∧ (0 ≤ v3_10 ∧ v3_10 ≤ 4) ∧ (I8 23 1 = I 23 1) ∧ (I 23 5 ≤ I8 23 5) ∧ (B ≤ 1280 ∧ I8 1 17 + I8 23 1 ≤ B + I8 23 5) ∧ (I8 39 2 = (t : Int))) → gv_X (gc_E6 ws0 tb 4 (yX6_readSide, cX6_readSide, 4, (some .boolean)) kX6_readSide) (gv_Q cX6_readSide (some .boolean) sh (fun r h' => (∃ (I' : gr_I) (J' : gr_J), h' = gc_h sh I' J' A ∧ gc_Inv ro I' ∧ (∀ q j : Nat, ((q = 39 ∧ j = 3) ∨ (q = 39 ∧ j = 4) ∨ (q = 23 ∧ j = 5) ∨ (q = 23 ∧ j = 6) ∨ (q = 23 ∧ j = 7) ∨ (q = 23 ∧ j = 8) ∨ (q = 1 ∧ j = 17) ∨ (q = 1 ∧ j = 18) ∨ q = 20 ∨ q = 41) ∨ I' q j = I q j) ∧ (∀ q j : Nat, ((q = 23 ∧ j = 9)) ∨ J' q j = J q j) ∧ gc_LT I' ∧ gc_TK I' ∧ gc_row 41 25 gc_fS I' ∧ gc_RC I' ∧ (∃ z : Int, r = some (.inl z) ∧ 0 ≤ z ∧ z ≤ 1 ∧ (I' 23 1 = I 23 1) ∧ (I 23 5 ≤ I' 23 5) ∧ (B ≤ 1280 ∧ I' 1 17 + I' 23 1 ≤ B + I' 23 5))))) (2, [(0, .inr (.inr (some 39))), (1, .inl a1), (2, .inl a2), (3, .inl v3_10)], [], sh, gc_h sh I8 J9 A) := by
    intro n9
    induction n9 with
    | zero => intro I8 J9 v3_10 hn; omega
    | succ n9 ih2 =>
      intro I8 J9 v3_10 hn hI8 FI8 FJ9 KLT_I8 KTK_I8 KRS_I8 KRC_I8 m_10
      obtain ⟨ha1_10, ha2_10, hv3_10, e0_10, e1_10, e2_10, e3_10⟩ := m_10
      have t11 := gc_TK_mo KTK_I8
      have f12 := (show 0 ≤ I8 23 1 ∧ I8 23 1 ≤ 1000 from gc_in hI8 R_23 rfl rfl)
      have f13 := (show 0 ≤ I8 23 5 ∧ I8 23 5 ≤ 1000 from gc_in hI8 R_23 rfl rfl)
      have f14 := (show 0 ≤ I8 23 6 ∧ I8 23 6 ≤ 1001 from gc_in hI8 R_23 rfl rfl)
      have f15 := (show 0 ≤ I8 23 7 ∧ I8 23 7 ≤ 125 from gc_in hI8 R_23 rfl rfl)
      have f16 := (show 0 ≤ I8 1 17 ∧ I8 1 17 ≤ 12000 from gc_in hI8 R_1 rfl rfl)
      have f17 := (show (-1) ≤ I8 39 2 ∧ I8 39 2 ≤ 999999 from gc_in hI8 R_39 rfl rfl)
      have L41 : ((5 ≤ a1 ∧ a1 ≤ 6) ∧ (7 ≤ a2 ∧ a2 ≤ 16) ∧ (0 ≤ v3_10 ∧ v3_10 ≤ 3) ∧ (I8 23 1 = I 23 1) ∧ (I 23 5 ≤ I8 23 5) ∧ (B ≤ 1280 ∧ I8 1 17 + I8 23 1 ≤ B + I8 23 5) ∧ (I8 39 2 = (t : Int))) → gv_X (gc_E6 ws0 tb 4 (yX6_readSide, cX6_readSide, 4, (some .boolean)) kX6_readSide) (gv_Q cX6_readSide (some .boolean) sh (fun r h' => (∃ (I' : gr_I) (J' : gr_J), h' = gc_h sh I' J' A ∧ gc_Inv ro I' ∧ (∀ q j : Nat, ((q = 39 ∧ j = 3) ∨ (q = 39 ∧ j = 4) ∨ (q = 23 ∧ j = 5) ∨ (q = 23 ∧ j = 6) ∨ (q = 23 ∧ j = 7) ∨ (q = 23 ∧ j = 8) ∨ (q = 1 ∧ j = 17) ∨ (q = 1 ∧ j = 18) ∨ q = 20 ∨ q = 41) ∨ I' q j = I q j) ∧ (∀ q j : Nat, ((q = 23 ∧ j = 9)) ∨ J' q j = J q j) ∧ gc_LT I' ∧ gc_TK I' ∧ gc_row 41 25 gc_fS I' ∧ gc_RC I' ∧ (∃ z : Int, r = some (.inl z) ∧ 0 ≤ z ∧ z ≤ 1 ∧ (I' 23 1 = I 23 1) ∧ (I 23 5 ≤ I' 23 5) ∧ (B ≤ 1280 ∧ I' 1 17 + I' 23 1 ≤ B + I' 23 5))))) (41, [(0, .inr (.inr (some 39))), (1, .inl a1), (2, .inl a2), (3, .inl v3_10)], [], sh, gc_h sh I8 J9 A) := by
        intro m_18
        obtain ⟨ha1_18, ha2_18, hv3_10_18, e0_18, e1_18, e2_18, e3_18⟩ := m_18
        have t19 := gc_TK_mo KTK_I8
        have f20 := (show 0 ≤ I8 23 1 ∧ I8 23 1 ≤ 1000 from gc_in hI8 R_23 rfl rfl)
        have f21 := (show 0 ≤ I8 23 5 ∧ I8 23 5 ≤ 1000 from gc_in hI8 R_23 rfl rfl)
        have f22 := (show 0 ≤ I8 23 6 ∧ I8 23 6 ≤ 1001 from gc_in hI8 R_23 rfl rfl)
        have f23 := (show 0 ≤ I8 23 7 ∧ I8 23 7 ≤ 125 from gc_in hI8 R_23 rfl rfl)
        have f24 := (show 0 ≤ I8 1 17 ∧ I8 1 17 ≤ 12000 from gc_in hI8 R_1 rfl rfl)
        have f25 := (show (-1) ≤ I8 39 2 ∧ I8 39 2 ≤ 999999 from gc_in hI8 R_39 rfl rfl)
        refine gv_run 1 true hD (pc' := 42) (lv' := [(0, .inr (.inr (some 39))), (1, .inl a1), (2, .inl a2), (3, .inl v3_10)]) (st' := [.inr (.inr (some 39))]) (h' := gc_h sh I8 J9 A) (C := (True ∧ True)) rfl ⟨trivial, trivial⟩ ?_
        refine gv_get hD rfl rfl S_39 ⟨by decide, B_39⟩ (gc_hA S_39 rfl A_39_10) ?_
        show gv_X _ _ (45, [(0, .inr (.inr (some 39))), (1, .inl a1), (2, .inl a2), (3, .inl v3_10)], [.inr (.inr (some 41))], sh, gc_h sh I8 J9 A)
        refine gv_run 1 true hD (pc' := 46) (lv' := [(0, .inr (.inr (some 39))), (1, .inl a1), (2, .inl a2), (3, .inl v3_10)]) (st' := [.inl a1, .inr (.inr (some 41))]) (h' := gc_h sh I8 J9 A) (C := (True ∧ True)) rfl ⟨trivial, trivial⟩ ?_
        have t26 := gc_fS_ct (j := Int.toNat a1) KRS_I8 (by omega)
        have f27 := (show (-2147483648) ≤ I8 41 (Int.toNat a1) ∧ I8 41 (Int.toNat a1) ≤ 2147483647 from gc_in hI8 R_41 rfl rfl)
        refine gv_iald hD rfl S_41 rfl ⟨by decide, B_41⟩ ⟨by omega, by omega⟩ (gc_iI S_41 rfl) ?_
        show gv_X _ _ (47, [(0, .inr (.inr (some 39))), (1, .inl a1), (2, .inl a2), (3, .inl v3_10)], [.inl (I8 41 (Int.toNat a1))], sh, gc_h sh I8 J9 A)
        refine gv_run 1 true hD (pc' := 48) (lv' := [(0, .inr (.inr (some 39))), (1, .inl a1), (2, .inl a2), (3, .inl v3_10)]) (st' := [.inl 3, .inl (I8 41 (Int.toNat a1))]) (h' := gc_h sh I8 J9 A) (C := (True ∧ True)) rfl ⟨trivial, trivial⟩ ?_
        refine gv_icmp_ne (t := 64) hD rfl rfl ⟨⟨by omega, by omega⟩, ⟨by omega, by omega⟩⟩ (fun c28 => ?_) (fun c28 => ?_)
        · show gv_X _ _ (64, [(0, .inr (.inr (some 39))), (1, .inl a1), (2, .inl a2), (3, .inl v3_10)], [], sh, gc_h sh I8 J9 A)
          refine gv_run 4 true hD (pc' := 68) (lv' := [(0, .inr (.inr (some 39))), (1, .inl a1), (2, .inl a2), (3, .inl v3_10)]) (st' := [.inr (.inr (some 39)), .inl 3, .inl a2, .inr (.inr (some 39))]) (h' := gc_h sh I8 J9 A) (C := ((((True ∧ True) ∧ True) ∧ True) ∧ True)) rfl ⟨⟨⟨⟨trivial, trivial⟩, trivial⟩, trivial⟩, trivial⟩ ?_
          refine gv_get hD rfl rfl S_39 ⟨by decide, B_39⟩ (gc_hA S_39 rfl A_39_10) ?_
          show gv_X _ _ (71, [(0, .inr (.inr (some 39))), (1, .inl a1), (2, .inl a2), (3, .inl v3_10)], [.inr (.inr (some 41)), .inl 3, .inl a2, .inr (.inr (some 39))], sh, gc_h sh I8 J9 A)
          refine gv_run 1 true hD (pc' := 72) (lv' := [(0, .inr (.inr (some 39))), (1, .inl a1), (2, .inl a2), (3, .inl v3_10)]) (st' := [.inl a1, .inr (.inr (some 41)), .inl 3, .inl a2, .inr (.inr (some 39))]) (h' := gc_h sh I8 J9 A) (C := (True ∧ True)) rfl ⟨trivial, trivial⟩ ?_
          have t29 := gc_fS_ct (j := Int.toNat a1) KRS_I8 (by omega)
          have f30 := (show (-2147483648) ≤ I8 41 (Int.toNat a1) ∧ I8 41 (Int.toNat a1) ≤ 2147483647 from gc_in hI8 R_41 rfl rfl)
          refine gv_iald hD rfl S_41 rfl ⟨by decide, B_41⟩ ⟨by omega, by omega⟩ (gc_iI S_41 rfl) ?_
          show gv_X _ _ (73, [(0, .inr (.inr (some 39))), (1, .inl a1), (2, .inl a2), (3, .inl v3_10)], [.inl (I8 41 (Int.toNat a1)), .inl 3, .inl a2, .inr (.inr (some 39))], sh, gc_h sh I8 J9 A)
          refine gv_run 2 true hD (pc' := 75) (lv' := [(0, .inr (.inr (some 39))), (1, .inl a1), (2, .inl a2), (3, .inl v3_10)]) (st' := [.inl (a2 + (3 * (I8 41 (Int.toNat a1)))), .inr (.inr (some 39))]) (h' := gc_h sh I8 J9 A) (C := ((True ∧ True) ∧ True)) rfl ⟨⟨trivial, trivial⟩, trivial⟩ ?_
          obtain ⟨r31, h31, E31, P31⟩ := d_X6_readContext (ws0 := ws0) (tb := tb) hws htb sh ro I8 J9 A hI8  t B ((a2 + (3 * (I8 41 (Int.toNat a1))))) hb  h_t G_t  ⟨by omega, by omega⟩ (by omega) (by omega) (by omega) KLT_I8 KTK_I8 KRS_I8 KRC_I8
          obtain ⟨I32, J33, rfl, hI32, g31, k31, KLT_I32, KTK_I32, KRS_I32, KRC_I32, ⟨z31, rfl, q31⟩⟩ := P31
          have FI32 := gc_frc (W := fun q j => (q = 39 ∧ j = 3) ∨ (q = 39 ∧ j = 4) ∨ (q = 23 ∧ j = 5) ∨ (q = 23 ∧ j = 6) ∨ (q = 23 ∧ j = 7) ∨ (q = 23 ∧ j = 8) ∨ (q = 1 ∧ j = 17) ∨ (q = 1 ∧ j = 18) ∨ q = 20 ∨ q = 41) (V := fun q j => (q = 39 ∧ j = 3) ∨ (q = 39 ∧ j = 4) ∨ (q = 23 ∧ j = 5) ∨ (q = 23 ∧ j = 6) ∨ (q = 23 ∧ j = 7) ∨ (q = 23 ∧ j = 8) ∨ (q = 1 ∧ j = 17) ∨ (q = 1 ∧ j = 18) ∨ q = 20 ∨ (q = 41 ∧ j = (Int.toNat ((a2 + (3 * (I8 41 (Int.toNat a1))))))) ∨ (q = 41 ∧ j = (Int.toNat (((a2 + (3 * (I8 41 (Int.toNat a1))))) + 1))) ∨ (q = 41 ∧ j = (Int.toNat (((a2 + (3 * (I8 41 (Int.toNat a1))))) + 2)))) FI8 (fun q j h => (h.elim (fun h => (Or.inl h)) (fun h => (h.elim (fun h => (Or.inr (Or.inl h))) (fun h => (h.elim (fun h => (Or.inr (Or.inr (Or.inl h)))) (fun h => (h.elim (fun h => (Or.inr (Or.inr (Or.inr (Or.inl h))))) (fun h => (h.elim (fun h => (Or.inr (Or.inr (Or.inr (Or.inr (Or.inl h)))))) (fun h => (h.elim (fun h => (Or.inr (Or.inr (Or.inr (Or.inr (Or.inr (Or.inl h))))))) (fun h => (h.elim (fun h => (Or.inr (Or.inr (Or.inr (Or.inr (Or.inr (Or.inr (Or.inl h)))))))) (fun h => (h.elim (fun h => (Or.inr (Or.inr (Or.inr (Or.inr (Or.inr (Or.inr (Or.inr (Or.inl h))))))))) (fun h => (h.elim (fun h => (Or.inr (Or.inr (Or.inr (Or.inr (Or.inr (Or.inr (Or.inr (Or.inr (Or.inl h)))))))))) (fun h => (h.elim (fun h => (Or.inr (Or.inr (Or.inr (Or.inr (Or.inr (Or.inr (Or.inr (Or.inr (Or.inr h.1)))))))))) (fun h => (h.elim (fun h => (Or.inr (Or.inr (Or.inr (Or.inr (Or.inr (Or.inr (Or.inr (Or.inr (Or.inr h.1)))))))))) (fun h => (Or.inr (Or.inr (Or.inr (Or.inr (Or.inr (Or.inr (Or.inr (Or.inr (Or.inr h.1)))))))))))))))))))))))))))))))) g31
          have FJ33 := gc_frc (W := fun q j => (q = 23 ∧ j = 9)) (V := fun q j => (q = 23 ∧ j = 9)) FJ9 (fun q j h => h) k31
          have t34 := (g31 23 1).resolve_left (fun h => h.elim (fun h => absurd h.2 (by decide)) (fun h => h.elim (fun h => absurd h.2 (by decide)) (fun h => h.elim (fun h => absurd h.2 (by decide)) (fun h => h.elim (fun h => absurd h.2 (by decide)) (fun h => h.elim (fun h => absurd h.2 (by decide)) (fun h => h.elim (fun h => absurd h.2 (by decide)) (fun h => h.elim (fun h => absurd h.2 (by decide)) (fun h => h.elim (fun h => absurd h.2 (by decide)) (fun h => h.elim (fun h => absurd h (by decide)) (fun h => h.elim (fun h => absurd h.1 (by decide)) (fun h => h.elim (fun h => absurd h.1 (by decide)) (fun h => absurd h.1 (by decide)))))))))))))
          have t35 := (g31 39 2).resolve_left (fun h => h.elim (fun h => absurd h.2 (by decide)) (fun h => h.elim (fun h => absurd h.2 (by decide)) (fun h => h.elim (fun h => absurd h.2 (by decide)) (fun h => h.elim (fun h => absurd h.2 (by decide)) (fun h => h.elim (fun h => absurd h.2 (by decide)) (fun h => h.elim (fun h => absurd h.2 (by decide)) (fun h => h.elim (fun h => absurd h.2 (by decide)) (fun h => h.elim (fun h => absurd h.2 (by decide)) (fun h => h.elim (fun h => absurd h (by decide)) (fun h => h.elim (fun h => absurd h.1 (by decide)) (fun h => h.elim (fun h => absurd h.1 (by decide)) (fun h => absurd h.1 (by decide)))))))))))))
          have t36 := (g31 41 (Int.toNat a1)).resolve_left (by omega)
          have f37 := (show 0 ≤ I32 23 5 ∧ I32 23 5 ≤ 1000 from gc_in hI32 R_23 rfl rfl)
          have f38 := (show 0 ≤ I32 23 6 ∧ I32 23 6 ≤ 1001 from gc_in hI32 R_23 rfl rfl)
          have f39 := (show 0 ≤ I32 23 7 ∧ I32 23 7 ≤ 125 from gc_in hI32 R_23 rfl rfl)
          have f40 := (show 0 ≤ I32 1 17 ∧ I32 1 17 ≤ 12000 from gc_in hI32 R_1 rfl rfl)
          have t41 := gc_TK_mo KTK_I32
          refine gv_callV hD rfl (As := [.inl (a2 + (3 * (I8 41 (Int.toNat a1))))]) (st := []) rfl B_39 S_39 rfl (gc_lV6 hws rfl) (Nat.le_of_ble_eq_true rfl) (gz_Ev_mono (d := 4) (by decide) E31) ?_
          show gv_X _ _ (78, [(0, .inr (.inr (some 39))), (1, .inl a1), (2, .inl a2), (3, .inl v3_10)], [.inl z31], sh, gc_h sh I32 J33 A)
          refine gv_if_ne (t := 83) hD rfl rfl ⟨by omega, by omega⟩ (fun c42 => ?_) (fun c42 => ?_)
          · show gv_X _ _ (83, [(0, .inr (.inr (some 39))), (1, .inl a1), (2, .inl a2), (3, .inl v3_10)], [], sh, gc_h sh I32 J33 A)
            refine gv_run 1 true hD (pc' := 84) (lv' := [(0, .inr (.inr (some 39))), (1, .inl a1), (2, .inl a2), (3, .inl v3_10)]) (st' := [.inr (.inr (some 39))]) (h' := gc_h sh I32 J33 A) (C := (True ∧ True)) rfl ⟨trivial, trivial⟩ ?_
            refine gv_get hD rfl rfl S_39 ⟨by decide, B_39⟩ (gc_hA S_39 rfl A_39_10) ?_
            show gv_X _ _ (87, [(0, .inr (.inr (some 39))), (1, .inl a1), (2, .inl a2), (3, .inl v3_10)], [.inr (.inr (some 41))], sh, gc_h sh I32 J33 A)
            refine gv_run 2 true hD (pc' := 89) (lv' := [(0, .inr (.inr (some 39))), (1, .inl a1), (2, .inl a2), (3, .inl v3_10)]) (st' := [.inl a1, .inr (.inr (some 41)), .inl a1, .inr (.inr (some 41))]) (h' := gc_h sh I32 J33 A) (C := ((True ∧ True) ∧ True)) rfl ⟨⟨trivial, trivial⟩, trivial⟩ ?_
            have t43 := gc_fS_ct (j := Int.toNat a1) KRS_I32 (by omega)
            have f44 := (show (-2147483648) ≤ I32 41 (Int.toNat a1) ∧ I32 41 (Int.toNat a1) ≤ 2147483647 from gc_in hI32 R_41 rfl rfl)
            refine gv_iald hD rfl S_41 rfl ⟨by decide, B_41⟩ ⟨by omega, by omega⟩ (gc_iI S_41 rfl) ?_
            show gv_X _ _ (90, [(0, .inr (.inr (some 39))), (1, .inl a1), (2, .inl a2), (3, .inl v3_10)], [.inl (I32 41 (Int.toNat a1)), .inl a1, .inr (.inr (some 41))], sh, gc_h sh I32 J33 A)
            refine gv_run 2 true hD (pc' := 92) (lv' := [(0, .inr (.inr (some 39))), (1, .inl a1), (2, .inl a2), (3, .inl v3_10)]) (st' := [.inl ((I32 41 (Int.toNat a1)) + 1), .inl a1, .inr (.inr (some 41))]) (h' := gc_h sh I32 J33 A) (C := ((True ∧ True) ∧ True)) rfl ⟨⟨trivial, trivial⟩, trivial⟩ ?_
            refine gv_iast hD rfl S_41 ⟨by decide, B_41⟩ ⟨by omega, by omega⟩ ?_
            refine gc_st hI32 S_41 rfl R_41 (lo := (-2147483648)) (hi := 2147483647) rfl rfl (by omega) (by omega) (fun I45 hI45 q46 p46 => ?_)
            have FI45 := gc_frs (W := fun q j => (q = 39 ∧ j = 3) ∨ (q = 39 ∧ j = 4) ∨ (q = 23 ∧ j = 5) ∨ (q = 23 ∧ j = 6) ∨ (q = 23 ∧ j = 7) ∨ (q = 23 ∧ j = 8) ∨ (q = 1 ∧ j = 17) ∨ (q = 1 ∧ j = 18) ∨ q = 20 ∨ q = 41) FI32 (Or.inr (Or.inr (Or.inr (Or.inr (Or.inr (Or.inr (Or.inr (Or.inr (Or.inr rfl))))))))) p46
            have t47 := p46 23 1 (fun h => absurd h.1 (by decide))
            have t48 := p46 23 5 (fun h => absurd h.1 (by decide))
            have t49 := p46 23 6 (fun h => absurd h.1 (by decide))
            have t50 := p46 23 7 (fun h => absurd h.1 (by decide))
            have t51 := p46 1 17 (fun h => absurd h.1 (by decide))
            have t52 := p46 39 2 (fun h => absurd h.1 (by decide))
            have KLT_I45 := gc_LT_fr KLT_I32 (p46 23 5 (fun h => absurd h.1 (by decide))) (p46 23 6 (fun h => absurd h.1 (by decide))) (p46 23 7 (fun h => absurd h.1 (by decide))) (fun k => p46 24 k (fun h => absurd h.1 (by decide)))
            have KTK_I45 := gc_TK_fr KTK_I32 (p46 23 1 (fun h => absurd h.1 (by decide))) (p46 23 5 (fun h => absurd h.1 (by decide))) (p46 23 6 (fun h => absurd h.1 (by decide))) (p46 23 7 (fun h => absurd h.1 (by decide)))
            have KRS_I45 := gc_row_st KRS_I32 p46 q46 (by unfold gc_fS; omega)
            have KRC_I45 : gc_RC I45 := gc_RC_st KRC_I32 p46 (by omega)
            show gv_X _ _ (93, [(0, .inr (.inr (some 39))), (1, .inl a1), (2, .inl a2), (3, .inl v3_10)], [], sh, gc_h sh I45 J33 A)
            refine gv_run 2 true hD (pc' := 2) (lv' := [(3, .inl (v3_10 + 1)), (0, .inr (.inr (some 39))), (1, .inl a1), (2, .inl a2)]) (st' := []) (h' := gc_h sh I45 J33 A) (C := ((True ∧ True) ∧ True)) rfl ⟨⟨trivial, trivial⟩, trivial⟩ ?_
            refine gv_pick [1, 2, 3, 0] rfl ?_
            exact ih2 I45 J33 (v3_10 + 1) (by omega) hI45 FI45 FJ33 KLT_I45 KTK_I45 KRS_I45 KRC_I45 (by omega)
          · show gv_X _ _ (81, [(0, .inr (.inr (some 39))), (1, .inl a1), (2, .inl a2), (3, .inl v3_10)], [], sh, gc_h sh I32 J33 A)
            refine gv_run 1 true hD (pc' := 82) (lv' := [(0, .inr (.inr (some 39))), (1, .inl a1), (2, .inl a2), (3, .inl v3_10)]) (st' := [.inl 0]) (h' := gc_h sh I32 J33 A) (C := (True ∧ True)) rfl ⟨trivial, trivial⟩ ?_
            exact gv_zret hD rfl (by omega) ⟨I32, J33, rfl, hI32, FI32, FJ33, KLT_I32, KTK_I32, KRS_I32, KRC_I32, ⟨_, rfl, by omega⟩⟩
        · show gv_X _ _ (51, [(0, .inr (.inr (some 39))), (1, .inl a1), (2, .inl a2), (3, .inl v3_10)], [], sh, gc_h sh I8 J9 A)
          refine gv_run 3 true hD (pc' := 54) (lv' := [(0, .inr (.inr (some 39))), (1, .inl a1), (2, .inl a2), (3, .inl v3_10)]) (st' := [.inr (.inr (some 39)), .inl 5, .inr (.inr (some 39))]) (h' := gc_h sh I8 J9 A) (C := (((True ∧ True) ∧ True) ∧ True)) rfl ⟨⟨⟨trivial, trivial⟩, trivial⟩, trivial⟩ ?_
          refine gv_get hD rfl rfl S_39 ⟨by decide, B_39⟩ (gc_hA S_39 rfl A_39_1) ?_
          show gv_X _ _ (57, [(0, .inr (.inr (some 39))), (1, .inl a1), (2, .inl a2), (3, .inl v3_10)], [.inr (.inr (some 23)), .inl 5, .inr (.inr (some 39))], sh, gc_h sh I8 J9 A)
          have f53 := (show 0 ≤ I8 23 5 ∧ I8 23 5 ≤ 1000 from gc_in hI8 R_23 rfl rfl)
          refine gv_get hD rfl rfl S_23 ⟨by decide, B_23⟩ (gc_hI S_23 rfl) ?_
          show gv_X _ _ (60, [(0, .inr (.inr (some 39))), (1, .inl a1), (2, .inl a2), (3, .inl v3_10)], [.inl (I8 23 5), .inl 5, .inr (.inr (some 39))], sh, gc_h sh I8 J9 A)
          obtain ⟨r54, h54, E54, P54⟩ := d_X6_wrong (ws0 := ws0) (tb := tb) hws htb sh ro I8 J9 A hI8  5 (I8 23 5) hb   ⟨by omega, by omega⟩ ⟨by omega, by omega⟩  
          obtain ⟨I55, J56, rfl, hI55, g54, k54, ⟨z54, rfl, q54⟩⟩ := P54
          have FI55 := gc_frc (W := fun q j => (q = 39 ∧ j = 3) ∨ (q = 39 ∧ j = 4) ∨ (q = 23 ∧ j = 5) ∨ (q = 23 ∧ j = 6) ∨ (q = 23 ∧ j = 7) ∨ (q = 23 ∧ j = 8) ∨ (q = 1 ∧ j = 17) ∨ (q = 1 ∧ j = 18) ∨ q = 20 ∨ q = 41) (V := fun q j => (q = 39 ∧ j = 3) ∨ (q = 39 ∧ j = 4)) FI8 (fun q j h => (h.elim (fun h => (Or.inl h)) (fun h => (Or.inr (Or.inl h))))) g54
          have t57 := (g54 23 1).resolve_left (fun h => h.elim (fun h => absurd h.2 (by decide)) (fun h => absurd h.2 (by decide)))
          have t58 := (g54 23 5).resolve_left (fun h => h.elim (fun h => absurd h.2 (by decide)) (fun h => absurd h.2 (by decide)))
          have t59 := (g54 23 6).resolve_left (fun h => h.elim (fun h => absurd h.2 (by decide)) (fun h => absurd h.2 (by decide)))
          have t60 := (g54 23 7).resolve_left (fun h => h.elim (fun h => absurd h.2 (by decide)) (fun h => absurd h.2 (by decide)))
          have t61 := (g54 1 17).resolve_left (fun h => h.elim (fun h => absurd h.2 (by decide)) (fun h => absurd h.2 (by decide)))
          have t62 := (g54 39 2).resolve_left (fun h => h.elim (fun h => absurd h.2 (by decide)) (fun h => absurd h.2 (by decide)))
          have t63 := (g54 41 (Int.toNat a1)).resolve_left (fun h => h.elim (fun h => absurd h.1 (by decide)) (fun h => absurd h.1 (by decide)))
          obtain rfl : J9 = J56 := funext fun q => funext fun j => ((k54 q j).resolve_left id).symm
          have KLT_I55 := gc_LT_fr KLT_I8 ((g54 23 5).resolve_left (fun h => h.elim (fun h => absurd h.2 (by decide)) (fun h => absurd h.2 (by decide)))) ((g54 23 6).resolve_left (fun h => h.elim (fun h => absurd h.2 (by decide)) (fun h => absurd h.2 (by decide)))) ((g54 23 7).resolve_left (fun h => h.elim (fun h => absurd h.2 (by decide)) (fun h => absurd h.2 (by decide)))) (fun k => (g54 24 k).resolve_left (fun h => h.elim (fun h => absurd h.1 (by decide)) (fun h => absurd h.1 (by decide))))
          have KTK_I55 := gc_TK_fr KTK_I8 ((g54 23 1).resolve_left (fun h => h.elim (fun h => absurd h.2 (by decide)) (fun h => absurd h.2 (by decide)))) ((g54 23 5).resolve_left (fun h => h.elim (fun h => absurd h.2 (by decide)) (fun h => absurd h.2 (by decide)))) ((g54 23 6).resolve_left (fun h => h.elim (fun h => absurd h.2 (by decide)) (fun h => absurd h.2 (by decide)))) ((g54 23 7).resolve_left (fun h => h.elim (fun h => absurd h.2 (by decide)) (fun h => absurd h.2 (by decide))))
          have KRS_I55 := gc_row_fr KRS_I8 (fun k => (g54 41 k).resolve_left (fun h => h.elim (fun h => absurd h.1 (by decide)) (fun h => absurd h.1 (by decide))))
          have KRC_I55 := gc_RC_fr KRC_I8 (fun k => (g54 41 k).resolve_left (fun h => h.elim (fun h => absurd h.1 (by decide)) (fun h => absurd h.1 (by decide))))
          refine gv_callV hD rfl (As := [.inl 5, .inl (I8 23 5)]) (st := []) rfl B_39 S_39 rfl (gc_lV6 hws rfl) (Nat.le_of_ble_eq_true rfl) (gz_Ev_mono (d := 1) (by decide) E54) ?_
          show gv_X _ _ (63, [(0, .inr (.inr (some 39))), (1, .inl a1), (2, .inl a2), (3, .inl v3_10)], [.inl z54], sh, gc_h sh I55 J9 A)
          exact gv_zret hD rfl (by omega) ⟨I55, J9, rfl, hI55, FI55, FJ9, KLT_I55, KTK_I55, KRS_I55, KRC_I55, ⟨_, rfl, by omega⟩⟩
      have L99 : ((I8 23 1 = I 23 1) ∧ (I 23 5 ≤ I8 23 5) ∧ (B ≤ 1280 ∧ I8 1 17 + I8 23 1 ≤ B + I8 23 5) ∧ (I8 39 2 = (t : Int))) → gv_X (gc_E6 ws0 tb 4 (yX6_readSide, cX6_readSide, 4, (some .boolean)) kX6_readSide) (gv_Q cX6_readSide (some .boolean) sh (fun r h' => (∃ (I' : gr_I) (J' : gr_J), h' = gc_h sh I' J' A ∧ gc_Inv ro I' ∧ (∀ q j : Nat, ((q = 39 ∧ j = 3) ∨ (q = 39 ∧ j = 4) ∨ (q = 23 ∧ j = 5) ∨ (q = 23 ∧ j = 6) ∨ (q = 23 ∧ j = 7) ∨ (q = 23 ∧ j = 8) ∨ (q = 1 ∧ j = 17) ∨ (q = 1 ∧ j = 18) ∨ q = 20 ∨ q = 41) ∨ I' q j = I q j) ∧ (∀ q j : Nat, ((q = 23 ∧ j = 9)) ∨ J' q j = J q j) ∧ gc_LT I' ∧ gc_TK I' ∧ gc_row 41 25 gc_fS I' ∧ gc_RC I' ∧ (∃ z : Int, r = some (.inl z) ∧ 0 ≤ z ∧ z ≤ 1 ∧ (I' 23 1 = I 23 1) ∧ (I 23 5 ≤ I' 23 5) ∧ (B ≤ 1280 ∧ I' 1 17 + I' 23 1 ≤ B + I' 23 5))))) (99, [], [], sh, gc_h sh I8 J9 A) := by
        intro m_64
        obtain ⟨e0_64, e1_64, e2_64, e3_64⟩ := m_64
        have t65 := gc_TK_mo KTK_I8
        have f66 := (show 0 ≤ I8 23 1 ∧ I8 23 1 ≤ 1000 from gc_in hI8 R_23 rfl rfl)
        have f67 := (show 0 ≤ I8 23 5 ∧ I8 23 5 ≤ 1000 from gc_in hI8 R_23 rfl rfl)
        have f68 := (show 0 ≤ I8 23 6 ∧ I8 23 6 ≤ 1001 from gc_in hI8 R_23 rfl rfl)
        have f69 := (show 0 ≤ I8 23 7 ∧ I8 23 7 ≤ 125 from gc_in hI8 R_23 rfl rfl)
        have f70 := (show 0 ≤ I8 1 17 ∧ I8 1 17 ≤ 12000 from gc_in hI8 R_1 rfl rfl)
        have f71 := (show (-1) ≤ I8 39 2 ∧ I8 39 2 ≤ 999999 from gc_in hI8 R_39 rfl rfl)
        refine gv_run 1 true hD (pc' := 100) (lv' := []) (st' := [.inl 1]) (h' := gc_h sh I8 J9 A) (C := (True ∧ True)) rfl ⟨trivial, trivial⟩ ?_
        exact gv_zret hD rfl (by omega) ⟨I8, J9, rfl, hI8, FI8, FJ9, KLT_I8, KTK_I8, KRS_I8, KRC_I8, ⟨_, rfl, by omega⟩⟩
      refine gv_run 2 true hD (pc' := 4) (lv' := [(0, .inr (.inr (some 39))), (1, .inl a1), (2, .inl a2), (3, .inl v3_10)]) (st' := [.inl 3, .inl v3_10]) (h' := gc_h sh I8 J9 A) (C := ((True ∧ True) ∧ True)) rfl ⟨⟨trivial, trivial⟩, trivial⟩ ?_
      refine gv_icmp_gt (t := 99) hD rfl rfl ⟨⟨by omega, by omega⟩, ⟨by omega, by omega⟩⟩ (fun c72 => ?_) (fun c72 => ?_)
      · show gv_X _ _ (99, [(0, .inr (.inr (some 39))), (1, .inl a1), (2, .inl a2), (3, .inl v3_10)], [], sh, gc_h sh I8 J9 A)
        refine gv_pick [] rfl ?_
        exact L99 (by omega)
      · show gv_X _ _ (7, [(0, .inr (.inr (some 39))), (1, .inl a1), (2, .inl a2), (3, .inl v3_10)], [], sh, gc_h sh I8 J9 A)
        refine gv_run 1 true hD (pc' := 8) (lv' := [(0, .inr (.inr (some 39))), (1, .inl a1), (2, .inl a2), (3, .inl v3_10)]) (st' := [.inr (.inr (some 39))]) (h' := gc_h sh I8 J9 A) (C := (True ∧ True)) rfl ⟨trivial, trivial⟩ ?_
        refine gv_get hD rfl rfl S_39 ⟨by decide, B_39⟩ (gc_hA S_39 rfl A_39_1) ?_
        show gv_X _ _ (11, [(0, .inr (.inr (some 39))), (1, .inl a1), (2, .inl a2), (3, .inl v3_10)], [.inr (.inr (some 23))], sh, gc_h sh I8 J9 A)
        have f73 := (show 0 ≤ I8 23 7 ∧ I8 23 7 ≤ 125 from gc_in hI8 R_23 rfl rfl)
        refine gv_get hD rfl rfl S_23 ⟨by decide, B_23⟩ (gc_hI S_23 rfl) ?_
        show gv_X _ _ (14, [(0, .inr (.inr (some 39))), (1, .inl a1), (2, .inl a2), (3, .inl v3_10)], [.inl (I8 23 7)], sh, gc_h sh I8 J9 A)
        refine gv_run 1 true hD (pc' := 15) (lv' := [(0, .inr (.inr (some 39))), (1, .inl a1), (2, .inl a2), (3, .inl v3_10)]) (st' := [.inl 1, .inl (I8 23 7)]) (h' := gc_h sh I8 J9 A) (C := (True ∧ True)) rfl ⟨trivial, trivial⟩ ?_
        refine gv_icmp_eq (t := 41) hD rfl rfl ⟨⟨by omega, by omega⟩, ⟨by omega, by omega⟩⟩ (fun c74 => ?_) (fun c74 => ?_)
        · show gv_X _ _ (41, [(0, .inr (.inr (some 39))), (1, .inl a1), (2, .inl a2), (3, .inl v3_10)], [], sh, gc_h sh I8 J9 A)
          exact L41 (by omega)
        · show gv_X _ _ (18, [(0, .inr (.inr (some 39))), (1, .inl a1), (2, .inl a2), (3, .inl v3_10)], [], sh, gc_h sh I8 J9 A)
          refine gv_run 1 true hD (pc' := 19) (lv' := [(0, .inr (.inr (some 39))), (1, .inl a1), (2, .inl a2), (3, .inl v3_10)]) (st' := [.inr (.inr (some 39))]) (h' := gc_h sh I8 J9 A) (C := (True ∧ True)) rfl ⟨trivial, trivial⟩ ?_
          refine gv_get hD rfl rfl S_39 ⟨by decide, B_39⟩ (gc_hA S_39 rfl A_39_1) ?_
          show gv_X _ _ (22, [(0, .inr (.inr (some 39))), (1, .inl a1), (2, .inl a2), (3, .inl v3_10)], [.inr (.inr (some 23))], sh, gc_h sh I8 J9 A)
          have f75 := (show 0 ≤ I8 23 7 ∧ I8 23 7 ≤ 125 from gc_in hI8 R_23 rfl rfl)
          refine gv_get hD rfl rfl S_23 ⟨by decide, B_23⟩ (gc_hI S_23 rfl) ?_
          show gv_X _ _ (25, [(0, .inr (.inr (some 39))), (1, .inl a1), (2, .inl a2), (3, .inl v3_10)], [.inl (I8 23 7)], sh, gc_h sh I8 J9 A)
          refine gv_run 1 true hD (pc' := 26) (lv' := [(0, .inr (.inr (some 39))), (1, .inl a1), (2, .inl a2), (3, .inl v3_10)]) (st' := [.inl 3, .inl (I8 23 7)]) (h' := gc_h sh I8 J9 A) (C := (True ∧ True)) rfl ⟨trivial, trivial⟩ ?_
          refine gv_icmp_eq (t := 41) hD rfl rfl ⟨⟨by omega, by omega⟩, ⟨by omega, by omega⟩⟩ (fun c76 => ?_) (fun c76 => ?_)
          · show gv_X _ _ (41, [(0, .inr (.inr (some 39))), (1, .inl a1), (2, .inl a2), (3, .inl v3_10)], [], sh, gc_h sh I8 J9 A)
            exact L41 (by omega)
          · show gv_X _ _ (29, [(0, .inr (.inr (some 39))), (1, .inl a1), (2, .inl a2), (3, .inl v3_10)], [], sh, gc_h sh I8 J9 A)
            refine gv_run 1 true hD (pc' := 30) (lv' := [(0, .inr (.inr (some 39))), (1, .inl a1), (2, .inl a2), (3, .inl v3_10)]) (st' := [.inr (.inr (some 39))]) (h' := gc_h sh I8 J9 A) (C := (True ∧ True)) rfl ⟨trivial, trivial⟩ ?_
            refine gv_get hD rfl rfl S_39 ⟨by decide, B_39⟩ (gc_hA S_39 rfl A_39_1) ?_
            show gv_X _ _ (33, [(0, .inr (.inr (some 39))), (1, .inl a1), (2, .inl a2), (3, .inl v3_10)], [.inr (.inr (some 23))], sh, gc_h sh I8 J9 A)
            have f77 := (show 0 ≤ I8 23 7 ∧ I8 23 7 ≤ 125 from gc_in hI8 R_23 rfl rfl)
            refine gv_get hD rfl rfl S_23 ⟨by decide, B_23⟩ (gc_hI S_23 rfl) ?_
            show gv_X _ _ (36, [(0, .inr (.inr (some 39))), (1, .inl a1), (2, .inl a2), (3, .inl v3_10)], [.inl (I8 23 7)], sh, gc_h sh I8 J9 A)
            refine gv_run 1 true hD (pc' := 38) (lv' := [(0, .inr (.inr (some 39))), (1, .inl a1), (2, .inl a2), (3, .inl v3_10)]) (st' := [.inl 35, .inl (I8 23 7)]) (h' := gc_h sh I8 J9 A) (C := (True ∧ True)) rfl ⟨trivial, trivial⟩ ?_
            refine gv_icmp_ne (t := 99) hD rfl rfl ⟨⟨by omega, by omega⟩, ⟨by omega, by omega⟩⟩ (fun c78 => ?_) (fun c78 => ?_)
            · show gv_X _ _ (99, [(0, .inr (.inr (some 39))), (1, .inl a1), (2, .inl a2), (3, .inl v3_10)], [], sh, gc_h sh I8 J9 A)
              refine gv_pick [] rfl ?_
              exact L99 (by omega)
            · show gv_X _ _ (41, [(0, .inr (.inr (some 39))), (1, .inl a1), (2, .inl a2), (3, .inl v3_10)], [], sh, gc_h sh I8 J9 A)
              exact L41 (by omega)
  refine gv_run 2 true hD (pc' := 2) (lv' := [(3, .inl 0), (0, .inr (.inr (some 39))), (1, .inl a1), (2, .inl a2)]) (st' := []) (h' := gc_h sh I J A) (C := ((True ∧ True) ∧ True)) rfl ⟨⟨trivial, trivial⟩, trivial⟩ ?_
  refine gv_pick [1, 2, 3, 0] rfl ?_
  exact L2 _ I J 0 (Nat.lt_succ_self _) hI FI FJ KLT_I KTK_I KRS_I KRC_I (by omega)
