set_option maxHeartbeats 4000000 in
set_option maxRecDepth 100000 in
theorem d_X6_readGive {ws0 : List Cond} {tb : String → gz_T} (hws : gc_Ws ws0) (htb : gc_tbs tb) (sh : gz_Sh) (ro : Nat → Nat) (I : gr_I) (J : gr_J) (A : gc_A) (hI : gc_Inv ro I) (t : Nat) (a1 : Nat) (hb : gc_Base sh ro A) (h_a1 : gc_isLin sh ro A a1) (G_a1 : 144 ≤ a1) (h_t : gc_isTongue sh ro A t) (G_t : 144 ≤ t)  (x0 : I 23 5 ≤ I 23 6) (x1 : I 23 7 = 5 ∨ I 23 6 ≤ I 23 1) (x2 : I 23 5 ≤ I 23 1) (x3 : I 23 7 = 4 ∨ (I 23 5 < I 23 6 ∧ I 23 5 < I 23 1)) (x4 : I 23 7 = 3 → 2 ≤ I 23 6 - I 23 5 ∧ I 23 6 - I 23 5 ≤ 14) (x5 : I a1 14 ≤ 5) (x6 : I 39 2 = (t : Int)) (KLT_I : gc_LT I) : ∃ r h', gz_Ev ws0 tb 4 (yX6_readGive, cX6_readGive, 4, (some .boolean)) [.inr (.inr (some 39)), .inr (.inr (some a1))] sh (gc_h sh I J A) r sh h' 0 0 ∧ (∃ (I' : gr_I) (J' : gr_J), h' = gc_h sh I' J' A ∧ gc_Inv ro I' ∧ (∀ q j : Nat, ((q = 39 ∧ j = 3) ∨ (q = 39 ∧ j = 4) ∨ (q = 23 ∧ j = 5) ∨ (q = 23 ∧ j = 6) ∨ (q = 23 ∧ j = 7) ∨ (q = 23 ∧ j = 8) ∨ q = (a1 + 8) ∨ (q = a1 ∧ j = 14)) ∨ I' q j = I q j) ∧ (∀ q j : Nat, ((q = 23 ∧ j = 9)) ∨ J' q j = J q j) ∧ gc_LT I' ∧ (∃ z : Int, r = some (.inl z) ∧ 0 ≤ z ∧ z ≤ 1 ∧ (I' 23 5 ≤ I' 23 6) ∧ (I' 23 7 = 5 ∨ I' 23 6 ≤ I' 23 1) ∧ (I' 23 5 ≤ I' 23 1) ∧ (I' 23 7 = 4 ∨ (I' 23 5 < I' 23 6 ∧ I' 23 5 < I' 23 1)) ∧ (I' 23 7 = 3 → 2 ≤ I' 23 6 - I' 23 5 ∧ I' 23 6 - I' 23 5 ≤ 14) ∧ (I' 23 1 = I 23 1) ∧ (I 23 5 ≤ I' 23 5) ∧ (I' a1 14 ≤ I a1 14 + 1))) := by
  have FI : ∀ q j : Nat, ((q = 39 ∧ j = 3) ∨ (q = 39 ∧ j = 4) ∨ (q = 23 ∧ j = 5) ∨ (q = 23 ∧ j = 6) ∨ (q = 23 ∧ j = 7) ∨ (q = 23 ∧ j = 8) ∨ q = (a1 + 8) ∨ (q = a1 ∧ j = 14)) ∨ I q j = I q j := fun _ _ => Or.inr rfl
  have FJ : ∀ q j : Nat, ((q = 23 ∧ j = 9)) ∨ J q j = J q j := fun _ _ => Or.inr rfl
  have A_39_1 : A 39 1 = some 23 := gc_bA hb rfl
  have B_23 : 23 < 1000000 := by decide
  have B_39 : 39 < 1000000 := by decide
  have R_23 : ro 23 = 3 := gc_bR hb (by decide) rfl
  have R_39 : ro 39 = 42 := gc_bR hb (by decide) rfl
  have S_23 : sh[23]? = some (false, 9, 10) := gc_bS hb rfl
  have S_39 : sh[39]? = some (false, 6, 19) := gc_bS hb rfl
  obtain ⟨S_a1, R_a1, B_a1, A_a1_5, S_a1_1, R_a1_1, B_a1_1, A_a1_6, S_a1_2, R_a1_2, B_a1_2, A_a1_7, S_a1_3, R_a1_3, B_a1_3, A_a1_9, S_a1_4, R_a1_4, B_a1_4, A_a1_10, S_a1_5, R_a1_5, B_a1_5, A_a1_11, S_a1_6, R_a1_6, B_a1_6, A_a1_13, S_a1_7, R_a1_7, B_a1_7, A_a1_15, S_a1_8, R_a1_8, B_a1_8⟩ := id h_a1
  obtain ⟨S_t, R_t, B_t, A_t_0, h_t_1, A_t_1, h_t_3, A_t_2, S_t_5, R_t_5, B_t_5, A_t_3, S_t_6, R_t_6, B_t_6, A_t_4, h_t_7, A_t_5, S_t_9, R_t_9, B_t_9, A_t_7, S_t_10, R_t_10, B_t_10, A_t_8, h_t_11, A_t_9, S_t_13, R_t_13, B_t_13, A_t_10, S_t_14, R_t_14, B_t_14, A_t_12, S_t_15, R_t_15, B_t_15, A_t_14, S_t_16, R_t_16, B_t_16, A_t_15, h_t_17⟩ := id h_t
  obtain ⟨S_t_1, R_t_1, B_t_1, A_t_1_0, S_t_1_1, R_t_1_1, B_t_1_1, Q0_t_1, Q1_t_1, Q2_t_1⟩ := id h_t_1
  obtain ⟨S_t_3, R_t_3, B_t_3, A_t_3_0, S_t_3_1, R_t_3_1, B_t_3_1, Q0_t_3, Q1_t_3, Q2_t_3⟩ := id h_t_3
  obtain ⟨S_t_7, R_t_7, B_t_7, A_t_7_0, S_t_7_1, R_t_7_1, B_t_7_1, Q0_t_7, Q1_t_7, Q2_t_7⟩ := id h_t_7
  obtain ⟨S_t_11, R_t_11, B_t_11, A_t_11_0, S_t_11_1, R_t_11_1, B_t_11_1, Q0_t_11, Q1_t_11, Q2_t_11⟩ := id h_t_11
  obtain ⟨S_t_17, R_t_17, B_t_17, A_t_17_0, S_20, R_20, B_20, A_t_17_1, S_t_17_1, R_t_17_1, B_t_17_1, A_t_17_2, S_t_17_2, R_t_17_2, B_t_17_2, A_t_17_3, S_t_17_3, R_t_17_3, B_t_17_3, A_t_17_4, S_t_17_4, R_t_17_4, B_t_17_4, A_t_17_5, S_t_17_5, R_t_17_5, B_t_17_5, S_t_17_6, R_t_17_6, B_t_17_6, S_t_17_7, R_t_17_7, B_t_17_7⟩ := id h_t_17
  have N1 := gc_dj_LT h_a1 h_t
  have hD : gv_D (gc_E6 ws0 tb 3 (yX6_readGive, cX6_readGive, 4, (some .boolean)) kX6_readGive) := gq_ok oX6_readGive
  refine gc_ev6 (d := 3) (l := kX6_readGive) (Po := fun r h' => (∃ (I' : gr_I) (J' : gr_J), h' = gc_h sh I' J' A ∧ gc_Inv ro I' ∧ (∀ q j : Nat, ((q = 39 ∧ j = 3) ∨ (q = 39 ∧ j = 4) ∨ (q = 23 ∧ j = 5) ∨ (q = 23 ∧ j = 6) ∨ (q = 23 ∧ j = 7) ∨ (q = 23 ∧ j = 8) ∨ q = (a1 + 8) ∨ (q = a1 ∧ j = 14)) ∨ I' q j = I q j) ∧ (∀ q j : Nat, ((q = 23 ∧ j = 9)) ∨ J' q j = J q j) ∧ gc_LT I' ∧ (∃ z : Int, r = some (.inl z) ∧ 0 ≤ z ∧ z ≤ 1 ∧ (I' 23 5 ≤ I' 23 6) ∧ (I' 23 7 = 5 ∨ I' 23 6 ≤ I' 23 1) ∧ (I' 23 5 ≤ I' 23 1) ∧ (I' 23 7 = 4 ∨ (I' 23 5 < I' 23 6 ∧ I' 23 5 < I' 23 1)) ∧ (I' 23 7 = 3 → 2 ≤ I' 23 6 - I' 23 5 ∧ I' 23 6 - I' 23 5 ≤ 14) ∧ (I' 23 1 = I 23 1) ∧ (I 23 5 ≤ I' 23 5) ∧ (I' a1 14 ≤ I a1 14 + 1)))) htb rfl (Nat.le_of_ble_eq_true rfl) ?_
  have f1 := (show 0 ≤ I 23 1 ∧ I 23 1 ≤ 1000 from gc_in hI R_23 rfl rfl)
  have f2 := (show 0 ≤ I 23 5 ∧ I 23 5 ≤ 1000 from gc_in hI R_23 rfl rfl)
  have f3 := (show 0 ≤ I 23 6 ∧ I 23 6 ≤ 1001 from gc_in hI R_23 rfl rfl)
  have f4 := (show 0 ≤ I 23 7 ∧ I 23 7 ≤ 125 from gc_in hI R_23 rfl rfl)
  have f5 := (show 0 ≤ I a1 14 ∧ I a1 14 ≤ 6 from gc_in hI R_a1 rfl rfl)
  have f6 := (show 0 ≤ I 23 8 ∧ I 23 8 ≤ 999999 from gc_in hI R_23 rfl rfl)
  have f7 := (show 0 ≤ I (t + 1) 1 ∧ I (t + 1) 1 ≤ 8 from gc_in hI R_t_1 rfl rfl)
  have f8 := (show 0 ≤ I (t + 3) 1 ∧ I (t + 3) 1 ≤ 48 from gc_in hI R_t_3 rfl rfl)
  have f9 := (show (-1) ≤ I 39 2 ∧ I 39 2 ≤ 999999 from gc_in hI R_39 rfl rfl)
  have L180 : ∀ (I10 : gr_I) (J11 : gr_J) , gc_Inv ro I10 → (∀ q j : Nat, ((q = 39 ∧ j = 3) ∨ (q = 39 ∧ j = 4) ∨ (q = 23 ∧ j = 5) ∨ (q = 23 ∧ j = 6) ∨ (q = 23 ∧ j = 7) ∨ (q = 23 ∧ j = 8) ∨ q = (a1 + 8) ∨ (q = a1 ∧ j = 14)) ∨ I10 q j = I q j) → (∀ q j : Nat, ((q = 23 ∧ j = 9)) ∨ J11 q j = J q j) → gc_LT I10 → ((I10 a1 14 = I a1 14) ∧ (I10 23 7 = 1) ∧ (I10 23 5 ≤ I10 23 6) ∧ (I10 23 7 = 5 ∨ I10 23 6 ≤ I10 23 1) ∧ (I10 23 5 ≤ I10 23 1) ∧ (I10 23 7 = 4 ∨ (I10 23 5 < I10 23 6 ∧ I10 23 5 < I10 23 1)) ∧ (I10 23 7 = 3 → 2 ≤ I10 23 6 - I10 23 5 ∧ I10 23 6 - I10 23 5 ≤ 14) ∧ (I10 23 1 = I 23 1) ∧ (I 23 5 ≤ I10 23 5) ∧ (I10 39 2 = (t : Int))) → gv_X (gc_E6 ws0 tb 3 (yX6_readGive, cX6_readGive, 4, (some .boolean)) kX6_readGive) (gv_Q cX6_readGive (some .boolean) sh (fun r h' => (∃ (I' : gr_I) (J' : gr_J), h' = gc_h sh I' J' A ∧ gc_Inv ro I' ∧ (∀ q j : Nat, ((q = 39 ∧ j = 3) ∨ (q = 39 ∧ j = 4) ∨ (q = 23 ∧ j = 5) ∨ (q = 23 ∧ j = 6) ∨ (q = 23 ∧ j = 7) ∨ (q = 23 ∧ j = 8) ∨ q = (a1 + 8) ∨ (q = a1 ∧ j = 14)) ∨ I' q j = I q j) ∧ (∀ q j : Nat, ((q = 23 ∧ j = 9)) ∨ J' q j = J q j) ∧ gc_LT I' ∧ (∃ z : Int, r = some (.inl z) ∧ 0 ≤ z ∧ z ≤ 1 ∧ (I' 23 5 ≤ I' 23 6) ∧ (I' 23 7 = 5 ∨ I' 23 6 ≤ I' 23 1) ∧ (I' 23 5 ≤ I' 23 1) ∧ (I' 23 7 = 4 ∨ (I' 23 5 < I' 23 6 ∧ I' 23 5 < I' 23 1)) ∧ (I' 23 7 = 3 → 2 ≤ I' 23 6 - I' 23 5 ∧ I' 23 6 - I' 23 5 ≤ 14) ∧ (I' 23 1 = I 23 1) ∧ (I 23 5 ≤ I' 23 5) ∧ (I' a1 14 ≤ I a1 14 + 1))))) (180, [(0, .inr (.inr (some 39))), (1, .inr (.inr (some a1)))], [], sh, gc_h sh I10 J11 A) := by
    intro I10 J11 hI10 FI10 FJ11 KLT_I10 m_12
    clear x0 x1 x2 x3 x4
    obtain ⟨e0_12, e1_12, e2_12, e3_12, e4_12, e5_12, e6_12, e7_12, e8_12, e9_12⟩ := m_12
    have f13 := (show 0 ≤ I10 23 1 ∧ I10 23 1 ≤ 1000 from gc_in hI10 R_23 rfl rfl)
    have f14 := (show 0 ≤ I10 23 5 ∧ I10 23 5 ≤ 1000 from gc_in hI10 R_23 rfl rfl)
    have f15 := (show 0 ≤ I10 23 6 ∧ I10 23 6 ≤ 1001 from gc_in hI10 R_23 rfl rfl)
    have f16 := (show 0 ≤ I10 23 7 ∧ I10 23 7 ≤ 125 from gc_in hI10 R_23 rfl rfl)
    have f17 := (show 0 ≤ I10 a1 14 ∧ I10 a1 14 ≤ 6 from gc_in hI10 R_a1 rfl rfl)
    have f18 := (show 0 ≤ I10 23 8 ∧ I10 23 8 ≤ 999999 from gc_in hI10 R_23 rfl rfl)
    have f19 := (show 0 ≤ I10 (t + 1) 1 ∧ I10 (t + 1) 1 ≤ 8 from gc_in hI10 R_t_1 rfl rfl)
    have f20 := (show 0 ≤ I10 (t + 3) 1 ∧ I10 (t + 3) 1 ≤ 48 from gc_in hI10 R_t_3 rfl rfl)
    have f21 := (show (-1) ≤ I10 39 2 ∧ I10 39 2 ≤ 999999 from gc_in hI10 R_39 rfl rfl)
    refine gv_run 1 true hD (pc' := 181) (lv' := [(0, .inr (.inr (some 39))), (1, .inr (.inr (some a1)))]) (st' := [.inr (.inr (some 39))]) (h' := gc_h sh I10 J11 A) (C := (True ∧ True)) rfl ⟨trivial, trivial⟩ ?_
    refine gv_get hD rfl rfl S_39 ⟨by decide, B_39⟩ (gc_hA S_39 rfl A_39_1) ?_
    show gv_X _ _ (184, [(0, .inr (.inr (some 39))), (1, .inr (.inr (some a1)))], [.inr (.inr (some 23))], sh, gc_h sh I10 J11 A)
    obtain ⟨r22, h22, E22, P22⟩ := d_X9_advance (ws0 := ws0) (tb := tb) hws htb sh ro I10 J11 A hI10 23  (gc_b23 hb)    (by omega) 
    obtain ⟨I23, J24, rfl, hI23, g22, k22, ⟨rfl, q22⟩⟩ := P22
    have FI23 := gc_frc (W := fun q j => (q = 39 ∧ j = 3) ∨ (q = 39 ∧ j = 4) ∨ (q = 23 ∧ j = 5) ∨ (q = 23 ∧ j = 6) ∨ (q = 23 ∧ j = 7) ∨ (q = 23 ∧ j = 8) ∨ q = (a1 + 8) ∨ (q = a1 ∧ j = 14)) (V := fun q j => (q = 23 ∧ j = 5) ∨ (q = 23 ∧ j = 6) ∨ (q = 23 ∧ j = 7) ∨ (q = 23 ∧ j = 8)) FI10 (fun q j h => (h.elim (fun h => (Or.inr (Or.inr (Or.inl h)))) (fun h => (h.elim (fun h => (Or.inr (Or.inr (Or.inr (Or.inl h))))) (fun h => (h.elim (fun h => (Or.inr (Or.inr (Or.inr (Or.inr (Or.inl h)))))) (fun h => (Or.inr (Or.inr (Or.inr (Or.inr (Or.inr (Or.inl h))))))))))))) g22
    have FJ24 := gc_frc (W := fun q j => (q = 23 ∧ j = 9)) (V := fun q j => (q = 23 ∧ j = 9)) FJ11 (fun q j h => h) k22
    have t25 := (g22 23 1).resolve_left (by omega)
    have t26 := (g22 a1 14).resolve_left (by omega)
    have t27 := (g22 (t + 1) 1).resolve_left (by omega)
    have t28 := (g22 (t + 3) 1).resolve_left (by omega)
    have t29 := (g22 39 2).resolve_left (by omega)
    have f30 := (show 0 ≤ I23 23 1 ∧ I23 23 1 ≤ 1000 from gc_in hI23 R_23 rfl rfl)
    have f31 := (show 0 ≤ I23 23 5 ∧ I23 23 5 ≤ 1000 from gc_in hI23 R_23 rfl rfl)
    have f32 := (show 0 ≤ I23 23 6 ∧ I23 23 6 ≤ 1001 from gc_in hI23 R_23 rfl rfl)
    have f33 := (show 0 ≤ I23 23 7 ∧ I23 23 7 ≤ 125 from gc_in hI23 R_23 rfl rfl)
    have f34 := (show 0 ≤ I23 a1 14 ∧ I23 a1 14 ≤ 6 from gc_in hI23 R_a1 rfl rfl)
    have f35 := (show 0 ≤ I23 23 8 ∧ I23 23 8 ≤ 999999 from gc_in hI23 R_23 rfl rfl)
    have f36 := (show 0 ≤ I23 (t + 1) 1 ∧ I23 (t + 1) 1 ≤ 8 from gc_in hI23 R_t_1 rfl rfl)
    have f37 := (show 0 ≤ I23 (t + 3) 1 ∧ I23 (t + 3) 1 ≤ 48 from gc_in hI23 R_t_3 rfl rfl)
    have f38 := (show (-1) ≤ I23 39 2 ∧ I23 39 2 ≤ 999999 from gc_in hI23 R_39 rfl rfl)
    have KLT_I23 : gc_LT I23 := q22.2.2.2.2.2.2.2
    refine gv_callV hD rfl (As := []) (st := []) rfl B_23 S_23 rfl (gc_lV6 hws rfl) (Nat.le_of_ble_eq_true rfl) (gz_Ev_mono (d := 2) (by decide) E22) ?_
    show gv_X _ _ (187, [(0, .inr (.inr (some 39))), (1, .inr (.inr (some a1)))], [], sh, gc_h sh I23 J24 A)
    refine gv_run 2 true hD (pc' := 189) (lv' := [(0, .inr (.inr (some 39))), (1, .inr (.inr (some a1)))]) (st' := [.inr (.inr (some a1)), .inr (.inr (some a1))]) (h' := gc_h sh I23 J24 A) (C := ((True ∧ True) ∧ True)) rfl ⟨⟨trivial, trivial⟩, trivial⟩ ?_
    have f39 := (show 0 ≤ I23 a1 14 ∧ I23 a1 14 ≤ 6 from gc_in hI23 R_a1 rfl rfl)
    refine gv_get hD rfl rfl S_a1 ⟨by decide, B_a1⟩ (gc_hI S_a1 rfl) ?_
    show gv_X _ _ (192, [(0, .inr (.inr (some 39))), (1, .inr (.inr (some a1)))], [.inl (I23 a1 14), .inr (.inr (some a1))], sh, gc_h sh I23 J24 A)
    refine gv_run 2 true hD (pc' := 194) (lv' := [(0, .inr (.inr (some 39))), (1, .inr (.inr (some a1)))]) (st' := [.inl ((I23 a1 14) + 1), .inr (.inr (some a1))]) (h' := gc_h sh I23 J24 A) (C := ((True ∧ True) ∧ True)) rfl ⟨⟨trivial, trivial⟩, trivial⟩ ?_
    refine gv_put hD rfl rfl S_a1 ⟨by decide, B_a1⟩ rfl trivial ?_
    refine gc_st (k := 14) hI23 S_a1 rfl R_a1 (lo := 0) (hi := 6) rfl rfl (by omega) (by omega) (fun I40 hI40 q41 p41 => ?_)
    have FI40 := gc_frs (W := fun q j => (q = 39 ∧ j = 3) ∨ (q = 39 ∧ j = 4) ∨ (q = 23 ∧ j = 5) ∨ (q = 23 ∧ j = 6) ∨ (q = 23 ∧ j = 7) ∨ (q = 23 ∧ j = 8) ∨ q = (a1 + 8) ∨ (q = a1 ∧ j = 14)) FI23 (Or.inr (Or.inr (Or.inr (Or.inr (Or.inr (Or.inr (Or.inr ⟨rfl, rfl⟩))))))) p41
    have t42 := p41 23 1 (fun h => absurd h.1 (by omega))
    have t43 := p41 23 5 (fun h => absurd h.1 (by omega))
    have t44 := p41 23 6 (fun h => absurd h.1 (by omega))
    have t45 := p41 23 7 (fun h => absurd h.1 (by omega))
    have t46 := p41 23 8 (fun h => absurd h.1 (by omega))
    have t47 := p41 (t + 1) 1 (fun h => absurd h.1 (by omega))
    have t48 := p41 (t + 3) 1 (fun h => absurd h.1 (by omega))
    have t49 := p41 39 2 (fun h => absurd h.1 (by omega))
    have f50 := (show 0 ≤ I40 23 1 ∧ I40 23 1 ≤ 1000 from gc_in hI40 R_23 rfl rfl)
    have f51 := (show 0 ≤ I40 23 5 ∧ I40 23 5 ≤ 1000 from gc_in hI40 R_23 rfl rfl)
    have f52 := (show 0 ≤ I40 23 6 ∧ I40 23 6 ≤ 1001 from gc_in hI40 R_23 rfl rfl)
    have f53 := (show 0 ≤ I40 23 7 ∧ I40 23 7 ≤ 125 from gc_in hI40 R_23 rfl rfl)
    have f54 := (show 0 ≤ I40 a1 14 ∧ I40 a1 14 ≤ 6 from gc_in hI40 R_a1 rfl rfl)
    have f55 := (show 0 ≤ I40 23 8 ∧ I40 23 8 ≤ 999999 from gc_in hI40 R_23 rfl rfl)
    have f56 := (show 0 ≤ I40 (t + 1) 1 ∧ I40 (t + 1) 1 ≤ 8 from gc_in hI40 R_t_1 rfl rfl)
    have f57 := (show 0 ≤ I40 (t + 3) 1 ∧ I40 (t + 3) 1 ≤ 48 from gc_in hI40 R_t_3 rfl rfl)
    have f58 := (show (-1) ≤ I40 39 2 ∧ I40 39 2 ≤ 999999 from gc_in hI40 R_39 rfl rfl)
    have KLT_I40 := gc_LT_fr KLT_I23 (p41 23 5 (fun h => absurd h.1 (by omega))) (p41 23 6 (fun h => absurd h.1 (by omega))) (p41 23 7 (fun h => absurd h.1 (by omega))) (fun k => p41 24 k (fun h => absurd h.1 (by omega)))
    show gv_X _ _ (197, [(0, .inr (.inr (some 39))), (1, .inr (.inr (some a1)))], [], sh, gc_h sh I40 J24 A)
    refine gv_run 1 true hD (pc' := 198) (lv' := [(0, .inr (.inr (some 39))), (1, .inr (.inr (some a1)))]) (st' := [.inl 1]) (h' := gc_h sh I40 J24 A) (C := (True ∧ True)) rfl ⟨trivial, trivial⟩ ?_
    exact gv_zret hD rfl (by omega) ⟨I40, J24, rfl, hI40, FI40, FJ24, KLT_I40, ⟨_, rfl, by omega⟩⟩
  refine gv_run 2 true hD (pc' := 2) (lv' := [(0, .inr (.inr (some 39))), (1, .inr (.inr (some a1)))]) (st' := [.inr (.inr (some a1)), .inl 3]) (h' := gc_h sh I J A) (C := ((True ∧ True) ∧ True)) rfl ⟨⟨trivial, trivial⟩, trivial⟩ ?_
  have f59 := (show 0 ≤ I a1 14 ∧ I a1 14 ≤ 6 from gc_in hI R_a1 rfl rfl)
  refine gv_get hD rfl rfl S_a1 ⟨by decide, B_a1⟩ (gc_hI S_a1 rfl) ?_
  show gv_X _ _ (5, [(0, .inr (.inr (some 39))), (1, .inr (.inr (some a1)))], [.inl (I a1 14), .inl 3], sh, gc_h sh I J A)
  refine gv_run 3 true hD (pc' := 8) (lv' := [(2, .inl (3 * (I a1 14))), (0, .inr (.inr (some 39))), (1, .inr (.inr (some a1)))]) (st' := [.inr (.inr (some 39))]) (h' := gc_h sh I J A) (C := (((True ∧ True) ∧ True) ∧ True)) rfl ⟨⟨⟨trivial, trivial⟩, trivial⟩, trivial⟩ ?_
  refine gv_get hD rfl rfl S_39 ⟨by decide, B_39⟩ (gc_hA S_39 rfl A_39_1) ?_
  show gv_X _ _ (11, [(2, .inl (3 * (I a1 14))), (0, .inr (.inr (some 39))), (1, .inr (.inr (some a1)))], [.inr (.inr (some 23))], sh, gc_h sh I J A)
  have f60 := (show 0 ≤ I 23 7 ∧ I 23 7 ≤ 125 from gc_in hI R_23 rfl rfl)
  refine gv_get hD rfl rfl S_23 ⟨by decide, B_23⟩ (gc_hI S_23 rfl) ?_
  show gv_X _ _ (14, [(2, .inl (3 * (I a1 14))), (0, .inr (.inr (some 39))), (1, .inr (.inr (some a1)))], [.inl (I 23 7)], sh, gc_h sh I J A)
  refine gv_run 1 true hD (pc' := 15) (lv' := [(2, .inl (3 * (I a1 14))), (0, .inr (.inr (some 39))), (1, .inr (.inr (some a1)))]) (st' := [.inl 2, .inl (I 23 7)]) (h' := gc_h sh I J A) (C := (True ∧ True)) rfl ⟨trivial, trivial⟩ ?_
  refine gv_icmp_ne (t := 102) hD rfl rfl ⟨⟨by omega, by omega⟩, ⟨by omega, by omega⟩⟩ (fun c61 => ?_) (fun c61 => ?_)
  · show gv_X _ _ (102, [(2, .inl (3 * (I a1 14))), (0, .inr (.inr (some 39))), (1, .inr (.inr (some a1)))], [], sh, gc_h sh I J A)
    refine gv_run 2 true hD (pc' := 104) (lv' := [(2, .inl (3 * (I a1 14))), (0, .inr (.inr (some 39))), (1, .inr (.inr (some a1)))]) (st' := [.inr (.inr (some 39)), .inr (.inr (some 39))]) (h' := gc_h sh I J A) (C := ((True ∧ True) ∧ True)) rfl ⟨⟨trivial, trivial⟩, trivial⟩ ?_
    refine gv_get hD rfl rfl S_39 ⟨by decide, B_39⟩ (gc_h5 (t := t) S_39 rfl (by omega)) ?_
    show gv_X _ _ (107, [(2, .inl (3 * (I a1 14))), (0, .inr (.inr (some 39))), (1, .inr (.inr (some a1)))], [.inr (.inr (some t)), .inr (.inr (some 39))], sh, gc_h sh I J A)
    refine gv_get hD rfl rfl S_t ⟨by decide, B_t⟩ (gc_hA S_t rfl A_t_1) ?_
    show gv_X _ _ (110, [(2, .inl (3 * (I a1 14))), (0, .inr (.inr (some 39))), (1, .inr (.inr (some a1)))], [.inr (.inr (some (t + 3))), .inr (.inr (some 39))], sh, gc_h sh I J A)
    obtain ⟨r62, h62, E62, P62⟩ := d_X6_needKnown (ws0 := ws0) (tb := tb) hws htb sh ro I J A hI  48 10 (t + 3) hb h_t_3    
    obtain ⟨I63, J64, rfl, hI63, g62, k62, ⟨z62, rfl, q62⟩⟩ := P62
    have FI63 := gc_frc (W := fun q j => (q = 39 ∧ j = 3) ∨ (q = 39 ∧ j = 4) ∨ (q = 23 ∧ j = 5) ∨ (q = 23 ∧ j = 6) ∨ (q = 23 ∧ j = 7) ∨ (q = 23 ∧ j = 8) ∨ q = (a1 + 8) ∨ (q = a1 ∧ j = 14)) (V := fun q j => (q = 39 ∧ j = 3) ∨ (q = 39 ∧ j = 4)) FI (fun q j h => (h.elim (fun h => (Or.inl h)) (fun h => (Or.inr (Or.inl h))))) g62
    have t65 := (g62 23 1).resolve_left (by omega)
    have t66 := (g62 23 5).resolve_left (by omega)
    have t67 := (g62 23 6).resolve_left (by omega)
    have t68 := (g62 23 7).resolve_left (by omega)
    have t69 := (g62 a1 14).resolve_left (by omega)
    have t70 := (g62 23 8).resolve_left (by omega)
    have t71 := (g62 (t + 1) 1).resolve_left (by omega)
    have t72 := (g62 (t + 3) 1).resolve_left (by omega)
    have t73 := (g62 39 2).resolve_left (by omega)
    have f74 := (show 0 ≤ I63 23 1 ∧ I63 23 1 ≤ 1000 from gc_in hI63 R_23 rfl rfl)
    have f75 := (show 0 ≤ I63 23 5 ∧ I63 23 5 ≤ 1000 from gc_in hI63 R_23 rfl rfl)
    have f76 := (show 0 ≤ I63 23 6 ∧ I63 23 6 ≤ 1001 from gc_in hI63 R_23 rfl rfl)
    have f77 := (show 0 ≤ I63 23 7 ∧ I63 23 7 ≤ 125 from gc_in hI63 R_23 rfl rfl)
    have f78 := (show 0 ≤ I63 a1 14 ∧ I63 a1 14 ≤ 6 from gc_in hI63 R_a1 rfl rfl)
    have f79 := (show 0 ≤ I63 23 8 ∧ I63 23 8 ≤ 999999 from gc_in hI63 R_23 rfl rfl)
    have f80 := (show 0 ≤ I63 (t + 1) 1 ∧ I63 (t + 1) 1 ≤ 8 from gc_in hI63 R_t_1 rfl rfl)
    have f81 := (show 0 ≤ I63 (t + 3) 1 ∧ I63 (t + 3) 1 ≤ 48 from gc_in hI63 R_t_3 rfl rfl)
    have f82 := (show (-1) ≤ I63 39 2 ∧ I63 39 2 ≤ 999999 from gc_in hI63 R_39 rfl rfl)
    obtain rfl : J = J64 := funext fun q => funext fun j => ((k62 q j).resolve_left id).symm
    have KLT_I63 := gc_LT_fr KLT_I ((g62 23 5).resolve_left (by omega)) ((g62 23 6).resolve_left (by omega)) ((g62 23 7).resolve_left (by omega)) (fun k => (g62 24 k).resolve_left (by omega))
    refine gv_callV hD rfl (As := [.inr (.inr (some (t + 3)))]) (st := []) rfl B_39 S_39 rfl (gc_lV6 hws rfl) (Nat.le_of_ble_eq_true rfl) (gz_Ev_mono (d := 3) (by decide) E62) ?_
    show gv_X _ _ (113, [(2, .inl (3 * (I a1 14))), (0, .inr (.inr (some 39))), (1, .inr (.inr (some a1)))], [.inl z62], sh, gc_h sh I63 J A)
    refine gv_if_ne (t := 118) hD rfl rfl ⟨by omega, by omega⟩ (fun c83 => ?_) (fun c83 => ?_)
    · show gv_X _ _ (118, [(2, .inl (3 * (I a1 14))), (0, .inr (.inr (some 39))), (1, .inr (.inr (some a1)))], [], sh, gc_h sh I63 J A)
      refine gv_run 1 true hD (pc' := 119) (lv' := [(2, .inl (3 * (I a1 14))), (0, .inr (.inr (some 39))), (1, .inr (.inr (some a1)))]) (st' := [.inr (.inr (some 39))]) (h' := gc_h sh I63 J A) (C := (True ∧ True)) rfl ⟨trivial, trivial⟩ ?_
      refine gv_get hD rfl rfl S_39 ⟨by decide, B_39⟩ (gc_h5 (t := t) S_39 rfl (by omega)) ?_
      show gv_X _ _ (122, [(2, .inl (3 * (I a1 14))), (0, .inr (.inr (some 39))), (1, .inr (.inr (some a1)))], [.inr (.inr (some t))], sh, gc_h sh I63 J A)
      refine gv_get hD rfl rfl S_t ⟨by decide, B_t⟩ (gc_hA S_t rfl A_t_1) ?_
      show gv_X _ _ (125, [(2, .inl (3 * (I a1 14))), (0, .inr (.inr (some 39))), (1, .inr (.inr (some a1)))], [.inr (.inr (some (t + 3)))], sh, gc_h sh I63 J A)
      refine gv_run 1 true hD (pc' := 126) (lv' := [(2, .inl (3 * (I a1 14))), (0, .inr (.inr (some 39))), (1, .inr (.inr (some a1)))]) (st' := [.inr (.inr (some 39)), .inr (.inr (some (t + 3)))]) (h' := gc_h sh I63 J A) (C := (True ∧ True)) rfl ⟨trivial, trivial⟩ ?_
      refine gv_get hD rfl rfl S_39 ⟨by decide, B_39⟩ (gc_hA S_39 rfl A_39_1) ?_
      show gv_X _ _ (129, [(2, .inl (3 * (I a1 14))), (0, .inr (.inr (some 39))), (1, .inr (.inr (some a1)))], [.inr (.inr (some 23)), .inr (.inr (some (t + 3)))], sh, gc_h sh I63 J A)
      refine gv_get hD rfl rfl S_23 ⟨by decide, B_23⟩ (gc_hJ S_23 rfl) ?_
      show gv_X _ _ (132, [(2, .inl (3 * (I a1 14))), (0, .inr (.inr (some 39))), (1, .inr (.inr (some a1)))], [.inr (.inl (J 23 9)), .inr (.inr (some (t + 3)))], sh, gc_h sh I63 J A)
      obtain ⟨r84, h84, E84, P84⟩ := d_X4_find (ws0 := ws0) (tb := tb) hws htb sh ro I63 J A hI63 (t + 3) 48 10 (J 23 9) h_t_3     
      obtain ⟨rfl, ⟨z84, rfl, q84⟩⟩ := P84
      refine gv_callV hD rfl (As := [.inr (.inl (J 23 9))]) (st := []) rfl B_t_3 S_t_3 rfl (gc_lV6 hws rfl) (Nat.le_of_ble_eq_true rfl) (gz_Ev_mono (d := 1) (by decide) E84) ?_
      show gv_X _ _ (135, [(2, .inl (3 * (I a1 14))), (0, .inr (.inr (some 39))), (1, .inr (.inr (some a1)))], [.inl z84], sh, gc_h sh I63 J A)
      refine gv_run 2 true hD (pc' := 137) (lv' := [(3, .inl z84), (2, .inl (3 * (I a1 14))), (0, .inr (.inr (some 39))), (1, .inr (.inr (some a1)))]) (st' := [.inr (.inr (some a1))]) (h' := gc_h sh I63 J A) (C := ((True ∧ True) ∧ True)) rfl ⟨⟨trivial, trivial⟩, trivial⟩ ?_
      refine gv_get hD rfl rfl S_a1 ⟨by decide, B_a1⟩ (gc_hA S_a1 rfl A_a1_15) ?_
      show gv_X _ _ (140, [(3, .inl z84), (2, .inl (3 * (I a1 14))), (0, .inr (.inr (some 39))), (1, .inr (.inr (some a1)))], [.inr (.inr (some (a1 + 8)))], sh, gc_h sh I63 J A)
      refine gv_run 2 true hD (pc' := 142) (lv' := [(3, .inl z84), (2, .inl (3 * (I a1 14))), (0, .inr (.inr (some 39))), (1, .inr (.inr (some a1)))]) (st' := [.inl (-1), .inl (3 * (I a1 14)), .inr (.inr (some (a1 + 8)))]) (h' := gc_h sh I63 J A) (C := ((True ∧ True) ∧ True)) rfl ⟨⟨trivial, trivial⟩, trivial⟩ ?_
      refine gv_iast hD rfl S_a1_8 ⟨by decide, B_a1_8⟩ ⟨by omega, by omega⟩ ?_
      refine gc_st hI63 S_a1_8 rfl R_a1_8 (lo := (-1)) (hi := 3) (gc_lom (c := 0) rfl (by omega) rfl) (gc_him (c := 0) rfl (by omega) rfl) (by omega) (by omega) (fun I85 hI85 q86 p86 => ?_)
      have FI85 := gc_frs (W := fun q j => (q = 39 ∧ j = 3) ∨ (q = 39 ∧ j = 4) ∨ (q = 23 ∧ j = 5) ∨ (q = 23 ∧ j = 6) ∨ (q = 23 ∧ j = 7) ∨ (q = 23 ∧ j = 8) ∨ q = (a1 + 8) ∨ (q = a1 ∧ j = 14)) FI63 (Or.inr (Or.inr (Or.inr (Or.inr (Or.inr (Or.inr (Or.inl rfl))))))) p86
      have t87 := p86 23 1 (fun h => absurd h.1 (by omega))
      have t88 := p86 23 5 (fun h => absurd h.1 (by omega))
      have t89 := p86 23 6 (fun h => absurd h.1 (by omega))
      have t90 := p86 23 7 (fun h => absurd h.1 (by omega))
      have t91 := p86 a1 14 (fun h => absurd h.1 (by omega))
      have t92 := p86 23 8 (fun h => absurd h.1 (by omega))
      have t93 := p86 (t + 1) 1 (fun h => absurd h.1 (by omega))
      have t94 := p86 (t + 3) 1 (fun h => absurd h.1 (by omega))
      have t95 := p86 39 2 (fun h => absurd h.1 (by omega))
      have f96 := (show 0 ≤ I85 23 1 ∧ I85 23 1 ≤ 1000 from gc_in hI85 R_23 rfl rfl)
      have f97 := (show 0 ≤ I85 23 5 ∧ I85 23 5 ≤ 1000 from gc_in hI85 R_23 rfl rfl)
      have f98 := (show 0 ≤ I85 23 6 ∧ I85 23 6 ≤ 1001 from gc_in hI85 R_23 rfl rfl)
      have f99 := (show 0 ≤ I85 23 7 ∧ I85 23 7 ≤ 125 from gc_in hI85 R_23 rfl rfl)
      have f100 := (show 0 ≤ I85 a1 14 ∧ I85 a1 14 ≤ 6 from gc_in hI85 R_a1 rfl rfl)
      have f101 := (show 0 ≤ I85 23 8 ∧ I85 23 8 ≤ 999999 from gc_in hI85 R_23 rfl rfl)
      have f102 := (show 0 ≤ I85 (t + 1) 1 ∧ I85 (t + 1) 1 ≤ 8 from gc_in hI85 R_t_1 rfl rfl)
      have f103 := (show 0 ≤ I85 (t + 3) 1 ∧ I85 (t + 3) 1 ≤ 48 from gc_in hI85 R_t_3 rfl rfl)
      have f104 := (show (-1) ≤ I85 39 2 ∧ I85 39 2 ≤ 999999 from gc_in hI85 R_39 rfl rfl)
      have KLT_I85 := gc_LT_fr KLT_I63 (p86 23 5 (fun h => absurd h.1 (by omega))) (p86 23 6 (fun h => absurd h.1 (by omega))) (p86 23 7 (fun h => absurd h.1 (by omega))) (fun k => p86 24 k (fun h => absurd h.1 (by omega)))
      show gv_X _ _ (143, [(3, .inl z84), (2, .inl (3 * (I a1 14))), (0, .inr (.inr (some 39))), (1, .inr (.inr (some a1)))], [], sh, gc_h sh I85 J A)
      refine gv_run 1 true hD (pc' := 144) (lv' := [(3, .inl z84), (2, .inl (3 * (I a1 14))), (0, .inr (.inr (some 39))), (1, .inr (.inr (some a1)))]) (st' := [.inr (.inr (some a1))]) (h' := gc_h sh I85 J A) (C := (True ∧ True)) rfl ⟨trivial, trivial⟩ ?_
      refine gv_get hD rfl rfl S_a1 ⟨by decide, B_a1⟩ (gc_hA S_a1 rfl A_a1_15) ?_
      show gv_X _ _ (147, [(3, .inl z84), (2, .inl (3 * (I a1 14))), (0, .inr (.inr (some 39))), (1, .inr (.inr (some a1)))], [.inr (.inr (some (a1 + 8)))], sh, gc_h sh I85 J A)
      refine gv_run 4 true hD (pc' := 151) (lv' := [(3, .inl z84), (2, .inl (3 * (I a1 14))), (0, .inr (.inr (some 39))), (1, .inr (.inr (some a1)))]) (st' := [.inr (.inr (some 39)), .inl ((3 * (I a1 14)) + 1), .inr (.inr (some (a1 + 8)))]) (h' := gc_h sh I85 J A) (C := ((((True ∧ True) ∧ True) ∧ True) ∧ True)) rfl ⟨⟨⟨⟨trivial, trivial⟩, trivial⟩, trivial⟩, trivial⟩ ?_
      refine gv_get hD rfl rfl S_39 ⟨by decide, B_39⟩ (gc_h5 (t := t) S_39 rfl (by omega)) ?_
      show gv_X _ _ (154, [(3, .inl z84), (2, .inl (3 * (I a1 14))), (0, .inr (.inr (some 39))), (1, .inr (.inr (some a1)))], [.inr (.inr (some t)), .inl ((3 * (I a1 14)) + 1), .inr (.inr (some (a1 + 8)))], sh, gc_h sh I85 J A)
      refine gv_get hD rfl rfl S_t ⟨by decide, B_t⟩ (gc_hA S_t rfl A_t_2) ?_
      show gv_X _ _ (157, [(3, .inl z84), (2, .inl (3 * (I a1 14))), (0, .inr (.inr (some 39))), (1, .inr (.inr (some a1)))], [.inr (.inr (some (t + 5))), .inl ((3 * (I a1 14)) + 1), .inr (.inr (some (a1 + 8)))], sh, gc_h sh I85 J A)
      refine gv_run 1 true hD (pc' := 158) (lv' := [(3, .inl z84), (2, .inl (3 * (I a1 14))), (0, .inr (.inr (some 39))), (1, .inr (.inr (some a1)))]) (st' := [.inl z84, .inr (.inr (some (t + 5))), .inl ((3 * (I a1 14)) + 1), .inr (.inr (some (a1 + 8)))]) (h' := gc_h sh I85 J A) (C := (True ∧ True)) rfl ⟨trivial, trivial⟩ ?_
      have f105 := (show 0 ≤ I85 (t + 5) (Int.toNat z84) ∧ I85 (t + 5) (Int.toNat z84) ≤ 7 from gc_in hI85 R_t_5 rfl rfl)
      refine gv_iald hD rfl S_t_5 rfl ⟨by decide, B_t_5⟩ ⟨by omega, by omega⟩ (gc_iI S_t_5 rfl) ?_
      show gv_X _ _ (159, [(3, .inl z84), (2, .inl (3 * (I a1 14))), (0, .inr (.inr (some 39))), (1, .inr (.inr (some a1)))], [.inl (I85 (t + 5) (Int.toNat z84)), .inl ((3 * (I a1 14)) + 1), .inr (.inr (some (a1 + 8)))], sh, gc_h sh I85 J A)
      obtain ⟨r106, h106, E106, P106⟩ := d_X11_shiftOf (ws0 := ws0) (tb := tb) hws htb sh ro I85 J A hI85  ((I85 (t + 5) (Int.toNat z84)))    ⟨by omega, by omega⟩  
      obtain ⟨rfl, ⟨z106, rfl, q106⟩⟩ := P106
      refine gv_callS hD rfl (As := [.inl (I85 (t + 5) (Int.toNat z84))]) (st := [.inl ((3 * (I a1 14)) + 1), .inr (.inr (some (a1 + 8)))]) rfl (gc_lS6 hws rfl) (Nat.le_of_ble_eq_true rfl) (gz_Ev_mono (d := 1) (by decide) E106) ?_
      show gv_X _ _ (162, [(3, .inl z84), (2, .inl (3 * (I a1 14))), (0, .inr (.inr (some 39))), (1, .inr (.inr (some a1)))], [.inl z106, .inl ((3 * (I a1 14)) + 1), .inr (.inr (some (a1 + 8)))], sh, gc_h sh I85 J A)
      refine gv_iast hD rfl S_a1_8 ⟨by decide, B_a1_8⟩ ⟨by omega, by omega⟩ ?_
      refine gc_st hI85 S_a1_8 rfl R_a1_8 (lo := 0) (hi := 21) (gc_lom (c := 1) rfl (by omega) rfl) (gc_him (c := 1) rfl (by omega) rfl) (by omega) (by omega) (fun I107 hI107 q108 p108 => ?_)
      have FI107 := gc_frs (W := fun q j => (q = 39 ∧ j = 3) ∨ (q = 39 ∧ j = 4) ∨ (q = 23 ∧ j = 5) ∨ (q = 23 ∧ j = 6) ∨ (q = 23 ∧ j = 7) ∨ (q = 23 ∧ j = 8) ∨ q = (a1 + 8) ∨ (q = a1 ∧ j = 14)) FI85 (Or.inr (Or.inr (Or.inr (Or.inr (Or.inr (Or.inr (Or.inl rfl))))))) p108
      have t109 := p108 23 1 (fun h => absurd h.1 (by omega))
      have t110 := p108 23 5 (fun h => absurd h.1 (by omega))
      have t111 := p108 23 6 (fun h => absurd h.1 (by omega))
      have t112 := p108 23 7 (fun h => absurd h.1 (by omega))
      have t113 := p108 a1 14 (fun h => absurd h.1 (by omega))
      have t114 := p108 23 8 (fun h => absurd h.1 (by omega))
      have t115 := p108 (t + 1) 1 (fun h => absurd h.1 (by omega))
      have t116 := p108 (t + 3) 1 (fun h => absurd h.1 (by omega))
      have t117 := p108 39 2 (fun h => absurd h.1 (by omega))
      have f118 := (show 0 ≤ I107 23 1 ∧ I107 23 1 ≤ 1000 from gc_in hI107 R_23 rfl rfl)
      have f119 := (show 0 ≤ I107 23 5 ∧ I107 23 5 ≤ 1000 from gc_in hI107 R_23 rfl rfl)
      have f120 := (show 0 ≤ I107 23 6 ∧ I107 23 6 ≤ 1001 from gc_in hI107 R_23 rfl rfl)
      have f121 := (show 0 ≤ I107 23 7 ∧ I107 23 7 ≤ 125 from gc_in hI107 R_23 rfl rfl)
      have f122 := (show 0 ≤ I107 a1 14 ∧ I107 a1 14 ≤ 6 from gc_in hI107 R_a1 rfl rfl)
      have f123 := (show 0 ≤ I107 23 8 ∧ I107 23 8 ≤ 999999 from gc_in hI107 R_23 rfl rfl)
      have f124 := (show 0 ≤ I107 (t + 1) 1 ∧ I107 (t + 1) 1 ≤ 8 from gc_in hI107 R_t_1 rfl rfl)
      have f125 := (show 0 ≤ I107 (t + 3) 1 ∧ I107 (t + 3) 1 ≤ 48 from gc_in hI107 R_t_3 rfl rfl)
      have f126 := (show (-1) ≤ I107 39 2 ∧ I107 39 2 ≤ 999999 from gc_in hI107 R_39 rfl rfl)
      have KLT_I107 := gc_LT_fr KLT_I85 (p108 23 5 (fun h => absurd h.1 (by omega))) (p108 23 6 (fun h => absurd h.1 (by omega))) (p108 23 7 (fun h => absurd h.1 (by omega))) (fun k => p108 24 k (fun h => absurd h.1 (by omega)))
      show gv_X _ _ (163, [(3, .inl z84), (2, .inl (3 * (I a1 14))), (0, .inr (.inr (some 39))), (1, .inr (.inr (some a1)))], [], sh, gc_h sh I107 J A)
      refine gv_run 1 true hD (pc' := 164) (lv' := [(3, .inl z84), (2, .inl (3 * (I a1 14))), (0, .inr (.inr (some 39))), (1, .inr (.inr (some a1)))]) (st' := [.inr (.inr (some a1))]) (h' := gc_h sh I107 J A) (C := (True ∧ True)) rfl ⟨trivial, trivial⟩ ?_
      refine gv_get hD rfl rfl S_a1 ⟨by decide, B_a1⟩ (gc_hA S_a1 rfl A_a1_15) ?_
      show gv_X _ _ (167, [(3, .inl z84), (2, .inl (3 * (I a1 14))), (0, .inr (.inr (some 39))), (1, .inr (.inr (some a1)))], [.inr (.inr (some (a1 + 8)))], sh, gc_h sh I107 J A)
      refine gv_run 4 true hD (pc' := 171) (lv' := [(3, .inl z84), (2, .inl (3 * (I a1 14))), (0, .inr (.inr (some 39))), (1, .inr (.inr (some a1)))]) (st' := [.inr (.inr (some 39)), .inl ((3 * (I a1 14)) + 2), .inr (.inr (some (a1 + 8)))]) (h' := gc_h sh I107 J A) (C := ((((True ∧ True) ∧ True) ∧ True) ∧ True)) rfl ⟨⟨⟨⟨trivial, trivial⟩, trivial⟩, trivial⟩, trivial⟩ ?_
      refine gv_get hD rfl rfl S_39 ⟨by decide, B_39⟩ (gc_h5 (t := t) S_39 rfl (by omega)) ?_
      show gv_X _ _ (174, [(3, .inl z84), (2, .inl (3 * (I a1 14))), (0, .inr (.inr (some 39))), (1, .inr (.inr (some a1)))], [.inr (.inr (some t)), .inl ((3 * (I a1 14)) + 2), .inr (.inr (some (a1 + 8)))], sh, gc_h sh I107 J A)
      refine gv_get hD rfl rfl S_t ⟨by decide, B_t⟩ (gc_hA S_t rfl A_t_3) ?_
      show gv_X _ _ (177, [(3, .inl z84), (2, .inl (3 * (I a1 14))), (0, .inr (.inr (some 39))), (1, .inr (.inr (some a1)))], [.inr (.inr (some (t + 6))), .inl ((3 * (I a1 14)) + 2), .inr (.inr (some (a1 + 8)))], sh, gc_h sh I107 J A)
      refine gv_run 1 true hD (pc' := 178) (lv' := [(3, .inl z84), (2, .inl (3 * (I a1 14))), (0, .inr (.inr (some 39))), (1, .inr (.inr (some a1)))]) (st' := [.inl z84, .inr (.inr (some (t + 6))), .inl ((3 * (I a1 14)) + 2), .inr (.inr (some (a1 + 8)))]) (h' := gc_h sh I107 J A) (C := (True ∧ True)) rfl ⟨trivial, trivial⟩ ?_
      have f127 := (show 0 ≤ I107 (t + 6) (Int.toNat z84) ∧ I107 (t + 6) (Int.toNat z84) ≤ 6 from gc_in hI107 R_t_6 rfl rfl)
      refine gv_iald hD rfl S_t_6 rfl ⟨by decide, B_t_6⟩ ⟨by omega, by omega⟩ (gc_iI S_t_6 rfl) ?_
      show gv_X _ _ (179, [(3, .inl z84), (2, .inl (3 * (I a1 14))), (0, .inr (.inr (some 39))), (1, .inr (.inr (some a1)))], [.inl (I107 (t + 6) (Int.toNat z84)), .inl ((3 * (I a1 14)) + 2), .inr (.inr (some (a1 + 8)))], sh, gc_h sh I107 J A)
      refine gv_iast hD rfl S_a1_8 ⟨by decide, B_a1_8⟩ ⟨by omega, by omega⟩ ?_
      refine gc_st hI107 S_a1_8 rfl R_a1_8 (lo := 0) (hi := 7) (gc_lom (c := 2) rfl (by omega) rfl) (gc_him (c := 2) rfl (by omega) rfl) (by omega) (by omega) (fun I128 hI128 q129 p129 => ?_)
      have FI128 := gc_frs (W := fun q j => (q = 39 ∧ j = 3) ∨ (q = 39 ∧ j = 4) ∨ (q = 23 ∧ j = 5) ∨ (q = 23 ∧ j = 6) ∨ (q = 23 ∧ j = 7) ∨ (q = 23 ∧ j = 8) ∨ q = (a1 + 8) ∨ (q = a1 ∧ j = 14)) FI107 (Or.inr (Or.inr (Or.inr (Or.inr (Or.inr (Or.inr (Or.inl rfl))))))) p129
      have t130 := p129 23 1 (fun h => absurd h.1 (by omega))
      have t131 := p129 23 5 (fun h => absurd h.1 (by omega))
      have t132 := p129 23 6 (fun h => absurd h.1 (by omega))
      have t133 := p129 23 7 (fun h => absurd h.1 (by omega))
      have t134 := p129 a1 14 (fun h => absurd h.1 (by omega))
      have t135 := p129 23 8 (fun h => absurd h.1 (by omega))
      have t136 := p129 (t + 1) 1 (fun h => absurd h.1 (by omega))
      have t137 := p129 (t + 3) 1 (fun h => absurd h.1 (by omega))
      have t138 := p129 39 2 (fun h => absurd h.1 (by omega))
      have f139 := (show 0 ≤ I128 23 1 ∧ I128 23 1 ≤ 1000 from gc_in hI128 R_23 rfl rfl)
      have f140 := (show 0 ≤ I128 23 5 ∧ I128 23 5 ≤ 1000 from gc_in hI128 R_23 rfl rfl)
      have f141 := (show 0 ≤ I128 23 6 ∧ I128 23 6 ≤ 1001 from gc_in hI128 R_23 rfl rfl)
      have f142 := (show 0 ≤ I128 23 7 ∧ I128 23 7 ≤ 125 from gc_in hI128 R_23 rfl rfl)
      have f143 := (show 0 ≤ I128 a1 14 ∧ I128 a1 14 ≤ 6 from gc_in hI128 R_a1 rfl rfl)
      have f144 := (show 0 ≤ I128 23 8 ∧ I128 23 8 ≤ 999999 from gc_in hI128 R_23 rfl rfl)
      have f145 := (show 0 ≤ I128 (t + 1) 1 ∧ I128 (t + 1) 1 ≤ 8 from gc_in hI128 R_t_1 rfl rfl)
      have f146 := (show 0 ≤ I128 (t + 3) 1 ∧ I128 (t + 3) 1 ≤ 48 from gc_in hI128 R_t_3 rfl rfl)
      have f147 := (show (-1) ≤ I128 39 2 ∧ I128 39 2 ≤ 999999 from gc_in hI128 R_39 rfl rfl)
      have KLT_I128 := gc_LT_fr KLT_I107 (p129 23 5 (fun h => absurd h.1 (by omega))) (p129 23 6 (fun h => absurd h.1 (by omega))) (p129 23 7 (fun h => absurd h.1 (by omega))) (fun k => p129 24 k (fun h => absurd h.1 (by omega)))
      show gv_X _ _ (180, [(3, .inl z84), (2, .inl (3 * (I a1 14))), (0, .inr (.inr (some 39))), (1, .inr (.inr (some a1)))], [], sh, gc_h sh I128 J A)
      refine gv_pick [2, 3] rfl ?_
      exact L180 I128 J hI128 FI128 FJ KLT_I128 (by omega)
    · show gv_X _ _ (116, [(2, .inl (3 * (I a1 14))), (0, .inr (.inr (some 39))), (1, .inr (.inr (some a1)))], [], sh, gc_h sh I63 J A)
      refine gv_run 1 true hD (pc' := 117) (lv' := [(2, .inl (3 * (I a1 14))), (0, .inr (.inr (some 39))), (1, .inr (.inr (some a1)))]) (st' := [.inl 0]) (h' := gc_h sh I63 J A) (C := (True ∧ True)) rfl ⟨trivial, trivial⟩ ?_
      exact gv_zret hD rfl (by omega) ⟨I63, J, rfl, hI63, FI63, FJ, KLT_I63, ⟨_, rfl, by omega⟩⟩
  · show gv_X _ _ (18, [(2, .inl (3 * (I a1 14))), (0, .inr (.inr (some 39))), (1, .inr (.inr (some a1)))], [], sh, gc_h sh I J A)
    refine gv_run 2 true hD (pc' := 20) (lv' := [(2, .inl (3 * (I a1 14))), (0, .inr (.inr (some 39))), (1, .inr (.inr (some a1)))]) (st' := [.inr (.inr (some a1)), .inr (.inr (some 39))]) (h' := gc_h sh I J A) (C := ((True ∧ True) ∧ True)) rfl ⟨⟨trivial, trivial⟩, trivial⟩ ?_
    obtain ⟨r148, h148, E148, P148⟩ := d_X6_needArgument (ws0 := ws0) (tb := tb) hws htb sh ro I J A hI  a1 hb h_a1 G_a1    
    obtain ⟨I149, J150, rfl, hI149, g148, k148, ⟨z148, rfl, q148⟩⟩ := P148
    have FI149 := gc_frc (W := fun q j => (q = 39 ∧ j = 3) ∨ (q = 39 ∧ j = 4) ∨ (q = 23 ∧ j = 5) ∨ (q = 23 ∧ j = 6) ∨ (q = 23 ∧ j = 7) ∨ (q = 23 ∧ j = 8) ∨ q = (a1 + 8) ∨ (q = a1 ∧ j = 14)) (V := fun q j => (q = 39 ∧ j = 3) ∨ (q = 39 ∧ j = 4)) FI (fun q j h => (h.elim (fun h => (Or.inl h)) (fun h => (Or.inr (Or.inl h))))) g148
    have t151 := (g148 23 1).resolve_left (by omega)
    have t152 := (g148 23 5).resolve_left (by omega)
    have t153 := (g148 23 6).resolve_left (by omega)
    have t154 := (g148 23 7).resolve_left (by omega)
    have t155 := (g148 a1 14).resolve_left (by omega)
    have t156 := (g148 23 8).resolve_left (by omega)
    have t157 := (g148 (t + 1) 1).resolve_left (by omega)
    have t158 := (g148 (t + 3) 1).resolve_left (by omega)
    have t159 := (g148 39 2).resolve_left (by omega)
    have f160 := (show 0 ≤ I149 23 1 ∧ I149 23 1 ≤ 1000 from gc_in hI149 R_23 rfl rfl)
    have f161 := (show 0 ≤ I149 23 5 ∧ I149 23 5 ≤ 1000 from gc_in hI149 R_23 rfl rfl)
    have f162 := (show 0 ≤ I149 23 6 ∧ I149 23 6 ≤ 1001 from gc_in hI149 R_23 rfl rfl)
    have f163 := (show 0 ≤ I149 23 7 ∧ I149 23 7 ≤ 125 from gc_in hI149 R_23 rfl rfl)
    have f164 := (show 0 ≤ I149 a1 14 ∧ I149 a1 14 ≤ 6 from gc_in hI149 R_a1 rfl rfl)
    have f165 := (show 0 ≤ I149 23 8 ∧ I149 23 8 ≤ 999999 from gc_in hI149 R_23 rfl rfl)
    have f166 := (show 0 ≤ I149 (t + 1) 1 ∧ I149 (t + 1) 1 ≤ 8 from gc_in hI149 R_t_1 rfl rfl)
    have f167 := (show 0 ≤ I149 (t + 3) 1 ∧ I149 (t + 3) 1 ≤ 48 from gc_in hI149 R_t_3 rfl rfl)
    have f168 := (show (-1) ≤ I149 39 2 ∧ I149 39 2 ≤ 999999 from gc_in hI149 R_39 rfl rfl)
    obtain rfl : J = J150 := funext fun q => funext fun j => ((k148 q j).resolve_left id).symm
    have KLT_I149 := gc_LT_fr KLT_I ((g148 23 5).resolve_left (by omega)) ((g148 23 6).resolve_left (by omega)) ((g148 23 7).resolve_left (by omega)) (fun k => (g148 24 k).resolve_left (by omega))
    refine gv_callV hD rfl (As := [.inr (.inr (some a1))]) (st := []) rfl B_39 S_39 rfl (gc_lV6 hws rfl) (Nat.le_of_ble_eq_true rfl) (gz_Ev_mono (d := 3) (by decide) E148) ?_
    show gv_X _ _ (23, [(2, .inl (3 * (I a1 14))), (0, .inr (.inr (some 39))), (1, .inr (.inr (some a1)))], [.inl z148], sh, gc_h sh I149 J A)
    refine gv_if_ne (t := 28) hD rfl rfl ⟨by omega, by omega⟩ (fun c169 => ?_) (fun c169 => ?_)
    · show gv_X _ _ (28, [(2, .inl (3 * (I a1 14))), (0, .inr (.inr (some 39))), (1, .inr (.inr (some a1)))], [], sh, gc_h sh I149 J A)
      refine gv_run 1 true hD (pc' := 29) (lv' := [(2, .inl (3 * (I a1 14))), (0, .inr (.inr (some 39))), (1, .inr (.inr (some a1)))]) (st' := [.inr (.inr (some a1))]) (h' := gc_h sh I149 J A) (C := (True ∧ True)) rfl ⟨trivial, trivial⟩ ?_
      refine gv_get hD rfl rfl S_a1 ⟨by decide, B_a1⟩ (gc_hA S_a1 rfl A_a1_15) ?_
      show gv_X _ _ (32, [(2, .inl (3 * (I a1 14))), (0, .inr (.inr (some 39))), (1, .inr (.inr (some a1)))], [.inr (.inr (some (a1 + 8)))], sh, gc_h sh I149 J A)
      refine gv_run 2 true hD (pc' := 34) (lv' := [(2, .inl (3 * (I a1 14))), (0, .inr (.inr (some 39))), (1, .inr (.inr (some a1)))]) (st' := [.inr (.inr (some a1)), .inl (3 * (I a1 14)), .inr (.inr (some (a1 + 8)))]) (h' := gc_h sh I149 J A) (C := ((True ∧ True) ∧ True)) rfl ⟨⟨trivial, trivial⟩, trivial⟩ ?_
      refine gv_get hD rfl rfl S_a1 ⟨by decide, B_a1⟩ (gc_hA S_a1 rfl A_a1_11) ?_
      show gv_X _ _ (37, [(2, .inl (3 * (I a1 14))), (0, .inr (.inr (some 39))), (1, .inr (.inr (some a1)))], [.inr (.inr (some (a1 + 6))), .inl (3 * (I a1 14)), .inr (.inr (some (a1 + 8)))], sh, gc_h sh I149 J A)
      refine gv_run 1 true hD (pc' := 38) (lv' := [(2, .inl (3 * (I a1 14))), (0, .inr (.inr (some 39))), (1, .inr (.inr (some a1)))]) (st' := [.inr (.inr (some 39)), .inr (.inr (some (a1 + 6))), .inl (3 * (I a1 14)), .inr (.inr (some (a1 + 8)))]) (h' := gc_h sh I149 J A) (C := (True ∧ True)) rfl ⟨trivial, trivial⟩ ?_
      refine gv_get hD rfl rfl S_39 ⟨by decide, B_39⟩ (gc_hA S_39 rfl A_39_1) ?_
      show gv_X _ _ (41, [(2, .inl (3 * (I a1 14))), (0, .inr (.inr (some 39))), (1, .inr (.inr (some a1)))], [.inr (.inr (some 23)), .inr (.inr (some (a1 + 6))), .inl (3 * (I a1 14)), .inr (.inr (some (a1 + 8)))], sh, gc_h sh I149 J A)
      have f170 := (show 0 ≤ I149 23 8 ∧ I149 23 8 ≤ 999999 from gc_in hI149 R_23 rfl rfl)
      refine gv_get hD rfl rfl S_23 ⟨by decide, B_23⟩ (gc_hI S_23 rfl) ?_
      show gv_X _ _ (44, [(2, .inl (3 * (I a1 14))), (0, .inr (.inr (some 39))), (1, .inr (.inr (some a1)))], [.inl (I149 23 8), .inr (.inr (some (a1 + 6))), .inl (3 * (I a1 14)), .inr (.inr (some (a1 + 8)))], sh, gc_h sh I149 J A)
      refine gv_run 2 true hD (pc' := 46) (lv' := [(2, .inl (3 * (I a1 14))), (0, .inr (.inr (some 39))), (1, .inr (.inr (some a1)))]) (st' := [.inl ((I149 23 8) - 1), .inr (.inr (some (a1 + 6))), .inl (3 * (I a1 14)), .inr (.inr (some (a1 + 8)))]) (h' := gc_h sh I149 J A) (C := ((True ∧ True) ∧ True)) rfl ⟨⟨trivial, trivial⟩, trivial⟩ ?_
      have f171 := (show (-1) ≤ I149 (a1 + 6) (Int.toNat (((I149 23 8) - 1))) ∧ I149 (a1 + 6) (Int.toNat (((I149 23 8) - 1))) ≤ 3 from gc_in hI149 R_a1_6 rfl rfl)
      refine gv_iald hD rfl S_a1_6 rfl ⟨by decide, B_a1_6⟩ ⟨by omega, by omega⟩ (gc_iI S_a1_6 rfl) ?_
      show gv_X _ _ (47, [(2, .inl (3 * (I a1 14))), (0, .inr (.inr (some 39))), (1, .inr (.inr (some a1)))], [.inl (I149 (a1 + 6) (Int.toNat (((I149 23 8) - 1)))), .inl (3 * (I a1 14)), .inr (.inr (some (a1 + 8)))], sh, gc_h sh I149 J A)
      refine gv_iast hD rfl S_a1_8 ⟨by decide, B_a1_8⟩ ⟨by omega, by omega⟩ ?_
      refine gc_st hI149 S_a1_8 rfl R_a1_8 (lo := (-1)) (hi := 3) (gc_lom (c := 0) rfl (by omega) rfl) (gc_him (c := 0) rfl (by omega) rfl) (by omega) (by omega) (fun I172 hI172 q173 p173 => ?_)
      have FI172 := gc_frs (W := fun q j => (q = 39 ∧ j = 3) ∨ (q = 39 ∧ j = 4) ∨ (q = 23 ∧ j = 5) ∨ (q = 23 ∧ j = 6) ∨ (q = 23 ∧ j = 7) ∨ (q = 23 ∧ j = 8) ∨ q = (a1 + 8) ∨ (q = a1 ∧ j = 14)) FI149 (Or.inr (Or.inr (Or.inr (Or.inr (Or.inr (Or.inr (Or.inl rfl))))))) p173
      have t174 := p173 23 1 (fun h => absurd h.1 (by omega))
      have t175 := p173 23 5 (fun h => absurd h.1 (by omega))
      have t176 := p173 23 6 (fun h => absurd h.1 (by omega))
      have t177 := p173 23 7 (fun h => absurd h.1 (by omega))
      have t178 := p173 a1 14 (fun h => absurd h.1 (by omega))
      have t179 := p173 23 8 (fun h => absurd h.1 (by omega))
      have t180 := p173 (t + 1) 1 (fun h => absurd h.1 (by omega))
      have t181 := p173 (t + 3) 1 (fun h => absurd h.1 (by omega))
      have t182 := p173 39 2 (fun h => absurd h.1 (by omega))
      have f183 := (show 0 ≤ I172 23 1 ∧ I172 23 1 ≤ 1000 from gc_in hI172 R_23 rfl rfl)
      have f184 := (show 0 ≤ I172 23 5 ∧ I172 23 5 ≤ 1000 from gc_in hI172 R_23 rfl rfl)
      have f185 := (show 0 ≤ I172 23 6 ∧ I172 23 6 ≤ 1001 from gc_in hI172 R_23 rfl rfl)
      have f186 := (show 0 ≤ I172 23 7 ∧ I172 23 7 ≤ 125 from gc_in hI172 R_23 rfl rfl)
      have f187 := (show 0 ≤ I172 a1 14 ∧ I172 a1 14 ≤ 6 from gc_in hI172 R_a1 rfl rfl)
      have f188 := (show 0 ≤ I172 23 8 ∧ I172 23 8 ≤ 999999 from gc_in hI172 R_23 rfl rfl)
      have f189 := (show 0 ≤ I172 (t + 1) 1 ∧ I172 (t + 1) 1 ≤ 8 from gc_in hI172 R_t_1 rfl rfl)
      have f190 := (show 0 ≤ I172 (t + 3) 1 ∧ I172 (t + 3) 1 ≤ 48 from gc_in hI172 R_t_3 rfl rfl)
      have f191 := (show (-1) ≤ I172 39 2 ∧ I172 39 2 ≤ 999999 from gc_in hI172 R_39 rfl rfl)
      have KLT_I172 := gc_LT_fr KLT_I149 (p173 23 5 (fun h => absurd h.1 (by omega))) (p173 23 6 (fun h => absurd h.1 (by omega))) (p173 23 7 (fun h => absurd h.1 (by omega))) (fun k => p173 24 k (fun h => absurd h.1 (by omega)))
      show gv_X _ _ (48, [(2, .inl (3 * (I a1 14))), (0, .inr (.inr (some 39))), (1, .inr (.inr (some a1)))], [], sh, gc_h sh I172 J A)
      refine gv_run 1 true hD (pc' := 49) (lv' := [(2, .inl (3 * (I a1 14))), (0, .inr (.inr (some 39))), (1, .inr (.inr (some a1)))]) (st' := [.inr (.inr (some 39))]) (h' := gc_h sh I172 J A) (C := (True ∧ True)) rfl ⟨trivial, trivial⟩ ?_
      refine gv_get hD rfl rfl S_39 ⟨by decide, B_39⟩ (gc_hA S_39 rfl A_39_1) ?_
      show gv_X _ _ (52, [(2, .inl (3 * (I a1 14))), (0, .inr (.inr (some 39))), (1, .inr (.inr (some a1)))], [.inr (.inr (some 23))], sh, gc_h sh I172 J A)
      obtain ⟨r192, h192, E192, P192⟩ := d_X9_advance (ws0 := ws0) (tb := tb) hws htb sh ro I172 J A hI172 23  (gc_b23 hb)    (by omega) 
      obtain ⟨I193, J194, rfl, hI193, g192, k192, ⟨rfl, q192⟩⟩ := P192
      have FI193 := gc_frc (W := fun q j => (q = 39 ∧ j = 3) ∨ (q = 39 ∧ j = 4) ∨ (q = 23 ∧ j = 5) ∨ (q = 23 ∧ j = 6) ∨ (q = 23 ∧ j = 7) ∨ (q = 23 ∧ j = 8) ∨ q = (a1 + 8) ∨ (q = a1 ∧ j = 14)) (V := fun q j => (q = 23 ∧ j = 5) ∨ (q = 23 ∧ j = 6) ∨ (q = 23 ∧ j = 7) ∨ (q = 23 ∧ j = 8)) FI172 (fun q j h => (h.elim (fun h => (Or.inr (Or.inr (Or.inl h)))) (fun h => (h.elim (fun h => (Or.inr (Or.inr (Or.inr (Or.inl h))))) (fun h => (h.elim (fun h => (Or.inr (Or.inr (Or.inr (Or.inr (Or.inl h)))))) (fun h => (Or.inr (Or.inr (Or.inr (Or.inr (Or.inr (Or.inl h))))))))))))) g192
      have FJ194 := gc_frc (W := fun q j => (q = 23 ∧ j = 9)) (V := fun q j => (q = 23 ∧ j = 9)) FJ (fun q j h => h) k192
      have t195 := (g192 23 1).resolve_left (by omega)
      have t196 := (g192 a1 14).resolve_left (by omega)
      have t197 := (g192 (t + 1) 1).resolve_left (by omega)
      have t198 := (g192 (t + 3) 1).resolve_left (by omega)
      have t199 := (g192 39 2).resolve_left (by omega)
      have f200 := (show 0 ≤ I193 23 1 ∧ I193 23 1 ≤ 1000 from gc_in hI193 R_23 rfl rfl)
      have f201 := (show 0 ≤ I193 23 5 ∧ I193 23 5 ≤ 1000 from gc_in hI193 R_23 rfl rfl)
      have f202 := (show 0 ≤ I193 23 6 ∧ I193 23 6 ≤ 1001 from gc_in hI193 R_23 rfl rfl)
      have f203 := (show 0 ≤ I193 23 7 ∧ I193 23 7 ≤ 125 from gc_in hI193 R_23 rfl rfl)
      have f204 := (show 0 ≤ I193 a1 14 ∧ I193 a1 14 ≤ 6 from gc_in hI193 R_a1 rfl rfl)
      have f205 := (show 0 ≤ I193 23 8 ∧ I193 23 8 ≤ 999999 from gc_in hI193 R_23 rfl rfl)
      have f206 := (show 0 ≤ I193 (t + 1) 1 ∧ I193 (t + 1) 1 ≤ 8 from gc_in hI193 R_t_1 rfl rfl)
      have f207 := (show 0 ≤ I193 (t + 3) 1 ∧ I193 (t + 3) 1 ≤ 48 from gc_in hI193 R_t_3 rfl rfl)
      have f208 := (show (-1) ≤ I193 39 2 ∧ I193 39 2 ≤ 999999 from gc_in hI193 R_39 rfl rfl)
      have KLT_I193 : gc_LT I193 := q192.2.2.2.2.2.2.2
      refine gv_callV hD rfl (As := []) (st := []) rfl B_23 S_23 rfl (gc_lV6 hws rfl) (Nat.le_of_ble_eq_true rfl) (gz_Ev_mono (d := 2) (by decide) E192) ?_
      show gv_X _ _ (55, [(2, .inl (3 * (I a1 14))), (0, .inr (.inr (some 39))), (1, .inr (.inr (some a1)))], [], sh, gc_h sh I193 J194 A)
      refine gv_run 2 true hD (pc' := 57) (lv' := [(2, .inl (3 * (I a1 14))), (0, .inr (.inr (some 39))), (1, .inr (.inr (some a1)))]) (st' := [.inr (.inr (some 39)), .inr (.inr (some 39))]) (h' := gc_h sh I193 J194 A) (C := ((True ∧ True) ∧ True)) rfl ⟨⟨trivial, trivial⟩, trivial⟩ ?_
      refine gv_get hD rfl rfl S_39 ⟨by decide, B_39⟩ (gc_h5 (t := t) S_39 rfl (by omega)) ?_
      show gv_X _ _ (60, [(2, .inl (3 * (I a1 14))), (0, .inr (.inr (some 39))), (1, .inr (.inr (some a1)))], [.inr (.inr (some t)), .inr (.inr (some 39))], sh, gc_h sh I193 J194 A)
      refine gv_get hD rfl rfl S_t ⟨by decide, B_t⟩ (gc_hA S_t rfl A_t_0) ?_
      show gv_X _ _ (63, [(2, .inl (3 * (I a1 14))), (0, .inr (.inr (some 39))), (1, .inr (.inr (some a1)))], [.inr (.inr (some (t + 1))), .inr (.inr (some 39))], sh, gc_h sh I193 J194 A)
      obtain ⟨r209, h209, E209, P209⟩ := d_X6_needKnown (ws0 := ws0) (tb := tb) hws htb sh ro I193 J194 A hI193  8 6 (t + 1) hb h_t_1    
      obtain ⟨I210, J211, rfl, hI210, g209, k209, ⟨z209, rfl, q209⟩⟩ := P209
      have FI210 := gc_frc (W := fun q j => (q = 39 ∧ j = 3) ∨ (q = 39 ∧ j = 4) ∨ (q = 23 ∧ j = 5) ∨ (q = 23 ∧ j = 6) ∨ (q = 23 ∧ j = 7) ∨ (q = 23 ∧ j = 8) ∨ q = (a1 + 8) ∨ (q = a1 ∧ j = 14)) (V := fun q j => (q = 39 ∧ j = 3) ∨ (q = 39 ∧ j = 4)) FI193 (fun q j h => (h.elim (fun h => (Or.inl h)) (fun h => (Or.inr (Or.inl h))))) g209
      have t212 := (g209 23 1).resolve_left (by omega)
      have t213 := (g209 23 5).resolve_left (by omega)
      have t214 := (g209 23 6).resolve_left (by omega)
      have t215 := (g209 23 7).resolve_left (by omega)
      have t216 := (g209 a1 14).resolve_left (by omega)
      have t217 := (g209 23 8).resolve_left (by omega)
      have t218 := (g209 (t + 1) 1).resolve_left (by omega)
      have t219 := (g209 (t + 3) 1).resolve_left (by omega)
      have t220 := (g209 39 2).resolve_left (by omega)
      have f221 := (show 0 ≤ I210 23 1 ∧ I210 23 1 ≤ 1000 from gc_in hI210 R_23 rfl rfl)
      have f222 := (show 0 ≤ I210 23 5 ∧ I210 23 5 ≤ 1000 from gc_in hI210 R_23 rfl rfl)
      have f223 := (show 0 ≤ I210 23 6 ∧ I210 23 6 ≤ 1001 from gc_in hI210 R_23 rfl rfl)
      have f224 := (show 0 ≤ I210 23 7 ∧ I210 23 7 ≤ 125 from gc_in hI210 R_23 rfl rfl)
      have f225 := (show 0 ≤ I210 a1 14 ∧ I210 a1 14 ≤ 6 from gc_in hI210 R_a1 rfl rfl)
      have f226 := (show 0 ≤ I210 23 8 ∧ I210 23 8 ≤ 999999 from gc_in hI210 R_23 rfl rfl)
      have f227 := (show 0 ≤ I210 (t + 1) 1 ∧ I210 (t + 1) 1 ≤ 8 from gc_in hI210 R_t_1 rfl rfl)
      have f228 := (show 0 ≤ I210 (t + 3) 1 ∧ I210 (t + 3) 1 ≤ 48 from gc_in hI210 R_t_3 rfl rfl)
      have f229 := (show (-1) ≤ I210 39 2 ∧ I210 39 2 ≤ 999999 from gc_in hI210 R_39 rfl rfl)
      obtain rfl : J194 = J211 := funext fun q => funext fun j => ((k209 q j).resolve_left id).symm
      have KLT_I210 := gc_LT_fr KLT_I193 ((g209 23 5).resolve_left (by omega)) ((g209 23 6).resolve_left (by omega)) ((g209 23 7).resolve_left (by omega)) (fun k => (g209 24 k).resolve_left (by omega))
      refine gv_callV hD rfl (As := [.inr (.inr (some (t + 1)))]) (st := []) rfl B_39 S_39 rfl (gc_lV6 hws rfl) (Nat.le_of_ble_eq_true rfl) (gz_Ev_mono (d := 3) (by decide) E209) ?_
      show gv_X _ _ (66, [(2, .inl (3 * (I a1 14))), (0, .inr (.inr (some 39))), (1, .inr (.inr (some a1)))], [.inl z209], sh, gc_h sh I210 J194 A)
      refine gv_if_ne (t := 71) hD rfl rfl ⟨by omega, by omega⟩ (fun c230 => ?_) (fun c230 => ?_)
      · show gv_X _ _ (71, [(2, .inl (3 * (I a1 14))), (0, .inr (.inr (some 39))), (1, .inr (.inr (some a1)))], [], sh, gc_h sh I210 J194 A)
        refine gv_run 1 true hD (pc' := 72) (lv' := [(2, .inl (3 * (I a1 14))), (0, .inr (.inr (some 39))), (1, .inr (.inr (some a1)))]) (st' := [.inr (.inr (some a1))]) (h' := gc_h sh I210 J194 A) (C := (True ∧ True)) rfl ⟨trivial, trivial⟩ ?_
        refine gv_get hD rfl rfl S_a1 ⟨by decide, B_a1⟩ (gc_hA S_a1 rfl A_a1_15) ?_
        show gv_X _ _ (75, [(2, .inl (3 * (I a1 14))), (0, .inr (.inr (some 39))), (1, .inr (.inr (some a1)))], [.inr (.inr (some (a1 + 8)))], sh, gc_h sh I210 J194 A)
        refine gv_run 4 true hD (pc' := 79) (lv' := [(2, .inl (3 * (I a1 14))), (0, .inr (.inr (some 39))), (1, .inr (.inr (some a1)))]) (st' := [.inr (.inr (some 39)), .inl ((3 * (I a1 14)) + 1), .inr (.inr (some (a1 + 8)))]) (h' := gc_h sh I210 J194 A) (C := ((((True ∧ True) ∧ True) ∧ True) ∧ True)) rfl ⟨⟨⟨⟨trivial, trivial⟩, trivial⟩, trivial⟩, trivial⟩ ?_
        refine gv_get hD rfl rfl S_39 ⟨by decide, B_39⟩ (gc_h5 (t := t) S_39 rfl (by omega)) ?_
        show gv_X _ _ (82, [(2, .inl (3 * (I a1 14))), (0, .inr (.inr (some 39))), (1, .inr (.inr (some a1)))], [.inr (.inr (some t)), .inl ((3 * (I a1 14)) + 1), .inr (.inr (some (a1 + 8)))], sh, gc_h sh I210 J194 A)
        refine gv_get hD rfl rfl S_t ⟨by decide, B_t⟩ (gc_hA S_t rfl A_t_0) ?_
        show gv_X _ _ (85, [(2, .inl (3 * (I a1 14))), (0, .inr (.inr (some 39))), (1, .inr (.inr (some a1)))], [.inr (.inr (some (t + 1))), .inl ((3 * (I a1 14)) + 1), .inr (.inr (some (a1 + 8)))], sh, gc_h sh I210 J194 A)
        refine gv_run 1 true hD (pc' := 86) (lv' := [(2, .inl (3 * (I a1 14))), (0, .inr (.inr (some 39))), (1, .inr (.inr (some a1)))]) (st' := [.inr (.inr (some 39)), .inr (.inr (some (t + 1))), .inl ((3 * (I a1 14)) + 1), .inr (.inr (some (a1 + 8)))]) (h' := gc_h sh I210 J194 A) (C := (True ∧ True)) rfl ⟨trivial, trivial⟩ ?_
        refine gv_get hD rfl rfl S_39 ⟨by decide, B_39⟩ (gc_hA S_39 rfl A_39_1) ?_
        show gv_X _ _ (89, [(2, .inl (3 * (I a1 14))), (0, .inr (.inr (some 39))), (1, .inr (.inr (some a1)))], [.inr (.inr (some 23)), .inr (.inr (some (t + 1))), .inl ((3 * (I a1 14)) + 1), .inr (.inr (some (a1 + 8)))], sh, gc_h sh I210 J194 A)
        refine gv_get hD rfl rfl S_23 ⟨by decide, B_23⟩ (gc_hJ S_23 rfl) ?_
        show gv_X _ _ (92, [(2, .inl (3 * (I a1 14))), (0, .inr (.inr (some 39))), (1, .inr (.inr (some a1)))], [.inr (.inl (J194 23 9)), .inr (.inr (some (t + 1))), .inl ((3 * (I a1 14)) + 1), .inr (.inr (some (a1 + 8)))], sh, gc_h sh I210 J194 A)
        obtain ⟨r231, h231, E231, P231⟩ := d_X4_find (ws0 := ws0) (tb := tb) hws htb sh ro I210 J194 A hI210 (t + 1) 8 6 (J194 23 9) h_t_1     
        obtain ⟨rfl, ⟨z231, rfl, q231⟩⟩ := P231
        refine gv_callV hD rfl (As := [.inr (.inl (J194 23 9))]) (st := [.inl ((3 * (I a1 14)) + 1), .inr (.inr (some (a1 + 8)))]) rfl B_t_1 S_t_1 rfl (gc_lV6 hws rfl) (Nat.le_of_ble_eq_true rfl) (gz_Ev_mono (d := 1) (by decide) E231) ?_
        show gv_X _ _ (95, [(2, .inl (3 * (I a1 14))), (0, .inr (.inr (some 39))), (1, .inr (.inr (some a1)))], [.inl z231, .inl ((3 * (I a1 14)) + 1), .inr (.inr (some (a1 + 8)))], sh, gc_h sh I210 J194 A)
        obtain ⟨r232, h232, E232, P232⟩ := d_X11_shiftOf (ws0 := ws0) (tb := tb) hws htb sh ro I210 J194 A hI210  z231    ⟨by omega, by omega⟩  
        obtain ⟨rfl, ⟨z232, rfl, q232⟩⟩ := P232
        refine gv_callS hD rfl (As := [.inl z231]) (st := [.inl ((3 * (I a1 14)) + 1), .inr (.inr (some (a1 + 8)))]) rfl (gc_lS6 hws rfl) (Nat.le_of_ble_eq_true rfl) (gz_Ev_mono (d := 1) (by decide) E232) ?_
        show gv_X _ _ (98, [(2, .inl (3 * (I a1 14))), (0, .inr (.inr (some 39))), (1, .inr (.inr (some a1)))], [.inl z232, .inl ((3 * (I a1 14)) + 1), .inr (.inr (some (a1 + 8)))], sh, gc_h sh I210 J194 A)
        refine gv_iast hD rfl S_a1_8 ⟨by decide, B_a1_8⟩ ⟨by omega, by omega⟩ ?_
        refine gc_st hI210 S_a1_8 rfl R_a1_8 (lo := 0) (hi := 21) (gc_lom (c := 1) rfl (by omega) rfl) (gc_him (c := 1) rfl (by omega) rfl) (by omega) (by omega) (fun I233 hI233 q234 p234 => ?_)
        have FI233 := gc_frs (W := fun q j => (q = 39 ∧ j = 3) ∨ (q = 39 ∧ j = 4) ∨ (q = 23 ∧ j = 5) ∨ (q = 23 ∧ j = 6) ∨ (q = 23 ∧ j = 7) ∨ (q = 23 ∧ j = 8) ∨ q = (a1 + 8) ∨ (q = a1 ∧ j = 14)) FI210 (Or.inr (Or.inr (Or.inr (Or.inr (Or.inr (Or.inr (Or.inl rfl))))))) p234
        have t235 := p234 23 1 (fun h => absurd h.1 (by omega))
        have t236 := p234 23 5 (fun h => absurd h.1 (by omega))
        have t237 := p234 23 6 (fun h => absurd h.1 (by omega))
        have t238 := p234 23 7 (fun h => absurd h.1 (by omega))
        have t239 := p234 a1 14 (fun h => absurd h.1 (by omega))
        have t240 := p234 23 8 (fun h => absurd h.1 (by omega))
        have t241 := p234 (t + 1) 1 (fun h => absurd h.1 (by omega))
        have t242 := p234 (t + 3) 1 (fun h => absurd h.1 (by omega))
        have t243 := p234 39 2 (fun h => absurd h.1 (by omega))
        have f244 := (show 0 ≤ I233 23 1 ∧ I233 23 1 ≤ 1000 from gc_in hI233 R_23 rfl rfl)
        have f245 := (show 0 ≤ I233 23 5 ∧ I233 23 5 ≤ 1000 from gc_in hI233 R_23 rfl rfl)
        have f246 := (show 0 ≤ I233 23 6 ∧ I233 23 6 ≤ 1001 from gc_in hI233 R_23 rfl rfl)
        have f247 := (show 0 ≤ I233 23 7 ∧ I233 23 7 ≤ 125 from gc_in hI233 R_23 rfl rfl)
        have f248 := (show 0 ≤ I233 a1 14 ∧ I233 a1 14 ≤ 6 from gc_in hI233 R_a1 rfl rfl)
        have f249 := (show 0 ≤ I233 23 8 ∧ I233 23 8 ≤ 999999 from gc_in hI233 R_23 rfl rfl)
        have f250 := (show 0 ≤ I233 (t + 1) 1 ∧ I233 (t + 1) 1 ≤ 8 from gc_in hI233 R_t_1 rfl rfl)
        have f251 := (show 0 ≤ I233 (t + 3) 1 ∧ I233 (t + 3) 1 ≤ 48 from gc_in hI233 R_t_3 rfl rfl)
        have f252 := (show (-1) ≤ I233 39 2 ∧ I233 39 2 ≤ 999999 from gc_in hI233 R_39 rfl rfl)
        have KLT_I233 := gc_LT_fr KLT_I210 (p234 23 5 (fun h => absurd h.1 (by omega))) (p234 23 6 (fun h => absurd h.1 (by omega))) (p234 23 7 (fun h => absurd h.1 (by omega))) (fun k => p234 24 k (fun h => absurd h.1 (by omega)))
        show gv_X _ _ (99, [(2, .inl (3 * (I a1 14))), (0, .inr (.inr (some 39))), (1, .inr (.inr (some a1)))], [], sh, gc_h sh I233 J194 A)
        refine gv_run 1 true hD (pc' := 180) (lv' := [(2, .inl (3 * (I a1 14))), (0, .inr (.inr (some 39))), (1, .inr (.inr (some a1)))]) (st' := []) (h' := gc_h sh I233 J194 A) (C := (True ∧ True)) rfl ⟨trivial, trivial⟩ ?_
        refine gv_pick [1, 2] rfl ?_
        exact L180 I233 J194 hI233 FI233 FJ194 KLT_I233 (by omega)
      · show gv_X _ _ (69, [(2, .inl (3 * (I a1 14))), (0, .inr (.inr (some 39))), (1, .inr (.inr (some a1)))], [], sh, gc_h sh I210 J194 A)
        refine gv_run 1 true hD (pc' := 70) (lv' := [(2, .inl (3 * (I a1 14))), (0, .inr (.inr (some 39))), (1, .inr (.inr (some a1)))]) (st' := [.inl 0]) (h' := gc_h sh I210 J194 A) (C := (True ∧ True)) rfl ⟨trivial, trivial⟩ ?_
        exact gv_zret hD rfl (by omega) ⟨I210, J194, rfl, hI210, FI210, FJ194, KLT_I210, ⟨_, rfl, by omega⟩⟩
    · show gv_X _ _ (26, [(2, .inl (3 * (I a1 14))), (0, .inr (.inr (some 39))), (1, .inr (.inr (some a1)))], [], sh, gc_h sh I149 J A)
      refine gv_run 1 true hD (pc' := 27) (lv' := [(2, .inl (3 * (I a1 14))), (0, .inr (.inr (some 39))), (1, .inr (.inr (some a1)))]) (st' := [.inl 0]) (h' := gc_h sh I149 J A) (C := (True ∧ True)) rfl ⟨trivial, trivial⟩ ?_
      exact gv_zret hD rfl (by omega) ⟨I149, J, rfl, hI149, FI149, FJ, KLT_I149, ⟨_, rfl, by omega⟩⟩
