set_option maxHeartbeats 8000000 in
set_option maxRecDepth 100000 in
theorem d_X6_readSaids_p {ws0 : List Cond} {tb : String → gz_T} (hws : gc_Ws ws0) (htb : gc_tbs tb) (sh : gz_Sh) (ro : Nat → Nat) (I : gr_I) (J : gr_J) (A : gc_A) (hI : gc_Inv ro I) (t : Nat) (β : Int → Int) (η : Int) (p9 : Int) (Ir : gr_I) (Jr : gr_J) (nf9 : Int) (a9 : Nat → Int) (a1 : Nat) (hb : gc_Base sh ro A) (h_a1 : gc_isLin sh ro A a1) (G_a1 : 144 ≤ a1) (h_t : gc_isTongue sh ro A t) (G_t : 144 ≤ t)  (x0 : I a1 12 + I a1 14 ≤ 6) (x1 : gc_AT β η p9 23 I J) (x2 : 0 ≤ p9) (x3 : gs_SO I a1 nf9 a9) (x4 : nf9 ≤ 4) (x5 : I (t + 1) 1 = Ir 13 (Int.toNat (Ir 0 6))) (x6 : gs_NA (I (t + 1) 1) (J (t + 2)) (fun k => Jr 20 (Int.toNat (8 * Ir 0 6 + (k : Int))))) (x7 : I (t + 3) 1 = Ir 14 (Int.toNat (Ir 0 6))) (x8 : gs_NA (I (t + 3) 1) (J (t + 4)) (fun k => Jr 21 (Int.toNat (48 * Ir 0 6 + (k : Int))))) (x9 : I a1 12 + I a1 14 = 0) (x10 : I 39 2 = (t : Int)) (KLT_I : gc_LT I) (KTK_I : gc_TK I) : ∃ r h', gz_Ev ws0 tb 5 (yX6_readSaids, cX6_readSaids, 4, (some .boolean)) [.inr (.inr (some 39)), .inr (.inr (some a1))] sh (gc_h sh I J A) r sh h' 0 0 ∧ (∃ (I' : gr_I) (J' : gr_J), h' = gc_h sh I' J' A ∧ gc_Inv ro I' ∧ (∀ q j : Nat, ((q = 39 ∧ j = 3) ∨ (q = 39 ∧ j = 4) ∨ (q = 23 ∧ j = 5) ∨ (q = 23 ∧ j = 6) ∨ (q = 23 ∧ j = 7) ∨ (q = 23 ∧ j = 8) ∨ q = (a1 + 7) ∨ (q = a1 ∧ j = 12) ∨ q = (a1 + 8) ∨ (q = a1 ∧ j = 14)) ∨ I' q j = I q j) ∧ (∀ q j : Nat, ((q = 23 ∧ j = 9)) ∨ J' q j = J q j) ∧ gc_LT I' ∧ gc_TK I' ∧ (∃ z : Int, r = some (.inl z) ∧ 0 ≤ z ∧ z ≤ 1 ∧ (I' 23 1 = I 23 1) ∧ (I 23 5 ≤ I' 23 5) ∧ (gs_Or z (0 ≤ (gs_ls β η Ir Jr nf9 a9 1002 0 p9) ∧ gc_AT β η (gs_ls β η Ir Jr nf9 a9 1002 0 p9) 23 I' J') ((gs_ls β η Ir Jr nf9 a9 1002 0 p9) < 0 ∧ I' 39 4 = -1 - (gs_ls β η Ir Jr nf9 a9 1002 0 p9))))) := by
  have FI : ∀ q j : Nat, ((q = 39 ∧ j = 3) ∨ (q = 39 ∧ j = 4) ∨ (q = 23 ∧ j = 5) ∨ (q = 23 ∧ j = 6) ∨ (q = 23 ∧ j = 7) ∨ (q = 23 ∧ j = 8) ∨ q = (a1 + 7) ∨ (q = a1 ∧ j = 12) ∨ q = (a1 + 8) ∨ (q = a1 ∧ j = 14)) ∨ I q j = I q j := fun _ _ => Or.inr rfl
  have FJ : ∀ q j : Nat, ((q = 23 ∧ j = 9)) ∨ J q j = J q j := fun _ _ => Or.inr rfl
  have A_39_1 : A 39 1 = some 23 := gc_bA_39_1 hb
  have B_23 : 23 < 1000000 := by decide
  have B_39 : 39 < 1000000 := by decide
  have R_23 : ro 23 = 3 := gc_bR_23 hb
  have R_39 : ro 39 = 42 := gc_bR_39 hb
  have S_23 : sh[23]? = some (false, 9, 10) := gc_bS_23 hb
  have S_39 : sh[39]? = some (false, 6, 19) := gc_bS_39 hb
  obtain ⟨S_a1, R_a1, B_a1, A_a1_5, S_a1_1, R_a1_1, B_a1_1, A_a1_6, S_a1_2, R_a1_2, B_a1_2, A_a1_7, S_a1_3, R_a1_3, B_a1_3, A_a1_9, S_a1_4, R_a1_4, B_a1_4, A_a1_10, S_a1_5, R_a1_5, B_a1_5, A_a1_11, S_a1_6, R_a1_6, B_a1_6, A_a1_13, S_a1_7, R_a1_7, B_a1_7, A_a1_15, S_a1_8, R_a1_8, B_a1_8⟩ := id h_a1
  obtain ⟨S_t, R_t, B_t, A_t_0, h_t_1, A_t_1, h_t_3, A_t_2, S_t_5, R_t_5, B_t_5, A_t_3, S_t_6, R_t_6, B_t_6, A_t_4, h_t_7, A_t_5, S_t_9, R_t_9, B_t_9, A_t_7, S_t_10, R_t_10, B_t_10, A_t_8, h_t_11, A_t_9, S_t_13, R_t_13, B_t_13, A_t_10, S_t_14, R_t_14, B_t_14, A_t_12, S_t_15, R_t_15, B_t_15, A_t_14, S_t_16, R_t_16, B_t_16, A_t_15, h_t_17⟩ := id h_t
  obtain ⟨S_t_1, R_t_1, B_t_1, A_t_1_0, S_t_1_1, R_t_1_1, B_t_1_1, Q0_t_1, Q1_t_1, Q2_t_1⟩ := id h_t_1
  obtain ⟨S_t_3, R_t_3, B_t_3, A_t_3_0, S_t_3_1, R_t_3_1, B_t_3_1, Q0_t_3, Q1_t_3, Q2_t_3⟩ := id h_t_3
  obtain ⟨S_t_7, R_t_7, B_t_7, A_t_7_0, S_t_7_1, R_t_7_1, B_t_7_1, Q0_t_7, Q1_t_7, Q2_t_7⟩ := id h_t_7
  obtain ⟨S_t_11, R_t_11, B_t_11, A_t_11_0, S_t_11_1, R_t_11_1, B_t_11_1, Q0_t_11, Q1_t_11, Q2_t_11⟩ := id h_t_11
  obtain ⟨S_t_17, R_t_17, B_t_17, A_t_17_0, S_20, R_20, B_20, A_t_17_1, S_t_17_1, R_t_17_1, B_t_17_1, A_t_17_2, S_t_17_2, R_t_17_2, B_t_17_2, A_t_17_3, S_t_17_3, R_t_17_3, B_t_17_3, A_t_17_4, S_t_17_4, R_t_17_4, B_t_17_4, A_t_17_5, S_t_17_5, R_t_17_5, B_t_17_5, S_t_17_6, R_t_17_6, B_t_17_6, S_t_17_7, R_t_17_7, B_t_17_7⟩ := id h_t_17
  have N1 := gc_dj_LT h_a1 h_t
  have hD : gv_D (gc_E6 ws0 tb 4 (yX6_readSaids, cX6_readSaids, 4, (some .boolean)) kX6_readSaids) := gq_of oX6_readSaids
  refine gc_ev6 (d := 4) (l := kX6_readSaids) (Po := fun r h' => (∃ (I' : gr_I) (J' : gr_J), h' = gc_h sh I' J' A ∧ gc_Inv ro I' ∧ (∀ q j : Nat, ((q = 39 ∧ j = 3) ∨ (q = 39 ∧ j = 4) ∨ (q = 23 ∧ j = 5) ∨ (q = 23 ∧ j = 6) ∨ (q = 23 ∧ j = 7) ∨ (q = 23 ∧ j = 8) ∨ q = (a1 + 7) ∨ (q = a1 ∧ j = 12) ∨ q = (a1 + 8) ∨ (q = a1 ∧ j = 14)) ∨ I' q j = I q j) ∧ (∀ q j : Nat, ((q = 23 ∧ j = 9)) ∨ J' q j = J q j) ∧ gc_LT I' ∧ gc_TK I' ∧ (∃ z : Int, r = some (.inl z) ∧ 0 ≤ z ∧ z ≤ 1 ∧ (I' 23 1 = I 23 1) ∧ (I 23 5 ≤ I' 23 5) ∧ (gs_Or z (0 ≤ (gs_ls β η Ir Jr nf9 a9 1002 0 p9) ∧ gc_AT β η (gs_ls β η Ir Jr nf9 a9 1002 0 p9) 23 I' J') ((gs_ls β η Ir Jr nf9 a9 1002 0 p9) < 0 ∧ I' 39 4 = -1 - (gs_ls β η Ir Jr nf9 a9 1002 0 p9)))))) htb rfl (Nat.le_of_ble_eq_true rfl) ?_
  have N_23__a1_7 : ¬ (23 = (a1 + 7)) := by exact gz_m 0 (by omega)
  have N_a1__a1_7 : ¬ (a1 = (a1 + 7)) := by exact gz_m 1 (by omega)
  have N_39__a1_7 : ¬ (39 = (a1 + 7)) := by exact gz_m 2 (by omega)
  have N_23__a1_8 : ¬ (23 = (a1 + 8)) := by exact gz_m 3 (by omega)
  have N_a1__a1_8 : ¬ (a1 = (a1 + 8)) := by exact gz_m 4 (by omega)
  have N_39__a1_8 : ¬ (39 = (a1 + 8)) := by exact gz_m 5 (by omega)
  have t1 := gc_TK_mo KTK_I
  have f2 := (gc_b_3_1 hI R_23)
  have f3 := (gc_b_3_5 hI R_23)
  have f4 := (gc_b_3_6 hI R_23)
  have f5 := (gc_b_3_7 hI R_23)
  have f6 := (show 0 ≤ I a1 12 ∧ I a1 12 ≤ 6 from gc_in2 hI R_a1 rfl rfl rfl)
  have f7 := (show 0 ≤ I a1 14 ∧ I a1 14 ≤ 6 from gc_in2 hI R_a1 rfl rfl rfl)
  have f8 := (gc_b_42_2 hI R_39)
  have tAT := gc_AT_l x1
  have L2 : ∀ (n9 : Nat) (I9 : gr_I) (J10 : gr_J) (v2_11 : Int) (p_11 : Int), (8 - v2_11).toNat < n9 → gc_Inv ro I9 → (∀ q j : Nat, ((q = 39 ∧ j = 3) ∨ (q = 39 ∧ j = 4) ∨ (q = 23 ∧ j = 5) ∨ (q = 23 ∧ j = 6) ∨ (q = 23 ∧ j = 7) ∨ (q = 23 ∧ j = 8) ∨ q = (a1 + 7) ∨ (q = a1 ∧ j = 12) ∨ q = (a1 + 8) ∨ (q = a1 ∧ j = 14)) ∨ I9 q j = I q j) → (∀ q j : Nat, ((q = 23 ∧ j = 9)) ∨ J10 q j = J q j) → gc_LT I9 → gc_TK I9 → ((0 ≤ v2_11 ∧ v2_11 ≤ 7) ∧ (0 ≤ p_11) ∧ (I9 a1 12 + I9 a1 14 = v2_11) ∧ (v2_11 ≤ 6) ∧ (I9 23 1 = I 23 1) ∧ (I 23 5 ≤ I9 23 5) ∧ (I9 a1 12 + I9 a1 14 ≤ 6) ∧ (I9 39 2 = (t : Int))) → (gc_AT β η p_11 23 I9 J10) → ((gs_ls β η Ir Jr nf9 a9 1002 0 p9) = gs_ls β η Ir Jr nf9 a9 (Int.toNat (1002 - v2_11)) v2_11 p_11) → gv_X (gc_E6 ws0 tb 4 (yX6_readSaids, cX6_readSaids, 4, (some .boolean)) kX6_readSaids) (gv_Q cX6_readSaids (some .boolean) sh (fun r h' => (∃ (I' : gr_I) (J' : gr_J), h' = gc_h sh I' J' A ∧ gc_Inv ro I' ∧ (∀ q j : Nat, ((q = 39 ∧ j = 3) ∨ (q = 39 ∧ j = 4) ∨ (q = 23 ∧ j = 5) ∨ (q = 23 ∧ j = 6) ∨ (q = 23 ∧ j = 7) ∨ (q = 23 ∧ j = 8) ∨ q = (a1 + 7) ∨ (q = a1 ∧ j = 12) ∨ q = (a1 + 8) ∨ (q = a1 ∧ j = 14)) ∨ I' q j = I q j) ∧ (∀ q j : Nat, ((q = 23 ∧ j = 9)) ∨ J' q j = J q j) ∧ gc_LT I' ∧ gc_TK I' ∧ (∃ z : Int, r = some (.inl z) ∧ 0 ≤ z ∧ z ≤ 1 ∧ (I' 23 1 = I 23 1) ∧ (I 23 5 ≤ I' 23 5) ∧ (gs_Or z (0 ≤ (gs_ls β η Ir Jr nf9 a9 1002 0 p9) ∧ gc_AT β η (gs_ls β η Ir Jr nf9 a9 1002 0 p9) 23 I' J') ((gs_ls β η Ir Jr nf9 a9 1002 0 p9) < 0 ∧ I' 39 4 = -1 - (gs_ls β η Ir Jr nf9 a9 1002 0 p9))))))) (2, [(0, .inr (.inr (some 39))), (1, .inr (.inr (some a1))), (2, .inl v2_11)], [], sh, gc_h sh I9 J10 A) := by
    intro n9
    induction n9 with
    | zero => intro I9 J10 v2_11 p_11 hn; exact gz_m 6 (by omega)
    | succ n9 ih2 =>
      intro I9 J10 v2_11 p_11 hn hI9 FI9 FJ10 KLT_I9 KTK_I9 m_11 e1_11 e2_11
      obtain ⟨hv2_11, e0_11, e3_11, e4_11, e5_11, e6_11, e7_11, e8_11⟩ := m_11
      have t12 := gc_TK_mo KTK_I9
      have f13 := (gc_b_3_1 hI9 R_23)
      have f14 := (gc_b_3_5 hI9 R_23)
      have f15 := (gc_b_3_6 hI9 R_23)
      have f16 := (gc_b_3_7 hI9 R_23)
      have f17 := (show 0 ≤ I9 a1 12 ∧ I9 a1 12 ≤ 6 from gc_in2 hI9 R_a1 rfl rfl rfl)
      have f18 := (show 0 ≤ I9 a1 14 ∧ I9 a1 14 ≤ 6 from gc_in2 hI9 R_a1 rfl rfl rfl)
      have f19 := (gc_b_42_2 hI9 R_39)
      have t20 := gc_AT_l e1_11
      refine gv_run 2 true hD (pc' := 5) (lv' := [(0, .inr (.inr (some 39))), (1, .inr (.inr (some a1))), (2, .inl v2_11)]) (st' := [.inl 6, .inl v2_11]) (h' := gc_h sh I9 J10 A) (C := ((True ∧ True) ∧ True)) rfl ⟨⟨trivial, trivial⟩, trivial⟩ ?_
      refine gv_icmp_gt (t := 127) hD rfl rfl ⟨⟨by exact gz_m 7 (by omega), by exact gz_m 8 (by omega)⟩, ⟨by exact gz_m 9 (by omega), by exact gz_m 10 (by omega)⟩⟩ (fun c21 => ?_) (fun c21 => ?_)
      · show gv_X _ _ (127, [(0, .inr (.inr (some 39))), (1, .inr (.inr (some a1))), (2, .inl v2_11)], [], sh, gc_h sh I9 J10 A)
        refine gv_run 1 true hD (pc' := 128) (lv' := [(0, .inr (.inr (some 39))), (1, .inr (.inr (some a1))), (2, .inl v2_11)]) (st' := [.inl 1]) (h' := gc_h sh I9 J10 A) (C := (True ∧ True)) rfl ⟨trivial, trivial⟩ ?_
        exact gv_zret hD rfl (by exact gz_m 11 (by omega)) ⟨I9, J10, rfl, hI9, FI9, FJ10, KLT_I9, KTK_I9, ⟨_, rfl, by exact gz_m 12 (by omega), by exact gz_m 13 (by omega), by exact gz_m 14 (by omega), by exact gz_m 15 (by omega), (Or.inl ⟨by exact gz_m 16 (by omega), by rw [show (gs_ls β η Ir Jr nf9 a9 1002 0 p9) = p_11 from e2_11.trans (gs_ls_e (by exact gz_m 17 (by omega)))]; exact ⟨by exact gz_m 18 (by omega), e1_11⟩⟩)⟩⟩
      · show gv_X _ _ (8, [(0, .inr (.inr (some 39))), (1, .inr (.inr (some a1))), (2, .inl v2_11)], [], sh, gc_h sh I9 J10 A)
        refine gv_run 1 true hD (pc' := 9) (lv' := [(0, .inr (.inr (some 39))), (1, .inr (.inr (some a1))), (2, .inl v2_11)]) (st' := [.inr (.inr (some 39))]) (h' := gc_h sh I9 J10 A) (C := (True ∧ True)) rfl ⟨trivial, trivial⟩ ?_
        refine gv_get hD rfl rfl S_39 ⟨by decide, B_39⟩ (gc_hA S_39 rfl A_39_1) ?_
        show gv_X _ _ (12, [(0, .inr (.inr (some 39))), (1, .inr (.inr (some a1))), (2, .inl v2_11)], [.inr (.inr (some 23))], sh, gc_h sh I9 J10 A)
        have f22 := (gc_b_3_7 hI9 R_23)
        refine gv_get hD rfl rfl S_23 ⟨by decide, B_23⟩ (gc_hI S_23 rfl) ?_
        show gv_X _ _ (15, [(0, .inr (.inr (some 39))), (1, .inr (.inr (some a1))), (2, .inl v2_11)], [.inl (I9 23 7)], sh, gc_h sh I9 J10 A)
        refine gv_run 1 true hD (pc' := 17) (lv' := [(0, .inr (.inr (some 39))), (1, .inr (.inr (some a1))), (2, .inl v2_11)]) (st' := [.inl 44, .inl (I9 23 7)]) (h' := gc_h sh I9 J10 A) (C := (True ∧ True)) rfl ⟨trivial, trivial⟩ ?_
        refine gv_icmp_ne (t := 127) hD rfl rfl ⟨⟨by exact gz_m 19 (by omega), by exact gz_m 20 (by omega)⟩, ⟨by exact gz_m 21 (by omega), by exact gz_m 22 (by omega)⟩⟩ (fun c23 => ?_) (fun c23 => ?_)
        · show gv_X _ _ (127, [(0, .inr (.inr (some 39))), (1, .inr (.inr (some a1))), (2, .inl v2_11)], [], sh, gc_h sh I9 J10 A)
          refine gv_run 1 true hD (pc' := 128) (lv' := [(0, .inr (.inr (some 39))), (1, .inr (.inr (some a1))), (2, .inl v2_11)]) (st' := [.inl 1]) (h' := gc_h sh I9 J10 A) (C := (True ∧ True)) rfl ⟨trivial, trivial⟩ ?_
          exact gv_zret hD rfl (by exact gz_m 23 (by omega)) ⟨I9, J10, rfl, hI9, FI9, FJ10, KLT_I9, KTK_I9, ⟨_, rfl, by exact gz_m 24 (by omega), by exact gz_m 25 (by omega), by exact gz_m 26 (by omega), by exact gz_m 27 (by omega), (Or.inl ⟨by exact gz_m 28 (by omega), by rw [show (gs_ls β η Ir Jr nf9 a9 1002 0 p9) = p_11 from e2_11.trans (gs_ls_e (by exact gz_m 29 (by omega)))]; exact ⟨by exact gz_m 30 (by omega), e1_11⟩⟩)⟩⟩
        · show gv_X _ _ (20, [(0, .inr (.inr (some 39))), (1, .inr (.inr (some a1))), (2, .inl v2_11)], [], sh, gc_h sh I9 J10 A)
          refine gv_run 1 true hD (pc' := 21) (lv' := [(0, .inr (.inr (some 39))), (1, .inr (.inr (some a1))), (2, .inl v2_11)]) (st' := [.inr (.inr (some 39))]) (h' := gc_h sh I9 J10 A) (C := (True ∧ True)) rfl ⟨trivial, trivial⟩ ?_
          refine gv_get hD rfl rfl S_39 ⟨by decide, B_39⟩ (gc_hA S_39 rfl A_39_1) ?_
          show gv_X _ _ (24, [(0, .inr (.inr (some 39))), (1, .inr (.inr (some a1))), (2, .inl v2_11)], [.inr (.inr (some 23))], sh, gc_h sh I9 J10 A)
          have t25 := gc_TK_nx KTK_I9 (by exact gz_m 31 (by omega))
          obtain ⟨r24, h24, E24, P24⟩ := d_X9_advance_p (ws0 := ws0) (tb := tb) hws htb sh ro I9 J10 A hI9 23 β η  (gc_b23 hb)    (by exact gz_m 32 (by omega)) e1_11.1.1 e1_11.1.2 
          obtain ⟨I26, J27, rfl, hI26, g24, k24, ⟨rfl, V24_0, V24_1, V24_2, V24_3, V24_4, q24⟩⟩ := P24
          have FI26 := gc_frc (W := fun q j => (q = 39 ∧ j = 3) ∨ (q = 39 ∧ j = 4) ∨ (q = 23 ∧ j = 5) ∨ (q = 23 ∧ j = 6) ∨ (q = 23 ∧ j = 7) ∨ (q = 23 ∧ j = 8) ∨ q = (a1 + 7) ∨ (q = a1 ∧ j = 12) ∨ q = (a1 + 8) ∨ (q = a1 ∧ j = 14)) (V := fun q j => (q = 23 ∧ j = 5) ∨ (q = 23 ∧ j = 6) ∨ (q = 23 ∧ j = 7) ∨ (q = 23 ∧ j = 8)) FI9 (fun q j h => (h.elim (fun h => (Or.inr (Or.inr (Or.inl h)))) (fun h => (h.elim (fun h => (Or.inr (Or.inr (Or.inr (Or.inl h))))) (fun h => (h.elim (fun h => (Or.inr (Or.inr (Or.inr (Or.inr (Or.inl h)))))) (fun h => (Or.inr (Or.inr (Or.inr (Or.inr (Or.inr (Or.inl h))))))))))))) g24
          have FJ27 := gc_frc (W := fun q j => (q = 23 ∧ j = 9)) (V := fun q j => (q = 23 ∧ j = 9)) FJ10 (fun q j h => h) k24
          have t28 := (g24 23 1).resolve_left (fun h => h.elim (fun h => absurd h.2 (gz_ne rfl)) (fun h => h.elim (fun h => absurd h.2 (gz_ne rfl)) (fun h => h.elim (fun h => absurd h.2 (gz_ne rfl)) (fun h => absurd h.2 (gz_ne rfl)))))
          have t29 := (g24 a1 12).resolve_left (fun h => h.elim (fun h => absurd h.2 (gz_ne rfl)) (fun h => h.elim (fun h => absurd h.2 (gz_ne rfl)) (fun h => h.elim (fun h => absurd h.2 (gz_ne rfl)) (fun h => absurd h.2 (gz_ne rfl)))))
          have t30 := (g24 a1 14).resolve_left (fun h => h.elim (fun h => absurd h.2 (gz_ne rfl)) (fun h => h.elim (fun h => absurd h.2 (gz_ne rfl)) (fun h => h.elim (fun h => absurd h.2 (gz_ne rfl)) (fun h => absurd h.2 (gz_ne rfl)))))
          have t31 := (g24 39 2).resolve_left (fun h => h.elim (fun h => absurd h.2 (gz_ne rfl)) (fun h => h.elim (fun h => absurd h.2 (gz_ne rfl)) (fun h => h.elim (fun h => absurd h.2 (gz_ne rfl)) (fun h => absurd h.2 (gz_ne rfl)))))
          have f32 := (gc_b_3_5 hI26 R_23)
          have f33 := (gc_b_3_6 hI26 R_23)
          have f34 := (gc_b_3_7 hI26 R_23)
          have KLT_I26 : gc_LT I26 := q24.2.2.1
          have KTK_I26 : gc_TK I26 := And.intro V24_0 (And.intro V24_1 (And.intro V24_2 (And.intro V24_3 V24_4)))
          have t35 := gc_TK_mo KTK_I26
          clear V24_0 V24_1 V24_2 V24_3 V24_4
          have A36 := gc_AT_nx e1_11 q24.2.2.2
          have t37 := gc_AT_l A36
          refine gv_callV hD rfl (As := []) (st := []) rfl B_23 S_23 rfl (gc_lV6 hws rfl) (Nat.le_of_ble_eq_true rfl) (gz_Ev_mono (d := 2) (by decide) E24) ?_
          show gv_X _ _ (27, [(0, .inr (.inr (some 39))), (1, .inr (.inr (some a1))), (2, .inl v2_11)], [], sh, gc_h sh I26 J27 A)
          refine gv_run 2 true hD (pc' := 31) (lv' := [(0, .inr (.inr (some 39))), (1, .inr (.inr (some a1))), (2, .inl v2_11)]) (st' := [.inr (.inl (418347378021)), .inr (.inr (some 39))]) (h' := gc_h sh I26 J27 A) (C := ((True ∧ True) ∧ True)) rfl ⟨⟨trivial, trivial⟩, trivial⟩ ?_
          obtain ⟨r38, h38, E38, P38⟩ := d_X6_isWord_p (ws0 := ws0) (tb := tb) hws htb sh ro I26 J27 A hI26  β η (gs_X β η p_11) (418347378021) hb    A36 (by exact gz_m 33 (by omega)) 
          obtain ⟨rfl, ⟨z38, rfl, q38⟩⟩ := P38
          have t39 : z38 = gs_kw β η (gs_X β η p_11) (gs_W 95) := q38.2.2.2.trans (gs_kwc_kw (gs_W_al 95 (by decide) (by decide)))
          refine gv_callV hD rfl (As := [.inr (.inl (418347378021))]) (st := []) rfl B_39 S_39 rfl (gc_lV6 hws rfl) (Nat.le_of_ble_eq_true rfl) (gz_Ev_mono (d := 1) (by decide) E38) ?_
          show gv_X _ _ (34, [(0, .inr (.inr (some 39))), (1, .inr (.inr (some a1))), (2, .inl v2_11)], [.inl z38], sh, gc_h sh I26 J27 A)
          refine gv_run 2 true hD (pc' := 36) (lv' := [(3, .inl z38), (0, .inr (.inr (some 39))), (1, .inr (.inr (some a1))), (2, .inl v2_11)]) (st' := [.inl z38]) (h' := gc_h sh I26 J27 A) (C := ((True ∧ True) ∧ True)) rfl ⟨⟨trivial, trivial⟩, trivial⟩ ?_
          refine gv_if_ne (t := 62) hD rfl rfl ⟨by exact gz_m 34 (by omega), by exact gz_m 35 (by omega)⟩ (fun c40 => ?_) (fun c40 => ?_)
          · show gv_X _ _ (62, [(3, .inl z38), (0, .inr (.inr (some 39))), (1, .inr (.inr (some a1))), (2, .inl v2_11)], [], sh, gc_h sh I26 J27 A)
            refine gv_run 1 true hD (pc' := 63) (lv' := [(3, .inl z38), (0, .inr (.inr (some 39))), (1, .inr (.inr (some a1))), (2, .inl v2_11)]) (st' := [.inr (.inr (some a1))]) (h' := gc_h sh I26 J27 A) (C := (True ∧ True)) rfl ⟨trivial, trivial⟩ ?_
            have f41 := (show 0 ≤ I26 a1 12 ∧ I26 a1 12 ≤ 6 from gc_in2 hI26 R_a1 rfl rfl rfl)
            refine gv_get hD rfl rfl S_a1 ⟨by decide, B_a1⟩ (gc_hI S_a1 rfl) ?_
            show gv_X _ _ (66, [(3, .inl z38), (0, .inr (.inr (some 39))), (1, .inr (.inr (some a1))), (2, .inl v2_11)], [.inl (I26 a1 12)], sh, gc_h sh I26 J27 A)
            refine gv_run 1 true hD (pc' := 67) (lv' := [(3, .inl z38), (0, .inr (.inr (some 39))), (1, .inr (.inr (some a1))), (2, .inl v2_11)]) (st' := [.inr (.inr (some a1)), .inl (I26 a1 12)]) (h' := gc_h sh I26 J27 A) (C := (True ∧ True)) rfl ⟨trivial, trivial⟩ ?_
            have f42 := (show 0 ≤ I26 a1 14 ∧ I26 a1 14 ≤ 6 from gc_in2 hI26 R_a1 rfl rfl rfl)
            refine gv_get hD rfl rfl S_a1 ⟨by decide, B_a1⟩ (gc_hI S_a1 rfl) ?_
            show gv_X _ _ (70, [(3, .inl z38), (0, .inr (.inr (some 39))), (1, .inr (.inr (some a1))), (2, .inl v2_11)], [.inl (I26 a1 14), .inl (I26 a1 12)], sh, gc_h sh I26 J27 A)
            refine gv_run 2 true hD (pc' := 73) (lv' := [(3, .inl z38), (0, .inr (.inr (some 39))), (1, .inr (.inr (some a1))), (2, .inl v2_11)]) (st' := [.inl 6, .inl ((I26 a1 12) + (I26 a1 14))]) (h' := gc_h sh I26 J27 A) (C := ((True ∧ True) ∧ True)) rfl ⟨⟨trivial, trivial⟩, trivial⟩ ?_
            refine gv_icmp_ne (t := 89) hD rfl rfl ⟨⟨by exact gz_m 36 (by omega), by exact gz_m 37 (by omega)⟩, ⟨by exact gz_m 38 (by omega), by exact gz_m 39 (by omega)⟩⟩ (fun c43 => ?_) (fun c43 => ?_)
            · show gv_X _ _ (89, [(3, .inl z38), (0, .inr (.inr (some 39))), (1, .inr (.inr (some a1))), (2, .inl v2_11)], [], sh, gc_h sh I26 J27 A)
              refine gv_run 1 true hD (pc' := 90) (lv' := [(3, .inl z38), (0, .inr (.inr (some 39))), (1, .inr (.inr (some a1))), (2, .inl v2_11)]) (st' := [.inr (.inr (some 39))]) (h' := gc_h sh I26 J27 A) (C := (True ∧ True)) rfl ⟨trivial, trivial⟩ ?_
              refine gv_get hD rfl rfl S_39 ⟨by decide, B_39⟩ (gc_hA S_39 rfl A_39_1) ?_
              show gv_X _ _ (93, [(3, .inl z38), (0, .inr (.inr (some 39))), (1, .inr (.inr (some a1))), (2, .inl v2_11)], [.inr (.inr (some 23))], sh, gc_h sh I26 J27 A)
              have t45 := gc_TK_nx KTK_I26 (by exact gz_m 40 (by omega))
              obtain ⟨r44, h44, E44, P44⟩ := d_X9_advance_p (ws0 := ws0) (tb := tb) hws htb sh ro I26 J27 A hI26 23 β η  (gc_b23 hb)    (by exact gz_m 41 (by omega)) A36.1.1 A36.1.2 
              obtain ⟨I46, J47, rfl, hI46, g44, k44, ⟨rfl, V44_0, V44_1, V44_2, V44_3, V44_4, q44⟩⟩ := P44
              have FI46 := gc_frc (W := fun q j => (q = 39 ∧ j = 3) ∨ (q = 39 ∧ j = 4) ∨ (q = 23 ∧ j = 5) ∨ (q = 23 ∧ j = 6) ∨ (q = 23 ∧ j = 7) ∨ (q = 23 ∧ j = 8) ∨ q = (a1 + 7) ∨ (q = a1 ∧ j = 12) ∨ q = (a1 + 8) ∨ (q = a1 ∧ j = 14)) (V := fun q j => (q = 23 ∧ j = 5) ∨ (q = 23 ∧ j = 6) ∨ (q = 23 ∧ j = 7) ∨ (q = 23 ∧ j = 8)) FI26 (fun q j h => (h.elim (fun h => (Or.inr (Or.inr (Or.inl h)))) (fun h => (h.elim (fun h => (Or.inr (Or.inr (Or.inr (Or.inl h))))) (fun h => (h.elim (fun h => (Or.inr (Or.inr (Or.inr (Or.inr (Or.inl h)))))) (fun h => (Or.inr (Or.inr (Or.inr (Or.inr (Or.inr (Or.inl h))))))))))))) g44
              have FJ47 := gc_frc (W := fun q j => (q = 23 ∧ j = 9)) (V := fun q j => (q = 23 ∧ j = 9)) FJ27 (fun q j h => h) k44
              have t48 := (g44 23 1).resolve_left (fun h => h.elim (fun h => absurd h.2 (gz_ne rfl)) (fun h => h.elim (fun h => absurd h.2 (gz_ne rfl)) (fun h => h.elim (fun h => absurd h.2 (gz_ne rfl)) (fun h => absurd h.2 (gz_ne rfl)))))
              have t49 := (g44 a1 12).resolve_left (fun h => h.elim (fun h => absurd h.2 (gz_ne rfl)) (fun h => h.elim (fun h => absurd h.2 (gz_ne rfl)) (fun h => h.elim (fun h => absurd h.2 (gz_ne rfl)) (fun h => absurd h.2 (gz_ne rfl)))))
              have t50 := (g44 a1 14).resolve_left (fun h => h.elim (fun h => absurd h.2 (gz_ne rfl)) (fun h => h.elim (fun h => absurd h.2 (gz_ne rfl)) (fun h => h.elim (fun h => absurd h.2 (gz_ne rfl)) (fun h => absurd h.2 (gz_ne rfl)))))
              have t51 := (g44 39 2).resolve_left (fun h => h.elim (fun h => absurd h.2 (gz_ne rfl)) (fun h => h.elim (fun h => absurd h.2 (gz_ne rfl)) (fun h => h.elim (fun h => absurd h.2 (gz_ne rfl)) (fun h => absurd h.2 (gz_ne rfl)))))
              have f52 := (gc_b_3_5 hI46 R_23)
              have f53 := (gc_b_3_6 hI46 R_23)
              have f54 := (gc_b_3_7 hI46 R_23)
              have KLT_I46 : gc_LT I46 := q44.2.2.1
              have KTK_I46 : gc_TK I46 := And.intro V44_0 (And.intro V44_1 (And.intro V44_2 (And.intro V44_3 V44_4)))
              have t55 := gc_TK_mo KTK_I46
              clear V44_0 V44_1 V44_2 V44_3 V44_4
              have A56 := gc_AT_nx A36 q44.2.2.2
              have t57 := gc_AT_l A56
              refine gv_callV hD rfl (As := []) (st := []) rfl B_23 S_23 rfl (gc_lV6 hws rfl) (Nat.le_of_ble_eq_true rfl) (gz_Ev_mono (d := 2) (by decide) E44) ?_
              show gv_X _ _ (96, [(3, .inl z38), (0, .inr (.inr (some 39))), (1, .inr (.inr (some a1))), (2, .inl v2_11)], [], sh, gc_h sh I46 J47 A)
              refine gv_run 1 true hD (pc' := 97) (lv' := [(3, .inl z38), (0, .inr (.inr (some 39))), (1, .inr (.inr (some a1))), (2, .inl v2_11)]) (st' := [.inl z38]) (h' := gc_h sh I46 J47 A) (C := (True ∧ True)) rfl ⟨trivial, trivial⟩ ?_
              refine gv_if_eq (t := 111) hD rfl rfl ⟨by exact gz_m 42 (by omega), by exact gz_m 43 (by omega)⟩ (fun c58 => ?_) (fun c58 => ?_)
              · exfalso; exact gz_m 44 (by omega)
              · show gv_X _ _ (100, [(3, .inl z38), (0, .inr (.inr (some 39))), (1, .inr (.inr (some a1))), (2, .inl v2_11)], [], sh, gc_h sh I46 J47 A)
                refine gv_run 2 true hD (pc' := 102) (lv' := [(3, .inl z38), (0, .inr (.inr (some 39))), (1, .inr (.inr (some a1))), (2, .inl v2_11)]) (st' := [.inr (.inr (some a1)), .inr (.inr (some 39))]) (h' := gc_h sh I46 J47 A) (C := ((True ∧ True) ∧ True)) rfl ⟨⟨trivial, trivial⟩, trivial⟩ ?_
                obtain ⟨r59, h59, E59, P59⟩ := d_X6_readAgree_p (ws0 := ws0) (tb := tb) hws htb sh ro I46 J47 A hI46  t β η ((gs_X β η (gs_X β η p_11))) Ir Jr nf9 a9 a1 hb h_a1 G_a1 h_t G_t   (by exact gz_m 45 (by omega)) A56 (by exact gz_m 46 (by omega)) (gs_SO_fr x3 (fun k => ((((g44 (a1 + 6) k).resolve_left (by exact gz_m 47 (by omega))).trans ((g24 (a1 + 6) k).resolve_left (by exact gz_m 48 (by omega)))).trans ((FI9 (a1 + 6) k).resolve_left (by exact gz_m 49 (by omega)))))) (by exact gz_m 50 (by omega)) (by have h9 := x5; have h8 := (show I46 (t + 1) 1 = I (t + 1) 1 from ((((g44 (t + 1) 1).resolve_left (by exact gz_m 51 (by omega))).trans ((g24 (t + 1) 1).resolve_left (by exact gz_m 52 (by omega)))).trans ((FI9 (t + 1) 1).resolve_left (by exact gz_m 53 (by omega))))); exact gz_m 54 (by omega)) (by rw [show I46 (t + 1) 1 = I (t + 1) 1 from ((((g44 (t + 1) 1).resolve_left (by exact gz_m 55 (by omega))).trans ((g24 (t + 1) 1).resolve_left (by exact gz_m 56 (by omega)))).trans ((FI9 (t + 1) 1).resolve_left (by exact gz_m 57 (by omega)))), show J47 (t + 2) = J (t + 2) from funext fun j => ((((k44 (t + 2) j).resolve_left (by exact gz_m 58 (by omega))).trans ((k24 (t + 2) j).resolve_left (by exact gz_m 59 (by omega)))).trans ((FJ10 (t + 2) j).resolve_left (by exact gz_m 60 (by omega))))]; exact x6) (by exact gz_m 61 (by omega)) KLT_I46 KTK_I46
                obtain ⟨I60, J61, rfl, hI60, g59, k59, KLT_I60, KTK_I60, ⟨z59, rfl, q59⟩⟩ := P59
                have FI60 := gc_frc (W := fun q j => (q = 39 ∧ j = 3) ∨ (q = 39 ∧ j = 4) ∨ (q = 23 ∧ j = 5) ∨ (q = 23 ∧ j = 6) ∨ (q = 23 ∧ j = 7) ∨ (q = 23 ∧ j = 8) ∨ q = (a1 + 7) ∨ (q = a1 ∧ j = 12) ∨ q = (a1 + 8) ∨ (q = a1 ∧ j = 14)) (V := fun q j => (q = 39 ∧ j = 3) ∨ (q = 39 ∧ j = 4) ∨ (q = 23 ∧ j = 5) ∨ (q = 23 ∧ j = 6) ∨ (q = 23 ∧ j = 7) ∨ (q = 23 ∧ j = 8) ∨ q = (a1 + 7) ∨ (q = a1 ∧ j = 12)) FI46 (fun q j h => (h.elim (fun h => (Or.inl h)) (fun h => (h.elim (fun h => (Or.inr (Or.inl h))) (fun h => (h.elim (fun h => (Or.inr (Or.inr (Or.inl h)))) (fun h => (h.elim (fun h => (Or.inr (Or.inr (Or.inr (Or.inl h))))) (fun h => (h.elim (fun h => (Or.inr (Or.inr (Or.inr (Or.inr (Or.inl h)))))) (fun h => (h.elim (fun h => (Or.inr (Or.inr (Or.inr (Or.inr (Or.inr (Or.inl h))))))) (fun h => (h.elim (fun h => (Or.inr (Or.inr (Or.inr (Or.inr (Or.inr (Or.inr (Or.inl h)))))))) (fun h => (Or.inr (Or.inr (Or.inr (Or.inr (Or.inr (Or.inr (Or.inr (Or.inl h))))))))))))))))))))))) g59
                have FJ61 := gc_frc (W := fun q j => (q = 23 ∧ j = 9)) (V := fun q j => (q = 23 ∧ j = 9)) FJ47 (fun q j h => h) k59
                have t62 := (g59 23 1).resolve_left (fun h => h.elim (fun h => absurd h.2 (gz_ne rfl)) (fun h => h.elim (fun h => absurd h.2 (gz_ne rfl)) (fun h => h.elim (fun h => absurd h.2 (gz_ne rfl)) (fun h => h.elim (fun h => absurd h.2 (gz_ne rfl)) (fun h => h.elim (fun h => absurd h.2 (gz_ne rfl)) (fun h => h.elim (fun h => absurd h.2 (gz_ne rfl)) (fun h => h.elim (fun h => absurd h N_23__a1_7) (fun h => absurd h.2 (gz_ne rfl)))))))))
                have t63 := (g59 a1 14).resolve_left (fun h => h.elim (fun h => absurd h.2 (gz_ne rfl)) (fun h => h.elim (fun h => absurd h.2 (gz_ne rfl)) (fun h => h.elim (fun h => absurd h.2 (gz_ne rfl)) (fun h => h.elim (fun h => absurd h.2 (gz_ne rfl)) (fun h => h.elim (fun h => absurd h.2 (gz_ne rfl)) (fun h => h.elim (fun h => absurd h.2 (gz_ne rfl)) (fun h => h.elim (fun h => absurd h N_a1__a1_7) (fun h => absurd h.2 (gz_ne rfl)))))))))
                have t64 := (g59 39 2).resolve_left (fun h => h.elim (fun h => absurd h.2 (gz_ne rfl)) (fun h => h.elim (fun h => absurd h.2 (gz_ne rfl)) (fun h => h.elim (fun h => absurd h.2 (gz_ne rfl)) (fun h => h.elim (fun h => absurd h.2 (gz_ne rfl)) (fun h => h.elim (fun h => absurd h.2 (gz_ne rfl)) (fun h => h.elim (fun h => absurd h.2 (gz_ne rfl)) (fun h => h.elim (fun h => absurd h N_39__a1_7) (fun h => absurd h.2 (gz_ne rfl)))))))))
                have f65 := (gc_b_3_5 hI60 R_23)
                have f66 := (gc_b_3_6 hI60 R_23)
                have f67 := (gc_b_3_7 hI60 R_23)
                have f68 := (show 0 ≤ I60 a1 12 ∧ I60 a1 12 ≤ 6 from gc_in2 hI60 R_a1 rfl rfl rfl)
                have t69 := gc_TK_mo KTK_I60
                refine gv_callV hD rfl (As := [.inr (.inr (some a1))]) (st := []) rfl B_39 S_39 rfl (gc_lV6 hws rfl) (Nat.le_of_ble_eq_true rfl) (gz_Ev_mono (d := 4) (by decide) E59) ?_
                show gv_X _ _ (105, [(3, .inl z38), (0, .inr (.inr (some 39))), (1, .inr (.inr (some a1))), (2, .inl v2_11)], [.inl z59], sh, gc_h sh I60 J61 A)
                refine gv_if_eq (t := 119) hD rfl rfl ⟨by exact gz_m 62 (by omega), by exact gz_m 63 (by omega)⟩ (fun c70 => ?_) (fun c70 => ?_)
                · show gv_X _ _ (119, [(3, .inl z38), (0, .inr (.inr (some 39))), (1, .inr (.inr (some a1))), (2, .inl v2_11)], [], sh, gc_h sh I60 J61 A)
                  obtain ⟨u71, u71_⟩ := gs_or0 q59.2.2.2.2.2 (by exact gz_m 64 (by omega))
                  refine gv_run 1 true hD (pc' := 120) (lv' := [(3, .inl z38), (0, .inr (.inr (some 39))), (1, .inr (.inr (some a1))), (2, .inl v2_11)]) (st' := [.inl 0]) (h' := gc_h sh I60 J61 A) (C := (True ∧ True)) rfl ⟨trivial, trivial⟩ ?_
                  exact gv_zret hD rfl (by exact gz_m 65 (by omega)) ⟨I60, J61, rfl, hI60, FI60, FJ61, KLT_I60, KTK_I60, ⟨_, rfl, by exact gz_m 66 (by omega), by exact gz_m 67 (by omega), by exact gz_m 68 (by omega), by exact gz_m 69 (by omega), (Or.inr ⟨by exact gz_m 70 (by omega), by first | (exfalso; exact gz_m 71 (by omega)) | (have e9 : gs_said β η Ir Jr nf9 v2_11 a9 (gs_X β η p_11) = gs_sa1 β η Ir Jr nf9 a9 (gs_ao β η nf9 a9 (gs_X β η (gs_X β η p_11))) := (by unfold gs_said gs_said1 gs_said2; (repeat first | rw [if_pos (by exact gz_m 72 (by omega))] | rw [if_neg (by exact gz_m 73 (by omega))])); rw [e2_11, show Int.toNat (1002 - v2_11) = Int.toNat (1002 - (v2_11 + 1)) + 1 from by exact gz_m 74 (by omega), gs_ls_f (by exact gz_m 75 (by omega)) (by rw [e9]; exact gz_m 76 (by omega)), e9]; exact ⟨by exact gz_m 77 (by omega), by exact gz_m 78 (by omega)⟩)⟩)⟩⟩
                · show gv_X _ _ (108, [(3, .inl z38), (0, .inr (.inr (some 39))), (1, .inr (.inr (some a1))), (2, .inl v2_11)], [], sh, gc_h sh I60 J61 A)
                  obtain ⟨u72, A72, U72⟩ := gs_or1 q59.2.2.2.2.2 (by exact gz_m 79 (by omega))
                  have t73 := gc_AT_l A72
                  refine gv_run 3 true hD (pc' := 2) (lv' := [(2, .inl (v2_11 + 1)), (3, .inl z38), (0, .inr (.inr (some 39))), (1, .inr (.inr (some a1)))]) (st' := []) (h' := gc_h sh I60 J61 A) (C := (((True ∧ True) ∧ True) ∧ True)) rfl ⟨⟨⟨trivial, trivial⟩, trivial⟩, trivial⟩ ?_
                  refine gv_pick [2, 3, 0] rfl ?_
                  exact ih2 I60 J61 (v2_11 + 1) ((gs_sa1 β η Ir Jr nf9 a9 (gs_ao β η nf9 a9 (gs_X β η (gs_X β η p_11))))) (by exact gz_m 80 (by omega)) hI60 FI60 FJ61 KLT_I60 KTK_I60 (by exact gz_m 81 (by omega)) A72 (e2_11.trans (by have e9 : gs_said β η Ir Jr nf9 v2_11 a9 (gs_X β η p_11) = (gs_sa1 β η Ir Jr nf9 a9 (gs_ao β η nf9 a9 (gs_X β η (gs_X β η p_11)))) := (by unfold gs_said gs_said1 gs_said2; (repeat first | rw [if_pos (by exact gz_m 82 (by omega))] | rw [if_neg (by exact gz_m 83 (by omega))])); rw [show Int.toNat (1002 - v2_11) = Int.toNat (1002 - (v2_11 + 1)) + 1 from by exact gz_m 84 (by omega), gs_ls_c (by exact gz_m 85 (by omega)) (by rw [e9]; exact gz_m 86 (by omega)), e9]))
            · show gv_X _ _ (76, [(3, .inl z38), (0, .inr (.inr (some 39))), (1, .inr (.inr (some a1))), (2, .inl v2_11)], [], sh, gc_h sh I26 J27 A)
              refine gv_run 3 true hD (pc' := 79) (lv' := [(3, .inl z38), (0, .inr (.inr (some 39))), (1, .inr (.inr (some a1))), (2, .inl v2_11)]) (st' := [.inr (.inr (some 39)), .inl 5, .inr (.inr (some 39))]) (h' := gc_h sh I26 J27 A) (C := (((True ∧ True) ∧ True) ∧ True)) rfl ⟨⟨⟨trivial, trivial⟩, trivial⟩, trivial⟩ ?_
              refine gv_get hD rfl rfl S_39 ⟨by decide, B_39⟩ (gc_hA S_39 rfl A_39_1) ?_
              show gv_X _ _ (82, [(3, .inl z38), (0, .inr (.inr (some 39))), (1, .inr (.inr (some a1))), (2, .inl v2_11)], [.inr (.inr (some 23)), .inl 5, .inr (.inr (some 39))], sh, gc_h sh I26 J27 A)
              have f74 := (gc_b_3_5 hI26 R_23)
              refine gv_get hD rfl rfl S_23 ⟨by decide, B_23⟩ (gc_hI S_23 rfl) ?_
              show gv_X _ _ (85, [(3, .inl z38), (0, .inr (.inr (some 39))), (1, .inr (.inr (some a1))), (2, .inl v2_11)], [.inl (I26 23 5), .inl 5, .inr (.inr (some 39))], sh, gc_h sh I26 J27 A)
              obtain ⟨r75, h75, E75, P75⟩ := d_X6_wrong_p (ws0 := ws0) (tb := tb) hws htb sh ro I26 J27 A hI26  5 (I26 23 5) hb   ⟨by exact gz_m 87 (by omega), by exact gz_m 88 (by omega)⟩ ⟨by exact gz_m 89 (by omega), by exact gz_m 90 (by omega)⟩  
              obtain ⟨I76, J77, rfl, hI76, g75, k75, ⟨z75, rfl, q75⟩⟩ := P75
              have FI76 := gc_frc (W := fun q j => (q = 39 ∧ j = 3) ∨ (q = 39 ∧ j = 4) ∨ (q = 23 ∧ j = 5) ∨ (q = 23 ∧ j = 6) ∨ (q = 23 ∧ j = 7) ∨ (q = 23 ∧ j = 8) ∨ q = (a1 + 7) ∨ (q = a1 ∧ j = 12) ∨ q = (a1 + 8) ∨ (q = a1 ∧ j = 14)) (V := fun q j => (q = 39 ∧ j = 3) ∨ (q = 39 ∧ j = 4)) FI26 (fun q j h => (h.elim (fun h => (Or.inl h)) (fun h => (Or.inr (Or.inl h))))) g75
              have t78 := (g75 23 1).resolve_left (fun h => h.elim (fun h => absurd h.2 (gz_ne rfl)) (fun h => absurd h.2 (gz_ne rfl)))
              have t79 := (g75 23 5).resolve_left (fun h => h.elim (fun h => absurd h.2 (gz_ne rfl)) (fun h => absurd h.2 (gz_ne rfl)))
              have t80 := (g75 23 6).resolve_left (fun h => h.elim (fun h => absurd h.2 (gz_ne rfl)) (fun h => absurd h.2 (gz_ne rfl)))
              have t81 := (g75 23 7).resolve_left (fun h => h.elim (fun h => absurd h.2 (gz_ne rfl)) (fun h => absurd h.2 (gz_ne rfl)))
              have t82 := (g75 a1 12).resolve_left (fun h => h.elim (fun h => absurd h.2 (gz_ne rfl)) (fun h => absurd h.2 (gz_ne rfl)))
              have t83 := (g75 a1 14).resolve_left (fun h => h.elim (fun h => absurd h.2 (gz_ne rfl)) (fun h => absurd h.2 (gz_ne rfl)))
              have t84 := (g75 39 2).resolve_left (fun h => h.elim (fun h => absurd h.2 (gz_ne rfl)) (fun h => absurd h.2 (gz_ne rfl)))
              obtain rfl : J27 = J77 := funext fun q => funext fun j => ((k75 q j).resolve_left id).symm
              have KLT_I76 := gc_LT_fr KLT_I26 ((g75 23 5).resolve_left (fun h => h.elim (fun h => absurd h.2 (gz_ne rfl)) (fun h => absurd h.2 (gz_ne rfl)))) ((g75 23 6).resolve_left (fun h => h.elim (fun h => absurd h.2 (gz_ne rfl)) (fun h => absurd h.2 (gz_ne rfl)))) ((g75 23 7).resolve_left (fun h => h.elim (fun h => absurd h.2 (gz_ne rfl)) (fun h => absurd h.2 (gz_ne rfl)))) (fun k => (g75 24 k).resolve_left (fun h => h.elim (fun h => absurd h.1 (gz_ne rfl)) (fun h => absurd h.1 (gz_ne rfl))))
              have KTK_I76 := gc_TK_fr KTK_I26 ((g75 23 1).resolve_left (fun h => h.elim (fun h => absurd h.2 (gz_ne rfl)) (fun h => absurd h.2 (gz_ne rfl)))) ((g75 23 5).resolve_left (fun h => h.elim (fun h => absurd h.2 (gz_ne rfl)) (fun h => absurd h.2 (gz_ne rfl)))) ((g75 23 6).resolve_left (fun h => h.elim (fun h => absurd h.2 (gz_ne rfl)) (fun h => absurd h.2 (gz_ne rfl)))) ((g75 23 7).resolve_left (fun h => h.elim (fun h => absurd h.2 (gz_ne rfl)) (fun h => absurd h.2 (gz_ne rfl))))
              have A85 := gc_AT_I A36 ((g75 23 1).resolve_left (fun h => h.elim (fun h => absurd h.2 (gz_ne rfl)) (fun h => absurd h.2 (gz_ne rfl)))) ((g75 23 5).resolve_left (fun h => h.elim (fun h => absurd h.2 (gz_ne rfl)) (fun h => absurd h.2 (gz_ne rfl)))) ((g75 23 6).resolve_left (fun h => h.elim (fun h => absurd h.2 (gz_ne rfl)) (fun h => absurd h.2 (gz_ne rfl)))) ((g75 23 7).resolve_left (fun h => h.elim (fun h => absurd h.2 (gz_ne rfl)) (fun h => absurd h.2 (gz_ne rfl)))) ((g75 23 8).resolve_left (fun h => h.elim (fun h => absurd h.2 (gz_ne rfl)) (fun h => absurd h.2 (gz_ne rfl)))) (fun k => (g75 24 k).resolve_left (fun h => h.elim (fun h => absurd h.1 (gz_ne rfl)) (fun h => absurd h.1 (gz_ne rfl))))
              have t86 := gc_AT_l A85
              refine gv_callV hD rfl (As := [.inl 5, .inl (I26 23 5)]) (st := []) rfl B_39 S_39 rfl (gc_lV6 hws rfl) (Nat.le_of_ble_eq_true rfl) (gz_Ev_mono (d := 1) (by decide) E75) ?_
              show gv_X _ _ (88, [(3, .inl z38), (0, .inr (.inr (some 39))), (1, .inr (.inr (some a1))), (2, .inl v2_11)], [.inl z75], sh, gc_h sh I76 J27 A)
              exact gv_zret hD rfl (by exact gz_m 91 (by omega)) ⟨I76, J27, rfl, hI76, FI76, FJ27, KLT_I76, KTK_I76, ⟨_, rfl, by exact gz_m 92 (by omega), by exact gz_m 93 (by omega), by exact gz_m 94 (by omega), by exact gz_m 95 (by omega), (Or.inr ⟨by exact gz_m 96 (by omega), by first | (exfalso; exact gz_m 97 (by omega)) | (have e9 : gs_said β η Ir Jr nf9 v2_11 a9 (gs_X β η p_11) = -1 - gs_A β η (gs_X β η p_11) := (by unfold gs_said gs_said1; (repeat first | rw [if_pos (by exact gz_m 98 (by omega))] | rw [if_neg (by exact gz_m 99 (by omega))])); rw [e2_11, show Int.toNat (1002 - v2_11) = Int.toNat (1002 - (v2_11 + 1)) + 1 from by exact gz_m 100 (by omega), gs_ls_f (by exact gz_m 101 (by omega)) (by rw [e9]; exact gz_m 102 (by omega)), e9]; exact ⟨by exact gz_m 103 (by omega), by exact gz_m 104 (by omega)⟩)⟩)⟩⟩
          · show gv_X _ _ (39, [(3, .inl z38), (0, .inr (.inr (some 39))), (1, .inr (.inr (some a1))), (2, .inl v2_11)], [], sh, gc_h sh I26 J27 A)
            refine gv_run 2 true hD (pc' := 43) (lv' := [(3, .inl z38), (0, .inr (.inr (some 39))), (1, .inr (.inr (some a1))), (2, .inl v2_11)]) (st' := [.inr (.inl (1734964837)), .inr (.inr (some 39))]) (h' := gc_h sh I26 J27 A) (C := ((True ∧ True) ∧ True)) rfl ⟨⟨trivial, trivial⟩, trivial⟩ ?_
            obtain ⟨r87, h87, E87, P87⟩ := d_X6_isWord_p (ws0 := ws0) (tb := tb) hws htb sh ro I26 J27 A hI26  β η (gs_X β η p_11) (1734964837) hb    A36 (by exact gz_m 105 (by omega)) 
            obtain ⟨rfl, ⟨z87, rfl, q87⟩⟩ := P87
            have t88 : z87 = gs_kw β η (gs_X β η p_11) (gs_W 96) := q87.2.2.2.trans (gs_kwc_kw (gs_W_al 96 (by decide) (by decide)))
            refine gv_callV hD rfl (As := [.inr (.inl (1734964837))]) (st := []) rfl B_39 S_39 rfl (gc_lV6 hws rfl) (Nat.le_of_ble_eq_true rfl) (gz_Ev_mono (d := 1) (by decide) E87) ?_
            show gv_X _ _ (46, [(3, .inl z38), (0, .inr (.inr (some 39))), (1, .inr (.inr (some a1))), (2, .inl v2_11)], [.inl z87], sh, gc_h sh I26 J27 A)
            refine gv_if_ne (t := 62) hD rfl rfl ⟨by exact gz_m 106 (by omega), by exact gz_m 107 (by omega)⟩ (fun c89 => ?_) (fun c89 => ?_)
            · show gv_X _ _ (62, [(3, .inl z38), (0, .inr (.inr (some 39))), (1, .inr (.inr (some a1))), (2, .inl v2_11)], [], sh, gc_h sh I26 J27 A)
              refine gv_run 1 true hD (pc' := 63) (lv' := [(3, .inl z38), (0, .inr (.inr (some 39))), (1, .inr (.inr (some a1))), (2, .inl v2_11)]) (st' := [.inr (.inr (some a1))]) (h' := gc_h sh I26 J27 A) (C := (True ∧ True)) rfl ⟨trivial, trivial⟩ ?_
              have f90 := (show 0 ≤ I26 a1 12 ∧ I26 a1 12 ≤ 6 from gc_in2 hI26 R_a1 rfl rfl rfl)
              refine gv_get hD rfl rfl S_a1 ⟨by decide, B_a1⟩ (gc_hI S_a1 rfl) ?_
              show gv_X _ _ (66, [(3, .inl z38), (0, .inr (.inr (some 39))), (1, .inr (.inr (some a1))), (2, .inl v2_11)], [.inl (I26 a1 12)], sh, gc_h sh I26 J27 A)
              refine gv_run 1 true hD (pc' := 67) (lv' := [(3, .inl z38), (0, .inr (.inr (some 39))), (1, .inr (.inr (some a1))), (2, .inl v2_11)]) (st' := [.inr (.inr (some a1)), .inl (I26 a1 12)]) (h' := gc_h sh I26 J27 A) (C := (True ∧ True)) rfl ⟨trivial, trivial⟩ ?_
              have f91 := (show 0 ≤ I26 a1 14 ∧ I26 a1 14 ≤ 6 from gc_in2 hI26 R_a1 rfl rfl rfl)
              refine gv_get hD rfl rfl S_a1 ⟨by decide, B_a1⟩ (gc_hI S_a1 rfl) ?_
              show gv_X _ _ (70, [(3, .inl z38), (0, .inr (.inr (some 39))), (1, .inr (.inr (some a1))), (2, .inl v2_11)], [.inl (I26 a1 14), .inl (I26 a1 12)], sh, gc_h sh I26 J27 A)
              refine gv_run 2 true hD (pc' := 73) (lv' := [(3, .inl z38), (0, .inr (.inr (some 39))), (1, .inr (.inr (some a1))), (2, .inl v2_11)]) (st' := [.inl 6, .inl ((I26 a1 12) + (I26 a1 14))]) (h' := gc_h sh I26 J27 A) (C := ((True ∧ True) ∧ True)) rfl ⟨⟨trivial, trivial⟩, trivial⟩ ?_
              refine gv_icmp_ne (t := 89) hD rfl rfl ⟨⟨by exact gz_m 108 (by omega), by exact gz_m 109 (by omega)⟩, ⟨by exact gz_m 110 (by omega), by exact gz_m 111 (by omega)⟩⟩ (fun c92 => ?_) (fun c92 => ?_)
              · show gv_X _ _ (89, [(3, .inl z38), (0, .inr (.inr (some 39))), (1, .inr (.inr (some a1))), (2, .inl v2_11)], [], sh, gc_h sh I26 J27 A)
                refine gv_run 1 true hD (pc' := 90) (lv' := [(3, .inl z38), (0, .inr (.inr (some 39))), (1, .inr (.inr (some a1))), (2, .inl v2_11)]) (st' := [.inr (.inr (some 39))]) (h' := gc_h sh I26 J27 A) (C := (True ∧ True)) rfl ⟨trivial, trivial⟩ ?_
                refine gv_get hD rfl rfl S_39 ⟨by decide, B_39⟩ (gc_hA S_39 rfl A_39_1) ?_
                show gv_X _ _ (93, [(3, .inl z38), (0, .inr (.inr (some 39))), (1, .inr (.inr (some a1))), (2, .inl v2_11)], [.inr (.inr (some 23))], sh, gc_h sh I26 J27 A)
                have t94 := gc_TK_nx KTK_I26 (by exact gz_m 112 (by omega))
                obtain ⟨r93, h93, E93, P93⟩ := d_X9_advance_p (ws0 := ws0) (tb := tb) hws htb sh ro I26 J27 A hI26 23 β η  (gc_b23 hb)    (by exact gz_m 113 (by omega)) A36.1.1 A36.1.2 
                obtain ⟨I95, J96, rfl, hI95, g93, k93, ⟨rfl, V93_0, V93_1, V93_2, V93_3, V93_4, q93⟩⟩ := P93
                have FI95 := gc_frc (W := fun q j => (q = 39 ∧ j = 3) ∨ (q = 39 ∧ j = 4) ∨ (q = 23 ∧ j = 5) ∨ (q = 23 ∧ j = 6) ∨ (q = 23 ∧ j = 7) ∨ (q = 23 ∧ j = 8) ∨ q = (a1 + 7) ∨ (q = a1 ∧ j = 12) ∨ q = (a1 + 8) ∨ (q = a1 ∧ j = 14)) (V := fun q j => (q = 23 ∧ j = 5) ∨ (q = 23 ∧ j = 6) ∨ (q = 23 ∧ j = 7) ∨ (q = 23 ∧ j = 8)) FI26 (fun q j h => (h.elim (fun h => (Or.inr (Or.inr (Or.inl h)))) (fun h => (h.elim (fun h => (Or.inr (Or.inr (Or.inr (Or.inl h))))) (fun h => (h.elim (fun h => (Or.inr (Or.inr (Or.inr (Or.inr (Or.inl h)))))) (fun h => (Or.inr (Or.inr (Or.inr (Or.inr (Or.inr (Or.inl h))))))))))))) g93
                have FJ96 := gc_frc (W := fun q j => (q = 23 ∧ j = 9)) (V := fun q j => (q = 23 ∧ j = 9)) FJ27 (fun q j h => h) k93
                have t97 := (g93 23 1).resolve_left (fun h => h.elim (fun h => absurd h.2 (gz_ne rfl)) (fun h => h.elim (fun h => absurd h.2 (gz_ne rfl)) (fun h => h.elim (fun h => absurd h.2 (gz_ne rfl)) (fun h => absurd h.2 (gz_ne rfl)))))
                have t98 := (g93 a1 12).resolve_left (fun h => h.elim (fun h => absurd h.2 (gz_ne rfl)) (fun h => h.elim (fun h => absurd h.2 (gz_ne rfl)) (fun h => h.elim (fun h => absurd h.2 (gz_ne rfl)) (fun h => absurd h.2 (gz_ne rfl)))))
                have t99 := (g93 a1 14).resolve_left (fun h => h.elim (fun h => absurd h.2 (gz_ne rfl)) (fun h => h.elim (fun h => absurd h.2 (gz_ne rfl)) (fun h => h.elim (fun h => absurd h.2 (gz_ne rfl)) (fun h => absurd h.2 (gz_ne rfl)))))
                have t100 := (g93 39 2).resolve_left (fun h => h.elim (fun h => absurd h.2 (gz_ne rfl)) (fun h => h.elim (fun h => absurd h.2 (gz_ne rfl)) (fun h => h.elim (fun h => absurd h.2 (gz_ne rfl)) (fun h => absurd h.2 (gz_ne rfl)))))
                have f101 := (gc_b_3_5 hI95 R_23)
                have f102 := (gc_b_3_6 hI95 R_23)
                have f103 := (gc_b_3_7 hI95 R_23)
                have KLT_I95 : gc_LT I95 := q93.2.2.1
                have KTK_I95 : gc_TK I95 := And.intro V93_0 (And.intro V93_1 (And.intro V93_2 (And.intro V93_3 V93_4)))
                have t104 := gc_TK_mo KTK_I95
                clear V93_0 V93_1 V93_2 V93_3 V93_4
                have A105 := gc_AT_nx A36 q93.2.2.2
                have t106 := gc_AT_l A105
                refine gv_callV hD rfl (As := []) (st := []) rfl B_23 S_23 rfl (gc_lV6 hws rfl) (Nat.le_of_ble_eq_true rfl) (gz_Ev_mono (d := 2) (by decide) E93) ?_
                show gv_X _ _ (96, [(3, .inl z38), (0, .inr (.inr (some 39))), (1, .inr (.inr (some a1))), (2, .inl v2_11)], [], sh, gc_h sh I95 J96 A)
                refine gv_run 1 true hD (pc' := 97) (lv' := [(3, .inl z38), (0, .inr (.inr (some 39))), (1, .inr (.inr (some a1))), (2, .inl v2_11)]) (st' := [.inl z38]) (h' := gc_h sh I95 J96 A) (C := (True ∧ True)) rfl ⟨trivial, trivial⟩ ?_
                refine gv_if_eq (t := 111) hD rfl rfl ⟨by exact gz_m 114 (by omega), by exact gz_m 115 (by omega)⟩ (fun c107 => ?_) (fun c107 => ?_)
                · show gv_X _ _ (111, [(3, .inl z38), (0, .inr (.inr (some 39))), (1, .inr (.inr (some a1))), (2, .inl v2_11)], [], sh, gc_h sh I95 J96 A)
                  refine gv_run 2 true hD (pc' := 113) (lv' := [(3, .inl z38), (0, .inr (.inr (some 39))), (1, .inr (.inr (some a1))), (2, .inl v2_11)]) (st' := [.inr (.inr (some a1)), .inr (.inr (some 39))]) (h' := gc_h sh I95 J96 A) (C := ((True ∧ True) ∧ True)) rfl ⟨⟨trivial, trivial⟩, trivial⟩ ?_
                  obtain ⟨r108, h108, E108, P108⟩ := d_X6_readGive_p (ws0 := ws0) (tb := tb) hws htb sh ro I95 J96 A hI95  t β η ((gs_X β η (gs_X β η p_11))) Ir Jr nf9 a9 a1 hb h_a1 G_a1 h_t G_t   (by exact gz_m 116 (by omega)) A105 (by exact gz_m 117 (by omega)) (gs_SO_fr x3 (fun k => ((((g93 (a1 + 6) k).resolve_left (by exact gz_m 118 (by omega))).trans ((g24 (a1 + 6) k).resolve_left (by exact gz_m 119 (by omega)))).trans ((FI9 (a1 + 6) k).resolve_left (by exact gz_m 120 (by omega)))))) (by exact gz_m 121 (by omega)) (by have h9 := x5; have h8 := (show I95 (t + 1) 1 = I (t + 1) 1 from ((((g93 (t + 1) 1).resolve_left (by exact gz_m 122 (by omega))).trans ((g24 (t + 1) 1).resolve_left (by exact gz_m 123 (by omega)))).trans ((FI9 (t + 1) 1).resolve_left (by exact gz_m 124 (by omega))))); exact gz_m 125 (by omega)) (by rw [show I95 (t + 1) 1 = I (t + 1) 1 from ((((g93 (t + 1) 1).resolve_left (by exact gz_m 126 (by omega))).trans ((g24 (t + 1) 1).resolve_left (by exact gz_m 127 (by omega)))).trans ((FI9 (t + 1) 1).resolve_left (by exact gz_m 128 (by omega)))), show J96 (t + 2) = J (t + 2) from funext fun j => ((((k93 (t + 2) j).resolve_left (by exact gz_m 129 (by omega))).trans ((k24 (t + 2) j).resolve_left (by exact gz_m 130 (by omega)))).trans ((FJ10 (t + 2) j).resolve_left (by exact gz_m 131 (by omega))))]; exact x6) (by have h9 := x7; have h8 := (show I95 (t + 3) 1 = I (t + 3) 1 from ((((g93 (t + 3) 1).resolve_left (by exact gz_m 132 (by omega))).trans ((g24 (t + 3) 1).resolve_left (by exact gz_m 133 (by omega)))).trans ((FI9 (t + 3) 1).resolve_left (by exact gz_m 134 (by omega))))); exact gz_m 135 (by omega)) (by rw [show I95 (t + 3) 1 = I (t + 3) 1 from ((((g93 (t + 3) 1).resolve_left (by exact gz_m 136 (by omega))).trans ((g24 (t + 3) 1).resolve_left (by exact gz_m 137 (by omega)))).trans ((FI9 (t + 3) 1).resolve_left (by exact gz_m 138 (by omega)))), show J96 (t + 4) = J (t + 4) from funext fun j => ((((k93 (t + 4) j).resolve_left (by exact gz_m 139 (by omega))).trans ((k24 (t + 4) j).resolve_left (by exact gz_m 140 (by omega)))).trans ((FJ10 (t + 4) j).resolve_left (by exact gz_m 141 (by omega))))]; exact x8) (by exact gz_m 142 (by omega)) KLT_I95 KTK_I95
                  obtain ⟨I109, J110, rfl, hI109, g108, k108, KLT_I109, KTK_I109, ⟨z108, rfl, q108⟩⟩ := P108
                  have FI109 := gc_frc (W := fun q j => (q = 39 ∧ j = 3) ∨ (q = 39 ∧ j = 4) ∨ (q = 23 ∧ j = 5) ∨ (q = 23 ∧ j = 6) ∨ (q = 23 ∧ j = 7) ∨ (q = 23 ∧ j = 8) ∨ q = (a1 + 7) ∨ (q = a1 ∧ j = 12) ∨ q = (a1 + 8) ∨ (q = a1 ∧ j = 14)) (V := fun q j => (q = 39 ∧ j = 3) ∨ (q = 39 ∧ j = 4) ∨ (q = 23 ∧ j = 5) ∨ (q = 23 ∧ j = 6) ∨ (q = 23 ∧ j = 7) ∨ (q = 23 ∧ j = 8) ∨ q = (a1 + 8) ∨ (q = a1 ∧ j = 14)) FI95 (fun q j h => (h.elim (fun h => (Or.inl h)) (fun h => (h.elim (fun h => (Or.inr (Or.inl h))) (fun h => (h.elim (fun h => (Or.inr (Or.inr (Or.inl h)))) (fun h => (h.elim (fun h => (Or.inr (Or.inr (Or.inr (Or.inl h))))) (fun h => (h.elim (fun h => (Or.inr (Or.inr (Or.inr (Or.inr (Or.inl h)))))) (fun h => (h.elim (fun h => (Or.inr (Or.inr (Or.inr (Or.inr (Or.inr (Or.inl h))))))) (fun h => (h.elim (fun h => (Or.inr (Or.inr (Or.inr (Or.inr (Or.inr (Or.inr (Or.inr (Or.inr (Or.inl h)))))))))) (fun h => (Or.inr (Or.inr (Or.inr (Or.inr (Or.inr (Or.inr (Or.inr (Or.inr (Or.inr h)))))))))))))))))))))))) g108
                  have FJ110 := gc_frc (W := fun q j => (q = 23 ∧ j = 9)) (V := fun q j => (q = 23 ∧ j = 9)) FJ96 (fun q j h => h) k108
                  have t111 := (g108 23 1).resolve_left (fun h => h.elim (fun h => absurd h.2 (gz_ne rfl)) (fun h => h.elim (fun h => absurd h.2 (gz_ne rfl)) (fun h => h.elim (fun h => absurd h.2 (gz_ne rfl)) (fun h => h.elim (fun h => absurd h.2 (gz_ne rfl)) (fun h => h.elim (fun h => absurd h.2 (gz_ne rfl)) (fun h => h.elim (fun h => absurd h.2 (gz_ne rfl)) (fun h => h.elim (fun h => absurd h N_23__a1_8) (fun h => absurd h.2 (gz_ne rfl)))))))))
                  have t112 := (g108 a1 12).resolve_left (fun h => h.elim (fun h => absurd h.2 (gz_ne rfl)) (fun h => h.elim (fun h => absurd h.2 (gz_ne rfl)) (fun h => h.elim (fun h => absurd h.2 (gz_ne rfl)) (fun h => h.elim (fun h => absurd h.2 (gz_ne rfl)) (fun h => h.elim (fun h => absurd h.2 (gz_ne rfl)) (fun h => h.elim (fun h => absurd h.2 (gz_ne rfl)) (fun h => h.elim (fun h => absurd h N_a1__a1_8) (fun h => absurd h.2 (gz_ne rfl)))))))))
                  have t113 := (g108 39 2).resolve_left (fun h => h.elim (fun h => absurd h.2 (gz_ne rfl)) (fun h => h.elim (fun h => absurd h.2 (gz_ne rfl)) (fun h => h.elim (fun h => absurd h.2 (gz_ne rfl)) (fun h => h.elim (fun h => absurd h.2 (gz_ne rfl)) (fun h => h.elim (fun h => absurd h.2 (gz_ne rfl)) (fun h => h.elim (fun h => absurd h.2 (gz_ne rfl)) (fun h => h.elim (fun h => absurd h N_39__a1_8) (fun h => absurd h.2 (gz_ne rfl)))))))))
                  have f114 := (gc_b_3_5 hI109 R_23)
                  have f115 := (gc_b_3_6 hI109 R_23)
                  have f116 := (gc_b_3_7 hI109 R_23)
                  have f117 := (show 0 ≤ I109 a1 14 ∧ I109 a1 14 ≤ 6 from gc_in2 hI109 R_a1 rfl rfl rfl)
                  have t118 := gc_TK_mo KTK_I109
                  refine gv_callV hD rfl (As := [.inr (.inr (some a1))]) (st := []) rfl B_39 S_39 rfl (gc_lV6 hws rfl) (Nat.le_of_ble_eq_true rfl) (gz_Ev_mono (d := 4) (by decide) E108) ?_
                  show gv_X _ _ (116, [(3, .inl z38), (0, .inr (.inr (some 39))), (1, .inr (.inr (some a1))), (2, .inl v2_11)], [.inl z108], sh, gc_h sh I109 J110 A)
                  refine gv_if_ne (t := 121) hD rfl rfl ⟨by exact gz_m 143 (by omega), by exact gz_m 144 (by omega)⟩ (fun c119 => ?_) (fun c119 => ?_)
                  · show gv_X _ _ (121, [(3, .inl z38), (0, .inr (.inr (some 39))), (1, .inr (.inr (some a1))), (2, .inl v2_11)], [], sh, gc_h sh I109 J110 A)
                    obtain ⟨u120, A120, U120⟩ := gs_or1 q108.2.2.2.2.2 (by exact gz_m 145 (by omega))
                    have t121 := gc_AT_l A120
                    refine gv_run 2 true hD (pc' := 2) (lv' := [(2, .inl (v2_11 + 1)), (3, .inl z38), (0, .inr (.inr (some 39))), (1, .inr (.inr (some a1)))]) (st' := []) (h' := gc_h sh I109 J110 A) (C := ((True ∧ True) ∧ True)) rfl ⟨⟨trivial, trivial⟩, trivial⟩ ?_
                    refine gv_pick [2, 3, 0] rfl ?_
                    exact ih2 I109 J110 (v2_11 + 1) ((gs_sg β η Ir Jr nf9 a9 (gs_X β η (gs_X β η p_11)))) (by exact gz_m 146 (by omega)) hI109 FI109 FJ110 KLT_I109 KTK_I109 (by exact gz_m 147 (by omega)) A120 (e2_11.trans (by have e9 : gs_said β η Ir Jr nf9 v2_11 a9 (gs_X β η p_11) = (gs_sg β η Ir Jr nf9 a9 (gs_X β η (gs_X β η p_11))) := (by unfold gs_said gs_said1 gs_said2; (repeat first | rw [if_pos (by exact gz_m 148 (by omega))] | rw [if_neg (by exact gz_m 149 (by omega))])); rw [show Int.toNat (1002 - v2_11) = Int.toNat (1002 - (v2_11 + 1)) + 1 from by exact gz_m 150 (by omega), gs_ls_c (by exact gz_m 151 (by omega)) (by rw [e9]; exact gz_m 152 (by omega)), e9]))
                  · show gv_X _ _ (119, [(3, .inl z38), (0, .inr (.inr (some 39))), (1, .inr (.inr (some a1))), (2, .inl v2_11)], [], sh, gc_h sh I109 J110 A)
                    obtain ⟨u122, u122_⟩ := gs_or0 q108.2.2.2.2.2 (by exact gz_m 153 (by omega))
                    refine gv_run 1 true hD (pc' := 120) (lv' := [(3, .inl z38), (0, .inr (.inr (some 39))), (1, .inr (.inr (some a1))), (2, .inl v2_11)]) (st' := [.inl 0]) (h' := gc_h sh I109 J110 A) (C := (True ∧ True)) rfl ⟨trivial, trivial⟩ ?_
                    exact gv_zret hD rfl (by exact gz_m 154 (by omega)) ⟨I109, J110, rfl, hI109, FI109, FJ110, KLT_I109, KTK_I109, ⟨_, rfl, by exact gz_m 155 (by omega), by exact gz_m 156 (by omega), by exact gz_m 157 (by omega), by exact gz_m 158 (by omega), (Or.inr ⟨by exact gz_m 159 (by omega), by first | (exfalso; exact gz_m 160 (by omega)) | (have e9 : gs_said β η Ir Jr nf9 v2_11 a9 (gs_X β η p_11) = gs_sg β η Ir Jr nf9 a9 (gs_X β η (gs_X β η p_11)) := (by unfold gs_said gs_said1 gs_said2; (repeat first | rw [if_pos (by exact gz_m 161 (by omega))] | rw [if_neg (by exact gz_m 162 (by omega))])); rw [e2_11, show Int.toNat (1002 - v2_11) = Int.toNat (1002 - (v2_11 + 1)) + 1 from by exact gz_m 163 (by omega), gs_ls_f (by exact gz_m 164 (by omega)) (by rw [e9]; exact gz_m 165 (by omega)), e9]; exact ⟨by exact gz_m 166 (by omega), by exact gz_m 167 (by omega)⟩)⟩)⟩⟩
                · exfalso; exact gz_m 168 (by omega)
              · show gv_X _ _ (76, [(3, .inl z38), (0, .inr (.inr (some 39))), (1, .inr (.inr (some a1))), (2, .inl v2_11)], [], sh, gc_h sh I26 J27 A)
                refine gv_run 3 true hD (pc' := 79) (lv' := [(3, .inl z38), (0, .inr (.inr (some 39))), (1, .inr (.inr (some a1))), (2, .inl v2_11)]) (st' := [.inr (.inr (some 39)), .inl 5, .inr (.inr (some 39))]) (h' := gc_h sh I26 J27 A) (C := (((True ∧ True) ∧ True) ∧ True)) rfl ⟨⟨⟨trivial, trivial⟩, trivial⟩, trivial⟩ ?_
                refine gv_get hD rfl rfl S_39 ⟨by decide, B_39⟩ (gc_hA S_39 rfl A_39_1) ?_
                show gv_X _ _ (82, [(3, .inl z38), (0, .inr (.inr (some 39))), (1, .inr (.inr (some a1))), (2, .inl v2_11)], [.inr (.inr (some 23)), .inl 5, .inr (.inr (some 39))], sh, gc_h sh I26 J27 A)
                have f123 := (gc_b_3_5 hI26 R_23)
                refine gv_get hD rfl rfl S_23 ⟨by decide, B_23⟩ (gc_hI S_23 rfl) ?_
                show gv_X _ _ (85, [(3, .inl z38), (0, .inr (.inr (some 39))), (1, .inr (.inr (some a1))), (2, .inl v2_11)], [.inl (I26 23 5), .inl 5, .inr (.inr (some 39))], sh, gc_h sh I26 J27 A)
                obtain ⟨r124, h124, E124, P124⟩ := d_X6_wrong_p (ws0 := ws0) (tb := tb) hws htb sh ro I26 J27 A hI26  5 (I26 23 5) hb   ⟨by exact gz_m 169 (by omega), by exact gz_m 170 (by omega)⟩ ⟨by exact gz_m 171 (by omega), by exact gz_m 172 (by omega)⟩  
                obtain ⟨I125, J126, rfl, hI125, g124, k124, ⟨z124, rfl, q124⟩⟩ := P124
                have FI125 := gc_frc (W := fun q j => (q = 39 ∧ j = 3) ∨ (q = 39 ∧ j = 4) ∨ (q = 23 ∧ j = 5) ∨ (q = 23 ∧ j = 6) ∨ (q = 23 ∧ j = 7) ∨ (q = 23 ∧ j = 8) ∨ q = (a1 + 7) ∨ (q = a1 ∧ j = 12) ∨ q = (a1 + 8) ∨ (q = a1 ∧ j = 14)) (V := fun q j => (q = 39 ∧ j = 3) ∨ (q = 39 ∧ j = 4)) FI26 (fun q j h => (h.elim (fun h => (Or.inl h)) (fun h => (Or.inr (Or.inl h))))) g124
                have t127 := (g124 23 1).resolve_left (fun h => h.elim (fun h => absurd h.2 (gz_ne rfl)) (fun h => absurd h.2 (gz_ne rfl)))
                have t128 := (g124 23 5).resolve_left (fun h => h.elim (fun h => absurd h.2 (gz_ne rfl)) (fun h => absurd h.2 (gz_ne rfl)))
                have t129 := (g124 23 6).resolve_left (fun h => h.elim (fun h => absurd h.2 (gz_ne rfl)) (fun h => absurd h.2 (gz_ne rfl)))
                have t130 := (g124 23 7).resolve_left (fun h => h.elim (fun h => absurd h.2 (gz_ne rfl)) (fun h => absurd h.2 (gz_ne rfl)))
                have t131 := (g124 a1 12).resolve_left (fun h => h.elim (fun h => absurd h.2 (gz_ne rfl)) (fun h => absurd h.2 (gz_ne rfl)))
                have t132 := (g124 a1 14).resolve_left (fun h => h.elim (fun h => absurd h.2 (gz_ne rfl)) (fun h => absurd h.2 (gz_ne rfl)))
                have t133 := (g124 39 2).resolve_left (fun h => h.elim (fun h => absurd h.2 (gz_ne rfl)) (fun h => absurd h.2 (gz_ne rfl)))
                obtain rfl : J27 = J126 := funext fun q => funext fun j => ((k124 q j).resolve_left id).symm
                have KLT_I125 := gc_LT_fr KLT_I26 ((g124 23 5).resolve_left (fun h => h.elim (fun h => absurd h.2 (gz_ne rfl)) (fun h => absurd h.2 (gz_ne rfl)))) ((g124 23 6).resolve_left (fun h => h.elim (fun h => absurd h.2 (gz_ne rfl)) (fun h => absurd h.2 (gz_ne rfl)))) ((g124 23 7).resolve_left (fun h => h.elim (fun h => absurd h.2 (gz_ne rfl)) (fun h => absurd h.2 (gz_ne rfl)))) (fun k => (g124 24 k).resolve_left (fun h => h.elim (fun h => absurd h.1 (gz_ne rfl)) (fun h => absurd h.1 (gz_ne rfl))))
                have KTK_I125 := gc_TK_fr KTK_I26 ((g124 23 1).resolve_left (fun h => h.elim (fun h => absurd h.2 (gz_ne rfl)) (fun h => absurd h.2 (gz_ne rfl)))) ((g124 23 5).resolve_left (fun h => h.elim (fun h => absurd h.2 (gz_ne rfl)) (fun h => absurd h.2 (gz_ne rfl)))) ((g124 23 6).resolve_left (fun h => h.elim (fun h => absurd h.2 (gz_ne rfl)) (fun h => absurd h.2 (gz_ne rfl)))) ((g124 23 7).resolve_left (fun h => h.elim (fun h => absurd h.2 (gz_ne rfl)) (fun h => absurd h.2 (gz_ne rfl))))
                have A134 := gc_AT_I A36 ((g124 23 1).resolve_left (fun h => h.elim (fun h => absurd h.2 (gz_ne rfl)) (fun h => absurd h.2 (gz_ne rfl)))) ((g124 23 5).resolve_left (fun h => h.elim (fun h => absurd h.2 (gz_ne rfl)) (fun h => absurd h.2 (gz_ne rfl)))) ((g124 23 6).resolve_left (fun h => h.elim (fun h => absurd h.2 (gz_ne rfl)) (fun h => absurd h.2 (gz_ne rfl)))) ((g124 23 7).resolve_left (fun h => h.elim (fun h => absurd h.2 (gz_ne rfl)) (fun h => absurd h.2 (gz_ne rfl)))) ((g124 23 8).resolve_left (fun h => h.elim (fun h => absurd h.2 (gz_ne rfl)) (fun h => absurd h.2 (gz_ne rfl)))) (fun k => (g124 24 k).resolve_left (fun h => h.elim (fun h => absurd h.1 (gz_ne rfl)) (fun h => absurd h.1 (gz_ne rfl))))
                have t135 := gc_AT_l A134
                refine gv_callV hD rfl (As := [.inl 5, .inl (I26 23 5)]) (st := []) rfl B_39 S_39 rfl (gc_lV6 hws rfl) (Nat.le_of_ble_eq_true rfl) (gz_Ev_mono (d := 1) (by decide) E124) ?_
                show gv_X _ _ (88, [(3, .inl z38), (0, .inr (.inr (some 39))), (1, .inr (.inr (some a1))), (2, .inl v2_11)], [.inl z124], sh, gc_h sh I125 J27 A)
                exact gv_zret hD rfl (by exact gz_m 173 (by omega)) ⟨I125, J27, rfl, hI125, FI125, FJ27, KLT_I125, KTK_I125, ⟨_, rfl, by exact gz_m 174 (by omega), by exact gz_m 175 (by omega), by exact gz_m 176 (by omega), by exact gz_m 177 (by omega), (Or.inr ⟨by exact gz_m 178 (by omega), by first | (exfalso; exact gz_m 179 (by omega)) | (have e9 : gs_said β η Ir Jr nf9 v2_11 a9 (gs_X β η p_11) = -1 - gs_A β η (gs_X β η p_11) := (by unfold gs_said gs_said1; (repeat first | rw [if_pos (by exact gz_m 180 (by omega))] | rw [if_neg (by exact gz_m 181 (by omega))])); rw [e2_11, show Int.toNat (1002 - v2_11) = Int.toNat (1002 - (v2_11 + 1)) + 1 from by exact gz_m 182 (by omega), gs_ls_f (by exact gz_m 183 (by omega)) (by rw [e9]; exact gz_m 184 (by omega)), e9]; exact ⟨by exact gz_m 185 (by omega), by exact gz_m 186 (by omega)⟩)⟩)⟩⟩
            · show gv_X _ _ (49, [(3, .inl z38), (0, .inr (.inr (some 39))), (1, .inr (.inr (some a1))), (2, .inl v2_11)], [], sh, gc_h sh I26 J27 A)
              refine gv_run 3 true hD (pc' := 52) (lv' := [(3, .inl z38), (0, .inr (.inr (some 39))), (1, .inr (.inr (some a1))), (2, .inl v2_11)]) (st' := [.inr (.inr (some 39)), .inl 1, .inr (.inr (some 39))]) (h' := gc_h sh I26 J27 A) (C := (((True ∧ True) ∧ True) ∧ True)) rfl ⟨⟨⟨trivial, trivial⟩, trivial⟩, trivial⟩ ?_
              refine gv_get hD rfl rfl S_39 ⟨by decide, B_39⟩ (gc_hA S_39 rfl A_39_1) ?_
              show gv_X _ _ (55, [(3, .inl z38), (0, .inr (.inr (some 39))), (1, .inr (.inr (some a1))), (2, .inl v2_11)], [.inr (.inr (some 23)), .inl 1, .inr (.inr (some 39))], sh, gc_h sh I26 J27 A)
              have f136 := (gc_b_3_5 hI26 R_23)
              refine gv_get hD rfl rfl S_23 ⟨by decide, B_23⟩ (gc_hI S_23 rfl) ?_
              show gv_X _ _ (58, [(3, .inl z38), (0, .inr (.inr (some 39))), (1, .inr (.inr (some a1))), (2, .inl v2_11)], [.inl (I26 23 5), .inl 1, .inr (.inr (some 39))], sh, gc_h sh I26 J27 A)
              obtain ⟨r137, h137, E137, P137⟩ := d_X6_wrong_p (ws0 := ws0) (tb := tb) hws htb sh ro I26 J27 A hI26  1 (I26 23 5) hb   ⟨by exact gz_m 187 (by omega), by exact gz_m 188 (by omega)⟩ ⟨by exact gz_m 189 (by omega), by exact gz_m 190 (by omega)⟩  
              obtain ⟨I138, J139, rfl, hI138, g137, k137, ⟨z137, rfl, q137⟩⟩ := P137
              have FI138 := gc_frc (W := fun q j => (q = 39 ∧ j = 3) ∨ (q = 39 ∧ j = 4) ∨ (q = 23 ∧ j = 5) ∨ (q = 23 ∧ j = 6) ∨ (q = 23 ∧ j = 7) ∨ (q = 23 ∧ j = 8) ∨ q = (a1 + 7) ∨ (q = a1 ∧ j = 12) ∨ q = (a1 + 8) ∨ (q = a1 ∧ j = 14)) (V := fun q j => (q = 39 ∧ j = 3) ∨ (q = 39 ∧ j = 4)) FI26 (fun q j h => (h.elim (fun h => (Or.inl h)) (fun h => (Or.inr (Or.inl h))))) g137
              have t140 := (g137 23 1).resolve_left (fun h => h.elim (fun h => absurd h.2 (gz_ne rfl)) (fun h => absurd h.2 (gz_ne rfl)))
              have t141 := (g137 23 5).resolve_left (fun h => h.elim (fun h => absurd h.2 (gz_ne rfl)) (fun h => absurd h.2 (gz_ne rfl)))
              have t142 := (g137 23 6).resolve_left (fun h => h.elim (fun h => absurd h.2 (gz_ne rfl)) (fun h => absurd h.2 (gz_ne rfl)))
              have t143 := (g137 23 7).resolve_left (fun h => h.elim (fun h => absurd h.2 (gz_ne rfl)) (fun h => absurd h.2 (gz_ne rfl)))
              have t144 := (g137 a1 12).resolve_left (fun h => h.elim (fun h => absurd h.2 (gz_ne rfl)) (fun h => absurd h.2 (gz_ne rfl)))
              have t145 := (g137 a1 14).resolve_left (fun h => h.elim (fun h => absurd h.2 (gz_ne rfl)) (fun h => absurd h.2 (gz_ne rfl)))
              have t146 := (g137 39 2).resolve_left (fun h => h.elim (fun h => absurd h.2 (gz_ne rfl)) (fun h => absurd h.2 (gz_ne rfl)))
              obtain rfl : J27 = J139 := funext fun q => funext fun j => ((k137 q j).resolve_left id).symm
              have KLT_I138 := gc_LT_fr KLT_I26 ((g137 23 5).resolve_left (fun h => h.elim (fun h => absurd h.2 (gz_ne rfl)) (fun h => absurd h.2 (gz_ne rfl)))) ((g137 23 6).resolve_left (fun h => h.elim (fun h => absurd h.2 (gz_ne rfl)) (fun h => absurd h.2 (gz_ne rfl)))) ((g137 23 7).resolve_left (fun h => h.elim (fun h => absurd h.2 (gz_ne rfl)) (fun h => absurd h.2 (gz_ne rfl)))) (fun k => (g137 24 k).resolve_left (fun h => h.elim (fun h => absurd h.1 (gz_ne rfl)) (fun h => absurd h.1 (gz_ne rfl))))
              have KTK_I138 := gc_TK_fr KTK_I26 ((g137 23 1).resolve_left (fun h => h.elim (fun h => absurd h.2 (gz_ne rfl)) (fun h => absurd h.2 (gz_ne rfl)))) ((g137 23 5).resolve_left (fun h => h.elim (fun h => absurd h.2 (gz_ne rfl)) (fun h => absurd h.2 (gz_ne rfl)))) ((g137 23 6).resolve_left (fun h => h.elim (fun h => absurd h.2 (gz_ne rfl)) (fun h => absurd h.2 (gz_ne rfl)))) ((g137 23 7).resolve_left (fun h => h.elim (fun h => absurd h.2 (gz_ne rfl)) (fun h => absurd h.2 (gz_ne rfl))))
              have A147 := gc_AT_I A36 ((g137 23 1).resolve_left (fun h => h.elim (fun h => absurd h.2 (gz_ne rfl)) (fun h => absurd h.2 (gz_ne rfl)))) ((g137 23 5).resolve_left (fun h => h.elim (fun h => absurd h.2 (gz_ne rfl)) (fun h => absurd h.2 (gz_ne rfl)))) ((g137 23 6).resolve_left (fun h => h.elim (fun h => absurd h.2 (gz_ne rfl)) (fun h => absurd h.2 (gz_ne rfl)))) ((g137 23 7).resolve_left (fun h => h.elim (fun h => absurd h.2 (gz_ne rfl)) (fun h => absurd h.2 (gz_ne rfl)))) ((g137 23 8).resolve_left (fun h => h.elim (fun h => absurd h.2 (gz_ne rfl)) (fun h => absurd h.2 (gz_ne rfl)))) (fun k => (g137 24 k).resolve_left (fun h => h.elim (fun h => absurd h.1 (gz_ne rfl)) (fun h => absurd h.1 (gz_ne rfl))))
              have t148 := gc_AT_l A147
              refine gv_callV hD rfl (As := [.inl 1, .inl (I26 23 5)]) (st := []) rfl B_39 S_39 rfl (gc_lV6 hws rfl) (Nat.le_of_ble_eq_true rfl) (gz_Ev_mono (d := 1) (by decide) E137) ?_
              show gv_X _ _ (61, [(3, .inl z38), (0, .inr (.inr (some 39))), (1, .inr (.inr (some a1))), (2, .inl v2_11)], [.inl z137], sh, gc_h sh I138 J27 A)
              exact gv_zret hD rfl (by exact gz_m 191 (by omega)) ⟨I138, J27, rfl, hI138, FI138, FJ27, KLT_I138, KTK_I138, ⟨_, rfl, by exact gz_m 192 (by omega), by exact gz_m 193 (by omega), by exact gz_m 194 (by omega), by exact gz_m 195 (by omega), (Or.inr ⟨by exact gz_m 196 (by omega), by first | (exfalso; exact gz_m 197 (by omega)) | (have e9 : gs_said β η Ir Jr nf9 v2_11 a9 (gs_X β η p_11) = -1 - gs_A β η (gs_X β η p_11) := (by unfold gs_said; (repeat first | rw [if_pos (by exact gz_m 198 (by omega))] | rw [if_neg (by exact gz_m 199 (by omega))])); rw [e2_11, show Int.toNat (1002 - v2_11) = Int.toNat (1002 - (v2_11 + 1)) + 1 from by exact gz_m 200 (by omega), gs_ls_f (by exact gz_m 201 (by omega)) (by rw [e9]; exact gz_m 202 (by omega)), e9]; exact ⟨by exact gz_m 203 (by omega), by exact gz_m 204 (by omega)⟩)⟩)⟩⟩
  refine gv_run 2 true hD (pc' := 2) (lv' := [(2, .inl 0), (0, .inr (.inr (some 39))), (1, .inr (.inr (some a1)))]) (st' := []) (h' := gc_h sh I J A) (C := ((True ∧ True) ∧ True)) rfl ⟨⟨trivial, trivial⟩, trivial⟩ ?_
  refine gv_pick [1, 2, 0] rfl ?_
  exact L2 _ I J 0 p9 (Nat.lt_succ_self _) hI FI FJ KLT_I KTK_I (by exact gz_m 205 (by omega)) x1 rfl
