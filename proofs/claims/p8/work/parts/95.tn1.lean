set_option maxHeartbeats 8000000 in
set_option maxRecDepth 100000 in
theorem d_X6_readSaids_p {ws0 : List Cond} {tb : String → gz_T} (hws : gc_Ws ws0) (htb : gc_tbs tb) (sh : gz_Sh) (ro : Nat → Nat) (I : gr_I) (J : gr_J) (A : gc_A) (hI : gc_Inv ro I) (t : Nat) (β : Int → Int) (η : Int) (p9 : Int) (Ir : gr_I) (Jr : gr_J) (nf9 : Int) (a9 : Nat → Int) (a1 : Nat) (hb : gc_Base sh ro A) (h_a1 : gc_isLin sh ro A a1) (G_a1 : 144 ≤ a1) (h_t : gc_isTongue sh ro A t) (G_t : 144 ≤ t)  (x0 : I a1 12 + I a1 14 ≤ 6) (x1 : gc_AT β η p9 23 I J) (x2 : 0 ≤ p9) (x3 : gs_SO I a1 nf9 a9) (x4 : nf9 ≤ 4) (x5 : I (t + 1) 1 = Ir 13 (Int.toNat (Ir 0 6))) (x6 : gs_NA (I (t + 1) 1) (J (t + 2)) (fun k => Jr 20 (Int.toNat (8 * Ir 0 6 + (k : Int))))) (x7 : I (t + 3) 1 = Ir 14 (Int.toNat (Ir 0 6))) (x8 : gs_NA (I (t + 3) 1) (J (t + 4)) (fun k => Jr 21 (Int.toNat (48 * Ir 0 6 + (k : Int))))) (x9 : I a1 12 + I a1 14 = 0) (x10 : I 39 2 = (t : Int)) (KLT_I : gc_LT I) (KTK_I : gc_TK I) : ∃ r hₚ, gz_Ev ws0 tb 5 (yX6_readSaids, cX6_readSaids, 4, (some .boolean)) [.inr (.inr (some 39)), .inr (.inr (some a1))] sh (gc_h sh I J A) r sh hₚ 0 0 ∧ (∃ (Iₚ : gr_I) (Jₚ : gr_J), hₚ = gc_h sh Iₚ Jₚ A ∧ gc_Inv ro Iₚ ∧ (∀ q j : Nat, ((q = 39 ∧ j = 3) ∨ (q = 39 ∧ j = 4) ∨ (q = 23 ∧ j = 5) ∨ (q = 23 ∧ j = 6) ∨ (q = 23 ∧ j = 7) ∨ (q = 23 ∧ j = 8) ∨ q = (a1 + 7) ∨ (q = a1 ∧ j = 12) ∨ q = (a1 + 8) ∨ (q = a1 ∧ j = 14)) ∨ Iₚ q j = I q j) ∧ (∀ q j : Nat, ((q = 23 ∧ j = 9)) ∨ Jₚ q j = J q j) ∧ gc_LT Iₚ ∧ gc_TK Iₚ ∧ (∃ z : Int, r = some (.inl z) ∧ 0 ≤ z ∧ z ≤ 1 ∧ (Iₚ 23 1 = I 23 1) ∧ (I 23 5 ≤ Iₚ 23 5) ∧ (gs_Or z (0 ≤ (gs_ls β η Ir Jr nf9 a9 1002 0 p9) ∧ gc_AT β η (gs_ls β η Ir Jr nf9 a9 1002 0 p9) 23 Iₚ Jₚ) ((gs_ls β η Ir Jr nf9 a9 1002 0 p9) < 0 ∧ Iₚ 39 4 = -1 - (gs_ls β η Ir Jr nf9 a9 1002 0 p9))))) := by
  have FI : ∀ q j : Nat, ((q = 39 ∧ j = 3) ∨ (q = 39 ∧ j = 4) ∨ (q = 23 ∧ j = 5) ∨ (q = 23 ∧ j = 6) ∨ (q = 23 ∧ j = 7) ∨ (q = 23 ∧ j = 8) ∨ q = (a1 + 7) ∨ (q = a1 ∧ j = 12) ∨ q = (a1 + 8) ∨ (q = a1 ∧ j = 14)) ∨ I q j = I q j := fun _ _ => Or.inr rfl
  have FJ : ∀ q j : Nat, ((q = 23 ∧ j = 9)) ∨ J q j = J q j := fun _ _ => Or.inr rfl
  have A_39_1 : A 39 1 = some 23 := gc_bA_39_1 hb
  have B_23 : 23 < 1000000 := by decide
  have B_39 : 39 < 1000000 := by decide
  have R_23 : ro 23 = 3 := gc_bR_23 hb
  have R_39 : ro 39 = 42 := gc_bR_39 hb
  have S_23 : sh[23]? = some (false, 9, 10) := gc_bS_23 hb
  have S_39 : sh[39]? = some (false, 6, 19) := gc_bS_39 hb
  obtain ⟨S_a1, R_a1, B_a1, A_a1_5, S_a1_1, R_a1_1, B_a1_1, A_a1_6, S_a1_2, R_a1_2, B_a1_2, A_a1_7, S_a1_3, R_a1_3, B_a1_3, A_a1_9, S_a1_4, R_a1_4, B_a1_4, A_a1_10, S_a1_5, R_a1_5, B_a1_5, A_a1_11, S_a1_6, R_a1_6, B_a1_6, A_a1_13, S_a1_7, R_a1_7, B_a1_7, A_a1_15, S_a1_8, R_a1_8, B_a1_8⟩ := id h_a1
  obtain ⟨S_t, R_t, B_t, A_t_0, h_t_1, A_t_1, h_t_3, A_t_2, S_t_5, R_t_5, B_t_5, A_t_3, S_t_6, R_t_6, B_t_6, A_t_4, h_t_7, A_t_5, S_t_9, R_t_9, B_t_9, A_t_7, S_t_10, R_t_10, B_t_10, A_t_8, h_t_11, A_t_9, S_t_13, R_t_13, B_t_13, A_t_10, S_t_14, R_t_14, B_t_14, A_t_12, S_t_15, R_t_15, B_t_15, A_t_14, S_t_16, R_t_16, B_t_16, A_t_15, h_t_17⟩ := id h_t
  obtain ⟨S_t_1, R_t_1, B_t_1, A_t_1_0, S_t_1_1, R_t_1_1, B_t_1_1, Q0_t_1, Q1_t_1, Q2_t_1⟩ := id h_t_1
  obtain ⟨S_t_3, R_t_3, B_t_3, A_t_3_0, S_t_3_1, R_t_3_1, B_t_3_1, Q0_t_3, Q1_t_3, Q2_t_3⟩ := id h_t_3
  obtain ⟨S_t_7, R_t_7, B_t_7, A_t_7_0, S_t_7_1, R_t_7_1, B_t_7_1, Q0_t_7, Q1_t_7, Q2_t_7⟩ := id h_t_7
  obtain ⟨S_t_11, R_t_11, B_t_11, A_t_11_0, S_t_11_1, R_t_11_1, B_t_11_1, Q0_t_11, Q1_t_11, Q2_t_11⟩ := id h_t_11
  obtain ⟨S_t_17, R_t_17, B_t_17, A_t_17_0, S_20, R_20, B_20, A_t_17_1, S_t_17_1, R_t_17_1, B_t_17_1, A_t_17_2, S_t_17_2, R_t_17_2, B_t_17_2, A_t_17_3, S_t_17_3, R_t_17_3, B_t_17_3, A_t_17_4, S_t_17_4, R_t_17_4, B_t_17_4, A_t_17_5, S_t_17_5, R_t_17_5, B_t_17_5, S_t_17_6, R_t_17_6, B_t_17_6, S_t_17_7, R_t_17_7, B_t_17_7⟩ := id h_t_17
  have N1 := gc_dj_LT h_a1 h_t
  have hD : gv_D (gc_E6 ws0 tb 4 (yX6_readSaids, cX6_readSaids, 4, (some .boolean)) kX6_readSaids) := gq_of oX6_readSaids
  refine gc_ev6 (d := 4) (l := kX6_readSaids) (Po := fun r hₚ => (∃ (Iₚ : gr_I) (Jₚ : gr_J), hₚ = gc_h sh Iₚ Jₚ A ∧ gc_Inv ro Iₚ ∧ (∀ q j : Nat, ((q = 39 ∧ j = 3) ∨ (q = 39 ∧ j = 4) ∨ (q = 23 ∧ j = 5) ∨ (q = 23 ∧ j = 6) ∨ (q = 23 ∧ j = 7) ∨ (q = 23 ∧ j = 8) ∨ q = (a1 + 7) ∨ (q = a1 ∧ j = 12) ∨ q = (a1 + 8) ∨ (q = a1 ∧ j = 14)) ∨ Iₚ q j = I q j) ∧ (∀ q j : Nat, ((q = 23 ∧ j = 9)) ∨ Jₚ q j = J q j) ∧ gc_LT Iₚ ∧ gc_TK Iₚ ∧ (∃ z : Int, r = some (.inl z) ∧ 0 ≤ z ∧ z ≤ 1 ∧ (Iₚ 23 1 = I 23 1) ∧ (I 23 5 ≤ Iₚ 23 5) ∧ (gs_Or z (0 ≤ (gs_ls β η Ir Jr nf9 a9 1002 0 p9) ∧ gc_AT β η (gs_ls β η Ir Jr nf9 a9 1002 0 p9) 23 Iₚ Jₚ) ((gs_ls β η Ir Jr nf9 a9 1002 0 p9) < 0 ∧ Iₚ 39 4 = -1 - (gs_ls β η Ir Jr nf9 a9 1002 0 p9)))))) htb rfl (Nat.le_of_ble_eq_true rfl) ?_
  have N_23__a1_7 : ¬ (23 = (a1 + 7)) := by omega
  have N_a1__a1_7 : ¬ (a1 = (a1 + 7)) := by omega
  have N_39__a1_7 : ¬ (39 = (a1 + 7)) := by omega
  have N_23__a1_8 : ¬ (23 = (a1 + 8)) := by omega
  have N_a1__a1_8 : ¬ (a1 = (a1 + 8)) := by omega
  have N_39__a1_8 : ¬ (39 = (a1 + 8)) := by omega
  have t1 := gc_TK_mo KTK_I
  have f2 := (gc_b_3_1 hI R_23)
  have f3 := (gc_b_3_5 hI R_23)
  have f4 := (gc_b_3_6 hI R_23)
  have f5 := (gc_b_3_7 hI R_23)
  have f6 := (show 0 ≤ I a1 12 ∧ I a1 12 ≤ 6 from gc_in2 hI R_a1 rfl rfl rfl)
  have f7 := (show 0 ≤ I a1 14 ∧ I a1 14 ≤ 6 from gc_in2 hI R_a1 rfl rfl rfl)
  have f8 := (gc_b_42_2 hI R_39)
  have tAT := gc_AT_l x1
  have L2 : ∀ (n9 : Nat) (I9 : gr_I) (J10 : gr_J) (v2_11 : Int) (p_11 : Int), (8 - v2_11).toNat < n9 → gc_Inv ro I9 → (∀ q j : Nat, ((q = 39 ∧ j = 3) ∨ (q = 39 ∧ j = 4) ∨ (q = 23 ∧ j = 5) ∨ (q = 23 ∧ j = 6) ∨ (q = 23 ∧ j = 7) ∨ (q = 23 ∧ j = 8) ∨ q = (a1 + 7) ∨ (q = a1 ∧ j = 12) ∨ q = (a1 + 8) ∨ (q = a1 ∧ j = 14)) ∨ I9 q j = I q j) → (∀ q j : Nat, ((q = 23 ∧ j = 9)) ∨ J10 q j = J q j) → gc_LT I9 → gc_TK I9 → ((0 ≤ v2_11 ∧ v2_11 ≤ 7) ∧ (0 ≤ p_11) ∧ (I9 a1 12 + I9 a1 14 = v2_11) ∧ (v2_11 ≤ 6) ∧ (I9 23 1 = I 23 1) ∧ (I 23 5 ≤ I9 23 5) ∧ (I9 a1 12 + I9 a1 14 ≤ 6) ∧ (I9 39 2 = (t : Int))) → (gc_AT β η p_11 23 I9 J10) → ((gs_ls β η Ir Jr nf9 a9 1002 0 p9) = gs_ls β η Ir Jr nf9 a9 (Int.toNat (1002 - v2_11)) v2_11 p_11) → gv_X (gc_E6 ws0 tb 4 (yX6_readSaids, cX6_readSaids, 4, (some .boolean)) kX6_readSaids) (gv_Q cX6_readSaids (some .boolean) sh (fun r hₚ => (∃ (Iₚ : gr_I) (Jₚ : gr_J), hₚ = gc_h sh Iₚ Jₚ A ∧ gc_Inv ro Iₚ ∧ (∀ q j : Nat, ((q = 39 ∧ j = 3) ∨ (q = 39 ∧ j = 4) ∨ (q = 23 ∧ j = 5) ∨ (q = 23 ∧ j = 6) ∨ (q = 23 ∧ j = 7) ∨ (q = 23 ∧ j = 8) ∨ q = (a1 + 7) ∨ (q = a1 ∧ j = 12) ∨ q = (a1 + 8) ∨ (q = a1 ∧ j = 14)) ∨ Iₚ q j = I q j) ∧ (∀ q j : Nat, ((q = 23 ∧ j = 9)) ∨ Jₚ q j = J q j) ∧ gc_LT Iₚ ∧ gc_TK Iₚ ∧ (∃ z : Int, r = some (.inl z) ∧ 0 ≤ z ∧ z ≤ 1 ∧ (Iₚ 23 1 = I 23 1) ∧ (I 23 5 ≤ Iₚ 23 5) ∧ (gs_Or z (0 ≤ (gs_ls β η Ir Jr nf9 a9 1002 0 p9) ∧ gc_AT β η (gs_ls β η Ir Jr nf9 a9 1002 0 p9) 23 Iₚ Jₚ) ((gs_ls β η Ir Jr nf9 a9 1002 0 p9) < 0 ∧ Iₚ 39 4 = -1 - (gs_ls β η Ir Jr nf9 a9 1002 0 p9))))))) (2, [(0, .inr (.inr (some 39))), (1, .inr (.inr (some a1))), (2, .inl v2_11)], [], sh, gc_h sh I9 J10 A) := by
    intro n9
    induction n9 with
    | zero => intro I9 J10 v2_11 p_11 hn; omega
    | succ n9 ih2 =>
      intro I9 J10 v2_11 p_11 hn hI9 FI9 FJ10 KLT_I9 KTK_I9 m_11 e1_11 e2_11
      obtain ⟨hv2_11, e0_11, e3_11, e4_11, e5_11, e6_11, e7_11, e8_11⟩ := m_11
      have t12 := gc_TK_mo KTK_I9
      have f13 := (gc_b_3_1 hI9 R_23)
      have f14 := (gc_b_3_5 hI9 R_23)
      have f15 := (gc_b_3_6 hI9 R_23)
      have f16 := (gc_b_3_7 hI9 R_23)
      have f17 := (show 0 ≤ I9 a1 12 ∧ I9 a1 12 ≤ 6 from gc_in2 hI9 R_a1 rfl rfl rfl)
      have f18 := (show 0 ≤ I9 a1 14 ∧ I9 a1 14 ≤ 6 from gc_in2 hI9 R_a1 rfl rfl rfl)
      have f19 := (gc_b_42_2 hI9 R_39)
      have t20 := gc_AT_l e1_11
      refine gv_run 2 true hD (pcₚ := 5) (lvₚ := [(0, .inr (.inr (some 39))), (1, .inr (.inr (some a1))), (2, .inl v2_11)]) (stₚ := [.inl 6, .inl v2_11]) (hₚ := gc_h sh I9 J10 A) (C := ((True ∧ True) ∧ True)) rfl ⟨⟨trivial, trivial⟩, trivial⟩ ?_
      refine gv_icmp_gt (t := 127) hD rfl rfl ⟨⟨by omega, by omega⟩, ⟨by omega, by omega⟩⟩ (fun c21 => ?_) (fun c21 => ?_)
      · show gv_X _ _ (127, [(0, .inr (.inr (some 39))), (1, .inr (.inr (some a1))), (2, .inl v2_11)], [], sh, gc_h sh I9 J10 A)
        refine gv_run 1 true hD (pcₚ := 128) (lvₚ := [(0, .inr (.inr (some 39))), (1, .inr (.inr (some a1))), (2, .inl v2_11)]) (stₚ := [.inl 1]) (hₚ := gc_h sh I9 J10 A) (C := (True ∧ True)) rfl ⟨trivial, trivial⟩ ?_
        exact gv_zret hD rfl (by omega) ⟨I9, J10, rfl, hI9, FI9, FJ10, KLT_I9, KTK_I9, ⟨_, rfl, by omega, by omega, by omega, by omega, (Or.inl ⟨by omega, by rw [show (gs_ls β η Ir Jr nf9 a9 1002 0 p9) = p_11 from e2_11.trans (gs_ls_e (by omega))]; exact ⟨by omega, e1_11⟩⟩)⟩⟩
      · show gv_X _ _ (8, [(0, .inr (.inr (some 39))), (1, .inr (.inr (some a1))), (2, .inl v2_11)], [], sh, gc_h sh I9 J10 A)
        refine gv_run 1 true hD (pcₚ := 9) (lvₚ := [(0, .inr (.inr (some 39))), (1, .inr (.inr (some a1))), (2, .inl v2_11)]) (stₚ := [.inr (.inr (some 39))]) (hₚ := gc_h sh I9 J10 A) (C := (True ∧ True)) rfl ⟨trivial, trivial⟩ ?_
        refine gv_get hD rfl rfl S_39 ⟨by decide, B_39⟩ (gc_hA S_39 rfl A_39_1) ?_
        show gv_X _ _ (12, [(0, .inr (.inr (some 39))), (1, .inr (.inr (some a1))), (2, .inl v2_11)], [.inr (.inr (some 23))], sh, gc_h sh I9 J10 A)
        have f22 := (gc_b_3_7 hI9 R_23)
        refine gv_get hD rfl rfl S_23 ⟨by decide, B_23⟩ (gc_hI S_23 rfl) ?_
        show gv_X _ _ (15, [(0, .inr (.inr (some 39))), (1, .inr (.inr (some a1))), (2, .inl v2_11)], [.inl (I9 23 7)], sh, gc_h sh I9 J10 A)
        refine gv_run 1 true hD (pcₚ := 17) (lvₚ := [(0, .inr (.inr (some 39))), (1, .inr (.inr (some a1))), (2, .inl v2_11)]) (stₚ := [.inl 44, .inl (I9 23 7)]) (hₚ := gc_h sh I9 J10 A) (C := (True ∧ True)) rfl ⟨trivial, trivial⟩ ?_
        refine gv_icmp_ne (t := 127) hD rfl rfl ⟨⟨by omega, by omega⟩, ⟨by omega, by omega⟩⟩ (fun c23 => ?_) (fun c23 => ?_)
        · show gv_X _ _ (127, [(0, .inr (.inr (some 39))), (1, .inr (.inr (some a1))), (2, .inl v2_11)], [], sh, gc_h sh I9 J10 A)
          refine gv_run 1 true hD (pcₚ := 128) (lvₚ := [(0, .inr (.inr (some 39))), (1, .inr (.inr (some a1))), (2, .inl v2_11)]) (stₚ := [.inl 1]) (hₚ := gc_h sh I9 J10 A) (C := (True ∧ True)) rfl ⟨trivial, trivial⟩ ?_
          exact gv_zret hD rfl (by omega) ⟨I9, J10, rfl, hI9, FI9, FJ10, KLT_I9, KTK_I9, ⟨_, rfl, by omega, by omega, by omega, by omega, (Or.inl ⟨by omega, by rw [show (gs_ls β η Ir Jr nf9 a9 1002 0 p9) = p_11 from e2_11.trans (gs_ls_e (by omega))]; exact ⟨by omega, e1_11⟩⟩)⟩⟩
        · show gv_X _ _ (20, [(0, .inr (.inr (some 39))), (1, .inr (.inr (some a1))), (2, .inl v2_11)], [], sh, gc_h sh I9 J10 A)
          refine gv_run 1 true hD (pcₚ := 21) (lvₚ := [(0, .inr (.inr (some 39))), (1, .inr (.inr (some a1))), (2, .inl v2_11)]) (stₚ := [.inr (.inr (some 39))]) (hₚ := gc_h sh I9 J10 A) (C := (True ∧ True)) rfl ⟨trivial, trivial⟩ ?_
          refine gv_get hD rfl rfl S_39 ⟨by decide, B_39⟩ (gc_hA S_39 rfl A_39_1) ?_
          show gv_X _ _ (24, [(0, .inr (.inr (some 39))), (1, .inr (.inr (some a1))), (2, .inl v2_11)], [.inr (.inr (some 23))], sh, gc_h sh I9 J10 A)
          have t25 := gc_TK_nx KTK_I9 (by omega)
          obtain ⟨r24, h24, E24, P24⟩ := d_X9_advance_p (ws0 := ws0) (tb := tb) hws htb sh ro I9 J10 A hI9 23 β η  (gc_b23 hb)    (by omega) e1_11.1.1 e1_11.1.2 
          obtain ⟨I26, J27, rfl, hI26, g24, k24, ⟨rfl, V24_0, V24_1, V24_2, V24_3, V24_4, q24⟩⟩ := P24
          have FI26 := gc_frc (W := fun q j => (q = 39 ∧ j = 3) ∨ (q = 39 ∧ j = 4) ∨ (q = 23 ∧ j = 5) ∨ (q = 23 ∧ j = 6) ∨ (q = 23 ∧ j = 7) ∨ (q = 23 ∧ j = 8) ∨ q = (a1 + 7) ∨ (q = a1 ∧ j = 12) ∨ q = (a1 + 8) ∨ (q = a1 ∧ j = 14)) (V := fun q j => (q = 23 ∧ j = 5) ∨ (q = 23 ∧ j = 6) ∨ (q = 23 ∧ j = 7) ∨ (q = 23 ∧ j = 8)) FI9 (fun q j h => (h.elim (fun h => (Or.inr (Or.inr (Or.inl h)))) (fun h => (h.elim (fun h => (Or.inr (Or.inr (Or.inr (Or.inl h))))) (fun h => (h.elim (fun h => (Or.inr (Or.inr (Or.inr (Or.inr (Or.inl h)))))) (fun h => (Or.inr (Or.inr (Or.inr (Or.inr (Or.inr (Or.inl h))))))))))))) g24
          have FJ27 := gc_frc (W := fun q j => (q = 23 ∧ j = 9)) (V := fun q j => (q = 23 ∧ j = 9)) FJ10 (fun q j h => h) k24
          have t28 := (g24 23 1).resolve_left (fun h => h.elim (fun h => absurd h.2 (by decide)) (fun h => h.elim (fun h => absurd h.2 (by decide)) (fun h => h.elim (fun h => absurd h.2 (by decide)) (fun h => absurd h.2 (by decide)))))
          have t29 := (g24 a1 12).resolve_left (fun h => h.elim (fun h => absurd h.2 (by decide)) (fun h => h.elim (fun h => absurd h.2 (by decide)) (fun h => h.elim (fun h => absurd h.2 (by decide)) (fun h => absurd h.2 (by decide)))))
          have t30 := (g24 a1 14).resolve_left (fun h => h.elim (fun h => absurd h.2 (by decide)) (fun h => h.elim (fun h => absurd h.2 (by decide)) (fun h => h.elim (fun h => absurd h.2 (by decide)) (fun h => absurd h.2 (by decide)))))
          have t31 := (g24 39 2).resolve_left (fun h => h.elim (fun h => absurd h.2 (by decide)) (fun h => h.elim (fun h => absurd h.2 (by decide)) (fun h => h.elim (fun h => absurd h.2 (by decide)) (fun h => absurd h.2 (by decide)))))
          have f32 := (gc_b_3_5 hI26 R_23)
          have f33 := (gc_b_3_6 hI26 R_23)
          have f34 := (gc_b_3_7 hI26 R_23)
          have KLT_I26 : gc_LT I26 := q24.2.2.1
          have KTK_I26 : gc_TK I26 := And.intro V24_0 (And.intro V24_1 (And.intro V24_2 (And.intro V24_3 V24_4)))
          have t35 := gc_TK_mo KTK_I26
          clear V24_0 V24_1 V24_2 V24_3 V24_4
          have A36 := gc_AT_nx e1_11 q24.2.2.2
          have t37 := gc_AT_l A36
          refine gv_callV hD rfl (As := []) (st := []) rfl B_23 S_23 rfl (gc_lV6 hws rfl) (Nat.le_of_ble_eq_true rfl) (gz_Ev_mono (d := 2) (by decide) E24) ?_
          show gv_X _ _ (27, [(0, .inr (.inr (some 39))), (1, .inr (.inr (some a1))), (2, .inl v2_11)], [], sh, gc_h sh I26 J27 A)
          refine gv_run 2 true hD (pcₚ := 31) (lvₚ := [(0, .inr (.inr (some 39))), (1, .inr (.inr (some a1))), (2, .inl v2_11)]) (stₚ := [.inr (.inl (418347378021)), .inr (.inr (some 39))]) (hₚ := gc_h sh I26 J27 A) (C := ((True ∧ True) ∧ True)) rfl ⟨⟨trivial, trivial⟩, trivial⟩ ?_
          obtain ⟨r38, h38, E38, P38⟩ := d_X6_isWord_p (ws0 := ws0) (tb := tb) hws htb sh ro I26 J27 A hI26  β η (gs_X β η p_11) (418347378021) hb    A36 (by omega) 
          obtain ⟨rfl, ⟨z38, rfl, q38⟩⟩ := P38
          have t39 : z38 = gs_kw β η (gs_X β η p_11) (gs_W 95) := q38.2.2.2.trans (gs_kwc_kw (gs_W_al 95 (by decide) (by decide)))
          refine gv_callV hD rfl (As := [.inr (.inl (418347378021))]) (st := []) rfl B_39 S_39 rfl (gc_lV6 hws rfl) (Nat.le_of_ble_eq_true rfl) (gz_Ev_mono (d := 1) (by decide) E38) ?_
          show gv_X _ _ (34, [(0, .inr (.inr (some 39))), (1, .inr (.inr (some a1))), (2, .inl v2_11)], [.inl z38], sh, gc_h sh I26 J27 A)
          refine gv_run 2 true hD (pcₚ := 36) (lvₚ := [(3, .inl z38), (0, .inr (.inr (some 39))), (1, .inr (.inr (some a1))), (2, .inl v2_11)]) (stₚ := [.inl z38]) (hₚ := gc_h sh I26 J27 A) (C := ((True ∧ True) ∧ True)) rfl ⟨⟨trivial, trivial⟩, trivial⟩ ?_
          refine gv_if_ne (t := 62) hD rfl rfl ⟨by omega, by omega⟩ (fun c40 => ?_) (fun c40 => ?_)
          · show gv_X _ _ (62, [(3, .inl z38), (0, .inr (.inr (some 39))), (1, .inr (.inr (some a1))), (2, .inl v2_11)], [], sh, gc_h sh I26 J27 A)
            refine gv_run 1 true hD (pcₚ := 63) (lvₚ := [(3, .inl z38), (0, .inr (.inr (some 39))), (1, .inr (.inr (some a1))), (2, .inl v2_11)]) (stₚ := [.inr (.inr (some a1))]) (hₚ := gc_h sh I26 J27 A) (C := (True ∧ True)) rfl ⟨trivial, trivial⟩ ?_
            have f41 := (show 0 ≤ I26 a1 12 ∧ I26 a1 12 ≤ 6 from gc_in2 hI26 R_a1 rfl rfl rfl)
            refine gv_get hD rfl rfl S_a1 ⟨by decide, B_a1⟩ (gc_hI S_a1 rfl) ?_
            show gv_X _ _ (66, [(3, .inl z38), (0, .inr (.inr (some 39))), (1, .inr (.inr (some a1))), (2, .inl v2_11)], [.inl (I26 a1 12)], sh, gc_h sh I26 J27 A)
            refine gv_run 1 true hD (pcₚ := 67) (lvₚ := [(3, .inl z38), (0, .inr (.inr (some 39))), (1, .inr (.inr (some a1))), (2, .inl v2_11)]) (stₚ := [.inr (.inr (some a1)), .inl (I26 a1 12)]) (hₚ := gc_h sh I26 J27 A) (C := (True ∧ True)) rfl ⟨trivial, trivial⟩ ?_
            have f42 := (show 0 ≤ I26 a1 14 ∧ I26 a1 14 ≤ 6 from gc_in2 hI26 R_a1 rfl rfl rfl)
            refine gv_get hD rfl rfl S_a1 ⟨by decide, B_a1⟩ (gc_hI S_a1 rfl) ?_
            show gv_X _ _ (70, [(3, .inl z38), (0, .inr (.inr (some 39))), (1, .inr (.inr (some a1))), (2, .inl v2_11)], [.inl (I26 a1 14), .inl (I26 a1 12)], sh, gc_h sh I26 J27 A)
            refine gv_run 2 true hD (pcₚ := 73) (lvₚ := [(3, .inl z38), (0, .inr (.inr (some 39))), (1, .inr (.inr (some a1))), (2, .inl v2_11)]) (stₚ := [.inl 6, .inl ((I26 a1 12) + (I26 a1 14))]) (hₚ := gc_h sh I26 J27 A) (C := ((True ∧ True) ∧ True)) rfl ⟨⟨trivial, trivial⟩, trivial⟩ ?_
            refine gv_icmp_ne (t := 89) hD rfl rfl ⟨⟨by omega, by omega⟩, ⟨by omega, by omega⟩⟩ (fun c43 => ?_) (fun c43 => ?_)
            · show gv_X _ _ (89, [(3, .inl z38), (0, .inr (.inr (some 39))), (1, .inr (.inr (some a1))), (2, .inl v2_11)], [], sh, gc_h sh I26 J27 A)
              refine gv_run 1 true hD (pcₚ := 90) (lvₚ := [(3, .inl z38), (0, .inr (.inr (some 39))), (1, .inr (.inr (some a1))), (2, .inl v2_11)]) (stₚ := [.inr (.inr (some 39))]) (hₚ := gc_h sh I26 J27 A) (C := (True ∧ True)) rfl ⟨trivial, trivial⟩ ?_
              refine gv_get hD rfl rfl S_39 ⟨by decide, B_39⟩ (gc_hA S_39 rfl A_39_1) ?_
              show gv_X _ _ (93, [(3, .inl z38), (0, .inr (.inr (some 39))), (1, .inr (.inr (some a1))), (2, .inl v2_11)], [.inr (.inr (some 23))], sh, gc_h sh I26 J27 A)
              have t45 := gc_TK_nx KTK_I26 (by omega)
              obtain ⟨r44, h44, E44, P44⟩ := d_X9_advance_p (ws0 := ws0) (tb := tb) hws htb sh ro I26 J27 A hI26 23 β η  (gc_b23 hb)    (by omega) A36.1.1 A36.1.2 
              obtain ⟨I46, J47, rfl, hI46, g44, k44, ⟨rfl, V44_0, V44_1, V44_2, V44_3, V44_4, q44⟩⟩ := P44
              have FI46 := gc_frc (W := fun q j => (q = 39 ∧ j = 3) ∨ (q = 39 ∧ j = 4) ∨ (q = 23 ∧ j = 5) ∨ (q = 23 ∧ j = 6) ∨ (q = 23 ∧ j = 7) ∨ (q = 23 ∧ j = 8) ∨ q = (a1 + 7) ∨ (q = a1 ∧ j = 12) ∨ q = (a1 + 8) ∨ (q = a1 ∧ j = 14)) (V := fun q j => (q = 23 ∧ j = 5) ∨ (q = 23 ∧ j = 6) ∨ (q = 23 ∧ j = 7) ∨ (q = 23 ∧ j = 8)) FI26 (fun q j h => (h.elim (fun h => (Or.inr (Or.inr (Or.inl h)))) (fun h => (h.elim (fun h => (Or.inr (Or.inr (Or.inr (Or.inl h))))) (fun h => (h.elim (fun h => (Or.inr (Or.inr (Or.inr (Or.inr (Or.inl h)))))) (fun h => (Or.inr (Or.inr (Or.inr (Or.inr (Or.inr (Or.inl h))))))))))))) g44
              have FJ47 := gc_frc (W := fun q j => (q = 23 ∧ j = 9)) (V := fun q j => (q = 23 ∧ j = 9)) FJ27 (fun q j h => h) k44
              have t48 := (g44 23 1).resolve_left (fun h => h.elim (fun h => absurd h.2 (by decide)) (fun h => h.elim (fun h => absurd h.2 (by decide)) (fun h => h.elim (fun h => absurd h.2 (by decide)) (fun h => absurd h.2 (by decide)))))
              have t49 := (g44 a1 12).resolve_left (fun h => h.elim (fun h => absurd h.2 (by decide)) (fun h => h.elim (fun h => absurd h.2 (by decide)) (fun h => h.elim (fun h => absurd h.2 (by decide)) (fun h => absurd h.2 (by decide)))))
              have t50 := (g44 a1 14).resolve_left (fun h => h.elim (fun h => absurd h.2 (by decide)) (fun h => h.elim (fun h => absurd h.2 (by decide)) (fun h => h.elim (fun h => absurd h.2 (by decide)) (fun h => absurd h.2 (by decide)))))
              have t51 := (g44 39 2).resolve_left (fun h => h.elim (fun h => absurd h.2 (by decide)) (fun h => h.elim (fun h => absurd h.2 (by decide)) (fun h => h.elim (fun h => absurd h.2 (by decide)) (fun h => absurd h.2 (by decide)))))
              have f52 := (gc_b_3_5 hI46 R_23)
              have f53 := (gc_b_3_6 hI46 R_23)
              have f54 := (gc_b_3_7 hI46 R_23)
              have KLT_I46 : gc_LT I46 := q44.2.2.1
              have KTK_I46 : gc_TK I46 := And.intro V44_0 (And.intro V44_1 (And.intro V44_2 (And.intro V44_3 V44_4)))
              have t55 := gc_TK_mo KTK_I46
              clear V44_0 V44_1 V44_2 V44_3 V44_4
              have A56 := gc_AT_nx A36 q44.2.2.2
              have t57 := gc_AT_l A56
              refine gv_callV hD rfl (As := []) (st := []) rfl B_23 S_23 rfl (gc_lV6 hws rfl) (Nat.le_of_ble_eq_true rfl) (gz_Ev_mono (d := 2) (by decide) E44) ?_
              show gv_X _ _ (96, [(3, .inl z38), (0, .inr (.inr (some 39))), (1, .inr (.inr (some a1))), (2, .inl v2_11)], [], sh, gc_h sh I46 J47 A)
              refine gv_run 1 true hD (pcₚ := 97) (lvₚ := [(3, .inl z38), (0, .inr (.inr (some 39))), (1, .inr (.inr (some a1))), (2, .inl v2_11)]) (stₚ := [.inl z38]) (hₚ := gc_h sh I46 J47 A) (C := (True ∧ True)) rfl ⟨trivial, trivial⟩ ?_
              refine gv_if_eq (t := 111) hD rfl rfl ⟨by omega, by omega⟩ (fun c58 => ?_) (fun c58 => ?_)
              · exfalso; omega
              · show gv_X _ _ (100, [(3, .inl z38), (0, .inr (.inr (some 39))), (1, .inr (.inr (some a1))), (2, .inl v2_11)], [], sh, gc_h sh I46 J47 A)
                refine gv_run 2 true hD (pcₚ := 102) (lvₚ := [(3, .inl z38), (0, .inr (.inr (some 39))), (1, .inr (.inr (some a1))), (2, .inl v2_11)]) (stₚ := [.inr (.inr (some a1)), .inr (.inr (some 39))]) (hₚ := gc_h sh I46 J47 A) (C := ((True ∧ True) ∧ True)) rfl ⟨⟨trivial, trivial⟩, trivial⟩ ?_
                obtain ⟨r59, h59, E59, P59⟩ := d_X6_readAgree_p (ws0 := ws0) (tb := tb) hws htb sh ro I46 J47 A hI46  t β η ((gs_X β η (gs_X β η p_11))) Ir Jr nf9 a9 a1 hb h_a1 G_a1 h_t G_t   (by omega) A56 (by omega) (gs_SO_fr x3 (fun k => ((((g44 (a1 + 6) k).resolve_left (by omega)).trans ((g24 (a1 + 6) k).resolve_left (by omega))).trans ((FI9 (a1 + 6) k).resolve_left (by omega))))) (by omega) (by have h9 := x5; have h8 := (show I46 (t + 1) 1 = I (t + 1) 1 from ((((g44 (t + 1) 1).resolve_left (by omega)).trans ((g24 (t + 1) 1).resolve_left (by omega))).trans ((FI9 (t + 1) 1).resolve_left (by omega)))); omega) (by rw [show I46 (t + 1) 1 = I (t + 1) 1 from ((((g44 (t + 1) 1).resolve_left (by omega)).trans ((g24 (t + 1) 1).resolve_left (by omega))).trans ((FI9 (t + 1) 1).resolve_left (by omega))), show J47 (t + 2) = J (t + 2) from funext fun j => ((((k44 (t + 2) j).resolve_left (by omega)).trans ((k24 (t + 2) j).resolve_left (by omega))).trans ((FJ10 (t + 2) j).resolve_left (by omega)))]; exact x6) (by omega) KLT_I46 KTK_I46
                obtain ⟨I60, J61, rfl, hI60, g59, k59, KLT_I60, KTK_I60, ⟨z59, rfl, q59⟩⟩ := P59
                have FI60 := gc_frc (W := fun q j => (q = 39 ∧ j = 3) ∨ (q = 39 ∧ j = 4) ∨ (q = 23 ∧ j = 5) ∨ (q = 23 ∧ j = 6) ∨ (q = 23 ∧ j = 7) ∨ (q = 23 ∧ j = 8) ∨ q = (a1 + 7) ∨ (q = a1 ∧ j = 12) ∨ q = (a1 + 8) ∨ (q = a1 ∧ j = 14)) (V := fun q j => (q = 39 ∧ j = 3) ∨ (q = 39 ∧ j = 4) ∨ (q = 23 ∧ j = 5) ∨ (q = 23 ∧ j = 6) ∨ (q = 23 ∧ j = 7) ∨ (q = 23 ∧ j = 8) ∨ q = (a1 + 7) ∨ (q = a1 ∧ j = 12)) FI46 (fun q j h => (h.elim (fun h => (Or.inl h)) (fun h => (h.elim (fun h => (Or.inr (Or.inl h))) (fun h => (h.elim (fun h => (Or.inr (Or.inr (Or.inl h)))) (fun h => (h.elim (fun h => (Or.inr (Or.inr (Or.inr (Or.inl h))))) (fun h => (h.elim (fun h => (Or.inr (Or.inr (Or.inr (Or.inr (Or.inl h)))))) (fun h => (h.elim (fun h => (Or.inr (Or.inr (Or.inr (Or.inr (Or.inr (Or.inl h))))))) (fun h => (h.elim (fun h => (Or.inr (Or.inr (Or.inr (Or.inr (Or.inr (Or.inr (Or.inl h)))))))) (fun h => (Or.inr (Or.inr (Or.inr (Or.inr (Or.inr (Or.inr (Or.inr (Or.inl h))))))))))))))))))))))) g59
                have FJ61 := gc_frc (W := fun q j => (q = 23 ∧ j = 9)) (V := fun q j => (q = 23 ∧ j = 9)) FJ47 (fun q j h => h) k59
                have t62 := (g59 23 1).resolve_left (fun h => h.elim (fun h => absurd h.2 (by decide)) (fun h => h.elim (fun h => absurd h.2 (by decide)) (fun h => h.elim (fun h => absurd h.2 (by decide)) (fun h => h.elim (fun h => absurd h.2 (by decide)) (fun h => h.elim (fun h => absurd h.2 (by decide)) (fun h => h.elim (fun h => absurd h.2 (by decide)) (fun h => h.elim (fun h => absurd h N_23__a1_7) (fun h => absurd h.2 (by decide)))))))))
                have t63 := (g59 a1 14).resolve_left (fun h => h.elim (fun h => absurd h.2 (by decide)) (fun h => h.elim (fun h => absurd h.2 (by decide)) (fun h => h.elim (fun h => absurd h.2 (by decide)) (fun h => h.elim (fun h => absurd h.2 (by decide)) (fun h => h.elim (fun h => absurd h.2 (by decide)) (fun h => h.elim (fun h => absurd h.2 (by decide)) (fun h => h.elim (fun h => absurd h N_a1__a1_7) (fun h => absurd h.2 (by decide)))))))))
                have t64 := (g59 39 2).resolve_left (fun h => h.elim (fun h => absurd h.2 (by decide)) (fun h => h.elim (fun h => absurd h.2 (by decide)) (fun h => h.elim (fun h => absurd h.2 (by decide)) (fun h => h.elim (fun h => absurd h.2 (by decide)) (fun h => h.elim (fun h => absurd h.2 (by decide)) (fun h => h.elim (fun h => absurd h.2 (by decide)) (fun h => h.elim (fun h => absurd h N_39__a1_7) (fun h => absurd h.2 (by decide)))))))))
                have f65 := (gc_b_3_5 hI60 R_23)
                have f66 := (gc_b_3_6 hI60 R_23)
                have f67 := (gc_b_3_7 hI60 R_23)
                have f68 := (show 0 ≤ I60 a1 12 ∧ I60 a1 12 ≤ 6 from gc_in2 hI60 R_a1 rfl rfl rfl)
                have t69 := gc_TK_mo KTK_I60
                refine gv_callV hD rfl (As := [.inr (.inr (some a1))]) (st := []) rfl B_39 S_39 rfl (gc_lV6 hws rfl) (Nat.le_of_ble_eq_true rfl) (gz_Ev_mono (d := 4) (by decide) E59) ?_
                show gv_X _ _ (105, [(3, .inl z38), (0, .inr (.inr (some 39))), (1, .inr (.inr (some a1))), (2, .inl v2_11)], [.inl z59], sh, gc_h sh I60 J61 A)
                refine gv_if_eq (t := 119) hD rfl rfl ⟨by omega, by omega⟩ (fun c70 => ?_) (fun c70 => ?_)
                · show gv_X _ _ (119, [(3, .inl z38), (0, .inr (.inr (some 39))), (1, .inr (.inr (some a1))), (2, .inl v2_11)], [], sh, gc_h sh I60 J61 A)
                  obtain ⟨u71, u71_⟩ := gs_or0 q59.2.2.2.2.2 (by omega)
                  refine gv_run 1 true hD (pcₚ := 120) (lvₚ := [(3, .inl z38), (0, .inr (.inr (some 39))), (1, .inr (.inr (some a1))), (2, .inl v2_11)]) (stₚ := [.inl 0]) (hₚ := gc_h sh I60 J61 A) (C := (True ∧ True)) rfl ⟨trivial, trivial⟩ ?_
                  exact gv_zret hD rfl (by omega) ⟨I60, J61, rfl, hI60, FI60, FJ61, KLT_I60, KTK_I60, ⟨_, rfl, by omega, by omega, by omega, by omega, (Or.inr ⟨by omega, by first | (exfalso; omega) | (have e9 : gs_said β η Ir Jr nf9 v2_11 a9 (gs_X β η p_11) = gs_sa1 β η Ir Jr nf9 a9 (gs_ao β η nf9 a9 (gs_X β η (gs_X β η p_11))) := (by unfold gs_said gs_said1 gs_said2; (repeat first | rw [if_pos (by omega)] | rw [if_neg (by omega)])); rw [e2_11, show Int.toNat (1002 - v2_11) = Int.toNat (1002 - (v2_11 + 1)) + 1 from by omega, gs_ls_f (by omega) (by rw [e9]; omega), e9]; exact ⟨by omega, by omega⟩)⟩)⟩⟩
                · show gv_X _ _ (108, [(3, .inl z38), (0, .inr (.inr (some 39))), (1, .inr (.inr (some a1))), (2, .inl v2_11)], [], sh, gc_h sh I60 J61 A)
                  obtain ⟨u72, A72, U72⟩ := gs_or1 q59.2.2.2.2.2 (by omega)
                  have t73 := gc_AT_l A72
                  refine gv_run 3 true hD (pcₚ := 2) (lvₚ := [(2, .inl (v2_11 + 1)), (3, .inl z38), (0, .inr (.inr (some 39))), (1, .inr (.inr (some a1)))]) (stₚ := []) (hₚ := gc_h sh I60 J61 A) (C := (((True ∧ True) ∧ True) ∧ True)) rfl ⟨⟨⟨trivial, trivial⟩, trivial⟩, trivial⟩ ?_
                  refine gv_pick [2, 3, 0] rfl ?_
                  exact ih2 I60 J61 (v2_11 + 1) ((gs_sa1 β η Ir Jr nf9 a9 (gs_ao β η nf9 a9 (gs_X β η (gs_X β η p_11))))) (by omega) hI60 FI60 FJ61 KLT_I60 KTK_I60 (by omega) A72 (e2_11.trans (by have e9 : gs_said β η Ir Jr nf9 v2_11 a9 (gs_X β η p_11) = (gs_sa1 β η Ir Jr nf9 a9 (gs_ao β η nf9 a9 (gs_X β η (gs_X β η p_11)))) := (by unfold gs_said gs_said1 gs_said2; (repeat first | rw [if_pos (by omega)] | rw [if_neg (by omega)])); rw [show Int.toNat (1002 - v2_11) = Int.toNat (1002 - (v2_11 + 1)) + 1 from by omega, gs_ls_c (by omega) (by rw [e9]; omega), e9]))
            · show gv_X _ _ (76, [(3, .inl z38), (0, .inr (.inr (some 39))), (1, .inr (.inr (some a1))), (2, .inl v2_11)], [], sh, gc_h sh I26 J27 A)
              refine gv_run 3 true hD (pcₚ := 79) (lvₚ := [(3, .inl z38), (0, .inr (.inr (some 39))), (1, .inr (.inr (some a1))), (2, .inl v2_11)]) (stₚ := [.inr (.inr (some 39)), .inl 5, .inr (.inr (some 39))]) (hₚ := gc_h sh I26 J27 A) (C := (((True ∧ True) ∧ True) ∧ True)) rfl ⟨⟨⟨trivial, trivial⟩, trivial⟩, trivial⟩ ?_
              refine gv_get hD rfl rfl S_39 ⟨by decide, B_39⟩ (gc_hA S_39 rfl A_39_1) ?_
              show gv_X _ _ (82, [(3, .inl z38), (0, .inr (.inr (some 39))), (1, .inr (.inr (some a1))), (2, .inl v2_11)], [.inr (.inr (some 23)), .inl 5, .inr (.inr (some 39))], sh, gc_h sh I26 J27 A)
              have f74 := (gc_b_3_5 hI26 R_23)
              refine gv_get hD rfl rfl S_23 ⟨by decide, B_23⟩ (gc_hI S_23 rfl) ?_
              show gv_X _ _ (85, [(3, .inl z38), (0, .inr (.inr (some 39))), (1, .inr (.inr (some a1))), (2, .inl v2_11)], [.inl (I26 23 5), .inl 5, .inr (.inr (some 39))], sh, gc_h sh I26 J27 A)
              obtain ⟨r75, h75, E75, P75⟩ := d_X6_wrong_p (ws0 := ws0) (tb := tb) hws htb sh ro I26 J27 A hI26  5 (I26 23 5) hb   ⟨by omega, by omega⟩ ⟨by omega, by omega⟩  
              obtain ⟨I76, J77, rfl, hI76, g75, k75, ⟨z75, rfl, q75⟩⟩ := P75
              have FI76 := gc_frc (W := fun q j => (q = 39 ∧ j = 3) ∨ (q = 39 ∧ j = 4) ∨ (q = 23 ∧ j = 5) ∨ (q = 23 ∧ j = 6) ∨ (q = 23 ∧ j = 7) ∨ (q = 23 ∧ j = 8) ∨ q = (a1 + 7) ∨ (q = a1 ∧ j = 12) ∨ q = (a1 + 8) ∨ (q = a1 ∧ j = 14)) (V := fun q j => (q = 39 ∧ j = 3) ∨ (q = 39 ∧ j = 4)) FI26 (fun q j h => (h.elim (fun h => (Or.inl h)) (fun h => (Or.inr (Or.inl h))))) g75
              have t78 := (g75 23 1).resolve_left (fun h => h.elim (fun h => absurd h.2 (by decide)) (fun h => absurd h.2 (by decide)))
              have t79 := (g75 23 5).resolve_left (fun h => h.elim (fun h => absurd h.2 (by decide)) (fun h => absurd h.2 (by decide)))
              have t80 := (g75 23 6).resolve_left (fun h => h.elim (fun h => absurd h.2 (by decide)) (fun h => absurd h.2 (by decide)))
              have t81 := (g75 23 7).resolve_left (fun h => h.elim (fun h => absurd h.2 (by decide)) (fun h => absurd h.2 (by decide)))
              have t82 := (g75 a1 12).resolve_left (fun h => h.elim (fun h => absurd h.2 (by decide)) (fun h => absurd h.2 (by decide)))
              have t83 := (g75 a1 14).resolve_left (fun h => h.elim (fun h => absurd h.2 (by decide)) (fun h => absurd h.2 (by decide)))
              have t84 := (g75 39 2).resolve_left (fun h => h.elim (fun h => absurd h.2 (by decide)) (fun h => absurd h.2 (by decide)))
              obtain rfl : J27 = J77 := funext fun q => funext fun j => ((k75 q j).resolve_left id).symm
              have KLT_I76 := gc_LT_fr KLT_I26 ((g75 23 5).resolve_left (fun h => h.elim (fun h => absurd h.2 (by decide)) (fun h => absurd h.2 (by decide)))) ((g75 23 6).resolve_left (fun h => h.elim (fun h => absurd h.2 (by decide)) (fun h => absurd h.2 (by decide)))) ((g75 23 7).resolve_left (fun h => h.elim (fun h => absurd h.2 (by decide)) (fun h => absurd h.2 (by decide)))) (fun k => (g75 24 k).resolve_left (fun h => h.elim (fun h => absurd h.1 (by decide)) (fun h => absurd h.1 (by decide))))
              have KTK_I76 := gc_TK_fr KTK_I26 ((g75 23 1).resolve_left (fun h => h.elim (fun h => absurd h.2 (by decide)) (fun h => absurd h.2 (by decide)))) ((g75 23 5).resolve_left (fun h => h.elim (fun h => absurd h.2 (by decide)) (fun h => absurd h.2 (by decide)))) ((g75 23 6).resolve_left (fun h => h.elim (fun h => absurd h.2 (by decide)) (fun h => absurd h.2 (by decide)))) ((g75 23 7).resolve_left (fun h => h.elim (fun h => absurd h.2 (by decide)) (fun h => absurd h.2 (by decide))))
              have A85 := gc_AT_I A36 ((g75 23 1).resolve_left (fun h => h.elim (fun h => absurd h.2 (by decide)) (fun h => absurd h.2 (by decide)))) ((g75 23 5).resolve_left (fun h => h.elim (fun h => absurd h.2 (by decide)) (fun h => absurd h.2 (by decide)))) ((g75 23 6).resolve_left (fun h => h.elim (fun h => absurd h.2 (by decide)) (fun h => absurd h.2 (by decide)))) ((g75 23 7).resolve_left (fun h => h.elim (fun h => absurd h.2 (by decide)) (fun h => absurd h.2 (by decide)))) ((g75 23 8).resolve_left (fun h => h.elim (fun h => absurd h.2 (by decide)) (fun h => absurd h.2 (by decide)))) (fun k => (g75 24 k).resolve_left (fun h => h.elim (fun h => absurd h.1 (by decide)) (fun h => absurd h.1 (by decide))))
              have t86 := gc_AT_l A85
              refine gv_callV hD rfl (As := [.inl 5, .inl (I26 23 5)]) (st := []) rfl B_39 S_39 rfl (gc_lV6 hws rfl) (Nat.le_of_ble_eq_true rfl) (gz_Ev_mono (d := 1) (by decide) E75) ?_
              show gv_X _ _ (88, [(3, .inl z38), (0, .inr (.inr (some 39))), (1, .inr (.inr (some a1))), (2, .inl v2_11)], [.inl z75], sh, gc_h sh I76 J27 A)
              exact gv_zret hD rfl (by omega) ⟨I76, J27, rfl, hI76, FI76, FJ27, KLT_I76, KTK_I76, ⟨_, rfl, by omega, by omega, by omega, by omega, (Or.inr ⟨by omega, by first | (exfalso; omega) | (have e9 : gs_said β η Ir Jr nf9 v2_11 a9 (gs_X β η p_11) = -1 - gs_A β η (gs_X β η p_11) := (by unfold gs_said gs_said1; (repeat first | rw [if_pos (by omega)] | rw [if_neg (by omega)])); rw [e2_11, show Int.toNat (1002 - v2_11) = Int.toNat (1002 - (v2_11 + 1)) + 1 from by omega, gs_ls_f (by omega) (by rw [e9]; omega), e9]; exact ⟨by omega, by omega⟩)⟩)⟩⟩
          · show gv_X _ _ (39, [(3, .inl z38), (0, .inr (.inr (some 39))), (1, .inr (.inr (some a1))), (2, .inl v2_11)], [], sh, gc_h sh I26 J27 A)
            refine gv_run 2 true hD (pcₚ := 43) (lvₚ := [(3, .inl z38), (0, .inr (.inr (some 39))), (1, .inr (.inr (some a1))), (2, .inl v2_11)]) (stₚ := [.inr (.inl (1734964837)), .inr (.inr (some 39))]) (hₚ := gc_h sh I26 J27 A) (C := ((True ∧ True) ∧ True)) rfl ⟨⟨trivial, trivial⟩, trivial⟩ ?_
            obtain ⟨r87, h87, E87, P87⟩ := d_X6_isWord_p (ws0 := ws0) (tb := tb) hws htb sh ro I26 J27 A hI26  β η (gs_X β η p_11) (1734964837) hb    A36 (by omega) 
            obtain ⟨rfl, ⟨z87, rfl, q87⟩⟩ := P87
            have t88 : z87 = gs_kw β η (gs_X β η p_11) (gs_W 96) := q87.2.2.2.trans (gs_kwc_kw (gs_W_al 96 (by decide) (by decide)))
            refine gv_callV hD rfl (As := [.inr (.inl (1734964837))]) (st := []) rfl B_39 S_39 rfl (gc_lV6 hws rfl) (Nat.le_of_ble_eq_true rfl) (gz_Ev_mono (d := 1) (by decide) E87) ?_
            show gv_X _ _ (46, [(3, .inl z38), (0, .inr (.inr (some 39))), (1, .inr (.inr (some a1))), (2, .inl v2_11)], [.inl z87], sh, gc_h sh I26 J27 A)
            refine gv_if_ne (t := 62) hD rfl rfl ⟨by omega, by omega⟩ (fun c89 => ?_) (fun c89 => ?_)
            · show gv_X _ _ (62, [(3, .inl z38), (0, .inr (.inr (some 39))), (1, .inr (.inr (some a1))), (2, .inl v2_11)], [], sh, gc_h sh I26 J27 A)
              refine gv_run 1 true hD (pcₚ := 63) (lvₚ := [(3, .inl z38), (0, .inr (.inr (some 39))), (1, .inr (.inr (some a1))), (2, .inl v2_11)]) (stₚ := [.inr (.inr (some a1))]) (hₚ := gc_h sh I26 J27 A) (C := (True ∧ True)) rfl ⟨trivial, trivial⟩ ?_
              have f90 := (show 0 ≤ I26 a1 12 ∧ I26 a1 12 ≤ 6 from gc_in2 hI26 R_a1 rfl rfl rfl)
              refine gv_get hD rfl rfl S_a1 ⟨by decide, B_a1⟩ (gc_hI S_a1 rfl) ?_
              show gv_X _ _ (66, [(3, .inl z38), (0, .inr (.inr (some 39))), (1, .inr (.inr (some a1))), (2, .inl v2_11)], [.inl (I26 a1 12)], sh, gc_h sh I26 J27 A)
              refine gv_run 1 true hD (pcₚ := 67) (lvₚ := [(3, .inl z38), (0, .inr (.inr (some 39))), (1, .inr (.inr (some a1))), (2, .inl v2_11)]) (stₚ := [.inr (.inr (some a1)), .inl (I26 a1 12)]) (hₚ := gc_h sh I26 J27 A) (C := (True ∧ True)) rfl ⟨trivial, trivial⟩ ?_
              have f91 := (show 0 ≤ I26 a1 14 ∧ I26 a1 14 ≤ 6 from gc_in2 hI26 R_a1 rfl rfl rfl)
              refine gv_get hD rfl rfl S_a1 ⟨by decide, B_a1⟩ (gc_hI S_a1 rfl) ?_
              show gv_X _ _ (70, [(3, .inl z38), (0, .inr (.inr (some 39))), (1, .inr (.inr (some a1))), (2, .inl v2_11)], [.inl (I26 a1 14), .inl (I26 a1 12)], sh, gc_h sh I26 J27 A)
              refine gv_run 2 true hD (pcₚ := 73) (lvₚ := [(3, .inl z38), (0, .inr (.inr (some 39))), (1, .inr (.inr (some a1))), (2, .inl v2_11)]) (stₚ := [.inl 6, .inl ((I26 a1 12) + (I26 a1 14))]) (hₚ := gc_h sh I26 J27 A) (C := ((True ∧ True) ∧ True)) rfl ⟨⟨trivial, trivial⟩, trivial⟩ ?_
              refine gv_icmp_ne (t := 89) hD rfl rfl ⟨⟨by omega, by omega⟩, ⟨by omega, by omega⟩⟩ (fun c92 => ?_) (fun c92 => ?_)
              · show gv_X _ _ (89, [(3, .inl z38), (0, .inr (.inr (some 39))), (1, .inr (.inr (some a1))), (2, .inl v2_11)], [], sh, gc_h sh I26 J27 A)
                refine gv_run 1 true hD (pcₚ := 90) (lvₚ := [(3, .inl z38), (0, .inr (.inr (some 39))), (1, .inr (.inr (some a1))), (2, .inl v2_11)]) (stₚ := [.inr (.inr (some 39))]) (hₚ := gc_h sh I26 J27 A) (C := (True ∧ True)) rfl ⟨trivial, trivial⟩ ?_
                refine gv_get hD rfl rfl S_39 ⟨by decide, B_39⟩ (gc_hA S_39 rfl A_39_1) ?_
                show gv_X _ _ (93, [(3, .inl z38), (0, .inr (.inr (some 39))), (1, .inr (.inr (some a1))), (2, .inl v2_11)], [.inr (.inr (some 23))], sh, gc_h sh I26 J27 A)
                have t94 := gc_TK_nx KTK_I26 (by omega)
                obtain ⟨r93, h93, E93, P93⟩ := d_X9_advance_p (ws0 := ws0) (tb := tb) hws htb sh ro I26 J27 A hI26 23 β η  (gc_b23 hb)    (by omega) A36.1.1 A36.1.2 
                obtain ⟨I95, J96, rfl, hI95, g93, k93, ⟨rfl, V93_0, V93_1, V93_2, V93_3, V93_4, q93⟩⟩ := P93
                have FI95 := gc_frc (W := fun q j => (q = 39 ∧ j = 3) ∨ (q = 39 ∧ j = 4) ∨ (q = 23 ∧ j = 5) ∨ (q = 23 ∧ j = 6) ∨ (q = 23 ∧ j = 7) ∨ (q = 23 ∧ j = 8) ∨ q = (a1 + 7) ∨ (q = a1 ∧ j = 12) ∨ q = (a1 + 8) ∨ (q = a1 ∧ j = 14)) (V := fun q j => (q = 23 ∧ j = 5) ∨ (q = 23 ∧ j = 6) ∨ (q = 23 ∧ j = 7) ∨ (q = 23 ∧ j = 8)) FI26 (fun q j h => (h.elim (fun h => (Or.inr (Or.inr (Or.inl h)))) (fun h => (h.elim (fun h => (Or.inr (Or.inr (Or.inr (Or.inl h))))) (fun h => (h.elim (fun h => (Or.inr (Or.inr (Or.inr (Or.inr (Or.inl h)))))) (fun h => (Or.inr (Or.inr (Or.inr (Or.inr (Or.inr (Or.inl h))))))))))))) g93
                have FJ96 := gc_frc (W := fun q j => (q = 23 ∧ j = 9)) (V := fun q j => (q = 23 ∧ j = 9)) FJ27 (fun q j h => h) k93
                have t97 := (g93 23 1).resolve_left (fun h => h.elim (fun h => absurd h.2 (by decide)) (fun h => h.elim (fun h => absurd h.2 (by decide)) (fun h => h.elim (fun h => absurd h.2 (by decide)) (fun h => absurd h.2 (by decide)))))
                have t98 := (g93 a1 12).resolve_left (fun h => h.elim (fun h => absurd h.2 (by decide)) (fun h => h.elim (fun h => absurd h.2 (by decide)) (fun h => h.elim (fun h => absurd h.2 (by decide)) (fun h => absurd h.2 (by decide)))))
                have t99 := (g93 a1 14).resolve_left (fun h => h.elim (fun h => absurd h.2 (by decide)) (fun h => h.elim (fun h => absurd h.2 (by decide)) (fun h => h.elim (fun h => absurd h.2 (by decide)) (fun h => absurd h.2 (by decide)))))
                have t100 := (g93 39 2).resolve_left (fun h => h.elim (fun h => absurd h.2 (by decide)) (fun h => h.elim (fun h => absurd h.2 (by decide)) (fun h => h.elim (fun h => absurd h.2 (by decide)) (fun h => absurd h.2 (by decide)))))
                have f101 := (gc_b_3_5 hI95 R_23)
                have f102 := (gc_b_3_6 hI95 R_23)
                have f103 := (gc_b_3_7 hI95 R_23)
                have KLT_I95 : gc_LT I95 := q93.2.2.1
                have KTK_I95 : gc_TK I95 := And.intro V93_0 (And.intro V93_1 (And.intro V93_2 (And.intro V93_3 V93_4)))
                have t104 := gc_TK_mo KTK_I95
                clear V93_0 V93_1 V93_2 V93_3 V93_4
                have A105 := gc_AT_nx A36 q93.2.2.2
                have t106 := gc_AT_l A105
                refine gv_callV hD rfl (As := []) (st := []) rfl B_23 S_23 rfl (gc_lV6 hws rfl) (Nat.le_of_ble_eq_true rfl) (gz_Ev_mono (d := 2) (by decide) E93) ?_
                show gv_X _ _ (96, [(3, .inl z38), (0, .inr (.inr (some 39))), (1, .inr (.inr (some a1))), (2, .inl v2_11)], [], sh, gc_h sh I95 J96 A)
                refine gv_run 1 true hD (pcₚ := 97) (lvₚ := [(3, .inl z38), (0, .inr (.inr (some 39))), (1, .inr (.inr (some a1))), (2, .inl v2_11)]) (stₚ := [.inl z38]) (hₚ := gc_h sh I95 J96 A) (C := (True ∧ True)) rfl ⟨trivial, trivial⟩ ?_
                refine gv_if_eq (t := 111) hD rfl rfl ⟨by omega, by omega⟩ (fun c107 => ?_) (fun c107 => ?_)
                · show gv_X _ _ (111, [(3, .inl z38), (0, .inr (.inr (some 39))), (1, .inr (.inr (some a1))), (2, .inl v2_11)], [], sh, gc_h sh I95 J96 A)
                  refine gv_run 2 true hD (pcₚ := 113) (lvₚ := [(3, .inl z38), (0, .inr (.inr (some 39))), (1, .inr (.inr (some a1))), (2, .inl v2_11)]) (stₚ := [.inr (.inr (some a1)), .inr (.inr (some 39))]) (hₚ := gc_h sh I95 J96 A) (C := ((True ∧ True) ∧ True)) rfl ⟨⟨trivial, trivial⟩, trivial⟩ ?_
                  obtain ⟨r108, h108, E108, P108⟩ := d_X6_readGive_p (ws0 := ws0) (tb := tb) hws htb sh ro I95 J96 A hI95  t β η ((gs_X β η (gs_X β η p_11))) Ir Jr nf9 a9 a1 hb h_a1 G_a1 h_t G_t   (by omega) A105 (by omega) (gs_SO_fr x3 (fun k => ((((g93 (a1 + 6) k).resolve_left (by omega)).trans ((g24 (a1 + 6) k).resolve_left (by omega))).trans ((FI9 (a1 + 6) k).resolve_left (by omega))))) (by omega) (by have h9 := x5; have h8 := (show I95 (t + 1) 1 = I (t + 1) 1 from ((((g93 (t + 1) 1).resolve_left (by omega)).trans ((g24 (t + 1) 1).resolve_left (by omega))).trans ((FI9 (t + 1) 1).resolve_left (by omega)))); omega) (by rw [show I95 (t + 1) 1 = I (t + 1) 1 from ((((g93 (t + 1) 1).resolve_left (by omega)).trans ((g24 (t + 1) 1).resolve_left (by omega))).trans ((FI9 (t + 1) 1).resolve_left (by omega))), show J96 (t + 2) = J (t + 2) from funext fun j => ((((k93 (t + 2) j).resolve_left (by omega)).trans ((k24 (t + 2) j).resolve_left (by omega))).trans ((FJ10 (t + 2) j).resolve_left (by omega)))]; exact x6) (by have h9 := x7; have h8 := (show I95 (t + 3) 1 = I (t + 3) 1 from ((((g93 (t + 3) 1).resolve_left (by omega)).trans ((g24 (t + 3) 1).resolve_left (by omega))).trans ((FI9 (t + 3) 1).resolve_left (by omega)))); omega) (by rw [show I95 (t + 3) 1 = I (t + 3) 1 from ((((g93 (t + 3) 1).resolve_left (by omega)).trans ((g24 (t + 3) 1).resolve_left (by omega))).trans ((FI9 (t + 3) 1).resolve_left (by omega))), show J96 (t + 4) = J (t + 4) from funext fun j => ((((k93 (t + 4) j).resolve_left (by omega)).trans ((k24 (t + 4) j).resolve_left (by omega))).trans ((FJ10 (t + 4) j).resolve_left (by omega)))]; exact x8) (by omega) KLT_I95 KTK_I95
                  obtain ⟨I109, J110, rfl, hI109, g108, k108, KLT_I109, KTK_I109, ⟨z108, rfl, q108⟩⟩ := P108
                  have FI109 := gc_frc (W := fun q j => (q = 39 ∧ j = 3) ∨ (q = 39 ∧ j = 4) ∨ (q = 23 ∧ j = 5) ∨ (q = 23 ∧ j = 6) ∨ (q = 23 ∧ j = 7) ∨ (q = 23 ∧ j = 8) ∨ q = (a1 + 7) ∨ (q = a1 ∧ j = 12) ∨ q = (a1 + 8) ∨ (q = a1 ∧ j = 14)) (V := fun q j => (q = 39 ∧ j = 3) ∨ (q = 39 ∧ j = 4) ∨ (q = 23 ∧ j = 5) ∨ (q = 23 ∧ j = 6) ∨ (q = 23 ∧ j = 7) ∨ (q = 23 ∧ j = 8) ∨ q = (a1 + 8) ∨ (q = a1 ∧ j = 14)) FI95 (fun q j h => (h.elim (fun h => (Or.inl h)) (fun h => (h.elim (fun h => (Or.inr (Or.inl h))) (fun h => (h.elim (fun h => (Or.inr (Or.inr (Or.inl h)))) (fun h => (h.elim (fun h => (Or.inr (Or.inr (Or.inr (Or.inl h))))) (fun h => (h.elim (fun h => (Or.inr (Or.inr (Or.inr (Or.inr (Or.inl h)))))) (fun h => (h.elim (fun h => (Or.inr (Or.inr (Or.inr (Or.inr (Or.inr (Or.inl h))))))) (fun h => (h.elim (fun h => (Or.inr (Or.inr (Or.inr (Or.inr (Or.inr (Or.inr (Or.inr (Or.inr (Or.inl h)))))))))) (fun h => (Or.inr (Or.inr (Or.inr (Or.inr (Or.inr (Or.inr (Or.inr (Or.inr (Or.inr h)))))))))))))))))))))))) g108
                  have FJ110 := gc_frc (W := fun q j => (q = 23 ∧ j = 9)) (V := fun q j => (q = 23 ∧ j = 9)) FJ96 (fun q j h => h) k108
                  have t111 := (g108 23 1).resolve_left (fun h => h.elim (fun h => absurd h.2 (by decide)) (fun h => h.elim (fun h => absurd h.2 (by decide)) (fun h => h.elim (fun h => absurd h.2 (by decide)) (fun h => h.elim (fun h => absurd h.2 (by decide)) (fun h => h.elim (fun h => absurd h.2 (by decide)) (fun h => h.elim (fun h => absurd h.2 (by decide)) (fun h => h.elim (fun h => absurd h N_23__a1_8) (fun h => absurd h.2 (by decide)))))))))
                  have t112 := (g108 a1 12).resolve_left (fun h => h.elim (fun h => absurd h.2 (by decide)) (fun h => h.elim (fun h => absurd h.2 (by decide)) (fun h => h.elim (fun h => absurd h.2 (by decide)) (fun h => h.elim (fun h => absurd h.2 (by decide)) (fun h => h.elim (fun h => absurd h.2 (by decide)) (fun h => h.elim (fun h => absurd h.2 (by decide)) (fun h => h.elim (fun h => absurd h N_a1__a1_8) (fun h => absurd h.2 (by decide)))))))))
                  have t113 := (g108 39 2).resolve_left (fun h => h.elim (fun h => absurd h.2 (by decide)) (fun h => h.elim (fun h => absurd h.2 (by decide)) (fun h => h.elim (fun h => absurd h.2 (by decide)) (fun h => h.elim (fun h => absurd h.2 (by decide)) (fun h => h.elim (fun h => absurd h.2 (by decide)) (fun h => h.elim (fun h => absurd h.2 (by decide)) (fun h => h.elim (fun h => absurd h N_39__a1_8) (fun h => absurd h.2 (by decide)))))))))
                  have f114 := (gc_b_3_5 hI109 R_23)
                  have f115 := (gc_b_3_6 hI109 R_23)
                  have f116 := (gc_b_3_7 hI109 R_23)
                  have f117 := (show 0 ≤ I109 a1 14 ∧ I109 a1 14 ≤ 6 from gc_in2 hI109 R_a1 rfl rfl rfl)
                  have t118 := gc_TK_mo KTK_I109
                  refine gv_callV hD rfl (As := [.inr (.inr (some a1))]) (st := []) rfl B_39 S_39 rfl (gc_lV6 hws rfl) (Nat.le_of_ble_eq_true rfl) (gz_Ev_mono (d := 4) (by decide) E108) ?_
                  show gv_X _ _ (116, [(3, .inl z38), (0, .inr (.inr (some 39))), (1, .inr (.inr (some a1))), (2, .inl v2_11)], [.inl z108], sh, gc_h sh I109 J110 A)
                  refine gv_if_ne (t := 121) hD rfl rfl ⟨by omega, by omega⟩ (fun c119 => ?_) (fun c119 => ?_)
                  · show gv_X _ _ (121, [(3, .inl z38), (0, .inr (.inr (some 39))), (1, .inr (.inr (some a1))), (2, .inl v2_11)], [], sh, gc_h sh I109 J110 A)
                    obtain ⟨u120, A120, U120⟩ := gs_or1 q108.2.2.2.2.2 (by omega)
                    have t121 := gc_AT_l A120
                    refine gv_run 2 true hD (pcₚ := 2) (lvₚ := [(2, .inl (v2_11 + 1)), (3, .inl z38), (0, .inr (.inr (some 39))), (1, .inr (.inr (some a1)))]) (stₚ := []) (hₚ := gc_h sh I109 J110 A) (C := ((True ∧ True) ∧ True)) rfl ⟨⟨trivial, trivial⟩, trivial⟩ ?_
                    refine gv_pick [2, 3, 0] rfl ?_
                    exact ih2 I109 J110 (v2_11 + 1) ((gs_sg β η Ir Jr nf9 a9 (gs_X β η (gs_X β η p_11)))) (by omega) hI109 FI109 FJ110 KLT_I109 KTK_I109 (by omega) A120 (e2_11.trans (by have e9 : gs_said β η Ir Jr nf9 v2_11 a9 (gs_X β η p_11) = (gs_sg β η Ir Jr nf9 a9 (gs_X β η (gs_X β η p_11))) := (by unfold gs_said gs_said1 gs_said2; (repeat first | rw [if_pos (by omega)] | rw [if_neg (by omega)])); rw [show Int.toNat (1002 - v2_11) = Int.toNat (1002 - (v2_11 + 1)) + 1 from by omega, gs_ls_c (by omega) (by rw [e9]; omega), e9]))
                  · show gv_X _ _ (119, [(3, .inl z38), (0, .inr (.inr (some 39))), (1, .inr (.inr (some a1))), (2, .inl v2_11)], [], sh, gc_h sh I109 J110 A)
                    obtain ⟨u122, u122_⟩ := gs_or0 q108.2.2.2.2.2 (by omega)
                    refine gv_run 1 true hD (pcₚ := 120) (lvₚ := [(3, .inl z38), (0, .inr (.inr (some 39))), (1, .inr (.inr (some a1))), (2, .inl v2_11)]) (stₚ := [.inl 0]) (hₚ := gc_h sh I109 J110 A) (C := (True ∧ True)) rfl ⟨trivial, trivial⟩ ?_
                    exact gv_zret hD rfl (by omega) ⟨I109, J110, rfl, hI109, FI109, FJ110, KLT_I109, KTK_I109, ⟨_, rfl, by omega, by omega, by omega, by omega, (Or.inr ⟨by omega, by first | (exfalso; omega) | (have e9 : gs_said β η Ir Jr nf9 v2_11 a9 (gs_X β η p_11) = gs_sg β η Ir Jr nf9 a9 (gs_X β η (gs_X β η p_11)) := (by unfold gs_said gs_said1 gs_said2; (repeat first | rw [if_pos (by omega)] | rw [if_neg (by omega)])); rw [e2_11, show Int.toNat (1002 - v2_11) = Int.toNat (1002 - (v2_11 + 1)) + 1 from by omega, gs_ls_f (by omega) (by rw [e9]; omega), e9]; exact ⟨by omega, by omega⟩)⟩)⟩⟩
                · exfalso; omega
              · show gv_X _ _ (76, [(3, .inl z38), (0, .inr (.inr (some 39))), (1, .inr (.inr (some a1))), (2, .inl v2_11)], [], sh, gc_h sh I26 J27 A)
                refine gv_run 3 true hD (pcₚ := 79) (lvₚ := [(3, .inl z38), (0, .inr (.inr (some 39))), (1, .inr (.inr (some a1))), (2, .inl v2_11)]) (stₚ := [.inr (.inr (some 39)), .inl 5, .inr (.inr (some 39))]) (hₚ := gc_h sh I26 J27 A) (C := (((True ∧ True) ∧ True) ∧ True)) rfl ⟨⟨⟨trivial, trivial⟩, trivial⟩, trivial⟩ ?_
                refine gv_get hD rfl rfl S_39 ⟨by decide, B_39⟩ (gc_hA S_39 rfl A_39_1) ?_
                show gv_X _ _ (82, [(3, .inl z38), (0, .inr (.inr (some 39))), (1, .inr (.inr (some a1))), (2, .inl v2_11)], [.inr (.inr (some 23)), .inl 5, .inr (.inr (some 39))], sh, gc_h sh I26 J27 A)
                have f123 := (gc_b_3_5 hI26 R_23)
                refine gv_get hD rfl rfl S_23 ⟨by decide, B_23⟩ (gc_hI S_23 rfl) ?_
                show gv_X _ _ (85, [(3, .inl z38), (0, .inr (.inr (some 39))), (1, .inr (.inr (some a1))), (2, .inl v2_11)], [.inl (I26 23 5), .inl 5, .inr (.inr (some 39))], sh, gc_h sh I26 J27 A)
                obtain ⟨r124, h124, E124, P124⟩ := d_X6_wrong_p (ws0 := ws0) (tb := tb) hws htb sh ro I26 J27 A hI26  5 (I26 23 5) hb   ⟨by omega, by omega⟩ ⟨by omega, by omega⟩  
                obtain ⟨I125, J126, rfl, hI125, g124, k124, ⟨z124, rfl, q124⟩⟩ := P124
                have FI125 := gc_frc (W := fun q j => (q = 39 ∧ j = 3) ∨ (q = 39 ∧ j = 4) ∨ (q = 23 ∧ j = 5) ∨ (q = 23 ∧ j = 6) ∨ (q = 23 ∧ j = 7) ∨ (q = 23 ∧ j = 8) ∨ q = (a1 + 7) ∨ (q = a1 ∧ j = 12) ∨ q = (a1 + 8) ∨ (q = a1 ∧ j = 14)) (V := fun q j => (q = 39 ∧ j = 3) ∨ (q = 39 ∧ j = 4)) FI26 (fun q j h => (h.elim (fun h => (Or.inl h)) (fun h => (Or.inr (Or.inl h))))) g124
                have t127 := (g124 23 1).resolve_left (fun h => h.elim (fun h => absurd h.2 (by decide)) (fun h => absurd h.2 (by decide)))
                have t128 := (g124 23 5).resolve_left (fun h => h.elim (fun h => absurd h.2 (by decide)) (fun h => absurd h.2 (by decide)))
                have t129 := (g124 23 6).resolve_left (fun h => h.elim (fun h => absurd h.2 (by decide)) (fun h => absurd h.2 (by decide)))
                have t130 := (g124 23 7).resolve_left (fun h => h.elim (fun h => absurd h.2 (by decide)) (fun h => absurd h.2 (by decide)))
                have t131 := (g124 a1 12).resolve_left (fun h => h.elim (fun h => absurd h.2 (by decide)) (fun h => absurd h.2 (by decide)))
                have t132 := (g124 a1 14).resolve_left (fun h => h.elim (fun h => absurd h.2 (by decide)) (fun h => absurd h.2 (by decide)))
                have t133 := (g124 39 2).resolve_left (fun h => h.elim (fun h => absurd h.2 (by decide)) (fun h => absurd h.2 (by decide)))
                obtain rfl : J27 = J126 := funext fun q => funext fun j => ((k124 q j).resolve_left id).symm
                have KLT_I125 := gc_LT_fr KLT_I26 ((g124 23 5).resolve_left (fun h => h.elim (fun h => absurd h.2 (by decide)) (fun h => absurd h.2 (by decide)))) ((g124 23 6).resolve_left (fun h => h.elim (fun h => absurd h.2 (by decide)) (fun h => absurd h.2 (by decide)))) ((g124 23 7).resolve_left (fun h => h.elim (fun h => absurd h.2 (by decide)) (fun h => absurd h.2 (by decide)))) (fun k => (g124 24 k).resolve_left (fun h => h.elim (fun h => absurd h.1 (by decide)) (fun h => absurd h.1 (by decide))))
                have KTK_I125 := gc_TK_fr KTK_I26 ((g124 23 1).resolve_left (fun h => h.elim (fun h => absurd h.2 (by decide)) (fun h => absurd h.2 (by decide)))) ((g124 23 5).resolve_left (fun h => h.elim (fun h => absurd h.2 (by decide)) (fun h => absurd h.2 (by decide)))) ((g124 23 6).resolve_left (fun h => h.elim (fun h => absurd h.2 (by decide)) (fun h => absurd h.2 (by decide)))) ((g124 23 7).resolve_left (fun h => h.elim (fun h => absurd h.2 (by decide)) (fun h => absurd h.2 (by decide))))
                have A134 := gc_AT_I A36 ((g124 23 1).resolve_left (fun h => h.elim (fun h => absurd h.2 (by decide)) (fun h => absurd h.2 (by decide)))) ((g124 23 5).resolve_left (fun h => h.elim (fun h => absurd h.2 (by decide)) (fun h => absurd h.2 (by decide)))) ((g124 23 6).resolve_left (fun h => h.elim (fun h => absurd h.2 (by decide)) (fun h => absurd h.2 (by decide)))) ((g124 23 7).resolve_left (fun h => h.elim (fun h => absurd h.2 (by decide)) (fun h => absurd h.2 (by decide)))) ((g124 23 8).resolve_left (fun h => h.elim (fun h => absurd h.2 (by decide)) (fun h => absurd h.2 (by decide)))) (fun k => (g124 24 k).resolve_left (fun h => h.elim (fun h => absurd h.1 (by decide)) (fun h => absurd h.1 (by decide))))
                have t135 := gc_AT_l A134
                refine gv_callV hD rfl (As := [.inl 5, .inl (I26 23 5)]) (st := []) rfl B_39 S_39 rfl (gc_lV6 hws rfl) (Nat.le_of_ble_eq_true rfl) (gz_Ev_mono (d := 1) (by decide) E124) ?_
                show gv_X _ _ (88, [(3, .inl z38), (0, .inr (.inr (some 39))), (1, .inr (.inr (some a1))), (2, .inl v2_11)], [.inl z124], sh, gc_h sh I125 J27 A)
                exact gv_zret hD rfl (by omega) ⟨I125, J27, rfl, hI125, FI125, FJ27, KLT_I125, KTK_I125, ⟨_, rfl, by omega, by omega, by omega, by omega, (Or.inr ⟨by omega, by first | (exfalso; omega) | (have e9 : gs_said β η Ir Jr nf9 v2_11 a9 (gs_X β η p_11) = -1 - gs_A β η (gs_X β η p_11) := (by unfold gs_said gs_said1; (repeat first | rw [if_pos (by omega)] | rw [if_neg (by omega)])); rw [e2_11, show Int.toNat (1002 - v2_11) = Int.toNat (1002 - (v2_11 + 1)) + 1 from by omega, gs_ls_f (by omega) (by rw [e9]; omega), e9]; exact ⟨by omega, by omega⟩)⟩)⟩⟩
            · show gv_X _ _ (49, [(3, .inl z38), (0, .inr (.inr (some 39))), (1, .inr (.inr (some a1))), (2, .inl v2_11)], [], sh, gc_h sh I26 J27 A)
              refine gv_run 3 true hD (pcₚ := 52) (lvₚ := [(3, .inl z38), (0, .inr (.inr (some 39))), (1, .inr (.inr (some a1))), (2, .inl v2_11)]) (stₚ := [.inr (.inr (some 39)), .inl 1, .inr (.inr (some 39))]) (hₚ := gc_h sh I26 J27 A) (C := (((True ∧ True) ∧ True) ∧ True)) rfl ⟨⟨⟨trivial, trivial⟩, trivial⟩, trivial⟩ ?_
              refine gv_get hD rfl rfl S_39 ⟨by decide, B_39⟩ (gc_hA S_39 rfl A_39_1) ?_
              show gv_X _ _ (55, [(3, .inl z38), (0, .inr (.inr (some 39))), (1, .inr (.inr (some a1))), (2, .inl v2_11)], [.inr (.inr (some 23)), .inl 1, .inr (.inr (some 39))], sh, gc_h sh I26 J27 A)
              have f136 := (gc_b_3_5 hI26 R_23)
              refine gv_get hD rfl rfl S_23 ⟨by decide, B_23⟩ (gc_hI S_23 rfl) ?_
              show gv_X _ _ (58, [(3, .inl z38), (0, .inr (.inr (some 39))), (1, .inr (.inr (some a1))), (2, .inl v2_11)], [.inl (I26 23 5), .inl 1, .inr (.inr (some 39))], sh, gc_h sh I26 J27 A)
              obtain ⟨r137, h137, E137, P137⟩ := d_X6_wrong_p (ws0 := ws0) (tb := tb) hws htb sh ro I26 J27 A hI26  1 (I26 23 5) hb   ⟨by omega, by omega⟩ ⟨by omega, by omega⟩  
              obtain ⟨I138, J139, rfl, hI138, g137, k137, ⟨z137, rfl, q137⟩⟩ := P137
              have FI138 := gc_frc (W := fun q j => (q = 39 ∧ j = 3) ∨ (q = 39 ∧ j = 4) ∨ (q = 23 ∧ j = 5) ∨ (q = 23 ∧ j = 6) ∨ (q = 23 ∧ j = 7) ∨ (q = 23 ∧ j = 8) ∨ q = (a1 + 7) ∨ (q = a1 ∧ j = 12) ∨ q = (a1 + 8) ∨ (q = a1 ∧ j = 14)) (V := fun q j => (q = 39 ∧ j = 3) ∨ (q = 39 ∧ j = 4)) FI26 (fun q j h => (h.elim (fun h => (Or.inl h)) (fun h => (Or.inr (Or.inl h))))) g137
              have t140 := (g137 23 1).resolve_left (fun h => h.elim (fun h => absurd h.2 (by decide)) (fun h => absurd h.2 (by decide)))
              have t141 := (g137 23 5).resolve_left (fun h => h.elim (fun h => absurd h.2 (by decide)) (fun h => absurd h.2 (by decide)))
              have t142 := (g137 23 6).resolve_left (fun h => h.elim (fun h => absurd h.2 (by decide)) (fun h => absurd h.2 (by decide)))
              have t143 := (g137 23 7).resolve_left (fun h => h.elim (fun h => absurd h.2 (by decide)) (fun h => absurd h.2 (by decide)))
              have t144 := (g137 a1 12).resolve_left (fun h => h.elim (fun h => absurd h.2 (by decide)) (fun h => absurd h.2 (by decide)))
              have t145 := (g137 a1 14).resolve_left (fun h => h.elim (fun h => absurd h.2 (by decide)) (fun h => absurd h.2 (by decide)))
              have t146 := (g137 39 2).resolve_left (fun h => h.elim (fun h => absurd h.2 (by decide)) (fun h => absurd h.2 (by decide)))
              obtain rfl : J27 = J139 := funext fun q => funext fun j => ((k137 q j).resolve_left id).symm
              have KLT_I138 := gc_LT_fr KLT_I26 ((g137 23 5).resolve_left (fun h => h.elim (fun h => absurd h.2 (by decide)) (fun h => absurd h.2 (by decide)))) ((g137 23 6).resolve_left (fun h => h.elim (fun h => absurd h.2 (by decide)) (fun h => absurd h.2 (by decide)))) ((g137 23 7).resolve_left (fun h => h.elim (fun h => absurd h.2 (by decide)) (fun h => absurd h.2 (by decide)))) (fun k => (g137 24 k).resolve_left (fun h => h.elim (fun h => absurd h.1 (by decide)) (fun h => absurd h.1 (by decide))))
              have KTK_I138 := gc_TK_fr KTK_I26 ((g137 23 1).resolve_left (fun h => h.elim (fun h => absurd h.2 (by decide)) (fun h => absurd h.2 (by decide)))) ((g137 23 5).resolve_left (fun h => h.elim (fun h => absurd h.2 (by decide)) (fun h => absurd h.2 (by decide)))) ((g137 23 6).resolve_left (fun h => h.elim (fun h => absurd h.2 (by decide)) (fun h => absurd h.2 (by decide)))) ((g137 23 7).resolve_left (fun h => h.elim (fun h => absurd h.2 (by decide)) (fun h => absurd h.2 (by decide))))
              have A147 := gc_AT_I A36 ((g137 23 1).resolve_left (fun h => h.elim (fun h => absurd h.2 (by decide)) (fun h => absurd h.2 (by decide)))) ((g137 23 5).resolve_left (fun h => h.elim (fun h => absurd h.2 (by decide)) (fun h => absurd h.2 (by decide)))) ((g137 23 6).resolve_left (fun h => h.elim (fun h => absurd h.2 (by decide)) (fun h => absurd h.2 (by decide)))) ((g137 23 7).resolve_left (fun h => h.elim (fun h => absurd h.2 (by decide)) (fun h => absurd h.2 (by decide)))) ((g137 23 8).resolve_left (fun h => h.elim (fun h => absurd h.2 (by decide)) (fun h => absurd h.2 (by decide)))) (fun k => (g137 24 k).resolve_left (fun h => h.elim (fun h => absurd h.1 (by decide)) (fun h => absurd h.1 (by decide))))
              have t148 := gc_AT_l A147
              refine gv_callV hD rfl (As := [.inl 1, .inl (I26 23 5)]) (st := []) rfl B_39 S_39 rfl (gc_lV6 hws rfl) (Nat.le_of_ble_eq_true rfl) (gz_Ev_mono (d := 1) (by decide) E137) ?_
              show gv_X _ _ (61, [(3, .inl z38), (0, .inr (.inr (some 39))), (1, .inr (.inr (some a1))), (2, .inl v2_11)], [.inl z137], sh, gc_h sh I138 J27 A)
              exact gv_zret hD rfl (by omega) ⟨I138, J27, rfl, hI138, FI138, FJ27, KLT_I138, KTK_I138, ⟨_, rfl, by omega, by omega, by omega, by omega, (Or.inr ⟨by omega, by first | (exfalso; omega) | (have e9 : gs_said β η Ir Jr nf9 v2_11 a9 (gs_X β η p_11) = -1 - gs_A β η (gs_X β η p_11) := (by unfold gs_said; (repeat first | rw [if_pos (by omega)] | rw [if_neg (by omega)])); rw [e2_11, show Int.toNat (1002 - v2_11) = Int.toNat (1002 - (v2_11 + 1)) + 1 from by omega, gs_ls_f (by omega) (by rw [e9]; omega), e9]; exact ⟨by omega, by omega⟩)⟩)⟩⟩
  refine gv_run 2 true hD (pcₚ := 2) (lvₚ := [(2, .inl 0), (0, .inr (.inr (some 39))), (1, .inr (.inr (some a1)))]) (stₚ := []) (hₚ := gc_h sh I J A) (C := ((True ∧ True) ∧ True)) rfl ⟨⟨trivial, trivial⟩, trivial⟩ ?_
  refine gv_pick [1, 2, 0] rfl ?_
  exact L2 _ I J 0 p9 (Nat.lt_succ_self _) hI FI FJ KLT_I KTK_I (by omega) x1 rfl
