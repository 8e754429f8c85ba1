set_option maxHeartbeats 8000000 in
set_option maxRecDepth 100000 in
theorem d_X12_mend_h {ws0 : List Cond} {tb : String → gz_T} (hws : gc_Ws ws0) (htb : gc_tbs tb) (sh : gz_Sh) (ro : Nat → Nat) (I : gr_I) (J : gr_J) (A : gc_A) (hI : gc_Inv ro I) (t : Nat) (a1 : Int) (a2 : Int) (hb : gc_Base sh ro A) (h_t : gc_isTongue sh ro A t) (G_t : 144 ≤ t) (ha1 : 0 ≤ a1 ∧ a1 ≤ 7) (ha2 : 0 ≤ a2 ∧ a2 ≤ 31) (x0 : 0 ≤ a1 ∧ a1 < I 8 1) (x1 : A 10 (Int.toNat a1) = some t) (x2 : a2 < I 2 1) (KFN_I : gc_FN I) (KFZ_I : gc_FZ I) {Q : gz_S → Prop} (hQ : ∀ v, gv_Q cX12_mend (some .int) sh (fun r hₚ => (∃ (Iₚ : gr_I) (Jₚ : gr_J), hₚ = gc_h sh Iₚ Jₚ A ∧ gc_Inv ro Iₚ ∧ (∀ q j : Nat, ((q = 61 ∧ j = 3) ∨ (q = 61 ∧ j = 4) ∨ (q = 61 ∧ j = 15) ∨ (q = 48 ∧ j = 3) ∨ (q = 48 ∧ j = 6) ∨ (q = 27 ∧ j = 1) ∨ (q = 31 ∧ j = 1) ∨ q = 32 ∨ (q = 23 ∧ j = 1) ∨ (q = 23 ∧ j = 4) ∨ q = 25 ∨ q = 26 ∨ (q = 31 ∧ j = 4) ∨ q = 33 ∨ q = 34) ∨ Iₚ q j = I q j) ∧ (∀ q j : Nat, (False) ∨ Jₚ q j = J q j) ∧ gc_FN Iₚ ∧ gc_FZ Iₚ ∧ (∃ z : Int, r = some (.inl z) ∧ (-3) ≤ z ∧ z ≤ (-3) ∧ (Iₚ 23 1 = 0) ∧ (Iₚ 61 3 = 0 ∧ Iₚ 61 15 = 0)))) v → Q v) (L107 : ∀ (I7 : gr_I) (J8 : gr_J) (v4_9 : Int), gc_Inv ro I7 → (∀ q j : Nat, ((q = 61 ∧ j = 3) ∨ (q = 61 ∧ j = 4) ∨ (q = 61 ∧ j = 15) ∨ (q = 48 ∧ j = 3) ∨ (q = 48 ∧ j = 6) ∨ (q = 27 ∧ j = 1) ∨ (q = 31 ∧ j = 1) ∨ q = 32 ∨ (q = 23 ∧ j = 1) ∨ (q = 23 ∧ j = 4) ∨ q = 25 ∨ q = 26 ∨ (q = 31 ∧ j = 4) ∨ q = 33 ∨ q = 34) ∨ I7 q j = I q j) → (∀ q j : Nat, (False) ∨ J8 q j = J q j) → gc_FN I7 → gc_FZ I7 → ((0 ≤ a1 ∧ a1 ≤ 7) ∧ (0 ≤ a2 ∧ a2 ≤ 31) ∧ (1 ≤ v4_9 ∧ v4_9 ≤ 1) ∧ (1 ≤ I7 31 4) ∧ (a1 = a1) ∧ (a2 = a2) ∧ (I7 23 1 = 0) ∧ (I7 61 3 = 0 ∧ I7 61 15 = 0)) → (gc_SP 31 I7) → gv_X (gc_E12 ws0 tb 97 (yX12_mend, cX12_mend, 10, (some .int)) kX12_mend) Q (107, [(0, .inr (.inr (some 0))), (1, .inl a1), (2, .inl a2), (3, .inr (.inr (some t))), (4, .inl v4_9)], [], sh, gc_h sh I7 J8 A)) : gv_X (gc_E12 ws0 tb 97 (yX12_mend, cX12_mend, 10, (some .int)) kX12_mend) Q (0, [(0, .inr (.inr (some 0))), (1, .inl a1), (2, .inl a2)], [], sh, gc_h sh I J A) := by
  have FI : ∀ q j : Nat, ((q = 61 ∧ j = 3) ∨ (q = 61 ∧ j = 4) ∨ (q = 61 ∧ j = 15) ∨ (q = 48 ∧ j = 3) ∨ (q = 48 ∧ j = 6) ∨ (q = 27 ∧ j = 1) ∨ (q = 31 ∧ j = 1) ∨ q = 32 ∨ (q = 23 ∧ j = 1) ∨ (q = 23 ∧ j = 4) ∨ q = 25 ∨ q = 26 ∨ (q = 31 ∧ j = 4) ∨ q = 33 ∨ q = 34) ∨ I q j = I q j := fun _ _ => Or.inr rfl
  have FJ : ∀ q j : Nat, (False) ∨ J q j = J q j := fun _ _ => Or.inr rfl
  have A_0_1 : A 0 1 = some 23 := gc_bA_0_1 hb
  have A_0_2 : A 0 2 = some 27 := gc_bA_0_2 hb
  have A_0_3 : A 0 3 = some 31 := gc_bA_0_3 hb
  have A_0_6 : A 0 6 = some 48 := gc_bA_0_6 hb
  have A_0_7 : A 0 7 = some 61 := gc_bA_0_7 hb
  have B_0 : 0 < 1000000 := by decide
  have B_23 : 23 < 1000000 := by decide
  have B_27 : 27 < 1000000 := by decide
  have B_31 : 31 < 1000000 := by decide
  have B_48 : 48 < 1000000 := by decide
  have B_61 : 61 < 1000000 := by decide
  have R_23 : ro 23 = 3 := gc_bR_23 hb
  have R_27 : ro 27 = 3 := gc_bR_27 hb
  have R_31 : ro 31 = 3 := gc_bR_31 hb
  have R_61 : ro 61 = 72 := gc_bR_61 hb
  have S_0 : sh[0]? = some (false, 12, 17) := gc_bS_0 hb
  have S_23 : sh[23]? = some (false, 9, 10) := gc_bS_23 hb
  have S_27 : sh[27]? = some (false, 9, 10) := gc_bS_27 hb
  have S_31 : sh[31]? = some (false, 9, 10) := gc_bS_31 hb
  have S_48 : sh[48]? = some (false, 0, 22) := gc_bS_48 hb
  have S_61 : sh[61]? = some (false, 5, 19) := gc_bS_61 hb
  obtain ⟨S_t, R_t, B_t, A_t_0, h_t_1, A_t_1, h_t_3, A_t_2, S_t_5, R_t_5, B_t_5, A_t_3, S_t_6, R_t_6, B_t_6, A_t_4, h_t_7, A_t_5, S_t_9, R_t_9, B_t_9, A_t_7, S_t_10, R_t_10, B_t_10, A_t_8, h_t_11, A_t_9, S_t_13, R_t_13, B_t_13, A_t_10, S_t_14, R_t_14, B_t_14, A_t_12, S_t_15, R_t_15, B_t_15, A_t_14, S_t_16, R_t_16, B_t_16, A_t_15, h_t_17⟩ := id h_t
  obtain ⟨S_t_1, R_t_1, B_t_1, A_t_1_0, S_t_1_1, R_t_1_1, B_t_1_1, Q0_t_1, Q1_t_1, Q2_t_1⟩ := id h_t_1
  obtain ⟨S_t_3, R_t_3, B_t_3, A_t_3_0, S_t_3_1, R_t_3_1, B_t_3_1, Q0_t_3, Q1_t_3, Q2_t_3⟩ := id h_t_3
  obtain ⟨S_t_7, R_t_7, B_t_7, A_t_7_0, S_t_7_1, R_t_7_1, B_t_7_1, Q0_t_7, Q1_t_7, Q2_t_7⟩ := id h_t_7
  obtain ⟨S_t_11, R_t_11, B_t_11, A_t_11_0, S_t_11_1, R_t_11_1, B_t_11_1, Q0_t_11, Q1_t_11, Q2_t_11⟩ := id h_t_11
  obtain ⟨S_t_17, R_t_17, B_t_17, A_t_17_0, S_20, R_20, B_20, A_t_17_1, S_t_17_1, R_t_17_1, B_t_17_1, A_t_17_2, S_t_17_2, R_t_17_2, B_t_17_2, A_t_17_3, S_t_17_3, R_t_17_3, B_t_17_3, A_t_17_4, S_t_17_4, R_t_17_4, B_t_17_4, A_t_17_5, S_t_17_5, R_t_17_5, B_t_17_5, S_t_17_6, R_t_17_6, B_t_17_6, S_t_17_7, R_t_17_7, B_t_17_7⟩ := id h_t_17
  have hD : gv_D (gc_E12 ws0 tb 97 (yX12_mend, cX12_mend, 10, (some .int)) kX12_mend) := gq_of oX12_mend
  have f1 := (gc_b_3_1 hI R_23)
  have f2 := (gc_b_3_4 hI R_23)
  have f3 := (gc_b_3_4 hI R_31)
  have f4 := (gc_b_3_1 hI R_31)
  have f5 := (gc_b_72_3 hI R_61)
  have f6 := (gc_b_72_15 hI R_61)
  have L60 : ∀ (I10 : gr_I) (J11 : gr_J) (s0_12 : Int), gc_Inv ro I10 → (∀ q j : Nat, ((q = 61 ∧ j = 3) ∨ (q = 61 ∧ j = 4) ∨ (q = 61 ∧ j = 15) ∨ (q = 48 ∧ j = 3) ∨ (q = 48 ∧ j = 6) ∨ (q = 27 ∧ j = 1) ∨ (q = 31 ∧ j = 1) ∨ q = 32 ∨ (q = 23 ∧ j = 1) ∨ (q = 23 ∧ j = 4) ∨ q = 25 ∨ q = 26 ∨ (q = 31 ∧ j = 4) ∨ q = 33 ∨ q = 34) ∨ I10 q j = I q j) → (∀ q j : Nat, (False) ∨ J11 q j = J q j) → gc_FN I10 → gc_FZ I10 → ((0 ≤ a1 ∧ a1 ≤ 7) ∧ (0 ≤ a2 ∧ a2 ≤ 31) ∧ (0 ≤ s0_12 ∧ s0_12 ≤ 1) ∧ (a1 = a1) ∧ (a2 = a2) ∧ (I10 61 3 = 0 ∧ I10 61 15 = 0)) → gv_X (gc_E12 ws0 tb 97 (yX12_mend, cX12_mend, 10, (some .int)) kX12_mend) Q (60, [(0, .inr (.inr (some 0))), (1, .inl a1), (2, .inl a2), (3, .inr (.inr (some t)))], [.inl s0_12], sh, gc_h sh I10 J11 A) := by
    intro I10 J11 s0_12 hI10 FI10 FJ11 KFN_I10 KFZ_I10 m_12
    obtain ⟨ha1_12, ha2_12, hs0_12, e0_12, e1_12, e2_12⟩ := m_12
    have f13 := (gc_b_3_1 hI10 R_23)
    have f14 := (gc_b_3_4 hI10 R_23)
    have f15 := (gc_b_3_4 hI10 R_31)
    have f16 := (gc_b_3_1 hI10 R_31)
    have f17 := (gc_b_72_3 hI10 R_61)
    have f18 := (gc_b_72_15 hI10 R_61)
    have L104 : ∀ (I19 : gr_I) (J20 : gr_J) , gc_Inv ro I19 → (∀ q j : Nat, ((q = 61 ∧ j = 3) ∨ (q = 61 ∧ j = 4) ∨ (q = 61 ∧ j = 15) ∨ (q = 48 ∧ j = 3) ∨ (q = 48 ∧ j = 6) ∨ (q = 27 ∧ j = 1) ∨ (q = 31 ∧ j = 1) ∨ q = 32 ∨ (q = 23 ∧ j = 1) ∨ (q = 23 ∧ j = 4) ∨ q = 25 ∨ q = 26 ∨ (q = 31 ∧ j = 4) ∨ q = 33 ∨ q = 34) ∨ I19 q j = I q j) → (∀ q j : Nat, (False) ∨ J20 q j = J q j) → gc_FN I19 → gc_FZ I19 → ((I19 23 1 = 0) ∧ (I19 61 3 = 0 ∧ I19 61 15 = 0)) → gv_X (gc_E12 ws0 tb 97 (yX12_mend, cX12_mend, 10, (some .int)) kX12_mend) Q (104, [], [], sh, gc_h sh I19 J20 A) := by
      intro I19 J20 hI19 FI19 FJ20 KFN_I19 KFZ_I19 m_21
      clear ha1_12 ha2_12 hs0_12 e0_12 e1_12 e2_12 f13 f14 f15 f16 f17 f18
      obtain ⟨e0_21, e1_21⟩ := m_21
      have f22 := (gc_b_3_1 hI19 R_23)
      have f23 := (gc_b_3_4 hI19 R_23)
      have f24 := (gc_b_3_4 hI19 R_31)
      have f25 := (gc_b_3_1 hI19 R_31)
      have f26 := (gc_b_72_3 hI19 R_61)
      have f27 := (gc_b_72_15 hI19 R_61)
      refine gv_run 1 true hD (pcₚ := 106) (lvₚ := []) (stₚ := [.inl (-3)]) (hₚ := gc_h sh I19 J20 A) (C := (True ∧ True)) rfl ⟨trivial, trivial⟩ ?_
      exact gv_Xm hQ (gv_iret hD rfl ⟨I19, J20, rfl, hI19, FI19, FJ20, KFN_I19, KFZ_I19, ⟨_, rfl, by exact gz_m 0 (by omega)⟩⟩)
    refine gv_run 2 true hD (pcₚ := 63) (lvₚ := [(4, .inl s0_12), (0, .inr (.inr (some 0))), (1, .inl a1), (2, .inl a2), (3, .inr (.inr (some t)))]) (stₚ := [.inr (.inr (some 0))]) (hₚ := gc_h sh I10 J11 A) (C := ((True ∧ True) ∧ True)) rfl ⟨⟨trivial, trivial⟩, trivial⟩ ?_
    refine gv_get hD rfl rfl S_0 ⟨by decide, B_0⟩ (gc_hA S_0 rfl A_0_3) ?_
    show gv_X _ _ (66, [(4, .inl s0_12), (0, .inr (.inr (some 0))), (1, .inl a1), (2, .inl a2), (3, .inr (.inr (some t)))], [.inr (.inr (some 31))], sh, gc_h sh I10 J11 A)
    refine gv_run 1 true hD (pcₚ := 67) (lvₚ := [(4, .inl s0_12), (0, .inr (.inr (some 0))), (1, .inl a1), (2, .inl a2), (3, .inr (.inr (some t)))]) (stₚ := [.inl 0, .inr (.inr (some 31))]) (hₚ := gc_h sh I10 J11 A) (C := (True ∧ True)) rfl ⟨trivial, trivial⟩ ?_
    refine gv_put hD rfl rfl S_31 ⟨by decide, B_31⟩ rfl trivial ?_
    refine gc_st (k := 1) hI10 S_31 rfl R_31 (lo := 0) (hi := 1000) rfl rfl (by exact gz_m 1 (by omega)) (by exact gz_m 2 (by omega)) (fun I28 hI28 q29 p29 => ?_)
    have FI28 := gc_frs (W := fun q j => (q = 61 ∧ j = 3) ∨ (q = 61 ∧ j = 4) ∨ (q = 61 ∧ j = 15) ∨ (q = 48 ∧ j = 3) ∨ (q = 48 ∧ j = 6) ∨ (q = 27 ∧ j = 1) ∨ (q = 31 ∧ j = 1) ∨ q = 32 ∨ (q = 23 ∧ j = 1) ∨ (q = 23 ∧ j = 4) ∨ q = 25 ∨ q = 26 ∨ (q = 31 ∧ j = 4) ∨ q = 33 ∨ q = 34) FI10 (Or.inr (Or.inr (Or.inr (Or.inr (Or.inr (Or.inr (Or.inl ⟨rfl, rfl⟩))))))) p29
    have t30 := p29 23 1 (fun h => absurd h.1 (by first | exact gz_ne rfl | decide))
    have t31 := p29 23 4 (fun h => absurd h.2 (by first | exact gz_ne rfl | decide))
    have t32 := p29 31 4 (fun h => absurd h.2 (by first | exact gz_ne rfl | decide))
    have t33 := p29 61 3 (fun h => absurd h.2 (by first | exact gz_ne rfl | decide))
    have t34 := p29 61 15 (fun h => absurd h.2 (by first | exact gz_ne rfl | decide))
    have f35 := (gc_b_3_1 hI28 R_31)
    have KFN_I28 := gc_FN_fr KFN_I10 (fun k => p29 49 k (fun h => absurd h.1 (by first | exact gz_ne rfl | decide))) (fun k => p29 50 k (fun h => absurd h.1 (by first | exact gz_ne rfl | decide)))
    have KFZ_I28 := gc_FZ_fr KFZ_I10 (p29 2 1 (fun h => absurd h.1 (by first | exact gz_ne rfl | decide))) (fun k => p29 49 k (fun h => absurd h.1 (by first | exact gz_ne rfl | decide))) (fun k => p29 50 k (fun h => absurd h.1 (by first | exact gz_ne rfl | decide)))
    show gv_X _ _ (70, [(4, .inl s0_12), (0, .inr (.inr (some 0))), (1, .inl a1), (2, .inl a2), (3, .inr (.inr (some t)))], [], sh, gc_h sh I28 J11 A)
    refine gv_run 1 true hD (pcₚ := 71) (lvₚ := [(4, .inl s0_12), (0, .inr (.inr (some 0))), (1, .inl a1), (2, .inl a2), (3, .inr (.inr (some t)))]) (stₚ := [.inr (.inr (some 0))]) (hₚ := gc_h sh I28 J11 A) (C := (True ∧ True)) rfl ⟨trivial, trivial⟩ ?_
    refine gv_get hD rfl rfl S_0 ⟨by decide, B_0⟩ (gc_hA S_0 rfl A_0_3) ?_
    show gv_X _ _ (74, [(4, .inl s0_12), (0, .inr (.inr (some 0))), (1, .inl a1), (2, .inl a2), (3, .inr (.inr (some t)))], [.inr (.inr (some 31))], sh, gc_h sh I28 J11 A)
    refine gv_run 1 true hD (pcₚ := 75) (lvₚ := [(4, .inl s0_12), (0, .inr (.inr (some 0))), (1, .inl a1), (2, .inl a2), (3, .inr (.inr (some t)))]) (stₚ := [.inr (.inr (some 0)), .inr (.inr (some 31))]) (hₚ := gc_h sh I28 J11 A) (C := (True ∧ True)) rfl ⟨trivial, trivial⟩ ?_
    refine gv_get hD rfl rfl S_0 ⟨by decide, B_0⟩ (gc_hA S_0 rfl A_0_1) ?_
    show gv_X _ _ (78, [(4, .inl s0_12), (0, .inr (.inr (some 0))), (1, .inl a1), (2, .inl a2), (3, .inr (.inr (some t)))], [.inr (.inr (some 23)), .inr (.inr (some 31))], sh, gc_h sh I28 J11 A)
    obtain ⟨r36, h36, E36, P36⟩ := d_X9_putWords (ws0 := ws0) (tb := tb) hws htb sh ro I28 J11 A hI28 31 23 (gc_b31 hb) (gc_b23 hb)    
    obtain ⟨I37, J38, rfl, hI37, g36, k36, rfl⟩ := P36
    have FI37 := gc_frc (W := fun q j => (q = 61 ∧ j = 3) ∨ (q = 61 ∧ j = 4) ∨ (q = 61 ∧ j = 15) ∨ (q = 48 ∧ j = 3) ∨ (q = 48 ∧ j = 6) ∨ (q = 27 ∧ j = 1) ∨ (q = 31 ∧ j = 1) ∨ q = 32 ∨ (q = 23 ∧ j = 1) ∨ (q = 23 ∧ j = 4) ∨ q = 25 ∨ q = 26 ∨ (q = 31 ∧ j = 4) ∨ q = 33 ∨ q = 34) (V := fun q j => (q = 31 ∧ j = 1) ∨ q = 32) FI28 (fun q j h => (h.elim (fun h => (Or.inr (Or.inr (Or.inr (Or.inr (Or.inr (Or.inr (Or.inl h)))))))) (fun h => (Or.inr (Or.inr (Or.inr (Or.inr (Or.inr (Or.inr (Or.inr (Or.inl h))))))))))) g36
    have t39 := (g36 23 1).resolve_left (fun h => h.elim (fun h => absurd h.1 (by first | exact gz_ne rfl | decide)) (fun h => absurd h (by first | exact gz_ne rfl | decide)))
    have t40 := (g36 23 4).resolve_left (fun h => h.elim (fun h => absurd h.2 (by first | exact gz_ne rfl | decide)) (fun h => absurd h (by first | exact gz_ne rfl | decide)))
    have t41 := (g36 31 4).resolve_left (fun h => h.elim (fun h => absurd h.2 (by first | exact gz_ne rfl | decide)) (fun h => absurd h (by first | exact gz_ne rfl | decide)))
    have t42 := (g36 61 3).resolve_left (fun h => h.elim (fun h => absurd h.2 (by first | exact gz_ne rfl | decide)) (fun h => absurd h (by first | exact gz_ne rfl | decide)))
    have t43 := (g36 61 15).resolve_left (fun h => h.elim (fun h => absurd h.2 (by first | exact gz_ne rfl | decide)) (fun h => absurd h (by first | exact gz_ne rfl | decide)))
    have f44 := (gc_b_3_1 hI37 R_31)
    obtain rfl : J11 = J38 := funext fun q => funext fun j => ((k36 q j).resolve_left id).symm
    have KFN_I37 := gc_FN_fr KFN_I28 (fun k => (g36 49 k).resolve_left (fun h => h.elim (fun h => absurd h.1 (by first | exact gz_ne rfl | decide)) (fun h => absurd h (by first | exact gz_ne rfl | decide)))) (fun k => (g36 50 k).resolve_left (fun h => h.elim (fun h => absurd h.1 (by first | exact gz_ne rfl | decide)) (fun h => absurd h (by first | exact gz_ne rfl | decide))))
    have KFZ_I37 := gc_FZ_fr KFZ_I28 ((g36 2 1).resolve_left (fun h => h.elim (fun h => absurd h.1 (by first | exact gz_ne rfl | decide)) (fun h => absurd h (by first | exact gz_ne rfl | decide)))) (fun k => (g36 49 k).resolve_left (fun h => h.elim (fun h => absurd h.1 (by first | exact gz_ne rfl | decide)) (fun h => absurd h (by first | exact gz_ne rfl | decide)))) (fun k => (g36 50 k).resolve_left (fun h => h.elim (fun h => absurd h.1 (by first | exact gz_ne rfl | decide)) (fun h => absurd h (by first | exact gz_ne rfl | decide))))
    refine gv_callV hD rfl (As := [.inr (.inr (some 23))]) (st := []) rfl B_31 S_31 rfl (gc_lV12 hws rfl) (Nat.le_of_ble_eq_true rfl) (gz_Ev_mono (d := 5) (by decide) E36) ?_
    show gv_X _ _ (81, [(4, .inl s0_12), (0, .inr (.inr (some 0))), (1, .inl a1), (2, .inl a2), (3, .inr (.inr (some t)))], [], sh, gc_h sh I37 J11 A)
    refine gv_run 1 true hD (pcₚ := 82) (lvₚ := [(4, .inl s0_12), (0, .inr (.inr (some 0))), (1, .inl a1), (2, .inl a2), (3, .inr (.inr (some t)))]) (stₚ := [.inr (.inr (some 0))]) (hₚ := gc_h sh I37 J11 A) (C := (True ∧ True)) rfl ⟨trivial, trivial⟩ ?_
    refine gv_get hD rfl rfl S_0 ⟨by decide, B_0⟩ (gc_hA S_0 rfl A_0_1) ?_
    show gv_X _ _ (85, [(4, .inl s0_12), (0, .inr (.inr (some 0))), (1, .inl a1), (2, .inl a2), (3, .inr (.inr (some t)))], [.inr (.inr (some 23))], sh, gc_h sh I37 J11 A)
    refine gv_run 1 true hD (pcₚ := 86) (lvₚ := [(4, .inl s0_12), (0, .inr (.inr (some 0))), (1, .inl a1), (2, .inl a2), (3, .inr (.inr (some t)))]) (stₚ := [.inl 0, .inr (.inr (some 23))]) (hₚ := gc_h sh I37 J11 A) (C := (True ∧ True)) rfl ⟨trivial, trivial⟩ ?_
    refine gv_put hD rfl rfl S_23 ⟨by decide, B_23⟩ rfl trivial ?_
    refine gc_st (k := 1) hI37 S_23 rfl R_23 (lo := 0) (hi := 1000) rfl rfl (by exact gz_m 3 (by omega)) (by exact gz_m 4 (by omega)) (fun I45 hI45 q46 p46 => ?_)
    have FI45 := gc_frs (W := fun q j => (q = 61 ∧ j = 3) ∨ (q = 61 ∧ j = 4) ∨ (q = 61 ∧ j = 15) ∨ (q = 48 ∧ j = 3) ∨ (q = 48 ∧ j = 6) ∨ (q = 27 ∧ j = 1) ∨ (q = 31 ∧ j = 1) ∨ q = 32 ∨ (q = 23 ∧ j = 1) ∨ (q = 23 ∧ j = 4) ∨ q = 25 ∨ q = 26 ∨ (q = 31 ∧ j = 4) ∨ q = 33 ∨ q = 34) FI37 (Or.inr (Or.inr (Or.inr (Or.inr (Or.inr (Or.inr (Or.inr (Or.inr (Or.inl ⟨rfl, rfl⟩))))))))) p46
    have t47 := p46 23 4 (fun h => absurd h.2 (by first | exact gz_ne rfl | decide))
    have t48 := p46 31 4 (fun h => absurd h.2 (by first | exact gz_ne rfl | decide))
    have t49 := p46 31 1 (fun h => absurd h.1 (by first | exact gz_ne rfl | decide))
    have t50 := p46 61 3 (fun h => absurd h.2 (by first | exact gz_ne rfl | decide))
    have t51 := p46 61 15 (fun h => absurd h.2 (by first | exact gz_ne rfl | decide))
    have f52 := (gc_b_3_1 hI45 R_23)
    have KFN_I45 := gc_FN_fr KFN_I37 (fun k => p46 49 k (fun h => absurd h.1 (by first | exact gz_ne rfl | decide))) (fun k => p46 50 k (fun h => absurd h.1 (by first | exact gz_ne rfl | decide)))
    have KFZ_I45 := gc_FZ_fr KFZ_I37 (p46 2 1 (fun h => absurd h.1 (by first | exact gz_ne rfl | decide))) (fun k => p46 49 k (fun h => absurd h.1 (by first | exact gz_ne rfl | decide))) (fun k => p46 50 k (fun h => absurd h.1 (by first | exact gz_ne rfl | decide)))
    show gv_X _ _ (89, [(4, .inl s0_12), (0, .inr (.inr (some 0))), (1, .inl a1), (2, .inl a2), (3, .inr (.inr (some t)))], [], sh, gc_h sh I45 J11 A)
    refine gv_run 1 true hD (pcₚ := 90) (lvₚ := [(4, .inl s0_12), (0, .inr (.inr (some 0))), (1, .inl a1), (2, .inl a2), (3, .inr (.inr (some t)))]) (stₚ := [.inr (.inr (some 0))]) (hₚ := gc_h sh I45 J11 A) (C := (True ∧ True)) rfl ⟨trivial, trivial⟩ ?_
    refine gv_get hD rfl rfl S_0 ⟨by decide, B_0⟩ (gc_hA S_0 rfl A_0_3) ?_
    show gv_X _ _ (93, [(4, .inl s0_12), (0, .inr (.inr (some 0))), (1, .inl a1), (2, .inl a2), (3, .inr (.inr (some t)))], [.inr (.inr (some 31))], sh, gc_h sh I45 J11 A)
    obtain ⟨r53, h53, E53, P53⟩ := d_X9_split (ws0 := ws0) (tb := tb) hws htb sh ro I45 J11 A hI45 31  (gc_b31 hb)     
    obtain ⟨I54, J55, rfl, hI54, g53, k53, ⟨z53, rfl, q53⟩⟩ := P53
    have FI54 := gc_frc (W := fun q j => (q = 61 ∧ j = 3) ∨ (q = 61 ∧ j = 4) ∨ (q = 61 ∧ j = 15) ∨ (q = 48 ∧ j = 3) ∨ (q = 48 ∧ j = 6) ∨ (q = 27 ∧ j = 1) ∨ (q = 31 ∧ j = 1) ∨ q = 32 ∨ (q = 23 ∧ j = 1) ∨ (q = 23 ∧ j = 4) ∨ q = 25 ∨ q = 26 ∨ (q = 31 ∧ j = 4) ∨ q = 33 ∨ q = 34) (V := fun q j => (q = 31 ∧ j = 4) ∨ q = 33 ∨ q = 34) FI45 (fun q j h => (h.elim (fun h => (Or.inr (Or.inr (Or.inr (Or.inr (Or.inr (Or.inr (Or.inr (Or.inr (Or.inr (Or.inr (Or.inr (Or.inr (Or.inl h)))))))))))))) (fun h => (h.elim (fun h => (Or.inr (Or.inr (Or.inr (Or.inr (Or.inr (Or.inr (Or.inr (Or.inr (Or.inr (Or.inr (Or.inr (Or.inr (Or.inr (Or.inl h))))))))))))))) (fun h => (Or.inr (Or.inr (Or.inr (Or.inr (Or.inr (Or.inr (Or.inr (Or.inr (Or.inr (Or.inr (Or.inr (Or.inr (Or.inr (Or.inr h))))))))))))))))))) g53
    have t56 := (g53 23 1).resolve_left (fun h => h.elim (fun h => absurd h.2 (by first | exact gz_ne rfl | decide)) (fun h => h.elim (fun h => absurd h (by first | exact gz_ne rfl | decide)) (fun h => absurd h (by first | exact gz_ne rfl | decide))))
    have t57 := (g53 23 4).resolve_left (fun h => h.elim (fun h => absurd h.1 (by first | exact gz_ne rfl | decide)) (fun h => h.elim (fun h => absurd h (by first | exact gz_ne rfl | decide)) (fun h => absurd h (by first | exact gz_ne rfl | decide))))
    have t58 := (g53 31 1).resolve_left (fun h => h.elim (fun h => absurd h.2 (by first | exact gz_ne rfl | decide)) (fun h => h.elim (fun h => absurd h (by first | exact gz_ne rfl | decide)) (fun h => absurd h (by first | exact gz_ne rfl | decide))))
    have t59 := (g53 61 3).resolve_left (fun h => h.elim (fun h => absurd h.2 (by first | exact gz_ne rfl | decide)) (fun h => h.elim (fun h => absurd h (by first | exact gz_ne rfl | decide)) (fun h => absurd h (by first | exact gz_ne rfl | decide))))
    have t60 := (g53 61 15).resolve_left (fun h => h.elim (fun h => absurd h.2 (by first | exact gz_ne rfl | decide)) (fun h => h.elim (fun h => absurd h (by first | exact gz_ne rfl | decide)) (fun h => absurd h (by first | exact gz_ne rfl | decide))))
    have f61 := (gc_b_3_4 hI54 R_31)
    obtain rfl : J11 = J55 := funext fun q => funext fun j => ((k53 q j).resolve_left id).symm
    have KFN_I54 := gc_FN_fr KFN_I45 (fun k => (g53 49 k).resolve_left (fun h => h.elim (fun h => absurd h.1 (by first | exact gz_ne rfl | decide)) (fun h => h.elim (fun h => absurd h (by first | exact gz_ne rfl | decide)) (fun h => absurd h (by first | exact gz_ne rfl | decide))))) (fun k => (g53 50 k).resolve_left (fun h => h.elim (fun h => absurd h.1 (by first | exact gz_ne rfl | decide)) (fun h => h.elim (fun h => absurd h (by first | exact gz_ne rfl | decide)) (fun h => absurd h (by first | exact gz_ne rfl | decide)))))
    have KFZ_I54 := gc_FZ_fr KFZ_I45 ((g53 2 1).resolve_left (fun h => h.elim (fun h => absurd h.2 (by first | exact gz_ne rfl | decide)) (fun h => h.elim (fun h => absurd h (by first | exact gz_ne rfl | decide)) (fun h => absurd h (by first | exact gz_ne rfl | decide))))) (fun k => (g53 49 k).resolve_left (fun h => h.elim (fun h => absurd h.1 (by first | exact gz_ne rfl | decide)) (fun h => h.elim (fun h => absurd h (by first | exact gz_ne rfl | decide)) (fun h => absurd h (by first | exact gz_ne rfl | decide))))) (fun k => (g53 50 k).resolve_left (fun h => h.elim (fun h => absurd h.1 (by first | exact gz_ne rfl | decide)) (fun h => h.elim (fun h => absurd h (by first | exact gz_ne rfl | decide)) (fun h => absurd h (by first | exact gz_ne rfl | decide)))))
    refine gv_callV hD rfl (As := []) (st := []) rfl B_31 S_31 rfl (gc_lV12 hws rfl) (Nat.le_of_ble_eq_true rfl) (gz_Ev_mono (d := 2) (by decide) E53) ?_
    show gv_X _ _ (96, [(4, .inl s0_12), (0, .inr (.inr (some 0))), (1, .inl a1), (2, .inl a2), (3, .inr (.inr (some t)))], [.inl z53], sh, gc_h sh I54 J11 A)
    refine gv_if_eq (t := 104) hD rfl rfl ⟨by exact gz_m 5 (by omega), by exact gz_m 6 (by omega)⟩ (fun c62 => ?_) (fun c62 => ?_)
    · show gv_X _ _ (104, [(4, .inl s0_12), (0, .inr (.inr (some 0))), (1, .inl a1), (2, .inl a2), (3, .inr (.inr (some t)))], [], sh, gc_h sh I54 J11 A)
      refine gv_pick [] rfl ?_
      exact L104 I54 J11 hI54 FI54 FJ11 KFN_I54 KFZ_I54 (by exact gz_m 7 (by omega))
    · show gv_X _ _ (99, [(4, .inl s0_12), (0, .inr (.inr (some 0))), (1, .inl a1), (2, .inl a2), (3, .inr (.inr (some t)))], [], sh, gc_h sh I54 J11 A)
      refine gv_run 1 true hD (pcₚ := 101) (lvₚ := [(4, .inl s0_12), (0, .inr (.inr (some 0))), (1, .inl a1), (2, .inl a2), (3, .inr (.inr (some t)))]) (stₚ := [.inl s0_12]) (hₚ := gc_h sh I54 J11 A) (C := (True ∧ True)) rfl ⟨trivial, trivial⟩ ?_
      refine gv_if_ne (t := 107) hD rfl rfl ⟨by exact gz_m 8 (by omega), by exact gz_m 9 (by omega)⟩ (fun c63 => ?_) (fun c63 => ?_)
      · show gv_X _ _ (107, [(4, .inl s0_12), (0, .inr (.inr (some 0))), (1, .inl a1), (2, .inl a2), (3, .inr (.inr (some t)))], [], sh, gc_h sh I54 J11 A)
        refine gv_pick [1, 2, 3, 4, 0] rfl ?_
        exact L107 I54 J11 s0_12 hI54 FI54 FJ11 KFN_I54 KFZ_I54 (by exact gz_m 10 (by omega)) q53.2.2.1
      · show gv_X _ _ (104, [(4, .inl s0_12), (0, .inr (.inr (some 0))), (1, .inl a1), (2, .inl a2), (3, .inr (.inr (some t)))], [], sh, gc_h sh I54 J11 A)
        refine gv_pick [] rfl ?_
        exact L104 I54 J11 hI54 FI54 FJ11 KFN_I54 KFZ_I54 (by exact gz_m 11 (by omega))
  have L59 : ∀ (I64 : gr_I) (J65 : gr_J) , gc_Inv ro I64 → (∀ q j : Nat, ((q = 61 ∧ j = 3) ∨ (q = 61 ∧ j = 4) ∨ (q = 61 ∧ j = 15) ∨ (q = 48 ∧ j = 3) ∨ (q = 48 ∧ j = 6) ∨ (q = 27 ∧ j = 1) ∨ (q = 31 ∧ j = 1) ∨ q = 32 ∨ (q = 23 ∧ j = 1) ∨ (q = 23 ∧ j = 4) ∨ q = 25 ∨ q = 26 ∨ (q = 31 ∧ j = 4) ∨ q = 33 ∨ q = 34) ∨ I64 q j = I q j) → (∀ q j : Nat, (False) ∨ J65 q j = J q j) → gc_FN I64 → gc_FZ I64 → ((0 ≤ a1 ∧ a1 ≤ 7) ∧ (0 ≤ a2 ∧ a2 ≤ 31) ∧ (a1 = a1) ∧ (a2 = a2) ∧ (I64 61 3 = 0 ∧ I64 61 15 = 0)) → gv_X (gc_E12 ws0 tb 97 (yX12_mend, cX12_mend, 10, (some .int)) kX12_mend) Q (59, [(0, .inr (.inr (some 0))), (1, .inl a1), (2, .inl a2), (3, .inr (.inr (some t)))], [], sh, gc_h sh I64 J65 A) := by
    intro I64 J65 hI64 FI64 FJ65 KFN_I64 KFZ_I64 m_66
    obtain ⟨ha1_66, ha2_66, e0_66, e1_66, e2_66⟩ := m_66
    have f67 := (gc_b_3_1 hI64 R_23)
    have f68 := (gc_b_3_4 hI64 R_23)
    have f69 := (gc_b_3_4 hI64 R_31)
    have f70 := (gc_b_3_1 hI64 R_31)
    have f71 := (gc_b_72_3 hI64 R_61)
    have f72 := (gc_b_72_15 hI64 R_61)
    refine gv_run 1 true hD (pcₚ := 60) (lvₚ := [(0, .inr (.inr (some 0))), (1, .inl a1), (2, .inl a2), (3, .inr (.inr (some t)))]) (stₚ := [.inl 0]) (hₚ := gc_h sh I64 J65 A) (C := (True ∧ True)) rfl ⟨trivial, trivial⟩ ?_
    exact L60 I64 J65 0 hI64 FI64 FJ65 KFN_I64 KFZ_I64 (by exact gz_m 12 (by omega))
  refine gv_run 2 true hD (pcₚ := 2) (lvₚ := [(0, .inr (.inr (some 0))), (1, .inl a1), (2, .inl a2)]) (stₚ := [.inl a1, .inr (.inr (some 0))]) (hₚ := gc_h sh I J A) (C := ((True ∧ True) ∧ True)) rfl ⟨⟨trivial, trivial⟩, trivial⟩ ?_
  refine gv_callV hD rfl (As := [.inl a1]) (st := []) rfl B_0 S_0 rfl (gc_lV12 hws rfl) (Nat.le_of_ble_eq_true rfl) (gz_Ev_mono (d := 1) (by decide) (d_X12_tongueAt hws htb (J := J) hI hb (by exact gz_m 13 (by omega)) (by exact gz_m 14 (by omega)) x1)) ?_
  show gv_X _ _ (5, [(0, .inr (.inr (some 0))), (1, .inl a1), (2, .inl a2)], [.inr (.inr (some t))], sh, gc_h sh I J A)
  refine gv_run 3 true hD (pcₚ := 8) (lvₚ := [(3, .inr (.inr (some t))), (0, .inr (.inr (some 0))), (1, .inl a1), (2, .inl a2)]) (stₚ := [.inl a2, .inr (.inr (some 0))]) (hₚ := gc_h sh I J A) (C := (((True ∧ True) ∧ True) ∧ True)) rfl ⟨⟨⟨trivial, trivial⟩, trivial⟩, trivial⟩ ?_
  obtain ⟨r74, h74, E74, P74⟩ := d_X12_checkKind (ws0 := ws0) (tb := tb) hws htb sh ro I J A hI  a2 hb   ⟨by exact gz_m 15 (by omega), by exact gz_m 16 (by omega)⟩ (by exact gz_m 17 (by omega)) 
  obtain ⟨rfl, rfl⟩ := P74
  refine gv_callV hD rfl (As := [.inl a2]) (st := []) rfl B_0 S_0 rfl (gc_lV12 hws rfl) (Nat.le_of_ble_eq_true rfl) (gz_Ev_mono (d := 1) (by decide) E74) ?_
  show gv_X _ _ (11, [(3, .inr (.inr (some t))), (0, .inr (.inr (some 0))), (1, .inl a1), (2, .inl a2)], [], sh, gc_h sh I J A)
  refine gv_run 1 true hD (pcₚ := 12) (lvₚ := [(3, .inr (.inr (some t))), (0, .inr (.inr (some 0))), (1, .inl a1), (2, .inl a2)]) (stₚ := [.inr (.inr (some 0))]) (hₚ := gc_h sh I J A) (C := (True ∧ True)) rfl ⟨trivial, trivial⟩ ?_
  refine gv_get hD rfl rfl S_0 ⟨by decide, B_0⟩ (gc_hA S_0 rfl A_0_2) ?_
  show gv_X _ _ (15, [(3, .inr (.inr (some t))), (0, .inr (.inr (some 0))), (1, .inl a1), (2, .inl a2)], [.inr (.inr (some 27))], sh, gc_h sh I J A)
  refine gv_run 1 true hD (pcₚ := 16) (lvₚ := [(3, .inr (.inr (some t))), (0, .inr (.inr (some 0))), (1, .inl a1), (2, .inl a2)]) (stₚ := [.inl 0, .inr (.inr (some 27))]) (hₚ := gc_h sh I J A) (C := (True ∧ True)) rfl ⟨trivial, trivial⟩ ?_
  refine gv_put hD rfl rfl S_27 ⟨by decide, B_27⟩ rfl trivial ?_
  refine gc_st (k := 1) hI S_27 rfl R_27 (lo := 0) (hi := 1000) rfl rfl (by exact gz_m 18 (by omega)) (by exact gz_m 19 (by omega)) (fun I75 hI75 q76 p76 => ?_)
  have FI75 := gc_frs (W := fun q j => (q = 61 ∧ j = 3) ∨ (q = 61 ∧ j = 4) ∨ (q = 61 ∧ j = 15) ∨ (q = 48 ∧ j = 3) ∨ (q = 48 ∧ j = 6) ∨ (q = 27 ∧ j = 1) ∨ (q = 31 ∧ j = 1) ∨ q = 32 ∨ (q = 23 ∧ j = 1) ∨ (q = 23 ∧ j = 4) ∨ q = 25 ∨ q = 26 ∨ (q = 31 ∧ j = 4) ∨ q = 33 ∨ q = 34) FI (Or.inr (Or.inr (Or.inr (Or.inr (Or.inr (Or.inl ⟨rfl, rfl⟩)))))) p76
  have t77 := p76 23 1 (fun h => absurd h.1 (by first | exact gz_ne rfl | decide))
  have t78 := p76 23 4 (fun h => absurd h.2 (by first | exact gz_ne rfl | decide))
  have t79 := p76 31 4 (fun h => absurd h.2 (by first | exact gz_ne rfl | decide))
  have t80 := p76 31 1 (fun h => absurd h.1 (by first | exact gz_ne rfl | decide))
  have t81 := p76 61 3 (fun h => absurd h.2 (by first | exact gz_ne rfl | decide))
  have t82 := p76 61 15 (fun h => absurd h.2 (by first | exact gz_ne rfl | decide))
  have KFN_I75 := gc_FN_fr KFN_I (fun k => p76 49 k (fun h => absurd h.1 (by first | exact gz_ne rfl | decide))) (fun k => p76 50 k (fun h => absurd h.1 (by first | exact gz_ne rfl | decide)))
  have KFZ_I75 := gc_FZ_fr KFZ_I (p76 2 1 (fun h => absurd h.1 (by first | exact gz_ne rfl | decide))) (fun k => p76 49 k (fun h => absurd h.1 (by first | exact gz_ne rfl | decide))) (fun k => p76 50 k (fun h => absurd h.1 (by first | exact gz_ne rfl | decide)))
  show gv_X _ _ (19, [(3, .inr (.inr (some t))), (0, .inr (.inr (some 0))), (1, .inl a1), (2, .inl a2)], [], sh, gc_h sh I75 J A)
  refine gv_run 1 true hD (pcₚ := 20) (lvₚ := [(3, .inr (.inr (some t))), (0, .inr (.inr (some 0))), (1, .inl a1), (2, .inl a2)]) (stₚ := [.inr (.inr (some 0))]) (hₚ := gc_h sh I75 J A) (C := (True ∧ True)) rfl ⟨trivial, trivial⟩ ?_
  refine gv_get hD rfl rfl S_0 ⟨by decide, B_0⟩ (gc_hA S_0 rfl A_0_7) ?_
  show gv_X _ _ (23, [(3, .inr (.inr (some t))), (0, .inr (.inr (some 0))), (1, .inl a1), (2, .inl a2)], [.inr (.inr (some 61))], sh, gc_h sh I75 J A)
  obtain ⟨r83, h83, E83, P83⟩ := d_X5_close (ws0 := ws0) (tb := tb) hws htb sh ro I75 J A hI75   hb     
  obtain ⟨I84, J85, rfl, hI84, g83, k83, ⟨rfl, q83⟩⟩ := P83
  have FI84 := gc_frc (W := fun q j => (q = 61 ∧ j = 3) ∨ (q = 61 ∧ j = 4) ∨ (q = 61 ∧ j = 15) ∨ (q = 48 ∧ j = 3) ∨ (q = 48 ∧ j = 6) ∨ (q = 27 ∧ j = 1) ∨ (q = 31 ∧ j = 1) ∨ q = 32 ∨ (q = 23 ∧ j = 1) ∨ (q = 23 ∧ j = 4) ∨ q = 25 ∨ q = 26 ∨ (q = 31 ∧ j = 4) ∨ q = 33 ∨ q = 34) (V := fun q j => (q = 61 ∧ j = 3) ∨ (q = 61 ∧ j = 4) ∨ (q = 61 ∧ j = 15)) FI75 (fun q j h => (h.elim (fun h => (Or.inl h)) (fun h => (h.elim (fun h => (Or.inr (Or.inl h))) (fun h => (Or.inr (Or.inr (Or.inl h)))))))) g83
  have t86 := (g83 23 1).resolve_left (fun h => h.elim (fun h => absurd h.2 (by first | exact gz_ne rfl | decide)) (fun h => h.elim (fun h => absurd h.2 (by first | exact gz_ne rfl | decide)) (fun h => absurd h.2 (by first | exact gz_ne rfl | decide))))
  have t87 := (g83 23 4).resolve_left (fun h => h.elim (fun h => absurd h.2 (by first | exact gz_ne rfl | decide)) (fun h => h.elim (fun h => absurd h.1 (by first | exact gz_ne rfl | decide)) (fun h => absurd h.2 (by first | exact gz_ne rfl | decide))))
  have t88 := (g83 31 4).resolve_left (fun h => h.elim (fun h => absurd h.2 (by first | exact gz_ne rfl | decide)) (fun h => h.elim (fun h => absurd h.1 (by first | exact gz_ne rfl | decide)) (fun h => absurd h.2 (by first | exact gz_ne rfl | decide))))
  have t89 := (g83 31 1).resolve_left (fun h => h.elim (fun h => absurd h.2 (by first | exact gz_ne rfl | decide)) (fun h => h.elim (fun h => absurd h.2 (by first | exact gz_ne rfl | decide)) (fun h => absurd h.2 (by first | exact gz_ne rfl | decide))))
  have f90 := (gc_b_72_3 hI84 R_61)
  have f91 := (gc_b_72_15 hI84 R_61)
  obtain rfl : J = J85 := funext fun q => funext fun j => ((k83 q j).resolve_left id).symm
  have KFN_I84 := gc_FN_fr KFN_I75 (fun k => (g83 49 k).resolve_left (fun h => h.elim (fun h => absurd h.1 (by first | exact gz_ne rfl | decide)) (fun h => h.elim (fun h => absurd h.1 (by first | exact gz_ne rfl | decide)) (fun h => absurd h.1 (by first | exact gz_ne rfl | decide))))) (fun k => (g83 50 k).resolve_left (fun h => h.elim (fun h => absurd h.1 (by first | exact gz_ne rfl | decide)) (fun h => h.elim (fun h => absurd h.1 (by first | exact gz_ne rfl | decide)) (fun h => absurd h.1 (by first | exact gz_ne rfl | decide)))))
  have KFZ_I84 := gc_FZ_fr KFZ_I75 ((g83 2 1).resolve_left (fun h => h.elim (fun h => absurd h.2 (by first | exact gz_ne rfl | decide)) (fun h => h.elim (fun h => absurd h.2 (by first | exact gz_ne rfl | decide)) (fun h => absurd h.2 (by first | exact gz_ne rfl | decide))))) (fun k => (g83 49 k).resolve_left (fun h => h.elim (fun h => absurd h.1 (by first | exact gz_ne rfl | decide)) (fun h => h.elim (fun h => absurd h.1 (by first | exact gz_ne rfl | decide)) (fun h => absurd h.1 (by first | exact gz_ne rfl | decide))))) (fun k => (g83 50 k).resolve_left (fun h => h.elim (fun h => absurd h.1 (by first | exact gz_ne rfl | decide)) (fun h => h.elim (fun h => absurd h.1 (by first | exact gz_ne rfl | decide)) (fun h => absurd h.1 (by first | exact gz_ne rfl | decide)))))
  refine gv_callV hD rfl (As := []) (st := []) rfl B_61 S_61 rfl (gc_lV12 hws rfl) (Nat.le_of_ble_eq_true rfl) (gz_Ev_mono (d := 1) (by decide) E83) ?_
  show gv_X _ _ (26, [(3, .inr (.inr (some t))), (0, .inr (.inr (some 0))), (1, .inl a1), (2, .inl a2)], [], sh, gc_h sh I84 J A)
  refine gv_run 1 true hD (pcₚ := 27) (lvₚ := [(3, .inr (.inr (some t))), (0, .inr (.inr (some 0))), (1, .inl a1), (2, .inl a2)]) (stₚ := [.inr (.inr (some 0))]) (hₚ := gc_h sh I84 J A) (C := (True ∧ True)) rfl ⟨trivial, trivial⟩ ?_
  refine gv_get hD rfl rfl S_0 ⟨by decide, B_0⟩ (gc_hA S_0 rfl A_0_6) ?_
  show gv_X _ _ (30, [(3, .inr (.inr (some t))), (0, .inr (.inr (some 0))), (1, .inl a1), (2, .inl a2)], [.inr (.inr (some 48))], sh, gc_h sh I84 J A)
  obtain ⟨r92, h92, E92, P92⟩ := d_X0_forget (ws0 := ws0) (tb := tb) hws htb sh ro I84 J A hI84   hb     
  obtain ⟨I93, J94, rfl, hI93, g92, k92, ⟨rfl, q92⟩⟩ := P92
  have FI93 := gc_frc (W := fun q j => (q = 61 ∧ j = 3) ∨ (q = 61 ∧ j = 4) ∨ (q = 61 ∧ j = 15) ∨ (q = 48 ∧ j = 3) ∨ (q = 48 ∧ j = 6) ∨ (q = 27 ∧ j = 1) ∨ (q = 31 ∧ j = 1) ∨ q = 32 ∨ (q = 23 ∧ j = 1) ∨ (q = 23 ∧ j = 4) ∨ q = 25 ∨ q = 26 ∨ (q = 31 ∧ j = 4) ∨ q = 33 ∨ q = 34) (V := fun q j => (q = 48 ∧ j = 3) ∨ (q = 48 ∧ j = 6)) FI84 (fun q j h => (h.elim (fun h => (Or.inr (Or.inr (Or.inr (Or.inl h))))) (fun h => (Or.inr (Or.inr (Or.inr (Or.inr (Or.inl h)))))))) g92
  have t95 := (g92 23 1).resolve_left (fun h => h.elim (fun h => absurd h.2 (by first | exact gz_ne rfl | decide)) (fun h => absurd h.2 (by first | exact gz_ne rfl | decide)))
  have t96 := (g92 23 4).resolve_left (fun h => h.elim (fun h => absurd h.2 (by first | exact gz_ne rfl | decide)) (fun h => absurd h.2 (by first | exact gz_ne rfl | decide)))
  have t97 := (g92 31 4).resolve_left (fun h => h.elim (fun h => absurd h.2 (by first | exact gz_ne rfl | decide)) (fun h => absurd h.2 (by first | exact gz_ne rfl | decide)))
  have t98 := (g92 31 1).resolve_left (fun h => h.elim (fun h => absurd h.2 (by first | exact gz_ne rfl | decide)) (fun h => absurd h.2 (by first | exact gz_ne rfl | decide)))
  have t99 := (g92 61 3).resolve_left (fun h => h.elim (fun h => absurd h.1 (by first | exact gz_ne rfl | decide)) (fun h => absurd h.2 (by first | exact gz_ne rfl | decide)))
  have t100 := (g92 61 15).resolve_left (fun h => h.elim (fun h => absurd h.2 (by first | exact gz_ne rfl | decide)) (fun h => absurd h.2 (by first | exact gz_ne rfl | decide)))
  obtain rfl : J = J94 := funext fun q => funext fun j => ((k92 q j).resolve_left id).symm
  have KFN_I93 := gc_FN_fr KFN_I84 (fun k => (g92 49 k).resolve_left (fun h => h.elim (fun h => absurd h.1 (by first | exact gz_ne rfl | decide)) (fun h => absurd h.1 (by first | exact gz_ne rfl | decide)))) (fun k => (g92 50 k).resolve_left (fun h => h.elim (fun h => absurd h.1 (by first | exact gz_ne rfl | decide)) (fun h => absurd h.1 (by first | exact gz_ne rfl | decide))))
  have KFZ_I93 := gc_FZ_fr KFZ_I84 ((g92 2 1).resolve_left (fun h => h.elim (fun h => absurd h.2 (by first | exact gz_ne rfl | decide)) (fun h => absurd h.2 (by first | exact gz_ne rfl | decide)))) (fun k => (g92 49 k).resolve_left (fun h => h.elim (fun h => absurd h.1 (by first | exact gz_ne rfl | decide)) (fun h => absurd h.1 (by first | exact gz_ne rfl | decide)))) (fun k => (g92 50 k).resolve_left (fun h => h.elim (fun h => absurd h.1 (by first | exact gz_ne rfl | decide)) (fun h => absurd h.1 (by first | exact gz_ne rfl | decide))))
  refine gv_callV hD rfl (As := []) (st := []) rfl B_48 S_48 rfl (gc_lV12 hws rfl) (Nat.le_of_ble_eq_true rfl) (gz_Ev_mono (d := 1) (by decide) E92) ?_
  show gv_X _ _ (33, [(3, .inr (.inr (some t))), (0, .inr (.inr (some 0))), (1, .inl a1), (2, .inl a2)], [], sh, gc_h sh I93 J A)
  refine gv_run 1 true hD (pcₚ := 34) (lvₚ := [(3, .inr (.inr (some t))), (0, .inr (.inr (some 0))), (1, .inl a1), (2, .inl a2)]) (stₚ := [.inr (.inr (some 0))]) (hₚ := gc_h sh I93 J A) (C := (True ∧ True)) rfl ⟨trivial, trivial⟩ ?_
  refine gv_get hD rfl rfl S_0 ⟨by decide, B_0⟩ (gc_hA S_0 rfl A_0_1) ?_
  show gv_X _ _ (37, [(3, .inr (.inr (some t))), (0, .inr (.inr (some 0))), (1, .inl a1), (2, .inl a2)], [.inr (.inr (some 23))], sh, gc_h sh I93 J A)
  obtain ⟨r101, h101, E101, P101⟩ := d_X9_split (ws0 := ws0) (tb := tb) hws htb sh ro I93 J A hI93 23  (gc_b23 hb)     
  obtain ⟨I102, J103, rfl, hI102, g101, k101, ⟨z101, rfl, q101⟩⟩ := P101
  have FI102 := gc_frc (W := fun q j => (q = 61 ∧ j = 3) ∨ (q = 61 ∧ j = 4) ∨ (q = 61 ∧ j = 15) ∨ (q = 48 ∧ j = 3) ∨ (q = 48 ∧ j = 6) ∨ (q = 27 ∧ j = 1) ∨ (q = 31 ∧ j = 1) ∨ q = 32 ∨ (q = 23 ∧ j = 1) ∨ (q = 23 ∧ j = 4) ∨ q = 25 ∨ q = 26 ∨ (q = 31 ∧ j = 4) ∨ q = 33 ∨ q = 34) (V := fun q j => (q = 23 ∧ j = 4) ∨ q = 25 ∨ q = 26) FI93 (fun q j h => (h.elim (fun h => (Or.inr (Or.inr (Or.inr (Or.inr (Or.inr (Or.inr (Or.inr (Or.inr (Or.inr (Or.inl h))))))))))) (fun h => (h.elim (fun h => (Or.inr (Or.inr (Or.inr (Or.inr (Or.inr (Or.inr (Or.inr (Or.inr (Or.inr (Or.inr (Or.inl h)))))))))))) (fun h => (Or.inr (Or.inr (Or.inr (Or.inr (Or.inr (Or.inr (Or.inr (Or.inr (Or.inr (Or.inr (Or.inr (Or.inl h))))))))))))))))) g101
  have t104 := (g101 23 1).resolve_left (fun h => h.elim (fun h => absurd h.2 (by first | exact gz_ne rfl | decide)) (fun h => h.elim (fun h => absurd h (by first | exact gz_ne rfl | decide)) (fun h => absurd h (by first | exact gz_ne rfl | decide))))
  have t105 := (g101 31 4).resolve_left (fun h => h.elim (fun h => absurd h.1 (by first | exact gz_ne rfl | decide)) (fun h => h.elim (fun h => absurd h (by first | exact gz_ne rfl | decide)) (fun h => absurd h (by first | exact gz_ne rfl | decide))))
  have t106 := (g101 31 1).resolve_left (fun h => h.elim (fun h => absurd h.2 (by first | exact gz_ne rfl | decide)) (fun h => h.elim (fun h => absurd h (by first | exact gz_ne rfl | decide)) (fun h => absurd h (by first | exact gz_ne rfl | decide))))
  have t107 := (g101 61 3).resolve_left (fun h => h.elim (fun h => absurd h.2 (by first | exact gz_ne rfl | decide)) (fun h => h.elim (fun h => absurd h (by first | exact gz_ne rfl | decide)) (fun h => absurd h (by first | exact gz_ne rfl | decide))))
  have t108 := (g101 61 15).resolve_left (fun h => h.elim (fun h => absurd h.2 (by first | exact gz_ne rfl | decide)) (fun h => h.elim (fun h => absurd h (by first | exact gz_ne rfl | decide)) (fun h => absurd h (by first | exact gz_ne rfl | decide))))
  have f109 := (gc_b_3_4 hI102 R_23)
  obtain rfl : J = J103 := funext fun q => funext fun j => ((k101 q j).resolve_left id).symm
  have KFN_I102 := gc_FN_fr KFN_I93 (fun k => (g101 49 k).resolve_left (fun h => h.elim (fun h => absurd h.1 (by first | exact gz_ne rfl | decide)) (fun h => h.elim (fun h => absurd h (by first | exact gz_ne rfl | decide)) (fun h => absurd h (by first | exact gz_ne rfl | decide))))) (fun k => (g101 50 k).resolve_left (fun h => h.elim (fun h => absurd h.1 (by first | exact gz_ne rfl | decide)) (fun h => h.elim (fun h => absurd h (by first | exact gz_ne rfl | decide)) (fun h => absurd h (by first | exact gz_ne rfl | decide)))))
  have KFZ_I102 := gc_FZ_fr KFZ_I93 ((g101 2 1).resolve_left (fun h => h.elim (fun h => absurd h.2 (by first | exact gz_ne rfl | decide)) (fun h => h.elim (fun h => absurd h (by first | exact gz_ne rfl | decide)) (fun h => absurd h (by first | exact gz_ne rfl | decide))))) (fun k => (g101 49 k).resolve_left (fun h => h.elim (fun h => absurd h.1 (by first | exact gz_ne rfl | decide)) (fun h => h.elim (fun h => absurd h (by first | exact gz_ne rfl | decide)) (fun h => absurd h (by first | exact gz_ne rfl | decide))))) (fun k => (g101 50 k).resolve_left (fun h => h.elim (fun h => absurd h.1 (by first | exact gz_ne rfl | decide)) (fun h => h.elim (fun h => absurd h (by first | exact gz_ne rfl | decide)) (fun h => absurd h (by first | exact gz_ne rfl | decide)))))
  refine gv_callV hD rfl (As := []) (st := []) rfl B_23 S_23 rfl (gc_lV12 hws rfl) (Nat.le_of_ble_eq_true rfl) (gz_Ev_mono (d := 2) (by decide) E101) ?_
  show gv_X _ _ (40, [(3, .inr (.inr (some t))), (0, .inr (.inr (some 0))), (1, .inl a1), (2, .inl a2)], [.inl z101], sh, gc_h sh I102 J A)
  refine gv_if_eq (t := 59) hD rfl rfl ⟨by exact gz_m 20 (by omega), by exact gz_m 21 (by omega)⟩ (fun c110 => ?_) (fun c110 => ?_)
  · show gv_X _ _ (59, [(3, .inr (.inr (some t))), (0, .inr (.inr (some 0))), (1, .inl a1), (2, .inl a2)], [], sh, gc_h sh I102 J A)
    refine gv_pick [1, 2, 3, 0] rfl ?_
    exact L59 I102 J hI102 FI102 FJ KFN_I102 KFZ_I102 (by exact gz_m 22 (by omega))
  · show gv_X _ _ (43, [(3, .inr (.inr (some t))), (0, .inr (.inr (some 0))), (1, .inl a1), (2, .inl a2)], [], sh, gc_h sh I102 J A)
    refine gv_run 1 true hD (pcₚ := 44) (lvₚ := [(3, .inr (.inr (some t))), (0, .inr (.inr (some 0))), (1, .inl a1), (2, .inl a2)]) (stₚ := [.inr (.inr (some 0))]) (hₚ := gc_h sh I102 J A) (C := (True ∧ True)) rfl ⟨trivial, trivial⟩ ?_
    refine gv_get hD rfl rfl S_0 ⟨by decide, B_0⟩ (gc_hA S_0 rfl A_0_1) ?_
    show gv_X _ _ (47, [(3, .inr (.inr (some t))), (0, .inr (.inr (some 0))), (1, .inl a1), (2, .inl a2)], [.inr (.inr (some 23))], sh, gc_h sh I102 J A)
    have f111 := (gc_b_3_4 hI102 R_23)
    refine gv_get hD rfl rfl S_23 ⟨by decide, B_23⟩ (gc_hI S_23 rfl) ?_
    show gv_X _ _ (50, [(3, .inr (.inr (some t))), (0, .inr (.inr (some 0))), (1, .inl a1), (2, .inl a2)], [.inl (I102 23 4)], sh, gc_h sh I102 J A)
    refine gv_run 1 true hD (pcₚ := 52) (lvₚ := [(3, .inr (.inr (some t))), (0, .inr (.inr (some 0))), (1, .inl a1), (2, .inl a2)]) (stₚ := [.inl 12, .inl (I102 23 4)]) (hₚ := gc_h sh I102 J A) (C := (True ∧ True)) rfl ⟨trivial, trivial⟩ ?_
    refine gv_icmp_gt (t := 59) hD rfl rfl ⟨⟨by exact gz_m 23 (by omega), by exact gz_m 24 (by omega)⟩, ⟨by exact gz_m 25 (by omega), by exact gz_m 26 (by omega)⟩⟩ (fun c112 => ?_) (fun c112 => ?_)
    · show gv_X _ _ (59, [(3, .inr (.inr (some t))), (0, .inr (.inr (some 0))), (1, .inl a1), (2, .inl a2)], [], sh, gc_h sh I102 J A)
      refine gv_pick [1, 2, 3, 0] rfl ?_
      exact L59 I102 J hI102 FI102 FJ KFN_I102 KFZ_I102 (by exact gz_m 27 (by omega))
    · show gv_X _ _ (55, [(3, .inr (.inr (some t))), (0, .inr (.inr (some 0))), (1, .inl a1), (2, .inl a2)], [], sh, gc_h sh I102 J A)
      refine gv_run 2 true hD (pcₚ := 60) (lvₚ := [(3, .inr (.inr (some t))), (0, .inr (.inr (some 0))), (1, .inl a1), (2, .inl a2)]) (stₚ := [.inl 1]) (hₚ := gc_h sh I102 J A) (C := ((True ∧ True) ∧ True)) rfl ⟨⟨trivial, trivial⟩, trivial⟩ ?_
      refine gv_pick [1, 2, 3, 0] rfl ?_
      exact L60 I102 J 1 hI102 FI102 FJ KFN_I102 KFZ_I102 (by exact gz_m 28 (by omega))
