set_option maxHeartbeats 8000000 in
set_option maxRecDepth 100000 in
theorem d_X12_mend_h {ws0 : List Cond} {tb : String → gz_T} (hws : gc_Ws ws0) (htb : gc_tbs tb) (sh : gz_Sh) (ro : Nat → Nat) (I : gr_I) (J : gr_J) (A : gc_A) (hI : gc_Inv ro I) (t : Nat) (a1 : Int) (a2 : Int) (hb : gc_Base sh ro A) (h_t : gc_isTongue sh ro A t) (G_t : 144 ≤ t) (ha1 : 0 ≤ a1 ∧ a1 ≤ 7) (ha2 : 0 ≤ a2 ∧ a2 ≤ 31) (x0 : 0 ≤ a1 ∧ a1 < I 8 1) (x1 : A 10 (Int.toNat a1) = some t) (x2 : a2 < I 2 1) (KFN_I : gc_FN I) (KFZ_I : gc_FZ I) {Q : gz_S → Prop} (hQ : ∀ v, gv_Q cX12_mend (some .int) sh (fun r hₚ => (∃ (Iₚ : gr_I) (Jₚ : gr_J), hₚ = gc_h sh Iₚ Jₚ A ∧ gc_Inv ro Iₚ ∧ (∀ q j : Nat, ((q = 61 ∧ j = 3) ∨ (q = 61 ∧ j = 4) ∨ (q = 61 ∧ j = 15) ∨ (q = 48 ∧ j = 3) ∨ (q = 48 ∧ j = 6) ∨ (q = 27 ∧ j = 1) ∨ (q = 31 ∧ j = 1) ∨ q = 32 ∨ (q = 23 ∧ j = 1) ∨ (q = 23 ∧ j = 4) ∨ q = 25 ∨ q = 26 ∨ (q = 31 ∧ j = 4) ∨ q = 33 ∨ q = 34) ∨ Iₚ q j = I q j) ∧ (∀ q j : Nat, (False) ∨ Jₚ q j = J q j) ∧ gc_FN Iₚ ∧ gc_FZ Iₚ ∧ (∃ z : Int, r = some (.inl z) ∧ (-3) ≤ z ∧ z ≤ (-3) ∧ (Iₚ 23 1 = 0) ∧ (Iₚ 61 3 = 0 ∧ Iₚ 61 15 = 0)))) v → Q v) (L107 : ∀ (I7 : gr_I) (J8 : gr_J) (v4_9 : Int), gc_Inv ro I7 → (∀ q j : Nat, ((q = 61 ∧ j = 3) ∨ (q = 61 ∧ j = 4) ∨ (q = 61 ∧ j = 15) ∨ (q = 48 ∧ j = 3) ∨ (q = 48 ∧ j = 6) ∨ (q = 27 ∧ j = 1) ∨ (q = 31 ∧ j = 1) ∨ q = 32 ∨ (q = 23 ∧ j = 1) ∨ (q = 23 ∧ j = 4) ∨ q = 25 ∨ q = 26 ∨ (q = 31 ∧ j = 4) ∨ q = 33 ∨ q = 34) ∨ I7 q j = I q j) → (∀ q j : Nat, (False) ∨ J8 q j = J q j) → gc_FN I7 → gc_FZ I7 → ((0 ≤ a1 ∧ a1 ≤ 7) ∧ (0 ≤ a2 ∧ a2 ≤ 31) ∧ (1 ≤ v4_9 ∧ v4_9 ≤ 1) ∧ (1 ≤ I7 31 4) ∧ (a1 = a1) ∧ (a2 = a2) ∧ (I7 23 1 = 0) ∧ (I7 61 3 = 0 ∧ I7 61 15 = 0)) → (gc_SP 31 I7) → gv_X (gc_E12 ws0 tb 97 (yX12_mend, cX12_mend, 10, (some .int)) kX12_mend) Q (107, [(0, .inr (.inr (some 0))), (1, .inl a1), (2, .inl a2), (3, .inr (.inr (some t))), (4, .inl v4_9)], [], sh, gc_h sh I7 J8 A)) : gv_X (gc_E12 ws0 tb 97 (yX12_mend, cX12_mend, 10, (some .int)) kX12_mend) Q (0, [(0, .inr (.inr (some 0))), (1, .inl a1), (2, .inl a2)], [], sh, gc_h sh I J A) := by
  have FI : ∀ q j : Nat, ((q = 61 ∧ j = 3) ∨ (q = 61 ∧ j = 4) ∨ (q = 61 ∧ j = 15) ∨ (q = 48 ∧ j = 3) ∨ (q = 48 ∧ j = 6) ∨ (q = 27 ∧ j = 1) ∨ (q = 31 ∧ j = 1) ∨ q = 32 ∨ (q = 23 ∧ j = 1) ∨ (q = 23 ∧ j = 4) ∨ q = 25 ∨ q = 26 ∨ (q = 31 ∧ j = 4) ∨ q = 33 ∨ q = 34) ∨ I q j = I q j := fun _ _ => Or.inr rfl
  have FJ : ∀ q j : Nat, (False) ∨ J q j = J q j := fun _ _ => Or.inr rfl
  have A_0_1 : A 0 1 = some 23 := gc_bA_0_1 hb
  have A_0_2 : A 0 2 = some 27 := gc_bA_0_2 hb
  have A_0_3 : A 0 3 = some 31 := gc_bA_0_3 hb
  have A_0_6 : A 0 6 = some 48 := gc_bA_0_6 hb
  have A_0_7 : A 0 7 = some 61 := gc_bA_0_7 hb
  have B_0 := gz_hi (show 0 < 1000000 from by decide)
  have B_23 := gz_hi (show 23 < 1000000 from by decide)
  have B_27 := gz_hi (show 27 < 1000000 from by decide)
  have B_31 := gz_hi (show 31 < 1000000 from by decide)
  have B_48 := gz_hi (show 48 < 1000000 from by decide)
  have B_61 := gz_hi (show 61 < 1000000 from by decide)
  have R_23 := gz_hi (show ro 23 = 3 from gc_bR_23 hb)
  have R_27 := gz_hi (show ro 27 = 3 from gc_bR_27 hb)
  have R_31 := gz_hi (show ro 31 = 3 from gc_bR_31 hb)
  have R_61 := gz_hi (show ro 61 = 72 from gc_bR_61 hb)
  have S_0 : sh[0]? = some (false, 12, 17) := gc_bS_0 hb
  have S_23 : sh[23]? = some (false, 9, 10) := gc_bS_23 hb
  have S_27 : sh[27]? = some (false, 9, 10) := gc_bS_27 hb
  have S_31 : sh[31]? = some (false, 9, 10) := gc_bS_31 hb
  have S_48 : sh[48]? = some (false, 0, 22) := gc_bS_48 hb
  have S_61 : sh[61]? = some (false, 5, 19) := gc_bS_61 hb
  obtain ⟨S_t, R_t, B_t, A_t_0, h_t_1, A_t_1, h_t_3, A_t_2, S_t_5, R_t_5, B_t_5, A_t_3, S_t_6, R_t_6, B_t_6, A_t_4, h_t_7, A_t_5, S_t_9, R_t_9, B_t_9, A_t_7, S_t_10, R_t_10, B_t_10, A_t_8, h_t_11, A_t_9, S_t_13, R_t_13, B_t_13, A_t_10, S_t_14, R_t_14, B_t_14, A_t_12, S_t_15, R_t_15, B_t_15, A_t_14, S_t_16, R_t_16, B_t_16, A_t_15, h_t_17⟩ := id h_t
  replace R_t := gz_hi R_t
  replace B_t := gz_hi B_t
  replace R_t_5 := gz_hi R_t_5
  replace B_t_5 := gz_hi B_t_5
  replace R_t_6 := gz_hi R_t_6
  replace B_t_6 := gz_hi B_t_6
  replace R_t_9 := gz_hi R_t_9
  replace B_t_9 := gz_hi B_t_9
  replace R_t_10 := gz_hi R_t_10
  replace B_t_10 := gz_hi B_t_10
  replace R_t_13 := gz_hi R_t_13
  replace B_t_13 := gz_hi B_t_13
  replace R_t_14 := gz_hi R_t_14
  replace B_t_14 := gz_hi B_t_14
  replace R_t_15 := gz_hi R_t_15
  replace B_t_15 := gz_hi B_t_15
  replace R_t_16 := gz_hi R_t_16
  replace B_t_16 := gz_hi B_t_16
  obtain ⟨S_t_1, R_t_1, B_t_1, A_t_1_0, S_t_1_1, R_t_1_1, B_t_1_1, Q0_t_1, Q1_t_1, Q2_t_1⟩ := id h_t_1
  replace R_t_1 := gz_hi R_t_1
  replace B_t_1 := gz_hi B_t_1
  replace R_t_1_1 := gz_hi R_t_1_1
  replace B_t_1_1 := gz_hi B_t_1_1
  obtain ⟨S_t_3, R_t_3, B_t_3, A_t_3_0, S_t_3_1, R_t_3_1, B_t_3_1, Q0_t_3, Q1_t_3, Q2_t_3⟩ := id h_t_3
  replace R_t_3 := gz_hi R_t_3
  replace B_t_3 := gz_hi B_t_3
  replace R_t_3_1 := gz_hi R_t_3_1
  replace B_t_3_1 := gz_hi B_t_3_1
  obtain ⟨S_t_7, R_t_7, B_t_7, A_t_7_0, S_t_7_1, R_t_7_1, B_t_7_1, Q0_t_7, Q1_t_7, Q2_t_7⟩ := id h_t_7
  replace R_t_7 := gz_hi R_t_7
  replace B_t_7 := gz_hi B_t_7
  replace R_t_7_1 := gz_hi R_t_7_1
  replace B_t_7_1 := gz_hi B_t_7_1
  obtain ⟨S_t_11, R_t_11, B_t_11, A_t_11_0, S_t_11_1, R_t_11_1, B_t_11_1, Q0_t_11, Q1_t_11, Q2_t_11⟩ := id h_t_11
  replace R_t_11 := gz_hi R_t_11
  replace B_t_11 := gz_hi B_t_11
  replace R_t_11_1 := gz_hi R_t_11_1
  replace B_t_11_1 := gz_hi B_t_11_1
  obtain ⟨S_t_17, R_t_17, B_t_17, A_t_17_0, S_20, R_20, B_20, A_t_17_1, S_t_17_1, R_t_17_1, B_t_17_1, A_t_17_2, S_t_17_2, R_t_17_2, B_t_17_2, A_t_17_3, S_t_17_3, R_t_17_3, B_t_17_3, A_t_17_4, S_t_17_4, R_t_17_4, B_t_17_4, A_t_17_5, S_t_17_5, R_t_17_5, B_t_17_5, S_t_17_6, R_t_17_6, B_t_17_6, S_t_17_7, R_t_17_7, B_t_17_7⟩ := id h_t_17
  replace R_t_17 := gz_hi R_t_17
  replace B_t_17 := gz_hi B_t_17
  replace R_20 := gz_hi R_20
  replace B_20 := gz_hi B_20
  replace R_t_17_1 := gz_hi R_t_17_1
  replace B_t_17_1 := gz_hi B_t_17_1
  replace R_t_17_2 := gz_hi R_t_17_2
  replace B_t_17_2 := gz_hi B_t_17_2
  replace R_t_17_3 := gz_hi R_t_17_3
  replace B_t_17_3 := gz_hi B_t_17_3
  replace R_t_17_4 := gz_hi R_t_17_4
  replace B_t_17_4 := gz_hi B_t_17_4
  replace R_t_17_5 := gz_hi R_t_17_5
  replace B_t_17_5 := gz_hi B_t_17_5
  replace R_t_17_6 := gz_hi R_t_17_6
  replace B_t_17_6 := gz_hi B_t_17_6
  replace R_t_17_7 := gz_hi R_t_17_7
  replace B_t_17_7 := gz_hi B_t_17_7
  have hD : gv_D (gc_E12 ws0 tb 97 (yX12_mend, cX12_mend, 10, (some .int)) kX12_mend) := gq_of oX12_mend
  have L60 : ∀ (I10 : gr_I) (J11 : gr_J) (s0_12 : Int), gc_Inv ro I10 → (∀ q j : Nat, ((q = 61 ∧ j = 3) ∨ (q = 61 ∧ j = 4) ∨ (q = 61 ∧ j = 15) ∨ (q = 48 ∧ j = 3) ∨ (q = 48 ∧ j = 6) ∨ (q = 27 ∧ j = 1) ∨ (q = 31 ∧ j = 1) ∨ q = 32 ∨ (q = 23 ∧ j = 1) ∨ (q = 23 ∧ j = 4) ∨ q = 25 ∨ q = 26 ∨ (q = 31 ∧ j = 4) ∨ q = 33 ∨ q = 34) ∨ I10 q j = I q j) → (∀ q j : Nat, (False) ∨ J11 q j = J q j) → gc_FN I10 → gc_FZ I10 → ((0 ≤ a1 ∧ a1 ≤ 7) ∧ (0 ≤ a2 ∧ a2 ≤ 31) ∧ (0 ≤ s0_12 ∧ s0_12 ≤ 1) ∧ (a1 = a1) ∧ (a2 = a2) ∧ (I10 61 3 = 0 ∧ I10 61 15 = 0)) → gv_X (gc_E12 ws0 tb 97 (yX12_mend, cX12_mend, 10, (some .int)) kX12_mend) Q (60, [(0, .inr (.inr (some 0))), (1, .inl a1), (2, .inl a2), (3, .inr (.inr (some t)))], [.inl s0_12], sh, gc_h sh I10 J11 A) := by
    intro I10 J11 s0_12 hI10 FI10 FJ11 KFN_I10 KFZ_I10 m_12
    obtain ⟨ha1_12, ha2_12, hs0_12, e0_12, e1_12, e2_12⟩ := gz_h6 m_12
    have L104 : ∀ (I19 : gr_I) (J20 : gr_J) , gc_Inv ro I19 → (∀ q j : Nat, ((q = 61 ∧ j = 3) ∨ (q = 61 ∧ j = 4) ∨ (q = 61 ∧ j = 15) ∨ (q = 48 ∧ j = 3) ∨ (q = 48 ∧ j = 6) ∨ (q = 27 ∧ j = 1) ∨ (q = 31 ∧ j = 1) ∨ q = 32 ∨ (q = 23 ∧ j = 1) ∨ (q = 23 ∧ j = 4) ∨ q = 25 ∨ q = 26 ∨ (q = 31 ∧ j = 4) ∨ q = 33 ∨ q = 34) ∨ I19 q j = I q j) → (∀ q j : Nat, (False) ∨ J20 q j = J q j) → gc_FN I19 → gc_FZ I19 → ((I19 23 1 = 0) ∧ (I19 61 3 = 0 ∧ I19 61 15 = 0)) → gv_X (gc_E12 ws0 tb 97 (yX12_mend, cX12_mend, 10, (some .int)) kX12_mend) Q (104, [], [], sh, gc_h sh I19 J20 A) := by
      intro I19 J20 hI19 FI19 FJ20 KFN_I19 KFZ_I19 m_21
      clear ha1_12 ha2_12 hs0_12 e0_12 e1_12 e2_12
      obtain ⟨e0_21, e1_21⟩ := gz_h2 m_21
      refine gv_run 1 true hD (pcₚ := 106) (lvₚ := []) (stₚ := [.inl (-3)]) (hₚ := gc_h sh I19 J20 A) (C := (True ∧ True)) rfl ⟨trivial, trivial⟩ ?_
      exact gv_Xm hQ (gv_iret hD rfl ⟨I19, J20, rfl, hI19, FI19, FJ20, KFN_I19, KFZ_I19, ⟨_, rfl, by (/-0-/first | (and_intros; (omega); (omega); (have o1 := gz_sh e0_21; omega); (have o1 := gz_sh e1_21; omega); (have o1 := gz_sh e1_21; omega)) | (simp only [gz_hd] at *; omega))⟩⟩)
    refine gv_run 2 true hD (pcₚ := 63) (lvₚ := [(4, .inl s0_12), (0, .inr (.inr (some 0))), (1, .inl a1), (2, .inl a2), (3, .inr (.inr (some t)))]) (stₚ := [.inr (.inr (some 0))]) (hₚ := gc_h sh I10 J11 A) (C := ((True ∧ True) ∧ True)) rfl ⟨⟨trivial, trivial⟩, trivial⟩ ?_
    refine gv_get hD rfl rfl S_0 ⟨by decide, (gz_sh B_0)⟩ (gc_hA S_0 rfl A_0_3) ?_
    show gv_X _ _ (66, [(4, .inl s0_12), (0, .inr (.inr (some 0))), (1, .inl a1), (2, .inl a2), (3, .inr (.inr (some t)))], [.inr (.inr (some 31))], sh, gc_h sh I10 J11 A)
    refine gv_run 1 true hD (pcₚ := 67) (lvₚ := [(4, .inl s0_12), (0, .inr (.inr (some 0))), (1, .inl a1), (2, .inl a2), (3, .inr (.inr (some t)))]) (stₚ := [.inl 0, .inr (.inr (some 31))]) (hₚ := gc_h sh I10 J11 A) (C := (True ∧ True)) rfl ⟨trivial, trivial⟩ ?_
    refine gv_put hD rfl rfl S_31 ⟨by decide, (gz_sh B_31)⟩ rfl trivial ?_
    refine gc_st (k := 1) hI10 S_31 rfl (gz_sh R_31) (lo := 0) (hi := 1000) rfl rfl (by (/-1-/first | omega | (simp only [gz_hd] at *; omega))) (by (/-2-/first | omega | (simp only [gz_hd] at *; omega))) (fun I28 hI28 q29 p29 => ?_)
    have FI28 := gc_frs (W := fun q j => (q = 61 ∧ j = 3) ∨ (q = 61 ∧ j = 4) ∨ (q = 61 ∧ j = 15) ∨ (q = 48 ∧ j = 3) ∨ (q = 48 ∧ j = 6) ∨ (q = 27 ∧ j = 1) ∨ (q = 31 ∧ j = 1) ∨ q = 32 ∨ (q = 23 ∧ j = 1) ∨ (q = 23 ∧ j = 4) ∨ q = 25 ∨ q = 26 ∨ (q = 31 ∧ j = 4) ∨ q = 33 ∨ q = 34) FI10 (Or.inr (Or.inr (Or.inr (Or.inr (Or.inr (Or.inr (Or.inl ⟨rfl, rfl⟩))))))) p29
    have t33 := gz_hi (p29 61 3 (fun h => absurd h.2 (by first | exact gz_ne rfl | decide)))
    have t34 := gz_hi (p29 61 15 (fun h => absurd h.2 (by first | exact gz_ne rfl | decide)))
    have KFN_I28 := gc_FN_fr KFN_I10 (fun k => p29 49 k (fun h => absurd h.1 (by first | exact gz_ne rfl | decide))) (fun k => p29 50 k (fun h => absurd h.1 (by first | exact gz_ne rfl | decide)))
    have KFZ_I28 := gc_FZ_fr KFZ_I10 (p29 2 1 (fun h => absurd h.1 (by first | exact gz_ne rfl | decide))) (fun k => p29 49 k (fun h => absurd h.1 (by first | exact gz_ne rfl | decide))) (fun k => p29 50 k (fun h => absurd h.1 (by first | exact gz_ne rfl | decide)))
    show gv_X _ _ (70, [(4, .inl s0_12), (0, .inr (.inr (some 0))), (1, .inl a1), (2, .inl a2), (3, .inr (.inr (some t)))], [], sh, gc_h sh I28 J11 A)
    refine gv_run 1 true hD (pcₚ := 71) (lvₚ := [(4, .inl s0_12), (0, .inr (.inr (some 0))), (1, .inl a1), (2, .inl a2), (3, .inr (.inr (some t)))]) (stₚ := [.inr (.inr (some 0))]) (hₚ := gc_h sh I28 J11 A) (C := (True ∧ True)) rfl ⟨trivial, trivial⟩ ?_
    refine gv_get hD rfl rfl S_0 ⟨by decide, (gz_sh B_0)⟩ (gc_hA S_0 rfl A_0_3) ?_
    show gv_X _ _ (74, [(4, .inl s0_12), (0, .inr (.inr (some 0))), (1, .inl a1), (2, .inl a2), (3, .inr (.inr (some t)))], [.inr (.inr (some 31))], sh, gc_h sh I28 J11 A)
    refine gv_run 1 true hD (pcₚ := 75) (lvₚ := [(4, .inl s0_12), (0, .inr (.inr (some 0))), (1, .inl a1), (2, .inl a2), (3, .inr (.inr (some t)))]) (stₚ := [.inr (.inr (some 0)), .inr (.inr (some 31))]) (hₚ := gc_h sh I28 J11 A) (C := (True ∧ True)) rfl ⟨trivial, trivial⟩ ?_
    refine gv_get hD rfl rfl S_0 ⟨by decide, (gz_sh B_0)⟩ (gc_hA S_0 rfl A_0_1) ?_
    show gv_X _ _ (78, [(4, .inl s0_12), (0, .inr (.inr (some 0))), (1, .inl a1), (2, .inl a2), (3, .inr (.inr (some t)))], [.inr (.inr (some 23)), .inr (.inr (some 31))], sh, gc_h sh I28 J11 A)
    obtain ⟨r36, h36, E36, P36⟩ := d_X9_putWords (ws0 := ws0) (tb := tb) hws htb sh ro I28 J11 A hI28 31 23 (gc_b31 hb) (gc_b23 hb)    
    obtain ⟨I37, J38, rfl, hI37, g36, k36, rfl⟩ := P36
    have FI37 := gc_frc (W := fun q j => (q = 61 ∧ j = 3) ∨ (q = 61 ∧ j = 4) ∨ (q = 61 ∧ j = 15) ∨ (q = 48 ∧ j = 3) ∨ (q = 48 ∧ j = 6) ∨ (q = 27 ∧ j = 1) ∨ (q = 31 ∧ j = 1) ∨ q = 32 ∨ (q = 23 ∧ j = 1) ∨ (q = 23 ∧ j = 4) ∨ q = 25 ∨ q = 26 ∨ (q = 31 ∧ j = 4) ∨ q = 33 ∨ q = 34) (V := fun q j => (q = 31 ∧ j = 1) ∨ q = 32) FI28 (fun q j h => (h.elim (fun h => (Or.inr (Or.inr (Or.inr (Or.inr (Or.inr (Or.inr (Or.inl h)))))))) (fun h => (Or.inr (Or.inr (Or.inr (Or.inr (Or.inr (Or.inr (Or.inr (Or.inl h))))))))))) g36
    have t42 := gz_hi ((g36 61 3).resolve_left (fun h => h.elim (fun h => absurd h.2 (by first | exact gz_ne rfl | decide)) (fun h => absurd h (by first | exact gz_ne rfl | decide))))
    have t43 := gz_hi ((g36 61 15).resolve_left (fun h => h.elim (fun h => absurd h.2 (by first | exact gz_ne rfl | decide)) (fun h => absurd h (by first | exact gz_ne rfl | decide))))
    obtain rfl : J11 = J38 := funext fun q => funext fun j => ((k36 q j).resolve_left id).symm
    have KFN_I37 := gc_FN_fr KFN_I28 (fun k => (g36 49 k).resolve_left (fun h => h.elim (fun h => absurd h.1 (by first | exact gz_ne rfl | decide)) (fun h => absurd h (by first | exact gz_ne rfl | decide)))) (fun k => (g36 50 k).resolve_left (fun h => h.elim (fun h => absurd h.1 (by first | exact gz_ne rfl | decide)) (fun h => absurd h (by first | exact gz_ne rfl | decide))))
    have KFZ_I37 := gc_FZ_fr KFZ_I28 ((g36 2 1).resolve_left (fun h => h.elim (fun h => absurd h.1 (by first | exact gz_ne rfl | decide)) (fun h => absurd h (by first | exact gz_ne rfl | decide)))) (fun k => (g36 49 k).resolve_left (fun h => h.elim (fun h => absurd h.1 (by first | exact gz_ne rfl | decide)) (fun h => absurd h (by first | exact gz_ne rfl | decide)))) (fun k => (g36 50 k).resolve_left (fun h => h.elim (fun h => absurd h.1 (by first | exact gz_ne rfl | decide)) (fun h => absurd h (by first | exact gz_ne rfl | decide))))
    refine gv_callV hD rfl (As := [.inr (.inr (some 23))]) (st := []) rfl (gz_sh B_31) S_31 rfl (gc_lV12 hws rfl) (Nat.le_of_ble_eq_true rfl) (gz_Ev_mono (d := 5) (by decide) E36) ?_
    show gv_X _ _ (81, [(4, .inl s0_12), (0, .inr (.inr (some 0))), (1, .inl a1), (2, .inl a2), (3, .inr (.inr (some t)))], [], sh, gc_h sh I37 J11 A)
    refine gv_run 1 true hD (pcₚ := 82) (lvₚ := [(4, .inl s0_12), (0, .inr (.inr (some 0))), (1, .inl a1), (2, .inl a2), (3, .inr (.inr (some t)))]) (stₚ := [.inr (.inr (some 0))]) (hₚ := gc_h sh I37 J11 A) (C := (True ∧ True)) rfl ⟨trivial, trivial⟩ ?_
    refine gv_get hD rfl rfl S_0 ⟨by decide, (gz_sh B_0)⟩ (gc_hA S_0 rfl A_0_1) ?_
    show gv_X _ _ (85, [(4, .inl s0_12), (0, .inr (.inr (some 0))), (1, .inl a1), (2, .inl a2), (3, .inr (.inr (some t)))], [.inr (.inr (some 23))], sh, gc_h sh I37 J11 A)
    refine gv_run 1 true hD (pcₚ := 86) (lvₚ := [(4, .inl s0_12), (0, .inr (.inr (some 0))), (1, .inl a1), (2, .inl a2), (3, .inr (.inr (some t)))]) (stₚ := [.inl 0, .inr (.inr (some 23))]) (hₚ := gc_h sh I37 J11 A) (C := (True ∧ True)) rfl ⟨trivial, trivial⟩ ?_
    refine gv_put hD rfl rfl S_23 ⟨by decide, (gz_sh B_23)⟩ rfl trivial ?_
    refine gc_st (k := 1) hI37 S_23 rfl (gz_sh R_23) (lo := 0) (hi := 1000) rfl rfl (by (/-3-/first | omega | (simp only [gz_hd] at *; omega))) (by (/-4-/first | omega | (simp only [gz_hd] at *; omega))) (fun I45 hI45 q46 p46 => ?_)
    have FI45 := gc_frs (W := fun q j => (q = 61 ∧ j = 3) ∨ (q = 61 ∧ j = 4) ∨ (q = 61 ∧ j = 15) ∨ (q = 48 ∧ j = 3) ∨ (q = 48 ∧ j = 6) ∨ (q = 27 ∧ j = 1) ∨ (q = 31 ∧ j = 1) ∨ q = 32 ∨ (q = 23 ∧ j = 1) ∨ (q = 23 ∧ j = 4) ∨ q = 25 ∨ q = 26 ∨ (q = 31 ∧ j = 4) ∨ q = 33 ∨ q = 34) FI37 (Or.inr (Or.inr (Or.inr (Or.inr (Or.inr (Or.inr (Or.inr (Or.inr (Or.inl ⟨rfl, rfl⟩))))))))) p46
    have t50 := gz_hi (p46 61 3 (fun h => absurd h.2 (by first | exact gz_ne rfl | decide)))
    have t51 := gz_hi (p46 61 15 (fun h => absurd h.2 (by first | exact gz_ne rfl | decide)))
    have KFN_I45 := gc_FN_fr KFN_I37 (fun k => p46 49 k (fun h => absurd h.1 (by first | exact gz_ne rfl | decide))) (fun k => p46 50 k (fun h => absurd h.1 (by first | exact gz_ne rfl | decide)))
    have KFZ_I45 := gc_FZ_fr KFZ_I37 (p46 2 1 (fun h => absurd h.1 (by first | exact gz_ne rfl | decide))) (fun k => p46 49 k (fun h => absurd h.1 (by first | exact gz_ne rfl | decide))) (fun k => p46 50 k (fun h => absurd h.1 (by first | exact gz_ne rfl | decide)))
    show gv_X _ _ (89, [(4, .inl s0_12), (0, .inr (.inr (some 0))), (1, .inl a1), (2, .inl a2), (3, .inr (.inr (some t)))], [], sh, gc_h sh I45 J11 A)
    refine gv_run 1 true hD (pcₚ := 90) (lvₚ := [(4, .inl s0_12), (0, .inr (.inr (some 0))), (1, .inl a1), (2, .inl a2), (3, .inr (.inr (some t)))]) (stₚ := [.inr (.inr (some 0))]) (hₚ := gc_h sh I45 J11 A) (C := (True ∧ True)) rfl ⟨trivial, trivial⟩ ?_
    refine gv_get hD rfl rfl S_0 ⟨by decide, (gz_sh B_0)⟩ (gc_hA S_0 rfl A_0_3) ?_
    show gv_X _ _ (93, [(4, .inl s0_12), (0, .inr (.inr (some 0))), (1, .inl a1), (2, .inl a2), (3, .inr (.inr (some t)))], [.inr (.inr (some 31))], sh, gc_h sh I45 J11 A)
    obtain ⟨r53, h53, E53, P53⟩ := d_X9_split (ws0 := ws0) (tb := tb) hws htb sh ro I45 J11 A hI45 31  (gc_b31 hb)     
    obtain ⟨I54, J55, rfl, hI54, g53, k53, ⟨z53, rfl, q53⟩⟩ := P53
    replace q53 := gz_hi q53
    have FI54 := gc_frc (W := fun q j => (q = 61 ∧ j = 3) ∨ (q = 61 ∧ j = 4) ∨ (q = 61 ∧ j = 15) ∨ (q = 48 ∧ j = 3) ∨ (q = 48 ∧ j = 6) ∨ (q = 27 ∧ j = 1) ∨ (q = 31 ∧ j = 1) ∨ q = 32 ∨ (q = 23 ∧ j = 1) ∨ (q = 23 ∧ j = 4) ∨ q = 25 ∨ q = 26 ∨ (q = 31 ∧ j = 4) ∨ q = 33 ∨ q = 34) (V := fun q j => (q = 31 ∧ j = 4) ∨ q = 33 ∨ q = 34) FI45 (fun q j h => (h.elim (fun h => (Or.inr (Or.inr (Or.inr (Or.inr (Or.inr (Or.inr (Or.inr (Or.inr (Or.inr (Or.inr (Or.inr (Or.inr (Or.inl h)))))))))))))) (fun h => (h.elim (fun h => (Or.inr (Or.inr (Or.inr (Or.inr (Or.inr (Or.inr (Or.inr (Or.inr (Or.inr (Or.inr (Or.inr (Or.inr (Or.inr (Or.inl h))))))))))))))) (fun h => (Or.inr (Or.inr (Or.inr (Or.inr (Or.inr (Or.inr (Or.inr (Or.inr (Or.inr (Or.inr (Or.inr (Or.inr (Or.inr (Or.inr h))))))))))))))))))) g53
    have t56 := gz_hi ((g53 23 1).resolve_left (fun h => h.elim (fun h => absurd h.2 (by first | exact gz_ne rfl | decide)) (fun h => h.elim (fun h => absurd h (by first | exact gz_ne rfl | decide)) (fun h => absurd h (by first | exact gz_ne rfl | decide)))))
    have t59 := gz_hi ((g53 61 3).resolve_left (fun h => h.elim (fun h => absurd h.2 (by first | exact gz_ne rfl | decide)) (fun h => h.elim (fun h => absurd h (by first | exact gz_ne rfl | decide)) (fun h => absurd h (by first | exact gz_ne rfl | decide)))))
    have t60 := gz_hi ((g53 61 15).resolve_left (fun h => h.elim (fun h => absurd h.2 (by first | exact gz_ne rfl | decide)) (fun h => h.elim (fun h => absurd h (by first | exact gz_ne rfl | decide)) (fun h => absurd h (by first | exact gz_ne rfl | decide)))))
    have f61 := gz_hi ((gc_b_3_4 hI54 (gz_sh R_31)))
    obtain rfl : J11 = J55 := funext fun q => funext fun j => ((k53 q j).resolve_left id).symm
    have KFN_I54 := gc_FN_fr KFN_I45 (fun k => (g53 49 k).resolve_left (fun h => h.elim (fun h => absurd h.1 (by first | exact gz_ne rfl | decide)) (fun h => h.elim (fun h => absurd h (by first | exact gz_ne rfl | decide)) (fun h => absurd h (by first | exact gz_ne rfl | decide))))) (fun k => (g53 50 k).resolve_left (fun h => h.elim (fun h => absurd h.1 (by first | exact gz_ne rfl | decide)) (fun h => h.elim (fun h => absurd h (by first | exact gz_ne rfl | decide)) (fun h => absurd h (by first | exact gz_ne rfl | decide)))))
    have KFZ_I54 := gc_FZ_fr KFZ_I45 ((g53 2 1).resolve_left (fun h => h.elim (fun h => absurd h.2 (by first | exact gz_ne rfl | decide)) (fun h => h.elim (fun h => absurd h (by first | exact gz_ne rfl | decide)) (fun h => absurd h (by first | exact gz_ne rfl | decide))))) (fun k => (g53 49 k).resolve_left (fun h => h.elim (fun h => absurd h.1 (by first | exact gz_ne rfl | decide)) (fun h => h.elim (fun h => absurd h (by first | exact gz_ne rfl | decide)) (fun h => absurd h (by first | exact gz_ne rfl | decide))))) (fun k => (g53 50 k).resolve_left (fun h => h.elim (fun h => absurd h.1 (by first | exact gz_ne rfl | decide)) (fun h => h.elim (fun h => absurd h (by first | exact gz_ne rfl | decide)) (fun h => absurd h (by first | exact gz_ne rfl | decide)))))
    refine gv_callV hD rfl (As := []) (st := []) rfl (gz_sh B_31) S_31 rfl (gc_lV12 hws rfl) (Nat.le_of_ble_eq_true rfl) (gz_Ev_mono (d := 2) (by decide) E53) ?_
    show gv_X _ _ (96, [(4, .inl s0_12), (0, .inr (.inr (some 0))), (1, .inl a1), (2, .inl a2), (3, .inr (.inr (some t)))], [.inl z53], sh, gc_h sh I54 J11 A)
    refine gv_if_eq (t := 104) hD rfl rfl ⟨by (/-5-/first | (have o1 := gz_sh q53; omega) | (simp only [gz_hd] at *; omega)), by (/-6-/first | (have o1 := gz_sh q53; omega) | (simp only [gz_hd] at *; omega))⟩ (fun c62 => ?_) (fun c62 => ?_)
    · show gv_X _ _ (104, [(4, .inl s0_12), (0, .inr (.inr (some 0))), (1, .inl a1), (2, .inl a2), (3, .inr (.inr (some t)))], [], sh, gc_h sh I54 J11 A)
      refine gv_pick [] rfl ?_
      exact L104 I54 J11 hI54 FI54 FJ11 KFN_I54 KFZ_I54 (by (/-7-/first | (and_intros; (have o1 := gz_sh t56; omega); (have o1 := gz_sh e2_12; have o2 := gz_sh t33; have o3 := gz_sh t42; have o4 := gz_sh t50; have o5 := gz_sh t59; omega); (have o1 := gz_sh e2_12; have o2 := gz_sh t34; have o3 := gz_sh t43; have o4 := gz_sh t51; have o5 := gz_sh t60; omega)) | (simp only [gz_hd] at *; omega)))
    · show gv_X _ _ (99, [(4, .inl s0_12), (0, .inr (.inr (some 0))), (1, .inl a1), (2, .inl a2), (3, .inr (.inr (some t)))], [], sh, gc_h sh I54 J11 A)
      refine gv_run 1 true hD (pcₚ := 101) (lvₚ := [(4, .inl s0_12), (0, .inr (.inr (some 0))), (1, .inl a1), (2, .inl a2), (3, .inr (.inr (some t)))]) (stₚ := [.inl s0_12]) (hₚ := gc_h sh I54 J11 A) (C := (True ∧ True)) rfl ⟨trivial, trivial⟩ ?_
      refine gv_if_ne (t := 107) hD rfl rfl ⟨by (/-8-/first | (have o1 := gz_sh hs0_12; omega) | (simp only [gz_hd] at *; omega)), by (/-9-/first | (have o1 := gz_sh hs0_12; omega) | (simp only [gz_hd] at *; omega))⟩ (fun c63 => ?_) (fun c63 => ?_)
      · show gv_X _ _ (107, [(4, .inl s0_12), (0, .inr (.inr (some 0))), (1, .inl a1), (2, .inl a2), (3, .inr (.inr (some t)))], [], sh, gc_h sh I54 J11 A)
        refine gv_pick [1, 2, 3, 4, 0] rfl ?_
        exact L107 I54 J11 s0_12 hI54 FI54 FJ11 KFN_I54 KFZ_I54 (by (/-10-/first | (and_intros; (omega); (omega); (omega); (omega); (have o1 := gz_sh hs0_12; omega); (have o1 := gz_sh hs0_12; omega); (have o1 := gz_sh q53; omega); (omega); (omega); (have o1 := gz_sh t56; omega); (have o1 := gz_sh e2_12; have o2 := gz_sh t33; have o3 := gz_sh t42; have o4 := gz_sh t50; have o5 := gz_sh t59; omega); (have o1 := gz_sh e2_12; have o2 := gz_sh t34; have o3 := gz_sh t43; have o4 := gz_sh t51; have o5 := gz_sh t60; omega)) | (simp only [gz_hd] at *; omega))) (gz_sh q53).2.2.1
      · show gv_X _ _ (104, [(4, .inl s0_12), (0, .inr (.inr (some 0))), (1, .inl a1), (2, .inl a2), (3, .inr (.inr (some t)))], [], sh, gc_h sh I54 J11 A)
        refine gv_pick [] rfl ?_
        exact L104 I54 J11 hI54 FI54 FJ11 KFN_I54 KFZ_I54 (by (/-11-/first | (and_intros; (have o1 := gz_sh t56; omega); (have o1 := gz_sh e2_12; have o2 := gz_sh t33; have o3 := gz_sh t42; have o4 := gz_sh t50; have o5 := gz_sh t59; omega); (have o1 := gz_sh e2_12; have o2 := gz_sh t34; have o3 := gz_sh t43; have o4 := gz_sh t51; have o5 := gz_sh t60; omega)) | (simp only [gz_hd] at *; omega)))
  have L59 : ∀ (I64 : gr_I) (J65 : gr_J) , gc_Inv ro I64 → (∀ q j : Nat, ((q = 61 ∧ j = 3) ∨ (q = 61 ∧ j = 4) ∨ (q = 61 ∧ j = 15) ∨ (q = 48 ∧ j = 3) ∨ (q = 48 ∧ j = 6) ∨ (q = 27 ∧ j = 1) ∨ (q = 31 ∧ j = 1) ∨ q = 32 ∨ (q = 23 ∧ j = 1) ∨ (q = 23 ∧ j = 4) ∨ q = 25 ∨ q = 26 ∨ (q = 31 ∧ j = 4) ∨ q = 33 ∨ q = 34) ∨ I64 q j = I q j) → (∀ q j : Nat, (False) ∨ J65 q j = J q j) → gc_FN I64 → gc_FZ I64 → ((0 ≤ a1 ∧ a1 ≤ 7) ∧ (0 ≤ a2 ∧ a2 ≤ 31) ∧ (a1 = a1) ∧ (a2 = a2) ∧ (I64 61 3 = 0 ∧ I64 61 15 = 0)) → gv_X (gc_E12 ws0 tb 97 (yX12_mend, cX12_mend, 10, (some .int)) kX12_mend) Q (59, [(0, .inr (.inr (some 0))), (1, .inl a1), (2, .inl a2), (3, .inr (.inr (some t)))], [], sh, gc_h sh I64 J65 A) := by
    intro I64 J65 hI64 FI64 FJ65 KFN_I64 KFZ_I64 m_66
    obtain ⟨ha1_66, ha2_66, e0_66, e1_66, e2_66⟩ := gz_h5 m_66
    refine gv_run 1 true hD (pcₚ := 60) (lvₚ := [(0, .inr (.inr (some 0))), (1, .inl a1), (2, .inl a2), (3, .inr (.inr (some t)))]) (stₚ := [.inl 0]) (hₚ := gc_h sh I64 J65 A) (C := (True ∧ True)) rfl ⟨trivial, trivial⟩ ?_
    exact L60 I64 J65 0 hI64 FI64 FJ65 KFN_I64 KFZ_I64 (by (/-12-/first | (and_intros; (omega); (omega); (omega); (omega); (omega); (omega); (omega); (omega); (have o1 := gz_sh e2_66; omega); (have o1 := gz_sh e2_66; omega)) | (simp only [gz_hd] at *; omega)))
  refine gv_run 2 true hD (pcₚ := 2) (lvₚ := [(0, .inr (.inr (some 0))), (1, .inl a1), (2, .inl a2)]) (stₚ := [.inl a1, .inr (.inr (some 0))]) (hₚ := gc_h sh I J A) (C := ((True ∧ True) ∧ True)) rfl ⟨⟨trivial, trivial⟩, trivial⟩ ?_
  refine gv_callV hD rfl (As := [.inl a1]) (st := []) rfl (gz_sh B_0) S_0 rfl (gc_lV12 hws rfl) (Nat.le_of_ble_eq_true rfl) (gz_Ev_mono (d := 1) (by decide) (d_X12_tongueAt hws htb (J := J) hI hb (by (/-13-/first | omega | (simp only [gz_hd] at *; omega))) (by (/-14-/first | omega | (simp only [gz_hd] at *; omega))) x1)) ?_
  show gv_X _ _ (5, [(0, .inr (.inr (some 0))), (1, .inl a1), (2, .inl a2)], [.inr (.inr (some t))], sh, gc_h sh I J A)
  refine gv_run 3 true hD (pcₚ := 8) (lvₚ := [(3, .inr (.inr (some t))), (0, .inr (.inr (some 0))), (1, .inl a1), (2, .inl a2)]) (stₚ := [.inl a2, .inr (.inr (some 0))]) (hₚ := gc_h sh I J A) (C := (((True ∧ True) ∧ True) ∧ True)) rfl ⟨⟨⟨trivial, trivial⟩, trivial⟩, trivial⟩ ?_
  obtain ⟨r74, h74, E74, P74⟩ := d_X12_checkKind (ws0 := ws0) (tb := tb) hws htb sh ro I J A hI  a2 hb   ⟨by (/-15-/first | omega | (simp only [gz_hd] at *; omega)), by (/-16-/first | omega | (simp only [gz_hd] at *; omega))⟩ (by (/-17-/first | omega | (simp only [gz_hd] at *; omega))) 
  obtain ⟨rfl, rfl⟩ := P74
  refine gv_callV hD rfl (As := [.inl a2]) (st := []) rfl (gz_sh B_0) S_0 rfl (gc_lV12 hws rfl) (Nat.le_of_ble_eq_true rfl) (gz_Ev_mono (d := 1) (by decide) E74) ?_
  show gv_X _ _ (11, [(3, .inr (.inr (some t))), (0, .inr (.inr (some 0))), (1, .inl a1), (2, .inl a2)], [], sh, gc_h sh I J A)
  refine gv_run 1 true hD (pcₚ := 12) (lvₚ := [(3, .inr (.inr (some t))), (0, .inr (.inr (some 0))), (1, .inl a1), (2, .inl a2)]) (stₚ := [.inr (.inr (some 0))]) (hₚ := gc_h sh I J A) (C := (True ∧ True)) rfl ⟨trivial, trivial⟩ ?_
  refine gv_get hD rfl rfl S_0 ⟨by decide, (gz_sh B_0)⟩ (gc_hA S_0 rfl A_0_2) ?_
  show gv_X _ _ (15, [(3, .inr (.inr (some t))), (0, .inr (.inr (some 0))), (1, .inl a1), (2, .inl a2)], [.inr (.inr (some 27))], sh, gc_h sh I J A)
  refine gv_run 1 true hD (pcₚ := 16) (lvₚ := [(3, .inr (.inr (some t))), (0, .inr (.inr (some 0))), (1, .inl a1), (2, .inl a2)]) (stₚ := [.inl 0, .inr (.inr (some 27))]) (hₚ := gc_h sh I J A) (C := (True ∧ True)) rfl ⟨trivial, trivial⟩ ?_
  refine gv_put hD rfl rfl S_27 ⟨by decide, (gz_sh B_27)⟩ rfl trivial ?_
  refine gc_st (k := 1) hI S_27 rfl (gz_sh R_27) (lo := 0) (hi := 1000) rfl rfl (by (/-18-/first | omega | (simp only [gz_hd] at *; omega))) (by (/-19-/first | omega | (simp only [gz_hd] at *; omega))) (fun I75 hI75 q76 p76 => ?_)
  have FI75 := gc_frs (W := fun q j => (q = 61 ∧ j = 3) ∨ (q = 61 ∧ j = 4) ∨ (q = 61 ∧ j = 15) ∨ (q = 48 ∧ j = 3) ∨ (q = 48 ∧ j = 6) ∨ (q = 27 ∧ j = 1) ∨ (q = 31 ∧ j = 1) ∨ q = 32 ∨ (q = 23 ∧ j = 1) ∨ (q = 23 ∧ j = 4) ∨ q = 25 ∨ q = 26 ∨ (q = 31 ∧ j = 4) ∨ q = 33 ∨ q = 34) FI (Or.inr (Or.inr (Or.inr (Or.inr (Or.inr (Or.inl ⟨rfl, rfl⟩)))))) p76
  have KFN_I75 := gc_FN_fr KFN_I (fun k => p76 49 k (fun h => absurd h.1 (by first | exact gz_ne rfl | decide))) (fun k => p76 50 k (fun h => absurd h.1 (by first | exact gz_ne rfl | decide)))
  have KFZ_I75 := gc_FZ_fr KFZ_I (p76 2 1 (fun h => absurd h.1 (by first | exact gz_ne rfl | decide))) (fun k => p76 49 k (fun h => absurd h.1 (by first | exact gz_ne rfl | decide))) (fun k => p76 50 k (fun h => absurd h.1 (by first | exact gz_ne rfl | decide)))
  show gv_X _ _ (19, [(3, .inr (.inr (some t))), (0, .inr (.inr (some 0))), (1, .inl a1), (2, .inl a2)], [], sh, gc_h sh I75 J A)
  refine gv_run 1 true hD (pcₚ := 20) (lvₚ := [(3, .inr (.inr (some t))), (0, .inr (.inr (some 0))), (1, .inl a1), (2, .inl a2)]) (stₚ := [.inr (.inr (some 0))]) (hₚ := gc_h sh I75 J A) (C := (True ∧ True)) rfl ⟨trivial, trivial⟩ ?_
  refine gv_get hD rfl rfl S_0 ⟨by decide, (gz_sh B_0)⟩ (gc_hA S_0 rfl A_0_7) ?_
  show gv_X _ _ (23, [(3, .inr (.inr (some t))), (0, .inr (.inr (some 0))), (1, .inl a1), (2, .inl a2)], [.inr (.inr (some 61))], sh, gc_h sh I75 J A)
  obtain ⟨r83, h83, E83, P83⟩ := d_X5_close (ws0 := ws0) (tb := tb) hws htb sh ro I75 J A hI75   hb     
  obtain ⟨I84, J85, rfl, hI84, g83, k83, ⟨rfl, q83⟩⟩ := P83
  replace q83 := gz_hi q83
  have FI84 := gc_frc (W := fun q j => (q = 61 ∧ j = 3) ∨ (q = 61 ∧ j = 4) ∨ (q = 61 ∧ j = 15) ∨ (q = 48 ∧ j = 3) ∨ (q = 48 ∧ j = 6) ∨ (q = 27 ∧ j = 1) ∨ (q = 31 ∧ j = 1) ∨ q = 32 ∨ (q = 23 ∧ j = 1) ∨ (q = 23 ∧ j = 4) ∨ q = 25 ∨ q = 26 ∨ (q = 31 ∧ j = 4) ∨ q = 33 ∨ q = 34) (V := fun q j => (q = 61 ∧ j = 3) ∨ (q = 61 ∧ j = 4) ∨ (q = 61 ∧ j = 15)) FI75 (fun q j h => (h.elim (fun h => (Or.inl h)) (fun h => (h.elim (fun h => (Or.inr (Or.inl h))) (fun h => (Or.inr (Or.inr (Or.inl h)))))))) g83
  obtain rfl : J = J85 := funext fun q => funext fun j => ((k83 q j).resolve_left id).symm
  have KFN_I84 := gc_FN_fr KFN_I75 (fun k => (g83 49 k).resolve_left (fun h => h.elim (fun h => absurd h.1 (by first | exact gz_ne rfl | decide)) (fun h => h.elim (fun h => absurd h.1 (by first | exact gz_ne rfl | decide)) (fun h => absurd h.1 (by first | exact gz_ne rfl | decide))))) (fun k => (g83 50 k).resolve_left (fun h => h.elim (fun h => absurd h.1 (by first | exact gz_ne rfl | decide)) (fun h => h.elim (fun h => absurd h.1 (by first | exact gz_ne rfl | decide)) (fun h => absurd h.1 (by first | exact gz_ne rfl | decide)))))
  have KFZ_I84 := gc_FZ_fr KFZ_I75 ((g83 2 1).resolve_left (fun h => h.elim (fun h => absurd h.2 (by first | exact gz_ne rfl | decide)) (fun h => h.elim (fun h => absurd h.2 (by first | exact gz_ne rfl | decide)) (fun h => absurd h.2 (by first | exact gz_ne rfl | decide))))) (fun k => (g83 49 k).resolve_left (fun h => h.elim (fun h => absurd h.1 (by first | exact gz_ne rfl | decide)) (fun h => h.elim (fun h => absurd h.1 (by first | exact gz_ne rfl | decide)) (fun h => absurd h.1 (by first | exact gz_ne rfl | decide))))) (fun k => (g83 50 k).resolve_left (fun h => h.elim (fun h => absurd h.1 (by first | exact gz_ne rfl | decide)) (fun h => h.elim (fun h => absurd h.1 (by first | exact gz_ne rfl | decide)) (fun h => absurd h.1 (by first | exact gz_ne rfl | decide)))))
  refine gv_callV hD rfl (As := []) (st := []) rfl (gz_sh B_61) S_61 rfl (gc_lV12 hws rfl) (Nat.le_of_ble_eq_true rfl) (gz_Ev_mono (d := 1) (by decide) E83) ?_
  show gv_X _ _ (26, [(3, .inr (.inr (some t))), (0, .inr (.inr (some 0))), (1, .inl a1), (2, .inl a2)], [], sh, gc_h sh I84 J A)
  refine gv_run 1 true hD (pcₚ := 27) (lvₚ := [(3, .inr (.inr (some t))), (0, .inr (.inr (some 0))), (1, .inl a1), (2, .inl a2)]) (stₚ := [.inr (.inr (some 0))]) (hₚ := gc_h sh I84 J A) (C := (True ∧ True)) rfl ⟨trivial, trivial⟩ ?_
  refine gv_get hD rfl rfl S_0 ⟨by decide, (gz_sh B_0)⟩ (gc_hA S_0 rfl A_0_6) ?_
  show gv_X _ _ (30, [(3, .inr (.inr (some t))), (0, .inr (.inr (some 0))), (1, .inl a1), (2, .inl a2)], [.inr (.inr (some 48))], sh, gc_h sh I84 J A)
  obtain ⟨r92, h92, E92, P92⟩ := d_X0_forget (ws0 := ws0) (tb := tb) hws htb sh ro I84 J A hI84   hb     
  obtain ⟨I93, J94, rfl, hI93, g92, k92, ⟨rfl, q92⟩⟩ := P92
  replace q92 := gz_hi q92
  have FI93 := gc_frc (W := fun q j => (q = 61 ∧ j = 3) ∨ (q = 61 ∧ j = 4) ∨ (q = 61 ∧ j = 15) ∨ (q = 48 ∧ j = 3) ∨ (q = 48 ∧ j = 6) ∨ (q = 27 ∧ j = 1) ∨ (q = 31 ∧ j = 1) ∨ q = 32 ∨ (q = 23 ∧ j = 1) ∨ (q = 23 ∧ j = 4) ∨ q = 25 ∨ q = 26 ∨ (q = 31 ∧ j = 4) ∨ q = 33 ∨ q = 34) (V := fun q j => (q = 48 ∧ j = 3) ∨ (q = 48 ∧ j = 6)) FI84 (fun q j h => (h.elim (fun h => (Or.inr (Or.inr (Or.inr (Or.inl h))))) (fun h => (Or.inr (Or.inr (Or.inr (Or.inr (Or.inl h)))))))) g92
  have t99 := gz_hi ((g92 61 3).resolve_left (fun h => h.elim (fun h => absurd h.1 (by first | exact gz_ne rfl | decide)) (fun h => absurd h.2 (by first | exact gz_ne rfl | decide))))
  have t100 := gz_hi ((g92 61 15).resolve_left (fun h => h.elim (fun h => absurd h.2 (by first | exact gz_ne rfl | decide)) (fun h => absurd h.2 (by first | exact gz_ne rfl | decide))))
  obtain rfl : J = J94 := funext fun q => funext fun j => ((k92 q j).resolve_left id).symm
  have KFN_I93 := gc_FN_fr KFN_I84 (fun k => (g92 49 k).resolve_left (fun h => h.elim (fun h => absurd h.1 (by first | exact gz_ne rfl | decide)) (fun h => absurd h.1 (by first | exact gz_ne rfl | decide)))) (fun k => (g92 50 k).resolve_left (fun h => h.elim (fun h => absurd h.1 (by first | exact gz_ne rfl | decide)) (fun h => absurd h.1 (by first | exact gz_ne rfl | decide))))
  have KFZ_I93 := gc_FZ_fr KFZ_I84 ((g92 2 1).resolve_left (fun h => h.elim (fun h => absurd h.2 (by first | exact gz_ne rfl | decide)) (fun h => absurd h.2 (by first | exact gz_ne rfl | decide)))) (fun k => (g92 49 k).resolve_left (fun h => h.elim (fun h => absurd h.1 (by first | exact gz_ne rfl | decide)) (fun h => absurd h.1 (by first | exact gz_ne rfl | decide)))) (fun k => (g92 50 k).resolve_left (fun h => h.elim (fun h => absurd h.1 (by first | exact gz_ne rfl | decide)) (fun h => absurd h.1 (by first | exact gz_ne rfl | decide))))
  refine gv_callV hD rfl (As := []) (st := []) rfl (gz_sh B_48) S_48 rfl (gc_lV12 hws rfl) (Nat.le_of_ble_eq_true rfl) (gz_Ev_mono (d := 1) (by decide) E92) ?_
  show gv_X _ _ (33, [(3, .inr (.inr (some t))), (0, .inr (.inr (some 0))), (1, .inl a1), (2, .inl a2)], [], sh, gc_h sh I93 J A)
  refine gv_run 1 true hD (pcₚ := 34) (lvₚ := [(3, .inr (.inr (some t))), (0, .inr (.inr (some 0))), (1, .inl a1), (2, .inl a2)]) (stₚ := [.inr (.inr (some 0))]) (hₚ := gc_h sh I93 J A) (C := (True ∧ True)) rfl ⟨trivial, trivial⟩ ?_
  refine gv_get hD rfl rfl S_0 ⟨by decide, (gz_sh B_0)⟩ (gc_hA S_0 rfl A_0_1) ?_
  show gv_X _ _ (37, [(3, .inr (.inr (some t))), (0, .inr (.inr (some 0))), (1, .inl a1), (2, .inl a2)], [.inr (.inr (some 23))], sh, gc_h sh I93 J A)
  obtain ⟨r101, h101, E101, P101⟩ := d_X9_split (ws0 := ws0) (tb := tb) hws htb sh ro I93 J A hI93 23  (gc_b23 hb)     
  obtain ⟨I102, J103, rfl, hI102, g101, k101, ⟨z101, rfl, q101⟩⟩ := P101
  replace q101 := gz_hi q101
  have FI102 := gc_frc (W := fun q j => (q = 61 ∧ j = 3) ∨ (q = 61 ∧ j = 4) ∨ (q = 61 ∧ j = 15) ∨ (q = 48 ∧ j = 3) ∨ (q = 48 ∧ j = 6) ∨ (q = 27 ∧ j = 1) ∨ (q = 31 ∧ j = 1) ∨ q = 32 ∨ (q = 23 ∧ j = 1) ∨ (q = 23 ∧ j = 4) ∨ q = 25 ∨ q = 26 ∨ (q = 31 ∧ j = 4) ∨ q = 33 ∨ q = 34) (V := fun q j => (q = 23 ∧ j = 4) ∨ q = 25 ∨ q = 26) FI93 (fun q j h => (h.elim (fun h => (Or.inr (Or.inr (Or.inr (Or.inr (Or.inr (Or.inr (Or.inr (Or.inr (Or.inr (Or.inl h))))))))))) (fun h => (h.elim (fun h => (Or.inr (Or.inr (Or.inr (Or.inr (Or.inr (Or.inr (Or.inr (Or.inr (Or.inr (Or.inr (Or.inl h)))))))))))) (fun h => (Or.inr (Or.inr (Or.inr (Or.inr (Or.inr (Or.inr (Or.inr (Or.inr (Or.inr (Or.inr (Or.inr (Or.inl h))))))))))))))))) g101
  have t107 := gz_hi ((g101 61 3).resolve_left (fun h => h.elim (fun h => absurd h.2 (by first | exact gz_ne rfl | decide)) (fun h => h.elim (fun h => absurd h (by first | exact gz_ne rfl | decide)) (fun h => absurd h (by first | exact gz_ne rfl | decide)))))
  have t108 := gz_hi ((g101 61 15).resolve_left (fun h => h.elim (fun h => absurd h.2 (by first | exact gz_ne rfl | decide)) (fun h => h.elim (fun h => absurd h (by first | exact gz_ne rfl | decide)) (fun h => absurd h (by first | exact gz_ne rfl | decide)))))
  have f109 := gz_hi ((gc_b_3_4 hI102 (gz_sh R_23)))
  obtain rfl : J = J103 := funext fun q => funext fun j => ((k101 q j).resolve_left id).symm
  have KFN_I102 := gc_FN_fr KFN_I93 (fun k => (g101 49 k).resolve_left (fun h => h.elim (fun h => absurd h.1 (by first | exact gz_ne rfl | decide)) (fun h => h.elim (fun h => absurd h (by first | exact gz_ne rfl | decide)) (fun h => absurd h (by first | exact gz_ne rfl | decide))))) (fun k => (g101 50 k).resolve_left (fun h => h.elim (fun h => absurd h.1 (by first | exact gz_ne rfl | decide)) (fun h => h.elim (fun h => absurd h (by first | exact gz_ne rfl | decide)) (fun h => absurd h (by first | exact gz_ne rfl | decide)))))
  have KFZ_I102 := gc_FZ_fr KFZ_I93 ((g101 2 1).resolve_left (fun h => h.elim (fun h => absurd h.2 (by first | exact gz_ne rfl | decide)) (fun h => h.elim (fun h => absurd h (by first | exact gz_ne rfl | decide)) (fun h => absurd h (by first | exact gz_ne rfl | decide))))) (fun k => (g101 49 k).resolve_left (fun h => h.elim (fun h => absurd h.1 (by first | exact gz_ne rfl | decide)) (fun h => h.elim (fun h => absurd h (by first | exact gz_ne rfl | decide)) (fun h => absurd h (by first | exact gz_ne rfl | decide))))) (fun k => (g101 50 k).resolve_left (fun h => h.elim (fun h => absurd h.1 (by first | exact gz_ne rfl | decide)) (fun h => h.elim (fun h => absurd h (by first | exact gz_ne rfl | decide)) (fun h => absurd h (by first | exact gz_ne rfl | decide)))))
  refine gv_callV hD rfl (As := []) (st := []) rfl (gz_sh B_23) S_23 rfl (gc_lV12 hws rfl) (Nat.le_of_ble_eq_true rfl) (gz_Ev_mono (d := 2) (by decide) E101) ?_
  show gv_X _ _ (40, [(3, .inr (.inr (some t))), (0, .inr (.inr (some 0))), (1, .inl a1), (2, .inl a2)], [.inl z101], sh, gc_h sh I102 J A)
  refine gv_if_eq (t := 59) hD rfl rfl ⟨by (/-20-/first | (have o1 := gz_sh q101; omega) | (simp only [gz_hd] at *; omega)), by (/-21-/first | (have o1 := gz_sh q101; omega) | (simp only [gz_hd] at *; omega))⟩ (fun c110 => ?_) (fun c110 => ?_)
  · show gv_X _ _ (59, [(3, .inr (.inr (some t))), (0, .inr (.inr (some 0))), (1, .inl a1), (2, .inl a2)], [], sh, gc_h sh I102 J A)
    refine gv_pick [1, 2, 3, 0] rfl ?_
    exact L59 I102 J hI102 FI102 FJ KFN_I102 KFZ_I102 (by (/-22-/first | (and_intros; (omega); (omega); (omega); (omega); (omega); (omega); (have o1 := gz_sh q83; have o2 := gz_sh t107; have o3 := gz_sh t99; omega); (have o1 := gz_sh q83; have o2 := gz_sh t100; have o3 := gz_sh t108; omega)) | (simp only [gz_hd] at *; omega)))
  · show gv_X _ _ (43, [(3, .inr (.inr (some t))), (0, .inr (.inr (some 0))), (1, .inl a1), (2, .inl a2)], [], sh, gc_h sh I102 J A)
    refine gv_run 1 true hD (pcₚ := 44) (lvₚ := [(3, .inr (.inr (some t))), (0, .inr (.inr (some 0))), (1, .inl a1), (2, .inl a2)]) (stₚ := [.inr (.inr (some 0))]) (hₚ := gc_h sh I102 J A) (C := (True ∧ True)) rfl ⟨trivial, trivial⟩ ?_
    refine gv_get hD rfl rfl S_0 ⟨by decide, (gz_sh B_0)⟩ (gc_hA S_0 rfl A_0_1) ?_
    show gv_X _ _ (47, [(3, .inr (.inr (some t))), (0, .inr (.inr (some 0))), (1, .inl a1), (2, .inl a2)], [.inr (.inr (some 23))], sh, gc_h sh I102 J A)
    refine gv_get hD rfl rfl S_23 ⟨by decide, (gz_sh B_23)⟩ (gc_hI S_23 rfl) ?_
    show gv_X _ _ (50, [(3, .inr (.inr (some t))), (0, .inr (.inr (some 0))), (1, .inl a1), (2, .inl a2)], [.inl (I102 23 4)], sh, gc_h sh I102 J A)
    refine gv_run 1 true hD (pcₚ := 52) (lvₚ := [(3, .inr (.inr (some t))), (0, .inr (.inr (some 0))), (1, .inl a1), (2, .inl a2)]) (stₚ := [.inl 12, .inl (I102 23 4)]) (hₚ := gc_h sh I102 J A) (C := (True ∧ True)) rfl ⟨trivial, trivial⟩ ?_
    refine gv_icmp_gt (t := 59) hD rfl rfl ⟨⟨by (/-23-/first | (have o1 := gz_sh f109; omega) | (simp only [gz_hd] at *; omega)), by (/-24-/first | (have o1 := gz_sh f109; omega) | (simp only [gz_hd] at *; omega))⟩, ⟨by (/-25-/first | omega | (simp only [gz_hd] at *; omega)), by (/-26-/first | omega | (simp only [gz_hd] at *; omega))⟩⟩ (fun c112 => ?_) (fun c112 => ?_)
    · show gv_X _ _ (59, [(3, .inr (.inr (some t))), (0, .inr (.inr (some 0))), (1, .inl a1), (2, .inl a2)], [], sh, gc_h sh I102 J A)
      refine gv_pick [1, 2, 3, 0] rfl ?_
      exact L59 I102 J hI102 FI102 FJ KFN_I102 KFZ_I102 (by (/-27-/first | (and_intros; (omega); (omega); (omega); (omega); (omega); (omega); (have o1 := gz_sh q83; have o2 := gz_sh t107; have o3 := gz_sh t99; omega); (have o1 := gz_sh q83; have o2 := gz_sh t100; have o3 := gz_sh t108; omega)) | (simp only [gz_hd] at *; omega)))
    · show gv_X _ _ (55, [(3, .inr (.inr (some t))), (0, .inr (.inr (some 0))), (1, .inl a1), (2, .inl a2)], [], sh, gc_h sh I102 J A)
      refine gv_run 2 true hD (pcₚ := 60) (lvₚ := [(3, .inr (.inr (some t))), (0, .inr (.inr (some 0))), (1, .inl a1), (2, .inl a2)]) (stₚ := [.inl 1]) (hₚ := gc_h sh I102 J A) (C := ((True ∧ True) ∧ True)) rfl ⟨⟨trivial, trivial⟩, trivial⟩ ?_
      refine gv_pick [1, 2, 3, 0] rfl ?_
      exact L60 I102 J 1 hI102 FI102 FJ KFN_I102 KFZ_I102 (by (/-28-/first | (and_intros; (omega); (omega); (omega); (omega); (omega); (omega); (omega); (omega); (have o1 := gz_sh q83; have o2 := gz_sh t107; have o3 := gz_sh t99; omega); (have o1 := gz_sh q83; have o2 := gz_sh t100; have o3 := gz_sh t108; omega)) | (simp only [gz_hd] at *; omega)))
