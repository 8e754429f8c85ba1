set_option maxHeartbeats 4000000 in
set_option maxRecDepth 100000 in
theorem d_X12_swap_n {ws0 : List Cond} {tb : String → gz_T} (hws : gc_Ws ws0) (htb : gc_tbs tb) (sh : gz_Sh) (ro : Nat → Nat) (I : gr_I) (J : gr_J) (A : gc_A) (hI : gc_Inv ro I) (σ : Nat → Int) (ς : Nat → Int → Int) (a1 : Int) (a2 : Int) (a3 : Int) (a4 : Nat) (a5 : Nat) (a6 : Int) (a7 : Int) (a8 : Int) (hb : gc_Base sh ro A) (h_a4 : gc_isTongue sh ro A a4) (G_a4 : 144 ≤ a4) (h_a5 : gc_isTongue sh ro A a5) (G_a5 : 144 ≤ a5) (ha1 : 0 ≤ a1 ∧ a1 ≤ 7) (ha2 : 0 ≤ a2 ∧ a2 ≤ 31) (ha3 : 0 ≤ a3 ∧ a3 ≤ 7) (ha6 : 0 ≤ a6 ∧ a6 ≤ 1) (ha7 : 0 ≤ a7 ∧ a7 ≤ 15) (ha8 : 1 ≤ a8 ∧ a8 ≤ 60) (x0 : gc_wtr I 123 a8) (x1 : gc_Ls sh ro A a5 I) (x2 : gc_LP σ ς A a5 I) (x3 : gc_SO A a5 I) (x4 : gc_AG A a5 I) {Q : gz_S → Prop} (L62 : ∀ (I3 : gr_I) (J4 : gr_J) (v7_5 : Int), gc_Inv ro I3 → (∀ q j : Nat, ((q = 74 ∧ j = 1) ∨ (q = 74 ∧ j = 9) ∨ q = 22 ∨ q = 75 ∨ q = 76 ∨ q = 77 ∨ q = 78 ∨ q = 79 ∨ q = 80 ∨ q = 81 ∨ q = 82 ∨ q = 83 ∨ q = 84 ∨ q = 85 ∨ (q = 35 ∧ j = 1) ∨ q = 36 ∨ (126 ≤ q ∧ q ≤ 141) ∨ q = 142 ∨ (q = 0 ∧ j = 15)) ∨ I3 q j = I q j) → (∀ q j : Nat, (False) ∨ J4 q j = J q j) → ((0 ≤ a1 ∧ a1 ≤ 7) ∧ (0 ≤ a2 ∧ a2 ≤ 31) ∧ (0 ≤ a3 ∧ a3 ≤ 7) ∧ (0 ≤ a6 ∧ a6 ≤ 1) ∧ (1 ≤ v7_5 ∧ v7_5 ≤ 16) ∧ (v7_5 = a7 + 1) ∧ (I3 74 1 = (a5 : Int))) → gv_X (gc_E12 ws0 tb 97 (yX12_swap, cX12_swap, 9, (some .int)) kX12_swap) Q (62, [(0, .inr (.inr (some 0))), (1, .inl a1), (2, .inl a2), (3, .inl a3), (4, .inr (.inr (some a4))), (5, .inr (.inr (some a5))), (6, .inl a6), (7, .inl v7_5)], [], sh, gc_h sh I3 J4 A)) : gv_X (gc_E12 ws0 tb 97 (yX12_swap, cX12_swap, 9, (some .int)) kX12_swap) Q (92, [(0, .inr (.inr (some 0))), (1, .inl a1), (2, .inl a2), (3, .inl a3), (4, .inr (.inr (some a4))), (5, .inr (.inr (some a5))), (6, .inl a6), (7, .inl a7), (8, .inl a8)], [], sh, gc_h sh I J A) := by
  have FI : ∀ q j : Nat, ((q = 74 ∧ j = 1) ∨ (q = 74 ∧ j = 9) ∨ q = 22 ∨ q = 75 ∨ q = 76 ∨ q = 77 ∨ q = 78 ∨ q = 79 ∨ q = 80 ∨ q = 81 ∨ q = 82 ∨ q = 83 ∨ q = 84 ∨ q = 85 ∨ (q = 35 ∧ j = 1) ∨ q = 36 ∨ (126 ≤ q ∧ q ≤ 141) ∨ q = 142 ∨ (q = 0 ∧ j = 15)) ∨ I q j = I q j := fun _ _ => Or.inr rfl
  have FJ : ∀ q j : Nat, (False) ∨ J q j = J q j := fun _ _ => Or.inr rfl
  have A_0_11 : A 0 11 = some 114 := gc_bA hb rfl
  have A_0_4 : A 0 4 = some 35 := gc_bA hb rfl
  have A_0_8 : A 0 8 = some 74 := gc_bA hb rfl
  have B_0 : 0 < 1000000 := by decide
  have B_114 : 114 < 1000000 := by decide
  have B_123 : 123 < 1000000 := by decide
  have B_35 : 35 < 1000000 := by decide
  have B_74 : 74 < 1000000 := by decide
  have R_123 : ro 123 = 37 := gc_bR hb (by decide) rfl
  have R_35 : ro 35 = 3 := gc_bR hb (by decide) rfl
  have R_74 : ro 74 = 73 := gc_bR hb (by decide) rfl
  have S_0 : sh[0]? = some (false, 12, 17) := gc_bS hb rfl
  have S_114 : sh[114]? = some (true, 7, 9) := gc_bS hb rfl
  have S_123 : sh[123]? = some (true, 1, 60) := gc_bS hb rfl
  have S_35 : sh[35]? = some (false, 9, 10) := gc_bS hb rfl
  have S_74 : sh[74]? = some (false, 7, 14) := gc_bS hb rfl
  obtain ⟨S_a4, R_a4, B_a4, A_a4_0, h_a4_1, A_a4_1, h_a4_3, A_a4_2, S_a4_5, R_a4_5, B_a4_5, A_a4_3, S_a4_6, R_a4_6, B_a4_6, A_a4_4, h_a4_7, A_a4_5, S_a4_9, R_a4_9, B_a4_9, A_a4_7, S_a4_10, R_a4_10, B_a4_10, A_a4_8, h_a4_11, A_a4_9, S_a4_13, R_a4_13, B_a4_13, A_a4_10, S_a4_14, R_a4_14, B_a4_14, A_a4_12, S_a4_15, R_a4_15, B_a4_15, A_a4_14, S_a4_16, R_a4_16, B_a4_16, A_a4_15, h_a4_17⟩ := id h_a4
  obtain ⟨S_a4_1, R_a4_1, B_a4_1, A_a4_1_0, S_a4_1_1, R_a4_1_1, B_a4_1_1, Q0_a4_1, Q1_a4_1, Q2_a4_1⟩ := id h_a4_1
  obtain ⟨S_a4_3, R_a4_3, B_a4_3, A_a4_3_0, S_a4_3_1, R_a4_3_1, B_a4_3_1, Q0_a4_3, Q1_a4_3, Q2_a4_3⟩ := id h_a4_3
  obtain ⟨S_a4_7, R_a4_7, B_a4_7, A_a4_7_0, S_a4_7_1, R_a4_7_1, B_a4_7_1, Q0_a4_7, Q1_a4_7, Q2_a4_7⟩ := id h_a4_7
  obtain ⟨S_a4_11, R_a4_11, B_a4_11, A_a4_11_0, S_a4_11_1, R_a4_11_1, B_a4_11_1, Q0_a4_11, Q1_a4_11, Q2_a4_11⟩ := id h_a4_11
  obtain ⟨S_a4_17, R_a4_17, B_a4_17, A_a4_17_0, S_20, R_20, B_20, A_a4_17_1, S_a4_17_1, R_a4_17_1, B_a4_17_1, A_a4_17_2, S_a4_17_2, R_a4_17_2, B_a4_17_2, A_a4_17_3, S_a4_17_3, R_a4_17_3, B_a4_17_3, A_a4_17_4, S_a4_17_4, R_a4_17_4, B_a4_17_4, A_a4_17_5, S_a4_17_5, R_a4_17_5, B_a4_17_5, S_a4_17_6, R_a4_17_6, B_a4_17_6, S_a4_17_7, R_a4_17_7, B_a4_17_7⟩ := id h_a4_17
  obtain ⟨S_a5, R_a5, B_a5, A_a5_0, h_a5_1, A_a5_1, h_a5_3, A_a5_2, S_a5_5, R_a5_5, B_a5_5, A_a5_3, S_a5_6, R_a5_6, B_a5_6, A_a5_4, h_a5_7, A_a5_5, S_a5_9, R_a5_9, B_a5_9, A_a5_7, S_a5_10, R_a5_10, B_a5_10, A_a5_8, h_a5_11, A_a5_9, S_a5_13, R_a5_13, B_a5_13, A_a5_10, S_a5_14, R_a5_14, B_a5_14, A_a5_12, S_a5_15, R_a5_15, B_a5_15, A_a5_14, S_a5_16, R_a5_16, B_a5_16, A_a5_15, h_a5_17⟩ := id h_a5
  obtain ⟨S_a5_1, R_a5_1, B_a5_1, A_a5_1_0, S_a5_1_1, R_a5_1_1, B_a5_1_1, Q0_a5_1, Q1_a5_1, Q2_a5_1⟩ := id h_a5_1
  obtain ⟨S_a5_3, R_a5_3, B_a5_3, A_a5_3_0, S_a5_3_1, R_a5_3_1, B_a5_3_1, Q0_a5_3, Q1_a5_3, Q2_a5_3⟩ := id h_a5_3
  obtain ⟨S_a5_7, R_a5_7, B_a5_7, A_a5_7_0, S_a5_7_1, R_a5_7_1, B_a5_7_1, Q0_a5_7, Q1_a5_7, Q2_a5_7⟩ := id h_a5_7
  obtain ⟨S_a5_11, R_a5_11, B_a5_11, A_a5_11_0, S_a5_11_1, R_a5_11_1, B_a5_11_1, Q0_a5_11, Q1_a5_11, Q2_a5_11⟩ := id h_a5_11
  obtain ⟨S_a5_17, R_a5_17, B_a5_17, A_a5_17_0, S_20, R_20, B_20, A_a5_17_1, S_a5_17_1, R_a5_17_1, B_a5_17_1, A_a5_17_2, S_a5_17_2, R_a5_17_2, B_a5_17_2, A_a5_17_3, S_a5_17_3, R_a5_17_3, B_a5_17_3, A_a5_17_4, S_a5_17_4, R_a5_17_4, B_a5_17_4, A_a5_17_5, S_a5_17_5, R_a5_17_5, B_a5_17_5, S_a5_17_6, R_a5_17_6, B_a5_17_6, S_a5_17_7, R_a5_17_7, B_a5_17_7⟩ := id h_a5_17
  have hD : gv_D (gc_E12 ws0 tb 97 (yX12_swap, cX12_swap, 9, (some .int)) kX12_swap) := gq_ok oX12_swap
  have N_a5__22 : ¬ (a5 = 22) := by omega
  have N_a5__75 : ¬ (a5 = 75) := by omega
  have N_a5__76 : ¬ (a5 = 76) := by omega
  have N_a5__77 : ¬ (a5 = 77) := by omega
  have N_a5__78 : ¬ (a5 = 78) := by omega
  have N_a5__79 : ¬ (a5 = 79) := by omega
  have N_a5__80 : ¬ (a5 = 80) := by omega
  have N_a5__81 : ¬ (a5 = 81) := by omega
  have N_a5__82 : ¬ (a5 = 82) := by omega
  have N_a5__83 : ¬ (a5 = 83) := by omega
  have N_a5__84 : ¬ (a5 = 84) := by omega
  have N_a5__85 : ¬ (a5 = 85) := by omega
  have N_a5__36 : ¬ (a5 = 36) := by omega
  have f1 := (show 0 ≤ I a5 13 ∧ I a5 13 ≤ 384 from gc_in hI R_a5 rfl rfl)
  have f2 := (show (-1) ≤ I 74 1 ∧ I 74 1 ≤ 999999 from gc_in hI R_74 rfl rfl)
  have L137 : ∀ (I6 : gr_I) (J7 : gr_J) , gc_Inv ro I6 → (∀ q j : Nat, ((q = 74 ∧ j = 1) ∨ (q = 74 ∧ j = 9) ∨ q = 22 ∨ q = 75 ∨ q = 76 ∨ q = 77 ∨ q = 78 ∨ q = 79 ∨ q = 80 ∨ q = 81 ∨ q = 82 ∨ q = 83 ∨ q = 84 ∨ q = 85 ∨ (q = 35 ∧ j = 1) ∨ q = 36 ∨ (126 ≤ q ∧ q ≤ 141) ∨ q = 142 ∨ (q = 0 ∧ j = 15)) ∨ I6 q j = I q j) → (∀ q j : Nat, (False) ∨ J7 q j = J q j) → ((0 ≤ a1 ∧ a1 ≤ 7) ∧ (0 ≤ a2 ∧ a2 ≤ 31) ∧ (0 ≤ a3 ∧ a3 ≤ 7) ∧ (0 ≤ a6 ∧ a6 ≤ 1) ∧ (0 ≤ a7 ∧ a7 ≤ 15) ∧ (a7 = a7) ∧ (I6 74 1 = (a5 : Int))) → gv_X (gc_E12 ws0 tb 97 (yX12_swap, cX12_swap, 9, (some .int)) kX12_swap) Q (137, [(0, .inr (.inr (some 0))), (1, .inl a1), (2, .inl a2), (3, .inl a3), (4, .inr (.inr (some a4))), (5, .inr (.inr (some a5))), (6, .inl a6), (7, .inl a7)], [], sh, gc_h sh I6 J7 A) := by
    intro I6 J7 hI6 FI6 FJ7 m_8
    obtain ⟨ha1_8, ha2_8, ha3_8, ha6_8, ha7_8, e0_8, e1_8⟩ := m_8
    have f9 := (show 0 ≤ I6 a5 13 ∧ I6 a5 13 ≤ 384 from gc_in hI6 R_a5 rfl rfl)
    have f10 := (show (-1) ≤ I6 74 1 ∧ I6 74 1 ≤ 999999 from gc_in hI6 R_74 rfl rfl)
    refine gv_run 2 true hD (pc' := 62) (lv' := [(7, .inl (a7 + 1)), (0, .inr (.inr (some 0))), (1, .inl a1), (2, .inl a2), (3, .inl a3), (4, .inr (.inr (some a4))), (5, .inr (.inr (some a5))), (6, .inl a6)]) (st' := []) (h' := gc_h sh I6 J7 A) (C := ((True ∧ True) ∧ True)) rfl ⟨⟨trivial, trivial⟩, trivial⟩ ?_
    refine gv_pick [1, 2, 3, 4, 5, 6, 7, 0] rfl ?_
    exact L62 I6 J7 (a7 + 1) hI6 FI6 FJ7 (by omega)
  refine gv_run 1 true hD (pc' := 93) (lv' := [(0, .inr (.inr (some 0))), (1, .inl a1), (2, .inl a2), (3, .inl a3), (4, .inr (.inr (some a4))), (5, .inr (.inr (some a5))), (6, .inl a6), (7, .inl a7), (8, .inl a8)]) (st' := [.inr (.inr (some 0))]) (h' := gc_h sh I J A) (C := (True ∧ True)) rfl ⟨trivial, trivial⟩ ?_
  refine gv_get hD rfl rfl S_0 ⟨by decide, B_0⟩ (gc_hA S_0 rfl A_0_8) ?_
  show gv_X _ _ (96, [(0, .inr (.inr (some 0))), (1, .inl a1), (2, .inl a2), (3, .inl a3), (4, .inr (.inr (some a4))), (5, .inr (.inr (some a5))), (6, .inl a6), (7, .inl a7), (8, .inl a8)], [.inr (.inr (some 74))], sh, gc_h sh I J A)
  refine gv_run 2 true hD (pc' := 99) (lv' := [(0, .inr (.inr (some 0))), (1, .inl a1), (2, .inl a2), (3, .inl a3), (4, .inr (.inr (some a4))), (5, .inr (.inr (some a5))), (6, .inl a6), (7, .inl a7), (8, .inl a8)]) (st' := [.inr (.inr (some 0)), .inr (.inr (some a5)), .inr (.inr (some 74))]) (h' := gc_h sh I J A) (C := ((True ∧ True) ∧ True)) rfl ⟨⟨trivial, trivial⟩, trivial⟩ ?_
  refine gv_get hD rfl rfl S_0 ⟨by decide, B_0⟩ (gc_hA S_0 rfl A_0_11) ?_
  show gv_X _ _ (102, [(0, .inr (.inr (some 0))), (1, .inl a1), (2, .inl a2), (3, .inl a3), (4, .inr (.inr (some a4))), (5, .inr (.inr (some a5))), (6, .inl a6), (7, .inl a7), (8, .inl a8)], [.inr (.inr (some 114)), .inr (.inr (some a5)), .inr (.inr (some 74))], sh, gc_h sh I J A)
  refine gv_run 1 true hD (pc' := 104) (lv' := [(0, .inr (.inr (some 0))), (1, .inl a1), (2, .inl a2), (3, .inl a3), (4, .inr (.inr (some a4))), (5, .inr (.inr (some a5))), (6, .inl a6), (7, .inl a7), (8, .inl a8)]) (st' := [.inl 8, .inr (.inr (some 114)), .inr (.inr (some a5)), .inr (.inr (some 74))]) (h' := gc_h sh I J A) (C := (True ∧ True)) rfl ⟨trivial, trivial⟩ ?_
  refine gv_aald hD rfl S_114 ⟨by decide, by decide⟩ ⟨by decide, B_114⟩ ⟨by omega, by omega⟩ ((gc_aA S_114 rfl).trans (show A 114 8 = some 123 from gc_bA hb rfl)) ?_
  show gv_X _ _ (105, [(0, .inr (.inr (some 0))), (1, .inl a1), (2, .inl a2), (3, .inl a3), (4, .inr (.inr (some a4))), (5, .inr (.inr (some a5))), (6, .inl a6), (7, .inl a7), (8, .inl a8)], [.inr (.inr (some 123)), .inr (.inr (some a5)), .inr (.inr (some 74))], sh, gc_h sh I J A)
  refine gv_run 1 true hD (pc' := 107) (lv' := [(0, .inr (.inr (some 0))), (1, .inl a1), (2, .inl a2), (3, .inl a3), (4, .inr (.inr (some a4))), (5, .inr (.inr (some a5))), (6, .inl a6), (7, .inl a7), (8, .inl a8)]) (st' := [.inl a8, .inr (.inr (some 123)), .inr (.inr (some a5)), .inr (.inr (some 74))]) (h' := gc_h sh I J A) (C := (True ∧ True)) rfl ⟨trivial, trivial⟩ ?_
  obtain ⟨r12, h12, E12, P12⟩ := d_X7_findOptions_r (ws0 := ws0) (tb := tb) hws htb sh ro I J A hI  60 σ ς (I a5 13) a5 123 a8 hb h_a5 G_a5 S_123 R_123 B_123 (by decide)  ⟨by omega, by omega⟩ x0 (by omega) (by omega) x1 x2 (by omega) (by omega) 
  obtain ⟨I13, J14, rfl, hI13, g12, k12, ⟨z12, rfl, q12⟩⟩ := P12
  have FI13 := gc_frc (W := fun q j => (q = 74 ∧ j = 1) ∨ (q = 74 ∧ j = 9) ∨ q = 22 ∨ q = 75 ∨ q = 76 ∨ q = 77 ∨ q = 78 ∨ q = 79 ∨ q = 80 ∨ q = 81 ∨ q = 82 ∨ q = 83 ∨ q = 84 ∨ q = 85 ∨ (q = 35 ∧ j = 1) ∨ q = 36 ∨ (126 ≤ q ∧ q ≤ 141) ∨ q = 142 ∨ (q = 0 ∧ j = 15)) (V := fun q j => (q = 74 ∧ j = 1) ∨ (q = 74 ∧ j = 9) ∨ q = 22 ∨ q = 75 ∨ q = 76 ∨ q = 77 ∨ q = 78 ∨ q = 79 ∨ q = 80 ∨ q = 81 ∨ q = 82 ∨ q = 83) FI (fun q j h => (h.elim (fun h => (Or.inl h)) (fun h => (h.elim (fun h => (Or.inr (Or.inl h))) (fun h => (h.elim (fun h => (Or.inr (Or.inr (Or.inl h)))) (fun h => (h.elim (fun h => (Or.inr (Or.inr (Or.inr (Or.inl h))))) (fun h => (h.elim (fun h => (Or.inr (Or.inr (Or.inr (Or.inr (Or.inl h)))))) (fun h => (h.elim (fun h => (Or.inr (Or.inr (Or.inr (Or.inr (Or.inr (Or.inl h))))))) (fun h => (h.elim (fun h => (Or.inr (Or.inr (Or.inr (Or.inr (Or.inr (Or.inr (Or.inl h)))))))) (fun h => (h.elim (fun h => (Or.inr (Or.inr (Or.inr (Or.inr (Or.inr (Or.inr (Or.inr (Or.inl h))))))))) (fun h => (h.elim (fun h => (Or.inr (Or.inr (Or.inr (Or.inr (Or.inr (Or.inr (Or.inr (Or.inr (Or.inl h)))))))))) (fun h => (h.elim (fun h => (Or.inr (Or.inr (Or.inr (Or.inr (Or.inr (Or.inr (Or.inr (Or.inr (Or.inr (Or.inl h))))))))))) (fun h => (h.elim (fun h => (Or.inr (Or.inr (Or.inr (Or.inr (Or.inr (Or.inr (Or.inr (Or.inr (Or.inr (Or.inr (Or.inl h)))))))))))) (fun h => (Or.inr (Or.inr (Or.inr (Or.inr (Or.inr (Or.inr (Or.inr (Or.inr (Or.inr (Or.inr (Or.inr (Or.inl h))))))))))))))))))))))))))))))))))) g12
  have t15 := (g12 a5 13).resolve_left (fun h => h.elim (fun h => absurd h.2 (by decide)) (fun h => h.elim (fun h => absurd h.2 (by decide)) (fun h => h.elim (fun h => absurd h N_a5__22) (fun h => h.elim (fun h => absurd h N_a5__75) (fun h => h.elim (fun h => absurd h N_a5__76) (fun h => h.elim (fun h => absurd h N_a5__77) (fun h => h.elim (fun h => absurd h N_a5__78) (fun h => h.elim (fun h => absurd h N_a5__79) (fun h => h.elim (fun h => absurd h N_a5__80) (fun h => h.elim (fun h => absurd h N_a5__81) (fun h => h.elim (fun h => absurd h N_a5__82) (fun h => absurd h N_a5__83))))))))))))
  have f16 := (show (-1) ≤ I13 74 1 ∧ I13 74 1 ≤ 999999 from gc_in hI13 R_74 rfl rfl)
  obtain rfl : J = J14 := funext fun q => funext fun j => ((k12 q j).resolve_left id).symm
  refine gv_callV hD rfl (As := [.inr (.inr (some a5)), .inr (.inr (some 123)), .inl a8]) (st := []) rfl B_74 S_74 rfl (gc_lV12 hws rfl) (Nat.le_of_ble_eq_true rfl) (gz_Ev_mono (d := 10) (by decide) E12) ?_
  show gv_X _ _ (110, [(0, .inr (.inr (some 0))), (1, .inl a1), (2, .inl a2), (3, .inl a3), (4, .inr (.inr (some a4))), (5, .inr (.inr (some a5))), (6, .inl a6), (7, .inl a7), (8, .inl a8)], [.inl z12], sh, gc_h sh I13 J A)
  refine gv_if_le (t := 137) hD rfl rfl ⟨by omega, by omega⟩ (fun c17 => ?_) (fun c17 => ?_)
  · show gv_X _ _ (137, [(0, .inr (.inr (some 0))), (1, .inl a1), (2, .inl a2), (3, .inl a3), (4, .inr (.inr (some a4))), (5, .inr (.inr (some a5))), (6, .inl a6), (7, .inl a7), (8, .inl a8)], [], sh, gc_h sh I13 J A)
    refine gv_pick [0, 1, 2, 3, 4, 5, 6, 7] rfl ?_
    exact L137 I13 J hI13 FI13 FJ (by omega)
  · show gv_X _ _ (113, [(0, .inr (.inr (some 0))), (1, .inl a1), (2, .inl a2), (3, .inl a3), (4, .inr (.inr (some a4))), (5, .inr (.inr (some a5))), (6, .inl a6), (7, .inl a7), (8, .inl a8)], [], sh, gc_h sh I13 J A)
    refine gv_run 1 true hD (pc' := 114) (lv' := [(0, .inr (.inr (some 0))), (1, .inl a1), (2, .inl a2), (3, .inl a3), (4, .inr (.inr (some a4))), (5, .inr (.inr (some a5))), (6, .inl a6), (7, .inl a7), (8, .inl a8)]) (st' := [.inr (.inr (some 0))]) (h' := gc_h sh I13 J A) (C := (True ∧ True)) rfl ⟨trivial, trivial⟩ ?_
    refine gv_get hD rfl rfl S_0 ⟨by decide, B_0⟩ (gc_hA S_0 rfl A_0_4) ?_
    show gv_X _ _ (117, [(0, .inr (.inr (some 0))), (1, .inl a1), (2, .inl a2), (3, .inl a3), (4, .inr (.inr (some a4))), (5, .inr (.inr (some a5))), (6, .inl a6), (7, .inl a7), (8, .inl a8)], [.inr (.inr (some 35))], sh, gc_h sh I13 J A)
    refine gv_run 1 true hD (pc' := 118) (lv' := [(0, .inr (.inr (some 0))), (1, .inl a1), (2, .inl a2), (3, .inl a3), (4, .inr (.inr (some a4))), (5, .inr (.inr (some a5))), (6, .inl a6), (7, .inl a7), (8, .inl a8)]) (st' := [.inl 0, .inr (.inr (some 35))]) (h' := gc_h sh I13 J A) (C := (True ∧ True)) rfl ⟨trivial, trivial⟩ ?_
    refine gv_put hD rfl rfl S_35 ⟨by decide, B_35⟩ rfl trivial ?_
    refine gc_st (k := 1) hI13 S_35 rfl R_35 (lo := 0) (hi := 1000) rfl rfl (by omega) (by omega) (fun I18 hI18 q19 p19 => ?_)
    have FI18 := gc_frs (W := fun q j => (q = 74 ∧ j = 1) ∨ (q = 74 ∧ j = 9) ∨ q = 22 ∨ q = 75 ∨ q = 76 ∨ q = 77 ∨ q = 78 ∨ q = 79 ∨ q = 80 ∨ q = 81 ∨ q = 82 ∨ q = 83 ∨ q = 84 ∨ q = 85 ∨ (q = 35 ∧ j = 1) ∨ q = 36 ∨ (126 ≤ q ∧ q ≤ 141) ∨ q = 142 ∨ (q = 0 ∧ j = 15)) FI13 (Or.inr (Or.inr (Or.inr (Or.inr (Or.inr (Or.inr (Or.inr (Or.inr (Or.inr (Or.inr (Or.inr (Or.inr (Or.inr (Or.inr (Or.inl ⟨rfl, rfl⟩))))))))))))))) p19
    have t20 := p19 a5 13 (fun h => absurd h.2 (by decide))
    have t21 := p19 74 1 (fun h => absurd h.1 (by decide))
    have t22 := p19 76 0 (fun h => absurd h.2 (by decide))
    show gv_X _ _ (121, [(0, .inr (.inr (some 0))), (1, .inl a1), (2, .inl a2), (3, .inl a3), (4, .inr (.inr (some a4))), (5, .inr (.inr (some a5))), (6, .inl a6), (7, .inl a7), (8, .inl a8)], [], sh, gc_h sh I18 J A)
    refine gv_run 1 true hD (pc' := 122) (lv' := [(0, .inr (.inr (some 0))), (1, .inl a1), (2, .inl a2), (3, .inl a3), (4, .inr (.inr (some a4))), (5, .inr (.inr (some a5))), (6, .inl a6), (7, .inl a7), (8, .inl a8)]) (st' := [.inr (.inr (some 0))]) (h' := gc_h sh I18 J A) (C := (True ∧ True)) rfl ⟨trivial, trivial⟩ ?_
    refine gv_get hD rfl rfl S_0 ⟨by decide, B_0⟩ (gc_hA S_0 rfl A_0_8) ?_
    show gv_X _ _ (125, [(0, .inr (.inr (some 0))), (1, .inl a1), (2, .inl a2), (3, .inl a3), (4, .inr (.inr (some a4))), (5, .inr (.inr (some a5))), (6, .inl a6), (7, .inl a7), (8, .inl a8)], [.inr (.inr (some 74))], sh, gc_h sh I18 J A)
    refine gv_run 2 true hD (pc' := 127) (lv' := [(0, .inr (.inr (some 0))), (1, .inl a1), (2, .inl a2), (3, .inl a3), (4, .inr (.inr (some a4))), (5, .inr (.inr (some a5))), (6, .inl a6), (7, .inl a7), (8, .inl a8)]) (st' := [.inr (.inr (some 0)), .inl 0, .inr (.inr (some 74))]) (h' := gc_h sh I18 J A) (C := ((True ∧ True) ∧ True)) rfl ⟨⟨trivial, trivial⟩, trivial⟩ ?_
    refine gv_get hD rfl rfl S_0 ⟨by decide, B_0⟩ (gc_hA S_0 rfl A_0_4) ?_
    show gv_X _ _ (130, [(0, .inr (.inr (some 0))), (1, .inl a1), (2, .inl a2), (3, .inl a3), (4, .inr (.inr (some a4))), (5, .inr (.inr (some a5))), (6, .inl a6), (7, .inl a7), (8, .inl a8)], [.inr (.inr (some 35)), .inl 0, .inr (.inr (some 74))], sh, gc_h sh I18 J A)
    obtain ⟨r23, h23, E23, P23⟩ := d_X7_write (ws0 := ws0) (tb := tb) hws htb sh ro I18 J A hI18  a5 σ ς (I a5 13) a8 0 35 hb (gc_b35 hb) (by omega) h_a5 G_a5  ⟨by omega, by omega⟩ (gc_OE_fr q12.2.2.1 (fun k => (p19 75 k (fun h => absurd h.1 (by omega)))) (fun k => (p19 76 k (fun h => absurd h.1 (by omega)))) (fun k => (p19 80 k (fun h => absurd h.1 (by omega)))) (fun k => (p19 81 k (fun h => absurd h.1 (by omega))))) (gc_Ls_fr x1 (((p19 a5 13 (fun h => absurd h.1 (by omega))).trans ((g12 a5 13).resolve_left (by omega)))) (fun q b2 b3 d k hd => by have b4 := gc_dj_LT b2 h_a5; exact ((p19 (q + d) k (fun h => absurd h.1 (by omega))).trans ((g12 (q + d) k).resolve_left (by omega))))) (gc_LP_fr x2 x1 (((p19 a5 13 (fun h => absurd h.1 (by omega))).trans ((g12 a5 13).resolve_left (by omega)))) (fun q b2 b3 d k hd => by have b4 := gc_dj_LT b2 h_a5; exact ((p19 (q + d) k (fun h => absurd h.1 (by omega))).trans ((g12 (q + d) k).resolve_left (by omega)))) (fun k => ((p19 12 k (fun h => absurd h.1 (by omega))).trans ((g12 12 k).resolve_left (by omega))))) (gh_SO_fr x3 x1 (((p19 a5 13 (fun h => absurd h.1 (by omega))).trans ((g12 a5 13).resolve_left (by omega)))) (fun q b2 b3 d k hd => by have b4 := gc_dj_LT b2 h_a5; exact ((p19 (q + d) k (fun h => absurd h.1 (by omega))).trans ((g12 (q + d) k).resolve_left (by omega)))) (fun k => ((p19 12 k (fun h => absurd h.1 (by omega))).trans ((g12 12 k).resolve_left (by omega))))) (gh_AG_fr x4 x1 (((p19 a5 13 (fun h => absurd h.1 (by omega))).trans ((g12 a5 13).resolve_left (by omega)))) (fun q b2 b3 d k hd => by have b4 := gc_dj_LT b2 h_a5; exact ((p19 (q + d) k (fun h => absurd h.1 (by omega))).trans ((g12 (q + d) k).resolve_left (by omega)))) (fun k => ((p19 12 k (fun h => absurd h.1 (by omega))).trans ((g12 12 k).resolve_left (by omega))))) (by omega) (show gc_EL _ _ _ from ⟨by omega, by omega, by rw [show Int.toNat 0 / 24 = 0 from by omega]; omega⟩) (by omega) (by omega) 
    obtain ⟨I24, J25, rfl, hI24, g23, k23, rfl⟩ := P23
    have FI24 := gc_frc (W := fun q j => (q = 74 ∧ j = 1) ∨ (q = 74 ∧ j = 9) ∨ q = 22 ∨ q = 75 ∨ q = 76 ∨ q = 77 ∨ q = 78 ∨ q = 79 ∨ q = 80 ∨ q = 81 ∨ q = 82 ∨ q = 83 ∨ q = 84 ∨ q = 85 ∨ (q = 35 ∧ j = 1) ∨ q = 36 ∨ (126 ≤ q ∧ q ≤ 141) ∨ q = 142 ∨ (q = 0 ∧ j = 15)) (V := fun q j => q = 84 ∨ q = 85 ∨ (q = 35 ∧ j = 1) ∨ q = 36) FI18 (fun q j h => (h.elim (fun h => (Or.inr (Or.inr (Or.inr (Or.inr (Or.inr (Or.inr (Or.inr (Or.inr (Or.inr (Or.inr (Or.inr (Or.inr (Or.inl h)))))))))))))) (fun h => (h.elim (fun h => (Or.inr (Or.inr (Or.inr (Or.inr (Or.inr (Or.inr (Or.inr (Or.inr (Or.inr (Or.inr (Or.inr (Or.inr (Or.inr (Or.inl h))))))))))))))) (fun h => (h.elim (fun h => (Or.inr (Or.inr (Or.inr (Or.inr (Or.inr (Or.inr (Or.inr (Or.inr (Or.inr (Or.inr (Or.inr (Or.inr (Or.inr (Or.inr (Or.inl h)))))))))))))))) (fun h => (Or.inr (Or.inr (Or.inr (Or.inr (Or.inr (Or.inr (Or.inr (Or.inr (Or.inr (Or.inr (Or.inr (Or.inr (Or.inr (Or.inr (Or.inr (Or.inl h))))))))))))))))))))))) g23
    have t26 := (g23 a5 13).resolve_left (fun h => h.elim (fun h => absurd h N_a5__84) (fun h => h.elim (fun h => absurd h N_a5__85) (fun h => h.elim (fun h => absurd h.2 (by decide)) (fun h => absurd h N_a5__36))))
    have t27 := (g23 74 1).resolve_left (fun h => h.elim (fun h => absurd h (by decide)) (fun h => h.elim (fun h => absurd h (by decide)) (fun h => h.elim (fun h => absurd h.1 (by decide)) (fun h => absurd h (by decide)))))
    have t28 := (g23 76 0).resolve_left (fun h => h.elim (fun h => absurd h (by decide)) (fun h => h.elim (fun h => absurd h (by decide)) (fun h => h.elim (fun h => absurd h.2 (by decide)) (fun h => absurd h (by decide)))))
    obtain rfl : J = J25 := funext fun q => funext fun j => ((k23 q j).resolve_left id).symm
    refine gv_callV hD rfl (As := [.inl 0, .inr (.inr (some 35))]) (st := []) rfl B_74 S_74 rfl (gc_lV12 hws rfl) (Nat.le_of_ble_eq_true rfl) (gz_Ev_mono (d := 4) (by decide) E23) ?_
    show gv_X _ _ (133, [(0, .inr (.inr (some 0))), (1, .inl a1), (2, .inl a2), (3, .inl a3), (4, .inr (.inr (some a4))), (5, .inr (.inr (some a5))), (6, .inl a6), (7, .inl a7), (8, .inl a8)], [], sh, gc_h sh I24 J A)
    refine gv_run 1 true hD (pc' := 134) (lv' := [(0, .inr (.inr (some 0))), (1, .inl a1), (2, .inl a2), (3, .inl a3), (4, .inr (.inr (some a4))), (5, .inr (.inr (some a5))), (6, .inl a6), (7, .inl a7), (8, .inl a8)]) (st' := [.inr (.inr (some 0))]) (h' := gc_h sh I24 J A) (C := (True ∧ True)) rfl ⟨trivial, trivial⟩ ?_
    obtain ⟨r29, h29, E29, P29⟩ := d_X12_noteCandidate (ws0 := ws0) (tb := tb) hws htb sh ro I24 J A hI24   hb     
    obtain ⟨I30, J31, rfl, hI30, g29, k29, rfl⟩ := P29
    have FI30 := gc_frc (W := fun q j => (q = 74 ∧ j = 1) ∨ (q = 74 ∧ j = 9) ∨ q = 22 ∨ q = 75 ∨ q = 76 ∨ q = 77 ∨ q = 78 ∨ q = 79 ∨ q = 80 ∨ q = 81 ∨ q = 82 ∨ q = 83 ∨ q = 84 ∨ q = 85 ∨ (q = 35 ∧ j = 1) ∨ q = 36 ∨ (126 ≤ q ∧ q ≤ 141) ∨ q = 142 ∨ (q = 0 ∧ j = 15)) (V := fun q j => (126 ≤ q ∧ q ≤ 141) ∨ q = 142 ∨ (q = 0 ∧ j = 15)) FI24 (fun q j h => (h.elim (fun h => (Or.inr (Or.inr (Or.inr (Or.inr (Or.inr (Or.inr (Or.inr (Or.inr (Or.inr (Or.inr (Or.inr (Or.inr (Or.inr (Or.inr (Or.inr (Or.inr (Or.inl h)))))))))))))))))) (fun h => (h.elim (fun h => (Or.inr (Or.inr (Or.inr (Or.inr (Or.inr (Or.inr (Or.inr (Or.inr (Or.inr (Or.inr (Or.inr (Or.inr (Or.inr (Or.inr (Or.inr (Or.inr (Or.inr (Or.inl h))))))))))))))))))) (fun h => (Or.inr (Or.inr (Or.inr (Or.inr (Or.inr (Or.inr (Or.inr (Or.inr (Or.inr (Or.inr (Or.inr (Or.inr (Or.inr (Or.inr (Or.inr (Or.inr (Or.inr (Or.inr h))))))))))))))))))))))) g29
    have t32 := (g29 a5 13).resolve_left (by omega)
    have t33 := (g29 74 1).resolve_left (by omega)
    have t34 := (g29 76 0).resolve_left (by omega)
    obtain rfl : J = J31 := funext fun q => funext fun j => ((k29 q j).resolve_left id).symm
    refine gv_callV hD rfl (As := []) (st := []) rfl B_0 S_0 rfl (gc_lV12 hws rfl) (Nat.le_of_ble_eq_true rfl) (gz_Ev_mono (d := 2) (by decide) E29) ?_
    show gv_X _ _ (137, [(0, .inr (.inr (some 0))), (1, .inl a1), (2, .inl a2), (3, .inl a3), (4, .inr (.inr (some a4))), (5, .inr (.inr (some a5))), (6, .inl a6), (7, .inl a7), (8, .inl a8)], [], sh, gc_h sh I30 J A)
    refine gv_pick [0, 1, 2, 3, 4, 5, 6, 7] rfl ?_
    exact L137 I30 J hI30 FI30 FJ (by omega)
