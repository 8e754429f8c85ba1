set_option maxHeartbeats 8000000 in
set_option maxRecDepth 100000 in
theorem d_X12_swap_k {ws0 : List Cond} {tb : String → gz_T} (hws : gc_Ws ws0) (htb : gc_tbs tb) (sh : gz_Sh) (ro : Nat → Nat) (I : gr_I) (J : gr_J) (A : gc_A) (hI : gc_Inv ro I) (a1 : Int) (a2 : Int) (a3 : Int) (a4 : Nat) (a5 : Nat) (a6 : Int) (a7 : Int) (hb : gc_Base sh ro A) (h_a4 : gc_isTongue sh ro A a4) (G_a4 : 144 ≤ a4) (h_a5 : gc_isTongue sh ro A a5) (G_a5 : 144 ≤ a5) (ha1 : 0 ≤ a1 ∧ a1 ≤ 7) (ha2 : 0 ≤ a2 ∧ a2 ≤ 31) (ha3 : 0 ≤ a3 ∧ a3 ≤ 7) (ha6 : 0 ≤ a6 ∧ a6 ≤ 1) (ha7 : 0 ≤ a7 ∧ a7 ≤ 15) (x0 : I 61 3 = 0) (x1 : I 61 15 = 0) {Q : gz_S → Prop} (L137 : ((0 ≤ a1 ∧ a1 ≤ 7) ∧ (0 ≤ a2 ∧ a2 ≤ 31) ∧ (0 ≤ a3 ∧ a3 ≤ 7) ∧ (0 ≤ a6 ∧ a6 ≤ 1) ∧ (0 ≤ a7 ∧ a7 ≤ 15) ∧ (a7 = a7)) → gv_X (gc_E12 ws0 tb 97 (yX12_swap, cX12_swap, 9, (some .int)) kX12_swap) Q (137, [(0, .inr (.inr (some 0))), (1, .inl a1), (2, .inl a2), (3, .inl a3), (4, .inr (.inr (some a4))), (5, .inr (.inr (some a5))), (6, .inl a6), (7, .inl a7)], [], sh, gc_h sh I J A)) : gv_X (gc_E12 ws0 tb 97 (yX12_swap, cX12_swap, 9, (some .int)) kX12_swap) Q (69, [(0, .inr (.inr (some 0))), (1, .inl a1), (2, .inl a2), (3, .inl a3), (4, .inr (.inr (some a4))), (5, .inr (.inr (some a5))), (6, .inl a6), (7, .inl a7)], [], sh, gc_h sh I J A) := by
  have A_0_11 : A 0 11 = some 114 := gc_bA_0_11 hb
  have A_0_7 : A 0 7 = some 61 := gc_bA_0_7 hb
  have B_0 := gz_hi (show 0 < 1000000 from by decide)
  have B_114 := gz_hi (show 114 < 1000000 from by decide)
  have B_123 := gz_hi (show 123 < 1000000 from by decide)
  have B_61 := gz_hi (show 61 < 1000000 from by decide)
  have R_123 := gz_hi (show ro 123 = 37 from gc_bR_123 hb)
  have S_0 : sh[0]? = some (false, 12, 17) := gc_bS_0 hb
  have S_114 : sh[114]? = some (true, 7, 9) := gc_bS_114 hb
  have S_123 : sh[123]? = some (true, 1, 60) := gc_bS_123 hb
  have S_61 : sh[61]? = some (false, 5, 19) := gc_bS_61 hb
  obtain ⟨S_a4, R_a4, B_a4, A_a4_0, h_a4_1, A_a4_1, h_a4_3, A_a4_2, S_a4_5, R_a4_5, B_a4_5, A_a4_3, S_a4_6, R_a4_6, B_a4_6, A_a4_4, h_a4_7, A_a4_5, S_a4_9, R_a4_9, B_a4_9, A_a4_7, S_a4_10, R_a4_10, B_a4_10, A_a4_8, h_a4_11, A_a4_9, S_a4_13, R_a4_13, B_a4_13, A_a4_10, S_a4_14, R_a4_14, B_a4_14, A_a4_12, S_a4_15, R_a4_15, B_a4_15, A_a4_14, S_a4_16, R_a4_16, B_a4_16, A_a4_15, h_a4_17⟩ := id h_a4
  replace R_a4 := gz_hi R_a4
  replace B_a4 := gz_hi B_a4
  replace R_a4_5 := gz_hi R_a4_5
  replace B_a4_5 := gz_hi B_a4_5
  replace R_a4_6 := gz_hi R_a4_6
  replace B_a4_6 := gz_hi B_a4_6
  replace R_a4_9 := gz_hi R_a4_9
  replace B_a4_9 := gz_hi B_a4_9
  replace R_a4_10 := gz_hi R_a4_10
  replace B_a4_10 := gz_hi B_a4_10
  replace R_a4_13 := gz_hi R_a4_13
  replace B_a4_13 := gz_hi B_a4_13
  replace R_a4_14 := gz_hi R_a4_14
  replace B_a4_14 := gz_hi B_a4_14
  replace R_a4_15 := gz_hi R_a4_15
  replace B_a4_15 := gz_hi B_a4_15
  replace R_a4_16 := gz_hi R_a4_16
  replace B_a4_16 := gz_hi B_a4_16
  obtain ⟨S_a4_1, R_a4_1, B_a4_1, A_a4_1_0, S_a4_1_1, R_a4_1_1, B_a4_1_1, Q0_a4_1, Q1_a4_1, Q2_a4_1⟩ := id h_a4_1
  replace R_a4_1 := gz_hi R_a4_1
  replace B_a4_1 := gz_hi B_a4_1
  replace R_a4_1_1 := gz_hi R_a4_1_1
  replace B_a4_1_1 := gz_hi B_a4_1_1
  obtain ⟨S_a4_3, R_a4_3, B_a4_3, A_a4_3_0, S_a4_3_1, R_a4_3_1, B_a4_3_1, Q0_a4_3, Q1_a4_3, Q2_a4_3⟩ := id h_a4_3
  replace R_a4_3 := gz_hi R_a4_3
  replace B_a4_3 := gz_hi B_a4_3
  replace R_a4_3_1 := gz_hi R_a4_3_1
  replace B_a4_3_1 := gz_hi B_a4_3_1
  obtain ⟨S_a4_7, R_a4_7, B_a4_7, A_a4_7_0, S_a4_7_1, R_a4_7_1, B_a4_7_1, Q0_a4_7, Q1_a4_7, Q2_a4_7⟩ := id h_a4_7
  replace R_a4_7 := gz_hi R_a4_7
  replace B_a4_7 := gz_hi B_a4_7
  replace R_a4_7_1 := gz_hi R_a4_7_1
  replace B_a4_7_1 := gz_hi B_a4_7_1
  obtain ⟨S_a4_11, R_a4_11, B_a4_11, A_a4_11_0, S_a4_11_1, R_a4_11_1, B_a4_11_1, Q0_a4_11, Q1_a4_11, Q2_a4_11⟩ := id h_a4_11
  replace R_a4_11 := gz_hi R_a4_11
  replace B_a4_11 := gz_hi B_a4_11
  replace R_a4_11_1 := gz_hi R_a4_11_1
  replace B_a4_11_1 := gz_hi B_a4_11_1
  obtain ⟨S_a4_17, R_a4_17, B_a4_17, A_a4_17_0, S_20, R_20, B_20, A_a4_17_1, S_a4_17_1, R_a4_17_1, B_a4_17_1, A_a4_17_2, S_a4_17_2, R_a4_17_2, B_a4_17_2, A_a4_17_3, S_a4_17_3, R_a4_17_3, B_a4_17_3, A_a4_17_4, S_a4_17_4, R_a4_17_4, B_a4_17_4, A_a4_17_5, S_a4_17_5, R_a4_17_5, B_a4_17_5, S_a4_17_6, R_a4_17_6, B_a4_17_6, S_a4_17_7, R_a4_17_7, B_a4_17_7⟩ := id h_a4_17
  replace R_a4_17 := gz_hi R_a4_17
  replace B_a4_17 := gz_hi B_a4_17
  replace R_20 := gz_hi R_20
  replace B_20 := gz_hi B_20
  replace R_a4_17_1 := gz_hi R_a4_17_1
  replace B_a4_17_1 := gz_hi B_a4_17_1
  replace R_a4_17_2 := gz_hi R_a4_17_2
  replace B_a4_17_2 := gz_hi B_a4_17_2
  replace R_a4_17_3 := gz_hi R_a4_17_3
  replace B_a4_17_3 := gz_hi B_a4_17_3
  replace R_a4_17_4 := gz_hi R_a4_17_4
  replace B_a4_17_4 := gz_hi B_a4_17_4
  replace R_a4_17_5 := gz_hi R_a4_17_5
  replace B_a4_17_5 := gz_hi B_a4_17_5
  replace R_a4_17_6 := gz_hi R_a4_17_6
  replace B_a4_17_6 := gz_hi B_a4_17_6
  replace R_a4_17_7 := gz_hi R_a4_17_7
  replace B_a4_17_7 := gz_hi B_a4_17_7
  obtain ⟨S_a5, R_a5, B_a5, A_a5_0, h_a5_1, A_a5_1, h_a5_3, A_a5_2, S_a5_5, R_a5_5, B_a5_5, A_a5_3, S_a5_6, R_a5_6, B_a5_6, A_a5_4, h_a5_7, A_a5_5, S_a5_9, R_a5_9, B_a5_9, A_a5_7, S_a5_10, R_a5_10, B_a5_10, A_a5_8, h_a5_11, A_a5_9, S_a5_13, R_a5_13, B_a5_13, A_a5_10, S_a5_14, R_a5_14, B_a5_14, A_a5_12, S_a5_15, R_a5_15, B_a5_15, A_a5_14, S_a5_16, R_a5_16, B_a5_16, A_a5_15, h_a5_17⟩ := id h_a5
  replace R_a5 := gz_hi R_a5
  replace B_a5 := gz_hi B_a5
  replace R_a5_5 := gz_hi R_a5_5
  replace B_a5_5 := gz_hi B_a5_5
  replace R_a5_6 := gz_hi R_a5_6
  replace B_a5_6 := gz_hi B_a5_6
  replace R_a5_9 := gz_hi R_a5_9
  replace B_a5_9 := gz_hi B_a5_9
  replace R_a5_10 := gz_hi R_a5_10
  replace B_a5_10 := gz_hi B_a5_10
  replace R_a5_13 := gz_hi R_a5_13
  replace B_a5_13 := gz_hi B_a5_13
  replace R_a5_14 := gz_hi R_a5_14
  replace B_a5_14 := gz_hi B_a5_14
  replace R_a5_15 := gz_hi R_a5_15
  replace B_a5_15 := gz_hi B_a5_15
  replace R_a5_16 := gz_hi R_a5_16
  replace B_a5_16 := gz_hi B_a5_16
  obtain ⟨S_a5_1, R_a5_1, B_a5_1, A_a5_1_0, S_a5_1_1, R_a5_1_1, B_a5_1_1, Q0_a5_1, Q1_a5_1, Q2_a5_1⟩ := id h_a5_1
  replace R_a5_1 := gz_hi R_a5_1
  replace B_a5_1 := gz_hi B_a5_1
  replace R_a5_1_1 := gz_hi R_a5_1_1
  replace B_a5_1_1 := gz_hi B_a5_1_1
  obtain ⟨S_a5_3, R_a5_3, B_a5_3, A_a5_3_0, S_a5_3_1, R_a5_3_1, B_a5_3_1, Q0_a5_3, Q1_a5_3, Q2_a5_3⟩ := id h_a5_3
  replace R_a5_3 := gz_hi R_a5_3
  replace B_a5_3 := gz_hi B_a5_3
  replace R_a5_3_1 := gz_hi R_a5_3_1
  replace B_a5_3_1 := gz_hi B_a5_3_1
  obtain ⟨S_a5_7, R_a5_7, B_a5_7, A_a5_7_0, S_a5_7_1, R_a5_7_1, B_a5_7_1, Q0_a5_7, Q1_a5_7, Q2_a5_7⟩ := id h_a5_7
  replace R_a5_7 := gz_hi R_a5_7
  replace B_a5_7 := gz_hi B_a5_7
  replace R_a5_7_1 := gz_hi R_a5_7_1
  replace B_a5_7_1 := gz_hi B_a5_7_1
  obtain ⟨S_a5_11, R_a5_11, B_a5_11, A_a5_11_0, S_a5_11_1, R_a5_11_1, B_a5_11_1, Q0_a5_11, Q1_a5_11, Q2_a5_11⟩ := id h_a5_11
  replace R_a5_11 := gz_hi R_a5_11
  replace B_a5_11 := gz_hi B_a5_11
  replace R_a5_11_1 := gz_hi R_a5_11_1
  replace B_a5_11_1 := gz_hi B_a5_11_1
  obtain ⟨S_a5_17, R_a5_17, B_a5_17, A_a5_17_0, S_20, R_20, B_20, A_a5_17_1, S_a5_17_1, R_a5_17_1, B_a5_17_1, A_a5_17_2, S_a5_17_2, R_a5_17_2, B_a5_17_2, A_a5_17_3, S_a5_17_3, R_a5_17_3, B_a5_17_3, A_a5_17_4, S_a5_17_4, R_a5_17_4, B_a5_17_4, A_a5_17_5, S_a5_17_5, R_a5_17_5, B_a5_17_5, S_a5_17_6, R_a5_17_6, B_a5_17_6, S_a5_17_7, R_a5_17_7, B_a5_17_7⟩ := id h_a5_17
  replace R_a5_17 := gz_hi R_a5_17
  replace B_a5_17 := gz_hi B_a5_17
  replace R_20 := gz_hi R_20
  replace B_20 := gz_hi B_20
  replace R_a5_17_1 := gz_hi R_a5_17_1
  replace B_a5_17_1 := gz_hi B_a5_17_1
  replace R_a5_17_2 := gz_hi R_a5_17_2
  replace B_a5_17_2 := gz_hi B_a5_17_2
  replace R_a5_17_3 := gz_hi R_a5_17_3
  replace B_a5_17_3 := gz_hi B_a5_17_3
  replace R_a5_17_4 := gz_hi R_a5_17_4
  replace B_a5_17_4 := gz_hi B_a5_17_4
  replace R_a5_17_5 := gz_hi R_a5_17_5
  replace B_a5_17_5 := gz_hi B_a5_17_5
  replace R_a5_17_6 := gz_hi R_a5_17_6
  replace B_a5_17_6 := gz_hi B_a5_17_6
  replace R_a5_17_7 := gz_hi R_a5_17_7
  replace B_a5_17_7 := gz_hi B_a5_17_7
  have hD : gv_D (gc_E12 ws0 tb 97 (yX12_swap, cX12_swap, 9, (some .int)) kX12_swap) := gq_of oX12_swap
  refine gv_run 1 true hD (pcₚ := 70) (lvₚ := [(0, .inr (.inr (some 0))), (1, .inl a1), (2, .inl a2), (3, .inl a3), (4, .inr (.inr (some a4))), (5, .inr (.inr (some a5))), (6, .inl a6), (7, .inl a7)]) (stₚ := [.inr (.inr (some 0))]) (hₚ := gc_h sh I J A) (C := (True ∧ True)) rfl ⟨trivial, trivial⟩ ?_
  refine gv_get hD rfl rfl S_0 ⟨by decide, (gz_sh B_0)⟩ (gc_hA S_0 rfl A_0_7) ?_
  show gv_X _ _ (73, [(0, .inr (.inr (some 0))), (1, .inl a1), (2, .inl a2), (3, .inl a3), (4, .inr (.inr (some a4))), (5, .inr (.inr (some a5))), (6, .inl a6), (7, .inl a7)], [.inr (.inr (some 61))], sh, gc_h sh I J A)
  refine gv_run 2 true hD (pcₚ := 76) (lvₚ := [(0, .inr (.inr (some 0))), (1, .inl a1), (2, .inl a2), (3, .inl a3), (4, .inr (.inr (some a4))), (5, .inr (.inr (some a5))), (6, .inl a6), (7, .inl a7)]) (stₚ := [.inr (.inr (some 0)), .inl a7, .inr (.inr (some 61))]) (hₚ := gc_h sh I J A) (C := ((True ∧ True) ∧ True)) rfl ⟨⟨trivial, trivial⟩, trivial⟩ ?_
  refine gv_get hD rfl rfl S_0 ⟨by decide, (gz_sh B_0)⟩ (gc_hA S_0 rfl A_0_11) ?_
  show gv_X _ _ (79, [(0, .inr (.inr (some 0))), (1, .inl a1), (2, .inl a2), (3, .inl a3), (4, .inr (.inr (some a4))), (5, .inr (.inr (some a5))), (6, .inl a6), (7, .inl a7)], [.inr (.inr (some 114)), .inl a7, .inr (.inr (some 61))], sh, gc_h sh I J A)
  refine gv_run 1 true hD (pcₚ := 81) (lvₚ := [(0, .inr (.inr (some 0))), (1, .inl a1), (2, .inl a2), (3, .inl a3), (4, .inr (.inr (some a4))), (5, .inr (.inr (some a5))), (6, .inl a6), (7, .inl a7)]) (stₚ := [.inl 8, .inr (.inr (some 114)), .inl a7, .inr (.inr (some 61))]) (hₚ := gc_h sh I J A) (C := (True ∧ True)) rfl ⟨trivial, trivial⟩ ?_
  refine gv_aald hD rfl S_114 ⟨by decide, by decide⟩ ⟨by decide, (gz_sh B_114)⟩ ⟨by (/-0-/first | omega | (simp only [gz_hd] at *; omega)), by (/-1-/first | omega | (simp only [gz_hd] at *; omega))⟩ ((gc_aA S_114 rfl).trans (show A 114 8 = some 123 from gc_bA hb rfl)) ?_
  show gv_X _ _ (82, [(0, .inr (.inr (some 0))), (1, .inl a1), (2, .inl a2), (3, .inl a3), (4, .inr (.inr (some a4))), (5, .inr (.inr (some a5))), (6, .inl a6), (7, .inl a7)], [.inr (.inr (some 123)), .inl a7, .inr (.inr (some 61))], sh, gc_h sh I J A)
  obtain ⟨r3, h3, E3, P3⟩ := d_X5_spell_c (ws0 := ws0) (tb := tb) hws htb sh ro I J A hI  60 a7 123 hb S_123 (gz_sh R_123) (gz_sh B_123) (by decide)  ⟨by (/-2-/first | omega | (simp only [gz_hd] at *; omega)), by (/-3-/first | omega | (simp only [gz_hd] at *; omega))⟩ (by (/-4-/first | omega | (simp only [gz_hd] at *; omega))) (by (/-5-/first | omega | (simp only [gz_hd] at *; omega))) 
  obtain ⟨rfl, ⟨z3, rfl, q3⟩⟩ := P3
  replace q3 := gz_hi q3
  refine gv_callV hD rfl (As := [.inl a7, .inr (.inr (some 123))]) (st := []) rfl (gz_sh B_61) S_61 rfl (gc_lV12 hws rfl) (Nat.le_of_ble_eq_true rfl) (gz_Ev_mono (d := 9) (by decide) E3) ?_
  show gv_X _ _ (85, [(0, .inr (.inr (some 0))), (1, .inl a1), (2, .inl a2), (3, .inl a3), (4, .inr (.inr (some a4))), (5, .inr (.inr (some a5))), (6, .inl a6), (7, .inl a7)], [.inl z3], sh, gc_h sh I J A)
  refine gv_run 2 true hD (pcₚ := 89) (lvₚ := [(8, .inl z3), (0, .inr (.inr (some 0))), (1, .inl a1), (2, .inl a2), (3, .inl a3), (4, .inr (.inr (some a4))), (5, .inr (.inr (some a5))), (6, .inl a6), (7, .inl a7)]) (stₚ := [.inl z3]) (hₚ := gc_h sh I J A) (C := ((True ∧ True) ∧ True)) rfl ⟨⟨trivial, trivial⟩, trivial⟩ ?_
  refine gv_if_le (t := 137) hD rfl rfl ⟨by (/-6-/first | (have o1 := gz_sh q3; omega) | (simp only [gz_hd] at *; omega)), by (/-7-/first | (have o1 := gz_sh q3; omega) | (simp only [gz_hd] at *; omega))⟩ (fun c4 => ?_) (fun c4 => ?_)
  · show gv_X _ _ (137, [(8, .inl z3), (0, .inr (.inr (some 0))), (1, .inl a1), (2, .inl a2), (3, .inl a3), (4, .inr (.inr (some a4))), (5, .inr (.inr (some a5))), (6, .inl a6), (7, .inl a7)], [], sh, gc_h sh I J A)
    refine gv_pick [1, 2, 3, 4, 5, 6, 7, 8] rfl ?_
    exact L137 (by (/-8-/first | (and_intros <;> omega) | (simp only [gz_hd] at *; omega)))
  · exfalso; (/-9-/first | (have o1 := gz_sh q3; omega) | (simp only [gz_hd] at *; omega))
