set_option maxHeartbeats 8000000 in
set_option maxRecDepth 100000 in
theorem d_X11_wordPattern_p {ws0 : List Cond} {tb : String → gz_T} (hws : gc_Ws ws0) (htb : gc_tbs tb) (sh : gz_Sh) (ro : Nat → Nat) (I : gr_I) (J : gr_J) (A : gc_A) (hI : gc_Inv ro I) (p : Nat) (a1 : Int) (hp : gc_isTongue sh ro A p) (ha1 : 0 ≤ a1 ∧ a1 ≤ 63)  : ∃ r hₚ, gz_Ev ws0 tb 1 (yX11_wordPattern, cX11_wordPattern, 2, (some .int)) [.inr (.inr (some p)), .inl a1] sh (gc_h sh I J A) r sh hₚ 0 0 ∧ (hₚ = gc_h sh I J A ∧ (∃ z : Int, r = some (.inl z) ∧ 0 ≤ z ∧ z ≤ 23 ∧ z = gs_fw I p a1 1)) := by
  obtain ⟨S_p, R_p, B_p, A_p_0, h_p_1, A_p_1, h_p_3, A_p_2, S_p_5, R_p_5, B_p_5, A_p_3, S_p_6, R_p_6, B_p_6, A_p_4, h_p_7, A_p_5, S_p_9, R_p_9, B_p_9, A_p_7, S_p_10, R_p_10, B_p_10, A_p_8, h_p_11, A_p_9, S_p_13, R_p_13, B_p_13, A_p_10, S_p_14, R_p_14, B_p_14, A_p_12, S_p_15, R_p_15, B_p_15, A_p_14, S_p_16, R_p_16, B_p_16, A_p_15, h_p_17⟩ := id hp
  replace R_p := gz_hi R_p
  replace B_p := gz_hi B_p
  replace R_p_5 := gz_hi R_p_5
  replace B_p_5 := gz_hi B_p_5
  replace R_p_6 := gz_hi R_p_6
  replace B_p_6 := gz_hi B_p_6
  replace R_p_9 := gz_hi R_p_9
  replace B_p_9 := gz_hi B_p_9
  replace R_p_10 := gz_hi R_p_10
  replace B_p_10 := gz_hi B_p_10
  replace R_p_13 := gz_hi R_p_13
  replace B_p_13 := gz_hi B_p_13
  replace R_p_14 := gz_hi R_p_14
  replace B_p_14 := gz_hi B_p_14
  replace R_p_15 := gz_hi R_p_15
  replace B_p_15 := gz_hi B_p_15
  replace R_p_16 := gz_hi R_p_16
  replace B_p_16 := gz_hi B_p_16
  obtain ⟨S_p_1, R_p_1, B_p_1, A_p_1_0, S_p_1_1, R_p_1_1, B_p_1_1, Q0_p_1, Q1_p_1, Q2_p_1⟩ := id h_p_1
  replace R_p_1 := gz_hi R_p_1
  replace B_p_1 := gz_hi B_p_1
  replace R_p_1_1 := gz_hi R_p_1_1
  replace B_p_1_1 := gz_hi B_p_1_1
  obtain ⟨S_p_3, R_p_3, B_p_3, A_p_3_0, S_p_3_1, R_p_3_1, B_p_3_1, Q0_p_3, Q1_p_3, Q2_p_3⟩ := id h_p_3
  replace R_p_3 := gz_hi R_p_3
  replace B_p_3 := gz_hi B_p_3
  replace R_p_3_1 := gz_hi R_p_3_1
  replace B_p_3_1 := gz_hi B_p_3_1
  obtain ⟨S_p_7, R_p_7, B_p_7, A_p_7_0, S_p_7_1, R_p_7_1, B_p_7_1, Q0_p_7, Q1_p_7, Q2_p_7⟩ := id h_p_7
  replace R_p_7 := gz_hi R_p_7
  replace B_p_7 := gz_hi B_p_7
  replace R_p_7_1 := gz_hi R_p_7_1
  replace B_p_7_1 := gz_hi B_p_7_1
  obtain ⟨S_p_11, R_p_11, B_p_11, A_p_11_0, S_p_11_1, R_p_11_1, B_p_11_1, Q0_p_11, Q1_p_11, Q2_p_11⟩ := id h_p_11
  replace R_p_11 := gz_hi R_p_11
  replace B_p_11 := gz_hi B_p_11
  replace R_p_11_1 := gz_hi R_p_11_1
  replace B_p_11_1 := gz_hi B_p_11_1
  obtain ⟨S_p_17, R_p_17, B_p_17, A_p_17_0, S_20, R_20, B_20, A_p_17_1, S_p_17_1, R_p_17_1, B_p_17_1, A_p_17_2, S_p_17_2, R_p_17_2, B_p_17_2, A_p_17_3, S_p_17_3, R_p_17_3, B_p_17_3, A_p_17_4, S_p_17_4, R_p_17_4, B_p_17_4, A_p_17_5, S_p_17_5, R_p_17_5, B_p_17_5, S_p_17_6, R_p_17_6, B_p_17_6, S_p_17_7, R_p_17_7, B_p_17_7⟩ := id h_p_17
  replace R_p_17 := gz_hi R_p_17
  replace B_p_17 := gz_hi B_p_17
  replace R_20 := gz_hi R_20
  replace B_20 := gz_hi B_20
  replace R_p_17_1 := gz_hi R_p_17_1
  replace B_p_17_1 := gz_hi B_p_17_1
  replace R_p_17_2 := gz_hi R_p_17_2
  replace B_p_17_2 := gz_hi B_p_17_2
  replace R_p_17_3 := gz_hi R_p_17_3
  replace B_p_17_3 := gz_hi B_p_17_3
  replace R_p_17_4 := gz_hi R_p_17_4
  replace B_p_17_4 := gz_hi B_p_17_4
  replace R_p_17_5 := gz_hi R_p_17_5
  replace B_p_17_5 := gz_hi B_p_17_5
  replace R_p_17_6 := gz_hi R_p_17_6
  replace B_p_17_6 := gz_hi B_p_17_6
  replace R_p_17_7 := gz_hi R_p_17_7
  replace B_p_17_7 := gz_hi B_p_17_7
  have hD : gv_D (gc_E11 ws0 tb 0 (yX11_wordPattern, cX11_wordPattern, 2, (some .int)) kX11_wordPattern) := gq_of oX11_wordPattern
  refine gc_ev11 (d := 0) (l := kX11_wordPattern) (Po := fun r hₚ => (hₚ = gc_h sh I J A ∧ (∃ z : Int, r = some (.inl z) ∧ 0 ≤ z ∧ z ≤ 23 ∧ z = gs_fw I p a1 1))) htb rfl (Nat.le_of_ble_eq_true rfl) ?_
  refine gv_run 1 true hD (pcₚ := 1) (lvₚ := [(0, .inr (.inr (some p))), (1, .inl a1)]) (stₚ := [.inr (.inr (some p))]) (hₚ := gc_h sh I J A) (C := (True ∧ True)) rfl ⟨trivial, trivial⟩ ?_
  refine gv_get hD rfl rfl S_p ⟨by decide, (gz_sh B_p)⟩ (gc_hA S_p rfl A_p_12) ?_
  show gv_X _ _ (4, [(0, .inr (.inr (some p))), (1, .inl a1)], [.inr (.inr (some (p + 15)))], sh, gc_h sh I J A)
  refine gv_run 5 true hD (pcₚ := 10) (lvₚ := [(0, .inr (.inr (some p))), (1, .inl a1)]) (stₚ := [.inl ((a1 * 11) + 1), .inr (.inr (some (p + 15)))]) (hₚ := gc_h sh I J A) (C := (((((True ∧ True) ∧ True) ∧ True) ∧ True) ∧ True)) rfl ⟨⟨⟨⟨⟨trivial, trivial⟩, trivial⟩, trivial⟩, trivial⟩, trivial⟩ ?_
  have f1 := gz_hi ((show 0 ≤ I (p + 15) (Int.toNat (((a1 * 11) + 1))) ∧ I (p + 15) (Int.toNat (((a1 * 11) + 1))) ≤ 23 from gc_inm (c := 1) hI (gz_sh R_p_15) rfl rfl (by (/-0-/first | omega | (simp only [gz_hd] at *; omega))) rfl rfl))
  refine gv_iald hD rfl S_p_15 rfl ⟨by decide, (gz_sh B_p_15)⟩ ⟨by (/-1-/first | omega | (simp only [gz_hd] at *; omega)), by (/-2-/first | omega | (simp only [gz_hd] at *; omega))⟩ (gc_iI S_p_15 rfl) ?_
  show gv_X _ _ (11, [(0, .inr (.inr (some p))), (1, .inl a1)], [.inl (I (p + 15) (Int.toNat (((a1 * 11) + 1))))], sh, gc_h sh I J A)
  exact gv_iret hD rfl ⟨rfl, ⟨_, rfl, by (/-3-/first | (have o1 := gz_sh f1; omega) | (simp only [gz_hd] at *; omega)), by (/-4-/first | (have o1 := gz_sh f1; omega) | (simp only [gz_hd] at *; omega)), by unfold gs_fw; rw [show Int.toNat (11 * a1) + 1 = Int.toNat (a1 * 11 + 1) from by (/-5-/first | omega | (simp only [gz_hd] at *; omega))]⟩⟩
set_option maxHeartbeats 8000000 in
set_option maxRecDepth 100000 in
theorem d_X11_cellsOf_p {ws0 : List Cond} {tb : String → gz_T} (hws : gc_Ws ws0) (htb : gc_tbs tb) (sh : gz_Sh) (ro : Nat → Nat) (I : gr_I) (J : gr_J) (A : gc_A) (hI : gc_Inv ro I) (p : Nat) (a1 : Int) (hp : gc_isTongue sh ro A p) (ha1 : 0 ≤ a1 ∧ a1 ≤ 63)  : ∃ r hₚ, gz_Ev ws0 tb 2 (yX11_cellsOf, cX11_cellsOf, 2, (some .int)) [.inr (.inr (some p)), .inl a1] sh (gc_h sh I J A) r sh hₚ 0 0 ∧ (hₚ = gc_h sh I J A ∧ (∃ z : Int, r = some (.inl z) ∧ 0 ≤ z ∧ z ≤ 24 ∧ z = I (p + 13) (Int.toNat (gs_fw I p a1 1)))) := by
  obtain ⟨S_p, R_p, B_p, A_p_0, h_p_1, A_p_1, h_p_3, A_p_2, S_p_5, R_p_5, B_p_5, A_p_3, S_p_6, R_p_6, B_p_6, A_p_4, h_p_7, A_p_5, S_p_9, R_p_9, B_p_9, A_p_7, S_p_10, R_p_10, B_p_10, A_p_8, h_p_11, A_p_9, S_p_13, R_p_13, B_p_13, A_p_10, S_p_14, R_p_14, B_p_14, A_p_12, S_p_15, R_p_15, B_p_15, A_p_14, S_p_16, R_p_16, B_p_16, A_p_15, h_p_17⟩ := id hp
  replace R_p := gz_hi R_p
  replace B_p := gz_hi B_p
  replace R_p_5 := gz_hi R_p_5
  replace B_p_5 := gz_hi B_p_5
  replace R_p_6 := gz_hi R_p_6
  replace B_p_6 := gz_hi B_p_6
  replace R_p_9 := gz_hi R_p_9
  replace B_p_9 := gz_hi B_p_9
  replace R_p_10 := gz_hi R_p_10
  replace B_p_10 := gz_hi B_p_10
  replace R_p_13 := gz_hi R_p_13
  replace B_p_13 := gz_hi B_p_13
  replace R_p_14 := gz_hi R_p_14
  replace B_p_14 := gz_hi B_p_14
  replace R_p_15 := gz_hi R_p_15
  replace B_p_15 := gz_hi B_p_15
  replace R_p_16 := gz_hi R_p_16
  replace B_p_16 := gz_hi B_p_16
  obtain ⟨S_p_1, R_p_1, B_p_1, A_p_1_0, S_p_1_1, R_p_1_1, B_p_1_1, Q0_p_1, Q1_p_1, Q2_p_1⟩ := id h_p_1
  replace R_p_1 := gz_hi R_p_1
  replace B_p_1 := gz_hi B_p_1
  replace R_p_1_1 := gz_hi R_p_1_1
  replace B_p_1_1 := gz_hi B_p_1_1
  obtain ⟨S_p_3, R_p_3, B_p_3, A_p_3_0, S_p_3_1, R_p_3_1, B_p_3_1, Q0_p_3, Q1_p_3, Q2_p_3⟩ := id h_p_3
  replace R_p_3 := gz_hi R_p_3
  replace B_p_3 := gz_hi B_p_3
  replace R_p_3_1 := gz_hi R_p_3_1
  replace B_p_3_1 := gz_hi B_p_3_1
  obtain ⟨S_p_7, R_p_7, B_p_7, A_p_7_0, S_p_7_1, R_p_7_1, B_p_7_1, Q0_p_7, Q1_p_7, Q2_p_7⟩ := id h_p_7
  replace R_p_7 := gz_hi R_p_7
  replace B_p_7 := gz_hi B_p_7
  replace R_p_7_1 := gz_hi R_p_7_1
  replace B_p_7_1 := gz_hi B_p_7_1
  obtain ⟨S_p_11, R_p_11, B_p_11, A_p_11_0, S_p_11_1, R_p_11_1, B_p_11_1, Q0_p_11, Q1_p_11, Q2_p_11⟩ := id h_p_11
  replace R_p_11 := gz_hi R_p_11
  replace B_p_11 := gz_hi B_p_11
  replace R_p_11_1 := gz_hi R_p_11_1
  replace B_p_11_1 := gz_hi B_p_11_1
  obtain ⟨S_p_17, R_p_17, B_p_17, A_p_17_0, S_20, R_20, B_20, A_p_17_1, S_p_17_1, R_p_17_1, B_p_17_1, A_p_17_2, S_p_17_2, R_p_17_2, B_p_17_2, A_p_17_3, S_p_17_3, R_p_17_3, B_p_17_3, A_p_17_4, S_p_17_4, R_p_17_4, B_p_17_4, A_p_17_5, S_p_17_5, R_p_17_5, B_p_17_5, S_p_17_6, R_p_17_6, B_p_17_6, S_p_17_7, R_p_17_7, B_p_17_7⟩ := id h_p_17
  replace R_p_17 := gz_hi R_p_17
  replace B_p_17 := gz_hi B_p_17
  replace R_20 := gz_hi R_20
  replace B_20 := gz_hi B_20
  replace R_p_17_1 := gz_hi R_p_17_1
  replace B_p_17_1 := gz_hi B_p_17_1
  replace R_p_17_2 := gz_hi R_p_17_2
  replace B_p_17_2 := gz_hi B_p_17_2
  replace R_p_17_3 := gz_hi R_p_17_3
  replace B_p_17_3 := gz_hi B_p_17_3
  replace R_p_17_4 := gz_hi R_p_17_4
  replace B_p_17_4 := gz_hi B_p_17_4
  replace R_p_17_5 := gz_hi R_p_17_5
  replace B_p_17_5 := gz_hi B_p_17_5
  replace R_p_17_6 := gz_hi R_p_17_6
  replace B_p_17_6 := gz_hi B_p_17_6
  replace R_p_17_7 := gz_hi R_p_17_7
  replace B_p_17_7 := gz_hi B_p_17_7
  have hD : gv_D (gc_E11 ws0 tb 1 (yX11_cellsOf, cX11_cellsOf, 2, (some .int)) kX11_cellsOf) := gq_of oX11_cellsOf
  refine gc_ev11 (d := 1) (l := kX11_cellsOf) (Po := fun r hₚ => (hₚ = gc_h sh I J A ∧ (∃ z : Int, r = some (.inl z) ∧ 0 ≤ z ∧ z ≤ 24 ∧ z = I (p + 13) (Int.toNat (gs_fw I p a1 1))))) htb rfl (Nat.le_of_ble_eq_true rfl) ?_
  refine gv_run 1 true hD (pcₚ := 1) (lvₚ := [(0, .inr (.inr (some p))), (1, .inl a1)]) (stₚ := [.inr (.inr (some p))]) (hₚ := gc_h sh I J A) (C := (True ∧ True)) rfl ⟨trivial, trivial⟩ ?_
  refine gv_get hD rfl rfl S_p ⟨by decide, (gz_sh B_p)⟩ (gc_hA S_p rfl A_p_9) ?_
  show gv_X _ _ (4, [(0, .inr (.inr (some p))), (1, .inl a1)], [.inr (.inr (some (p + 13)))], sh, gc_h sh I J A)
  refine gv_run 2 true hD (pcₚ := 6) (lvₚ := [(0, .inr (.inr (some p))), (1, .inl a1)]) (stₚ := [.inl a1, .inr (.inr (some p)), .inr (.inr (some (p + 13)))]) (hₚ := gc_h sh I J A) (C := ((True ∧ True) ∧ True)) rfl ⟨⟨trivial, trivial⟩, trivial⟩ ?_
  obtain ⟨r1, h1, E1, P1⟩ := d_X11_wordPattern_p (ws0 := ws0) (tb := tb) hws htb sh ro I J A hI p a1 hp   ⟨by (/-0-/first | omega | (simp only [gz_hd] at *; omega)), by (/-1-/first | omega | (simp only [gz_hd] at *; omega))⟩  
  obtain ⟨rfl, ⟨z1, rfl, q1⟩⟩ := P1
  replace q1 := gz_hi q1
  refine gv_callV hD rfl (As := [.inl a1]) (st := [.inr (.inr (some (p + 13)))]) rfl (gz_sh B_p) S_p rfl (gc_lV11 hws rfl) (Nat.le_of_ble_eq_true rfl) (gz_Ev_mono (d := 1) (by decide) E1) ?_
  show gv_X _ _ (9, [(0, .inr (.inr (some p))), (1, .inl a1)], [.inl z1, .inr (.inr (some (p + 13)))], sh, gc_h sh I J A)
  have f2 := gz_hi ((show 0 ≤ I (p + 13) (Int.toNat z1) ∧ I (p + 13) (Int.toNat z1) ≤ 24 from gc_in2 hI (gz_sh R_p_13) rfl rfl rfl))
  refine gv_iald hD rfl S_p_13 rfl ⟨by decide, (gz_sh B_p_13)⟩ ⟨by (/-2-/first | (have o1 := gz_sh q1; omega) | (simp only [gz_hd] at *; omega)), by (/-3-/first | (have o1 := gz_sh q1; omega) | (simp only [gz_hd] at *; omega))⟩ (gc_iI S_p_13 rfl) ?_
  show gv_X _ _ (10, [(0, .inr (.inr (some p))), (1, .inl a1)], [.inl (I (p + 13) (Int.toNat z1))], sh, gc_h sh I J A)
  exact gv_iret hD rfl ⟨rfl, ⟨_, rfl, by (/-4-/first | (have o1 := gz_sh f2; omega) | (simp only [gz_hd] at *; omega)), by (/-5-/first | (have o1 := gz_sh f2; omega) | (simp only [gz_hd] at *; omega)), by rw [(gz_sh q1).2.2]⟩⟩
set_option maxHeartbeats 8000000 in
set_option maxRecDepth 100000 in
theorem d_X2_join_p {ws0 : List Cond} {tb : String → gz_T} (hws : gc_Ws ws0) (htb : gc_tbs tb) (sh : gz_Sh) (ro : Nat → Nat) (I : gr_I) (J : gr_J) (A : gc_A) (hI : gc_Inv ro I) (p : Nat) (a1 : Nat) (a2 : Int) (a3 : Int) (hp : gc_isForms sh ro A p) (h_a1 : gc_isTongue sh ro A a1) (G_a1 : 144 ≤ a1) (ha2 : 0 ≤ a2 ∧ a2 ≤ 63) (ha3 : 0 ≤ a3 ∧ a3 ≤ 23) (x0 : p = a1 + 17) (y0 : ∀ i : Int, I (a1 + 14) (fo_Rc I a1 a2 a3 + 1) ≤ i → i < I (a1 + 14) (fo_Rc I a1 a2 a3 + 1) + I (a1 + 14) (fo_Rc I a1 a2 a3 + 2) → 1 ≤ I 20 (Int.toNat i)) : ∃ r hₚ, gz_Ev ws0 tb 2 (yX2_join, cX2_join, 13, (some .int)) [.inr (.inr (some p)), .inr (.inr (some a1)), .inl a2, .inl a3] sh (gc_h sh I J A) r sh hₚ 0 0 ∧ (∃ (Iₚ : gr_I) (Jₚ : gr_J), hₚ = gc_h sh Iₚ Jₚ A ∧ gc_Inv ro Iₚ ∧ (∀ q j : Nat, (q = (p + 6) ∨ q = (p + 7)) ∨ Iₚ q j = I q j) ∧ (∀ q j : Nat, (False) ∨ Jₚ q j = J q j) ∧ (∃ z : Int, r = some (.inl z) ∧ (-1) ≤ z ∧ z ≤ 24 ∧ fo_jo I a1 a2 a3 Iₚ p z)) := by
  have FI : ∀ q j : Nat, (q = (p + 6) ∨ q = (p + 7)) ∨ I q j = I q j := fun _ _ => Or.inr rfl
  have FJ : ∀ q j : Nat, (False) ∨ J q j = J q j := fun _ _ => Or.inr rfl
  obtain ⟨S_p, R_p, B_p, A_p_0, S_20, R_20, B_20, A_p_1, S_p_1, R_p_1, B_p_1, A_p_2, S_p_2, R_p_2, B_p_2, A_p_3, S_p_3, R_p_3, B_p_3, A_p_4, S_p_4, R_p_4, B_p_4, A_p_5, S_p_5, R_p_5, B_p_5, S_p_6, R_p_6, B_p_6, S_p_7, R_p_7, B_p_7⟩ := id hp
  replace R_p := gz_hi R_p
  replace B_p := gz_hi B_p
  replace R_20 := gz_hi R_20
  replace B_20 := gz_hi B_20
  replace R_p_1 := gz_hi R_p_1
  replace B_p_1 := gz_hi B_p_1
  replace R_p_2 := gz_hi R_p_2
  replace B_p_2 := gz_hi B_p_2
  replace R_p_3 := gz_hi R_p_3
  replace B_p_3 := gz_hi B_p_3
  replace R_p_4 := gz_hi R_p_4
  replace B_p_4 := gz_hi B_p_4
  replace R_p_5 := gz_hi R_p_5
  replace B_p_5 := gz_hi B_p_5
  replace R_p_6 := gz_hi R_p_6
  replace B_p_6 := gz_hi B_p_6
  replace R_p_7 := gz_hi R_p_7
  replace B_p_7 := gz_hi B_p_7
  obtain ⟨S_a1, R_a1, B_a1, A_a1_0, h_a1_1, A_a1_1, h_a1_3, A_a1_2, S_a1_5, R_a1_5, B_a1_5, A_a1_3, S_a1_6, R_a1_6, B_a1_6, A_a1_4, h_a1_7, A_a1_5, S_a1_9, R_a1_9, B_a1_9, A_a1_7, S_a1_10, R_a1_10, B_a1_10, A_a1_8, h_a1_11, A_a1_9, S_a1_13, R_a1_13, B_a1_13, A_a1_10, S_a1_14, R_a1_14, B_a1_14, A_a1_12, S_a1_15, R_a1_15, B_a1_15, A_a1_14, S_a1_16, R_a1_16, B_a1_16, A_a1_15, h_a1_17⟩ := id h_a1
  replace R_a1 := gz_hi R_a1
  replace B_a1 := gz_hi B_a1
  replace R_a1_5 := gz_hi R_a1_5
  replace B_a1_5 := gz_hi B_a1_5
  replace R_a1_6 := gz_hi R_a1_6
  replace B_a1_6 := gz_hi B_a1_6
  replace R_a1_9 := gz_hi R_a1_9
  replace B_a1_9 := gz_hi B_a1_9
  replace R_a1_10 := gz_hi R_a1_10
  replace B_a1_10 := gz_hi B_a1_10
  replace R_a1_13 := gz_hi R_a1_13
  replace B_a1_13 := gz_hi B_a1_13
  replace R_a1_14 := gz_hi R_a1_14
  replace B_a1_14 := gz_hi B_a1_14
  replace R_a1_15 := gz_hi R_a1_15
  replace B_a1_15 := gz_hi B_a1_15
  replace R_a1_16 := gz_hi R_a1_16
  replace B_a1_16 := gz_hi B_a1_16
  obtain ⟨S_a1_1, R_a1_1, B_a1_1, A_a1_1_0, S_a1_1_1, R_a1_1_1, B_a1_1_1, Q0_a1_1, Q1_a1_1, Q2_a1_1⟩ := id h_a1_1
  replace R_a1_1 := gz_hi R_a1_1
  replace B_a1_1 := gz_hi B_a1_1
  replace R_a1_1_1 := gz_hi R_a1_1_1
  replace B_a1_1_1 := gz_hi B_a1_1_1
  obtain ⟨S_a1_3, R_a1_3, B_a1_3, A_a1_3_0, S_a1_3_1, R_a1_3_1, B_a1_3_1, Q0_a1_3, Q1_a1_3, Q2_a1_3⟩ := id h_a1_3
  replace R_a1_3 := gz_hi R_a1_3
  replace B_a1_3 := gz_hi B_a1_3
  replace R_a1_3_1 := gz_hi R_a1_3_1
  replace B_a1_3_1 := gz_hi B_a1_3_1
  obtain ⟨S_a1_7, R_a1_7, B_a1_7, A_a1_7_0, S_a1_7_1, R_a1_7_1, B_a1_7_1, Q0_a1_7, Q1_a1_7, Q2_a1_7⟩ := id h_a1_7
  replace R_a1_7 := gz_hi R_a1_7
  replace B_a1_7 := gz_hi B_a1_7
  replace R_a1_7_1 := gz_hi R_a1_7_1
  replace B_a1_7_1 := gz_hi B_a1_7_1
  obtain ⟨S_a1_11, R_a1_11, B_a1_11, A_a1_11_0, S_a1_11_1, R_a1_11_1, B_a1_11_1, Q0_a1_11, Q1_a1_11, Q2_a1_11⟩ := id h_a1_11
  replace R_a1_11 := gz_hi R_a1_11
  replace B_a1_11 := gz_hi B_a1_11
  replace R_a1_11_1 := gz_hi R_a1_11_1
  replace B_a1_11_1 := gz_hi B_a1_11_1
  obtain ⟨S_a1_17, R_a1_17, B_a1_17, A_a1_17_0, S_20, R_20, B_20, A_a1_17_1, S_a1_17_1, R_a1_17_1, B_a1_17_1, A_a1_17_2, S_a1_17_2, R_a1_17_2, B_a1_17_2, A_a1_17_3, S_a1_17_3, R_a1_17_3, B_a1_17_3, A_a1_17_4, S_a1_17_4, R_a1_17_4, B_a1_17_4, A_a1_17_5, S_a1_17_5, R_a1_17_5, B_a1_17_5, S_a1_17_6, R_a1_17_6, B_a1_17_6, S_a1_17_7, R_a1_17_7, B_a1_17_7⟩ := id h_a1_17
  replace R_a1_17 := gz_hi R_a1_17
  replace B_a1_17 := gz_hi B_a1_17
  replace R_20 := gz_hi R_20
  replace B_20 := gz_hi B_20
  replace R_a1_17_1 := gz_hi R_a1_17_1
  replace B_a1_17_1 := gz_hi B_a1_17_1
  replace R_a1_17_2 := gz_hi R_a1_17_2
  replace B_a1_17_2 := gz_hi B_a1_17_2
  replace R_a1_17_3 := gz_hi R_a1_17_3
  replace B_a1_17_3 := gz_hi B_a1_17_3
  replace R_a1_17_4 := gz_hi R_a1_17_4
  replace B_a1_17_4 := gz_hi B_a1_17_4
  replace R_a1_17_5 := gz_hi R_a1_17_5
  replace B_a1_17_5 := gz_hi B_a1_17_5
  replace R_a1_17_6 := gz_hi R_a1_17_6
  replace B_a1_17_6 := gz_hi B_a1_17_6
  replace R_a1_17_7 := gz_hi R_a1_17_7
  replace B_a1_17_7 := gz_hi B_a1_17_7
  have hD : gv_D (gc_E2 ws0 tb 1 (yX2_join, cX2_join, 13, (some .int)) kX2_join) := gq_of oX2_join
  refine gc_ev2 (d := 1) (l := kX2_join) (Po := fun r hₚ => (∃ (Iₚ : gr_I) (Jₚ : gr_J), hₚ = gc_h sh Iₚ Jₚ A ∧ gc_Inv ro Iₚ ∧ (∀ q j : Nat, (q = (p + 6) ∨ q = (p + 7)) ∨ Iₚ q j = I q j) ∧ (∀ q j : Nat, (False) ∨ Jₚ q j = J q j) ∧ (∃ z : Int, r = some (.inl z) ∧ (-1) ≤ z ∧ z ≤ 24 ∧ fo_jo I a1 a2 a3 Iₚ p z))) htb rfl (Nat.le_of_ble_eq_true rfl) ?_
  have L54 : ∀ (n9 : Nat) (I1 : gr_I) (J2 : gr_J) (v5_3 : Int) (v6_3 : Int) (v7_3 : Int) (v8_3 : Int) (v9_3 : Int), (4001 - v9_3).toNat < n9 → gc_Inv ro I1 → (∀ q j : Nat, (q = (p + 6) ∨ q = (p + 7)) ∨ I1 q j = I q j) → (∀ q j : Nat, (False) ∨ J2 q j = J q j) → ((5 ≤ v5_3 ∧ v5_3 ≤ 698) ∧ (0 ≤ v6_3 ∧ v6_3 ≤ 2000) ∧ ((-1) ≤ v7_3 ∧ v7_3 ≤ 4000) ∧ (0 ≤ v8_3 ∧ v8_3 ≤ 24) ∧ (0 ≤ v9_3 ∧ v9_3 ≤ 4000) ∧ (v5_3 = 11 * a2 + 5)) → fo_js I a1 a2 a3 I1 p v6_3 v7_3 v9_3 v8_3 → gv_X (gc_E2 ws0 tb 1 (yX2_join, cX2_join, 13, (some .int)) kX2_join) (gv_Q cX2_join (some .int) sh (fun r hₚ => (∃ (Iₚ : gr_I) (Jₚ : gr_J), hₚ = gc_h sh Iₚ Jₚ A ∧ gc_Inv ro Iₚ ∧ (∀ q j : Nat, (q = (p + 6) ∨ q = (p + 7)) ∨ Iₚ q j = I q j) ∧ (∀ q j : Nat, (False) ∨ Jₚ q j = J q j) ∧ (∃ z : Int, r = some (.inl z) ∧ (-1) ≤ z ∧ z ≤ 24 ∧ fo_jo I a1 a2 a3 Iₚ p z)))) (54, [(0, .inr (.inr (some p))), (1, .inr (.inr (some a1))), (5, .inl v5_3), (6, .inl v6_3), (7, .inl v7_3), (8, .inl v8_3), (9, .inl v9_3)], [], sh, gc_h sh I1 J2 A) := by
    intro n9
    induction n9 with
    | zero => intro I1 J2 v5_3 v6_3 v7_3 v8_3 v9_3 hn; (/-0-/first | omega | (simp only [gz_hd] at *; omega))
    | succ n9 ih54 =>
      intro I1 J2 v5_3 v6_3 v7_3 v8_3 v9_3 hn hI1 FI1 FJ2 m_3 k_3
      obtain ⟨hv5_3, hv6_3, hv7_3, hv8_3, hv9_3, e0_3⟩ := gz_h6 m_3
      have L131 : ∀ (v11_4 : Int) (v12_4 : Int), ((5 ≤ v5_3 ∧ v5_3 ≤ 698) ∧ (0 ≤ v6_3 ∧ v6_3 ≤ 2000) ∧ (1 ≤ v7_3 ∧ v7_3 ≤ 4000) ∧ (0 ≤ v8_3 ∧ v8_3 ≤ 24) ∧ (0 ≤ v9_3 ∧ v9_3 ≤ 3999) ∧ (0 ≤ v11_4 ∧ v11_4 ≤ 10000) ∧ (0 ≤ v12_4 ∧ v12_4 ≤ 12) ∧ (v5_3 = 11 * a2 + 5) ∧ (v9_3 < v7_3)) → fo_jc I a1 a2 v9_3 v11_4 v12_4 → gv_X (gc_E2 ws0 tb 1 (yX2_join, cX2_join, 13, (some .int)) kX2_join) (gv_Q cX2_join (some .int) sh (fun r hₚ => (∃ (Iₚ : gr_I) (Jₚ : gr_J), hₚ = gc_h sh Iₚ Jₚ A ∧ gc_Inv ro Iₚ ∧ (∀ q j : Nat, (q = (p + 6) ∨ q = (p + 7)) ∨ Iₚ q j = I q j) ∧ (∀ q j : Nat, (False) ∨ Jₚ q j = J q j) ∧ (∃ z : Int, r = some (.inl z) ∧ (-1) ≤ z ∧ z ≤ 24 ∧ fo_jo I a1 a2 a3 Iₚ p z)))) (131, [(0, .inr (.inr (some p))), (1, .inr (.inr (some a1))), (5, .inl v5_3), (6, .inl v6_3), (7, .inl v7_3), (8, .inl v8_3), (9, .inl v9_3), (11, .inl v11_4), (12, .inl v12_4)], [], sh, gc_h sh I1 J2 A) := by
        intro v11_4 v12_4 m_4 k_4
        obtain ⟨hv5_3_4, hv6_3_4, hv7_3_4, hv8_3_4, hv9_3_4, hv11_4, hv12_4, e0_4, e1_4⟩ := gz_h9 m_4
        refine gv_run 4 true hD (pcₚ := 138) (lvₚ := [(0, .inr (.inr (some p))), (1, .inr (.inr (some a1))), (5, .inl v5_3), (6, .inl v6_3), (7, .inl v7_3), (8, .inl v8_3), (9, .inl v9_3), (11, .inl v11_4), (12, .inl v12_4)]) (stₚ := [.inl 24, .inl (v8_3 + v12_4)]) (hₚ := gc_h sh I1 J2 A) (C := ((((True ∧ True) ∧ True) ∧ True) ∧ True)) rfl ⟨⟨⟨⟨trivial, trivial⟩, trivial⟩, trivial⟩, trivial⟩ ?_
        refine gv_icmp_le (t := 143) hD rfl rfl ⟨⟨by (/-1-/first | (have o1 := gz_sh hv12_4; have o2 := gz_sh hv8_3; omega) | (simp only [gz_hd] at *; omega)), by (/-2-/first | (have o1 := gz_sh hv12_4; have o2 := gz_sh hv8_3; omega) | (simp only [gz_hd] at *; omega))⟩, ⟨by (/-3-/first | omega | (simp only [gz_hd] at *; omega)), by (/-4-/first | omega | (simp only [gz_hd] at *; omega))⟩⟩ (fun c5 => ?_) (fun c5 => ?_)
        · show gv_X _ _ (143, [(0, .inr (.inr (some p))), (1, .inr (.inr (some a1))), (5, .inl v5_3), (6, .inl v6_3), (7, .inl v7_3), (8, .inl v8_3), (9, .inl v9_3), (11, .inl v11_4), (12, .inl v12_4)], [], sh, gc_h sh I1 J2 A)
          refine gv_run 1 true hD (pcₚ := 144) (lvₚ := [(0, .inr (.inr (some p))), (1, .inr (.inr (some a1))), (5, .inl v5_3), (6, .inl v6_3), (7, .inl v7_3), (8, .inl v8_3), (9, .inl v9_3), (11, .inl v11_4), (12, .inl v12_4)]) (stₚ := [.inr (.inr (some p))]) (hₚ := gc_h sh I1 J2 A) (C := (True ∧ True)) rfl ⟨trivial, trivial⟩ ?_
          refine gv_get hD rfl rfl S_p ⟨by decide, (gz_sh B_p)⟩ (gc_hA S_p rfl A_p_0) ?_
          show gv_X _ _ (147, [(0, .inr (.inr (some p))), (1, .inr (.inr (some a1))), (5, .inl v5_3), (6, .inl v6_3), (7, .inl v7_3), (8, .inl v8_3), (9, .inl v9_3), (11, .inl v11_4), (12, .inl v12_4)], [.inr (.inr (some 20))], sh, gc_h sh I1 J2 A)
          refine gv_run 2 true hD (pcₚ := 150) (lvₚ := [(0, .inr (.inr (some p))), (1, .inr (.inr (some a1))), (5, .inl v5_3), (6, .inl v6_3), (7, .inl v7_3), (8, .inl v8_3), (9, .inl v9_3), (11, .inl v11_4), (12, .inl v12_4)]) (stₚ := [.inr (.inr (some p)), .inl v11_4, .inr (.inr (some 20))]) (hₚ := gc_h sh I1 J2 A) (C := ((True ∧ True) ∧ True)) rfl ⟨⟨trivial, trivial⟩, trivial⟩ ?_
          have f7 := gz_hi ((show 0 ≤ I1 p 6 ∧ I1 p 6 ≤ 1 from gc_in2 hI1 (gz_sh R_p) rfl rfl rfl))
          obtain ⟨f6_, hq_f6_, S_f6, R_f6, B_f6, D_f6⟩ := gc_sw (p := p) (d := 6) (s := 1) (z := I1 p 6) (show 0 ≤ I1 p 6 ∧ I1 p 6 ≤ 1 from gc_in2 hI1 (gz_sh R_p) rfl rfl rfl) S_p_6 (gz_sh R_p_6) (gz_sh B_p_6) S_p_7 (gz_sh R_p_7) (gz_sh B_p_7)
          refine gv_get hD rfl rfl S_p ⟨by decide, (gz_sh B_p)⟩ (gc_hS (n := 6) S_p rfl hq_f6_) ?_
          show gv_X _ _ (153, [(0, .inr (.inr (some p))), (1, .inr (.inr (some a1))), (5, .inl v5_3), (6, .inl v6_3), (7, .inl v7_3), (8, .inl v8_3), (9, .inl v9_3), (11, .inl v11_4), (12, .inl v12_4)], [.inr (.inr (some f6_)), .inl v11_4, .inr (.inr (some 20))], sh, gc_h sh I1 J2 A)
          refine gv_run 2 true hD (pcₚ := 157) (lvₚ := [(0, .inr (.inr (some p))), (1, .inr (.inr (some a1))), (5, .inl v5_3), (6, .inl v6_3), (7, .inl v7_3), (8, .inl v8_3), (9, .inl v9_3), (11, .inl v11_4), (12, .inl v12_4)]) (stₚ := [.inl v12_4, .inl v8_3, .inr (.inr (some f6_)), .inl v11_4, .inr (.inr (some 20))]) (hₚ := gc_h sh I1 J2 A) (C := ((True ∧ True) ∧ True)) rfl ⟨⟨trivial, trivial⟩, trivial⟩ ?_
          refine gv_copy hD rfl (gc_lC2_71 hws) (Nat.le_of_ble_eq_true rfl) ⟨(gz_sh B_20), B_f6⟩ S_20 S_f6 (by decide) ⟨by decide, by decide⟩ ⟨by (/-5-/first | (have o1 := gz_sh hv11_4; omega) | (simp only [gz_hd] at *; omega)), by (/-6-/first | (have o1 := gz_sh hv8_3; omega) | (simp only [gz_hd] at *; omega)), by (/-7-/first | (have o1 := gz_sh hv12_4; omega) | (simp only [gz_hd] at *; omega))⟩ (by (/-8-/first | (have o1 := gz_sh hv11_4; have o2 := gz_sh hv12_4; omega) | (simp only [gz_hd] at *; omega))) (by (/-9-/first | omega | (simp only [gz_hd] at *; omega))) (fun _ k _ => by rw [gc_iI S_20 rfl]; have h9 := (gc_b_36 hI1 (gz_sh R_20) (Int.toNat v11_4 + k)); exact ⟨by (/-10-/first | omega | (simp only [gz_hd] at *; omega)), by (/-11-/first | omega | (simp only [gz_hd] at *; omega))⟩) ?_
          refine gc_cp hI1 S_20 S_f6 (by decide) (fun j hj => by have h9 := (gc_b_36 hI1 (gz_sh R_20) (Int.toNat v11_4 + j)); rw [R_f6]; exact ⟨by show (-128) ≤ _; (/-12-/first | omega | (simp only [gz_hd] at *; omega)), by show _ ≤ 127; (/-13-/first | omega | (simp only [gz_hd] at *; omega))⟩) (fun I9 hI9 p8 q8 => ?_)
          have FI9 := gc_frp (W := fun q j => q = (p + 6) ∨ q = (p + 7)) (V := fun q j => q = f6_ ∧ Int.toNat v8_3 ≤ j ∧ j < Int.toNat v8_3 + Int.toNat v12_4) FI1 (fun q j h => (show q = (p + 6) ∨ q = (p + 7) from by have := h.1; (/-14-/first | omega | (simp only [gz_hd] at *; omega)))) p8
          show gv_X _ _ (160, [(0, .inr (.inr (some p))), (1, .inr (.inr (some a1))), (5, .inl v5_3), (6, .inl v6_3), (7, .inl v7_3), (8, .inl v8_3), (9, .inl v9_3), (11, .inl v11_4), (12, .inl v12_4)], [], sh, gc_h sh I9 J2 A)
          refine gv_run 6 true hD (pcₚ := 54) (lvₚ := [(9, .inl (v9_3 + 1)), (8, .inl (v8_3 + v12_4)), (0, .inr (.inr (some p))), (1, .inr (.inr (some a1))), (5, .inl v5_3), (6, .inl v6_3), (7, .inl v7_3), (11, .inl v11_4), (12, .inl v12_4)]) (stₚ := []) (hₚ := gc_h sh I9 J2 A) (C := ((((((True ∧ True) ∧ True) ∧ True) ∧ True) ∧ True) ∧ True)) rfl ⟨⟨⟨⟨⟨⟨trivial, trivial⟩, trivial⟩, trivial⟩, trivial⟩, trivial⟩, trivial⟩ ?_
          refine gv_pick [2, 3, 4, 5, 6, 1, 0] rfl ?_
          exact ih54 I9 J2 v5_3 v6_3 v7_3 (v8_3 + v12_4) (v9_3 + 1) (by (/-15-/first | (have o1 := gz_sh f7; have o2 := gz_sh hv9_3; have o3 := gz_sh hv9_3_4; omega) | (simp only [gz_hd] at *; omega))) hI9 FI9 FJ2 (by (/-16-/first | (and_intros; (have o1 := gz_sh hv5_3; omega); (have o1 := gz_sh hv5_3; omega); (have o1 := gz_sh hv6_3; omega); (have o1 := gz_sh hv6_3; omega); (have o1 := gz_sh hv7_3_4; omega); (have o1 := gz_sh hv7_3; omega); (have o1 := gz_sh hv12_4; have o2 := gz_sh hv8_3; omega); (omega); (have o1 := gz_sh hv9_3; omega); (have o1 := gz_sh hv9_3_4; omega); (have o1 := gz_sh e0_3; omega)) | (simp only [gz_hd] at *; omega))) (fo_js_s k_3 k_4 (by (/-17-/first | (have o1 := gz_sh e1_4; omega) | (simp only [gz_hd] at *; omega))) (by (/-18-/first | (have o1 := gz_sh hv8_3; omega) | (simp only [gz_hd] at *; omega))) (by (/-19-/first | (have o1 := gz_sh hv12_4; omega) | (simp only [gz_hd] at *; omega))) (by (/-20-/first | omega | (simp only [gz_hd] at *; omega))) (fun j hj => p8 _ j (fun h => hj h.2)) (fun j hj => by rw [(show so_fb I p 6 = f6_ from by unfold so_fb; rw [← (FI1 p 6).resolve_left (by (/-21-/first | omega | (simp only [gz_hd] at *; omega)))]; exact hq_f6_), q8 j hj]; exact (FI1 20 _).resolve_left (by (/-22-/first | (have o1 := gz_sh B_p; have o2 := gz_sh B_p_1; have o3 := gz_sh B_p_2; have o4 := gz_sh B_p_3; have o5 := gz_sh B_p_4; have o6 := gz_sh B_p_5; have o7 := gz_sh B_p_6; have o8 := gz_sh B_p_7; omega) | (simp only [gz_hd] at *; omega)))) (by (/-23-/first | (have o1 := gz_sh hv11_4; omega) | (simp only [gz_hd] at *; omega))))
        · show gv_X _ _ (141, [(0, .inr (.inr (some p))), (1, .inr (.inr (some a1))), (5, .inl v5_3), (6, .inl v6_3), (7, .inl v7_3), (8, .inl v8_3), (9, .inl v9_3), (11, .inl v11_4), (12, .inl v12_4)], [], sh, gc_h sh I1 J2 A)
          refine gv_run 1 true hD (pcₚ := 142) (lvₚ := [(0, .inr (.inr (some p))), (1, .inr (.inr (some a1))), (5, .inl v5_3), (6, .inl v6_3), (7, .inl v7_3), (8, .inl v8_3), (9, .inl v9_3), (11, .inl v11_4), (12, .inl v12_4)]) (stₚ := [.inl (-1)]) (hₚ := gc_h sh I1 J2 A) (C := (True ∧ True)) rfl ⟨trivial, trivial⟩ ?_
          exact gv_iret hD rfl ⟨I1, J2, rfl, hI1, FI1, FJ2, ⟨_, rfl, by (/-24-/first | omega | (simp only [gz_hd] at *; omega)), by (/-25-/first | omega | (simp only [gz_hd] at *; omega)), fo_js_x (a := v11_4) (m := v12_4) k_3 (Or.inr ⟨k_4, by (/-26-/first | omega | (simp only [gz_hd] at *; omega))⟩) (by (/-27-/first | (have o1 := gz_sh e1_4; omega) | (simp only [gz_hd] at *; omega)))⟩⟩
      have L186 : ∀ (s0_11 : Int), (((-1) ≤ s0_11 ∧ s0_11 ≤ 24)) → fo_jo I a1 a2 a3 I1 p s0_11 → gv_X (gc_E2 ws0 tb 1 (yX2_join, cX2_join, 13, (some .int)) kX2_join) (gv_Q cX2_join (some .int) sh (fun r hₚ => (∃ (Iₚ : gr_I) (Jₚ : gr_J), hₚ = gc_h sh Iₚ Jₚ A ∧ gc_Inv ro Iₚ ∧ (∀ q j : Nat, (q = (p + 6) ∨ q = (p + 7)) ∨ Iₚ q j = I q j) ∧ (∀ q j : Nat, (False) ∨ Jₚ q j = J q j) ∧ (∃ z : Int, r = some (.inl z) ∧ (-1) ≤ z ∧ z ≤ 24 ∧ fo_jo I a1 a2 a3 Iₚ p z)))) (186, [], [.inl s0_11], sh, gc_h sh I1 J2 A) := by
        intro s0_11 m_11 k_5
        have hs0_11 := m_11
        exact gv_iret hD rfl ⟨I1, J2, rfl, hI1, FI1, FJ2, ⟨_, rfl, by (/-28-/first | omega | (simp only [gz_hd] at *; omega)), by (/-29-/first | omega | (simp only [gz_hd] at *; omega)), k_5⟩⟩
      refine gv_run 2 true hD (pcₚ := 58) (lvₚ := [(0, .inr (.inr (some p))), (1, .inr (.inr (some a1))), (5, .inl v5_3), (6, .inl v6_3), (7, .inl v7_3), (8, .inl v8_3), (9, .inl v9_3)]) (stₚ := [.inl v7_3, .inl v9_3]) (hₚ := gc_h sh I1 J2 A) (C := ((True ∧ True) ∧ True)) rfl ⟨⟨trivial, trivial⟩, trivial⟩ ?_
      refine gv_icmp_ge (t := 173) hD rfl rfl ⟨⟨by (/-30-/first | (have o1 := gz_sh hv9_3; omega) | (simp only [gz_hd] at *; omega)), by (/-31-/first | (have o1 := gz_sh hv9_3; omega) | (simp only [gz_hd] at *; omega))⟩, ⟨by (/-32-/first | (have o1 := gz_sh hv7_3; omega) | (simp only [gz_hd] at *; omega)), by (/-33-/first | (have o1 := gz_sh hv7_3; omega) | (simp only [gz_hd] at *; omega))⟩⟩ (fun c12 => ?_) (fun c12 => ?_)
      · show gv_X _ _ (173, [(0, .inr (.inr (some p))), (1, .inr (.inr (some a1))), (5, .inl v5_3), (6, .inl v6_3), (7, .inl v7_3), (8, .inl v8_3), (9, .inl v9_3)], [], sh, gc_h sh I1 J2 A)
        refine gv_run 2 true hD (pcₚ := 177) (lvₚ := [(0, .inr (.inr (some p))), (1, .inr (.inr (some a1))), (5, .inl v5_3), (6, .inl v6_3), (7, .inl v7_3), (8, .inl v8_3), (9, .inl v9_3)]) (stₚ := [.inl v6_3, .inl v7_3]) (hₚ := gc_h sh I1 J2 A) (C := ((True ∧ True) ∧ True)) rfl ⟨⟨trivial, trivial⟩, trivial⟩ ?_
        refine gv_icmp_ge (t := 184) hD rfl rfl ⟨⟨by (/-34-/first | (have o1 := gz_sh hv7_3; omega) | (simp only [gz_hd] at *; omega)), by (/-35-/first | (have o1 := gz_sh hv7_3; omega) | (simp only [gz_hd] at *; omega))⟩, ⟨by (/-36-/first | (have o1 := gz_sh hv6_3; omega) | (simp only [gz_hd] at *; omega)), by (/-37-/first | (have o1 := gz_sh hv6_3; omega) | (simp only [gz_hd] at *; omega))⟩⟩ (fun c13 => ?_) (fun c13 => ?_)
        · show gv_X _ _ (184, [(0, .inr (.inr (some p))), (1, .inr (.inr (some a1))), (5, .inl v5_3), (6, .inl v6_3), (7, .inl v7_3), (8, .inl v8_3), (9, .inl v9_3)], [], sh, gc_h sh I1 J2 A)
          refine gv_run 1 true hD (pcₚ := 186) (lvₚ := [(0, .inr (.inr (some p))), (1, .inr (.inr (some a1))), (5, .inl v5_3), (6, .inl v6_3), (7, .inl v7_3), (8, .inl v8_3), (9, .inl v9_3)]) (stₚ := [.inl v8_3]) (hₚ := gc_h sh I1 J2 A) (C := (True ∧ True)) rfl ⟨trivial, trivial⟩ ?_
          refine gv_pick [] rfl ?_
          exact L186 v8_3 (by (/-38-/first | (and_intros; (have o1 := gz_sh hv8_3; omega); (have o1 := gz_sh hv8_3; omega)) | (simp only [gz_hd] at *; omega))) (fo_js_e k_3 (by (/-39-/first | omega | (simp only [gz_hd] at *; omega))) (by (/-40-/first | omega | (simp only [gz_hd] at *; omega))) (by (/-41-/first | (have o1 := gz_sh hv8_3; omega) | (simp only [gz_hd] at *; omega))))
        · show gv_X _ _ (180, [(0, .inr (.inr (some p))), (1, .inr (.inr (some a1))), (5, .inl v5_3), (6, .inl v6_3), (7, .inl v7_3), (8, .inl v8_3), (9, .inl v9_3)], [], sh, gc_h sh I1 J2 A)
          refine gv_run 2 true hD (pcₚ := 186) (lvₚ := [(0, .inr (.inr (some p))), (1, .inr (.inr (some a1))), (5, .inl v5_3), (6, .inl v6_3), (7, .inl v7_3), (8, .inl v8_3), (9, .inl v9_3)]) (stₚ := [.inl (-1)]) (hₚ := gc_h sh I1 J2 A) (C := ((True ∧ True) ∧ True)) rfl ⟨⟨trivial, trivial⟩, trivial⟩ ?_
          refine gv_pick [] rfl ?_
          exact L186 (-1) (by (/-42-/first | (and_intros <;> omega) | (simp only [gz_hd] at *; omega))) (fo_js_l k_3 (by (/-43-/first | omega | (simp only [gz_hd] at *; omega))))
      · show gv_X _ _ (61, [(0, .inr (.inr (some p))), (1, .inr (.inr (some a1))), (5, .inl v5_3), (6, .inl v6_3), (7, .inl v7_3), (8, .inl v8_3), (9, .inl v9_3)], [], sh, gc_h sh I1 J2 A)
        refine gv_run 1 true hD (pcₚ := 62) (lvₚ := [(0, .inr (.inr (some p))), (1, .inr (.inr (some a1))), (5, .inl v5_3), (6, .inl v6_3), (7, .inl v7_3), (8, .inl v8_3), (9, .inl v9_3)]) (stₚ := [.inr (.inr (some p))]) (hₚ := gc_h sh I1 J2 A) (C := (True ∧ True)) rfl ⟨trivial, trivial⟩ ?_
        refine gv_get hD rfl rfl S_p ⟨by decide, (gz_sh B_p)⟩ (gc_hA S_p rfl A_p_0) ?_
        show gv_X _ _ (65, [(0, .inr (.inr (some p))), (1, .inr (.inr (some a1))), (5, .inl v5_3), (6, .inl v6_3), (7, .inl v7_3), (8, .inl v8_3), (9, .inl v9_3)], [.inr (.inr (some 20))], sh, gc_h sh I1 J2 A)
        refine gv_run 1 true hD (pcₚ := 67) (lvₚ := [(0, .inr (.inr (some p))), (1, .inr (.inr (some a1))), (5, .inl v5_3), (6, .inl v6_3), (7, .inl v7_3), (8, .inl v8_3), (9, .inl v9_3)]) (stₚ := [.inl v9_3, .inr (.inr (some 20))]) (hₚ := gc_h sh I1 J2 A) (C := (True ∧ True)) rfl ⟨trivial, trivial⟩ ?_
        have f14 := gz_hi ((gc_b_36 hI1 (gz_sh R_20) (Int.toNat v9_3)))
        refine gv_bald hD rfl S_20 (Or.inl rfl) ⟨by decide, (gz_sh B_20)⟩ ⟨by (/-44-/first | (have o1 := gz_sh hv9_3; omega) | (simp only [gz_hd] at *; omega)), by (/-45-/first | (have o1 := gz_sh hv9_3; omega) | (simp only [gz_hd] at *; omega))⟩ (gc_iI S_20 rfl) ?_
        show gv_X _ _ (68, [(0, .inr (.inr (some p))), (1, .inr (.inr (some a1))), (5, .inl v5_3), (6, .inl v6_3), (7, .inl v7_3), (8, .inl v8_3), (9, .inl v9_3)], [.inl (I1 20 (Int.toNat v9_3))], sh, gc_h sh I1 J2 A)
        refine gv_run 7 true hD (pcₚ := 80) (lvₚ := [(12, .inl 1), (11, .inl v9_3), (10, .inl (I1 20 (Int.toNat v9_3))), (0, .inr (.inr (some p))), (1, .inr (.inr (some a1))), (5, .inl v5_3), (6, .inl v6_3), (7, .inl v7_3), (8, .inl v8_3), (9, .inl v9_3)]) (stₚ := [.inl 3, .inl (I1 20 (Int.toNat v9_3))]) (hₚ := gc_h sh I1 J2 A) (C := (((((((True ∧ True) ∧ True) ∧ True) ∧ True) ∧ True) ∧ True) ∧ True)) rfl ⟨⟨⟨⟨⟨⟨⟨trivial, trivial⟩, trivial⟩, trivial⟩, trivial⟩, trivial⟩, trivial⟩, trivial⟩ ?_
        refine gv_icmp_gt (t := 131) hD rfl rfl ⟨⟨by (/-46-/first | (have o1 := gz_sh f14; omega) | (simp only [gz_hd] at *; omega)), by (/-47-/first | (have o1 := gz_sh f14; omega) | (simp only [gz_hd] at *; omega))⟩, ⟨by (/-48-/first | omega | (simp only [gz_hd] at *; omega)), by (/-49-/first | omega | (simp only [gz_hd] at *; omega))⟩⟩ (fun c15 => ?_) (fun c15 => ?_)
        · show gv_X _ _ (131, [(12, .inl 1), (11, .inl v9_3), (10, .inl (I1 20 (Int.toNat v9_3))), (0, .inr (.inr (some p))), (1, .inr (.inr (some a1))), (5, .inl v5_3), (6, .inl v6_3), (7, .inl v7_3), (8, .inl v8_3), (9, .inl v9_3)], [], sh, gc_h sh I1 J2 A)
          refine gv_pick [3, 4, 5, 6, 7, 8, 9, 1, 0] rfl ?_
          exact L131 v9_3 1 (by (/-50-/first | (and_intros; (have o1 := gz_sh hv5_3; omega); (have o1 := gz_sh hv5_3; omega); (have o1 := gz_sh hv6_3; omega); (have o1 := gz_sh hv6_3; omega); (have o1 := gz_sh hv9_3; omega); (have o1 := gz_sh hv7_3; omega); (have o1 := gz_sh hv8_3; omega); (have o1 := gz_sh hv8_3; omega); (have o1 := gz_sh hv9_3; omega); (have o1 := gz_sh hv7_3; omega); (have o1 := gz_sh hv9_3; omega); (have o1 := gz_sh hv9_3; omega); (omega); (omega); (have o1 := gz_sh e0_3; omega); (omega)) | (simp only [gz_hd] at *; omega))) (fo_jc_l (by rw [← ((FI1 20 (Int.toNat v9_3)).resolve_left (by (/-51-/first | (have o1 := gz_sh B_p; have o2 := gz_sh B_p_1; have o3 := gz_sh B_p_2; have o4 := gz_sh B_p_3; have o5 := gz_sh B_p_4; have o6 := gz_sh B_p_5; have o7 := gz_sh B_p_6; have o8 := gz_sh B_p_7; omega) | (simp only [gz_hd] at *; omega))))]; (/-52-/first | omega | (simp only [gz_hd] at *; omega))))
        · show gv_X _ _ (83, [(12, .inl 1), (11, .inl v9_3), (10, .inl (I1 20 (Int.toNat v9_3))), (0, .inr (.inr (some p))), (1, .inr (.inr (some a1))), (5, .inl v5_3), (6, .inl v6_3), (7, .inl v7_3), (8, .inl v8_3), (9, .inl v9_3)], [], sh, gc_h sh I1 J2 A)
          refine gv_run 2 true hD (pcₚ := 86) (lvₚ := [(12, .inl 1), (11, .inl v9_3), (10, .inl (I1 20 (Int.toNat v9_3))), (0, .inr (.inr (some p))), (1, .inr (.inr (some a1))), (5, .inl v5_3), (6, .inl v6_3), (7, .inl v7_3), (8, .inl v8_3), (9, .inl v9_3)]) (stₚ := [.inr (.inr (some a1)), .inl (I1 20 (Int.toNat v9_3))]) (hₚ := gc_h sh I1 J2 A) (C := ((True ∧ True) ∧ True)) rfl ⟨⟨trivial, trivial⟩, trivial⟩ ?_
          refine gv_get hD rfl rfl S_a1 ⟨by decide, (gz_sh B_a1)⟩ (gc_hA S_a1 rfl A_a1_12) ?_
          show gv_X _ _ (89, [(12, .inl 1), (11, .inl v9_3), (10, .inl (I1 20 (Int.toNat v9_3))), (0, .inr (.inr (some p))), (1, .inr (.inr (some a1))), (5, .inl v5_3), (6, .inl v6_3), (7, .inl v7_3), (8, .inl v8_3), (9, .inl v9_3)], [.inr (.inr (some (a1 + 15))), .inl (I1 20 (Int.toNat v9_3))], sh, gc_h sh I1 J2 A)
          refine gv_run 3 true hD (pcₚ := 93) (lvₚ := [(12, .inl 1), (11, .inl v9_3), (10, .inl (I1 20 (Int.toNat v9_3))), (0, .inr (.inr (some p))), (1, .inr (.inr (some a1))), (5, .inl v5_3), (6, .inl v6_3), (7, .inl v7_3), (8, .inl v8_3), (9, .inl v9_3)]) (stₚ := [.inl (v5_3 - 1), .inr (.inr (some (a1 + 15))), .inl (I1 20 (Int.toNat v9_3))]) (hₚ := gc_h sh I1 J2 A) (C := (((True ∧ True) ∧ True) ∧ True)) rfl ⟨⟨⟨trivial, trivial⟩, trivial⟩, trivial⟩ ?_
          have f16 := gz_hi ((show 0 ≤ I1 (a1 + 15) (Int.toNat (v5_3 - 1)) ∧ I1 (a1 + 15) (Int.toNat (v5_3 - 1)) ≤ 3 from gc_inm (c := 4) hI1 (gz_sh R_a1_15) rfl rfl (by (/-53-/first | (have o1 := gz_sh e0_3; have o2 := gz_sh hv5_3; omega) | (simp only [gz_hd] at *; omega))) rfl rfl))
          refine gv_iald hD rfl S_a1_15 rfl ⟨by decide, (gz_sh B_a1_15)⟩ ⟨by (/-54-/first | (have o1 := gz_sh hv5_3; omega) | (simp only [gz_hd] at *; omega)), by (/-55-/first | (have o1 := gz_sh hv5_3; omega) | (simp only [gz_hd] at *; omega))⟩ (gc_iI S_a1_15 rfl) ?_
          show gv_X _ _ (94, [(12, .inl 1), (11, .inl v9_3), (10, .inl (I1 20 (Int.toNat v9_3))), (0, .inr (.inr (some p))), (1, .inr (.inr (some a1))), (5, .inl v5_3), (6, .inl v6_3), (7, .inl v7_3), (8, .inl v8_3), (9, .inl v9_3)], [.inl (I1 (a1 + 15) (Int.toNat (v5_3 - 1))), .inl (I1 20 (Int.toNat v9_3))], sh, gc_h sh I1 J2 A)
          refine gv_icmp_le (t := 99) hD rfl rfl ⟨⟨by (/-56-/first | (have o1 := gz_sh f14; omega) | (simp only [gz_hd] at *; omega)), by (/-57-/first | omega | (simp only [gz_hd] at *; omega))⟩, ⟨by (/-58-/first | (have o1 := gz_sh f16; omega) | (simp only [gz_hd] at *; omega)), by (/-59-/first | (have o1 := gz_sh f16; omega) | (simp only [gz_hd] at *; omega))⟩⟩ (fun c17 => ?_) (fun c17 => ?_)
          · show gv_X _ _ (99, [(12, .inl 1), (11, .inl v9_3), (10, .inl (I1 20 (Int.toNat v9_3))), (0, .inr (.inr (some p))), (1, .inr (.inr (some a1))), (5, .inl v5_3), (6, .inl v6_3), (7, .inl v7_3), (8, .inl v8_3), (9, .inl v9_3)], [], sh, gc_h sh I1 J2 A)
            refine gv_run 1 true hD (pcₚ := 100) (lvₚ := [(12, .inl 1), (11, .inl v9_3), (10, .inl (I1 20 (Int.toNat v9_3))), (0, .inr (.inr (some p))), (1, .inr (.inr (some a1))), (5, .inl v5_3), (6, .inl v6_3), (7, .inl v7_3), (8, .inl v8_3), (9, .inl v9_3)]) (stₚ := [.inr (.inr (some a1))]) (hₚ := gc_h sh I1 J2 A) (C := (True ∧ True)) rfl ⟨trivial, trivial⟩ ?_
            refine gv_get hD rfl rfl S_a1 ⟨by decide, (gz_sh B_a1)⟩ (gc_hA S_a1 rfl A_a1_12) ?_
            show gv_X _ _ (103, [(12, .inl 1), (11, .inl v9_3), (10, .inl (I1 20 (Int.toNat v9_3))), (0, .inr (.inr (some p))), (1, .inr (.inr (some a1))), (5, .inl v5_3), (6, .inl v6_3), (7, .inl v7_3), (8, .inl v8_3), (9, .inl v9_3)], [.inr (.inr (some (a1 + 15)))], sh, gc_h sh I1 J2 A)
            refine gv_run 7 true hD (pcₚ := 112) (lvₚ := [(12, .inl 1), (11, .inl v9_3), (10, .inl (I1 20 (Int.toNat v9_3))), (0, .inr (.inr (some p))), (1, .inr (.inr (some a1))), (5, .inl v5_3), (6, .inl v6_3), (7, .inl v7_3), (8, .inl v8_3), (9, .inl v9_3)]) (stₚ := [.inl ((v5_3 + (2 * (I1 20 (Int.toNat v9_3)))) - 2), .inr (.inr (some (a1 + 15)))]) (hₚ := gc_h sh I1 J2 A) (C := (((((((True ∧ True) ∧ True) ∧ True) ∧ True) ∧ True) ∧ True) ∧ True)) rfl ⟨⟨⟨⟨⟨⟨⟨trivial, trivial⟩, trivial⟩, trivial⟩, trivial⟩, trivial⟩, trivial⟩, trivial⟩ ?_
            have t18 := gz_hi ((show I1 20 (Int.toNat v9_3) = 0 ∨ I1 20 (Int.toNat v9_3) = 1 ∨ I1 20 (Int.toNat v9_3) = 2 ∨ I1 20 (Int.toNat v9_3) = 3 from by (/-60-/first | (have o1 := gz_sh f14; omega) | (simp only [gz_hd] at *; omega))))
            have f19 := gz_hi ((show 0 ≤ I1 (a1 + 15) (Int.toNat (((v5_3 + (2 * (I1 20 (Int.toNat v9_3)))) - 2))) ∧ I1 (a1 + 15) (Int.toNat (((v5_3 + (2 * (I1 20 (Int.toNat v9_3)))) - 2))) ≤ 10000 from ((fun hc => hc.elim (fun hc => (have h9 : 0 ≤ I1 (a1 + 15) (Int.toNat (((v5_3 + (2 * (I1 20 (Int.toNat v9_3)))) - 2))) ∧ I1 (a1 + 15) (Int.toNat (((v5_3 + (2 * (I1 20 (Int.toNat v9_3)))) - 2))) ≤ 10000 := gc_inm hI1 (gz_sh R_a1_15) rfl rfl hc rfl rfl; ⟨by (/-61-/first | omega | (simp only [gz_hd] at *; omega)), by (/-62-/first | omega | (simp only [gz_hd] at *; omega))⟩)) (fun hc => hc.elim (fun hc => (have h9 : 0 ≤ I1 (a1 + 15) (Int.toNat (((v5_3 + (2 * (I1 20 (Int.toNat v9_3)))) - 2))) ∧ I1 (a1 + 15) (Int.toNat (((v5_3 + (2 * (I1 20 (Int.toNat v9_3)))) - 2))) ≤ 2000 := gc_inm hI1 (gz_sh R_a1_15) rfl rfl hc rfl rfl; ⟨by (/-63-/first | omega | (simp only [gz_hd] at *; omega)), by (/-64-/first | omega | (simp only [gz_hd] at *; omega))⟩)) (fun hc => hc.elim (fun hc => (have h9 : 0 ≤ I1 (a1 + 15) (Int.toNat (((v5_3 + (2 * (I1 20 (Int.toNat v9_3)))) - 2))) ∧ I1 (a1 + 15) (Int.toNat (((v5_3 + (2 * (I1 20 (Int.toNat v9_3)))) - 2))) ≤ 2000 := gc_inm hI1 (gz_sh R_a1_15) rfl rfl hc rfl rfl; ⟨by (/-65-/first | omega | (simp only [gz_hd] at *; omega)), by (/-66-/first | omega | (simp only [gz_hd] at *; omega))⟩)) (fun hc => (have h9 : 0 ≤ I1 (a1 + 15) (Int.toNat (((v5_3 + (2 * (I1 20 (Int.toNat v9_3)))) - 2))) ∧ I1 (a1 + 15) (Int.toNat (((v5_3 + (2 * (I1 20 (Int.toNat v9_3)))) - 2))) ≤ 2000 := gc_inm hI1 (gz_sh R_a1_15) rfl rfl hc rfl rfl; ⟨by (/-67-/first | omega | (simp only [gz_hd] at *; omega)), by (/-68-/first | omega | (simp only [gz_hd] at *; omega))⟩))))) (show (Int.toNat (((v5_3 + (2 * (I1 20 (Int.toNat v9_3)))) - 2))) % 11 = 3 ∨ (Int.toNat (((v5_3 + (2 * (I1 20 (Int.toNat v9_3)))) - 2))) % 11 = 5 ∨ (Int.toNat (((v5_3 + (2 * (I1 20 (Int.toNat v9_3)))) - 2))) % 11 = 7 ∨ (Int.toNat (((v5_3 + (2 * (I1 20 (Int.toNat v9_3)))) - 2))) % 11 = 9 from by (/-69-/first | (have o1 := gz_sh e0_3; have o2 := gz_sh f14; have o3 := gz_sh t18; omega) | (simp only [gz_hd] at *; omega))))))
            refine gv_iald hD rfl S_a1_15 rfl ⟨by decide, (gz_sh B_a1_15)⟩ ⟨by (/-70-/first | (have o1 := gz_sh e0_3; have o2 := gz_sh f14; omega) | (simp only [gz_hd] at *; omega)), by (/-71-/first | (have o1 := gz_sh e0_3; omega) | (simp only [gz_hd] at *; omega))⟩ (gc_iI S_a1_15 rfl) ?_
            show gv_X _ _ (113, [(12, .inl 1), (11, .inl v9_3), (10, .inl (I1 20 (Int.toNat v9_3))), (0, .inr (.inr (some p))), (1, .inr (.inr (some a1))), (5, .inl v5_3), (6, .inl v6_3), (7, .inl v7_3), (8, .inl v8_3), (9, .inl v9_3)], [.inl (I1 (a1 + 15) (Int.toNat (((v5_3 + (2 * (I1 20 (Int.toNat v9_3)))) - 2))))], sh, gc_h sh I1 J2 A)
            refine gv_run 2 true hD (pcₚ := 116) (lvₚ := [(11, .inl (I1 (a1 + 15) (Int.toNat (((v5_3 + (2 * (I1 20 (Int.toNat v9_3)))) - 2))))), (12, .inl 1), (10, .inl (I1 20 (Int.toNat v9_3))), (0, .inr (.inr (some p))), (1, .inr (.inr (some a1))), (5, .inl v5_3), (6, .inl v6_3), (7, .inl v7_3), (8, .inl v8_3), (9, .inl v9_3)]) (stₚ := [.inr (.inr (some a1))]) (hₚ := gc_h sh I1 J2 A) (C := ((True ∧ True) ∧ True)) rfl ⟨⟨trivial, trivial⟩, trivial⟩ ?_
            refine gv_get hD rfl rfl S_a1 ⟨by decide, (gz_sh B_a1)⟩ (gc_hA S_a1 rfl A_a1_12) ?_
            show gv_X _ _ (119, [(11, .inl (I1 (a1 + 15) (Int.toNat (((v5_3 + (2 * (I1 20 (Int.toNat v9_3)))) - 2))))), (12, .inl 1), (10, .inl (I1 20 (Int.toNat v9_3))), (0, .inr (.inr (some p))), (1, .inr (.inr (some a1))), (5, .inl v5_3), (6, .inl v6_3), (7, .inl v7_3), (8, .inl v8_3), (9, .inl v9_3)], [.inr (.inr (some (a1 + 15)))], sh, gc_h sh I1 J2 A)
            refine gv_run 7 true hD (pcₚ := 128) (lvₚ := [(11, .inl (I1 (a1 + 15) (Int.toNat (((v5_3 + (2 * (I1 20 (Int.toNat v9_3)))) - 2))))), (12, .inl 1), (10, .inl (I1 20 (Int.toNat v9_3))), (0, .inr (.inr (some p))), (1, .inr (.inr (some a1))), (5, .inl v5_3), (6, .inl v6_3), (7, .inl v7_3), (8, .inl v8_3), (9, .inl v9_3)]) (stₚ := [.inl ((v5_3 + (2 * (I1 20 (Int.toNat v9_3)))) - 1), .inr (.inr (some (a1 + 15)))]) (hₚ := gc_h sh I1 J2 A) (C := (((((((True ∧ True) ∧ True) ∧ True) ∧ True) ∧ True) ∧ True) ∧ True)) rfl ⟨⟨⟨⟨⟨⟨⟨trivial, trivial⟩, trivial⟩, trivial⟩, trivial⟩, trivial⟩, trivial⟩, trivial⟩ ?_
            have t20 := gz_hi ((show I1 20 (Int.toNat v9_3) = 0 ∨ I1 20 (Int.toNat v9_3) = 1 ∨ I1 20 (Int.toNat v9_3) = 2 ∨ I1 20 (Int.toNat v9_3) = 3 from by (/-72-/first | (have o1 := gz_sh t18; omega) | (simp only [gz_hd] at *; omega))))
            have f21 := gz_hi ((show 0 ≤ I1 (a1 + 15) (Int.toNat (((v5_3 + (2 * (I1 20 (Int.toNat v9_3)))) - 1))) ∧ I1 (a1 + 15) (Int.toNat (((v5_3 + (2 * (I1 20 (Int.toNat v9_3)))) - 1))) ≤ 12 from ((fun hc => hc.elim (fun hc => (have h9 : 0 ≤ I1 (a1 + 15) (Int.toNat (((v5_3 + (2 * (I1 20 (Int.toNat v9_3)))) - 1))) ∧ I1 (a1 + 15) (Int.toNat (((v5_3 + (2 * (I1 20 (Int.toNat v9_3)))) - 1))) ≤ 3 := gc_inm hI1 (gz_sh R_a1_15) rfl rfl hc rfl rfl; ⟨by (/-73-/first | omega | (simp only [gz_hd] at *; omega)), by (/-74-/first | omega | (simp only [gz_hd] at *; omega))⟩)) (fun hc => hc.elim (fun hc => (have h9 : 0 ≤ I1 (a1 + 15) (Int.toNat (((v5_3 + (2 * (I1 20 (Int.toNat v9_3)))) - 1))) ∧ I1 (a1 + 15) (Int.toNat (((v5_3 + (2 * (I1 20 (Int.toNat v9_3)))) - 1))) ≤ 12 := gc_inm hI1 (gz_sh R_a1_15) rfl rfl hc rfl rfl; ⟨by (/-75-/first | omega | (simp only [gz_hd] at *; omega)), by (/-76-/first | omega | (simp only [gz_hd] at *; omega))⟩)) (fun hc => hc.elim (fun hc => (have h9 : 0 ≤ I1 (a1 + 15) (Int.toNat (((v5_3 + (2 * (I1 20 (Int.toNat v9_3)))) - 1))) ∧ I1 (a1 + 15) (Int.toNat (((v5_3 + (2 * (I1 20 (Int.toNat v9_3)))) - 1))) ≤ 12 := gc_inm hI1 (gz_sh R_a1_15) rfl rfl hc rfl rfl; ⟨by (/-77-/first | omega | (simp only [gz_hd] at *; omega)), by (/-78-/first | omega | (simp only [gz_hd] at *; omega))⟩)) (fun hc => (have h9 : 0 ≤ I1 (a1 + 15) (Int.toNat (((v5_3 + (2 * (I1 20 (Int.toNat v9_3)))) - 1))) ∧ I1 (a1 + 15) (Int.toNat (((v5_3 + (2 * (I1 20 (Int.toNat v9_3)))) - 1))) ≤ 12 := gc_inm hI1 (gz_sh R_a1_15) rfl rfl hc rfl rfl; ⟨by (/-79-/first | omega | (simp only [gz_hd] at *; omega)), by (/-80-/first | omega | (simp only [gz_hd] at *; omega))⟩))))) (show (Int.toNat (((v5_3 + (2 * (I1 20 (Int.toNat v9_3)))) - 1))) % 11 = 4 ∨ (Int.toNat (((v5_3 + (2 * (I1 20 (Int.toNat v9_3)))) - 1))) % 11 = 6 ∨ (Int.toNat (((v5_3 + (2 * (I1 20 (Int.toNat v9_3)))) - 1))) % 11 = 8 ∨ (Int.toNat (((v5_3 + (2 * (I1 20 (Int.toNat v9_3)))) - 1))) % 11 = 10 from by (/-81-/first | (have o1 := gz_sh e0_3; have o2 := gz_sh f14; have o3 := gz_sh t20; omega) | (simp only [gz_hd] at *; omega))))))
            refine gv_iald hD rfl S_a1_15 rfl ⟨by decide, (gz_sh B_a1_15)⟩ ⟨by (/-82-/first | (have o1 := gz_sh e0_3; have o2 := gz_sh f14; omega) | (simp only [gz_hd] at *; omega)), by (/-83-/first | (have o1 := gz_sh e0_3; omega) | (simp only [gz_hd] at *; omega))⟩ (gc_iI S_a1_15 rfl) ?_
            show gv_X _ _ (129, [(11, .inl (I1 (a1 + 15) (Int.toNat (((v5_3 + (2 * (I1 20 (Int.toNat v9_3)))) - 2))))), (12, .inl 1), (10, .inl (I1 20 (Int.toNat v9_3))), (0, .inr (.inr (some p))), (1, .inr (.inr (some a1))), (5, .inl v5_3), (6, .inl v6_3), (7, .inl v7_3), (8, .inl v8_3), (9, .inl v9_3)], [.inl (I1 (a1 + 15) (Int.toNat (((v5_3 + (2 * (I1 20 (Int.toNat v9_3)))) - 1))))], sh, gc_h sh I1 J2 A)
            refine gv_run 1 true hD (pcₚ := 131) (lvₚ := [(12, .inl (I1 (a1 + 15) (Int.toNat (((v5_3 + (2 * (I1 20 (Int.toNat v9_3)))) - 1))))), (11, .inl (I1 (a1 + 15) (Int.toNat (((v5_3 + (2 * (I1 20 (Int.toNat v9_3)))) - 2))))), (10, .inl (I1 20 (Int.toNat v9_3))), (0, .inr (.inr (some p))), (1, .inr (.inr (some a1))), (5, .inl v5_3), (6, .inl v6_3), (7, .inl v7_3), (8, .inl v8_3), (9, .inl v9_3)]) (stₚ := []) (hₚ := gc_h sh I1 J2 A) (C := (True ∧ True)) rfl ⟨trivial, trivial⟩ ?_
            refine gv_pick [3, 4, 5, 6, 7, 8, 9, 1, 0] rfl ?_
            exact L131 ((I1 (a1 + 15) (Int.toNat (((v5_3 + (2 * (I1 20 (Int.toNat v9_3)))) - 2))))) ((I1 (a1 + 15) (Int.toNat (((v5_3 + (2 * (I1 20 (Int.toNat v9_3)))) - 1))))) (by (/-84-/first | (and_intros; (have o1 := gz_sh hv5_3; omega); (have o1 := gz_sh hv5_3; omega); (have o1 := gz_sh hv6_3; omega); (have o1 := gz_sh hv6_3; omega); (have o1 := gz_sh hv9_3; omega); (have o1 := gz_sh hv7_3; omega); (have o1 := gz_sh hv8_3; omega); (have o1 := gz_sh hv8_3; omega); (have o1 := gz_sh hv9_3; omega); (have o1 := gz_sh hv7_3; omega); (have o1 := gz_sh f19; omega); (have o1 := gz_sh f19; omega); (have o1 := gz_sh f21; omega); (have o1 := gz_sh f21; omega); (have o1 := gz_sh e0_3; omega); (omega)) | (simp only [gz_hd] at *; omega))) (fo_jc_s (q := (I1 20 (Int.toNat v9_3))) (v5 := v5_3) ((FI1 20 (Int.toNat v9_3)).resolve_left (by (/-85-/first | (have o1 := gz_sh B_p; have o2 := gz_sh B_p_1; have o3 := gz_sh B_p_2; have o4 := gz_sh B_p_3; have o5 := gz_sh B_p_4; have o6 := gz_sh B_p_5; have o7 := gz_sh B_p_6; have o8 := gz_sh B_p_7; omega) | (simp only [gz_hd] at *; omega)))) (by have h9 := y0 v9_3 (by have h8 := k_3.1; have h7 := k_3.2.2.1; (/-86-/first | omega | (simp only [gz_hd] at *; omega))) (by have h8 := k_3.1; have h7 := k_3.2.1; (/-87-/first | omega | (simp only [gz_hd] at *; omega))); rw [← ((FI1 20 (Int.toNat v9_3)).resolve_left (by (/-88-/first | (have o1 := gz_sh B_p; have o2 := gz_sh B_p_1; have o3 := gz_sh B_p_2; have o4 := gz_sh B_p_3; have o5 := gz_sh B_p_4; have o6 := gz_sh B_p_5; have o7 := gz_sh B_p_6; have o8 := gz_sh B_p_7; omega) | (simp only [gz_hd] at *; omega))))] at h9; exact h9) (by (/-89-/first | omega | (simp only [gz_hd] at *; omega))) (by (/-90-/first | (have o1 := gz_sh e0_3; omega) | (simp only [gz_hd] at *; omega))) (by (/-91-/first | omega | (simp only [gz_hd] at *; omega))) (by rw [← ((FI1 (a1 + 15) (Int.toNat (v5_3 - 1))).resolve_left (by (/-92-/first | omega | (simp only [gz_hd] at *; omega))))]; (/-93-/first | omega | (simp only [gz_hd] at *; omega))) ((FI1 (a1 + 15) _).resolve_left (by (/-94-/first | omega | (simp only [gz_hd] at *; omega)))) ((FI1 (a1 + 15) _).resolve_left (by (/-95-/first | omega | (simp only [gz_hd] at *; omega)))))
          · show gv_X _ _ (97, [(12, .inl 1), (11, .inl v9_3), (10, .inl (I1 20 (Int.toNat v9_3))), (0, .inr (.inr (some p))), (1, .inr (.inr (some a1))), (5, .inl v5_3), (6, .inl v6_3), (7, .inl v7_3), (8, .inl v8_3), (9, .inl v9_3)], [], sh, gc_h sh I1 J2 A)
            refine gv_run 1 true hD (pcₚ := 98) (lvₚ := [(12, .inl 1), (11, .inl v9_3), (10, .inl (I1 20 (Int.toNat v9_3))), (0, .inr (.inr (some p))), (1, .inr (.inr (some a1))), (5, .inl v5_3), (6, .inl v6_3), (7, .inl v7_3), (8, .inl v8_3), (9, .inl v9_3)]) (stₚ := [.inl (-1)]) (hₚ := gc_h sh I1 J2 A) (C := (True ∧ True)) rfl ⟨trivial, trivial⟩ ?_
            exact gv_iret hD rfl ⟨I1, J2, rfl, hI1, FI1, FJ2, ⟨_, rfl, by (/-96-/first | omega | (simp only [gz_hd] at *; omega)), by (/-97-/first | omega | (simp only [gz_hd] at *; omega)), fo_js_x (a := 0) (m := 0) k_3 (Or.inl (fo_jc_n (q := (I1 20 (Int.toNat v9_3))) (v5 := v5_3) ((FI1 20 (Int.toNat v9_3)).resolve_left (by (/-98-/first | (have o1 := gz_sh B_p; have o2 := gz_sh B_p_1; have o3 := gz_sh B_p_2; have o4 := gz_sh B_p_3; have o5 := gz_sh B_p_4; have o6 := gz_sh B_p_5; have o7 := gz_sh B_p_6; have o8 := gz_sh B_p_7; omega) | (simp only [gz_hd] at *; omega)))) (by have h9 := y0 v9_3 (by have h8 := k_3.1; have h7 := k_3.2.2.1; (/-99-/first | omega | (simp only [gz_hd] at *; omega))) (by have h8 := k_3.1; have h7 := k_3.2.1; (/-100-/first | omega | (simp only [gz_hd] at *; omega))); rw [← ((FI1 20 (Int.toNat v9_3)).resolve_left (by (/-101-/first | (have o1 := gz_sh B_p; have o2 := gz_sh B_p_1; have o3 := gz_sh B_p_2; have o4 := gz_sh B_p_3; have o5 := gz_sh B_p_4; have o6 := gz_sh B_p_5; have o7 := gz_sh B_p_6; have o8 := gz_sh B_p_7; omega) | (simp only [gz_hd] at *; omega))))] at h9; exact h9) (by (/-102-/first | omega | (simp only [gz_hd] at *; omega))) (by (/-103-/first | (have o1 := gz_sh e0_3; omega) | (simp only [gz_hd] at *; omega))) (by (/-104-/first | omega | (simp only [gz_hd] at *; omega))) (by rw [← ((FI1 (a1 + 15) (Int.toNat (v5_3 - 1))).resolve_left (by (/-105-/first | omega | (simp only [gz_hd] at *; omega))))]; (/-106-/first | omega | (simp only [gz_hd] at *; omega))))) (by (/-107-/first | omega | (simp only [gz_hd] at *; omega)))⟩⟩
  refine gv_run 2 true hD (pcₚ := 2) (lvₚ := [(0, .inr (.inr (some p))), (1, .inr (.inr (some a1))), (2, .inl a2), (3, .inl a3)]) (stₚ := [.inl a2, .inr (.inr (some a1))]) (hₚ := gc_h sh I J A) (C := ((True ∧ True) ∧ True)) rfl ⟨⟨trivial, trivial⟩, trivial⟩ ?_
  obtain ⟨r22, h22, E22, P22⟩ := d_X11_wordPattern_p (ws0 := ws0) (tb := tb) hws htb sh ro I J A hI a1 a2 h_a1   ⟨by (/-108-/first | omega | (simp only [gz_hd] at *; omega)), by (/-109-/first | omega | (simp only [gz_hd] at *; omega))⟩  
  obtain ⟨rfl, ⟨z22, rfl, q22⟩⟩ := P22
  replace q22 := gz_hi q22
  refine gv_callV hD rfl (As := [.inl a2]) (st := []) rfl (gz_sh B_a1) S_a1 rfl (gc_lV2 hws rfl) (Nat.le_of_ble_eq_true rfl) (gz_Ev_mono (d := 1) (by decide) E22) ?_
  show gv_X _ _ (5, [(0, .inr (.inr (some p))), (1, .inr (.inr (some a1))), (2, .inl a2), (3, .inl a3)], [.inl z22], sh, gc_h sh I J A)
  refine gv_run 7 true hD (pcₚ := 14) (lvₚ := [(4, .inl (((z22 * 24) + a3) * 3)), (0, .inr (.inr (some p))), (1, .inr (.inr (some a1))), (2, .inl a2), (3, .inl a3)]) (stₚ := []) (hₚ := gc_h sh I J A) (C := (((((((True ∧ True) ∧ True) ∧ True) ∧ True) ∧ True) ∧ True) ∧ True)) rfl ⟨⟨⟨⟨⟨⟨⟨trivial, trivial⟩, trivial⟩, trivial⟩, trivial⟩, trivial⟩, trivial⟩, trivial⟩ ?_
  refine gv_run 7 true hD (pcₚ := 23) (lvₚ := [(5, .inl ((a2 * 11) + 5)), (4, .inl (((z22 * 24) + a3) * 3)), (0, .inr (.inr (some p))), (1, .inr (.inr (some a1))), (2, .inl a2), (3, .inl a3)]) (stₚ := [.inr (.inr (some a1))]) (hₚ := gc_h sh I J A) (C := (((((((True ∧ True) ∧ True) ∧ True) ∧ True) ∧ True) ∧ True) ∧ True)) rfl ⟨⟨⟨⟨⟨⟨⟨trivial, trivial⟩, trivial⟩, trivial⟩, trivial⟩, trivial⟩, trivial⟩, trivial⟩ ?_
  refine gv_get hD rfl rfl S_a1 ⟨by decide, (gz_sh B_a1)⟩ (gc_hA S_a1 rfl A_a1_10) ?_
  show gv_X _ _ (26, [(5, .inl ((a2 * 11) + 5)), (4, .inl (((z22 * 24) + a3) * 3)), (0, .inr (.inr (some p))), (1, .inr (.inr (some a1))), (2, .inl a2), (3, .inl a3)], [.inr (.inr (some (a1 + 14)))], sh, gc_h sh I J A)
  refine gv_run 3 true hD (pcₚ := 30) (lvₚ := [(5, .inl ((a2 * 11) + 5)), (4, .inl (((z22 * 24) + a3) * 3)), (0, .inr (.inr (some p))), (1, .inr (.inr (some a1))), (2, .inl a2), (3, .inl a3)]) (stₚ := [.inl ((((z22 * 24) + a3) * 3) + 1), .inr (.inr (some (a1 + 14)))]) (hₚ := gc_h sh I J A) (C := (((True ∧ True) ∧ True) ∧ True)) rfl ⟨⟨⟨trivial, trivial⟩, trivial⟩, trivial⟩ ?_
  have f23 := gz_hi ((show 0 ≤ I (a1 + 14) (Int.toNat (((((z22 * 24) + a3) * 3) + 1))) ∧ I (a1 + 14) (Int.toNat (((((z22 * 24) + a3) * 3) + 1))) ≤ 2000 from gc_inm (c := 1) hI (gz_sh R_a1_14) rfl rfl (by (/-110-/first | (have o1 := gz_sh q22; omega) | (simp only [gz_hd] at *; omega))) rfl rfl))
  refine gv_iald hD rfl S_a1_14 rfl ⟨by decide, (gz_sh B_a1_14)⟩ ⟨by (/-111-/first | (have o1 := gz_sh q22; omega) | (simp only [gz_hd] at *; omega)), by (/-112-/first | (have o1 := gz_sh q22; omega) | (simp only [gz_hd] at *; omega))⟩ (gc_iI S_a1_14 rfl) ?_
  show gv_X _ _ (31, [(5, .inl ((a2 * 11) + 5)), (4, .inl (((z22 * 24) + a3) * 3)), (0, .inr (.inr (some p))), (1, .inr (.inr (some a1))), (2, .inl a2), (3, .inl a3)], [.inl (I (a1 + 14) (Int.toNat (((((z22 * 24) + a3) * 3) + 1))))], sh, gc_h sh I J A)
  refine gv_run 3 true hD (pcₚ := 36) (lvₚ := [(6, .inl (I (a1 + 14) (Int.toNat (((((z22 * 24) + a3) * 3) + 1))))), (5, .inl ((a2 * 11) + 5)), (4, .inl (((z22 * 24) + a3) * 3)), (0, .inr (.inr (some p))), (1, .inr (.inr (some a1))), (2, .inl a2), (3, .inl a3)]) (stₚ := [.inr (.inr (some a1)), .inl (I (a1 + 14) (Int.toNat (((((z22 * 24) + a3) * 3) + 1))))]) (hₚ := gc_h sh I J A) (C := (((True ∧ True) ∧ True) ∧ True)) rfl ⟨⟨⟨trivial, trivial⟩, trivial⟩, trivial⟩ ?_
  refine gv_get hD rfl rfl S_a1 ⟨by decide, (gz_sh B_a1)⟩ (gc_hA S_a1 rfl A_a1_10) ?_
  show gv_X _ _ (39, [(6, .inl (I (a1 + 14) (Int.toNat (((((z22 * 24) + a3) * 3) + 1))))), (5, .inl ((a2 * 11) + 5)), (4, .inl (((z22 * 24) + a3) * 3)), (0, .inr (.inr (some p))), (1, .inr (.inr (some a1))), (2, .inl a2), (3, .inl a3)], [.inr (.inr (some (a1 + 14))), .inl (I (a1 + 14) (Int.toNat (((((z22 * 24) + a3) * 3) + 1))))], sh, gc_h sh I J A)
  refine gv_run 3 true hD (pcₚ := 43) (lvₚ := [(6, .inl (I (a1 + 14) (Int.toNat (((((z22 * 24) + a3) * 3) + 1))))), (5, .inl ((a2 * 11) + 5)), (4, .inl (((z22 * 24) + a3) * 3)), (0, .inr (.inr (some p))), (1, .inr (.inr (some a1))), (2, .inl a2), (3, .inl a3)]) (stₚ := [.inl ((((z22 * 24) + a3) * 3) + 2), .inr (.inr (some (a1 + 14))), .inl (I (a1 + 14) (Int.toNat (((((z22 * 24) + a3) * 3) + 1))))]) (hₚ := gc_h sh I J A) (C := (((True ∧ True) ∧ True) ∧ True)) rfl ⟨⟨⟨trivial, trivial⟩, trivial⟩, trivial⟩ ?_
  have f24 := gz_hi ((show (-1) ≤ I (a1 + 14) (Int.toNat (((((z22 * 24) + a3) * 3) + 2))) ∧ I (a1 + 14) (Int.toNat (((((z22 * 24) + a3) * 3) + 2))) ≤ 2000 from gc_inm (c := 2) hI (gz_sh R_a1_14) rfl rfl (by (/-113-/first | (have o1 := gz_sh q22; omega) | (simp only [gz_hd] at *; omega))) rfl rfl))
  refine gv_iald hD rfl S_a1_14 rfl ⟨by decide, (gz_sh B_a1_14)⟩ ⟨by (/-114-/first | (have o1 := gz_sh q22; omega) | (simp only [gz_hd] at *; omega)), by (/-115-/first | (have o1 := gz_sh q22; omega) | (simp only [gz_hd] at *; omega))⟩ (gc_iI S_a1_14 rfl) ?_
  show gv_X _ _ (44, [(6, .inl (I (a1 + 14) (Int.toNat (((((z22 * 24) + a3) * 3) + 1))))), (5, .inl ((a2 * 11) + 5)), (4, .inl (((z22 * 24) + a3) * 3)), (0, .inr (.inr (some p))), (1, .inr (.inr (some a1))), (2, .inl a2), (3, .inl a3)], [.inl (I (a1 + 14) (Int.toNat (((((z22 * 24) + a3) * 3) + 2)))), .inl (I (a1 + 14) (Int.toNat (((((z22 * 24) + a3) * 3) + 1))))], sh, gc_h sh I J A)
  refine gv_run 6 true hD (pcₚ := 54) (lvₚ := [(9, .inl (I (a1 + 14) (Int.toNat (((((z22 * 24) + a3) * 3) + 1))))), (8, .inl 0), (7, .inl ((I (a1 + 14) (Int.toNat (((((z22 * 24) + a3) * 3) + 1)))) + (I (a1 + 14) (Int.toNat (((((z22 * 24) + a3) * 3) + 2)))))), (6, .inl (I (a1 + 14) (Int.toNat (((((z22 * 24) + a3) * 3) + 1))))), (5, .inl ((a2 * 11) + 5)), (4, .inl (((z22 * 24) + a3) * 3)), (0, .inr (.inr (some p))), (1, .inr (.inr (some a1))), (2, .inl a2), (3, .inl a3)]) (stₚ := []) (hₚ := gc_h sh I J A) (C := ((((((True ∧ True) ∧ True) ∧ True) ∧ True) ∧ True) ∧ True)) rfl ⟨⟨⟨⟨⟨⟨trivial, trivial⟩, trivial⟩, trivial⟩, trivial⟩, trivial⟩, trivial⟩ ?_
  refine gv_pick [6, 7, 4, 3, 2, 1, 0] rfl ?_
  exact L54 _ I J (((a2 * 11) + 5)) ((I (a1 + 14) (Int.toNat (((((z22 * 24) + a3) * 3) + 1))))) (((I (a1 + 14) (Int.toNat (((((z22 * 24) + a3) * 3) + 1)))) + (I (a1 + 14) (Int.toNat (((((z22 * 24) + a3) * 3) + 2)))))) 0 ((I (a1 + 14) (Int.toNat (((((z22 * 24) + a3) * 3) + 1))))) (Nat.lt_succ_self _) hI FI FJ (by (/-116-/first | (and_intros; (omega); (omega); (have o1 := gz_sh f23; omega); (have o1 := gz_sh f23; omega); (have o1 := gz_sh f23; have o2 := gz_sh f24; omega); (have o1 := gz_sh f23; have o2 := gz_sh f24; omega); (omega); (omega); (have o1 := gz_sh f23; omega); (have o1 := gz_sh f23; omega); (omega)) | (simp only [gz_hd] at *; omega))) (fo_js_0 (by rw [(show fo_Rc I a1 a2 a3 + 1 = Int.toNat (((((z22 * 24) + a3) * 3) + 1)) from by unfold fo_Rc; rw [← (gz_sh q22).2.2]; (/-117-/first | (have o1 := gz_sh q22; omega) | (simp only [gz_hd] at *; omega)))]) (by rw [(show fo_Rc I a1 a2 a3 + 2 = Int.toNat (((((z22 * 24) + a3) * 3) + 2)) from by unfold fo_Rc; rw [← (gz_sh q22).2.2]; (/-118-/first | (have o1 := gz_sh q22; omega) | (simp only [gz_hd] at *; omega)))]))
