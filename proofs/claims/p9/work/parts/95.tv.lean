/-! PARITY, the class's side: TONGUE -/
set_option maxHeartbeats 8000000 in
set_option maxRecDepth 100000 in
theorem d_X8_makeTongue_t_p {ws0 : List Cond} {tb : String → gz_T} (hws : gc_Ws ws0) (htb : gc_tbs tb) (sh : gz_Sh) (ro : Nat → Nat) (I : gr_I) (J : gr_J) (A : gc_A) (hI : gc_Inv ro I) (t : Nat) (a1 : Int64) (a2 : Int) (hb : gc_Base sh ro A) (h_t : gc_isTongue sh ro A t) (G_t : 144 ≤ t) (ha2 : 0 ≤ a2 ∧ a2 ≤ 7) (x0 : A 10 (Int.toNat a2) = some t) (x1 : a2 = I 8 1)  : gv_X (gc_E8 ws0 tb 8 (yX8_makeTongue, cX8_makeTongue, 4, none) kX8_makeTongue) (gv_Q cX8_makeTongue none sh (fun r hₚ => (∃ (Iₚ : gr_I) (Jₚ : gr_J), hₚ = gc_h sh Iₚ Jₚ A ∧ gc_Inv ro Iₚ ∧ (∀ q j : Nat, ((q = (t + 1) ∧ j = 1) ∨ (q = (t + 3) ∧ j = 1) ∨ (q = (t + 7) ∧ j = 1) ∨ (q = (t + 11) ∧ j = 1) ∨ (q = t ∧ j = 6) ∨ (q = t ∧ j = 11) ∨ (q = t ∧ j = 13) ∨ (q = 8 ∧ j = 1)) ∨ Iₚ q j = I q j) ∧ (∀ q j : Nat, (q = 9) ∨ Jₚ q j = J q j) ∧ r = none ∧ (Iₚ (t + 1) 1 = 0) ∧ (Iₚ (t + 3) 1 = 0) ∧ (Iₚ (t + 7) 1 = 0) ∧ (Iₚ (t + 11) 1 = 0) ∧ (Iₚ t 6 = 0) ∧ (Iₚ t 11 = 0) ∧ (Iₚ t 13 = 0) ∧ (Iₚ 8 1 = I 8 1 + 1) ∧ (gc_PU 8 8 a1 I J Iₚ Jₚ)))) (41, [(0, .inr (.inr (some 1))), (1, .inr (.inl a1)), (3, .inl a2)], [], sh, gc_h sh I J A) := by
  have FI : ∀ q j : Nat, ((q = (t + 1) ∧ j = 1) ∨ (q = (t + 3) ∧ j = 1) ∨ (q = (t + 7) ∧ j = 1) ∨ (q = (t + 11) ∧ j = 1) ∨ (q = t ∧ j = 6) ∨ (q = t ∧ j = 11) ∨ (q = t ∧ j = 13) ∨ (q = 8 ∧ j = 1)) ∨ I q j = I q j := fun _ _ => Or.inr rfl
  have FJ : ∀ q j : Nat, (q = 9) ∨ J q j = J q j := fun _ _ => Or.inr rfl
  have A_1_3 : A 1 3 = some 8 := gc_bA_1_3 hb
  have A_1_4 : A 1 4 = some 10 := gc_bA_1_4 hb
  have B_1 := gz_hi (show 1 < 1000000 from by decide)
  have B_10 := gz_hi (show 10 < 1000000 from by decide)
  have B_8 := gz_hi (show 8 < 1000000 from by decide)
  have R_8 := gz_hi (show ro 8 = 6 from gc_bR_8 hb)
  have S_1 : sh[1]? = some (false, 8, 21) := gc_bS_1 hb
  have S_10 : sh[10]? = some (true, 5, 8) := gc_bS_10 hb
  have S_8 : sh[8]? = some (false, 4, 2) := gc_bS_8 hb
  obtain ⟨S_t, R_t, B_t, A_t_0, h_t_1, A_t_1, h_t_3, A_t_2, S_t_5, R_t_5, B_t_5, A_t_3, S_t_6, R_t_6, B_t_6, A_t_4, h_t_7, A_t_5, S_t_9, R_t_9, B_t_9, A_t_7, S_t_10, R_t_10, B_t_10, A_t_8, h_t_11, A_t_9, S_t_13, R_t_13, B_t_13, A_t_10, S_t_14, R_t_14, B_t_14, A_t_12, S_t_15, R_t_15, B_t_15, A_t_14, S_t_16, R_t_16, B_t_16, A_t_15, h_t_17⟩ := id h_t
  replace R_t := gz_hi R_t
  replace B_t := gz_hi B_t
  replace R_t_5 := gz_hi R_t_5
  replace B_t_5 := gz_hi B_t_5
  replace R_t_6 := gz_hi R_t_6
  replace B_t_6 := gz_hi B_t_6
  replace R_t_9 := gz_hi R_t_9
  replace B_t_9 := gz_hi B_t_9
  replace R_t_10 := gz_hi R_t_10
  replace B_t_10 := gz_hi B_t_10
  replace R_t_13 := gz_hi R_t_13
  replace B_t_13 := gz_hi B_t_13
  replace R_t_14 := gz_hi R_t_14
  replace B_t_14 := gz_hi B_t_14
  replace R_t_15 := gz_hi R_t_15
  replace B_t_15 := gz_hi B_t_15
  replace R_t_16 := gz_hi R_t_16
  replace B_t_16 := gz_hi B_t_16
  obtain ⟨S_t_1, R_t_1, B_t_1, A_t_1_0, S_t_1_1, R_t_1_1, B_t_1_1, Q0_t_1, Q1_t_1, Q2_t_1⟩ := id h_t_1
  replace R_t_1 := gz_hi R_t_1
  replace B_t_1 := gz_hi B_t_1
  replace R_t_1_1 := gz_hi R_t_1_1
  replace B_t_1_1 := gz_hi B_t_1_1
  obtain ⟨S_t_3, R_t_3, B_t_3, A_t_3_0, S_t_3_1, R_t_3_1, B_t_3_1, Q0_t_3, Q1_t_3, Q2_t_3⟩ := id h_t_3
  replace R_t_3 := gz_hi R_t_3
  replace B_t_3 := gz_hi B_t_3
  replace R_t_3_1 := gz_hi R_t_3_1
  replace B_t_3_1 := gz_hi B_t_3_1
  obtain ⟨S_t_7, R_t_7, B_t_7, A_t_7_0, S_t_7_1, R_t_7_1, B_t_7_1, Q0_t_7, Q1_t_7, Q2_t_7⟩ := id h_t_7
  replace R_t_7 := gz_hi R_t_7
  replace B_t_7 := gz_hi B_t_7
  replace R_t_7_1 := gz_hi R_t_7_1
  replace B_t_7_1 := gz_hi B_t_7_1
  obtain ⟨S_t_11, R_t_11, B_t_11, A_t_11_0, S_t_11_1, R_t_11_1, B_t_11_1, Q0_t_11, Q1_t_11, Q2_t_11⟩ := id h_t_11
  replace R_t_11 := gz_hi R_t_11
  replace B_t_11 := gz_hi B_t_11
  replace R_t_11_1 := gz_hi R_t_11_1
  replace B_t_11_1 := gz_hi B_t_11_1
  obtain ⟨S_t_17, R_t_17, B_t_17, A_t_17_0, S_20, R_20, B_20, A_t_17_1, S_t_17_1, R_t_17_1, B_t_17_1, A_t_17_2, S_t_17_2, R_t_17_2, B_t_17_2, A_t_17_3, S_t_17_3, R_t_17_3, B_t_17_3, A_t_17_4, S_t_17_4, R_t_17_4, B_t_17_4, A_t_17_5, S_t_17_5, R_t_17_5, B_t_17_5, S_t_17_6, R_t_17_6, B_t_17_6, S_t_17_7, R_t_17_7, B_t_17_7⟩ := id h_t_17
  replace R_t_17 := gz_hi R_t_17
  replace B_t_17 := gz_hi B_t_17
  replace R_20 := gz_hi R_20
  replace B_20 := gz_hi B_20
  replace R_t_17_1 := gz_hi R_t_17_1
  replace B_t_17_1 := gz_hi B_t_17_1
  replace R_t_17_2 := gz_hi R_t_17_2
  replace B_t_17_2 := gz_hi B_t_17_2
  replace R_t_17_3 := gz_hi R_t_17_3
  replace B_t_17_3 := gz_hi B_t_17_3
  replace R_t_17_4 := gz_hi R_t_17_4
  replace B_t_17_4 := gz_hi B_t_17_4
  replace R_t_17_5 := gz_hi R_t_17_5
  replace B_t_17_5 := gz_hi B_t_17_5
  replace R_t_17_6 := gz_hi R_t_17_6
  replace B_t_17_6 := gz_hi B_t_17_6
  replace R_t_17_7 := gz_hi R_t_17_7
  replace B_t_17_7 := gz_hi B_t_17_7
  have hD : gv_D (gc_E8 ws0 tb 8 (yX8_makeTongue, cX8_makeTongue, 4, none) kX8_makeTongue) := gq_of oX8_makeTongue
  have N_8__t_1 := gz_hi (show gc_ne 8 (t + 1) from (show ¬ (8 = (t + 1)) by (/-0-/first | (have o1 := gz_sh B_t; have o2 := gz_sh B_t_10; have o3 := gz_sh B_t_13; have o4 := gz_sh B_t_14; have o5 := gz_sh B_t_15; have o6 := gz_sh B_t_16; have o7 := gz_sh B_t_17; have o8 := gz_sh B_t_17_1; have o9 := gz_sh B_t_17_2; have o10 := gz_sh B_t_17_3; have o11 := gz_sh B_t_17_4; have o12 := gz_sh B_t_17_5; have o13 := gz_sh B_t_17_6; have o14 := gz_sh B_t_17_7; have o15 := gz_sh B_t_5; have o16 := gz_sh B_t_6; have o17 := gz_sh B_t_9; omega) | (simp only [gz_hd] at *; omega))))
  have N_8__t_3 := gz_hi (show gc_ne 8 (t + 3) from (show ¬ (8 = (t + 3)) by (/-1-/first | (have o1 := gz_sh B_t; have o2 := gz_sh B_t_10; have o3 := gz_sh B_t_13; have o4 := gz_sh B_t_14; have o5 := gz_sh B_t_15; have o6 := gz_sh B_t_16; have o7 := gz_sh B_t_17; have o8 := gz_sh B_t_17_1; have o9 := gz_sh B_t_17_2; have o10 := gz_sh B_t_17_3; have o11 := gz_sh B_t_17_4; have o12 := gz_sh B_t_17_5; have o13 := gz_sh B_t_17_6; have o14 := gz_sh B_t_17_7; have o15 := gz_sh B_t_5; have o16 := gz_sh B_t_6; have o17 := gz_sh B_t_9; omega) | (simp only [gz_hd] at *; omega))))
  have N_8__t_7 := gz_hi (show gc_ne 8 (t + 7) from (show ¬ (8 = (t + 7)) by (/-2-/first | (have o1 := gz_sh B_t; have o2 := gz_sh B_t_10; have o3 := gz_sh B_t_13; have o4 := gz_sh B_t_14; have o5 := gz_sh B_t_15; have o6 := gz_sh B_t_16; have o7 := gz_sh B_t_17; have o8 := gz_sh B_t_17_1; have o9 := gz_sh B_t_17_2; have o10 := gz_sh B_t_17_3; have o11 := gz_sh B_t_17_4; have o12 := gz_sh B_t_17_5; have o13 := gz_sh B_t_17_6; have o14 := gz_sh B_t_17_7; have o15 := gz_sh B_t_5; have o16 := gz_sh B_t_6; have o17 := gz_sh B_t_9; omega) | (simp only [gz_hd] at *; omega))))
  have N_8__t_11 := gz_hi (show gc_ne 8 (t + 11) from (show ¬ (8 = (t + 11)) by (/-3-/first | (have o1 := gz_sh B_t; have o2 := gz_sh B_t_10; have o3 := gz_sh B_t_13; have o4 := gz_sh B_t_14; have o5 := gz_sh B_t_15; have o6 := gz_sh B_t_16; have o7 := gz_sh B_t_17; have o8 := gz_sh B_t_17_1; have o9 := gz_sh B_t_17_2; have o10 := gz_sh B_t_17_3; have o11 := gz_sh B_t_17_4; have o12 := gz_sh B_t_17_5; have o13 := gz_sh B_t_17_6; have o14 := gz_sh B_t_17_7; have o15 := gz_sh B_t_5; have o16 := gz_sh B_t_6; have o17 := gz_sh B_t_9; omega) | (simp only [gz_hd] at *; omega))))
  have N_t_1__8 := gz_hi (show gc_ne (t + 1) 8 from (show ¬ ((t + 1) = 8) by (/-4-/first | (have o1 := gz_sh B_t; have o2 := gz_sh B_t_10; have o3 := gz_sh B_t_13; have o4 := gz_sh B_t_14; have o5 := gz_sh B_t_15; have o6 := gz_sh B_t_16; have o7 := gz_sh B_t_17; have o8 := gz_sh B_t_17_1; have o9 := gz_sh B_t_17_2; have o10 := gz_sh B_t_17_3; have o11 := gz_sh B_t_17_4; have o12 := gz_sh B_t_17_5; have o13 := gz_sh B_t_17_6; have o14 := gz_sh B_t_17_7; have o15 := gz_sh B_t_5; have o16 := gz_sh B_t_6; have o17 := gz_sh B_t_9; omega) | (simp only [gz_hd] at *; omega))))
  have N_t_3__8 := gz_hi (show gc_ne (t + 3) 8 from (show ¬ ((t + 3) = 8) by (/-5-/first | (have o1 := gz_sh B_t; have o2 := gz_sh B_t_10; have o3 := gz_sh B_t_13; have o4 := gz_sh B_t_14; have o5 := gz_sh B_t_15; have o6 := gz_sh B_t_16; have o7 := gz_sh B_t_17; have o8 := gz_sh B_t_17_1; have o9 := gz_sh B_t_17_2; have o10 := gz_sh B_t_17_3; have o11 := gz_sh B_t_17_4; have o12 := gz_sh B_t_17_5; have o13 := gz_sh B_t_17_6; have o14 := gz_sh B_t_17_7; have o15 := gz_sh B_t_5; have o16 := gz_sh B_t_6; have o17 := gz_sh B_t_9; omega) | (simp only [gz_hd] at *; omega))))
  have N_t_7__8 := gz_hi (show gc_ne (t + 7) 8 from (show ¬ ((t + 7) = 8) by (/-6-/first | (have o1 := gz_sh B_t; have o2 := gz_sh B_t_10; have o3 := gz_sh B_t_13; have o4 := gz_sh B_t_14; have o5 := gz_sh B_t_15; have o6 := gz_sh B_t_16; have o7 := gz_sh B_t_17; have o8 := gz_sh B_t_17_1; have o9 := gz_sh B_t_17_2; have o10 := gz_sh B_t_17_3; have o11 := gz_sh B_t_17_4; have o12 := gz_sh B_t_17_5; have o13 := gz_sh B_t_17_6; have o14 := gz_sh B_t_17_7; have o15 := gz_sh B_t_5; have o16 := gz_sh B_t_6; have o17 := gz_sh B_t_9; omega) | (simp only [gz_hd] at *; omega))))
  have N_t_11__8 := gz_hi (show gc_ne (t + 11) 8 from (show ¬ ((t + 11) = 8) by (/-7-/first | (have o1 := gz_sh B_t; have o2 := gz_sh B_t_10; have o3 := gz_sh B_t_13; have o4 := gz_sh B_t_14; have o5 := gz_sh B_t_15; have o6 := gz_sh B_t_16; have o7 := gz_sh B_t_17; have o8 := gz_sh B_t_17_1; have o9 := gz_sh B_t_17_2; have o10 := gz_sh B_t_17_3; have o11 := gz_sh B_t_17_4; have o12 := gz_sh B_t_17_5; have o13 := gz_sh B_t_17_6; have o14 := gz_sh B_t_17_7; have o15 := gz_sh B_t_5; have o16 := gz_sh B_t_6; have o17 := gz_sh B_t_9; omega) | (simp only [gz_hd] at *; omega))))
  refine gv_run 1 true hD (pcₚ := 42) (lvₚ := [(0, .inr (.inr (some 1))), (1, .inr (.inl a1)), (3, .inl a2)]) (stₚ := [.inr (.inr (some 1))]) (hₚ := gc_h sh I J A) (C := (True ∧ True)) rfl ⟨trivial, trivial⟩ ?_
  refine gv_get hD rfl rfl S_1 ⟨by decide, (gz_sh B_1)⟩ (gc_hA S_1 rfl A_1_4) ?_
  show gv_X _ _ (45, [(0, .inr (.inr (some 1))), (1, .inr (.inl a1)), (3, .inl a2)], [.inr (.inr (some 10))], sh, gc_h sh I J A)
  refine gv_run 1 true hD (pcₚ := 46) (lvₚ := [(0, .inr (.inr (some 1))), (1, .inr (.inl a1)), (3, .inl a2)]) (stₚ := [.inl a2, .inr (.inr (some 10))]) (hₚ := gc_h sh I J A) (C := (True ∧ True)) rfl ⟨trivial, trivial⟩ ?_
  refine gv_aald hD rfl S_10 ⟨by decide, by decide⟩ ⟨by decide, (gz_sh B_10)⟩ ⟨by (/-8-/first | omega | (simp only [gz_hd] at *; omega)), by (/-9-/first | omega | (simp only [gz_hd] at *; omega))⟩ ((gc_aA S_10 rfl).trans x0) ?_
  show gv_X _ _ (47, [(0, .inr (.inr (some 1))), (1, .inr (.inl a1)), (3, .inl a2)], [.inr (.inr (some t))], sh, gc_h sh I J A)
  obtain ⟨r10, h10, E10, P10⟩ := d_X11_forgetAll_w (ws0 := ws0) (tb := tb) hws htb sh ro I J A hI t  h_t     
  obtain ⟨I11, J12, rfl, hI11, g10, k10, ⟨rfl, q10⟩⟩ := P10
  replace q10 := gz_hi q10
  have FI11 := gc_frc (W := fun q j => (q = (t + 1) ∧ j = 1) ∨ (q = (t + 3) ∧ j = 1) ∨ (q = (t + 7) ∧ j = 1) ∨ (q = (t + 11) ∧ j = 1) ∨ (q = t ∧ j = 6) ∨ (q = t ∧ j = 11) ∨ (q = t ∧ j = 13) ∨ (q = 8 ∧ j = 1)) (V := fun q j => (q = (t + 1) ∧ j = 1) ∨ (q = (t + 3) ∧ j = 1) ∨ (q = (t + 7) ∧ j = 1) ∨ (q = (t + 11) ∧ j = 1) ∨ (q = t ∧ j = 6) ∨ (q = t ∧ j = 11) ∨ (q = t ∧ j = 13)) FI (fun q j h => (h.elim (fun h => (Or.inl h)) (fun h => (h.elim (fun h => (Or.inr (Or.inl h))) (fun h => (h.elim (fun h => (Or.inr (Or.inr (Or.inl h)))) (fun h => (h.elim (fun h => (Or.inr (Or.inr (Or.inr (Or.inl h))))) (fun h => (h.elim (fun h => (Or.inr (Or.inr (Or.inr (Or.inr (Or.inl h)))))) (fun h => (h.elim (fun h => (Or.inr (Or.inr (Or.inr (Or.inr (Or.inr (Or.inl h))))))) (fun h => (Or.inr (Or.inr (Or.inr (Or.inr (Or.inr (Or.inr (Or.inl h)))))))))))))))))))) g10
  have t13 := gz_hi ((g10 8 1).resolve_left (fun h => h.elim (fun h => absurd h.1 (gz_sh N_8__t_1)) (fun h => h.elim (fun h => absurd h.1 (gz_sh N_8__t_3)) (fun h => h.elim (fun h => absurd h.1 (gz_sh N_8__t_7)) (fun h => h.elim (fun h => absurd h.1 (gz_sh N_8__t_11)) (fun h => h.elim (fun h => absurd h.2 (by first | exact gz_ne rfl | decide)) (fun h => h.elim (fun h => absurd h.2 (by first | exact gz_ne rfl | decide)) (fun h => absurd h.2 (by first | exact gz_ne rfl | decide)))))))))
  obtain rfl : J = J12 := funext fun q => funext fun j => ((k10 q j).resolve_left id).symm
  refine gv_callV hD rfl (As := []) (st := []) rfl (gz_sh B_t) S_t rfl (gc_lV8 hws rfl) (Nat.le_of_ble_eq_true rfl) (gz_Ev_mono (d := 1) (by decide) E10) ?_
  show gv_X _ _ (50, [(0, .inr (.inr (some 1))), (1, .inr (.inl a1)), (3, .inl a2)], [], sh, gc_h sh I11 J A)
  refine gv_run 1 true hD (pcₚ := 51) (lvₚ := [(0, .inr (.inr (some 1))), (1, .inr (.inl a1)), (3, .inl a2)]) (stₚ := [.inr (.inr (some 1))]) (hₚ := gc_h sh I11 J A) (C := (True ∧ True)) rfl ⟨trivial, trivial⟩ ?_
  refine gv_get hD rfl rfl S_1 ⟨by decide, (gz_sh B_1)⟩ (gc_hA S_1 rfl A_1_3) ?_
  show gv_X _ _ (54, [(0, .inr (.inr (some 1))), (1, .inr (.inl a1)), (3, .inl a2)], [.inr (.inr (some 8))], sh, gc_h sh I11 J A)
  refine gv_run 1 true hD (pcₚ := 55) (lvₚ := [(0, .inr (.inr (some 1))), (1, .inr (.inl a1)), (3, .inl a2)]) (stₚ := [.inr (.inl a1), .inr (.inr (some 8))]) (hₚ := gc_h sh I11 J A) (C := (True ∧ True)) rfl ⟨trivial, trivial⟩ ?_
  obtain ⟨r21, h21, E21, P21⟩ := d_X4_put_p (ws0 := ws0) (tb := tb) hws htb sh ro I11 J A hI11 8 8 6 a1 (gc_b8 hb)     
  obtain ⟨I22, J23, rfl, hI22, g21, k21, ⟨rfl, q21⟩⟩ := P21
  replace q21 := gz_hi q21
  have FI22 := gc_frc (W := fun q j => (q = (t + 1) ∧ j = 1) ∨ (q = (t + 3) ∧ j = 1) ∨ (q = (t + 7) ∧ j = 1) ∨ (q = (t + 11) ∧ j = 1) ∨ (q = t ∧ j = 6) ∨ (q = t ∧ j = 11) ∨ (q = t ∧ j = 13) ∨ (q = 8 ∧ j = 1)) (V := fun q j => (q = 8 ∧ j = 1)) FI11 (fun q j h => (Or.inr (Or.inr (Or.inr (Or.inr (Or.inr (Or.inr (Or.inr h)))))))) g21
  have FJ23 := gc_frc (W := fun q j => q = 9) (V := fun q j => q = 9) FJ (fun q j h => h) k21
  have t24 := gz_hi ((g21 (t + 1) 1).resolve_left (fun h => absurd h.1 (gz_sh N_t_1__8)))
  have t25 := gz_hi ((g21 (t + 3) 1).resolve_left (fun h => absurd h.1 (gz_sh N_t_3__8)))
  have t26 := gz_hi ((g21 (t + 7) 1).resolve_left (fun h => absurd h.1 (gz_sh N_t_7__8)))
  have t27 := gz_hi ((g21 (t + 11) 1).resolve_left (fun h => absurd h.1 (gz_sh N_t_11__8)))
  have t28 := gz_hi ((g21 t 6).resolve_left (fun h => absurd h.2 (by first | exact gz_ne rfl | decide)))
  have t29 := gz_hi ((g21 t 11).resolve_left (fun h => absurd h.2 (by first | exact gz_ne rfl | decide)))
  have t30 := gz_hi ((g21 t 13).resolve_left (fun h => absurd h.2 (by first | exact gz_ne rfl | decide)))
  refine gv_callV hD rfl (As := [.inr (.inl a1)]) (st := []) rfl (gz_sh B_8) S_8 rfl (gc_lV8 hws rfl) (Nat.le_of_ble_eq_true rfl) (gz_Ev_mono (d := 1) (by decide) E21) ?_
  show gv_X _ _ (58, [(0, .inr (.inr (some 1))), (1, .inr (.inl a1)), (3, .inl a2)], [], sh, gc_h sh I22 J23 A)
  exact gv_vret hD rfl ⟨I22, J23, rfl, hI22, FI22, FJ23, ⟨rfl, by (/-10-/first | (have o1 := gz_sh q10; have o2 := gz_sh t24; omega) | (simp only [gz_hd] at *; omega)), by (/-11-/first | (have o1 := gz_sh q10; have o2 := gz_sh t25; omega) | (simp only [gz_hd] at *; omega)), by (/-12-/first | (have o1 := gz_sh q10; have o2 := gz_sh t26; omega) | (simp only [gz_hd] at *; omega)), by (/-13-/first | (have o1 := gz_sh q10; have o2 := gz_sh t27; omega) | (simp only [gz_hd] at *; omega)), by (/-14-/first | (have o1 := gz_sh q10; have o2 := gz_sh t28; omega) | (simp only [gz_hd] at *; omega)), by (/-15-/first | (have o1 := gz_sh q10; have o2 := gz_sh t29; omega) | (simp only [gz_hd] at *; omega)), by (/-16-/first | (have o1 := gz_sh q10; have o2 := gz_sh t30; omega) | (simp only [gz_hd] at *; omega)), by (/-17-/first | (have o1 := gz_sh q21; have o2 := gz_sh t13; omega) | (simp only [gz_hd] at *; omega)), (gc_PU_tr (gz_sh q21).2.2.2 ((g10 8 1).resolve_left (fun h => h.elim (fun h => absurd h.1 (gz_sh N_8__t_1)) (fun h => h.elim (fun h => absurd h.1 (gz_sh N_8__t_3)) (fun h => h.elim (fun h => absurd h.1 (gz_sh N_8__t_7)) (fun h => h.elim (fun h => absurd h.1 (gz_sh N_8__t_11)) (fun h => h.elim (fun h => absurd h.2 (by first | exact gz_ne rfl | decide)) (fun h => h.elim (fun h => absurd h.2 (by first | exact gz_ne rfl | decide)) (fun h => absurd h.2 (by first | exact gz_ne rfl | decide))))))))) (fun j => rfl) rfl)⟩⟩
set_option maxHeartbeats 8000000 in
set_option maxRecDepth 100000 in
theorem d_X6_readTongue_h_p {ws0 : List Cond} {tb : String → gz_T} (hws : gc_Ws ws0) (htb : gc_tbs tb) (sh : gz_Sh) (ro : Nat → Nat) (I : gr_I) (J : gr_J) (A : gc_A) (hI : gc_Inv ro I) (β : Int → Int) (η : Int) (p9 : Int) (Ir : gr_I) (Jr : gr_J)  (hb : gc_Base sh ro A)  (x0 : gc_AT β η p9 23 I J) (x1 : 0 ≤ p9) (x2 : I 1 18 = 0) (x3 : I 8 1 = Ir 0 1) (x4 : gs_NA (I 8 1) (J 9) (Jr 1)) (KLT_I : gc_LT I) (KTK_I : gc_TK I) {Q : gz_S → Prop} (hQ : ∀ v, gv_Q cX6_readTongue (some .boolean) sh (fun r hₚ => (∃ (Iₚ : gr_I) (Jₚ : gr_J), hₚ = gc_h sh Iₚ Jₚ A ∧ gc_Inv ro Iₚ ∧ (∀ q j : Nat, ((q = 39 ∧ j = 3) ∨ (q = 39 ∧ j = 4) ∨ (q = 23 ∧ j = 5) ∨ (q = 23 ∧ j = 6) ∨ (q = 23 ∧ j = 7) ∨ (q = 23 ∧ j = 8) ∨ (q = 1 ∧ j = 5)) ∨ Iₚ q j = I q j) ∧ (∀ q j : Nat, ((q = 23 ∧ j = 9)) ∨ Jₚ q j = J q j) ∧ gc_LT Iₚ ∧ gc_TK Iₚ ∧ (∃ z : Int, r = some (.inl z) ∧ 0 ≤ z ∧ z ≤ 1 ∧ (Iₚ 23 1 = I 23 1) ∧ (I 23 5 ≤ Iₚ 23 5) ∧ (z = 0 ∨ (0 ≤ Iₚ 1 5 ∧ Iₚ 1 5 < I 8 1)) ∧ (z = 1 ∨ Iₚ 1 5 = I 1 5) ∧ (gs_Or z (0 ≤ (gs_tong β η Ir Jr (I 39 5) p9) ∧ gc_AT β η (gs_tong β η Ir Jr (I 39 5) p9) 23 Iₚ Jₚ ∧ (0 ≤ (gs_lk Ir Jr 1 1 (gs_rn β η p9)) ∧ Iₚ 1 5 = (gs_lk Ir Jr 1 1 (gs_rn β η p9)) ∧ Iₚ 1 18 = 0)) ((gs_tong β η Ir Jr (I 39 5) p9) < 0 ∧ Iₚ 39 4 = -1 - (gs_tong β η Ir Jr (I 39 5) p9)))))) v → Q v) (L88 : ∀ (I10 : gr_I) (J11 : gr_J) (v1_12 : Int64) (v3_12 : Int) (s1_12 : Int64), gc_Inv ro I10 → (∀ q j : Nat, ((q = 39 ∧ j = 3) ∨ (q = 39 ∧ j = 4) ∨ (q = 23 ∧ j = 5) ∨ (q = 23 ∧ j = 6) ∨ (q = 23 ∧ j = 7) ∨ (q = 23 ∧ j = 8) ∨ (q = 1 ∧ j = 5)) ∨ I10 q j = I q j) → (∀ q j : Nat, ((q = 23 ∧ j = 9)) ∨ J11 q j = J q j) → gc_LT I10 → gc_TK I10 → ((0 ≤ v3_12 ∧ v3_12 ≤ 8) ∧ (v3_12 = I 8 1) ∧ (I 8 1 ≤ 7) ∧ (I10 1 5 = I 1 5) ∧ ((gs_lk Ir Jr 1 1 (gs_rn β η p9)) < 0) ∧ (I10 1 18 = 0) ∧ (I10 23 1 = I 23 1) ∧ (I 23 5 ≤ I10 23 5) ∧ (I10 8 1 = I 8 1)) → (0 ≤ (gs_tong β η Ir Jr (I 39 5) p9) ∧ gc_AT β η (gs_tong β η Ir Jr (I 39 5) p9) 23 I10 J11) → (s1_12 = gs_M β η p9) → gv_X (gc_E6 ws0 tb 9 (yX6_readTongue, cX6_readTongue, 4, (some .boolean)) kX6_readTongue) Q (88, [(0, .inr (.inr (some 39))), (1, .inr (.inl v1_12)), (3, .inl v3_12)], [.inr (.inl s1_12), .inr (.inr (some 1))], sh, gc_h sh I10 J11 A)) : gv_X (gc_E6 ws0 tb 9 (yX6_readTongue, cX6_readTongue, 4, (some .boolean)) kX6_readTongue) Q (0, [(0, .inr (.inr (some 39)))], [], sh, gc_h sh I J A) := by
  have FI : ∀ q j : Nat, ((q = 39 ∧ j = 3) ∨ (q = 39 ∧ j = 4) ∨ (q = 23 ∧ j = 5) ∨ (q = 23 ∧ j = 6) ∨ (q = 23 ∧ j = 7) ∨ (q = 23 ∧ j = 8) ∨ (q = 1 ∧ j = 5)) ∨ I q j = I q j := fun _ _ => Or.inr rfl
  have FJ : ∀ q j : Nat, ((q = 23 ∧ j = 9)) ∨ J q j = J q j := fun _ _ => Or.inr rfl
  have A_1_3 : A 1 3 = some 8 := gc_bA_1_3 hb
  have A_39_0 : A 39 0 = some 1 := gc_bA_39_0 hb
  have A_39_1 : A 39 1 = some 23 := gc_bA_39_1 hb
  have B_1 := gz_hi (show 1 < 1000000 from by decide)
  have B_23 := gz_hi (show 23 < 1000000 from by decide)
  have B_39 := gz_hi (show 39 < 1000000 from by decide)
  have B_8 := gz_hi (show 8 < 1000000 from by decide)
  have R_1 := gz_hi (show ro 1 = 22 from gc_bR_1 hb)
  have R_23 := gz_hi (show ro 23 = 3 from gc_bR_23 hb)
  have R_39 := gz_hi (show ro 39 = 42 from gc_bR_39 hb)
  have R_8 := gz_hi (show ro 8 = 6 from gc_bR_8 hb)
  have S_1 : sh[1]? = some (false, 8, 21) := gc_bS_1 hb
  have S_23 : sh[23]? = some (false, 9, 10) := gc_bS_23 hb
  have S_39 : sh[39]? = some (false, 6, 19) := gc_bS_39 hb
  have S_8 : sh[8]? = some (false, 4, 2) := gc_bS_8 hb
  have hD : gv_D (gc_E6 ws0 tb 9 (yX6_readTongue, cX6_readTongue, 4, (some .boolean)) kX6_readTongue) := gq_of oX6_readTongue
  have t1 := gz_hi (gc_TK_mo KTK_I)
  have f3 := gz_hi ((gc_b_3_5 hI (gz_sh R_23)))
  have f4 := gz_hi ((gc_b_3_6 hI (gz_sh R_23)))
  have f6 := gz_hi ((gc_b_6_1 hI (gz_sh R_8)))
  have tAT := gc_AT_l x0
  refine gv_run 2 true hD (pcₚ := 2) (lvₚ := [(0, .inr (.inr (some 39)))]) (stₚ := [.inl 1, .inr (.inr (some 39))]) (hₚ := gc_h sh I J A) (C := ((True ∧ True) ∧ True)) rfl ⟨⟨trivial, trivial⟩, trivial⟩ ?_
  obtain ⟨r13, h13, E13, P13⟩ := d_X6_need_p (ws0 := ws0) (tb := tb) hws htb sh ro I J A hI  β η p9 1 hb   ⟨by (/-0-/first | omega | (simp only [gz_hd] at *; omega)), by (/-1-/first | omega | (simp only [gz_hd] at *; omega))⟩ x0 (by (/-2-/first | omega | (simp only [gz_hd] at *; omega))) 
  obtain ⟨I14, J15, rfl, hI14, g13, k13, ⟨z13, rfl, q13⟩⟩ := P13
  replace q13 := gz_hi q13
  have FI14 := gc_frc (W := fun q j => (q = 39 ∧ j = 3) ∨ (q = 39 ∧ j = 4) ∨ (q = 23 ∧ j = 5) ∨ (q = 23 ∧ j = 6) ∨ (q = 23 ∧ j = 7) ∨ (q = 23 ∧ j = 8) ∨ (q = 1 ∧ j = 5)) (V := fun q j => (q = 39 ∧ j = 3) ∨ (q = 39 ∧ j = 4)) FI (fun q j h => (h.elim (fun h => (Or.inl h)) (fun h => (Or.inr (Or.inl h))))) g13
  have t16 := gz_hi ((g13 23 1).resolve_left (fun h => h.elim (fun h => absurd h.2 (by first | exact gz_ne rfl | decide)) (fun h => absurd h.2 (by first | exact gz_ne rfl | decide))))
  have t17 := gz_hi ((g13 23 5).resolve_left (fun h => h.elim (fun h => absurd h.2 (by first | exact gz_ne rfl | decide)) (fun h => absurd h.2 (by first | exact gz_ne rfl | decide))))
  have t18 := gz_hi ((g13 23 6).resolve_left (fun h => h.elim (fun h => absurd h.2 (by first | exact gz_ne rfl | decide)) (fun h => absurd h.2 (by first | exact gz_ne rfl | decide))))
  have t19 := gz_hi ((g13 23 7).resolve_left (fun h => h.elim (fun h => absurd h.2 (by first | exact gz_ne rfl | decide)) (fun h => absurd h.2 (by first | exact gz_ne rfl | decide))))
  have t20 := gz_hi ((g13 8 1).resolve_left (fun h => h.elim (fun h => absurd h.2 (by first | exact gz_ne rfl | decide)) (fun h => absurd h.2 (by first | exact gz_ne rfl | decide))))
  have t21 := gz_hi ((g13 1 5).resolve_left (fun h => h.elim (fun h => absurd h.2 (by first | exact gz_ne rfl | decide)) (fun h => absurd h.2 (by first | exact gz_ne rfl | decide))))
  have t22 := gz_hi ((g13 39 5).resolve_left (fun h => h.elim (fun h => absurd h.2 (by first | exact gz_ne rfl | decide)) (fun h => absurd h.2 (by first | exact gz_ne rfl | decide))))
  have t23 := gz_hi ((g13 1 18).resolve_left (fun h => h.elim (fun h => absurd h.2 (by first | exact gz_ne rfl | decide)) (fun h => absurd h.2 (by first | exact gz_ne rfl | decide))))
  obtain rfl : J = J15 := funext fun q => funext fun j => ((k13 q j).resolve_left id).symm
  have KLT_I14 := gc_LT_fr KLT_I ((g13 23 5).resolve_left (fun h => h.elim (fun h => absurd h.2 (by first | exact gz_ne rfl | decide)) (fun h => absurd h.2 (by first | exact gz_ne rfl | decide)))) ((g13 23 6).resolve_left (fun h => h.elim (fun h => absurd h.2 (by first | exact gz_ne rfl | decide)) (fun h => absurd h.2 (by first | exact gz_ne rfl | decide)))) ((g13 23 7).resolve_left (fun h => h.elim (fun h => absurd h.2 (by first | exact gz_ne rfl | decide)) (fun h => absurd h.2 (by first | exact gz_ne rfl | decide)))) (fun k => (g13 24 k).resolve_left (fun h => h.elim (fun h => absurd h.1 (by first | exact gz_ne rfl | decide)) (fun h => absurd h.1 (by first | exact gz_ne rfl | decide))))
  have KTK_I14 := gc_TK_fr KTK_I ((g13 23 1).resolve_left (fun h => h.elim (fun h => absurd h.2 (by first | exact gz_ne rfl | decide)) (fun h => absurd h.2 (by first | exact gz_ne rfl | decide)))) ((g13 23 5).resolve_left (fun h => h.elim (fun h => absurd h.2 (by first | exact gz_ne rfl | decide)) (fun h => absurd h.2 (by first | exact gz_ne rfl | decide)))) ((g13 23 6).resolve_left (fun h => h.elim (fun h => absurd h.2 (by first | exact gz_ne rfl | decide)) (fun h => absurd h.2 (by first | exact gz_ne rfl | decide)))) ((g13 23 7).resolve_left (fun h => h.elim (fun h => absurd h.2 (by first | exact gz_ne rfl | decide)) (fun h => absurd h.2 (by first | exact gz_ne rfl | decide))))
  have A24 := gc_AT_I x0 ((g13 23 1).resolve_left (fun h => h.elim (fun h => absurd h.2 (by first | exact gz_ne rfl | decide)) (fun h => absurd h.2 (by first | exact gz_ne rfl | decide)))) ((g13 23 5).resolve_left (fun h => h.elim (fun h => absurd h.2 (by first | exact gz_ne rfl | decide)) (fun h => absurd h.2 (by first | exact gz_ne rfl | decide)))) ((g13 23 6).resolve_left (fun h => h.elim (fun h => absurd h.2 (by first | exact gz_ne rfl | decide)) (fun h => absurd h.2 (by first | exact gz_ne rfl | decide)))) ((g13 23 7).resolve_left (fun h => h.elim (fun h => absurd h.2 (by first | exact gz_ne rfl | decide)) (fun h => absurd h.2 (by first | exact gz_ne rfl | decide)))) ((g13 23 8).resolve_left (fun h => h.elim (fun h => absurd h.2 (by first | exact gz_ne rfl | decide)) (fun h => absurd h.2 (by first | exact gz_ne rfl | decide)))) (fun k => (g13 24 k).resolve_left (fun h => h.elim (fun h => absurd h.1 (by first | exact gz_ne rfl | decide)) (fun h => absurd h.1 (by first | exact gz_ne rfl | decide))))
  refine gv_callV hD rfl (As := [.inl 1]) (st := []) rfl (gz_sh B_39) S_39 rfl (gc_lV6 hws rfl) (Nat.le_of_ble_eq_true rfl) (gz_Ev_mono (d := 2) (by decide) E13) ?_
  show gv_X _ _ (5, [(0, .inr (.inr (some 39)))], [.inl z13], sh, gc_h sh I14 J A)
  refine gv_if_ne (t := 10) hD rfl rfl ⟨by (/-3-/first | (have o1 := gz_sh q13; omega) | (simp only [gz_hd] at *; omega)), by (/-4-/first | (have o1 := gz_sh q13; omega) | (simp only [gz_hd] at *; omega))⟩ (fun c26 => ?_) (fun c26 => ?_)
  · show gv_X _ _ (10, [(0, .inr (.inr (some 39)))], [], sh, gc_h sh I14 J A)
    have u27 := gs_or1 (gz_sh q13).2.2.2 (by (/-5-/first | omega | (simp only [gz_hd] at *; omega)))
    have tM := gc_AT_m A24 (by (/-6-/first | omega | (simp only [gz_hd] at *; omega)))
    refine gv_run 1 true hD (pcₚ := 11) (lvₚ := [(0, .inr (.inr (some 39)))]) (stₚ := [.inr (.inr (some 39))]) (hₚ := gc_h sh I14 J A) (C := (True ∧ True)) rfl ⟨trivial, trivial⟩ ?_
    refine gv_get hD rfl rfl S_39 ⟨by decide, (gz_sh B_39)⟩ (gc_hA S_39 rfl A_39_1) ?_
    show gv_X _ _ (14, [(0, .inr (.inr (some 39)))], [.inr (.inr (some 23))], sh, gc_h sh I14 J A)
    refine gv_get hD rfl rfl S_23 ⟨by decide, (gz_sh B_23)⟩ (gc_hJ S_23 rfl) ?_
    show gv_X _ _ (17, [(0, .inr (.inr (some 39)))], [.inr (.inl (J 23 9))], sh, gc_h sh I14 J A)
    refine gv_run 2 true hD (pcₚ := 19) (lvₚ := [(1, .inr (.inl (J 23 9))), (0, .inr (.inr (some 39)))]) (stₚ := [.inr (.inr (some 39))]) (hₚ := gc_h sh I14 J A) (C := ((True ∧ True) ∧ True)) rfl ⟨⟨trivial, trivial⟩, trivial⟩ ?_
    refine gv_get hD rfl rfl S_39 ⟨by decide, (gz_sh B_39)⟩ (gc_hA S_39 rfl A_39_0) ?_
    show gv_X _ _ (22, [(1, .inr (.inl (J 23 9))), (0, .inr (.inr (some 39)))], [.inr (.inr (some 1))], sh, gc_h sh I14 J A)
    refine gv_get hD rfl rfl S_1 ⟨by decide, (gz_sh B_1)⟩ (gc_hA S_1 rfl A_1_3) ?_
    show gv_X _ _ (25, [(1, .inr (.inl (J 23 9))), (0, .inr (.inr (some 39)))], [.inr (.inr (some 8))], sh, gc_h sh I14 J A)
    refine gv_run 1 true hD (pcₚ := 26) (lvₚ := [(1, .inr (.inl (J 23 9))), (0, .inr (.inr (some 39)))]) (stₚ := [.inr (.inl (J 23 9)), .inr (.inr (some 8))]) (hₚ := gc_h sh I14 J A) (C := (True ∧ True)) rfl ⟨trivial, trivial⟩ ?_
    obtain ⟨r28, h28, E28, P28⟩ := d_X4_find (ws0 := ws0) (tb := tb) hws htb sh ro I14 J A hI14 8 8 6 (J 23 9) (gc_b8 hb)     
    obtain ⟨rfl, ⟨z28, rfl, q28⟩⟩ := P28
    replace q28 := gz_hi q28
    have t29 : z28 = gs_lk Ir Jr 1 1 (gs_rn β η p9) := (gz_sh q28).2.2.2.trans (by rw [gc_AT_m A24 (by (/-7-/first | omega | (simp only [gz_hd] at *; omega)))]; exact (show gs_T β η p9 = 1 → gc_fd (J (8 + 1)) (gs_M β η p9) (Int.toNat (I14 8 1)) = gs_lk Ir Jr 1 1 (gs_rn β η p9) from (fun h => by rw [show I14 8 1 = I 8 1 from ((g13 8 1).resolve_left (fun h => h.elim (fun h => absurd h.2 (by first | exact gz_ne rfl | decide)) (fun h => absurd h.2 (by first | exact gz_ne rfl | decide))))]; exact gs_NA_lk x4 x3 h)) (by (/-8-/first | omega | (simp only [gz_hd] at *; omega))))
    refine gv_callV hD rfl (As := [.inr (.inl (J 23 9))]) (st := []) rfl (gz_sh B_8) S_8 rfl (gc_lV6 hws rfl) (Nat.le_of_ble_eq_true rfl) (gz_Ev_mono (d := 1) (by decide) E28) ?_
    show gv_X _ _ (29, [(1, .inr (.inl (J 23 9))), (0, .inr (.inr (some 39)))], [.inl z28], sh, gc_h sh I14 J A)
    refine gv_run 2 true hD (pcₚ := 31) (lvₚ := [(3, .inl z28), (1, .inr (.inl (J 23 9))), (0, .inr (.inr (some 39)))]) (stₚ := [.inr (.inr (some 39))]) (hₚ := gc_h sh I14 J A) (C := ((True ∧ True) ∧ True)) rfl ⟨⟨trivial, trivial⟩, trivial⟩ ?_
    refine gv_get hD rfl rfl S_39 ⟨by decide, (gz_sh B_39)⟩ (gc_hA S_39 rfl A_39_1) ?_
    show gv_X _ _ (34, [(3, .inl z28), (1, .inr (.inl (J 23 9))), (0, .inr (.inr (some 39)))], [.inr (.inr (some 23))], sh, gc_h sh I14 J A)
    have t31 := gz_hi (gc_TK_nx KTK_I14 (by (/-9-/first | (have o1 := gz_sh t19; omega) | (simp only [gz_hd] at *; omega))))
    obtain ⟨r30, h30, E30, P30⟩ := d_X9_advance_p (ws0 := ws0) (tb := tb) hws htb sh ro I14 J A hI14 23 β η  (gc_b23 hb)    (by (/-10-/first | (have o1 := gz_sh t31; omega) | (simp only [gz_hd] at *; omega))) A24.1.1 A24.1.2 
    obtain ⟨I32, J33, rfl, hI32, g30, k30, ⟨rfl, V30_0, V30_1, V30_2, V30_3, V30_4, q30⟩⟩ := P30
    replace q30 := gz_hi q30
    have FI32 := gc_frc (W := fun q j => (q = 39 ∧ j = 3) ∨ (q = 39 ∧ j = 4) ∨ (q = 23 ∧ j = 5) ∨ (q = 23 ∧ j = 6) ∨ (q = 23 ∧ j = 7) ∨ (q = 23 ∧ j = 8) ∨ (q = 1 ∧ j = 5)) (V := fun q j => (q = 23 ∧ j = 5) ∨ (q = 23 ∧ j = 6) ∨ (q = 23 ∧ j = 7) ∨ (q = 23 ∧ j = 8)) FI14 (fun q j h => (h.elim (fun h => (Or.inr (Or.inr (Or.inl h)))) (fun h => (h.elim (fun h => (Or.inr (Or.inr (Or.inr (Or.inl h))))) (fun h => (h.elim (fun h => (Or.inr (Or.inr (Or.inr (Or.inr (Or.inl h)))))) (fun h => (Or.inr (Or.inr (Or.inr (Or.inr (Or.inr (Or.inl h))))))))))))) g30
    have FJ33 := gc_frc (W := fun q j => (q = 23 ∧ j = 9)) (V := fun q j => (q = 23 ∧ j = 9)) FJ (fun q j h => h) k30
    have t35 := gz_hi ((g30 8 1).resolve_left (fun h => h.elim (fun h => absurd h.2 (by first | exact gz_ne rfl | decide)) (fun h => h.elim (fun h => absurd h.2 (by first | exact gz_ne rfl | decide)) (fun h => h.elim (fun h => absurd h.2 (by first | exact gz_ne rfl | decide)) (fun h => absurd h.2 (by first | exact gz_ne rfl | decide))))))
    have t36 := gz_hi ((g30 1 5).resolve_left (fun h => h.elim (fun h => absurd h.1 (by first | exact gz_ne rfl | decide)) (fun h => h.elim (fun h => absurd h.2 (by first | exact gz_ne rfl | decide)) (fun h => h.elim (fun h => absurd h.2 (by first | exact gz_ne rfl | decide)) (fun h => absurd h.2 (by first | exact gz_ne rfl | decide))))))
    have t37 := gz_hi ((g30 39 5).resolve_left (fun h => h.elim (fun h => absurd h.1 (by first | exact gz_ne rfl | decide)) (fun h => h.elim (fun h => absurd h.2 (by first | exact gz_ne rfl | decide)) (fun h => h.elim (fun h => absurd h.2 (by first | exact gz_ne rfl | decide)) (fun h => absurd h.2 (by first | exact gz_ne rfl | decide))))))
    have t38 := gz_hi ((g30 1 18).resolve_left (fun h => h.elim (fun h => absurd h.2 (by first | exact gz_ne rfl | decide)) (fun h => h.elim (fun h => absurd h.2 (by first | exact gz_ne rfl | decide)) (fun h => h.elim (fun h => absurd h.2 (by first | exact gz_ne rfl | decide)) (fun h => absurd h.2 (by first | exact gz_ne rfl | decide))))))
    have KLT_I32 : gc_LT I32 := (gz_sh q30).2.2.1
    have KTK_I32 : gc_TK I32 := And.intro V30_0 (And.intro V30_1 (And.intro V30_2 (And.intro V30_3 V30_4)))
    clear V30_0 V30_1 V30_2 V30_3 V30_4
    have A43 := gc_AT_nx A24 (gz_sh q30).2.2.2
    have t44 := gz_hi (gc_AT_l A43)
    refine gv_callV hD rfl (As := []) (st := []) rfl (gz_sh B_23) S_23 rfl (gc_lV6 hws rfl) (Nat.le_of_ble_eq_true rfl) (gz_Ev_mono (d := 2) (by decide) E30) ?_
    show gv_X _ _ (37, [(3, .inl z28), (1, .inr (.inl (J 23 9))), (0, .inr (.inr (some 39)))], [], sh, gc_h sh I32 J33 A)
    refine gv_run 2 true hD (pcₚ := 39) (lvₚ := [(3, .inl z28), (1, .inr (.inl (J 23 9))), (0, .inr (.inr (some 39)))]) (stₚ := [.inl z28, .inr (.inr (some 39))]) (hₚ := gc_h sh I32 J33 A) (C := ((True ∧ True) ∧ True)) rfl ⟨⟨trivial, trivial⟩, trivial⟩ ?_
    refine gv_if_ge (t := 59) hD rfl rfl ⟨by (/-11-/first | (have o1 := gz_sh q28; omega) | (simp only [gz_hd] at *; omega)), by (/-12-/first | (have o1 := gz_sh q28; omega) | (simp only [gz_hd] at *; omega))⟩ (fun c45 => ?_) (fun c45 => ?_)
    · show gv_X _ _ (59, [(3, .inl z28), (1, .inr (.inl (J 23 9))), (0, .inr (.inr (some 39)))], [.inr (.inr (some 39))], sh, gc_h sh I32 J33 A)
      refine gv_run 1 true hD (pcₚ := 60) (lvₚ := [(3, .inl z28), (1, .inr (.inl (J 23 9))), (0, .inr (.inr (some 39)))]) (stₚ := [.inl 0, .inr (.inr (some 39))]) (hₚ := gc_h sh I32 J33 A) (C := (True ∧ True)) rfl ⟨trivial, trivial⟩ ?_
      obtain ⟨r46, h46, E46, P46⟩ := d_X6_closes_p (ws0 := ws0) (tb := tb) hws htb sh ro I32 J33 A hI32  β η (gs_X β η p9) 0 hb   ⟨by (/-13-/first | omega | (simp only [gz_hd] at *; omega)), by (/-14-/first | omega | (simp only [gz_hd] at *; omega))⟩ A43 (by (/-15-/first | (have o1 := gz_sh f4; omega) | (simp only [gz_hd] at *; omega))) (by (/-16-/first | (have o1 := gz_sh t23; have o2 := gz_sh t38; omega) | (simp only [gz_hd] at *; omega))) KLT_I32 KTK_I32
      obtain ⟨I47, J48, rfl, hI47, g46, k46, KLT_I47, KTK_I47, ⟨z46, rfl, q46⟩⟩ := P46
      replace q46 := gz_hi q46
      have FI47 := gc_frc (W := fun q j => (q = 39 ∧ j = 3) ∨ (q = 39 ∧ j = 4) ∨ (q = 23 ∧ j = 5) ∨ (q = 23 ∧ j = 6) ∨ (q = 23 ∧ j = 7) ∨ (q = 23 ∧ j = 8) ∨ (q = 1 ∧ j = 5)) (V := fun q j => (q = 39 ∧ j = 3) ∨ (q = 39 ∧ j = 4) ∨ (q = 23 ∧ j = 5) ∨ (q = 23 ∧ j = 6) ∨ (q = 23 ∧ j = 7) ∨ (q = 23 ∧ j = 8)) FI32 (fun q j h => (h.elim (fun h => (Or.inl h)) (fun h => (h.elim (fun h => (Or.inr (Or.inl h))) (fun h => (h.elim (fun h => (Or.inr (Or.inr (Or.inl h)))) (fun h => (h.elim (fun h => (Or.inr (Or.inr (Or.inr (Or.inl h))))) (fun h => (h.elim (fun h => (Or.inr (Or.inr (Or.inr (Or.inr (Or.inl h)))))) (fun h => (Or.inr (Or.inr (Or.inr (Or.inr (Or.inr (Or.inl h))))))))))))))))) g46
      have FJ48 := gc_frc (W := fun q j => (q = 23 ∧ j = 9)) (V := fun q j => (q = 23 ∧ j = 9)) FJ33 (fun q j h => h) k46
      have t50 := gz_hi ((g46 8 1).resolve_left (fun h => h.elim (fun h => absurd h.2 (by first | exact gz_ne rfl | decide)) (fun h => h.elim (fun h => absurd h.2 (by first | exact gz_ne rfl | decide)) (fun h => h.elim (fun h => absurd h.2 (by first | exact gz_ne rfl | decide)) (fun h => h.elim (fun h => absurd h.2 (by first | exact gz_ne rfl | decide)) (fun h => h.elim (fun h => absurd h.2 (by first | exact gz_ne rfl | decide)) (fun h => absurd h.2 (by first | exact gz_ne rfl | decide))))))))
      have t51 := gz_hi ((g46 1 5).resolve_left (fun h => h.elim (fun h => absurd h.2 (by first | exact gz_ne rfl | decide)) (fun h => h.elim (fun h => absurd h.2 (by first | exact gz_ne rfl | decide)) (fun h => h.elim (fun h => absurd h.1 (by first | exact gz_ne rfl | decide)) (fun h => h.elim (fun h => absurd h.2 (by first | exact gz_ne rfl | decide)) (fun h => h.elim (fun h => absurd h.2 (by first | exact gz_ne rfl | decide)) (fun h => absurd h.2 (by first | exact gz_ne rfl | decide))))))))
      have t53 := gz_hi ((g46 1 18).resolve_left (fun h => h.elim (fun h => absurd h.2 (by first | exact gz_ne rfl | decide)) (fun h => h.elim (fun h => absurd h.2 (by first | exact gz_ne rfl | decide)) (fun h => h.elim (fun h => absurd h.2 (by first | exact gz_ne rfl | decide)) (fun h => h.elim (fun h => absurd h.2 (by first | exact gz_ne rfl | decide)) (fun h => h.elim (fun h => absurd h.2 (by first | exact gz_ne rfl | decide)) (fun h => absurd h.2 (by first | exact gz_ne rfl | decide))))))))
      refine gv_callV hD rfl (As := [.inl 0]) (st := []) rfl (gz_sh B_39) S_39 rfl (gc_lV6 hws rfl) (Nat.le_of_ble_eq_true rfl) (gz_Ev_mono (d := 4) (by decide) E46) ?_
      show gv_X _ _ (63, [(3, .inl z28), (1, .inr (.inl (J 23 9))), (0, .inr (.inr (some 39)))], [.inl z46], sh, gc_h sh I47 J48 A)
      refine gv_if_ne (t := 68) hD rfl rfl ⟨by (/-17-/first | (have o1 := gz_sh q46; omega) | (simp only [gz_hd] at *; omega)), by (/-18-/first | (have o1 := gz_sh q46; omega) | (simp only [gz_hd] at *; omega))⟩ (fun c58 => ?_) (fun c58 => ?_)
      · show gv_X _ _ (68, [(3, .inl z28), (1, .inr (.inl (J 23 9))), (0, .inr (.inr (some 39)))], [], sh, gc_h sh I47 J48 A)
        have V59 := (gz_sh q46).2.2.2.2.2
        rw [show I32 39 5 = I 39 5 from by (/-19-/first | (have o1 := gz_sh t22; have o2 := gz_sh t37; omega) | (simp only [gz_hd] at *; omega))] at V59
        rw [show (if (0 : Int) = 0 then (1 : Int) else 0) = 1 from if_pos rfl] at V59
        obtain ⟨u59, A59⟩ := gs_or1 V59 (by (/-20-/first | omega | (simp only [gz_hd] at *; omega)))
        have t60 := gz_hi (gc_AT_l A59)
        refine gv_run 1 true hD (pcₚ := 69) (lvₚ := [(3, .inl z28), (1, .inr (.inl (J 23 9))), (0, .inr (.inr (some 39)))]) (stₚ := [.inl z28]) (hₚ := gc_h sh I47 J48 A) (C := (True ∧ True)) rfl ⟨trivial, trivial⟩ ?_
        refine gv_if_ge (t := 91) hD rfl rfl ⟨by (/-21-/first | omega | (simp only [gz_hd] at *; omega)), by (/-22-/first | (have o1 := gz_sh q28; omega) | (simp only [gz_hd] at *; omega))⟩ (fun c61 => ?_) (fun c61 => ?_)
        · show gv_X _ _ (91, [(3, .inl z28), (1, .inr (.inl (J 23 9))), (0, .inr (.inr (some 39)))], [], sh, gc_h sh I47 J48 A)
          refine gv_run 1 true hD (pcₚ := 92) (lvₚ := [(3, .inl z28), (1, .inr (.inl (J 23 9))), (0, .inr (.inr (some 39)))]) (stₚ := [.inr (.inr (some 39))]) (hₚ := gc_h sh I47 J48 A) (C := (True ∧ True)) rfl ⟨trivial, trivial⟩ ?_
          refine gv_get hD rfl rfl S_39 ⟨by decide, (gz_sh B_39)⟩ (gc_hA S_39 rfl A_39_0) ?_
          show gv_X _ _ (95, [(3, .inl z28), (1, .inr (.inl (J 23 9))), (0, .inr (.inr (some 39)))], [.inr (.inr (some 1))], sh, gc_h sh I47 J48 A)
          refine gv_run 1 true hD (pcₚ := 96) (lvₚ := [(3, .inl z28), (1, .inr (.inl (J 23 9))), (0, .inr (.inr (some 39)))]) (stₚ := [.inl z28, .inr (.inr (some 1))]) (hₚ := gc_h sh I47 J48 A) (C := (True ∧ True)) rfl ⟨trivial, trivial⟩ ?_
          refine gv_put hD rfl rfl S_1 ⟨by decide, (gz_sh B_1)⟩ rfl trivial ?_
          refine gc_st (k := 5) hI47 S_1 rfl (gz_sh R_1) (lo := (-1)) (hi := 7) rfl rfl (by (/-23-/first | omega | (simp only [gz_hd] at *; omega))) (by (/-24-/first | (have o1 := gz_sh f6; have o2 := gz_sh q28; have o3 := gz_sh t20; omega) | (simp only [gz_hd] at *; omega))) (fun I62 hI62 q63 p63 => ?_)
          have FI62 := gc_frs (W := fun q j => (q = 39 ∧ j = 3) ∨ (q = 39 ∧ j = 4) ∨ (q = 23 ∧ j = 5) ∨ (q = 23 ∧ j = 6) ∨ (q = 23 ∧ j = 7) ∨ (q = 23 ∧ j = 8) ∨ (q = 1 ∧ j = 5)) FI47 (Or.inr (Or.inr (Or.inr (Or.inr (Or.inr (Or.inr ⟨rfl, rfl⟩)))))) p63
          have t64 := gz_hi (p63 23 1 (fun h => absurd h.2 (by first | exact gz_ne rfl | decide)))
          have t65 := gz_hi (p63 23 5 (fun h => absurd h.1 (by first | exact gz_ne rfl | decide)))
          have t68 := gz_hi (p63 8 1 (fun h => absurd h.2 (by first | exact gz_ne rfl | decide)))
          have t70 := gz_hi (p63 1 18 (fun h => absurd h.2 (by first | exact gz_ne rfl | decide)))
          have f71 := gz_hi ((gc_b_22_5 hI62 (gz_sh R_1)))
          have KLT_I62 := gc_LT_fr KLT_I47 (p63 23 5 (fun h => absurd h.1 (by first | exact gz_ne rfl | decide))) (p63 23 6 (fun h => absurd h.2 (by first | exact gz_ne rfl | decide))) (p63 23 7 (fun h => absurd h.2 (by first | exact gz_ne rfl | decide))) (fun k => p63 24 k (fun h => absurd h.1 (by first | exact gz_ne rfl | decide)))
          have KTK_I62 := gc_TK_fr KTK_I47 (p63 23 1 (fun h => absurd h.2 (by first | exact gz_ne rfl | decide))) (p63 23 5 (fun h => absurd h.1 (by first | exact gz_ne rfl | decide))) (p63 23 6 (fun h => absurd h.2 (by first | exact gz_ne rfl | decide))) (p63 23 7 (fun h => absurd h.2 (by first | exact gz_ne rfl | decide)))
          have A72 := gc_AT_I A59 (p63 23 1 (fun h => absurd h.2 (by first | exact gz_ne rfl | decide))) (p63 23 5 (fun h => absurd h.1 (by first | exact gz_ne rfl | decide))) (p63 23 6 (fun h => absurd h.2 (by first | exact gz_ne rfl | decide))) (p63 23 7 (fun h => absurd h.2 (by first | exact gz_ne rfl | decide))) (p63 23 8 (fun h => absurd h.2 (by first | exact gz_ne rfl | decide))) (fun k => p63 24 k (fun h => absurd h.1 (by first | exact gz_ne rfl | decide)))
          show gv_X _ _ (99, [(3, .inl z28), (1, .inr (.inl (J 23 9))), (0, .inr (.inr (some 39)))], [], sh, gc_h sh I62 J48 A)
          refine gv_run 1 true hD (pcₚ := 100) (lvₚ := [(3, .inl z28), (1, .inr (.inl (J 23 9))), (0, .inr (.inr (some 39)))]) (stₚ := [.inl 1]) (hₚ := gc_h sh I62 J48 A) (C := (True ∧ True)) rfl ⟨trivial, trivial⟩ ?_
          exact gv_Xm hQ (gv_zret hD rfl (by (/-25-/first | omega | (simp only [gz_hd] at *; omega))) ⟨I62, J48, rfl, hI62, FI62, FJ48, KLT_I62, KTK_I62, ⟨_, rfl, by (/-26-/first | omega | (simp only [gz_hd] at *; omega)), by (/-27-/first | omega | (simp only [gz_hd] at *; omega)), by (/-28-/first | (have o1 := gz_sh q30; have o2 := gz_sh q46; have o3 := gz_sh t16; have o4 := gz_sh t64; omega) | (simp only [gz_hd] at *; omega)), by (/-29-/first | (have o1 := gz_sh q30; have o2 := gz_sh q46; have o3 := gz_sh t1; have o4 := gz_sh t18; have o5 := gz_sh t65; omega) | (simp only [gz_hd] at *; omega)), by (/-30-/first | (have o1 := gz_sh q28; have o2 := gz_sh t20; omega) | (simp only [gz_hd] at *; omega)), by (/-31-/first | omega | (simp only [gz_hd] at *; omega)), (Or.inl ⟨by (/-32-/first | omega | (simp only [gz_hd] at *; omega)), by have e9 : (gs_tong β η Ir Jr (I 39 5) p9) = (gs_done β η 1 (I 39 5) (gs_X β η p9)) := (by unfold gs_tong; (repeat first | rw [if_pos (by (/-33-/first | omega | (simp only [gz_hd] at *; omega)))] | rw [if_neg (by (/-34-/first | omega | (simp only [gz_hd] at *; omega)))])); rw [e9]; exact ⟨by (/-35-/first | omega | (simp only [gz_hd] at *; omega)), A72, by (/-36-/first | omega | (simp only [gz_hd] at *; omega)), by (/-37-/first | omega | (simp only [gz_hd] at *; omega)), by (/-38-/first | (have o1 := gz_sh t23; have o2 := gz_sh t38; have o3 := gz_sh t53; have o4 := gz_sh t70; omega) | (simp only [gz_hd] at *; omega))⟩⟩)⟩⟩)
        · exfalso; (/-39-/first | (have o1 := gz_sh q28; omega) | (simp only [gz_hd] at *; omega))
      · show gv_X _ _ (66, [(3, .inl z28), (1, .inr (.inl (J 23 9))), (0, .inr (.inr (some 39)))], [], sh, gc_h sh I47 J48 A)
        have V73 := (gz_sh q46).2.2.2.2.2
        rw [show I32 39 5 = I 39 5 from by (/-40-/first | (have o1 := gz_sh t22; have o2 := gz_sh t37; omega) | (simp only [gz_hd] at *; omega))] at V73
        rw [show (if (0 : Int) = 0 then (1 : Int) else 0) = 1 from if_pos rfl] at V73
        obtain ⟨u73, u73_⟩ := gs_or0 V73 (by (/-41-/first | omega | (simp only [gz_hd] at *; omega)))
        refine gv_run 1 true hD (pcₚ := 67) (lvₚ := [(3, .inl z28), (1, .inr (.inl (J 23 9))), (0, .inr (.inr (some 39)))]) (stₚ := [.inl 0]) (hₚ := gc_h sh I47 J48 A) (C := (True ∧ True)) rfl ⟨trivial, trivial⟩ ?_
        exact gv_Xm hQ (gv_zret hD rfl (by (/-42-/first | omega | (simp only [gz_hd] at *; omega))) ⟨I47, J48, rfl, hI47, FI47, FJ48, KLT_I47, KTK_I47, ⟨_, rfl, by (/-43-/first | omega | (simp only [gz_hd] at *; omega)), by (/-44-/first | omega | (simp only [gz_hd] at *; omega)), by (/-45-/first | (have o1 := gz_sh q30; have o2 := gz_sh q46; have o3 := gz_sh t16; omega) | (simp only [gz_hd] at *; omega)), by (/-46-/first | (have o1 := gz_sh q30; have o2 := gz_sh q46; have o3 := gz_sh t1; have o4 := gz_sh t18; omega) | (simp only [gz_hd] at *; omega)), by (/-47-/first | omega | (simp only [gz_hd] at *; omega)), by (/-48-/first | (have o1 := gz_sh t21; have o2 := gz_sh t36; have o3 := gz_sh t51; omega) | (simp only [gz_hd] at *; omega)), (Or.inr ⟨by (/-49-/first | omega | (simp only [gz_hd] at *; omega)), by unfold gs_tong; (repeat first | rw [if_pos (by (/-50-/first | omega | (simp only [gz_hd] at *; omega)))] | rw [if_neg (by (/-51-/first | omega | (simp only [gz_hd] at *; omega)))]); exact ⟨by (/-52-/first | omega | (simp only [gz_hd] at *; omega)), by (/-53-/first | omega | (simp only [gz_hd] at *; omega))⟩⟩)⟩⟩)
    · show gv_X _ _ (42, [(3, .inl z28), (1, .inr (.inl (J 23 9))), (0, .inr (.inr (some 39)))], [.inr (.inr (some 39))], sh, gc_h sh I32 J33 A)
      refine gv_run 1 true hD (pcₚ := 43) (lvₚ := [(3, .inl z28), (1, .inr (.inl (J 23 9))), (0, .inr (.inr (some 39)))]) (stₚ := [.inr (.inr (some 39)), .inr (.inr (some 39))]) (hₚ := gc_h sh I32 J33 A) (C := (True ∧ True)) rfl ⟨trivial, trivial⟩ ?_
      refine gv_get hD rfl rfl S_39 ⟨by decide, (gz_sh B_39)⟩ (gc_hA S_39 rfl A_39_0) ?_
      show gv_X _ _ (46, [(3, .inl z28), (1, .inr (.inl (J 23 9))), (0, .inr (.inr (some 39)))], [.inr (.inr (some 1)), .inr (.inr (some 39))], sh, gc_h sh I32 J33 A)
      refine gv_get hD rfl rfl S_1 ⟨by decide, (gz_sh B_1)⟩ (gc_hA S_1 rfl A_1_3) ?_
      show gv_X _ _ (49, [(3, .inl z28), (1, .inr (.inl (J 23 9))), (0, .inr (.inr (some 39)))], [.inr (.inr (some 8)), .inr (.inr (some 39))], sh, gc_h sh I32 J33 A)
      obtain ⟨r74, h74, E74, P74⟩ := d_X4_isFull_p (ws0 := ws0) (tb := tb) hws htb sh ro I32 J33 A hI32 8 8 6  (gc_b8 hb)     
      obtain ⟨rfl, ⟨z74, rfl, q74⟩⟩ := P74
      replace q74 := gz_hi q74
      refine gv_callV hD rfl (As := []) (st := [.inr (.inr (some 39))]) rfl (gz_sh B_8) S_8 rfl (gc_lV6 hws rfl) (Nat.le_of_ble_eq_true rfl) (gz_Ev_mono (d := 1) (by decide) E74) ?_
      show gv_X _ _ (52, [(3, .inl z28), (1, .inr (.inl (J 23 9))), (0, .inr (.inr (some 39)))], [.inl z74, .inr (.inr (some 39))], sh, gc_h sh I32 J33 A)
      refine gv_if_eq (t := 59) hD rfl rfl ⟨by (/-54-/first | (have o1 := gz_sh q74; omega) | (simp only [gz_hd] at *; omega)), by (/-55-/first | (have o1 := gz_sh q74; omega) | (simp only [gz_hd] at *; omega))⟩ (fun c75 => ?_) (fun c75 => ?_)
      · show gv_X _ _ (59, [(3, .inl z28), (1, .inr (.inl (J 23 9))), (0, .inr (.inr (some 39)))], [.inr (.inr (some 39))], sh, gc_h sh I32 J33 A)
        refine gv_run 1 true hD (pcₚ := 60) (lvₚ := [(3, .inl z28), (1, .inr (.inl (J 23 9))), (0, .inr (.inr (some 39)))]) (stₚ := [.inl 0, .inr (.inr (some 39))]) (hₚ := gc_h sh I32 J33 A) (C := (True ∧ True)) rfl ⟨trivial, trivial⟩ ?_
        obtain ⟨r76, h76, E76, P76⟩ := d_X6_closes_p (ws0 := ws0) (tb := tb) hws htb sh ro I32 J33 A hI32  β η (gs_X β η p9) 0 hb   ⟨by (/-56-/first | omega | (simp only [gz_hd] at *; omega)), by (/-57-/first | omega | (simp only [gz_hd] at *; omega))⟩ A43 (by (/-58-/first | (have o1 := gz_sh f4; omega) | (simp only [gz_hd] at *; omega))) (by (/-59-/first | (have o1 := gz_sh t23; have o2 := gz_sh t38; omega) | (simp only [gz_hd] at *; omega))) KLT_I32 KTK_I32
        obtain ⟨I77, J78, rfl, hI77, g76, k76, KLT_I77, KTK_I77, ⟨z76, rfl, q76⟩⟩ := P76
        replace q76 := gz_hi q76
        have FI77 := gc_frc (W := fun q j => (q = 39 ∧ j = 3) ∨ (q = 39 ∧ j = 4) ∨ (q = 23 ∧ j = 5) ∨ (q = 23 ∧ j = 6) ∨ (q = 23 ∧ j = 7) ∨ (q = 23 ∧ j = 8) ∨ (q = 1 ∧ j = 5)) (V := fun q j => (q = 39 ∧ j = 3) ∨ (q = 39 ∧ j = 4) ∨ (q = 23 ∧ j = 5) ∨ (q = 23 ∧ j = 6) ∨ (q = 23 ∧ j = 7) ∨ (q = 23 ∧ j = 8)) FI32 (fun q j h => (h.elim (fun h => (Or.inl h)) (fun h => (h.elim (fun h => (Or.inr (Or.inl h))) (fun h => (h.elim (fun h => (Or.inr (Or.inr (Or.inl h)))) (fun h => (h.elim (fun h => (Or.inr (Or.inr (Or.inr (Or.inl h))))) (fun h => (h.elim (fun h => (Or.inr (Or.inr (Or.inr (Or.inr (Or.inl h)))))) (fun h => (Or.inr (Or.inr (Or.inr (Or.inr (Or.inr (Or.inl h))))))))))))))))) g76
        have FJ78 := gc_frc (W := fun q j => (q = 23 ∧ j = 9)) (V := fun q j => (q = 23 ∧ j = 9)) FJ33 (fun q j h => h) k76
        have t80 := gz_hi ((g76 8 1).resolve_left (fun h => h.elim (fun h => absurd h.2 (by first | exact gz_ne rfl | decide)) (fun h => h.elim (fun h => absurd h.2 (by first | exact gz_ne rfl | decide)) (fun h => h.elim (fun h => absurd h.2 (by first | exact gz_ne rfl | decide)) (fun h => h.elim (fun h => absurd h.2 (by first | exact gz_ne rfl | decide)) (fun h => h.elim (fun h => absurd h.2 (by first | exact gz_ne rfl | decide)) (fun h => absurd h.2 (by first | exact gz_ne rfl | decide))))))))
        have t81 := gz_hi ((g76 1 5).resolve_left (fun h => h.elim (fun h => absurd h.2 (by first | exact gz_ne rfl | decide)) (fun h => h.elim (fun h => absurd h.2 (by first | exact gz_ne rfl | decide)) (fun h => h.elim (fun h => absurd h.1 (by first | exact gz_ne rfl | decide)) (fun h => h.elim (fun h => absurd h.2 (by first | exact gz_ne rfl | decide)) (fun h => h.elim (fun h => absurd h.2 (by first | exact gz_ne rfl | decide)) (fun h => absurd h.2 (by first | exact gz_ne rfl | decide))))))))
        have t83 := gz_hi ((g76 1 18).resolve_left (fun h => h.elim (fun h => absurd h.2 (by first | exact gz_ne rfl | decide)) (fun h => h.elim (fun h => absurd h.2 (by first | exact gz_ne rfl | decide)) (fun h => h.elim (fun h => absurd h.2 (by first | exact gz_ne rfl | decide)) (fun h => h.elim (fun h => absurd h.2 (by first | exact gz_ne rfl | decide)) (fun h => h.elim (fun h => absurd h.2 (by first | exact gz_ne rfl | decide)) (fun h => absurd h.2 (by first | exact gz_ne rfl | decide))))))))
        refine gv_callV hD rfl (As := [.inl 0]) (st := []) rfl (gz_sh B_39) S_39 rfl (gc_lV6 hws rfl) (Nat.le_of_ble_eq_true rfl) (gz_Ev_mono (d := 4) (by decide) E76) ?_
        show gv_X _ _ (63, [(3, .inl z28), (1, .inr (.inl (J 23 9))), (0, .inr (.inr (some 39)))], [.inl z76], sh, gc_h sh I77 J78 A)
        refine gv_if_ne (t := 68) hD rfl rfl ⟨by (/-60-/first | (have o1 := gz_sh q76; omega) | (simp only [gz_hd] at *; omega)), by (/-61-/first | (have o1 := gz_sh q76; omega) | (simp only [gz_hd] at *; omega))⟩ (fun c88 => ?_) (fun c88 => ?_)
        · show gv_X _ _ (68, [(3, .inl z28), (1, .inr (.inl (J 23 9))), (0, .inr (.inr (some 39)))], [], sh, gc_h sh I77 J78 A)
          have V89 := (gz_sh q76).2.2.2.2.2
          rw [show I32 39 5 = I 39 5 from by (/-62-/first | (have o1 := gz_sh t22; have o2 := gz_sh t37; omega) | (simp only [gz_hd] at *; omega))] at V89
          rw [show (if (0 : Int) = 0 then (1 : Int) else 0) = 1 from if_pos rfl] at V89
          obtain ⟨u89, A89⟩ := gs_or1 V89 (by (/-63-/first | omega | (simp only [gz_hd] at *; omega)))
          have t90 := gz_hi (gc_AT_l A89)
          refine gv_run 1 true hD (pcₚ := 69) (lvₚ := [(3, .inl z28), (1, .inr (.inl (J 23 9))), (0, .inr (.inr (some 39)))]) (stₚ := [.inl z28]) (hₚ := gc_h sh I77 J78 A) (C := (True ∧ True)) rfl ⟨trivial, trivial⟩ ?_
          refine gv_if_ge (t := 91) hD rfl rfl ⟨by (/-64-/first | (have o1 := gz_sh q28; omega) | (simp only [gz_hd] at *; omega)), by (/-65-/first | omega | (simp only [gz_hd] at *; omega))⟩ (fun c91 => ?_) (fun c91 => ?_)
          · exfalso; (/-66-/first | (have o1 := gz_sh q28; omega) | (simp only [gz_hd] at *; omega))
          · show gv_X _ _ (72, [(3, .inl z28), (1, .inr (.inl (J 23 9))), (0, .inr (.inr (some 39)))], [], sh, gc_h sh I77 J78 A)
            refine gv_run 1 true hD (pcₚ := 73) (lvₚ := [(3, .inl z28), (1, .inr (.inl (J 23 9))), (0, .inr (.inr (some 39)))]) (stₚ := [.inr (.inr (some 39))]) (hₚ := gc_h sh I77 J78 A) (C := (True ∧ True)) rfl ⟨trivial, trivial⟩ ?_
            refine gv_get hD rfl rfl S_39 ⟨by decide, (gz_sh B_39)⟩ (gc_hA S_39 rfl A_39_0) ?_
            show gv_X _ _ (76, [(3, .inl z28), (1, .inr (.inl (J 23 9))), (0, .inr (.inr (some 39)))], [.inr (.inr (some 1))], sh, gc_h sh I77 J78 A)
            refine gv_get hD rfl rfl S_1 ⟨by decide, (gz_sh B_1)⟩ (gc_hA S_1 rfl A_1_3) ?_
            show gv_X _ _ (79, [(3, .inl z28), (1, .inr (.inl (J 23 9))), (0, .inr (.inr (some 39)))], [.inr (.inr (some 8))], sh, gc_h sh I77 J78 A)
            refine gv_get hD rfl rfl S_8 ⟨by decide, (gz_sh B_8)⟩ (gc_hI S_8 rfl) ?_
            show gv_X _ _ (82, [(3, .inl z28), (1, .inr (.inl (J 23 9))), (0, .inr (.inr (some 39)))], [.inl (I77 8 1)], sh, gc_h sh I77 J78 A)
            refine gv_run 2 true hD (pcₚ := 84) (lvₚ := [(3, .inl (I77 8 1)), (1, .inr (.inl (J 23 9))), (0, .inr (.inr (some 39)))]) (stₚ := [.inr (.inr (some 39))]) (hₚ := gc_h sh I77 J78 A) (C := ((True ∧ True) ∧ True)) rfl ⟨⟨trivial, trivial⟩, trivial⟩ ?_
            refine gv_get hD rfl rfl S_39 ⟨by decide, (gz_sh B_39)⟩ (gc_hA S_39 rfl A_39_0) ?_
            show gv_X _ _ (87, [(3, .inl (I77 8 1)), (1, .inr (.inl (J 23 9))), (0, .inr (.inr (some 39)))], [.inr (.inr (some 1))], sh, gc_h sh I77 J78 A)
            refine gv_run 1 true hD (pcₚ := 88) (lvₚ := [(3, .inl (I77 8 1)), (1, .inr (.inl (J 23 9))), (0, .inr (.inr (some 39)))]) (stₚ := [.inr (.inl (J 23 9)), .inr (.inr (some 1))]) (hₚ := gc_h sh I77 J78 A) (C := (True ∧ True)) rfl ⟨trivial, trivial⟩ ?_
            refine gv_pick [2, 1, 0] rfl ?_
            exact L88 I77 J78 (J 23 9) (I77 8 1) (J 23 9) hI77 FI77 FJ78 KLT_I77 KTK_I77 (by (/-67-/first | (and_intros; (have o1 := gz_sh q28; have o2 := gz_sh t35; have o3 := gz_sh t80; omega); (have o1 := gz_sh q74; have o2 := gz_sh t80; omega); (have o1 := gz_sh t20; have o2 := gz_sh t35; have o3 := gz_sh t80; omega); (have o1 := gz_sh q74; have o2 := gz_sh t20; have o3 := gz_sh t35; omega); (have o1 := gz_sh t21; have o2 := gz_sh t36; have o3 := gz_sh t81; omega); (omega); (have o1 := gz_sh t23; have o2 := gz_sh t38; have o3 := gz_sh t83; omega); (have o1 := gz_sh q30; have o2 := gz_sh q76; have o3 := gz_sh t16; omega); (have o1 := gz_sh q30; have o2 := gz_sh q76; have o3 := gz_sh t1; have o4 := gz_sh t18; omega); (have o1 := gz_sh t20; have o2 := gz_sh t35; have o3 := gz_sh t80; omega)) | (simp only [gz_hd] at *; omega))) (by have e9 : (gs_tong β η Ir Jr (I 39 5) p9) = (gs_done β η 1 (I 39 5) (gs_X β η p9)) := (by unfold gs_tong; (repeat first | rw [if_pos (by (/-68-/first | (have o1 := gz_sh q74; have o2 := gz_sh t20; have o3 := gz_sh t35; omega) | (simp only [gz_hd] at *; omega)))] | rw [if_neg (by (/-69-/first | (have o1 := gz_sh q28; omega) | (simp only [gz_hd] at *; omega)))])); rw [e9]; exact ⟨by (/-70-/first | omega | (simp only [gz_hd] at *; omega)), A89⟩) tM
        · show gv_X _ _ (66, [(3, .inl z28), (1, .inr (.inl (J 23 9))), (0, .inr (.inr (some 39)))], [], sh, gc_h sh I77 J78 A)
          have V93 := (gz_sh q76).2.2.2.2.2
          rw [show I32 39 5 = I 39 5 from by (/-71-/first | (have o1 := gz_sh t22; have o2 := gz_sh t37; omega) | (simp only [gz_hd] at *; omega))] at V93
          rw [show (if (0 : Int) = 0 then (1 : Int) else 0) = 1 from if_pos rfl] at V93
          obtain ⟨u93, u93_⟩ := gs_or0 V93 (by (/-72-/first | omega | (simp only [gz_hd] at *; omega)))
          refine gv_run 1 true hD (pcₚ := 67) (lvₚ := [(3, .inl z28), (1, .inr (.inl (J 23 9))), (0, .inr (.inr (some 39)))]) (stₚ := [.inl 0]) (hₚ := gc_h sh I77 J78 A) (C := (True ∧ True)) rfl ⟨trivial, trivial⟩ ?_
          exact gv_Xm hQ (gv_zret hD rfl (by (/-73-/first | omega | (simp only [gz_hd] at *; omega))) ⟨I77, J78, rfl, hI77, FI77, FJ78, KLT_I77, KTK_I77, ⟨_, rfl, by (/-74-/first | omega | (simp only [gz_hd] at *; omega)), by (/-75-/first | omega | (simp only [gz_hd] at *; omega)), by (/-76-/first | (have o1 := gz_sh q30; have o2 := gz_sh q76; have o3 := gz_sh t16; omega) | (simp only [gz_hd] at *; omega)), by (/-77-/first | (have o1 := gz_sh q30; have o2 := gz_sh q76; have o3 := gz_sh t1; have o4 := gz_sh t18; omega) | (simp only [gz_hd] at *; omega)), by (/-78-/first | omega | (simp only [gz_hd] at *; omega)), by (/-79-/first | (have o1 := gz_sh t21; have o2 := gz_sh t36; have o3 := gz_sh t81; omega) | (simp only [gz_hd] at *; omega)), (Or.inr ⟨by (/-80-/first | omega | (simp only [gz_hd] at *; omega)), by unfold gs_tong; (repeat first | rw [if_pos (by (/-81-/first | (have o1 := gz_sh q74; have o2 := gz_sh t20; have o3 := gz_sh t35; omega) | (simp only [gz_hd] at *; omega)))] | rw [if_neg (by (/-82-/first | (have o1 := gz_sh q28; omega) | (simp only [gz_hd] at *; omega)))]); exact ⟨by (/-83-/first | omega | (simp only [gz_hd] at *; omega)), by (/-84-/first | omega | (simp only [gz_hd] at *; omega))⟩⟩)⟩⟩)
      · show gv_X _ _ (55, [(3, .inl z28), (1, .inr (.inl (J 23 9))), (0, .inr (.inr (some 39)))], [.inr (.inr (some 39))], sh, gc_h sh I32 J33 A)
        refine gv_run 2 true hD (pcₚ := 60) (lvₚ := [(3, .inl z28), (1, .inr (.inl (J 23 9))), (0, .inr (.inr (some 39)))]) (stₚ := [.inl 1, .inr (.inr (some 39))]) (hₚ := gc_h sh I32 J33 A) (C := ((True ∧ True) ∧ True)) rfl ⟨⟨trivial, trivial⟩, trivial⟩ ?_
        obtain ⟨r94, h94, E94, P94⟩ := d_X6_closes_p (ws0 := ws0) (tb := tb) hws htb sh ro I32 J33 A hI32  β η (gs_X β η p9) 1 hb   ⟨by (/-85-/first | omega | (simp only [gz_hd] at *; omega)), by (/-86-/first | omega | (simp only [gz_hd] at *; omega))⟩ A43 (by (/-87-/first | (have o1 := gz_sh f4; omega) | (simp only [gz_hd] at *; omega))) (by (/-88-/first | (have o1 := gz_sh t23; have o2 := gz_sh t38; omega) | (simp only [gz_hd] at *; omega))) KLT_I32 KTK_I32
        obtain ⟨I95, J96, rfl, hI95, g94, k94, KLT_I95, KTK_I95, ⟨z94, rfl, q94⟩⟩ := P94
        replace q94 := gz_hi q94
        have FI95 := gc_frc (W := fun q j => (q = 39 ∧ j = 3) ∨ (q = 39 ∧ j = 4) ∨ (q = 23 ∧ j = 5) ∨ (q = 23 ∧ j = 6) ∨ (q = 23 ∧ j = 7) ∨ (q = 23 ∧ j = 8) ∨ (q = 1 ∧ j = 5)) (V := fun q j => (q = 39 ∧ j = 3) ∨ (q = 39 ∧ j = 4) ∨ (q = 23 ∧ j = 5) ∨ (q = 23 ∧ j = 6) ∨ (q = 23 ∧ j = 7) ∨ (q = 23 ∧ j = 8)) FI32 (fun q j h => (h.elim (fun h => (Or.inl h)) (fun h => (h.elim (fun h => (Or.inr (Or.inl h))) (fun h => (h.elim (fun h => (Or.inr (Or.inr (Or.inl h)))) (fun h => (h.elim (fun h => (Or.inr (Or.inr (Or.inr (Or.inl h))))) (fun h => (h.elim (fun h => (Or.inr (Or.inr (Or.inr (Or.inr (Or.inl h)))))) (fun h => (Or.inr (Or.inr (Or.inr (Or.inr (Or.inr (Or.inl h))))))))))))))))) g94
        have FJ96 := gc_frc (W := fun q j => (q = 23 ∧ j = 9)) (V := fun q j => (q = 23 ∧ j = 9)) FJ33 (fun q j h => h) k94
        have t98 := gz_hi ((g94 8 1).resolve_left (fun h => h.elim (fun h => absurd h.2 (by first | exact gz_ne rfl | decide)) (fun h => h.elim (fun h => absurd h.2 (by first | exact gz_ne rfl | decide)) (fun h => h.elim (fun h => absurd h.2 (by first | exact gz_ne rfl | decide)) (fun h => h.elim (fun h => absurd h.2 (by first | exact gz_ne rfl | decide)) (fun h => h.elim (fun h => absurd h.2 (by first | exact gz_ne rfl | decide)) (fun h => absurd h.2 (by first | exact gz_ne rfl | decide))))))))
        have t99 := gz_hi ((g94 1 5).resolve_left (fun h => h.elim (fun h => absurd h.2 (by first | exact gz_ne rfl | decide)) (fun h => h.elim (fun h => absurd h.2 (by first | exact gz_ne rfl | decide)) (fun h => h.elim (fun h => absurd h.1 (by first | exact gz_ne rfl | decide)) (fun h => h.elim (fun h => absurd h.2 (by first | exact gz_ne rfl | decide)) (fun h => h.elim (fun h => absurd h.2 (by first | exact gz_ne rfl | decide)) (fun h => absurd h.2 (by first | exact gz_ne rfl | decide))))))))
        have t101 := gz_hi ((g94 1 18).resolve_left (fun h => h.elim (fun h => absurd h.2 (by first | exact gz_ne rfl | decide)) (fun h => h.elim (fun h => absurd h.2 (by first | exact gz_ne rfl | decide)) (fun h => h.elim (fun h => absurd h.2 (by first | exact gz_ne rfl | decide)) (fun h => h.elim (fun h => absurd h.2 (by first | exact gz_ne rfl | decide)) (fun h => h.elim (fun h => absurd h.2 (by first | exact gz_ne rfl | decide)) (fun h => absurd h.2 (by first | exact gz_ne rfl | decide))))))))
        refine gv_callV hD rfl (As := [.inl 1]) (st := []) rfl (gz_sh B_39) S_39 rfl (gc_lV6 hws rfl) (Nat.le_of_ble_eq_true rfl) (gz_Ev_mono (d := 4) (by decide) E94) ?_
        show gv_X _ _ (63, [(3, .inl z28), (1, .inr (.inl (J 23 9))), (0, .inr (.inr (some 39)))], [.inl z94], sh, gc_h sh I95 J96 A)
        refine gv_if_ne (t := 68) hD rfl rfl ⟨by (/-89-/first | (have o1 := gz_sh q94; omega) | (simp only [gz_hd] at *; omega)), by (/-90-/first | (have o1 := gz_sh q94; omega) | (simp only [gz_hd] at *; omega))⟩ (fun c106 => ?_) (fun c106 => ?_)
        · show gv_X _ _ (68, [(3, .inl z28), (1, .inr (.inl (J 23 9))), (0, .inr (.inr (some 39)))], [], sh, gc_h sh I95 J96 A)
          have V107 := (gz_sh q94).2.2.2.2.2
          rw [show I32 39 5 = I 39 5 from by (/-91-/first | (have o1 := gz_sh t22; have o2 := gz_sh t37; omega) | (simp only [gz_hd] at *; omega))] at V107
          rw [show (if (1 : Int) = 0 then (1 : Int) else 0) = 0 from if_neg (by decide)] at V107
          obtain ⟨u107, A107⟩ := gs_or1 V107 (by (/-92-/first | omega | (simp only [gz_hd] at *; omega)))
          have t108 := gz_hi (gc_AT_l A107)
          refine gv_run 1 true hD (pcₚ := 69) (lvₚ := [(3, .inl z28), (1, .inr (.inl (J 23 9))), (0, .inr (.inr (some 39)))]) (stₚ := [.inl z28]) (hₚ := gc_h sh I95 J96 A) (C := (True ∧ True)) rfl ⟨trivial, trivial⟩ ?_
          refine gv_if_ge (t := 91) hD rfl rfl ⟨by (/-93-/first | (have o1 := gz_sh q28; omega) | (simp only [gz_hd] at *; omega)), by (/-94-/first | omega | (simp only [gz_hd] at *; omega))⟩ (fun c109 => ?_) (fun c109 => ?_)
          · exfalso; (/-95-/first | (have o1 := gz_sh q28; omega) | (simp only [gz_hd] at *; omega))
          · show gv_X _ _ (72, [(3, .inl z28), (1, .inr (.inl (J 23 9))), (0, .inr (.inr (some 39)))], [], sh, gc_h sh I95 J96 A)
            refine gv_run 1 true hD (pcₚ := 73) (lvₚ := [(3, .inl z28), (1, .inr (.inl (J 23 9))), (0, .inr (.inr (some 39)))]) (stₚ := [.inr (.inr (some 39))]) (hₚ := gc_h sh I95 J96 A) (C := (True ∧ True)) rfl ⟨trivial, trivial⟩ ?_
            refine gv_get hD rfl rfl S_39 ⟨by decide, (gz_sh B_39)⟩ (gc_hA S_39 rfl A_39_0) ?_
            show gv_X _ _ (76, [(3, .inl z28), (1, .inr (.inl (J 23 9))), (0, .inr (.inr (some 39)))], [.inr (.inr (some 1))], sh, gc_h sh I95 J96 A)
            refine gv_get hD rfl rfl S_1 ⟨by decide, (gz_sh B_1)⟩ (gc_hA S_1 rfl A_1_3) ?_
            show gv_X _ _ (79, [(3, .inl z28), (1, .inr (.inl (J 23 9))), (0, .inr (.inr (some 39)))], [.inr (.inr (some 8))], sh, gc_h sh I95 J96 A)
            refine gv_get hD rfl rfl S_8 ⟨by decide, (gz_sh B_8)⟩ (gc_hI S_8 rfl) ?_
            show gv_X _ _ (82, [(3, .inl z28), (1, .inr (.inl (J 23 9))), (0, .inr (.inr (some 39)))], [.inl (I95 8 1)], sh, gc_h sh I95 J96 A)
            refine gv_run 2 true hD (pcₚ := 84) (lvₚ := [(3, .inl (I95 8 1)), (1, .inr (.inl (J 23 9))), (0, .inr (.inr (some 39)))]) (stₚ := [.inr (.inr (some 39))]) (hₚ := gc_h sh I95 J96 A) (C := ((True ∧ True) ∧ True)) rfl ⟨⟨trivial, trivial⟩, trivial⟩ ?_
            refine gv_get hD rfl rfl S_39 ⟨by decide, (gz_sh B_39)⟩ (gc_hA S_39 rfl A_39_0) ?_
            show gv_X _ _ (87, [(3, .inl (I95 8 1)), (1, .inr (.inl (J 23 9))), (0, .inr (.inr (some 39)))], [.inr (.inr (some 1))], sh, gc_h sh I95 J96 A)
            refine gv_run 1 true hD (pcₚ := 88) (lvₚ := [(3, .inl (I95 8 1)), (1, .inr (.inl (J 23 9))), (0, .inr (.inr (some 39)))]) (stₚ := [.inr (.inl (J 23 9)), .inr (.inr (some 1))]) (hₚ := gc_h sh I95 J96 A) (C := (True ∧ True)) rfl ⟨trivial, trivial⟩ ?_
            refine gv_pick [2, 1, 0] rfl ?_
            exact L88 I95 J96 (J 23 9) (I95 8 1) (J 23 9) hI95 FI95 FJ96 KLT_I95 KTK_I95 (by (/-96-/first | (and_intros; (have o1 := gz_sh q28; have o2 := gz_sh t35; have o3 := gz_sh t98; omega); (have o1 := gz_sh f6; have o2 := gz_sh t20; have o3 := gz_sh t35; have o4 := gz_sh t98; omega); (have o1 := gz_sh t20; have o2 := gz_sh t35; have o3 := gz_sh t98; omega); (have o1 := gz_sh f6; have o2 := gz_sh q28; have o3 := gz_sh q30; have o4 := gz_sh q94; have o5 := gz_sh t1; have o6 := gz_sh t101; have o7 := gz_sh t108; have o8 := gz_sh t16; have o9 := gz_sh t17; have o10 := gz_sh t18; have o11 := gz_sh t20; have o12 := gz_sh t21; have o13 := gz_sh t23; have o14 := gz_sh t35; have o15 := gz_sh t36; have o16 := gz_sh t38; have o17 := gz_sh t44; have o18 := gz_sh t98; have o19 := gz_sh t99; omega); (have o1 := gz_sh t21; have o2 := gz_sh t36; have o3 := gz_sh t99; omega); (omega); (have o1 := gz_sh t101; have o2 := gz_sh t23; have o3 := gz_sh t38; omega); (have o1 := gz_sh q30; have o2 := gz_sh q94; have o3 := gz_sh t16; omega); (have o1 := gz_sh q30; have o2 := gz_sh q94; have o3 := gz_sh t1; have o4 := gz_sh t18; omega); (have o1 := gz_sh t20; have o2 := gz_sh t35; have o3 := gz_sh t98; omega)) | (simp only [gz_hd] at *; omega))) (by exfalso; (/-97-/first | (have o1 := gz_sh q94; omega) | (simp only [gz_hd] at *; omega))) tM
        · show gv_X _ _ (66, [(3, .inl z28), (1, .inr (.inl (J 23 9))), (0, .inr (.inr (some 39)))], [], sh, gc_h sh I95 J96 A)
          have V111 := (gz_sh q94).2.2.2.2.2
          rw [show I32 39 5 = I 39 5 from by (/-98-/first | (have o1 := gz_sh t22; have o2 := gz_sh t37; omega) | (simp only [gz_hd] at *; omega))] at V111
          rw [show (if (1 : Int) = 0 then (1 : Int) else 0) = 0 from if_neg (by decide)] at V111
          obtain ⟨u111, u111_⟩ := gs_or0 V111 (by (/-99-/first | omega | (simp only [gz_hd] at *; omega)))
          refine gv_run 1 true hD (pcₚ := 67) (lvₚ := [(3, .inl z28), (1, .inr (.inl (J 23 9))), (0, .inr (.inr (some 39)))]) (stₚ := [.inl 0]) (hₚ := gc_h sh I95 J96 A) (C := (True ∧ True)) rfl ⟨trivial, trivial⟩ ?_
          exact gv_Xm hQ (gv_zret hD rfl (by (/-100-/first | omega | (simp only [gz_hd] at *; omega))) ⟨I95, J96, rfl, hI95, FI95, FJ96, KLT_I95, KTK_I95, ⟨_, rfl, by (/-101-/first | omega | (simp only [gz_hd] at *; omega)), by (/-102-/first | omega | (simp only [gz_hd] at *; omega)), by (/-103-/first | (have o1 := gz_sh q30; have o2 := gz_sh q94; have o3 := gz_sh t16; omega) | (simp only [gz_hd] at *; omega)), by (/-104-/first | (have o1 := gz_sh q30; have o2 := gz_sh q94; have o3 := gz_sh t1; have o4 := gz_sh t18; omega) | (simp only [gz_hd] at *; omega)), by (/-105-/first | omega | (simp only [gz_hd] at *; omega)), by (/-106-/first | (have o1 := gz_sh t21; have o2 := gz_sh t36; have o3 := gz_sh t99; omega) | (simp only [gz_hd] at *; omega)), (Or.inr ⟨by (/-107-/first | omega | (simp only [gz_hd] at *; omega)), by unfold gs_tong; (repeat first | rw [if_pos (by (/-108-/first | omega | (simp only [gz_hd] at *; omega)))] | rw [if_neg (by (/-109-/first | (have o1 := gz_sh f6; have o2 := gz_sh q74; have o3 := gz_sh q94; have o4 := gz_sh t20; have o5 := gz_sh t35; have o6 := gz_sh t98; omega) | (simp only [gz_hd] at *; omega)))]); exact ⟨by (/-110-/first | omega | (simp only [gz_hd] at *; omega)), by (/-111-/first | omega | (simp only [gz_hd] at *; omega))⟩⟩)⟩⟩)
  · show gv_X _ _ (8, [(0, .inr (.inr (some 39)))], [], sh, gc_h sh I14 J A)
    have u112 := gs_or0 (gz_sh q13).2.2.2 (by (/-112-/first | omega | (simp only [gz_hd] at *; omega)))
    refine gv_run 1 true hD (pcₚ := 9) (lvₚ := [(0, .inr (.inr (some 39)))]) (stₚ := [.inl 0]) (hₚ := gc_h sh I14 J A) (C := (True ∧ True)) rfl ⟨trivial, trivial⟩ ?_
    exact gv_Xm hQ (gv_zret hD rfl (by (/-113-/first | omega | (simp only [gz_hd] at *; omega))) ⟨I14, J, rfl, hI14, FI14, FJ, KLT_I14, KTK_I14, ⟨_, rfl, by (/-114-/first | omega | (simp only [gz_hd] at *; omega)), by (/-115-/first | omega | (simp only [gz_hd] at *; omega)), by (/-116-/first | (have o1 := gz_sh t16; omega) | (simp only [gz_hd] at *; omega)), by (/-117-/first | (have o1 := gz_sh t17; omega) | (simp only [gz_hd] at *; omega)), by (/-118-/first | omega | (simp only [gz_hd] at *; omega)), by (/-119-/first | (have o1 := gz_sh t21; omega) | (simp only [gz_hd] at *; omega)), (Or.inr ⟨by (/-120-/first | omega | (simp only [gz_hd] at *; omega)), by rw [show (gs_tong β η Ir Jr (I 39 5) p9) = -1 - gs_A β η p9 from if_neg u112.1]; exact ⟨by (/-121-/first | (have o1 := gz_sh f3; omega) | (simp only [gz_hd] at *; omega)), by (/-122-/first | omega | (simp only [gz_hd] at *; omega))⟩⟩)⟩⟩)
