set_option maxHeartbeats 4000000 in
set_option maxRecDepth 100000 in
theorem d_X8_makeTongue_t {ws0 : List Cond} {tb : String → gz_T} (hws : gc_Ws ws0) (htb : gc_tbs tb) (sh : gz_Sh) (ro : Nat → Nat) (I : gr_I) (J : gr_J) (A : gc_A) (hI : gc_Inv ro I) (t : Nat) (a1 : Int64) (a2 : Int) (hb : gc_Base sh ro A) (h_t : gc_isTongue sh ro A t) (G_t : 144 ≤ t) (ha2 : 0 ≤ a2 ∧ a2 ≤ 7) (x0 : A 10 (Int.toNat a2) = some t) (x1 : a2 = I 8 1)  : gv_X (gc_E8 ws0 tb 8 (yX8_makeTongue, cX8_makeTongue, 4, none) kX8_makeTongue) (gv_Q cX8_makeTongue none sh (fun r h' => (∃ (I' : gr_I) (J' : gr_J), h' = gc_h sh I' J' A ∧ gc_Inv ro I' ∧ (∀ q j : Nat, ((q = (t + 1) ∧ j = 1) ∨ (q = (t + 3) ∧ j = 1) ∨ (q = (t + 7) ∧ j = 1) ∨ (q = (t + 11) ∧ j = 1) ∨ (q = t ∧ j = 6) ∨ (q = t ∧ j = 11) ∨ (q = t ∧ j = 13) ∨ (q = 8 ∧ j = 1)) ∨ I' q j = I q j) ∧ (∀ q j : Nat, (q = 9) ∨ J' q j = J q j) ∧ r = none ∧ (I' (t + 1) 1 = 0) ∧ (I' (t + 3) 1 = 0) ∧ (I' (t + 7) 1 = 0) ∧ (I' (t + 11) 1 = 0) ∧ (I' t 6 = 0) ∧ (I' t 11 = 0) ∧ (I' t 13 = 0) ∧ (I' 8 1 = I 8 1 + 1)))) (41, [(0, .inr (.inr (some 1))), (1, .inr (.inl a1)), (3, .inl a2)], [], sh, gc_h sh I J A) := by
  have FI : ∀ q j : Nat, ((q = (t + 1) ∧ j = 1) ∨ (q = (t + 3) ∧ j = 1) ∨ (q = (t + 7) ∧ j = 1) ∨ (q = (t + 11) ∧ j = 1) ∨ (q = t ∧ j = 6) ∨ (q = t ∧ j = 11) ∨ (q = t ∧ j = 13) ∨ (q = 8 ∧ j = 1)) ∨ I q j = I q j := fun _ _ => Or.inr rfl
  have FJ : ∀ q j : Nat, (q = 9) ∨ J q j = J q j := fun _ _ => Or.inr rfl
  have A_1_3 : A 1 3 = some 8 := gc_bA hb rfl
  have A_1_4 : A 1 4 = some 10 := gc_bA hb rfl
  have B_1 : 1 < 1000000 := by decide
  have B_10 : 10 < 1000000 := by decide
  have B_8 : 8 < 1000000 := by decide
  have R_8 : ro 8 = 6 := gc_bR hb (by decide) rfl
  have S_1 : sh[1]? = some (false, 8, 21) := gc_bS hb rfl
  have S_10 : sh[10]? = some (true, 5, 8) := gc_bS hb rfl
  have S_8 : sh[8]? = some (false, 4, 2) := gc_bS hb rfl
  obtain ⟨S_t, R_t, B_t, A_t_0, h_t_1, A_t_1, h_t_3, A_t_2, S_t_5, R_t_5, B_t_5, A_t_3, S_t_6, R_t_6, B_t_6, A_t_4, h_t_7, A_t_5, S_t_9, R_t_9, B_t_9, A_t_7, S_t_10, R_t_10, B_t_10, A_t_8, h_t_11, A_t_9, S_t_13, R_t_13, B_t_13, A_t_10, S_t_14, R_t_14, B_t_14, A_t_12, S_t_15, R_t_15, B_t_15, A_t_14, S_t_16, R_t_16, B_t_16, A_t_15, h_t_17⟩ := id h_t
  obtain ⟨S_t_1, R_t_1, B_t_1, A_t_1_0, S_t_1_1, R_t_1_1, B_t_1_1, Q0_t_1, Q1_t_1, Q2_t_1⟩ := id h_t_1
  obtain ⟨S_t_3, R_t_3, B_t_3, A_t_3_0, S_t_3_1, R_t_3_1, B_t_3_1, Q0_t_3, Q1_t_3, Q2_t_3⟩ := id h_t_3
  obtain ⟨S_t_7, R_t_7, B_t_7, A_t_7_0, S_t_7_1, R_t_7_1, B_t_7_1, Q0_t_7, Q1_t_7, Q2_t_7⟩ := id h_t_7
  obtain ⟨S_t_11, R_t_11, B_t_11, A_t_11_0, S_t_11_1, R_t_11_1, B_t_11_1, Q0_t_11, Q1_t_11, Q2_t_11⟩ := id h_t_11
  obtain ⟨S_t_17, R_t_17, B_t_17, A_t_17_0, S_20, R_20, B_20, A_t_17_1, S_t_17_1, R_t_17_1, B_t_17_1, A_t_17_2, S_t_17_2, R_t_17_2, B_t_17_2, A_t_17_3, S_t_17_3, R_t_17_3, B_t_17_3, A_t_17_4, S_t_17_4, R_t_17_4, B_t_17_4, A_t_17_5, S_t_17_5, R_t_17_5, B_t_17_5, S_t_17_6, R_t_17_6, B_t_17_6, S_t_17_7, R_t_17_7, B_t_17_7⟩ := id h_t_17
  have hD : gv_D (gc_E8 ws0 tb 8 (yX8_makeTongue, cX8_makeTongue, 4, none) kX8_makeTongue) := gq_ok oX8_makeTongue
  have N_8__t_1 : ¬ (8 = (t + 1)) := by omega
  have N_8__t_3 : ¬ (8 = (t + 3)) := by omega
  have N_8__t_7 : ¬ (8 = (t + 7)) := by omega
  have N_8__t_11 : ¬ (8 = (t + 11)) := by omega
  have N_t_1__8 : ¬ ((t + 1) = 8) := by omega
  have N_t_3__8 : ¬ ((t + 3) = 8) := by omega
  have N_t_7__8 : ¬ ((t + 7) = 8) := by omega
  have N_t_11__8 : ¬ ((t + 11) = 8) := by omega
  have f1 := (show 0 ≤ I 8 1 ∧ I 8 1 ≤ 8 from gc_in hI R_8 rfl rfl)
  have f2 := (show 0 ≤ I (t + 1) 1 ∧ I (t + 1) 1 ≤ 8 from gc_in hI R_t_1 rfl rfl)
  have f3 := (show 0 ≤ I (t + 3) 1 ∧ I (t + 3) 1 ≤ 48 from gc_in hI R_t_3 rfl rfl)
  have f4 := (show 0 ≤ I (t + 7) 1 ∧ I (t + 7) 1 ≤ 16 from gc_in hI R_t_7 rfl rfl)
  have f5 := (show 0 ≤ I (t + 11) 1 ∧ I (t + 11) 1 ≤ 24 from gc_in hI R_t_11 rfl rfl)
  have f6 := (show 0 ≤ I t 6 ∧ I t 6 ≤ 24 from gc_in hI R_t rfl rfl)
  have f7 := (show 0 ≤ I t 11 ∧ I t 11 ≤ 64 from gc_in hI R_t rfl rfl)
  have f8 := (show 0 ≤ I t 13 ∧ I t 13 ≤ 384 from gc_in hI R_t rfl rfl)
  refine gv_run 1 true hD (pc' := 42) (lv' := [(0, .inr (.inr (some 1))), (1, .inr (.inl a1)), (3, .inl a2)]) (st' := [.inr (.inr (some 1))]) (h' := gc_h sh I J A) (C := (True ∧ True)) rfl ⟨trivial, trivial⟩ ?_
  refine gv_get hD rfl rfl S_1 ⟨by decide, B_1⟩ (gc_hA S_1 rfl A_1_4) ?_
  show gv_X _ _ (45, [(0, .inr (.inr (some 1))), (1, .inr (.inl a1)), (3, .inl a2)], [.inr (.inr (some 10))], sh, gc_h sh I J A)
  refine gv_run 1 true hD (pc' := 46) (lv' := [(0, .inr (.inr (some 1))), (1, .inr (.inl a1)), (3, .inl a2)]) (st' := [.inl a2, .inr (.inr (some 10))]) (h' := gc_h sh I J A) (C := (True ∧ True)) rfl ⟨trivial, trivial⟩ ?_
  refine gv_aald hD rfl S_10 ⟨by decide, by decide⟩ ⟨by decide, B_10⟩ ⟨by omega, by omega⟩ ((gc_aA S_10 rfl).trans x0) ?_
  show gv_X _ _ (47, [(0, .inr (.inr (some 1))), (1, .inr (.inl a1)), (3, .inl a2)], [.inr (.inr (some t))], sh, gc_h sh I J A)
  obtain ⟨r10, h10, E10, P10⟩ := d_X11_forgetAll_w (ws0 := ws0) (tb := tb) hws htb sh ro I J A hI t  h_t     
  obtain ⟨I11, J12, rfl, hI11, g10, k10, ⟨rfl, q10⟩⟩ := P10
  have FI11 := gc_frc (W := fun q j => (q = (t + 1) ∧ j = 1) ∨ (q = (t + 3) ∧ j = 1) ∨ (q = (t + 7) ∧ j = 1) ∨ (q = (t + 11) ∧ j = 1) ∨ (q = t ∧ j = 6) ∨ (q = t ∧ j = 11) ∨ (q = t ∧ j = 13) ∨ (q = 8 ∧ j = 1)) (V := fun q j => (q = (t + 1) ∧ j = 1) ∨ (q = (t + 3) ∧ j = 1) ∨ (q = (t + 7) ∧ j = 1) ∨ (q = (t + 11) ∧ j = 1) ∨ (q = t ∧ j = 6) ∨ (q = t ∧ j = 11) ∨ (q = t ∧ j = 13)) FI (fun q j h => (h.elim (fun h => (Or.inl h)) (fun h => (h.elim (fun h => (Or.inr (Or.inl h))) (fun h => (h.elim (fun h => (Or.inr (Or.inr (Or.inl h)))) (fun h => (h.elim (fun h => (Or.inr (Or.inr (Or.inr (Or.inl h))))) (fun h => (h.elim (fun h => (Or.inr (Or.inr (Or.inr (Or.inr (Or.inl h)))))) (fun h => (h.elim (fun h => (Or.inr (Or.inr (Or.inr (Or.inr (Or.inr (Or.inl h))))))) (fun h => (Or.inr (Or.inr (Or.inr (Or.inr (Or.inr (Or.inr (Or.inl h)))))))))))))))))))) g10
  have t13 := (g10 8 1).resolve_left (fun h => h.elim (fun h => absurd h.1 N_8__t_1) (fun h => h.elim (fun h => absurd h.1 N_8__t_3) (fun h => h.elim (fun h => absurd h.1 N_8__t_7) (fun h => h.elim (fun h => absurd h.1 N_8__t_11) (fun h => h.elim (fun h => absurd h.2 (by decide)) (fun h => h.elim (fun h => absurd h.2 (by decide)) (fun h => absurd h.2 (by decide))))))))
  have f14 := (show 0 ≤ I11 (t + 1) 1 ∧ I11 (t + 1) 1 ≤ 8 from gc_in hI11 R_t_1 rfl rfl)
  have f15 := (show 0 ≤ I11 (t + 3) 1 ∧ I11 (t + 3) 1 ≤ 48 from gc_in hI11 R_t_3 rfl rfl)
  have f16 := (show 0 ≤ I11 (t + 7) 1 ∧ I11 (t + 7) 1 ≤ 16 from gc_in hI11 R_t_7 rfl rfl)
  have f17 := (show 0 ≤ I11 (t + 11) 1 ∧ I11 (t + 11) 1 ≤ 24 from gc_in hI11 R_t_11 rfl rfl)
  have f18 := (show 0 ≤ I11 t 6 ∧ I11 t 6 ≤ 24 from gc_in hI11 R_t rfl rfl)
  have f19 := (show 0 ≤ I11 t 11 ∧ I11 t 11 ≤ 64 from gc_in hI11 R_t rfl rfl)
  have f20 := (show 0 ≤ I11 t 13 ∧ I11 t 13 ≤ 384 from gc_in hI11 R_t rfl rfl)
  obtain rfl : J = J12 := funext fun q => funext fun j => ((k10 q j).resolve_left id).symm
  refine gv_callV hD rfl (As := []) (st := []) rfl B_t S_t rfl (gc_lV8 hws rfl) (Nat.le_of_ble_eq_true rfl) (gz_Ev_mono (d := 1) (by decide) E10) ?_
  show gv_X _ _ (50, [(0, .inr (.inr (some 1))), (1, .inr (.inl a1)), (3, .inl a2)], [], sh, gc_h sh I11 J A)
  refine gv_run 1 true hD (pc' := 51) (lv' := [(0, .inr (.inr (some 1))), (1, .inr (.inl a1)), (3, .inl a2)]) (st' := [.inr (.inr (some 1))]) (h' := gc_h sh I11 J A) (C := (True ∧ True)) rfl ⟨trivial, trivial⟩ ?_
  refine gv_get hD rfl rfl S_1 ⟨by decide, B_1⟩ (gc_hA S_1 rfl A_1_3) ?_
  show gv_X _ _ (54, [(0, .inr (.inr (some 1))), (1, .inr (.inl a1)), (3, .inl a2)], [.inr (.inr (some 8))], sh, gc_h sh I11 J A)
  refine gv_run 1 true hD (pc' := 55) (lv' := [(0, .inr (.inr (some 1))), (1, .inr (.inl a1)), (3, .inl a2)]) (st' := [.inr (.inl a1), .inr (.inr (some 8))]) (h' := gc_h sh I11 J A) (C := (True ∧ True)) rfl ⟨trivial, trivial⟩ ?_
  obtain ⟨r21, h21, E21, P21⟩ := d_X4_put (ws0 := ws0) (tb := tb) hws htb sh ro I11 J A hI11 8 8 6 a1 (gc_b8 hb)     
  obtain ⟨I22, J23, rfl, hI22, g21, k21, ⟨rfl, q21⟩⟩ := P21
  have FI22 := gc_frc (W := fun q j => (q = (t + 1) ∧ j = 1) ∨ (q = (t + 3) ∧ j = 1) ∨ (q = (t + 7) ∧ j = 1) ∨ (q = (t + 11) ∧ j = 1) ∨ (q = t ∧ j = 6) ∨ (q = t ∧ j = 11) ∨ (q = t ∧ j = 13) ∨ (q = 8 ∧ j = 1)) (V := fun q j => (q = 8 ∧ j = 1)) FI11 (fun q j h => (Or.inr (Or.inr (Or.inr (Or.inr (Or.inr (Or.inr (Or.inr h)))))))) g21
  have FJ23 := gc_frc (W := fun q j => q = 9) (V := fun q j => q = 9) FJ (fun q j h => h) k21
  have t24 := (g21 (t + 1) 1).resolve_left (fun h => absurd h.1 N_t_1__8)
  have t25 := (g21 (t + 3) 1).resolve_left (fun h => absurd h.1 N_t_3__8)
  have t26 := (g21 (t + 7) 1).resolve_left (fun h => absurd h.1 N_t_7__8)
  have t27 := (g21 (t + 11) 1).resolve_left (fun h => absurd h.1 N_t_11__8)
  have t28 := (g21 t 6).resolve_left (fun h => absurd h.2 (by decide))
  have t29 := (g21 t 11).resolve_left (fun h => absurd h.2 (by decide))
  have t30 := (g21 t 13).resolve_left (fun h => absurd h.2 (by decide))
  have f31 := (show 0 ≤ I22 8 1 ∧ I22 8 1 ≤ 8 from gc_in hI22 R_8 rfl rfl)
  refine gv_callV hD rfl (As := [.inr (.inl a1)]) (st := []) rfl B_8 S_8 rfl (gc_lV8 hws rfl) (Nat.le_of_ble_eq_true rfl) (gz_Ev_mono (d := 1) (by decide) E21) ?_
  show gv_X _ _ (58, [(0, .inr (.inr (some 1))), (1, .inr (.inl a1)), (3, .inl a2)], [], sh, gc_h sh I22 J23 A)
  exact gv_vret hD rfl ⟨I22, J23, rfl, hI22, FI22, FJ23, ⟨rfl, by omega⟩⟩
