set_option maxHeartbeats 8000000 in
set_option maxRecDepth 100000 in
theorem d_X11_forgetAll_w {ws0 : List Cond} {tb : String → gz_T} (hws : gc_Ws ws0) (htb : gc_tbs tb) (sh : gz_Sh) (ro : Nat → Nat) (I : gr_I) (J : gr_J) (A : gc_A) (hI : gc_Inv ro I) (p : Nat)  (hp : gc_isTongue sh ro A p)   : ∃ r h', gz_Ev ws0 tb 1 (yX11_forgetAll, cX11_forgetAll, 1, none) [.inr (.inr (some p))] sh (gc_h sh I J A) r sh h' 0 0 ∧ (∃ (I' : gr_I) (J' : gr_J), h' = gc_h sh I' J' A ∧ gc_Inv ro I' ∧ (∀ q j : Nat, ((q = (p + 1) ∧ j = 1) ∨ (q = (p + 3) ∧ j = 1) ∨ (q = (p + 7) ∧ j = 1) ∨ (q = (p + 11) ∧ j = 1) ∨ (q = p ∧ j = 6) ∨ (q = p ∧ j = 11) ∨ (q = p ∧ j = 13)) ∨ I' q j = I q j) ∧ (∀ q j : Nat, (False) ∨ J' q j = J q j) ∧ r = none ∧ (I' (p + 1) 1 = 0) ∧ (I' (p + 3) 1 = 0) ∧ (I' (p + 7) 1 = 0) ∧ (I' (p + 11) 1 = 0) ∧ (I' p 6 = 0) ∧ (I' p 11 = 0) ∧ (I' p 13 = 0)) := by
  have FI : ∀ q j : Nat, ((q = (p + 1) ∧ j = 1) ∨ (q = (p + 3) ∧ j = 1) ∨ (q = (p + 7) ∧ j = 1) ∨ (q = (p + 11) ∧ j = 1) ∨ (q = p ∧ j = 6) ∨ (q = p ∧ j = 11) ∨ (q = p ∧ j = 13)) ∨ I q j = I q j := fun _ _ => Or.inr rfl
  have FJ : ∀ q j : Nat, (False) ∨ J q j = J q j := fun _ _ => Or.inr rfl
  obtain ⟨S_p, R_p, B_p, A_p_0, h_p_1, A_p_1, h_p_3, A_p_2, S_p_5, R_p_5, B_p_5, A_p_3, S_p_6, R_p_6, B_p_6, A_p_4, h_p_7, A_p_5, S_p_9, R_p_9, B_p_9, A_p_7, S_p_10, R_p_10, B_p_10, A_p_8, h_p_11, A_p_9, S_p_13, R_p_13, B_p_13, A_p_10, S_p_14, R_p_14, B_p_14, A_p_12, S_p_15, R_p_15, B_p_15, A_p_14, S_p_16, R_p_16, B_p_16, A_p_15, h_p_17⟩ := id hp
  obtain ⟨S_p_1, R_p_1, B_p_1, A_p_1_0, S_p_1_1, R_p_1_1, B_p_1_1, Q0_p_1, Q1_p_1, Q2_p_1⟩ := id h_p_1
  obtain ⟨S_p_3, R_p_3, B_p_3, A_p_3_0, S_p_3_1, R_p_3_1, B_p_3_1, Q0_p_3, Q1_p_3, Q2_p_3⟩ := id h_p_3
  obtain ⟨S_p_7, R_p_7, B_p_7, A_p_7_0, S_p_7_1, R_p_7_1, B_p_7_1, Q0_p_7, Q1_p_7, Q2_p_7⟩ := id h_p_7
  obtain ⟨S_p_11, R_p_11, B_p_11, A_p_11_0, S_p_11_1, R_p_11_1, B_p_11_1, Q0_p_11, Q1_p_11, Q2_p_11⟩ := id h_p_11
  obtain ⟨S_p_17, R_p_17, B_p_17, A_p_17_0, S_20, R_20, B_20, A_p_17_1, S_p_17_1, R_p_17_1, B_p_17_1, A_p_17_2, S_p_17_2, R_p_17_2, B_p_17_2, A_p_17_3, S_p_17_3, R_p_17_3, B_p_17_3, A_p_17_4, S_p_17_4, R_p_17_4, B_p_17_4, A_p_17_5, S_p_17_5, R_p_17_5, B_p_17_5, S_p_17_6, R_p_17_6, B_p_17_6, S_p_17_7, R_p_17_7, B_p_17_7⟩ := id h_p_17
  have hD : gv_D (gc_E11 ws0 tb 0 (yX11_forgetAll, cX11_forgetAll, 1, none) kX11_forgetAll) := gq_of oX11_forgetAll
  refine gc_ev11 (d := 0) (l := kX11_forgetAll) (Po := fun r h' => (∃ (I' : gr_I) (J' : gr_J), h' = gc_h sh I' J' A ∧ gc_Inv ro I' ∧ (∀ q j : Nat, ((q = (p + 1) ∧ j = 1) ∨ (q = (p + 3) ∧ j = 1) ∨ (q = (p + 7) ∧ j = 1) ∨ (q = (p + 11) ∧ j = 1) ∨ (q = p ∧ j = 6) ∨ (q = p ∧ j = 11) ∨ (q = p ∧ j = 13)) ∨ I' q j = I q j) ∧ (∀ q j : Nat, (False) ∨ J' q j = J q j) ∧ r = none ∧ (I' (p + 1) 1 = 0) ∧ (I' (p + 3) 1 = 0) ∧ (I' (p + 7) 1 = 0) ∧ (I' (p + 11) 1 = 0) ∧ (I' p 6 = 0) ∧ (I' p 11 = 0) ∧ (I' p 13 = 0))) htb rfl (Nat.le_of_ble_eq_true rfl) ?_
  have N_p_3__p_1 : ¬ ((p + 3) = (p + 1)) := by exact gz_m 0 (by omega)
  have N_p_7__p_1 : ¬ ((p + 7) = (p + 1)) := by exact gz_m 1 (by omega)
  have N_p_11__p_1 : ¬ ((p + 11) = (p + 1)) := by exact gz_m 2 (by omega)
  have N_p_1__p_3 : ¬ ((p + 1) = (p + 3)) := by exact gz_m 3 (by omega)
  have N_p_7__p_3 : ¬ ((p + 7) = (p + 3)) := by exact gz_m 4 (by omega)
  have N_p_11__p_3 : ¬ ((p + 11) = (p + 3)) := by exact gz_m 5 (by omega)
  have N_p_1__p_7 : ¬ ((p + 1) = (p + 7)) := by exact gz_m 6 (by omega)
  have N_p_3__p_7 : ¬ ((p + 3) = (p + 7)) := by exact gz_m 7 (by omega)
  have N_p_11__p_7 : ¬ ((p + 11) = (p + 7)) := by exact gz_m 8 (by omega)
  have N_p_1__p_11 : ¬ ((p + 1) = (p + 11)) := by exact gz_m 9 (by omega)
  have N_p_3__p_11 : ¬ ((p + 3) = (p + 11)) := by exact gz_m 10 (by omega)
  have N_p_7__p_11 : ¬ ((p + 7) = (p + 11)) := by exact gz_m 11 (by omega)
  have f1 := (show 0 ≤ I (p + 1) 1 ∧ I (p + 1) 1 ≤ 8 from gc_in hI R_p_1 rfl rfl)
  have f2 := (show 0 ≤ I (p + 3) 1 ∧ I (p + 3) 1 ≤ 48 from gc_in hI R_p_3 rfl rfl)
  have f3 := (show 0 ≤ I (p + 7) 1 ∧ I (p + 7) 1 ≤ 16 from gc_in hI R_p_7 rfl rfl)
  have f4 := (show 0 ≤ I (p + 11) 1 ∧ I (p + 11) 1 ≤ 24 from gc_in hI R_p_11 rfl rfl)
  have f5 := (show 0 ≤ I p 6 ∧ I p 6 ≤ 24 from gc_in hI R_p rfl rfl)
  have f6 := (show 0 ≤ I p 11 ∧ I p 11 ≤ 64 from gc_in hI R_p rfl rfl)
  have f7 := (show 0 ≤ I p 13 ∧ I p 13 ≤ 384 from gc_in hI R_p rfl rfl)
  refine gv_run 1 true hD (pc' := 1) (lv' := [(0, .inr (.inr (some p)))]) (st' := [.inr (.inr (some p))]) (h' := gc_h sh I J A) (C := (True ∧ True)) rfl ⟨trivial, trivial⟩ ?_
  refine gv_get hD rfl rfl S_p ⟨by decide, B_p⟩ (gc_hA S_p rfl A_p_0) ?_
  show gv_X _ _ (4, [(0, .inr (.inr (some p)))], [.inr (.inr (some (p + 1)))], sh, gc_h sh I J A)
  refine gv_run 1 true hD (pc' := 5) (lv' := [(0, .inr (.inr (some p)))]) (st' := [.inl 0, .inr (.inr (some (p + 1)))]) (h' := gc_h sh I J A) (C := (True ∧ True)) rfl ⟨trivial, trivial⟩ ?_
  refine gv_put hD rfl rfl S_p_1 ⟨by decide, B_p_1⟩ rfl trivial ?_
  refine gc_st (k := 1) hI S_p_1 rfl R_p_1 (lo := 0) (hi := 8) rfl rfl (by exact gz_m 12 (by omega)) (by exact gz_m 13 (by omega)) (fun I8 hI8 q9 p9 => ?_)
  have FI8 := gc_frs (W := fun q j => (q = (p + 1) ∧ j = 1) ∨ (q = (p + 3) ∧ j = 1) ∨ (q = (p + 7) ∧ j = 1) ∨ (q = (p + 11) ∧ j = 1) ∨ (q = p ∧ j = 6) ∨ (q = p ∧ j = 11) ∨ (q = p ∧ j = 13)) FI (Or.inl ⟨rfl, rfl⟩) p9
  have t10 := p9 (p + 3) 1 (fun h => absurd h.1 N_p_3__p_1)
  have t11 := p9 (p + 7) 1 (fun h => absurd h.1 N_p_7__p_1)
  have t12 := p9 (p + 11) 1 (fun h => absurd h.1 N_p_11__p_1)
  have t13 := p9 p 6 (fun h => absurd h.2 (by decide))
  have t14 := p9 p 11 (fun h => absurd h.2 (by decide))
  have t15 := p9 p 13 (fun h => absurd h.2 (by decide))
  have f16 := (show 0 ≤ I8 (p + 1) 1 ∧ I8 (p + 1) 1 ≤ 8 from gc_in hI8 R_p_1 rfl rfl)
  show gv_X _ _ (8, [(0, .inr (.inr (some p)))], [], sh, gc_h sh I8 J A)
  refine gv_run 1 true hD (pc' := 9) (lv' := [(0, .inr (.inr (some p)))]) (st' := [.inr (.inr (some p))]) (h' := gc_h sh I8 J A) (C := (True ∧ True)) rfl ⟨trivial, trivial⟩ ?_
  refine gv_get hD rfl rfl S_p ⟨by decide, B_p⟩ (gc_hA S_p rfl A_p_1) ?_
  show gv_X _ _ (12, [(0, .inr (.inr (some p)))], [.inr (.inr (some (p + 3)))], sh, gc_h sh I8 J A)
  refine gv_run 1 true hD (pc' := 13) (lv' := [(0, .inr (.inr (some p)))]) (st' := [.inl 0, .inr (.inr (some (p + 3)))]) (h' := gc_h sh I8 J A) (C := (True ∧ True)) rfl ⟨trivial, trivial⟩ ?_
  refine gv_put hD rfl rfl S_p_3 ⟨by decide, B_p_3⟩ rfl trivial ?_
  refine gc_st (k := 1) hI8 S_p_3 rfl R_p_3 (lo := 0) (hi := 48) rfl rfl (by exact gz_m 14 (by omega)) (by exact gz_m 15 (by omega)) (fun I17 hI17 q18 p18 => ?_)
  have FI17 := gc_frs (W := fun q j => (q = (p + 1) ∧ j = 1) ∨ (q = (p + 3) ∧ j = 1) ∨ (q = (p + 7) ∧ j = 1) ∨ (q = (p + 11) ∧ j = 1) ∨ (q = p ∧ j = 6) ∨ (q = p ∧ j = 11) ∨ (q = p ∧ j = 13)) FI8 (Or.inr (Or.inl ⟨rfl, rfl⟩)) p18
  have t19 := p18 (p + 1) 1 (fun h => absurd h.1 N_p_1__p_3)
  have t20 := p18 (p + 7) 1 (fun h => absurd h.1 N_p_7__p_3)
  have t21 := p18 (p + 11) 1 (fun h => absurd h.1 N_p_11__p_3)
  have t22 := p18 p 6 (fun h => absurd h.2 (by decide))
  have t23 := p18 p 11 (fun h => absurd h.2 (by decide))
  have t24 := p18 p 13 (fun h => absurd h.2 (by decide))
  have f25 := (show 0 ≤ I17 (p + 3) 1 ∧ I17 (p + 3) 1 ≤ 48 from gc_in hI17 R_p_3 rfl rfl)
  show gv_X _ _ (16, [(0, .inr (.inr (some p)))], [], sh, gc_h sh I17 J A)
  refine gv_run 1 true hD (pc' := 17) (lv' := [(0, .inr (.inr (some p)))]) (st' := [.inr (.inr (some p))]) (h' := gc_h sh I17 J A) (C := (True ∧ True)) rfl ⟨trivial, trivial⟩ ?_
  refine gv_get hD rfl rfl S_p ⟨by decide, B_p⟩ (gc_hA S_p rfl A_p_4) ?_
  show gv_X _ _ (20, [(0, .inr (.inr (some p)))], [.inr (.inr (some (p + 7)))], sh, gc_h sh I17 J A)
  refine gv_run 1 true hD (pc' := 21) (lv' := [(0, .inr (.inr (some p)))]) (st' := [.inl 0, .inr (.inr (some (p + 7)))]) (h' := gc_h sh I17 J A) (C := (True ∧ True)) rfl ⟨trivial, trivial⟩ ?_
  refine gv_put hD rfl rfl S_p_7 ⟨by decide, B_p_7⟩ rfl trivial ?_
  refine gc_st (k := 1) hI17 S_p_7 rfl R_p_7 (lo := 0) (hi := 16) rfl rfl (by exact gz_m 16 (by omega)) (by exact gz_m 17 (by omega)) (fun I26 hI26 q27 p27 => ?_)
  have FI26 := gc_frs (W := fun q j => (q = (p + 1) ∧ j = 1) ∨ (q = (p + 3) ∧ j = 1) ∨ (q = (p + 7) ∧ j = 1) ∨ (q = (p + 11) ∧ j = 1) ∨ (q = p ∧ j = 6) ∨ (q = p ∧ j = 11) ∨ (q = p ∧ j = 13)) FI17 (Or.inr (Or.inr (Or.inl ⟨rfl, rfl⟩))) p27
  have t28 := p27 (p + 1) 1 (fun h => absurd h.1 N_p_1__p_7)
  have t29 := p27 (p + 3) 1 (fun h => absurd h.1 N_p_3__p_7)
  have t30 := p27 (p + 11) 1 (fun h => absurd h.1 N_p_11__p_7)
  have t31 := p27 p 6 (fun h => absurd h.2 (by decide))
  have t32 := p27 p 11 (fun h => absurd h.2 (by decide))
  have t33 := p27 p 13 (fun h => absurd h.2 (by decide))
  have f34 := (show 0 ≤ I26 (p + 7) 1 ∧ I26 (p + 7) 1 ≤ 16 from gc_in hI26 R_p_7 rfl rfl)
  show gv_X _ _ (24, [(0, .inr (.inr (some p)))], [], sh, gc_h sh I26 J A)
  refine gv_run 2 true hD (pc' := 26) (lv' := [(0, .inr (.inr (some p)))]) (st' := [.inl 0, .inr (.inr (some p))]) (h' := gc_h sh I26 J A) (C := ((True ∧ True) ∧ True)) rfl ⟨⟨trivial, trivial⟩, trivial⟩ ?_
  refine gv_put hD rfl rfl S_p ⟨by decide, B_p⟩ rfl trivial ?_
  refine gc_st (k := 6) hI26 S_p rfl R_p (lo := 0) (hi := 24) rfl rfl (by exact gz_m 18 (by omega)) (by exact gz_m 19 (by omega)) (fun I35 hI35 q36 p36 => ?_)
  have FI35 := gc_frs (W := fun q j => (q = (p + 1) ∧ j = 1) ∨ (q = (p + 3) ∧ j = 1) ∨ (q = (p + 7) ∧ j = 1) ∨ (q = (p + 11) ∧ j = 1) ∨ (q = p ∧ j = 6) ∨ (q = p ∧ j = 11) ∨ (q = p ∧ j = 13)) FI26 (Or.inr (Or.inr (Or.inr (Or.inr (Or.inl ⟨rfl, rfl⟩))))) p36
  have t37 := p36 (p + 1) 1 (fun h => absurd h.2 (by decide))
  have t38 := p36 (p + 3) 1 (fun h => absurd h.2 (by decide))
  have t39 := p36 (p + 7) 1 (fun h => absurd h.2 (by decide))
  have t40 := p36 (p + 11) 1 (fun h => absurd h.2 (by decide))
  have t41 := p36 p 11 (fun h => absurd h.2 (by decide))
  have t42 := p36 p 13 (fun h => absurd h.2 (by decide))
  have f43 := (show 0 ≤ I35 p 6 ∧ I35 p 6 ≤ 24 from gc_in hI35 R_p rfl rfl)
  show gv_X _ _ (29, [(0, .inr (.inr (some p)))], [], sh, gc_h sh I35 J A)
  refine gv_run 1 true hD (pc' := 30) (lv' := [(0, .inr (.inr (some p)))]) (st' := [.inr (.inr (some p))]) (h' := gc_h sh I35 J A) (C := (True ∧ True)) rfl ⟨trivial, trivial⟩ ?_
  refine gv_get hD rfl rfl S_p ⟨by decide, B_p⟩ (gc_hA S_p rfl A_p_8) ?_
  show gv_X _ _ (33, [(0, .inr (.inr (some p)))], [.inr (.inr (some (p + 11)))], sh, gc_h sh I35 J A)
  refine gv_run 1 true hD (pc' := 34) (lv' := [(0, .inr (.inr (some p)))]) (st' := [.inl 0, .inr (.inr (some (p + 11)))]) (h' := gc_h sh I35 J A) (C := (True ∧ True)) rfl ⟨trivial, trivial⟩ ?_
  refine gv_put hD rfl rfl S_p_11 ⟨by decide, B_p_11⟩ rfl trivial ?_
  refine gc_st (k := 1) hI35 S_p_11 rfl R_p_11 (lo := 0) (hi := 24) rfl rfl (by exact gz_m 20 (by omega)) (by exact gz_m 21 (by omega)) (fun I44 hI44 q45 p45 => ?_)
  have FI44 := gc_frs (W := fun q j => (q = (p + 1) ∧ j = 1) ∨ (q = (p + 3) ∧ j = 1) ∨ (q = (p + 7) ∧ j = 1) ∨ (q = (p + 11) ∧ j = 1) ∨ (q = p ∧ j = 6) ∨ (q = p ∧ j = 11) ∨ (q = p ∧ j = 13)) FI35 (Or.inr (Or.inr (Or.inr (Or.inl ⟨rfl, rfl⟩)))) p45
  have t46 := p45 (p + 1) 1 (fun h => absurd h.1 N_p_1__p_11)
  have t47 := p45 (p + 3) 1 (fun h => absurd h.1 N_p_3__p_11)
  have t48 := p45 (p + 7) 1 (fun h => absurd h.1 N_p_7__p_11)
  have t49 := p45 p 6 (fun h => absurd h.2 (by decide))
  have t50 := p45 p 11 (fun h => absurd h.2 (by decide))
  have t51 := p45 p 13 (fun h => absurd h.2 (by decide))
  have f52 := (show 0 ≤ I44 (p + 11) 1 ∧ I44 (p + 11) 1 ≤ 24 from gc_in hI44 R_p_11 rfl rfl)
  show gv_X _ _ (37, [(0, .inr (.inr (some p)))], [], sh, gc_h sh I44 J A)
  refine gv_run 2 true hD (pc' := 39) (lv' := [(0, .inr (.inr (some p)))]) (st' := [.inl 0, .inr (.inr (some p))]) (h' := gc_h sh I44 J A) (C := ((True ∧ True) ∧ True)) rfl ⟨⟨trivial, trivial⟩, trivial⟩ ?_
  refine gv_put hD rfl rfl S_p ⟨by decide, B_p⟩ rfl trivial ?_
  refine gc_st (k := 11) hI44 S_p rfl R_p (lo := 0) (hi := 64) rfl rfl (by exact gz_m 22 (by omega)) (by exact gz_m 23 (by omega)) (fun I53 hI53 q54 p54 => ?_)
  have FI53 := gc_frs (W := fun q j => (q = (p + 1) ∧ j = 1) ∨ (q = (p + 3) ∧ j = 1) ∨ (q = (p + 7) ∧ j = 1) ∨ (q = (p + 11) ∧ j = 1) ∨ (q = p ∧ j = 6) ∨ (q = p ∧ j = 11) ∨ (q = p ∧ j = 13)) FI44 (Or.inr (Or.inr (Or.inr (Or.inr (Or.inr (Or.inl ⟨rfl, rfl⟩)))))) p54
  have t55 := p54 (p + 1) 1 (fun h => absurd h.2 (by decide))
  have t56 := p54 (p + 3) 1 (fun h => absurd h.2 (by decide))
  have t57 := p54 (p + 7) 1 (fun h => absurd h.2 (by decide))
  have t58 := p54 (p + 11) 1 (fun h => absurd h.2 (by decide))
  have t59 := p54 p 6 (fun h => absurd h.2 (by decide))
  have t60 := p54 p 13 (fun h => absurd h.2 (by decide))
  have f61 := (show 0 ≤ I53 p 11 ∧ I53 p 11 ≤ 64 from gc_in hI53 R_p rfl rfl)
  show gv_X _ _ (42, [(0, .inr (.inr (some p)))], [], sh, gc_h sh I53 J A)
  refine gv_run 2 true hD (pc' := 44) (lv' := [(0, .inr (.inr (some p)))]) (st' := [.inl 0, .inr (.inr (some p))]) (h' := gc_h sh I53 J A) (C := ((True ∧ True) ∧ True)) rfl ⟨⟨trivial, trivial⟩, trivial⟩ ?_
  refine gv_put hD rfl rfl S_p ⟨by decide, B_p⟩ rfl trivial ?_
  refine gc_st (k := 13) hI53 S_p rfl R_p (lo := 0) (hi := 384) rfl rfl (by exact gz_m 24 (by omega)) (by exact gz_m 25 (by omega)) (fun I62 hI62 q63 p63 => ?_)
  have FI62 := gc_frs (W := fun q j => (q = (p + 1) ∧ j = 1) ∨ (q = (p + 3) ∧ j = 1) ∨ (q = (p + 7) ∧ j = 1) ∨ (q = (p + 11) ∧ j = 1) ∨ (q = p ∧ j = 6) ∨ (q = p ∧ j = 11) ∨ (q = p ∧ j = 13)) FI53 (Or.inr (Or.inr (Or.inr (Or.inr (Or.inr (Or.inr ⟨rfl, rfl⟩)))))) p63
  have t64 := p63 (p + 1) 1 (fun h => absurd h.2 (by decide))
  have t65 := p63 (p + 3) 1 (fun h => absurd h.2 (by decide))
  have t66 := p63 (p + 7) 1 (fun h => absurd h.2 (by decide))
  have t67 := p63 (p + 11) 1 (fun h => absurd h.2 (by decide))
  have t68 := p63 p 6 (fun h => absurd h.2 (by decide))
  have t69 := p63 p 11 (fun h => absurd h.2 (by decide))
  have f70 := (show 0 ≤ I62 p 13 ∧ I62 p 13 ≤ 384 from gc_in hI62 R_p rfl rfl)
  show gv_X _ _ (47, [(0, .inr (.inr (some p)))], [], sh, gc_h sh I62 J A)
  exact gv_vret hD rfl ⟨I62, J, rfl, hI62, FI62, FJ, ⟨rfl, by exact gz_m 26 (by omega)⟩⟩
