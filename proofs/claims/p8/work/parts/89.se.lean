set_option maxHeartbeats 8000000 in
set_option maxRecDepth 100000 in
theorem d_X11_loadSizes {ws0 : List Cond} {tb : String → gz_T} (hws : gc_Ws ws0) (htb : gc_tbs tb) (sh : gz_Sh) (ro : Nat → Nat) (I : gr_I) (J : gr_J) (A : gc_A) (hI : gc_Inv ro I) (p : Nat) (m : Nat) (a1 : Nat) (a2 : Int) (hp : gc_isTongue sh ro A p) (S_a1 : sh[a1]? = some (true, 1, m)) (R_a1 : ro a1 = 70) (B_a1 : a1 < 1000000) (M_a1 : m < 2147483648) (ha2 : 0 ≤ a2 ∧ a2 ≤ 1000) (x0 : a2 + 7 ≤ m) (x1 : 144 ≤ p) (x2 : a1 < 144) (x3 : 0 ≤ I a1 (Int.toNat a2) ∧ I a1 (Int.toNat a2) ≤ 8) (x4 : 0 ≤ I a1 (Int.toNat (a2 + 1)) ∧ I a1 (Int.toNat (a2 + 1)) ≤ 48) (x5 : 0 ≤ I a1 (Int.toNat (a2 + 2)) ∧ I a1 (Int.toNat (a2 + 2)) ≤ 16) (x6 : 0 ≤ I a1 (Int.toNat (a2 + 3)) ∧ I a1 (Int.toNat (a2 + 3)) ≤ 24) (x7 : 0 ≤ I a1 (Int.toNat (a2 + 4)) ∧ I a1 (Int.toNat (a2 + 4)) ≤ 24) (x8 : 0 ≤ I a1 (Int.toNat (a2 + 5)) ∧ I a1 (Int.toNat (a2 + 5)) ≤ 64) (x9 : 0 ≤ I a1 (Int.toNat (a2 + 6)) ∧ I a1 (Int.toNat (a2 + 6)) ≤ 384) : ∃ r h', gz_Ev ws0 tb 1 (yX11_loadSizes, cX11_loadSizes, 3, none) [.inr (.inr (some p)), .inr (.inr (some a1)), .inl a2] sh (gc_h sh I J A) r sh h' 0 0 ∧ (∃ (I' : gr_I) (J' : gr_J), h' = gc_h sh I' J' A ∧ gc_Inv ro I' ∧ (∀ q j : Nat, ((q = (p + 1) ∧ j = 1) ∨ (q = (p + 3) ∧ j = 1) ∨ (q = (p + 7) ∧ j = 1) ∨ (q = (p + 11) ∧ j = 1) ∨ (q = p ∧ j = 6) ∨ (q = p ∧ j = 11) ∨ (q = p ∧ j = 13)) ∨ I' q j = I q j) ∧ (∀ q j : Nat, (False) ∨ J' q j = J q j) ∧ r = none ∧ (I' (p + 1) 1 = I a1 (Int.toNat a2)) ∧ (I' (p + 3) 1 = I a1 (Int.toNat (a2 + 1))) ∧ (I' (p + 7) 1 = I a1 (Int.toNat (a2 + 2))) ∧ (I' p 6 = I a1 (Int.toNat (a2 + 3))) ∧ (I' (p + 11) 1 = I a1 (Int.toNat (a2 + 4))) ∧ (I' p 11 = I a1 (Int.toNat (a2 + 5))) ∧ (I' p 13 = I a1 (Int.toNat (a2 + 6)))) := by
  have FI : ∀ q j : Nat, ((q = (p + 1) ∧ j = 1) ∨ (q = (p + 3) ∧ j = 1) ∨ (q = (p + 7) ∧ j = 1) ∨ (q = (p + 11) ∧ j = 1) ∨ (q = p ∧ j = 6) ∨ (q = p ∧ j = 11) ∨ (q = p ∧ j = 13)) ∨ I q j = I q j := fun _ _ => Or.inr rfl
  have FJ : ∀ q j : Nat, (False) ∨ J q j = J q j := fun _ _ => Or.inr rfl
  obtain ⟨S_p, R_p, B_p, A_p_0, h_p_1, A_p_1, h_p_3, A_p_2, S_p_5, R_p_5, B_p_5, A_p_3, S_p_6, R_p_6, B_p_6, A_p_4, h_p_7, A_p_5, S_p_9, R_p_9, B_p_9, A_p_7, S_p_10, R_p_10, B_p_10, A_p_8, h_p_11, A_p_9, S_p_13, R_p_13, B_p_13, A_p_10, S_p_14, R_p_14, B_p_14, A_p_12, S_p_15, R_p_15, B_p_15, A_p_14, S_p_16, R_p_16, B_p_16, A_p_15, h_p_17⟩ := id hp
  obtain ⟨S_p_1, R_p_1, B_p_1, A_p_1_0, S_p_1_1, R_p_1_1, B_p_1_1, Q0_p_1, Q1_p_1, Q2_p_1⟩ := id h_p_1
  obtain ⟨S_p_3, R_p_3, B_p_3, A_p_3_0, S_p_3_1, R_p_3_1, B_p_3_1, Q0_p_3, Q1_p_3, Q2_p_3⟩ := id h_p_3
  obtain ⟨S_p_7, R_p_7, B_p_7, A_p_7_0, S_p_7_1, R_p_7_1, B_p_7_1, Q0_p_7, Q1_p_7, Q2_p_7⟩ := id h_p_7
  obtain ⟨S_p_11, R_p_11, B_p_11, A_p_11_0, S_p_11_1, R_p_11_1, B_p_11_1, Q0_p_11, Q1_p_11, Q2_p_11⟩ := id h_p_11
  obtain ⟨S_p_17, R_p_17, B_p_17, A_p_17_0, S_20, R_20, B_20, A_p_17_1, S_p_17_1, R_p_17_1, B_p_17_1, A_p_17_2, S_p_17_2, R_p_17_2, B_p_17_2, A_p_17_3, S_p_17_3, R_p_17_3, B_p_17_3, A_p_17_4, S_p_17_4, R_p_17_4, B_p_17_4, A_p_17_5, S_p_17_5, R_p_17_5, B_p_17_5, S_p_17_6, R_p_17_6, B_p_17_6, S_p_17_7, R_p_17_7, B_p_17_7⟩ := id h_p_17
  have hD : gv_D (gc_E11 ws0 tb 0 (yX11_loadSizes, cX11_loadSizes, 3, none) kX11_loadSizes) := gq_of oX11_loadSizes
  refine gc_ev11 (d := 0) (l := kX11_loadSizes) (Po := fun r h' => (∃ (I' : gr_I) (J' : gr_J), h' = gc_h sh I' J' A ∧ gc_Inv ro I' ∧ (∀ q j : Nat, ((q = (p + 1) ∧ j = 1) ∨ (q = (p + 3) ∧ j = 1) ∨ (q = (p + 7) ∧ j = 1) ∨ (q = (p + 11) ∧ j = 1) ∨ (q = p ∧ j = 6) ∨ (q = p ∧ j = 11) ∨ (q = p ∧ j = 13)) ∨ I' q j = I q j) ∧ (∀ q j : Nat, (False) ∨ J' q j = J q j) ∧ r = none ∧ (I' (p + 1) 1 = I a1 (Int.toNat a2)) ∧ (I' (p + 3) 1 = I a1 (Int.toNat (a2 + 1))) ∧ (I' (p + 7) 1 = I a1 (Int.toNat (a2 + 2))) ∧ (I' p 6 = I a1 (Int.toNat (a2 + 3))) ∧ (I' (p + 11) 1 = I a1 (Int.toNat (a2 + 4))) ∧ (I' p 11 = I a1 (Int.toNat (a2 + 5))) ∧ (I' p 13 = I a1 (Int.toNat (a2 + 6))))) htb rfl (Nat.le_of_ble_eq_true rfl) ?_
  have N_p_3__p_1 : ¬ ((p + 3) = (p + 1)) := by exact gz_m 0 (by omega)
  have N_p_7__p_1 : ¬ ((p + 7) = (p + 1)) := by exact gz_m 1 (by omega)
  have N_p_11__p_1 : ¬ ((p + 11) = (p + 1)) := by exact gz_m 2 (by omega)
  have N_a1__p_1 : ¬ (a1 = (p + 1)) := by exact gz_m 3 (by omega)
  have N_p_1__p_3 : ¬ ((p + 1) = (p + 3)) := by exact gz_m 4 (by omega)
  have N_p_7__p_3 : ¬ ((p + 7) = (p + 3)) := by exact gz_m 5 (by omega)
  have N_p_11__p_3 : ¬ ((p + 11) = (p + 3)) := by exact gz_m 6 (by omega)
  have N_a1__p_3 : ¬ (a1 = (p + 3)) := by exact gz_m 7 (by omega)
  have N_p_1__p_7 : ¬ ((p + 1) = (p + 7)) := by exact gz_m 8 (by omega)
  have N_p_3__p_7 : ¬ ((p + 3) = (p + 7)) := by exact gz_m 9 (by omega)
  have N_p_11__p_7 : ¬ ((p + 11) = (p + 7)) := by exact gz_m 10 (by omega)
  have N_a1__p_7 : ¬ (a1 = (p + 7)) := by exact gz_m 11 (by omega)
  have N_a1__p : ¬ (a1 = p) := by exact gz_m 12 (by omega)
  have N_p_1__p_11 : ¬ ((p + 1) = (p + 11)) := by exact gz_m 13 (by omega)
  have N_p_3__p_11 : ¬ ((p + 3) = (p + 11)) := by exact gz_m 14 (by omega)
  have N_p_7__p_11 : ¬ ((p + 7) = (p + 11)) := by exact gz_m 15 (by omega)
  have N_a1__p_11 : ¬ (a1 = (p + 11)) := by exact gz_m 16 (by omega)
  have f1 := (show 0 ≤ I (p + 1) 1 ∧ I (p + 1) 1 ≤ 8 from gc_in hI R_p_1 rfl rfl)
  have f2 := (show 0 ≤ I (p + 3) 1 ∧ I (p + 3) 1 ≤ 48 from gc_in hI R_p_3 rfl rfl)
  have f3 := (show 0 ≤ I (p + 7) 1 ∧ I (p + 7) 1 ≤ 16 from gc_in hI R_p_7 rfl rfl)
  have f4 := (show 0 ≤ I p 6 ∧ I p 6 ≤ 24 from gc_in hI R_p rfl rfl)
  have f5 := (show 0 ≤ I (p + 11) 1 ∧ I (p + 11) 1 ≤ 24 from gc_in hI R_p_11 rfl rfl)
  have f6 := (show 0 ≤ I p 11 ∧ I p 11 ≤ 64 from gc_in hI R_p rfl rfl)
  have f7 := (show 0 ≤ I p 13 ∧ I p 13 ≤ 384 from gc_in hI R_p rfl rfl)
  refine gv_run 1 true hD (pc' := 1) (lv' := [(0, .inr (.inr (some p))), (1, .inr (.inr (some a1))), (2, .inl a2)]) (st' := [.inr (.inr (some p))]) (h' := gc_h sh I J A) (C := (True ∧ True)) rfl ⟨trivial, trivial⟩ ?_
  refine gv_get hD rfl rfl S_p ⟨by decide, B_p⟩ (gc_hA S_p rfl A_p_0) ?_
  show gv_X _ _ (4, [(0, .inr (.inr (some p))), (1, .inr (.inr (some a1))), (2, .inl a2)], [.inr (.inr (some (p + 1)))], sh, gc_h sh I J A)
  refine gv_run 2 true hD (pc' := 6) (lv' := [(0, .inr (.inr (some p))), (1, .inr (.inr (some a1))), (2, .inl a2)]) (st' := [.inl a2, .inr (.inr (some a1)), .inr (.inr (some (p + 1)))]) (h' := gc_h sh I J A) (C := ((True ∧ True) ∧ True)) rfl ⟨⟨trivial, trivial⟩, trivial⟩ ?_
  have f8 := (show (-1) ≤ I a1 (Int.toNat a2) ∧ I a1 (Int.toNat a2) ≤ 12000 from gc_in hI R_a1 rfl rfl)
  refine gv_iald hD rfl S_a1 rfl ⟨by exact gz_m 17 (by omega), B_a1⟩ ⟨by exact gz_m 18 (by omega), by exact gz_m 19 (by omega)⟩ (gc_iI S_a1 rfl) ?_
  show gv_X _ _ (7, [(0, .inr (.inr (some p))), (1, .inr (.inr (some a1))), (2, .inl a2)], [.inl (I a1 (Int.toNat a2)), .inr (.inr (some (p + 1)))], sh, gc_h sh I J A)
  refine gv_put hD rfl rfl S_p_1 ⟨by decide, B_p_1⟩ rfl trivial ?_
  refine gc_st (k := 1) hI S_p_1 rfl R_p_1 (lo := 0) (hi := 8) rfl rfl (by exact gz_m 20 (by omega)) (by exact gz_m 21 (by omega)) (fun I9 hI9 q10 p10 => ?_)
  have FI9 := gc_frs (W := fun q j => (q = (p + 1) ∧ j = 1) ∨ (q = (p + 3) ∧ j = 1) ∨ (q = (p + 7) ∧ j = 1) ∨ (q = (p + 11) ∧ j = 1) ∨ (q = p ∧ j = 6) ∨ (q = p ∧ j = 11) ∨ (q = p ∧ j = 13)) FI (Or.inl ⟨rfl, rfl⟩) p10
  have t11 := p10 (p + 3) 1 (fun h => absurd h.1 N_p_3__p_1)
  have t12 := p10 (p + 7) 1 (fun h => absurd h.1 N_p_7__p_1)
  have t13 := p10 p 6 (fun h => absurd h.2 (by decide))
  have t14 := p10 (p + 11) 1 (fun h => absurd h.1 N_p_11__p_1)
  have t15 := p10 p 11 (fun h => absurd h.2 (by decide))
  have t16 := p10 p 13 (fun h => absurd h.2 (by decide))
  have t17 := p10 a1 (Int.toNat a2) (fun h => absurd h.1 N_a1__p_1)
  have t18 := p10 a1 (Int.toNat (a2 + 1)) (fun h => absurd h.1 N_a1__p_1)
  have t19 := p10 a1 (Int.toNat (a2 + 2)) (fun h => absurd h.1 N_a1__p_1)
  have t20 := p10 a1 (Int.toNat (a2 + 3)) (fun h => absurd h.1 N_a1__p_1)
  have t21 := p10 a1 (Int.toNat (a2 + 4)) (fun h => absurd h.1 N_a1__p_1)
  have t22 := p10 a1 (Int.toNat (a2 + 5)) (fun h => absurd h.1 N_a1__p_1)
  have t23 := p10 a1 (Int.toNat (a2 + 6)) (fun h => absurd h.1 N_a1__p_1)
  have f24 := (show 0 ≤ I9 (p + 1) 1 ∧ I9 (p + 1) 1 ≤ 8 from gc_in hI9 R_p_1 rfl rfl)
  show gv_X _ _ (10, [(0, .inr (.inr (some p))), (1, .inr (.inr (some a1))), (2, .inl a2)], [], sh, gc_h sh I9 J A)
  refine gv_run 1 true hD (pc' := 11) (lv' := [(0, .inr (.inr (some p))), (1, .inr (.inr (some a1))), (2, .inl a2)]) (st' := [.inr (.inr (some p))]) (h' := gc_h sh I9 J A) (C := (True ∧ True)) rfl ⟨trivial, trivial⟩ ?_
  refine gv_get hD rfl rfl S_p ⟨by decide, B_p⟩ (gc_hA S_p rfl A_p_1) ?_
  show gv_X _ _ (14, [(0, .inr (.inr (some p))), (1, .inr (.inr (some a1))), (2, .inl a2)], [.inr (.inr (some (p + 3)))], sh, gc_h sh I9 J A)
  refine gv_run 4 true hD (pc' := 18) (lv' := [(0, .inr (.inr (some p))), (1, .inr (.inr (some a1))), (2, .inl a2)]) (st' := [.inl (a2 + 1), .inr (.inr (some a1)), .inr (.inr (some (p + 3)))]) (h' := gc_h sh I9 J A) (C := ((((True ∧ True) ∧ True) ∧ True) ∧ True)) rfl ⟨⟨⟨⟨trivial, trivial⟩, trivial⟩, trivial⟩, trivial⟩ ?_
  have f25 := (show (-1) ≤ I9 a1 (Int.toNat (a2 + 1)) ∧ I9 a1 (Int.toNat (a2 + 1)) ≤ 12000 from gc_in hI9 R_a1 rfl rfl)
  refine gv_iald hD rfl S_a1 rfl ⟨by exact gz_m 22 (by omega), B_a1⟩ ⟨by exact gz_m 23 (by omega), by exact gz_m 24 (by omega)⟩ (gc_iI S_a1 rfl) ?_
  show gv_X _ _ (19, [(0, .inr (.inr (some p))), (1, .inr (.inr (some a1))), (2, .inl a2)], [.inl (I9 a1 (Int.toNat (a2 + 1))), .inr (.inr (some (p + 3)))], sh, gc_h sh I9 J A)
  refine gv_put hD rfl rfl S_p_3 ⟨by decide, B_p_3⟩ rfl trivial ?_
  refine gc_st (k := 1) hI9 S_p_3 rfl R_p_3 (lo := 0) (hi := 48) rfl rfl (by exact gz_m 25 (by omega)) (by exact gz_m 26 (by omega)) (fun I26 hI26 q27 p27 => ?_)
  have FI26 := gc_frs (W := fun q j => (q = (p + 1) ∧ j = 1) ∨ (q = (p + 3) ∧ j = 1) ∨ (q = (p + 7) ∧ j = 1) ∨ (q = (p + 11) ∧ j = 1) ∨ (q = p ∧ j = 6) ∨ (q = p ∧ j = 11) ∨ (q = p ∧ j = 13)) FI9 (Or.inr (Or.inl ⟨rfl, rfl⟩)) p27
  have t28 := p27 (p + 1) 1 (fun h => absurd h.1 N_p_1__p_3)
  have t29 := p27 (p + 7) 1 (fun h => absurd h.1 N_p_7__p_3)
  have t30 := p27 p 6 (fun h => absurd h.2 (by decide))
  have t31 := p27 (p + 11) 1 (fun h => absurd h.1 N_p_11__p_3)
  have t32 := p27 p 11 (fun h => absurd h.2 (by decide))
  have t33 := p27 p 13 (fun h => absurd h.2 (by decide))
  have t34 := p27 a1 (Int.toNat a2) (fun h => absurd h.1 N_a1__p_3)
  have t35 := p27 a1 (Int.toNat (a2 + 1)) (fun h => absurd h.1 N_a1__p_3)
  have t36 := p27 a1 (Int.toNat (a2 + 2)) (fun h => absurd h.1 N_a1__p_3)
  have t37 := p27 a1 (Int.toNat (a2 + 3)) (fun h => absurd h.1 N_a1__p_3)
  have t38 := p27 a1 (Int.toNat (a2 + 4)) (fun h => absurd h.1 N_a1__p_3)
  have t39 := p27 a1 (Int.toNat (a2 + 5)) (fun h => absurd h.1 N_a1__p_3)
  have t40 := p27 a1 (Int.toNat (a2 + 6)) (fun h => absurd h.1 N_a1__p_3)
  have f41 := (show 0 ≤ I26 (p + 3) 1 ∧ I26 (p + 3) 1 ≤ 48 from gc_in hI26 R_p_3 rfl rfl)
  show gv_X _ _ (22, [(0, .inr (.inr (some p))), (1, .inr (.inr (some a1))), (2, .inl a2)], [], sh, gc_h sh I26 J A)
  refine gv_run 1 true hD (pc' := 23) (lv' := [(0, .inr (.inr (some p))), (1, .inr (.inr (some a1))), (2, .inl a2)]) (st' := [.inr (.inr (some p))]) (h' := gc_h sh I26 J A) (C := (True ∧ True)) rfl ⟨trivial, trivial⟩ ?_
  refine gv_get hD rfl rfl S_p ⟨by decide, B_p⟩ (gc_hA S_p rfl A_p_4) ?_
  show gv_X _ _ (26, [(0, .inr (.inr (some p))), (1, .inr (.inr (some a1))), (2, .inl a2)], [.inr (.inr (some (p + 7)))], sh, gc_h sh I26 J A)
  refine gv_run 4 true hD (pc' := 30) (lv' := [(0, .inr (.inr (some p))), (1, .inr (.inr (some a1))), (2, .inl a2)]) (st' := [.inl (a2 + 2), .inr (.inr (some a1)), .inr (.inr (some (p + 7)))]) (h' := gc_h sh I26 J A) (C := ((((True ∧ True) ∧ True) ∧ True) ∧ True)) rfl ⟨⟨⟨⟨trivial, trivial⟩, trivial⟩, trivial⟩, trivial⟩ ?_
  have f42 := (show (-1) ≤ I26 a1 (Int.toNat (a2 + 2)) ∧ I26 a1 (Int.toNat (a2 + 2)) ≤ 12000 from gc_in hI26 R_a1 rfl rfl)
  refine gv_iald hD rfl S_a1 rfl ⟨by exact gz_m 27 (by omega), B_a1⟩ ⟨by exact gz_m 28 (by omega), by exact gz_m 29 (by omega)⟩ (gc_iI S_a1 rfl) ?_
  show gv_X _ _ (31, [(0, .inr (.inr (some p))), (1, .inr (.inr (some a1))), (2, .inl a2)], [.inl (I26 a1 (Int.toNat (a2 + 2))), .inr (.inr (some (p + 7)))], sh, gc_h sh I26 J A)
  refine gv_put hD rfl rfl S_p_7 ⟨by decide, B_p_7⟩ rfl trivial ?_
  refine gc_st (k := 1) hI26 S_p_7 rfl R_p_7 (lo := 0) (hi := 16) rfl rfl (by exact gz_m 30 (by omega)) (by exact gz_m 31 (by omega)) (fun I43 hI43 q44 p44 => ?_)
  have FI43 := gc_frs (W := fun q j => (q = (p + 1) ∧ j = 1) ∨ (q = (p + 3) ∧ j = 1) ∨ (q = (p + 7) ∧ j = 1) ∨ (q = (p + 11) ∧ j = 1) ∨ (q = p ∧ j = 6) ∨ (q = p ∧ j = 11) ∨ (q = p ∧ j = 13)) FI26 (Or.inr (Or.inr (Or.inl ⟨rfl, rfl⟩))) p44
  have t45 := p44 (p + 1) 1 (fun h => absurd h.1 N_p_1__p_7)
  have t46 := p44 (p + 3) 1 (fun h => absurd h.1 N_p_3__p_7)
  have t47 := p44 p 6 (fun h => absurd h.2 (by decide))
  have t48 := p44 (p + 11) 1 (fun h => absurd h.1 N_p_11__p_7)
  have t49 := p44 p 11 (fun h => absurd h.2 (by decide))
  have t50 := p44 p 13 (fun h => absurd h.2 (by decide))
  have t51 := p44 a1 (Int.toNat a2) (fun h => absurd h.1 N_a1__p_7)
  have t52 := p44 a1 (Int.toNat (a2 + 1)) (fun h => absurd h.1 N_a1__p_7)
  have t53 := p44 a1 (Int.toNat (a2 + 2)) (fun h => absurd h.1 N_a1__p_7)
  have t54 := p44 a1 (Int.toNat (a2 + 3)) (fun h => absurd h.1 N_a1__p_7)
  have t55 := p44 a1 (Int.toNat (a2 + 4)) (fun h => absurd h.1 N_a1__p_7)
  have t56 := p44 a1 (Int.toNat (a2 + 5)) (fun h => absurd h.1 N_a1__p_7)
  have t57 := p44 a1 (Int.toNat (a2 + 6)) (fun h => absurd h.1 N_a1__p_7)
  have f58 := (show 0 ≤ I43 (p + 7) 1 ∧ I43 (p + 7) 1 ≤ 16 from gc_in hI43 R_p_7 rfl rfl)
  show gv_X _ _ (34, [(0, .inr (.inr (some p))), (1, .inr (.inr (some a1))), (2, .inl a2)], [], sh, gc_h sh I43 J A)
  refine gv_run 5 true hD (pc' := 39) (lv' := [(0, .inr (.inr (some p))), (1, .inr (.inr (some a1))), (2, .inl a2)]) (st' := [.inl (a2 + 3), .inr (.inr (some a1)), .inr (.inr (some p))]) (h' := gc_h sh I43 J A) (C := (((((True ∧ True) ∧ True) ∧ True) ∧ True) ∧ True)) rfl ⟨⟨⟨⟨⟨trivial, trivial⟩, trivial⟩, trivial⟩, trivial⟩, trivial⟩ ?_
  have f59 := (show (-1) ≤ I43 a1 (Int.toNat (a2 + 3)) ∧ I43 a1 (Int.toNat (a2 + 3)) ≤ 12000 from gc_in hI43 R_a1 rfl rfl)
  refine gv_iald hD rfl S_a1 rfl ⟨by exact gz_m 32 (by omega), B_a1⟩ ⟨by exact gz_m 33 (by omega), by exact gz_m 34 (by omega)⟩ (gc_iI S_a1 rfl) ?_
  show gv_X _ _ (40, [(0, .inr (.inr (some p))), (1, .inr (.inr (some a1))), (2, .inl a2)], [.inl (I43 a1 (Int.toNat (a2 + 3))), .inr (.inr (some p))], sh, gc_h sh I43 J A)
  refine gv_put hD rfl rfl S_p ⟨by decide, B_p⟩ rfl trivial ?_
  refine gc_st (k := 6) hI43 S_p rfl R_p (lo := 0) (hi := 24) rfl rfl (by exact gz_m 35 (by omega)) (by exact gz_m 36 (by omega)) (fun I60 hI60 q61 p61 => ?_)
  have FI60 := gc_frs (W := fun q j => (q = (p + 1) ∧ j = 1) ∨ (q = (p + 3) ∧ j = 1) ∨ (q = (p + 7) ∧ j = 1) ∨ (q = (p + 11) ∧ j = 1) ∨ (q = p ∧ j = 6) ∨ (q = p ∧ j = 11) ∨ (q = p ∧ j = 13)) FI43 (Or.inr (Or.inr (Or.inr (Or.inr (Or.inl ⟨rfl, rfl⟩))))) p61
  have t62 := p61 (p + 1) 1 (fun h => absurd h.2 (by decide))
  have t63 := p61 (p + 3) 1 (fun h => absurd h.2 (by decide))
  have t64 := p61 (p + 7) 1 (fun h => absurd h.2 (by decide))
  have t65 := p61 (p + 11) 1 (fun h => absurd h.2 (by decide))
  have t66 := p61 p 11 (fun h => absurd h.2 (by decide))
  have t67 := p61 p 13 (fun h => absurd h.2 (by decide))
  have t68 := p61 a1 (Int.toNat a2) (fun h => absurd h.1 N_a1__p)
  have t69 := p61 a1 (Int.toNat (a2 + 1)) (fun h => absurd h.1 N_a1__p)
  have t70 := p61 a1 (Int.toNat (a2 + 2)) (fun h => absurd h.1 N_a1__p)
  have t71 := p61 a1 (Int.toNat (a2 + 3)) (fun h => absurd h.1 N_a1__p)
  have t72 := p61 a1 (Int.toNat (a2 + 4)) (fun h => absurd h.1 N_a1__p)
  have t73 := p61 a1 (Int.toNat (a2 + 5)) (fun h => absurd h.1 N_a1__p)
  have t74 := p61 a1 (Int.toNat (a2 + 6)) (fun h => absurd h.1 N_a1__p)
  have f75 := (show 0 ≤ I60 p 6 ∧ I60 p 6 ≤ 24 from gc_in hI60 R_p rfl rfl)
  show gv_X _ _ (43, [(0, .inr (.inr (some p))), (1, .inr (.inr (some a1))), (2, .inl a2)], [], sh, gc_h sh I60 J A)
  refine gv_run 1 true hD (pc' := 44) (lv' := [(0, .inr (.inr (some p))), (1, .inr (.inr (some a1))), (2, .inl a2)]) (st' := [.inr (.inr (some p))]) (h' := gc_h sh I60 J A) (C := (True ∧ True)) rfl ⟨trivial, trivial⟩ ?_
  refine gv_get hD rfl rfl S_p ⟨by decide, B_p⟩ (gc_hA S_p rfl A_p_8) ?_
  show gv_X _ _ (47, [(0, .inr (.inr (some p))), (1, .inr (.inr (some a1))), (2, .inl a2)], [.inr (.inr (some (p + 11)))], sh, gc_h sh I60 J A)
  refine gv_run 4 true hD (pc' := 51) (lv' := [(0, .inr (.inr (some p))), (1, .inr (.inr (some a1))), (2, .inl a2)]) (st' := [.inl (a2 + 4), .inr (.inr (some a1)), .inr (.inr (some (p + 11)))]) (h' := gc_h sh I60 J A) (C := ((((True ∧ True) ∧ True) ∧ True) ∧ True)) rfl ⟨⟨⟨⟨trivial, trivial⟩, trivial⟩, trivial⟩, trivial⟩ ?_
  have f76 := (show (-1) ≤ I60 a1 (Int.toNat (a2 + 4)) ∧ I60 a1 (Int.toNat (a2 + 4)) ≤ 12000 from gc_in hI60 R_a1 rfl rfl)
  refine gv_iald hD rfl S_a1 rfl ⟨by exact gz_m 37 (by omega), B_a1⟩ ⟨by exact gz_m 38 (by omega), by exact gz_m 39 (by omega)⟩ (gc_iI S_a1 rfl) ?_
  show gv_X _ _ (52, [(0, .inr (.inr (some p))), (1, .inr (.inr (some a1))), (2, .inl a2)], [.inl (I60 a1 (Int.toNat (a2 + 4))), .inr (.inr (some (p + 11)))], sh, gc_h sh I60 J A)
  refine gv_put hD rfl rfl S_p_11 ⟨by decide, B_p_11⟩ rfl trivial ?_
  refine gc_st (k := 1) hI60 S_p_11 rfl R_p_11 (lo := 0) (hi := 24) rfl rfl (by exact gz_m 40 (by omega)) (by exact gz_m 41 (by omega)) (fun I77 hI77 q78 p78 => ?_)
  have FI77 := gc_frs (W := fun q j => (q = (p + 1) ∧ j = 1) ∨ (q = (p + 3) ∧ j = 1) ∨ (q = (p + 7) ∧ j = 1) ∨ (q = (p + 11) ∧ j = 1) ∨ (q = p ∧ j = 6) ∨ (q = p ∧ j = 11) ∨ (q = p ∧ j = 13)) FI60 (Or.inr (Or.inr (Or.inr (Or.inl ⟨rfl, rfl⟩)))) p78
  have t79 := p78 (p + 1) 1 (fun h => absurd h.1 N_p_1__p_11)
  have t80 := p78 (p + 3) 1 (fun h => absurd h.1 N_p_3__p_11)
  have t81 := p78 (p + 7) 1 (fun h => absurd h.1 N_p_7__p_11)
  have t82 := p78 p 6 (fun h => absurd h.2 (by decide))
  have t83 := p78 p 11 (fun h => absurd h.2 (by decide))
  have t84 := p78 p 13 (fun h => absurd h.2 (by decide))
  have t85 := p78 a1 (Int.toNat a2) (fun h => absurd h.1 N_a1__p_11)
  have t86 := p78 a1 (Int.toNat (a2 + 1)) (fun h => absurd h.1 N_a1__p_11)
  have t87 := p78 a1 (Int.toNat (a2 + 2)) (fun h => absurd h.1 N_a1__p_11)
  have t88 := p78 a1 (Int.toNat (a2 + 3)) (fun h => absurd h.1 N_a1__p_11)
  have t89 := p78 a1 (Int.toNat (a2 + 4)) (fun h => absurd h.1 N_a1__p_11)
  have t90 := p78 a1 (Int.toNat (a2 + 5)) (fun h => absurd h.1 N_a1__p_11)
  have t91 := p78 a1 (Int.toNat (a2 + 6)) (fun h => absurd h.1 N_a1__p_11)
  have f92 := (show 0 ≤ I77 (p + 11) 1 ∧ I77 (p + 11) 1 ≤ 24 from gc_in hI77 R_p_11 rfl rfl)
  show gv_X _ _ (55, [(0, .inr (.inr (some p))), (1, .inr (.inr (some a1))), (2, .inl a2)], [], sh, gc_h sh I77 J A)
  refine gv_run 5 true hD (pc' := 60) (lv' := [(0, .inr (.inr (some p))), (1, .inr (.inr (some a1))), (2, .inl a2)]) (st' := [.inl (a2 + 5), .inr (.inr (some a1)), .inr (.inr (some p))]) (h' := gc_h sh I77 J A) (C := (((((True ∧ True) ∧ True) ∧ True) ∧ True) ∧ True)) rfl ⟨⟨⟨⟨⟨trivial, trivial⟩, trivial⟩, trivial⟩, trivial⟩, trivial⟩ ?_
  have f93 := (show (-1) ≤ I77 a1 (Int.toNat (a2 + 5)) ∧ I77 a1 (Int.toNat (a2 + 5)) ≤ 12000 from gc_in hI77 R_a1 rfl rfl)
  refine gv_iald hD rfl S_a1 rfl ⟨by exact gz_m 42 (by omega), B_a1⟩ ⟨by exact gz_m 43 (by omega), by exact gz_m 44 (by omega)⟩ (gc_iI S_a1 rfl) ?_
  show gv_X _ _ (61, [(0, .inr (.inr (some p))), (1, .inr (.inr (some a1))), (2, .inl a2)], [.inl (I77 a1 (Int.toNat (a2 + 5))), .inr (.inr (some p))], sh, gc_h sh I77 J A)
  refine gv_put hD rfl rfl S_p ⟨by decide, B_p⟩ rfl trivial ?_
  refine gc_st (k := 11) hI77 S_p rfl R_p (lo := 0) (hi := 64) rfl rfl (by exact gz_m 45 (by omega)) (by exact gz_m 46 (by omega)) (fun I94 hI94 q95 p95 => ?_)
  have FI94 := gc_frs (W := fun q j => (q = (p + 1) ∧ j = 1) ∨ (q = (p + 3) ∧ j = 1) ∨ (q = (p + 7) ∧ j = 1) ∨ (q = (p + 11) ∧ j = 1) ∨ (q = p ∧ j = 6) ∨ (q = p ∧ j = 11) ∨ (q = p ∧ j = 13)) FI77 (Or.inr (Or.inr (Or.inr (Or.inr (Or.inr (Or.inl ⟨rfl, rfl⟩)))))) p95
  have t96 := p95 (p + 1) 1 (fun h => absurd h.2 (by decide))
  have t97 := p95 (p + 3) 1 (fun h => absurd h.2 (by decide))
  have t98 := p95 (p + 7) 1 (fun h => absurd h.2 (by decide))
  have t99 := p95 p 6 (fun h => absurd h.2 (by decide))
  have t100 := p95 (p + 11) 1 (fun h => absurd h.2 (by decide))
  have t101 := p95 p 13 (fun h => absurd h.2 (by decide))
  have t102 := p95 a1 (Int.toNat a2) (fun h => absurd h.1 N_a1__p)
  have t103 := p95 a1 (Int.toNat (a2 + 1)) (fun h => absurd h.1 N_a1__p)
  have t104 := p95 a1 (Int.toNat (a2 + 2)) (fun h => absurd h.1 N_a1__p)
  have t105 := p95 a1 (Int.toNat (a2 + 3)) (fun h => absurd h.1 N_a1__p)
  have t106 := p95 a1 (Int.toNat (a2 + 4)) (fun h => absurd h.1 N_a1__p)
  have t107 := p95 a1 (Int.toNat (a2 + 5)) (fun h => absurd h.1 N_a1__p)
  have t108 := p95 a1 (Int.toNat (a2 + 6)) (fun h => absurd h.1 N_a1__p)
  have f109 := (show 0 ≤ I94 p 11 ∧ I94 p 11 ≤ 64 from gc_in hI94 R_p rfl rfl)
  show gv_X _ _ (64, [(0, .inr (.inr (some p))), (1, .inr (.inr (some a1))), (2, .inl a2)], [], sh, gc_h sh I94 J A)
  refine gv_run 5 true hD (pc' := 70) (lv' := [(0, .inr (.inr (some p))), (1, .inr (.inr (some a1))), (2, .inl a2)]) (st' := [.inl (a2 + 6), .inr (.inr (some a1)), .inr (.inr (some p))]) (h' := gc_h sh I94 J A) (C := (((((True ∧ True) ∧ True) ∧ True) ∧ True) ∧ True)) rfl ⟨⟨⟨⟨⟨trivial, trivial⟩, trivial⟩, trivial⟩, trivial⟩, trivial⟩ ?_
  have f110 := (show (-1) ≤ I94 a1 (Int.toNat (a2 + 6)) ∧ I94 a1 (Int.toNat (a2 + 6)) ≤ 12000 from gc_in hI94 R_a1 rfl rfl)
  refine gv_iald hD rfl S_a1 rfl ⟨by exact gz_m 47 (by omega), B_a1⟩ ⟨by exact gz_m 48 (by omega), by exact gz_m 49 (by omega)⟩ (gc_iI S_a1 rfl) ?_
  show gv_X _ _ (71, [(0, .inr (.inr (some p))), (1, .inr (.inr (some a1))), (2, .inl a2)], [.inl (I94 a1 (Int.toNat (a2 + 6))), .inr (.inr (some p))], sh, gc_h sh I94 J A)
  refine gv_put hD rfl rfl S_p ⟨by decide, B_p⟩ rfl trivial ?_
  refine gc_st (k := 13) hI94 S_p rfl R_p (lo := 0) (hi := 384) rfl rfl (by exact gz_m 50 (by omega)) (by exact gz_m 51 (by omega)) (fun I111 hI111 q112 p112 => ?_)
  have FI111 := gc_frs (W := fun q j => (q = (p + 1) ∧ j = 1) ∨ (q = (p + 3) ∧ j = 1) ∨ (q = (p + 7) ∧ j = 1) ∨ (q = (p + 11) ∧ j = 1) ∨ (q = p ∧ j = 6) ∨ (q = p ∧ j = 11) ∨ (q = p ∧ j = 13)) FI94 (Or.inr (Or.inr (Or.inr (Or.inr (Or.inr (Or.inr ⟨rfl, rfl⟩)))))) p112
  have t113 := p112 (p + 1) 1 (fun h => absurd h.2 (by decide))
  have t114 := p112 (p + 3) 1 (fun h => absurd h.2 (by decide))
  have t115 := p112 (p + 7) 1 (fun h => absurd h.2 (by decide))
  have t116 := p112 p 6 (fun h => absurd h.2 (by decide))
  have t117 := p112 (p + 11) 1 (fun h => absurd h.2 (by decide))
  have t118 := p112 p 11 (fun h => absurd h.2 (by decide))
  have t119 := p112 a1 (Int.toNat a2) (fun h => absurd h.1 N_a1__p)
  have t120 := p112 a1 (Int.toNat (a2 + 1)) (fun h => absurd h.1 N_a1__p)
  have t121 := p112 a1 (Int.toNat (a2 + 2)) (fun h => absurd h.1 N_a1__p)
  have t122 := p112 a1 (Int.toNat (a2 + 3)) (fun h => absurd h.1 N_a1__p)
  have t123 := p112 a1 (Int.toNat (a2 + 4)) (fun h => absurd h.1 N_a1__p)
  have t124 := p112 a1 (Int.toNat (a2 + 5)) (fun h => absurd h.1 N_a1__p)
  have t125 := p112 a1 (Int.toNat (a2 + 6)) (fun h => absurd h.1 N_a1__p)
  have f126 := (show 0 ≤ I111 p 13 ∧ I111 p 13 ≤ 384 from gc_in hI111 R_p rfl rfl)
  show gv_X _ _ (74, [(0, .inr (.inr (some p))), (1, .inr (.inr (some a1))), (2, .inl a2)], [], sh, gc_h sh I111 J A)
  exact gv_vret hD rfl ⟨I111, J, rfl, hI111, FI111, FJ, ⟨rfl, by exact gz_m 52 (by omega)⟩⟩
