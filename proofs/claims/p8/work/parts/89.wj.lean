set_option maxHeartbeats 8000000 in
set_option maxRecDepth 100000 in
theorem d_X8_restore_h {ws0 : List Cond} {tb : String → gz_T} (hws : gc_Ws ws0) (htb : gc_tbs tb) (sh : gz_Sh) (ro : Nat → Nat) (I : gr_I) (J : gr_J) (A : gc_A) (hI : gc_Inv ro I)  (hb : gc_Base sh ro A)  (x0 : 0 ≤ I 21 0 ∧ I 21 0 ≤ 32) (x1 : 0 ≤ I 21 1 ∧ I 21 1 ≤ 96) (x2 : 0 ≤ I 21 2 ∧ I 21 2 ≤ 8) (x3 : 0 ≤ I 21 3 ∧ I 21 3 ≤ 8) (x4 : 0 ≤ I 21 4 ∧ I 21 4 ≤ 64) (x5 : 0 ≤ I 21 5) (x6 : -1 ≤ I 21 6 ∧ I 21 6 ≤ 7) {Q : gz_S → Prop} (L85 : ∀ (I15 : gr_I) (J16 : gr_J) (v1_17 : Int), gc_Inv ro I15 → (∀ q j : Nat, ((q = 2 ∧ j = 1) ∨ (q = 4 ∧ j = 1) ∨ (q = 6 ∧ j = 1) ∨ (q = 8 ∧ j = 1) ∨ (q = 1 ∧ j = 13) ∨ (q = 1 ∧ j = 17) ∨ (q = 1 ∧ j = 5)) ∨ I15 q j = I q j) → (∀ q j : Nat, (False) ∨ J16 q j = J q j) → ((0 ≤ v1_17 ∧ v1_17 ≤ 0) ∧ (v1_17 = 0) ∧ (I15 2 1 = I 21 0) ∧ (I15 4 1 = I 21 1) ∧ (I15 6 1 = I 21 2) ∧ (I15 8 1 = I 21 3) ∧ (I15 1 13 = I 21 4) ∧ (I15 1 17 = I 21 5) ∧ (I15 1 5 = I 21 6)) → gv_X (gc_E8 ws0 tb 2 (yX8_restore, cX8_restore, 2, none) kX8_restore) Q (85, [(0, .inr (.inr (some 1))), (1, .inl v1_17)], [], sh, gc_h sh I15 J16 A)) : gv_X (gc_E8 ws0 tb 2 (yX8_restore, cX8_restore, 2, none) kX8_restore) Q (0, [(0, .inr (.inr (some 1)))], [], sh, gc_h sh I J A) := by
  have FI : ∀ q j : Nat, ((q = 2 ∧ j = 1) ∨ (q = 4 ∧ j = 1) ∨ (q = 6 ∧ j = 1) ∨ (q = 8 ∧ j = 1) ∨ (q = 1 ∧ j = 13) ∨ (q = 1 ∧ j = 17) ∨ (q = 1 ∧ j = 5)) ∨ I q j = I q j := fun _ _ => Or.inr rfl
  have FJ : ∀ q j : Nat, (False) ∨ J q j = J q j := fun _ _ => Or.inr rfl
  have A_1_0 : A 1 0 = some 2 := gc_bA hb rfl
  have A_1_1 : A 1 1 = some 4 := gc_bA hb rfl
  have A_1_19 : A 1 19 = some 21 := gc_bA hb rfl
  have A_1_2 : A 1 2 = some 6 := gc_bA hb rfl
  have A_1_3 : A 1 3 = some 8 := gc_bA hb rfl
  have B_1 : 1 < 1000000 := by decide
  have B_2 : 2 < 1000000 := by decide
  have B_21 : 21 < 1000000 := by decide
  have B_4 : 4 < 1000000 := by decide
  have B_6 : 6 < 1000000 := by decide
  have B_8 : 8 < 1000000 := by decide
  have R_1 : ro 1 = 22 := gc_bR hb (by decide) rfl
  have R_2 : ro 2 = 9 := gc_bR hb (by decide) rfl
  have R_21 : ro 21 = 70 := gc_bR hb (by decide) rfl
  have R_4 : ro 4 = 11 := gc_bR hb (by decide) rfl
  have R_6 : ro 6 = 6 := gc_bR hb (by decide) rfl
  have R_8 : ro 8 = 6 := gc_bR hb (by decide) rfl
  have S_1 : sh[1]? = some (false, 8, 21) := gc_bS hb rfl
  have S_2 : sh[2]? = some (false, 4, 2) := gc_bS hb rfl
  have S_21 : sh[21]? = some (true, 1, 159) := gc_bS hb rfl
  have S_4 : sh[4]? = some (false, 4, 2) := gc_bS hb rfl
  have S_6 : sh[6]? = some (false, 4, 2) := gc_bS hb rfl
  have S_8 : sh[8]? = some (false, 4, 2) := gc_bS hb rfl
  have hD : gv_D (gc_E8 ws0 tb 2 (yX8_restore, cX8_restore, 2, none) kX8_restore) := gq_of oX8_restore
  have f1 := (show (-1) ≤ I 21 0 ∧ I 21 0 ≤ 12000 from gc_in hI R_21 rfl rfl)
  have f2 := (show (-1) ≤ I 21 1 ∧ I 21 1 ≤ 12000 from gc_in hI R_21 rfl rfl)
  have f3 := (show (-1) ≤ I 21 2 ∧ I 21 2 ≤ 12000 from gc_in hI R_21 rfl rfl)
  have f4 := (show (-1) ≤ I 21 3 ∧ I 21 3 ≤ 12000 from gc_in hI R_21 rfl rfl)
  have f5 := (show (-1) ≤ I 21 4 ∧ I 21 4 ≤ 12000 from gc_in hI R_21 rfl rfl)
  have f6 := (show (-1) ≤ I 21 5 ∧ I 21 5 ≤ 12000 from gc_in hI R_21 rfl rfl)
  have f7 := (show (-1) ≤ I 21 6 ∧ I 21 6 ≤ 12000 from gc_in hI R_21 rfl rfl)
  have f8 := (show 0 ≤ I 2 1 ∧ I 2 1 ≤ 32 from gc_in hI R_2 rfl rfl)
  have f9 := (show 0 ≤ I 4 1 ∧ I 4 1 ≤ 96 from gc_in hI R_4 rfl rfl)
  have f10 := (show 0 ≤ I 6 1 ∧ I 6 1 ≤ 8 from gc_in hI R_6 rfl rfl)
  have f11 := (show 0 ≤ I 8 1 ∧ I 8 1 ≤ 8 from gc_in hI R_8 rfl rfl)
  have f12 := (show 0 ≤ I 1 13 ∧ I 1 13 ≤ 64 from gc_in hI R_1 rfl rfl)
  have f13 := (show 0 ≤ I 1 17 ∧ I 1 17 ≤ 12000 from gc_in hI R_1 rfl rfl)
  have f14 := (show (-1) ≤ I 1 5 ∧ I 1 5 ≤ 7 from gc_in hI R_1 rfl rfl)
  refine gv_run 1 true hD (pc' := 1) (lv' := [(0, .inr (.inr (some 1)))]) (st' := [.inr (.inr (some 1))]) (h' := gc_h sh I J A) (C := (True ∧ True)) rfl ⟨trivial, trivial⟩ ?_
  refine gv_get hD rfl rfl S_1 ⟨by decide, B_1⟩ (gc_hA S_1 rfl A_1_0) ?_
  show gv_X _ _ (4, [(0, .inr (.inr (some 1)))], [.inr (.inr (some 2))], sh, gc_h sh I J A)
  refine gv_run 1 true hD (pc' := 5) (lv' := [(0, .inr (.inr (some 1)))]) (st' := [.inr (.inr (some 1)), .inr (.inr (some 2))]) (h' := gc_h sh I J A) (C := (True ∧ True)) rfl ⟨trivial, trivial⟩ ?_
  refine gv_get hD rfl rfl S_1 ⟨by decide, B_1⟩ (gc_hA S_1 rfl A_1_19) ?_
  show gv_X _ _ (8, [(0, .inr (.inr (some 1)))], [.inr (.inr (some 21)), .inr (.inr (some 2))], sh, gc_h sh I J A)
  refine gv_run 1 true hD (pc' := 9) (lv' := [(0, .inr (.inr (some 1)))]) (st' := [.inl 0, .inr (.inr (some 21)), .inr (.inr (some 2))]) (h' := gc_h sh I J A) (C := (True ∧ True)) rfl ⟨trivial, trivial⟩ ?_
  have f18 := (show (-1) ≤ I 21 0 ∧ I 21 0 ≤ 12000 from gc_in hI R_21 rfl rfl)
  refine gv_iald hD rfl S_21 rfl ⟨by decide, B_21⟩ ⟨by exact gz_m 0 (by omega), by exact gz_m 1 (by omega)⟩ (gc_iI S_21 rfl) ?_
  show gv_X _ _ (10, [(0, .inr (.inr (some 1)))], [.inl (I 21 0), .inr (.inr (some 2))], sh, gc_h sh I J A)
  refine gv_put hD rfl rfl S_2 ⟨by decide, B_2⟩ rfl trivial ?_
  refine gc_st (k := 1) hI S_2 rfl R_2 (lo := 0) (hi := 32) rfl rfl (by exact gz_m 2 (by omega)) (by exact gz_m 3 (by omega)) (fun I19 hI19 q20 p20 => ?_)
  have FI19 := gc_frs (W := fun q j => (q = 2 ∧ j = 1) ∨ (q = 4 ∧ j = 1) ∨ (q = 6 ∧ j = 1) ∨ (q = 8 ∧ j = 1) ∨ (q = 1 ∧ j = 13) ∨ (q = 1 ∧ j = 17) ∨ (q = 1 ∧ j = 5)) FI (Or.inl ⟨rfl, rfl⟩) p20
  have t21 := p20 21 0 (fun h => absurd h.2 (by decide))
  have t22 := p20 21 1 (fun h => absurd h.1 (by decide))
  have t23 := p20 21 2 (fun h => absurd h.2 (by decide))
  have t24 := p20 21 3 (fun h => absurd h.2 (by decide))
  have t25 := p20 21 4 (fun h => absurd h.2 (by decide))
  have t26 := p20 21 5 (fun h => absurd h.2 (by decide))
  have t27 := p20 21 6 (fun h => absurd h.2 (by decide))
  have t28 := p20 4 1 (fun h => absurd h.1 (by decide))
  have t29 := p20 6 1 (fun h => absurd h.1 (by decide))
  have t30 := p20 8 1 (fun h => absurd h.1 (by decide))
  have t31 := p20 1 13 (fun h => absurd h.2 (by decide))
  have t32 := p20 1 17 (fun h => absurd h.2 (by decide))
  have t33 := p20 1 5 (fun h => absurd h.2 (by decide))
  have f34 := (show 0 ≤ I19 2 1 ∧ I19 2 1 ≤ 32 from gc_in hI19 R_2 rfl rfl)
  show gv_X _ _ (13, [(0, .inr (.inr (some 1)))], [], sh, gc_h sh I19 J A)
  refine gv_run 1 true hD (pc' := 14) (lv' := [(0, .inr (.inr (some 1)))]) (st' := [.inr (.inr (some 1))]) (h' := gc_h sh I19 J A) (C := (True ∧ True)) rfl ⟨trivial, trivial⟩ ?_
  refine gv_get hD rfl rfl S_1 ⟨by decide, B_1⟩ (gc_hA S_1 rfl A_1_1) ?_
  show gv_X _ _ (17, [(0, .inr (.inr (some 1)))], [.inr (.inr (some 4))], sh, gc_h sh I19 J A)
  refine gv_run 1 true hD (pc' := 18) (lv' := [(0, .inr (.inr (some 1)))]) (st' := [.inr (.inr (some 1)), .inr (.inr (some 4))]) (h' := gc_h sh I19 J A) (C := (True ∧ True)) rfl ⟨trivial, trivial⟩ ?_
  refine gv_get hD rfl rfl S_1 ⟨by decide, B_1⟩ (gc_hA S_1 rfl A_1_19) ?_
  show gv_X _ _ (21, [(0, .inr (.inr (some 1)))], [.inr (.inr (some 21)), .inr (.inr (some 4))], sh, gc_h sh I19 J A)
  refine gv_run 1 true hD (pc' := 22) (lv' := [(0, .inr (.inr (some 1)))]) (st' := [.inl 1, .inr (.inr (some 21)), .inr (.inr (some 4))]) (h' := gc_h sh I19 J A) (C := (True ∧ True)) rfl ⟨trivial, trivial⟩ ?_
  have f35 := (show (-1) ≤ I19 21 1 ∧ I19 21 1 ≤ 12000 from gc_in hI19 R_21 rfl rfl)
  refine gv_iald hD rfl S_21 rfl ⟨by decide, B_21⟩ ⟨by exact gz_m 4 (by omega), by exact gz_m 5 (by omega)⟩ (gc_iI S_21 rfl) ?_
  show gv_X _ _ (23, [(0, .inr (.inr (some 1)))], [.inl (I19 21 1), .inr (.inr (some 4))], sh, gc_h sh I19 J A)
  refine gv_put hD rfl rfl S_4 ⟨by decide, B_4⟩ rfl trivial ?_
  refine gc_st (k := 1) hI19 S_4 rfl R_4 (lo := 0) (hi := 96) rfl rfl (by exact gz_m 6 (by omega)) (by exact gz_m 7 (by omega)) (fun I36 hI36 q37 p37 => ?_)
  have FI36 := gc_frs (W := fun q j => (q = 2 ∧ j = 1) ∨ (q = 4 ∧ j = 1) ∨ (q = 6 ∧ j = 1) ∨ (q = 8 ∧ j = 1) ∨ (q = 1 ∧ j = 13) ∨ (q = 1 ∧ j = 17) ∨ (q = 1 ∧ j = 5)) FI19 (Or.inr (Or.inl ⟨rfl, rfl⟩)) p37
  have t38 := p37 21 0 (fun h => absurd h.2 (by decide))
  have t39 := p37 21 1 (fun h => absurd h.1 (by decide))
  have t40 := p37 21 2 (fun h => absurd h.2 (by decide))
  have t41 := p37 21 3 (fun h => absurd h.2 (by decide))
  have t42 := p37 21 4 (fun h => absurd h.2 (by decide))
  have t43 := p37 21 5 (fun h => absurd h.2 (by decide))
  have t44 := p37 21 6 (fun h => absurd h.2 (by decide))
  have t45 := p37 2 1 (fun h => absurd h.1 (by decide))
  have t46 := p37 6 1 (fun h => absurd h.1 (by decide))
  have t47 := p37 8 1 (fun h => absurd h.1 (by decide))
  have t48 := p37 1 13 (fun h => absurd h.2 (by decide))
  have t49 := p37 1 17 (fun h => absurd h.2 (by decide))
  have t50 := p37 1 5 (fun h => absurd h.2 (by decide))
  have f51 := (show 0 ≤ I36 4 1 ∧ I36 4 1 ≤ 96 from gc_in hI36 R_4 rfl rfl)
  show gv_X _ _ (26, [(0, .inr (.inr (some 1)))], [], sh, gc_h sh I36 J A)
  refine gv_run 1 true hD (pc' := 27) (lv' := [(0, .inr (.inr (some 1)))]) (st' := [.inr (.inr (some 1))]) (h' := gc_h sh I36 J A) (C := (True ∧ True)) rfl ⟨trivial, trivial⟩ ?_
  refine gv_get hD rfl rfl S_1 ⟨by decide, B_1⟩ (gc_hA S_1 rfl A_1_2) ?_
  show gv_X _ _ (30, [(0, .inr (.inr (some 1)))], [.inr (.inr (some 6))], sh, gc_h sh I36 J A)
  refine gv_run 1 true hD (pc' := 31) (lv' := [(0, .inr (.inr (some 1)))]) (st' := [.inr (.inr (some 1)), .inr (.inr (some 6))]) (h' := gc_h sh I36 J A) (C := (True ∧ True)) rfl ⟨trivial, trivial⟩ ?_
  refine gv_get hD rfl rfl S_1 ⟨by decide, B_1⟩ (gc_hA S_1 rfl A_1_19) ?_
  show gv_X _ _ (34, [(0, .inr (.inr (some 1)))], [.inr (.inr (some 21)), .inr (.inr (some 6))], sh, gc_h sh I36 J A)
  refine gv_run 1 true hD (pc' := 35) (lv' := [(0, .inr (.inr (some 1)))]) (st' := [.inl 2, .inr (.inr (some 21)), .inr (.inr (some 6))]) (h' := gc_h sh I36 J A) (C := (True ∧ True)) rfl ⟨trivial, trivial⟩ ?_
  have f52 := (show (-1) ≤ I36 21 2 ∧ I36 21 2 ≤ 12000 from gc_in hI36 R_21 rfl rfl)
  refine gv_iald hD rfl S_21 rfl ⟨by decide, B_21⟩ ⟨by exact gz_m 8 (by omega), by exact gz_m 9 (by omega)⟩ (gc_iI S_21 rfl) ?_
  show gv_X _ _ (36, [(0, .inr (.inr (some 1)))], [.inl (I36 21 2), .inr (.inr (some 6))], sh, gc_h sh I36 J A)
  refine gv_put hD rfl rfl S_6 ⟨by decide, B_6⟩ rfl trivial ?_
  refine gc_st (k := 1) hI36 S_6 rfl R_6 (lo := 0) (hi := 8) rfl rfl (by exact gz_m 10 (by omega)) (by exact gz_m 11 (by omega)) (fun I53 hI53 q54 p54 => ?_)
  have FI53 := gc_frs (W := fun q j => (q = 2 ∧ j = 1) ∨ (q = 4 ∧ j = 1) ∨ (q = 6 ∧ j = 1) ∨ (q = 8 ∧ j = 1) ∨ (q = 1 ∧ j = 13) ∨ (q = 1 ∧ j = 17) ∨ (q = 1 ∧ j = 5)) FI36 (Or.inr (Or.inr (Or.inl ⟨rfl, rfl⟩))) p54
  have t55 := p54 21 0 (fun h => absurd h.2 (by decide))
  have t56 := p54 21 1 (fun h => absurd h.1 (by decide))
  have t57 := p54 21 2 (fun h => absurd h.2 (by decide))
  have t58 := p54 21 3 (fun h => absurd h.2 (by decide))
  have t59 := p54 21 4 (fun h => absurd h.2 (by decide))
  have t60 := p54 21 5 (fun h => absurd h.2 (by decide))
  have t61 := p54 21 6 (fun h => absurd h.2 (by decide))
  have t62 := p54 2 1 (fun h => absurd h.1 (by decide))
  have t63 := p54 4 1 (fun h => absurd h.1 (by decide))
  have t64 := p54 8 1 (fun h => absurd h.1 (by decide))
  have t65 := p54 1 13 (fun h => absurd h.2 (by decide))
  have t66 := p54 1 17 (fun h => absurd h.2 (by decide))
  have t67 := p54 1 5 (fun h => absurd h.2 (by decide))
  have f68 := (show 0 ≤ I53 6 1 ∧ I53 6 1 ≤ 8 from gc_in hI53 R_6 rfl rfl)
  show gv_X _ _ (39, [(0, .inr (.inr (some 1)))], [], sh, gc_h sh I53 J A)
  refine gv_run 1 true hD (pc' := 40) (lv' := [(0, .inr (.inr (some 1)))]) (st' := [.inr (.inr (some 1))]) (h' := gc_h sh I53 J A) (C := (True ∧ True)) rfl ⟨trivial, trivial⟩ ?_
  refine gv_get hD rfl rfl S_1 ⟨by decide, B_1⟩ (gc_hA S_1 rfl A_1_3) ?_
  show gv_X _ _ (43, [(0, .inr (.inr (some 1)))], [.inr (.inr (some 8))], sh, gc_h sh I53 J A)
  refine gv_run 1 true hD (pc' := 44) (lv' := [(0, .inr (.inr (some 1)))]) (st' := [.inr (.inr (some 1)), .inr (.inr (some 8))]) (h' := gc_h sh I53 J A) (C := (True ∧ True)) rfl ⟨trivial, trivial⟩ ?_
  refine gv_get hD rfl rfl S_1 ⟨by decide, B_1⟩ (gc_hA S_1 rfl A_1_19) ?_
  show gv_X _ _ (47, [(0, .inr (.inr (some 1)))], [.inr (.inr (some 21)), .inr (.inr (some 8))], sh, gc_h sh I53 J A)
  refine gv_run 1 true hD (pc' := 48) (lv' := [(0, .inr (.inr (some 1)))]) (st' := [.inl 3, .inr (.inr (some 21)), .inr (.inr (some 8))]) (h' := gc_h sh I53 J A) (C := (True ∧ True)) rfl ⟨trivial, trivial⟩ ?_
  have f69 := (show (-1) ≤ I53 21 3 ∧ I53 21 3 ≤ 12000 from gc_in hI53 R_21 rfl rfl)
  refine gv_iald hD rfl S_21 rfl ⟨by decide, B_21⟩ ⟨by exact gz_m 12 (by omega), by exact gz_m 13 (by omega)⟩ (gc_iI S_21 rfl) ?_
  show gv_X _ _ (49, [(0, .inr (.inr (some 1)))], [.inl (I53 21 3), .inr (.inr (some 8))], sh, gc_h sh I53 J A)
  refine gv_put hD rfl rfl S_8 ⟨by decide, B_8⟩ rfl trivial ?_
  refine gc_st (k := 1) hI53 S_8 rfl R_8 (lo := 0) (hi := 8) rfl rfl (by exact gz_m 14 (by omega)) (by exact gz_m 15 (by omega)) (fun I70 hI70 q71 p71 => ?_)
  have FI70 := gc_frs (W := fun q j => (q = 2 ∧ j = 1) ∨ (q = 4 ∧ j = 1) ∨ (q = 6 ∧ j = 1) ∨ (q = 8 ∧ j = 1) ∨ (q = 1 ∧ j = 13) ∨ (q = 1 ∧ j = 17) ∨ (q = 1 ∧ j = 5)) FI53 (Or.inr (Or.inr (Or.inr (Or.inl ⟨rfl, rfl⟩)))) p71
  have t72 := p71 21 0 (fun h => absurd h.2 (by decide))
  have t73 := p71 21 1 (fun h => absurd h.1 (by decide))
  have t74 := p71 21 2 (fun h => absurd h.2 (by decide))
  have t75 := p71 21 3 (fun h => absurd h.2 (by decide))
  have t76 := p71 21 4 (fun h => absurd h.2 (by decide))
  have t77 := p71 21 5 (fun h => absurd h.2 (by decide))
  have t78 := p71 21 6 (fun h => absurd h.2 (by decide))
  have t79 := p71 2 1 (fun h => absurd h.1 (by decide))
  have t80 := p71 4 1 (fun h => absurd h.1 (by decide))
  have t81 := p71 6 1 (fun h => absurd h.1 (by decide))
  have t82 := p71 1 13 (fun h => absurd h.2 (by decide))
  have t83 := p71 1 17 (fun h => absurd h.2 (by decide))
  have t84 := p71 1 5 (fun h => absurd h.2 (by decide))
  have f85 := (show 0 ≤ I70 8 1 ∧ I70 8 1 ≤ 8 from gc_in hI70 R_8 rfl rfl)
  show gv_X _ _ (52, [(0, .inr (.inr (some 1)))], [], sh, gc_h sh I70 J A)
  refine gv_run 2 true hD (pc' := 54) (lv' := [(0, .inr (.inr (some 1)))]) (st' := [.inr (.inr (some 1)), .inr (.inr (some 1))]) (h' := gc_h sh I70 J A) (C := ((True ∧ True) ∧ True)) rfl ⟨⟨trivial, trivial⟩, trivial⟩ ?_
  refine gv_get hD rfl rfl S_1 ⟨by decide, B_1⟩ (gc_hA S_1 rfl A_1_19) ?_
  show gv_X _ _ (57, [(0, .inr (.inr (some 1)))], [.inr (.inr (some 21)), .inr (.inr (some 1))], sh, gc_h sh I70 J A)
  refine gv_run 1 true hD (pc' := 58) (lv' := [(0, .inr (.inr (some 1)))]) (st' := [.inl 4, .inr (.inr (some 21)), .inr (.inr (some 1))]) (h' := gc_h sh I70 J A) (C := (True ∧ True)) rfl ⟨trivial, trivial⟩ ?_
  have f86 := (show (-1) ≤ I70 21 4 ∧ I70 21 4 ≤ 12000 from gc_in hI70 R_21 rfl rfl)
  refine gv_iald hD rfl S_21 rfl ⟨by decide, B_21⟩ ⟨by exact gz_m 16 (by omega), by exact gz_m 17 (by omega)⟩ (gc_iI S_21 rfl) ?_
  show gv_X _ _ (59, [(0, .inr (.inr (some 1)))], [.inl (I70 21 4), .inr (.inr (some 1))], sh, gc_h sh I70 J A)
  refine gv_put hD rfl rfl S_1 ⟨by decide, B_1⟩ rfl trivial ?_
  refine gc_st (k := 13) hI70 S_1 rfl R_1 (lo := 0) (hi := 64) rfl rfl (by exact gz_m 18 (by omega)) (by exact gz_m 19 (by omega)) (fun I87 hI87 q88 p88 => ?_)
  have FI87 := gc_frs (W := fun q j => (q = 2 ∧ j = 1) ∨ (q = 4 ∧ j = 1) ∨ (q = 6 ∧ j = 1) ∨ (q = 8 ∧ j = 1) ∨ (q = 1 ∧ j = 13) ∨ (q = 1 ∧ j = 17) ∨ (q = 1 ∧ j = 5)) FI70 (Or.inr (Or.inr (Or.inr (Or.inr (Or.inl ⟨rfl, rfl⟩))))) p88
  have t89 := p88 21 0 (fun h => absurd h.2 (by decide))
  have t90 := p88 21 1 (fun h => absurd h.2 (by decide))
  have t91 := p88 21 2 (fun h => absurd h.2 (by decide))
  have t92 := p88 21 3 (fun h => absurd h.2 (by decide))
  have t93 := p88 21 4 (fun h => absurd h.2 (by decide))
  have t94 := p88 21 5 (fun h => absurd h.2 (by decide))
  have t95 := p88 21 6 (fun h => absurd h.2 (by decide))
  have t96 := p88 2 1 (fun h => absurd h.2 (by decide))
  have t97 := p88 4 1 (fun h => absurd h.2 (by decide))
  have t98 := p88 6 1 (fun h => absurd h.2 (by decide))
  have t99 := p88 8 1 (fun h => absurd h.2 (by decide))
  have t100 := p88 1 17 (fun h => absurd h.2 (by decide))
  have t101 := p88 1 5 (fun h => absurd h.2 (by decide))
  have f102 := (show 0 ≤ I87 1 13 ∧ I87 1 13 ≤ 64 from gc_in hI87 R_1 rfl rfl)
  show gv_X _ _ (62, [(0, .inr (.inr (some 1)))], [], sh, gc_h sh I87 J A)
  refine gv_run 2 true hD (pc' := 64) (lv' := [(0, .inr (.inr (some 1)))]) (st' := [.inr (.inr (some 1)), .inr (.inr (some 1))]) (h' := gc_h sh I87 J A) (C := ((True ∧ True) ∧ True)) rfl ⟨⟨trivial, trivial⟩, trivial⟩ ?_
  refine gv_get hD rfl rfl S_1 ⟨by decide, B_1⟩ (gc_hA S_1 rfl A_1_19) ?_
  show gv_X _ _ (67, [(0, .inr (.inr (some 1)))], [.inr (.inr (some 21)), .inr (.inr (some 1))], sh, gc_h sh I87 J A)
  refine gv_run 1 true hD (pc' := 68) (lv' := [(0, .inr (.inr (some 1)))]) (st' := [.inl 5, .inr (.inr (some 21)), .inr (.inr (some 1))]) (h' := gc_h sh I87 J A) (C := (True ∧ True)) rfl ⟨trivial, trivial⟩ ?_
  have f103 := (show (-1) ≤ I87 21 5 ∧ I87 21 5 ≤ 12000 from gc_in hI87 R_21 rfl rfl)
  refine gv_iald hD rfl S_21 rfl ⟨by decide, B_21⟩ ⟨by exact gz_m 20 (by omega), by exact gz_m 21 (by omega)⟩ (gc_iI S_21 rfl) ?_
  show gv_X _ _ (69, [(0, .inr (.inr (some 1)))], [.inl (I87 21 5), .inr (.inr (some 1))], sh, gc_h sh I87 J A)
  refine gv_put hD rfl rfl S_1 ⟨by decide, B_1⟩ rfl trivial ?_
  refine gc_st (k := 17) hI87 S_1 rfl R_1 (lo := 0) (hi := 12000) rfl rfl (by exact gz_m 22 (by omega)) (by exact gz_m 23 (by omega)) (fun I104 hI104 q105 p105 => ?_)
  have FI104 := gc_frs (W := fun q j => (q = 2 ∧ j = 1) ∨ (q = 4 ∧ j = 1) ∨ (q = 6 ∧ j = 1) ∨ (q = 8 ∧ j = 1) ∨ (q = 1 ∧ j = 13) ∨ (q = 1 ∧ j = 17) ∨ (q = 1 ∧ j = 5)) FI87 (Or.inr (Or.inr (Or.inr (Or.inr (Or.inr (Or.inl ⟨rfl, rfl⟩)))))) p105
  have t106 := p105 21 0 (fun h => absurd h.2 (by decide))
  have t107 := p105 21 1 (fun h => absurd h.2 (by decide))
  have t108 := p105 21 2 (fun h => absurd h.2 (by decide))
  have t109 := p105 21 3 (fun h => absurd h.2 (by decide))
  have t110 := p105 21 4 (fun h => absurd h.2 (by decide))
  have t111 := p105 21 5 (fun h => absurd h.2 (by decide))
  have t112 := p105 21 6 (fun h => absurd h.2 (by decide))
  have t113 := p105 2 1 (fun h => absurd h.2 (by decide))
  have t114 := p105 4 1 (fun h => absurd h.2 (by decide))
  have t115 := p105 6 1 (fun h => absurd h.2 (by decide))
  have t116 := p105 8 1 (fun h => absurd h.2 (by decide))
  have t117 := p105 1 13 (fun h => absurd h.2 (by decide))
  have t118 := p105 1 5 (fun h => absurd h.2 (by decide))
  have f119 := (show 0 ≤ I104 1 17 ∧ I104 1 17 ≤ 12000 from gc_in hI104 R_1 rfl rfl)
  show gv_X _ _ (72, [(0, .inr (.inr (some 1)))], [], sh, gc_h sh I104 J A)
  refine gv_run 2 true hD (pc' := 74) (lv' := [(0, .inr (.inr (some 1)))]) (st' := [.inr (.inr (some 1)), .inr (.inr (some 1))]) (h' := gc_h sh I104 J A) (C := ((True ∧ True) ∧ True)) rfl ⟨⟨trivial, trivial⟩, trivial⟩ ?_
  refine gv_get hD rfl rfl S_1 ⟨by decide, B_1⟩ (gc_hA S_1 rfl A_1_19) ?_
  show gv_X _ _ (77, [(0, .inr (.inr (some 1)))], [.inr (.inr (some 21)), .inr (.inr (some 1))], sh, gc_h sh I104 J A)
  refine gv_run 1 true hD (pc' := 79) (lv' := [(0, .inr (.inr (some 1)))]) (st' := [.inl 6, .inr (.inr (some 21)), .inr (.inr (some 1))]) (h' := gc_h sh I104 J A) (C := (True ∧ True)) rfl ⟨trivial, trivial⟩ ?_
  have f120 := (show (-1) ≤ I104 21 6 ∧ I104 21 6 ≤ 12000 from gc_in hI104 R_21 rfl rfl)
  refine gv_iald hD rfl S_21 rfl ⟨by decide, B_21⟩ ⟨by exact gz_m 24 (by omega), by exact gz_m 25 (by omega)⟩ (gc_iI S_21 rfl) ?_
  show gv_X _ _ (80, [(0, .inr (.inr (some 1)))], [.inl (I104 21 6), .inr (.inr (some 1))], sh, gc_h sh I104 J A)
  refine gv_put hD rfl rfl S_1 ⟨by decide, B_1⟩ rfl trivial ?_
  refine gc_st (k := 5) hI104 S_1 rfl R_1 (lo := (-1)) (hi := 7) rfl rfl (by exact gz_m 26 (by omega)) (by exact gz_m 27 (by omega)) (fun I121 hI121 q122 p122 => ?_)
  have FI121 := gc_frs (W := fun q j => (q = 2 ∧ j = 1) ∨ (q = 4 ∧ j = 1) ∨ (q = 6 ∧ j = 1) ∨ (q = 8 ∧ j = 1) ∨ (q = 1 ∧ j = 13) ∨ (q = 1 ∧ j = 17) ∨ (q = 1 ∧ j = 5)) FI104 (Or.inr (Or.inr (Or.inr (Or.inr (Or.inr (Or.inr ⟨rfl, rfl⟩)))))) p122
  have t123 := p122 21 0 (fun h => absurd h.2 (by decide))
  have t124 := p122 21 1 (fun h => absurd h.2 (by decide))
  have t125 := p122 21 2 (fun h => absurd h.2 (by decide))
  have t126 := p122 21 3 (fun h => absurd h.2 (by decide))
  have t127 := p122 21 4 (fun h => absurd h.2 (by decide))
  have t128 := p122 21 5 (fun h => absurd h.1 (by decide))
  have t129 := p122 21 6 (fun h => absurd h.2 (by decide))
  have t130 := p122 2 1 (fun h => absurd h.2 (by decide))
  have t131 := p122 4 1 (fun h => absurd h.2 (by decide))
  have t132 := p122 6 1 (fun h => absurd h.2 (by decide))
  have t133 := p122 8 1 (fun h => absurd h.2 (by decide))
  have t134 := p122 1 13 (fun h => absurd h.2 (by decide))
  have t135 := p122 1 17 (fun h => absurd h.2 (by decide))
  have f136 := (show (-1) ≤ I121 1 5 ∧ I121 1 5 ≤ 7 from gc_in hI121 R_1 rfl rfl)
  show gv_X _ _ (83, [(0, .inr (.inr (some 1)))], [], sh, gc_h sh I121 J A)
  refine gv_run 2 true hD (pc' := 85) (lv' := [(1, .inl 0), (0, .inr (.inr (some 1)))]) (st' := []) (h' := gc_h sh I121 J A) (C := ((True ∧ True) ∧ True)) rfl ⟨⟨trivial, trivial⟩, trivial⟩ ?_
  refine gv_pick [1, 0] rfl ?_
  exact L85 I121 J 0 hI121 FI121 FJ (by exact gz_m 28 (by omega))
set_option maxHeartbeats 8000000 in
set_option maxRecDepth 100000 in
theorem d_X8_restore_c {ws0 : List Cond} {tb : String → gz_T} (hws : gc_Ws ws0) (htb : gc_tbs tb) (sh : gz_Sh) (ro : Nat → Nat) (I : gr_I) (J : gr_J) (A : gc_A) (hI : gc_Inv ro I) (a1 : Int) (hb : gc_Base sh ro A) (ha1 : 0 ≤ a1 ∧ a1 ≤ 8)  {Q : gz_S → Prop} (L96 : ((0 ≤ a1 ∧ a1 ≤ 7) ∧ (a1 < I 8 1)) → gv_X (gc_E8 ws0 tb 2 (yX8_restore, cX8_restore, 2, none) kX8_restore) Q (96, [(0, .inr (.inr (some 1))), (1, .inl a1)], [], sh, gc_h sh I J A)) (L122 : ((0 ≤ a1 ∧ a1 ≤ 8) ∧ (I 8 1 ≤ a1)) → gv_X (gc_E8 ws0 tb 2 (yX8_restore, cX8_restore, 2, none) kX8_restore) Q (122, [(0, .inr (.inr (some 1))), (1, .inl a1)], [], sh, gc_h sh I J A)) : gv_X (gc_E8 ws0 tb 2 (yX8_restore, cX8_restore, 2, none) kX8_restore) Q (85, [(0, .inr (.inr (some 1))), (1, .inl a1)], [], sh, gc_h sh I J A) := by
  have A_1_3 : A 1 3 = some 8 := gc_bA hb rfl
  have B_1 : 1 < 1000000 := by decide
  have B_8 : 8 < 1000000 := by decide
  have R_8 : ro 8 = 6 := gc_bR hb (by decide) rfl
  have S_1 : sh[1]? = some (false, 8, 21) := gc_bS hb rfl
  have S_8 : sh[8]? = some (false, 4, 2) := gc_bS hb rfl
  have hD : gv_D (gc_E8 ws0 tb 2 (yX8_restore, cX8_restore, 2, none) kX8_restore) := gq_of oX8_restore
  have f1 := (show 0 ≤ I 8 1 ∧ I 8 1 ≤ 8 from gc_in hI R_8 rfl rfl)
  refine gv_run 2 true hD (pc' := 87) (lv' := [(0, .inr (.inr (some 1))), (1, .inl a1)]) (st' := [.inr (.inr (some 1)), .inl a1]) (h' := gc_h sh I J A) (C := ((True ∧ True) ∧ True)) rfl ⟨⟨trivial, trivial⟩, trivial⟩ ?_
  refine gv_get hD rfl rfl S_1 ⟨by decide, B_1⟩ (gc_hA S_1 rfl A_1_3) ?_
  show gv_X _ _ (90, [(0, .inr (.inr (some 1))), (1, .inl a1)], [.inr (.inr (some 8)), .inl a1], sh, gc_h sh I J A)
  have f4 := (show 0 ≤ I 8 1 ∧ I 8 1 ≤ 8 from gc_in hI R_8 rfl rfl)
  refine gv_get hD rfl rfl S_8 ⟨by decide, B_8⟩ (gc_hI S_8 rfl) ?_
  show gv_X _ _ (93, [(0, .inr (.inr (some 1))), (1, .inl a1)], [.inl (I 8 1), .inl a1], sh, gc_h sh I J A)
  refine gv_icmp_ge (t := 122) hD rfl rfl ⟨⟨by exact gz_m 0 (by omega), by exact gz_m 1 (by omega)⟩, ⟨by exact gz_m 2 (by omega), by exact gz_m 3 (by omega)⟩⟩ (fun c5 => ?_) (fun c5 => ?_)
  · show gv_X _ _ (122, [(0, .inr (.inr (some 1))), (1, .inl a1)], [], sh, gc_h sh I J A)
    exact L122 (by exact gz_m 4 (by omega))
  · show gv_X _ _ (96, [(0, .inr (.inr (some 1))), (1, .inl a1)], [], sh, gc_h sh I J A)
    exact L96 (by exact gz_m 5 (by omega))
set_option maxHeartbeats 8000000 in
set_option maxRecDepth 100000 in
theorem d_X8_restore_b {ws0 : List Cond} {tb : String → gz_T} (hws : gc_Ws ws0) (htb : gc_tbs tb) (sh : gz_Sh) (ro : Nat → Nat) (I : gr_I) (J : gr_J) (A : gc_A) (hI : gc_Inv ro I) (t : Nat) (a1 : Int) (hb : gc_Base sh ro A) (h_t : gc_isTongue sh ro A t) (G_t : 144 ≤ t) (ha1 : 0 ≤ a1 ∧ a1 ≤ 7) (x0 : A 10 (Int.toNat a1) = some t) (x1 : 0 ≤ I 21 (Int.toNat (7 + (a1 * 7))) ∧ I 21 (Int.toNat (7 + (a1 * 7))) ≤ 8) (x2 : 0 ≤ I 21 (Int.toNat ((7 + (a1 * 7)) + 1)) ∧ I 21 (Int.toNat ((7 + (a1 * 7)) + 1)) ≤ 48) (x3 : 0 ≤ I 21 (Int.toNat ((7 + (a1 * 7)) + 2)) ∧ I 21 (Int.toNat ((7 + (a1 * 7)) + 2)) ≤ 16) (x4 : 0 ≤ I 21 (Int.toNat ((7 + (a1 * 7)) + 3)) ∧ I 21 (Int.toNat ((7 + (a1 * 7)) + 3)) ≤ 24) (x5 : 0 ≤ I 21 (Int.toNat ((7 + (a1 * 7)) + 4)) ∧ I 21 (Int.toNat ((7 + (a1 * 7)) + 4)) ≤ 24) (x6 : 0 ≤ I 21 (Int.toNat ((7 + (a1 * 7)) + 5)) ∧ I 21 (Int.toNat ((7 + (a1 * 7)) + 5)) ≤ 64) (x7 : 0 ≤ I 21 (Int.toNat ((7 + (a1 * 7)) + 6)) ∧ I 21 (Int.toNat ((7 + (a1 * 7)) + 6)) ≤ 384) {Q : gz_S → Prop} (L85 : ∀ (I1 : gr_I) (J2 : gr_J) (v1_3 : Int), gc_Inv ro I1 → (∀ q j : Nat, ((q = (t + 1) ∧ j = 1) ∨ (q = (t + 3) ∧ j = 1) ∨ (q = (t + 7) ∧ j = 1) ∨ (q = t ∧ j = 6) ∨ (q = (t + 11) ∧ j = 1) ∨ (q = t ∧ j = 11) ∨ (q = t ∧ j = 13)) ∨ I1 q j = I q j) → (∀ q j : Nat, (False) ∨ J2 q j = J q j) → ((1 ≤ v1_3 ∧ v1_3 ≤ 8) ∧ (v1_3 = a1 + 1) ∧ (I1 (t + 1) 1 = I 21 (Int.toNat (7 + (a1 * 7)))) ∧ (I1 (t + 3) 1 = I 21 (Int.toNat ((7 + (a1 * 7)) + 1))) ∧ (I1 (t + 7) 1 = I 21 (Int.toNat ((7 + (a1 * 7)) + 2))) ∧ (I1 t 6 = I 21 (Int.toNat ((7 + (a1 * 7)) + 3))) ∧ (I1 (t + 11) 1 = I 21 (Int.toNat ((7 + (a1 * 7)) + 4))) ∧ (I1 t 11 = I 21 (Int.toNat ((7 + (a1 * 7)) + 5))) ∧ (I1 t 13 = I 21 (Int.toNat ((7 + (a1 * 7)) + 6)))) → gv_X (gc_E8 ws0 tb 2 (yX8_restore, cX8_restore, 2, none) kX8_restore) Q (85, [(0, .inr (.inr (some 1))), (1, .inl v1_3)], [], sh, gc_h sh I1 J2 A)) : gv_X (gc_E8 ws0 tb 2 (yX8_restore, cX8_restore, 2, none) kX8_restore) Q (96, [(0, .inr (.inr (some 1))), (1, .inl a1)], [], sh, gc_h sh I J A) := by
  have FI : ∀ q j : Nat, ((q = (t + 1) ∧ j = 1) ∨ (q = (t + 3) ∧ j = 1) ∨ (q = (t + 7) ∧ j = 1) ∨ (q = t ∧ j = 6) ∨ (q = (t + 11) ∧ j = 1) ∨ (q = t ∧ j = 11) ∨ (q = t ∧ j = 13)) ∨ I q j = I q j := fun _ _ => Or.inr rfl
  have FJ : ∀ q j : Nat, (False) ∨ J q j = J q j := fun _ _ => Or.inr rfl
  have A_1_19 : A 1 19 = some 21 := gc_bA hb rfl
  have A_1_4 : A 1 4 = some 10 := gc_bA hb rfl
  have B_1 : 1 < 1000000 := by decide
  have B_10 : 10 < 1000000 := by decide
  have B_21 : 21 < 1000000 := by decide
  have R_21 : ro 21 = 70 := gc_bR hb (by decide) rfl
  have S_1 : sh[1]? = some (false, 8, 21) := gc_bS hb rfl
  have S_10 : sh[10]? = some (true, 5, 8) := gc_bS hb rfl
  have S_21 : sh[21]? = some (true, 1, 159) := gc_bS hb rfl
  obtain ⟨S_t, R_t, B_t, A_t_0, h_t_1, A_t_1, h_t_3, A_t_2, S_t_5, R_t_5, B_t_5, A_t_3, S_t_6, R_t_6, B_t_6, A_t_4, h_t_7, A_t_5, S_t_9, R_t_9, B_t_9, A_t_7, S_t_10, R_t_10, B_t_10, A_t_8, h_t_11, A_t_9, S_t_13, R_t_13, B_t_13, A_t_10, S_t_14, R_t_14, B_t_14, A_t_12, S_t_15, R_t_15, B_t_15, A_t_14, S_t_16, R_t_16, B_t_16, A_t_15, h_t_17⟩ := id h_t
  obtain ⟨S_t_1, R_t_1, B_t_1, A_t_1_0, S_t_1_1, R_t_1_1, B_t_1_1, Q0_t_1, Q1_t_1, Q2_t_1⟩ := id h_t_1
  obtain ⟨S_t_3, R_t_3, B_t_3, A_t_3_0, S_t_3_1, R_t_3_1, B_t_3_1, Q0_t_3, Q1_t_3, Q2_t_3⟩ := id h_t_3
  obtain ⟨S_t_7, R_t_7, B_t_7, A_t_7_0, S_t_7_1, R_t_7_1, B_t_7_1, Q0_t_7, Q1_t_7, Q2_t_7⟩ := id h_t_7
  obtain ⟨S_t_11, R_t_11, B_t_11, A_t_11_0, S_t_11_1, R_t_11_1, B_t_11_1, Q0_t_11, Q1_t_11, Q2_t_11⟩ := id h_t_11
  obtain ⟨S_t_17, R_t_17, B_t_17, A_t_17_0, S_20, R_20, B_20, A_t_17_1, S_t_17_1, R_t_17_1, B_t_17_1, A_t_17_2, S_t_17_2, R_t_17_2, B_t_17_2, A_t_17_3, S_t_17_3, R_t_17_3, B_t_17_3, A_t_17_4, S_t_17_4, R_t_17_4, B_t_17_4, A_t_17_5, S_t_17_5, R_t_17_5, B_t_17_5, S_t_17_6, R_t_17_6, B_t_17_6, S_t_17_7, R_t_17_7, B_t_17_7⟩ := id h_t_17
  have hD : gv_D (gc_E8 ws0 tb 2 (yX8_restore, cX8_restore, 2, none) kX8_restore) := gq_of oX8_restore
  refine gv_run 1 true hD (pc' := 97) (lv' := [(0, .inr (.inr (some 1))), (1, .inl a1)]) (st' := [.inr (.inr (some 1))]) (h' := gc_h sh I J A) (C := (True ∧ True)) rfl ⟨trivial, trivial⟩ ?_
  refine gv_get hD rfl rfl S_1 ⟨by decide, B_1⟩ (gc_hA S_1 rfl A_1_4) ?_
  show gv_X _ _ (100, [(0, .inr (.inr (some 1))), (1, .inl a1)], [.inr (.inr (some 10))], sh, gc_h sh I J A)
  refine gv_run 1 true hD (pc' := 101) (lv' := [(0, .inr (.inr (some 1))), (1, .inl a1)]) (st' := [.inl a1, .inr (.inr (some 10))]) (h' := gc_h sh I J A) (C := (True ∧ True)) rfl ⟨trivial, trivial⟩ ?_
  refine gv_aald hD rfl S_10 ⟨by decide, by decide⟩ ⟨by decide, B_10⟩ ⟨by exact gz_m 0 (by omega), by exact gz_m 1 (by omega)⟩ ((gc_aA S_10 rfl).trans x0) ?_
  show gv_X _ _ (102, [(0, .inr (.inr (some 1))), (1, .inl a1)], [.inr (.inr (some t))], sh, gc_h sh I J A)
  refine gv_run 1 true hD (pc' := 103) (lv' := [(0, .inr (.inr (some 1))), (1, .inl a1)]) (st' := [.inr (.inr (some 1)), .inr (.inr (some t))]) (h' := gc_h sh I J A) (C := (True ∧ True)) rfl ⟨trivial, trivial⟩ ?_
  refine gv_get hD rfl rfl S_1 ⟨by decide, B_1⟩ (gc_hA S_1 rfl A_1_19) ?_
  show gv_X _ _ (106, [(0, .inr (.inr (some 1))), (1, .inl a1)], [.inr (.inr (some 21)), .inr (.inr (some t))], sh, gc_h sh I J A)
  refine gv_run 5 true hD (pc' := 113) (lv' := [(0, .inr (.inr (some 1))), (1, .inl a1)]) (st' := [.inl (7 + (a1 * 7)), .inr (.inr (some 21)), .inr (.inr (some t))]) (h' := gc_h sh I J A) (C := (((((True ∧ True) ∧ True) ∧ True) ∧ True) ∧ True)) rfl ⟨⟨⟨⟨⟨trivial, trivial⟩, trivial⟩, trivial⟩, trivial⟩, trivial⟩ ?_
  obtain ⟨r5, h5, E5, P5⟩ := d_X11_loadSizes (ws0 := ws0) (tb := tb) hws htb sh ro I J A hI t 159 21 ((7 + (a1 * 7))) h_t S_21 R_21 B_21 (by decide)  ⟨by exact gz_m 2 (by omega), by exact gz_m 3 (by omega)⟩ (by exact gz_m 4 (by omega)) (by exact gz_m 5 (by omega)) (by exact gz_m 6 (by omega)) (by exact gz_m 7 (by omega)) (by exact gz_m 8 (by omega)) (by exact gz_m 9 (by omega)) (by exact gz_m 10 (by omega)) (by exact gz_m 11 (by omega)) (by exact gz_m 12 (by omega)) (by exact gz_m 13 (by omega)) 
  obtain ⟨I6, J7, rfl, hI6, g5, k5, ⟨rfl, q5⟩⟩ := P5
  have FI6 := gc_frc (W := fun q j => (q = (t + 1) ∧ j = 1) ∨ (q = (t + 3) ∧ j = 1) ∨ (q = (t + 7) ∧ j = 1) ∨ (q = t ∧ j = 6) ∨ (q = (t + 11) ∧ j = 1) ∨ (q = t ∧ j = 11) ∨ (q = t ∧ j = 13)) (V := fun q j => (q = (t + 1) ∧ j = 1) ∨ (q = (t + 3) ∧ j = 1) ∨ (q = (t + 7) ∧ j = 1) ∨ (q = (t + 11) ∧ j = 1) ∨ (q = t ∧ j = 6) ∨ (q = t ∧ j = 11) ∨ (q = t ∧ j = 13)) FI (fun q j h => (h.elim (fun h => (Or.inl h)) (fun h => (h.elim (fun h => (Or.inr (Or.inl h))) (fun h => (h.elim (fun h => (Or.inr (Or.inr (Or.inl h)))) (fun h => (h.elim (fun h => (Or.inr (Or.inr (Or.inr (Or.inr (Or.inl h)))))) (fun h => (h.elim (fun h => (Or.inr (Or.inr (Or.inr (Or.inl h))))) (fun h => (h.elim (fun h => (Or.inr (Or.inr (Or.inr (Or.inr (Or.inr (Or.inl h))))))) (fun h => (Or.inr (Or.inr (Or.inr (Or.inr (Or.inr (Or.inr h))))))))))))))))))) g5
  obtain rfl : J = J7 := funext fun q => funext fun j => ((k5 q j).resolve_left id).symm
  refine gv_callV hD rfl (As := [.inr (.inr (some 21)), .inl (7 + (a1 * 7))]) (st := []) rfl B_t S_t rfl (gc_lV8 hws rfl) (Nat.le_of_ble_eq_true rfl) (gz_Ev_mono (d := 1) (by decide) E5) ?_
  show gv_X _ _ (116, [(0, .inr (.inr (some 1))), (1, .inl a1)], [], sh, gc_h sh I6 J A)
  refine gv_run 2 true hD (pc' := 85) (lv' := [(1, .inl (a1 + 1)), (0, .inr (.inr (some 1)))]) (st' := []) (h' := gc_h sh I6 J A) (C := ((True ∧ True) ∧ True)) rfl ⟨⟨trivial, trivial⟩, trivial⟩ ?_
  refine gv_pick [1, 0] rfl ?_
  exact L85 I6 J (a1 + 1) hI6 FI6 FJ (by exact gz_m 14 (by omega))
set_option maxHeartbeats 8000000 in
set_option maxRecDepth 100000 in
theorem d_X8_restore_t {ws0 : List Cond} {tb : String → gz_T} (hws : gc_Ws ws0) (htb : gc_tbs tb) (sh : gz_Sh) (ro : Nat → Nat) (I : gr_I) (J : gr_J) (A : gc_A) (hI : gc_Inv ro I) (a1 : Int) (hb : gc_Base sh ro A) (ha1 : 0 ≤ a1 ∧ a1 ≤ 8) (x0 : ∀ f : Nat, f < 96 → 0 ≤ I 21 (63 + f) ∧ I 21 (63 + f) ≤ 40)  : gv_X (gc_E8 ws0 tb 2 (yX8_restore, cX8_restore, 2, none) kX8_restore) (gv_Q cX8_restore none sh (fun r h' => (∃ (I' : gr_I) (J' : gr_J), h' = gc_h sh I' J' A ∧ gc_Inv ro I' ∧ (∀ q j : Nat, (q = 15) ∨ I' q j = I q j) ∧ (∀ q j : Nat, (False) ∨ J' q j = J q j) ∧ r = none ∧ (∀ f : Nat, f < 96 → I' 15 f = I 21 (63 + f))))) (122, [(0, .inr (.inr (some 1))), (1, .inl a1)], [], sh, gc_h sh I J A) := by
  have FI : ∀ q j : Nat, (q = 15) ∨ I q j = I q j := fun _ _ => Or.inr rfl
  have FJ : ∀ q j : Nat, (False) ∨ J q j = J q j := fun _ _ => Or.inr rfl
  have A_1_10 : A 1 10 = some 15 := gc_bA hb rfl
  have A_1_19 : A 1 19 = some 21 := gc_bA hb rfl
  have B_1 : 1 < 1000000 := by decide
  have B_15 : 15 < 1000000 := by decide
  have B_21 : 21 < 1000000 := by decide
  have R_15 : ro 15 = 28 := gc_bR hb (by decide) rfl
  have R_21 : ro 21 = 70 := gc_bR hb (by decide) rfl
  have S_1 : sh[1]? = some (false, 8, 21) := gc_bS hb rfl
  have S_15 : sh[15]? = some (true, 1, 96) := gc_bS hb rfl
  have S_21 : sh[21]? = some (true, 1, 159) := gc_bS hb rfl
  have hD : gv_D (gc_E8 ws0 tb 2 (yX8_restore, cX8_restore, 2, none) kX8_restore) := gq_of oX8_restore
  refine gv_run 1 true hD (pc' := 123) (lv' := [(0, .inr (.inr (some 1))), (1, .inl a1)]) (st' := [.inr (.inr (some 1))]) (h' := gc_h sh I J A) (C := (True ∧ True)) rfl ⟨trivial, trivial⟩ ?_
  refine gv_get hD rfl rfl S_1 ⟨by decide, B_1⟩ (gc_hA S_1 rfl A_1_19) ?_
  show gv_X _ _ (126, [(0, .inr (.inr (some 1))), (1, .inl a1)], [.inr (.inr (some 21))], sh, gc_h sh I J A)
  refine gv_run 2 true hD (pc' := 129) (lv' := [(0, .inr (.inr (some 1))), (1, .inl a1)]) (st' := [.inr (.inr (some 1)), .inl 63, .inr (.inr (some 21))]) (h' := gc_h sh I J A) (C := ((True ∧ True) ∧ True)) rfl ⟨⟨trivial, trivial⟩, trivial⟩ ?_
  refine gv_get hD rfl rfl S_1 ⟨by decide, B_1⟩ (gc_hA S_1 rfl A_1_10) ?_
  show gv_X _ _ (132, [(0, .inr (.inr (some 1))), (1, .inl a1)], [.inr (.inr (some 15)), .inl 63, .inr (.inr (some 21))], sh, gc_h sh I J A)
  refine gv_run 2 true hD (pc' := 135) (lv' := [(0, .inr (.inr (some 1))), (1, .inl a1)]) (st' := [.inl 96, .inl 0, .inr (.inr (some 15)), .inl 63, .inr (.inr (some 21))]) (h' := gc_h sh I J A) (C := ((True ∧ True) ∧ True)) rfl ⟨⟨trivial, trivial⟩, trivial⟩ ?_
  refine gv_copy hD rfl (gc_lC8_95 hws) (Nat.le_of_ble_eq_true rfl) ⟨B_21, B_15⟩ S_21 S_15 (by decide) ⟨by decide, by decide⟩ ⟨by exact gz_m 0 (by omega), by exact gz_m 1 (by omega), by exact gz_m 2 (by omega)⟩ (by exact gz_m 3 (by omega)) (by exact gz_m 4 (by omega)) (fun h => absurd h (by decide)) ?_
  refine gc_cp hI S_21 S_15 (by decide) (fun j hj => by have h9 := x0 j (by exact gz_m 5 (by omega)); rw [show Int.toNat (63 : Int) + j = 63 + j from rfl, R_15]; exact ⟨by show (0 : Int) ≤ _; exact gz_m 6 (by omega), by show _ ≤ (40 : Int); exact gz_m 7 (by omega)⟩) (fun I2 hI2 p1 q1 => ?_)
  have FI2 := gc_frp (W := fun q j => q = 15) (V := fun q j => q = 15 ∧ Int.toNat 0 ≤ j ∧ j < Int.toNat 0 + Int.toNat 96) FI (fun q j h => h.1) p1
  show gv_X _ _ (138, [(0, .inr (.inr (some 1))), (1, .inl a1)], [], sh, gc_h sh I2 J A)
  exact gv_vret hD rfl ⟨I2, J, rfl, hI2, FI2, FJ, ⟨rfl, (fun f hf => by have h9 := q1 f (by exact gz_m 8 (by omega)); rw [show Int.toNat (0 : Int) + f = f from by exact gz_m 9 (by omega), show Int.toNat (63 : Int) + f = 63 + f from rfl] at h9; exact h9)⟩⟩
