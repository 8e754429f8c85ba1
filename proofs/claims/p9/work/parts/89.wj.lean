set_option maxHeartbeats 8000000 in
set_option maxRecDepth 100000 in
theorem d_X8_restore_h {ws0 : List Cond} {tb : String → gz_T} (hws : gc_Ws ws0) (htb : gc_tbs tb) (sh : gz_Sh) (ro : Nat → Nat) (I : gr_I) (J : gr_J) (A : gc_A) (hI : gc_Inv ro I)  (hb : gc_Base sh ro A)  (x0 : 0 ≤ I 21 0 ∧ I 21 0 ≤ 32) (x1 : 0 ≤ I 21 1 ∧ I 21 1 ≤ 96) (x2 : 0 ≤ I 21 2 ∧ I 21 2 ≤ 8) (x3 : 0 ≤ I 21 3 ∧ I 21 3 ≤ 8) (x4 : 0 ≤ I 21 4 ∧ I 21 4 ≤ 64) (x5 : 0 ≤ I 21 5) (x6 : -1 ≤ I 21 6 ∧ I 21 6 ≤ 7) {Q : gz_S → Prop} (L85 : ∀ (I15 : gr_I) (J16 : gr_J) (v1_17 : Int), gc_Inv ro I15 → (∀ q j : Nat, ((q = 2 ∧ j = 1) ∨ (q = 4 ∧ j = 1) ∨ (q = 6 ∧ j = 1) ∨ (q = 8 ∧ j = 1) ∨ (q = 1 ∧ j = 13) ∨ (q = 1 ∧ j = 17) ∨ (q = 1 ∧ j = 5)) ∨ I15 q j = I q j) → (∀ q j : Nat, (False) ∨ J16 q j = J q j) → ((0 ≤ v1_17 ∧ v1_17 ≤ 0) ∧ (v1_17 = 0) ∧ (I15 2 1 = I 21 0) ∧ (I15 4 1 = I 21 1) ∧ (I15 6 1 = I 21 2) ∧ (I15 8 1 = I 21 3) ∧ (I15 1 13 = I 21 4) ∧ (I15 1 17 = I 21 5) ∧ (I15 1 5 = I 21 6)) → gv_X (gc_E8 ws0 tb 2 (yX8_restore, cX8_restore, 2, none) kX8_restore) Q (85, [(0, .inr (.inr (some 1))), (1, .inl v1_17)], [], sh, gc_h sh I15 J16 A)) : gv_X (gc_E8 ws0 tb 2 (yX8_restore, cX8_restore, 2, none) kX8_restore) Q (0, [(0, .inr (.inr (some 1)))], [], sh, gc_h sh I J A) := by
  have FI : ∀ q j : Nat, ((q = 2 ∧ j = 1) ∨ (q = 4 ∧ j = 1) ∨ (q = 6 ∧ j = 1) ∨ (q = 8 ∧ j = 1) ∨ (q = 1 ∧ j = 13) ∨ (q = 1 ∧ j = 17) ∨ (q = 1 ∧ j = 5)) ∨ I q j = I q j := fun _ _ => Or.inr rfl
  have FJ : ∀ q j : Nat, (False) ∨ J q j = J q j := fun _ _ => Or.inr rfl
  have A_1_0 : A 1 0 = some 2 := gc_bA_1_0 hb
  have A_1_1 : A 1 1 = some 4 := gc_bA_1_1 hb
  have A_1_19 : A 1 19 = some 21 := gc_bA_1_19 hb
  have A_1_2 : A 1 2 = some 6 := gc_bA_1_2 hb
  have A_1_3 : A 1 3 = some 8 := gc_bA_1_3 hb
  have B_1 := gz_hi (show 1 < 1000000 from by decide)
  have B_2 := gz_hi (show 2 < 1000000 from by decide)
  have B_21 := gz_hi (show 21 < 1000000 from by decide)
  have B_4 := gz_hi (show 4 < 1000000 from by decide)
  have B_6 := gz_hi (show 6 < 1000000 from by decide)
  have B_8 := gz_hi (show 8 < 1000000 from by decide)
  have R_1 := gz_hi (show ro 1 = 22 from gc_bR_1 hb)
  have R_2 := gz_hi (show ro 2 = 9 from gc_bR_2 hb)
  have R_21 := gz_hi (show ro 21 = 70 from gc_bR_21 hb)
  have R_4 := gz_hi (show ro 4 = 11 from gc_bR_4 hb)
  have R_6 := gz_hi (show ro 6 = 6 from gc_bR_6 hb)
  have R_8 := gz_hi (show ro 8 = 6 from gc_bR_8 hb)
  have S_1 : sh[1]? = some (false, 8, 21) := gc_bS_1 hb
  have S_2 : sh[2]? = some (false, 4, 2) := gc_bS_2 hb
  have S_21 : sh[21]? = some (true, 1, 159) := gc_bS_21 hb
  have S_4 : sh[4]? = some (false, 4, 2) := gc_bS_4 hb
  have S_6 : sh[6]? = some (false, 4, 2) := gc_bS_6 hb
  have S_8 : sh[8]? = some (false, 4, 2) := gc_bS_8 hb
  have hD : gv_D (gc_E8 ws0 tb 2 (yX8_restore, cX8_restore, 2, none) kX8_restore) := gq_of oX8_restore
  have f6 := gz_hi ((gc_b_70_5 hI (gz_sh R_21)))
  refine gv_run 1 true hD (pcₚ := 1) (lvₚ := [(0, .inr (.inr (some 1)))]) (stₚ := [.inr (.inr (some 1))]) (hₚ := gc_h sh I J A) (C := (True ∧ True)) rfl ⟨trivial, trivial⟩ ?_
  refine gv_get hD rfl rfl S_1 ⟨by decide, (gz_sh B_1)⟩ (gc_hA S_1 rfl A_1_0) ?_
  show gv_X _ _ (4, [(0, .inr (.inr (some 1)))], [.inr (.inr (some 2))], sh, gc_h sh I J A)
  refine gv_run 1 true hD (pcₚ := 5) (lvₚ := [(0, .inr (.inr (some 1)))]) (stₚ := [.inr (.inr (some 1)), .inr (.inr (some 2))]) (hₚ := gc_h sh I J A) (C := (True ∧ True)) rfl ⟨trivial, trivial⟩ ?_
  refine gv_get hD rfl rfl S_1 ⟨by decide, (gz_sh B_1)⟩ (gc_hA S_1 rfl A_1_19) ?_
  show gv_X _ _ (8, [(0, .inr (.inr (some 1)))], [.inr (.inr (some 21)), .inr (.inr (some 2))], sh, gc_h sh I J A)
  refine gv_run 1 true hD (pcₚ := 9) (lvₚ := [(0, .inr (.inr (some 1)))]) (stₚ := [.inl 0, .inr (.inr (some 21)), .inr (.inr (some 2))]) (hₚ := gc_h sh I J A) (C := (True ∧ True)) rfl ⟨trivial, trivial⟩ ?_
  refine gv_iald hD rfl S_21 rfl ⟨by decide, (gz_sh B_21)⟩ ⟨by (/-0-/first | omega | (simp only [gz_hd] at *; omega)), by (/-1-/first | omega | (simp only [gz_hd] at *; omega))⟩ (gc_iI S_21 rfl) ?_
  show gv_X _ _ (10, [(0, .inr (.inr (some 1)))], [.inl (I 21 0), .inr (.inr (some 2))], sh, gc_h sh I J A)
  refine gv_put hD rfl rfl S_2 ⟨by decide, (gz_sh B_2)⟩ rfl trivial ?_
  refine gc_st (k := 1) hI S_2 rfl (gz_sh R_2) (lo := 0) (hi := 32) rfl rfl (by (/-2-/first | omega | (simp only [gz_hd] at *; omega))) (by (/-3-/first | omega | (simp only [gz_hd] at *; omega))) (fun I19 hI19 q20 p20 => ?_)
  have FI19 := gc_frs (W := fun q j => (q = 2 ∧ j = 1) ∨ (q = 4 ∧ j = 1) ∨ (q = 6 ∧ j = 1) ∨ (q = 8 ∧ j = 1) ∨ (q = 1 ∧ j = 13) ∨ (q = 1 ∧ j = 17) ∨ (q = 1 ∧ j = 5)) FI (Or.inl ⟨rfl, rfl⟩) p20
  have t21 := gz_hi (p20 21 0 (fun h => absurd h.2 (by first | exact gz_ne rfl | decide)))
  have t22 := gz_hi (p20 21 1 (fun h => absurd h.1 (by first | exact gz_ne rfl | decide)))
  have t23 := gz_hi (p20 21 2 (fun h => absurd h.2 (by first | exact gz_ne rfl | decide)))
  have t24 := gz_hi (p20 21 3 (fun h => absurd h.2 (by first | exact gz_ne rfl | decide)))
  have t25 := gz_hi (p20 21 4 (fun h => absurd h.2 (by first | exact gz_ne rfl | decide)))
  have t26 := gz_hi (p20 21 5 (fun h => absurd h.2 (by first | exact gz_ne rfl | decide)))
  have t27 := gz_hi (p20 21 6 (fun h => absurd h.2 (by first | exact gz_ne rfl | decide)))
  show gv_X _ _ (13, [(0, .inr (.inr (some 1)))], [], sh, gc_h sh I19 J A)
  refine gv_run 1 true hD (pcₚ := 14) (lvₚ := [(0, .inr (.inr (some 1)))]) (stₚ := [.inr (.inr (some 1))]) (hₚ := gc_h sh I19 J A) (C := (True ∧ True)) rfl ⟨trivial, trivial⟩ ?_
  refine gv_get hD rfl rfl S_1 ⟨by decide, (gz_sh B_1)⟩ (gc_hA S_1 rfl A_1_1) ?_
  show gv_X _ _ (17, [(0, .inr (.inr (some 1)))], [.inr (.inr (some 4))], sh, gc_h sh I19 J A)
  refine gv_run 1 true hD (pcₚ := 18) (lvₚ := [(0, .inr (.inr (some 1)))]) (stₚ := [.inr (.inr (some 1)), .inr (.inr (some 4))]) (hₚ := gc_h sh I19 J A) (C := (True ∧ True)) rfl ⟨trivial, trivial⟩ ?_
  refine gv_get hD rfl rfl S_1 ⟨by decide, (gz_sh B_1)⟩ (gc_hA S_1 rfl A_1_19) ?_
  show gv_X _ _ (21, [(0, .inr (.inr (some 1)))], [.inr (.inr (some 21)), .inr (.inr (some 4))], sh, gc_h sh I19 J A)
  refine gv_run 1 true hD (pcₚ := 22) (lvₚ := [(0, .inr (.inr (some 1)))]) (stₚ := [.inl 1, .inr (.inr (some 21)), .inr (.inr (some 4))]) (hₚ := gc_h sh I19 J A) (C := (True ∧ True)) rfl ⟨trivial, trivial⟩ ?_
  refine gv_iald hD rfl S_21 rfl ⟨by decide, (gz_sh B_21)⟩ ⟨by (/-4-/first | omega | (simp only [gz_hd] at *; omega)), by (/-5-/first | omega | (simp only [gz_hd] at *; omega))⟩ (gc_iI S_21 rfl) ?_
  show gv_X _ _ (23, [(0, .inr (.inr (some 1)))], [.inl (I19 21 1), .inr (.inr (some 4))], sh, gc_h sh I19 J A)
  refine gv_put hD rfl rfl S_4 ⟨by decide, (gz_sh B_4)⟩ rfl trivial ?_
  refine gc_st (k := 1) hI19 S_4 rfl (gz_sh R_4) (lo := 0) (hi := 96) rfl rfl (by (/-6-/first | (have o1 := gz_sh t22; omega) | (simp only [gz_hd] at *; omega))) (by (/-7-/first | (have o1 := gz_sh t22; omega) | (simp only [gz_hd] at *; omega))) (fun I36 hI36 q37 p37 => ?_)
  have FI36 := gc_frs (W := fun q j => (q = 2 ∧ j = 1) ∨ (q = 4 ∧ j = 1) ∨ (q = 6 ∧ j = 1) ∨ (q = 8 ∧ j = 1) ∨ (q = 1 ∧ j = 13) ∨ (q = 1 ∧ j = 17) ∨ (q = 1 ∧ j = 5)) FI19 (Or.inr (Or.inl ⟨rfl, rfl⟩)) p37
  have t38 := gz_hi (p37 21 0 (fun h => absurd h.2 (by first | exact gz_ne rfl | decide)))
  have t39 := gz_hi (p37 21 1 (fun h => absurd h.1 (by first | exact gz_ne rfl | decide)))
  have t40 := gz_hi (p37 21 2 (fun h => absurd h.2 (by first | exact gz_ne rfl | decide)))
  have t41 := gz_hi (p37 21 3 (fun h => absurd h.2 (by first | exact gz_ne rfl | decide)))
  have t42 := gz_hi (p37 21 4 (fun h => absurd h.2 (by first | exact gz_ne rfl | decide)))
  have t43 := gz_hi (p37 21 5 (fun h => absurd h.2 (by first | exact gz_ne rfl | decide)))
  have t44 := gz_hi (p37 21 6 (fun h => absurd h.2 (by first | exact gz_ne rfl | decide)))
  have t45 := gz_hi (p37 2 1 (fun h => absurd h.1 (by first | exact gz_ne rfl | decide)))
  show gv_X _ _ (26, [(0, .inr (.inr (some 1)))], [], sh, gc_h sh I36 J A)
  refine gv_run 1 true hD (pcₚ := 27) (lvₚ := [(0, .inr (.inr (some 1)))]) (stₚ := [.inr (.inr (some 1))]) (hₚ := gc_h sh I36 J A) (C := (True ∧ True)) rfl ⟨trivial, trivial⟩ ?_
  refine gv_get hD rfl rfl S_1 ⟨by decide, (gz_sh B_1)⟩ (gc_hA S_1 rfl A_1_2) ?_
  show gv_X _ _ (30, [(0, .inr (.inr (some 1)))], [.inr (.inr (some 6))], sh, gc_h sh I36 J A)
  refine gv_run 1 true hD (pcₚ := 31) (lvₚ := [(0, .inr (.inr (some 1)))]) (stₚ := [.inr (.inr (some 1)), .inr (.inr (some 6))]) (hₚ := gc_h sh I36 J A) (C := (True ∧ True)) rfl ⟨trivial, trivial⟩ ?_
  refine gv_get hD rfl rfl S_1 ⟨by decide, (gz_sh B_1)⟩ (gc_hA S_1 rfl A_1_19) ?_
  show gv_X _ _ (34, [(0, .inr (.inr (some 1)))], [.inr (.inr (some 21)), .inr (.inr (some 6))], sh, gc_h sh I36 J A)
  refine gv_run 1 true hD (pcₚ := 35) (lvₚ := [(0, .inr (.inr (some 1)))]) (stₚ := [.inl 2, .inr (.inr (some 21)), .inr (.inr (some 6))]) (hₚ := gc_h sh I36 J A) (C := (True ∧ True)) rfl ⟨trivial, trivial⟩ ?_
  refine gv_iald hD rfl S_21 rfl ⟨by decide, (gz_sh B_21)⟩ ⟨by (/-8-/first | omega | (simp only [gz_hd] at *; omega)), by (/-9-/first | omega | (simp only [gz_hd] at *; omega))⟩ (gc_iI S_21 rfl) ?_
  show gv_X _ _ (36, [(0, .inr (.inr (some 1)))], [.inl (I36 21 2), .inr (.inr (some 6))], sh, gc_h sh I36 J A)
  refine gv_put hD rfl rfl S_6 ⟨by decide, (gz_sh B_6)⟩ rfl trivial ?_
  refine gc_st (k := 1) hI36 S_6 rfl (gz_sh R_6) (lo := 0) (hi := 8) rfl rfl (by (/-10-/first | (have o1 := gz_sh t23; have o2 := gz_sh t40; omega) | (simp only [gz_hd] at *; omega))) (by (/-11-/first | (have o1 := gz_sh t23; have o2 := gz_sh t40; omega) | (simp only [gz_hd] at *; omega))) (fun I53 hI53 q54 p54 => ?_)
  have FI53 := gc_frs (W := fun q j => (q = 2 ∧ j = 1) ∨ (q = 4 ∧ j = 1) ∨ (q = 6 ∧ j = 1) ∨ (q = 8 ∧ j = 1) ∨ (q = 1 ∧ j = 13) ∨ (q = 1 ∧ j = 17) ∨ (q = 1 ∧ j = 5)) FI36 (Or.inr (Or.inr (Or.inl ⟨rfl, rfl⟩))) p54
  have t55 := gz_hi (p54 21 0 (fun h => absurd h.2 (by first | exact gz_ne rfl | decide)))
  have t56 := gz_hi (p54 21 1 (fun h => absurd h.1 (by first | exact gz_ne rfl | decide)))
  have t57 := gz_hi (p54 21 2 (fun h => absurd h.2 (by first | exact gz_ne rfl | decide)))
  have t58 := gz_hi (p54 21 3 (fun h => absurd h.2 (by first | exact gz_ne rfl | decide)))
  have t59 := gz_hi (p54 21 4 (fun h => absurd h.2 (by first | exact gz_ne rfl | decide)))
  have t60 := gz_hi (p54 21 5 (fun h => absurd h.2 (by first | exact gz_ne rfl | decide)))
  have t61 := gz_hi (p54 21 6 (fun h => absurd h.2 (by first | exact gz_ne rfl | decide)))
  have t62 := gz_hi (p54 2 1 (fun h => absurd h.1 (by first | exact gz_ne rfl | decide)))
  have t63 := gz_hi (p54 4 1 (fun h => absurd h.1 (by first | exact gz_ne rfl | decide)))
  show gv_X _ _ (39, [(0, .inr (.inr (some 1)))], [], sh, gc_h sh I53 J A)
  refine gv_run 1 true hD (pcₚ := 40) (lvₚ := [(0, .inr (.inr (some 1)))]) (stₚ := [.inr (.inr (some 1))]) (hₚ := gc_h sh I53 J A) (C := (True ∧ True)) rfl ⟨trivial, trivial⟩ ?_
  refine gv_get hD rfl rfl S_1 ⟨by decide, (gz_sh B_1)⟩ (gc_hA S_1 rfl A_1_3) ?_
  show gv_X _ _ (43, [(0, .inr (.inr (some 1)))], [.inr (.inr (some 8))], sh, gc_h sh I53 J A)
  refine gv_run 1 true hD (pcₚ := 44) (lvₚ := [(0, .inr (.inr (some 1)))]) (stₚ := [.inr (.inr (some 1)), .inr (.inr (some 8))]) (hₚ := gc_h sh I53 J A) (C := (True ∧ True)) rfl ⟨trivial, trivial⟩ ?_
  refine gv_get hD rfl rfl S_1 ⟨by decide, (gz_sh B_1)⟩ (gc_hA S_1 rfl A_1_19) ?_
  show gv_X _ _ (47, [(0, .inr (.inr (some 1)))], [.inr (.inr (some 21)), .inr (.inr (some 8))], sh, gc_h sh I53 J A)
  refine gv_run 1 true hD (pcₚ := 48) (lvₚ := [(0, .inr (.inr (some 1)))]) (stₚ := [.inl 3, .inr (.inr (some 21)), .inr (.inr (some 8))]) (hₚ := gc_h sh I53 J A) (C := (True ∧ True)) rfl ⟨trivial, trivial⟩ ?_
  refine gv_iald hD rfl S_21 rfl ⟨by decide, (gz_sh B_21)⟩ ⟨by (/-12-/first | omega | (simp only [gz_hd] at *; omega)), by (/-13-/first | omega | (simp only [gz_hd] at *; omega))⟩ (gc_iI S_21 rfl) ?_
  show gv_X _ _ (49, [(0, .inr (.inr (some 1)))], [.inl (I53 21 3), .inr (.inr (some 8))], sh, gc_h sh I53 J A)
  refine gv_put hD rfl rfl S_8 ⟨by decide, (gz_sh B_8)⟩ rfl trivial ?_
  refine gc_st (k := 1) hI53 S_8 rfl (gz_sh R_8) (lo := 0) (hi := 8) rfl rfl (by (/-14-/first | (have o1 := gz_sh t24; have o2 := gz_sh t41; have o3 := gz_sh t58; omega) | (simp only [gz_hd] at *; omega))) (by (/-15-/first | (have o1 := gz_sh t24; have o2 := gz_sh t41; have o3 := gz_sh t58; omega) | (simp only [gz_hd] at *; omega))) (fun I70 hI70 q71 p71 => ?_)
  have FI70 := gc_frs (W := fun q j => (q = 2 ∧ j = 1) ∨ (q = 4 ∧ j = 1) ∨ (q = 6 ∧ j = 1) ∨ (q = 8 ∧ j = 1) ∨ (q = 1 ∧ j = 13) ∨ (q = 1 ∧ j = 17) ∨ (q = 1 ∧ j = 5)) FI53 (Or.inr (Or.inr (Or.inr (Or.inl ⟨rfl, rfl⟩)))) p71
  have t72 := gz_hi (p71 21 0 (fun h => absurd h.2 (by first | exact gz_ne rfl | decide)))
  have t73 := gz_hi (p71 21 1 (fun h => absurd h.1 (by first | exact gz_ne rfl | decide)))
  have t74 := gz_hi (p71 21 2 (fun h => absurd h.2 (by first | exact gz_ne rfl | decide)))
  have t75 := gz_hi (p71 21 3 (fun h => absurd h.2 (by first | exact gz_ne rfl | decide)))
  have t76 := gz_hi (p71 21 4 (fun h => absurd h.2 (by first | exact gz_ne rfl | decide)))
  have t77 := gz_hi (p71 21 5 (fun h => absurd h.2 (by first | exact gz_ne rfl | decide)))
  have t78 := gz_hi (p71 21 6 (fun h => absurd h.2 (by first | exact gz_ne rfl | decide)))
  have t79 := gz_hi (p71 2 1 (fun h => absurd h.1 (by first | exact gz_ne rfl | decide)))
  have t80 := gz_hi (p71 4 1 (fun h => absurd h.1 (by first | exact gz_ne rfl | decide)))
  have t81 := gz_hi (p71 6 1 (fun h => absurd h.1 (by first | exact gz_ne rfl | decide)))
  show gv_X _ _ (52, [(0, .inr (.inr (some 1)))], [], sh, gc_h sh I70 J A)
  refine gv_run 2 true hD (pcₚ := 54) (lvₚ := [(0, .inr (.inr (some 1)))]) (stₚ := [.inr (.inr (some 1)), .inr (.inr (some 1))]) (hₚ := gc_h sh I70 J A) (C := ((True ∧ True) ∧ True)) rfl ⟨⟨trivial, trivial⟩, trivial⟩ ?_
  refine gv_get hD rfl rfl S_1 ⟨by decide, (gz_sh B_1)⟩ (gc_hA S_1 rfl A_1_19) ?_
  show gv_X _ _ (57, [(0, .inr (.inr (some 1)))], [.inr (.inr (some 21)), .inr (.inr (some 1))], sh, gc_h sh I70 J A)
  refine gv_run 1 true hD (pcₚ := 58) (lvₚ := [(0, .inr (.inr (some 1)))]) (stₚ := [.inl 4, .inr (.inr (some 21)), .inr (.inr (some 1))]) (hₚ := gc_h sh I70 J A) (C := (True ∧ True)) rfl ⟨trivial, trivial⟩ ?_
  refine gv_iald hD rfl S_21 rfl ⟨by decide, (gz_sh B_21)⟩ ⟨by (/-16-/first | omega | (simp only [gz_hd] at *; omega)), by (/-17-/first | omega | (simp only [gz_hd] at *; omega))⟩ (gc_iI S_21 rfl) ?_
  show gv_X _ _ (59, [(0, .inr (.inr (some 1)))], [.inl (I70 21 4), .inr (.inr (some 1))], sh, gc_h sh I70 J A)
  refine gv_put hD rfl rfl S_1 ⟨by decide, (gz_sh B_1)⟩ rfl trivial ?_
  refine gc_st (k := 13) hI70 S_1 rfl (gz_sh R_1) (lo := 0) (hi := 64) rfl rfl (by (/-18-/first | (have o1 := gz_sh t25; have o2 := gz_sh t42; have o3 := gz_sh t59; have o4 := gz_sh t76; omega) | (simp only [gz_hd] at *; omega))) (by (/-19-/first | (have o1 := gz_sh t25; have o2 := gz_sh t42; have o3 := gz_sh t59; have o4 := gz_sh t76; omega) | (simp only [gz_hd] at *; omega))) (fun I87 hI87 q88 p88 => ?_)
  have FI87 := gc_frs (W := fun q j => (q = 2 ∧ j = 1) ∨ (q = 4 ∧ j = 1) ∨ (q = 6 ∧ j = 1) ∨ (q = 8 ∧ j = 1) ∨ (q = 1 ∧ j = 13) ∨ (q = 1 ∧ j = 17) ∨ (q = 1 ∧ j = 5)) FI70 (Or.inr (Or.inr (Or.inr (Or.inr (Or.inl ⟨rfl, rfl⟩))))) p88
  have t89 := gz_hi (p88 21 0 (fun h => absurd h.2 (by first | exact gz_ne rfl | decide)))
  have t90 := gz_hi (p88 21 1 (fun h => absurd h.2 (by first | exact gz_ne rfl | decide)))
  have t91 := gz_hi (p88 21 2 (fun h => absurd h.2 (by first | exact gz_ne rfl | decide)))
  have t92 := gz_hi (p88 21 3 (fun h => absurd h.2 (by first | exact gz_ne rfl | decide)))
  have t93 := gz_hi (p88 21 4 (fun h => absurd h.2 (by first | exact gz_ne rfl | decide)))
  have t94 := gz_hi (p88 21 5 (fun h => absurd h.2 (by first | exact gz_ne rfl | decide)))
  have t95 := gz_hi (p88 21 6 (fun h => absurd h.2 (by first | exact gz_ne rfl | decide)))
  have t96 := gz_hi (p88 2 1 (fun h => absurd h.2 (by first | exact gz_ne rfl | decide)))
  have t97 := gz_hi (p88 4 1 (fun h => absurd h.2 (by first | exact gz_ne rfl | decide)))
  have t98 := gz_hi (p88 6 1 (fun h => absurd h.2 (by first | exact gz_ne rfl | decide)))
  have t99 := gz_hi (p88 8 1 (fun h => absurd h.2 (by first | exact gz_ne rfl | decide)))
  show gv_X _ _ (62, [(0, .inr (.inr (some 1)))], [], sh, gc_h sh I87 J A)
  refine gv_run 2 true hD (pcₚ := 64) (lvₚ := [(0, .inr (.inr (some 1)))]) (stₚ := [.inr (.inr (some 1)), .inr (.inr (some 1))]) (hₚ := gc_h sh I87 J A) (C := ((True ∧ True) ∧ True)) rfl ⟨⟨trivial, trivial⟩, trivial⟩ ?_
  refine gv_get hD rfl rfl S_1 ⟨by decide, (gz_sh B_1)⟩ (gc_hA S_1 rfl A_1_19) ?_
  show gv_X _ _ (67, [(0, .inr (.inr (some 1)))], [.inr (.inr (some 21)), .inr (.inr (some 1))], sh, gc_h sh I87 J A)
  refine gv_run 1 true hD (pcₚ := 68) (lvₚ := [(0, .inr (.inr (some 1)))]) (stₚ := [.inl 5, .inr (.inr (some 21)), .inr (.inr (some 1))]) (hₚ := gc_h sh I87 J A) (C := (True ∧ True)) rfl ⟨trivial, trivial⟩ ?_
  refine gv_iald hD rfl S_21 rfl ⟨by decide, (gz_sh B_21)⟩ ⟨by (/-20-/first | omega | (simp only [gz_hd] at *; omega)), by (/-21-/first | omega | (simp only [gz_hd] at *; omega))⟩ (gc_iI S_21 rfl) ?_
  show gv_X _ _ (69, [(0, .inr (.inr (some 1)))], [.inl (I87 21 5), .inr (.inr (some 1))], sh, gc_h sh I87 J A)
  refine gv_put hD rfl rfl S_1 ⟨by decide, (gz_sh B_1)⟩ rfl trivial ?_
  refine gc_st (k := 17) hI87 S_1 rfl (gz_sh R_1) (lo := 0) (hi := 12000) rfl rfl (by (/-22-/first | (have o1 := gz_sh t26; have o2 := gz_sh t43; have o3 := gz_sh t60; have o4 := gz_sh t77; have o5 := gz_sh t94; omega) | (simp only [gz_hd] at *; omega))) (by (/-23-/first | (have o1 := gz_sh f6; have o2 := gz_sh t26; have o3 := gz_sh t43; have o4 := gz_sh t60; have o5 := gz_sh t77; have o6 := gz_sh t94; omega) | (simp only [gz_hd] at *; omega))) (fun I104 hI104 q105 p105 => ?_)
  have FI104 := gc_frs (W := fun q j => (q = 2 ∧ j = 1) ∨ (q = 4 ∧ j = 1) ∨ (q = 6 ∧ j = 1) ∨ (q = 8 ∧ j = 1) ∨ (q = 1 ∧ j = 13) ∨ (q = 1 ∧ j = 17) ∨ (q = 1 ∧ j = 5)) FI87 (Or.inr (Or.inr (Or.inr (Or.inr (Or.inr (Or.inl ⟨rfl, rfl⟩)))))) p105
  have t106 := gz_hi (p105 21 0 (fun h => absurd h.2 (by first | exact gz_ne rfl | decide)))
  have t107 := gz_hi (p105 21 1 (fun h => absurd h.2 (by first | exact gz_ne rfl | decide)))
  have t108 := gz_hi (p105 21 2 (fun h => absurd h.2 (by first | exact gz_ne rfl | decide)))
  have t109 := gz_hi (p105 21 3 (fun h => absurd h.2 (by first | exact gz_ne rfl | decide)))
  have t110 := gz_hi (p105 21 4 (fun h => absurd h.2 (by first | exact gz_ne rfl | decide)))
  have t111 := gz_hi (p105 21 5 (fun h => absurd h.2 (by first | exact gz_ne rfl | decide)))
  have t112 := gz_hi (p105 21 6 (fun h => absurd h.2 (by first | exact gz_ne rfl | decide)))
  have t113 := gz_hi (p105 2 1 (fun h => absurd h.2 (by first | exact gz_ne rfl | decide)))
  have t114 := gz_hi (p105 4 1 (fun h => absurd h.2 (by first | exact gz_ne rfl | decide)))
  have t115 := gz_hi (p105 6 1 (fun h => absurd h.2 (by first | exact gz_ne rfl | decide)))
  have t116 := gz_hi (p105 8 1 (fun h => absurd h.2 (by first | exact gz_ne rfl | decide)))
  have t117 := gz_hi (p105 1 13 (fun h => absurd h.2 (by first | exact gz_ne rfl | decide)))
  show gv_X _ _ (72, [(0, .inr (.inr (some 1)))], [], sh, gc_h sh I104 J A)
  refine gv_run 2 true hD (pcₚ := 74) (lvₚ := [(0, .inr (.inr (some 1)))]) (stₚ := [.inr (.inr (some 1)), .inr (.inr (some 1))]) (hₚ := gc_h sh I104 J A) (C := ((True ∧ True) ∧ True)) rfl ⟨⟨trivial, trivial⟩, trivial⟩ ?_
  refine gv_get hD rfl rfl S_1 ⟨by decide, (gz_sh B_1)⟩ (gc_hA S_1 rfl A_1_19) ?_
  show gv_X _ _ (77, [(0, .inr (.inr (some 1)))], [.inr (.inr (some 21)), .inr (.inr (some 1))], sh, gc_h sh I104 J A)
  refine gv_run 1 true hD (pcₚ := 79) (lvₚ := [(0, .inr (.inr (some 1)))]) (stₚ := [.inl 6, .inr (.inr (some 21)), .inr (.inr (some 1))]) (hₚ := gc_h sh I104 J A) (C := (True ∧ True)) rfl ⟨trivial, trivial⟩ ?_
  refine gv_iald hD rfl S_21 rfl ⟨by decide, (gz_sh B_21)⟩ ⟨by (/-24-/first | omega | (simp only [gz_hd] at *; omega)), by (/-25-/first | omega | (simp only [gz_hd] at *; omega))⟩ (gc_iI S_21 rfl) ?_
  show gv_X _ _ (80, [(0, .inr (.inr (some 1)))], [.inl (I104 21 6), .inr (.inr (some 1))], sh, gc_h sh I104 J A)
  refine gv_put hD rfl rfl S_1 ⟨by decide, (gz_sh B_1)⟩ rfl trivial ?_
  refine gc_st (k := 5) hI104 S_1 rfl (gz_sh R_1) (lo := (-1)) (hi := 7) rfl rfl (by (/-26-/first | (have o1 := gz_sh t112; have o2 := gz_sh t27; have o3 := gz_sh t44; have o4 := gz_sh t61; have o5 := gz_sh t78; have o6 := gz_sh t95; omega) | (simp only [gz_hd] at *; omega))) (by (/-27-/first | (have o1 := gz_sh t112; have o2 := gz_sh t27; have o3 := gz_sh t44; have o4 := gz_sh t61; have o5 := gz_sh t78; have o6 := gz_sh t95; omega) | (simp only [gz_hd] at *; omega))) (fun I121 hI121 q122 p122 => ?_)
  have FI121 := gc_frs (W := fun q j => (q = 2 ∧ j = 1) ∨ (q = 4 ∧ j = 1) ∨ (q = 6 ∧ j = 1) ∨ (q = 8 ∧ j = 1) ∨ (q = 1 ∧ j = 13) ∨ (q = 1 ∧ j = 17) ∨ (q = 1 ∧ j = 5)) FI104 (Or.inr (Or.inr (Or.inr (Or.inr (Or.inr (Or.inr ⟨rfl, rfl⟩)))))) p122
  have t123 := gz_hi (p122 21 0 (fun h => absurd h.2 (by first | exact gz_ne rfl | decide)))
  have t124 := gz_hi (p122 21 1 (fun h => absurd h.2 (by first | exact gz_ne rfl | decide)))
  have t125 := gz_hi (p122 21 2 (fun h => absurd h.2 (by first | exact gz_ne rfl | decide)))
  have t126 := gz_hi (p122 21 3 (fun h => absurd h.2 (by first | exact gz_ne rfl | decide)))
  have t127 := gz_hi (p122 21 4 (fun h => absurd h.2 (by first | exact gz_ne rfl | decide)))
  have t128 := gz_hi (p122 21 5 (fun h => absurd h.1 (by first | exact gz_ne rfl | decide)))
  have t130 := gz_hi (p122 2 1 (fun h => absurd h.2 (by first | exact gz_ne rfl | decide)))
  have t131 := gz_hi (p122 4 1 (fun h => absurd h.2 (by first | exact gz_ne rfl | decide)))
  have t132 := gz_hi (p122 6 1 (fun h => absurd h.2 (by first | exact gz_ne rfl | decide)))
  have t133 := gz_hi (p122 8 1 (fun h => absurd h.2 (by first | exact gz_ne rfl | decide)))
  have t134 := gz_hi (p122 1 13 (fun h => absurd h.2 (by first | exact gz_ne rfl | decide)))
  have t135 := gz_hi (p122 1 17 (fun h => absurd h.2 (by first | exact gz_ne rfl | decide)))
  show gv_X _ _ (83, [(0, .inr (.inr (some 1)))], [], sh, gc_h sh I121 J A)
  refine gv_run 2 true hD (pcₚ := 85) (lvₚ := [(1, .inl 0), (0, .inr (.inr (some 1)))]) (stₚ := []) (hₚ := gc_h sh I121 J A) (C := ((True ∧ True) ∧ True)) rfl ⟨⟨trivial, trivial⟩, trivial⟩ ?_
  refine gv_pick [1, 0] rfl ?_
  exact L85 I121 J 0 hI121 FI121 FJ (by (/-28-/first | (and_intros; (omega); (omega); (omega); (have o1 := gz_sh t113; have o2 := gz_sh t130; have o3 := gz_sh t45; have o4 := gz_sh t62; have o5 := gz_sh t79; have o6 := gz_sh t96; omega); (have o1 := gz_sh t114; have o2 := gz_sh t131; have o3 := gz_sh t22; have o4 := gz_sh t63; have o5 := gz_sh t80; have o6 := gz_sh t97; omega); (have o1 := gz_sh t115; have o2 := gz_sh t132; have o3 := gz_sh t23; have o4 := gz_sh t40; have o5 := gz_sh t81; have o6 := gz_sh t98; omega); (have o1 := gz_sh t116; have o2 := gz_sh t133; have o3 := gz_sh t24; have o4 := gz_sh t41; have o5 := gz_sh t58; have o6 := gz_sh t99; omega); (have o1 := gz_sh t117; have o2 := gz_sh t134; have o3 := gz_sh t25; have o4 := gz_sh t42; have o5 := gz_sh t59; have o6 := gz_sh t76; omega); (have o1 := gz_sh t135; have o2 := gz_sh t26; have o3 := gz_sh t43; have o4 := gz_sh t60; have o5 := gz_sh t77; have o6 := gz_sh t94; omega); (have o1 := gz_sh t112; have o2 := gz_sh t27; have o3 := gz_sh t44; have o4 := gz_sh t61; have o5 := gz_sh t78; have o6 := gz_sh t95; omega)) | (simp only [gz_hd] at *; omega)))
set_option maxHeartbeats 8000000 in
set_option maxRecDepth 100000 in
theorem d_X8_restore_c {ws0 : List Cond} {tb : String → gz_T} (hws : gc_Ws ws0) (htb : gc_tbs tb) (sh : gz_Sh) (ro : Nat → Nat) (I : gr_I) (J : gr_J) (A : gc_A) (hI : gc_Inv ro I) (a1 : Int) (hb : gc_Base sh ro A) (ha1 : 0 ≤ a1 ∧ a1 ≤ 8)  {Q : gz_S → Prop} (L96 : ((0 ≤ a1 ∧ a1 ≤ 7) ∧ (a1 < I 8 1)) → gv_X (gc_E8 ws0 tb 2 (yX8_restore, cX8_restore, 2, none) kX8_restore) Q (96, [(0, .inr (.inr (some 1))), (1, .inl a1)], [], sh, gc_h sh I J A)) (L122 : ((0 ≤ a1 ∧ a1 ≤ 8) ∧ (I 8 1 ≤ a1)) → gv_X (gc_E8 ws0 tb 2 (yX8_restore, cX8_restore, 2, none) kX8_restore) Q (122, [(0, .inr (.inr (some 1))), (1, .inl a1)], [], sh, gc_h sh I J A)) : gv_X (gc_E8 ws0 tb 2 (yX8_restore, cX8_restore, 2, none) kX8_restore) Q (85, [(0, .inr (.inr (some 1))), (1, .inl a1)], [], sh, gc_h sh I J A) := by
  have A_1_3 : A 1 3 = some 8 := gc_bA_1_3 hb
  have B_1 := gz_hi (show 1 < 1000000 from by decide)
  have B_8 := gz_hi (show 8 < 1000000 from by decide)
  have R_8 := gz_hi (show ro 8 = 6 from gc_bR_8 hb)
  have S_1 : sh[1]? = some (false, 8, 21) := gc_bS_1 hb
  have S_8 : sh[8]? = some (false, 4, 2) := gc_bS_8 hb
  have hD : gv_D (gc_E8 ws0 tb 2 (yX8_restore, cX8_restore, 2, none) kX8_restore) := gq_of oX8_restore
  have f1 := gz_hi ((gc_b_6_1 hI (gz_sh R_8)))
  refine gv_run 2 true hD (pcₚ := 87) (lvₚ := [(0, .inr (.inr (some 1))), (1, .inl a1)]) (stₚ := [.inr (.inr (some 1)), .inl a1]) (hₚ := gc_h sh I J A) (C := ((True ∧ True) ∧ True)) rfl ⟨⟨trivial, trivial⟩, trivial⟩ ?_
  refine gv_get hD rfl rfl S_1 ⟨by decide, (gz_sh B_1)⟩ (gc_hA S_1 rfl A_1_3) ?_
  show gv_X _ _ (90, [(0, .inr (.inr (some 1))), (1, .inl a1)], [.inr (.inr (some 8)), .inl a1], sh, gc_h sh I J A)
  refine gv_get hD rfl rfl S_8 ⟨by decide, (gz_sh B_8)⟩ (gc_hI S_8 rfl) ?_
  show gv_X _ _ (93, [(0, .inr (.inr (some 1))), (1, .inl a1)], [.inl (I 8 1), .inl a1], sh, gc_h sh I J A)
  refine gv_icmp_ge (t := 122) hD rfl rfl ⟨⟨by (/-0-/first | omega | (simp only [gz_hd] at *; omega)), by (/-1-/first | omega | (simp only [gz_hd] at *; omega))⟩, ⟨by (/-2-/first | (have o1 := gz_sh f1; omega) | (simp only [gz_hd] at *; omega)), by (/-3-/first | (have o1 := gz_sh f1; omega) | (simp only [gz_hd] at *; omega))⟩⟩ (fun c5 => ?_) (fun c5 => ?_)
  · show gv_X _ _ (122, [(0, .inr (.inr (some 1))), (1, .inl a1)], [], sh, gc_h sh I J A)
    exact L122 (by (/-4-/first | (and_intros <;> omega) | (simp only [gz_hd] at *; omega)))
  · show gv_X _ _ (96, [(0, .inr (.inr (some 1))), (1, .inl a1)], [], sh, gc_h sh I J A)
    exact L96 (by (/-5-/first | (and_intros; (omega); (have o1 := gz_sh f1; omega); (omega)) | (simp only [gz_hd] at *; omega)))
set_option maxHeartbeats 8000000 in
set_option maxRecDepth 100000 in
theorem d_X8_restore_b {ws0 : List Cond} {tb : String → gz_T} (hws : gc_Ws ws0) (htb : gc_tbs tb) (sh : gz_Sh) (ro : Nat → Nat) (I : gr_I) (J : gr_J) (A : gc_A) (hI : gc_Inv ro I) (t : Nat) (a1 : Int) (hb : gc_Base sh ro A) (h_t : gc_isTongue sh ro A t) (G_t : 144 ≤ t) (ha1 : 0 ≤ a1 ∧ a1 ≤ 7) (x0 : A 10 (Int.toNat a1) = some t) (x1 : 0 ≤ I 21 (Int.toNat (7 + (a1 * 7))) ∧ I 21 (Int.toNat (7 + (a1 * 7))) ≤ 8) (x2 : 0 ≤ I 21 (Int.toNat ((7 + (a1 * 7)) + 1)) ∧ I 21 (Int.toNat ((7 + (a1 * 7)) + 1)) ≤ 48) (x3 : 0 ≤ I 21 (Int.toNat ((7 + (a1 * 7)) + 2)) ∧ I 21 (Int.toNat ((7 + (a1 * 7)) + 2)) ≤ 16) (x4 : 0 ≤ I 21 (Int.toNat ((7 + (a1 * 7)) + 3)) ∧ I 21 (Int.toNat ((7 + (a1 * 7)) + 3)) ≤ 24) (x5 : 0 ≤ I 21 (Int.toNat ((7 + (a1 * 7)) + 4)) ∧ I 21 (Int.toNat ((7 + (a1 * 7)) + 4)) ≤ 24) (x6 : 0 ≤ I 21 (Int.toNat ((7 + (a1 * 7)) + 5)) ∧ I 21 (Int.toNat ((7 + (a1 * 7)) + 5)) ≤ 64) (x7 : 0 ≤ I 21 (Int.toNat ((7 + (a1 * 7)) + 6)) ∧ I 21 (Int.toNat ((7 + (a1 * 7)) + 6)) ≤ 384) {Q : gz_S → Prop} (L85 : ∀ (I1 : gr_I) (J2 : gr_J) (v1_3 : Int), gc_Inv ro I1 → (∀ q j : Nat, ((q = (t + 1) ∧ j = 1) ∨ (q = (t + 3) ∧ j = 1) ∨ (q = (t + 7) ∧ j = 1) ∨ (q = t ∧ j = 6) ∨ (q = (t + 11) ∧ j = 1) ∨ (q = t ∧ j = 11) ∨ (q = t ∧ j = 13)) ∨ I1 q j = I q j) → (∀ q j : Nat, (False) ∨ J2 q j = J q j) → ((1 ≤ v1_3 ∧ v1_3 ≤ 8) ∧ (v1_3 = a1 + 1) ∧ (I1 (t + 1) 1 = I 21 (Int.toNat (7 + (a1 * 7)))) ∧ (I1 (t + 3) 1 = I 21 (Int.toNat ((7 + (a1 * 7)) + 1))) ∧ (I1 (t + 7) 1 = I 21 (Int.toNat ((7 + (a1 * 7)) + 2))) ∧ (I1 t 6 = I 21 (Int.toNat ((7 + (a1 * 7)) + 3))) ∧ (I1 (t + 11) 1 = I 21 (Int.toNat ((7 + (a1 * 7)) + 4))) ∧ (I1 t 11 = I 21 (Int.toNat ((7 + (a1 * 7)) + 5))) ∧ (I1 t 13 = I 21 (Int.toNat ((7 + (a1 * 7)) + 6)))) → gv_X (gc_E8 ws0 tb 2 (yX8_restore, cX8_restore, 2, none) kX8_restore) Q (85, [(0, .inr (.inr (some 1))), (1, .inl v1_3)], [], sh, gc_h sh I1 J2 A)) : gv_X (gc_E8 ws0 tb 2 (yX8_restore, cX8_restore, 2, none) kX8_restore) Q (96, [(0, .inr (.inr (some 1))), (1, .inl a1)], [], sh, gc_h sh I J A) := by
  have FI : ∀ q j : Nat, ((q = (t + 1) ∧ j = 1) ∨ (q = (t + 3) ∧ j = 1) ∨ (q = (t + 7) ∧ j = 1) ∨ (q = t ∧ j = 6) ∨ (q = (t + 11) ∧ j = 1) ∨ (q = t ∧ j = 11) ∨ (q = t ∧ j = 13)) ∨ I q j = I q j := fun _ _ => Or.inr rfl
  have FJ : ∀ q j : Nat, (False) ∨ J q j = J q j := fun _ _ => Or.inr rfl
  have A_1_19 : A 1 19 = some 21 := gc_bA_1_19 hb
  have A_1_4 : A 1 4 = some 10 := gc_bA_1_4 hb
  have B_1 := gz_hi (show 1 < 1000000 from by decide)
  have B_10 := gz_hi (show 10 < 1000000 from by decide)
  have B_21 := gz_hi (show 21 < 1000000 from by decide)
  have R_21 := gz_hi (show ro 21 = 70 from gc_bR_21 hb)
  have S_1 : sh[1]? = some (false, 8, 21) := gc_bS_1 hb
  have S_10 : sh[10]? = some (true, 5, 8) := gc_bS_10 hb
  have S_21 : sh[21]? = some (true, 1, 159) := gc_bS_21 hb
  obtain ⟨S_t, R_t, B_t, A_t_0, h_t_1, A_t_1, h_t_3, A_t_2, S_t_5, R_t_5, B_t_5, A_t_3, S_t_6, R_t_6, B_t_6, A_t_4, h_t_7, A_t_5, S_t_9, R_t_9, B_t_9, A_t_7, S_t_10, R_t_10, B_t_10, A_t_8, h_t_11, A_t_9, S_t_13, R_t_13, B_t_13, A_t_10, S_t_14, R_t_14, B_t_14, A_t_12, S_t_15, R_t_15, B_t_15, A_t_14, S_t_16, R_t_16, B_t_16, A_t_15, h_t_17⟩ := id h_t
  replace R_t := gz_hi R_t
  replace B_t := gz_hi B_t
  replace R_t_5 := gz_hi R_t_5
  replace B_t_5 := gz_hi B_t_5
  replace R_t_6 := gz_hi R_t_6
  replace B_t_6 := gz_hi B_t_6
  replace R_t_9 := gz_hi R_t_9
  replace B_t_9 := gz_hi B_t_9
  replace R_t_10 := gz_hi R_t_10
  replace B_t_10 := gz_hi B_t_10
  replace R_t_13 := gz_hi R_t_13
  replace B_t_13 := gz_hi B_t_13
  replace R_t_14 := gz_hi R_t_14
  replace B_t_14 := gz_hi B_t_14
  replace R_t_15 := gz_hi R_t_15
  replace B_t_15 := gz_hi B_t_15
  replace R_t_16 := gz_hi R_t_16
  replace B_t_16 := gz_hi B_t_16
  obtain ⟨S_t_1, R_t_1, B_t_1, A_t_1_0, S_t_1_1, R_t_1_1, B_t_1_1, Q0_t_1, Q1_t_1, Q2_t_1⟩ := id h_t_1
  replace R_t_1 := gz_hi R_t_1
  replace B_t_1 := gz_hi B_t_1
  replace R_t_1_1 := gz_hi R_t_1_1
  replace B_t_1_1 := gz_hi B_t_1_1
  obtain ⟨S_t_3, R_t_3, B_t_3, A_t_3_0, S_t_3_1, R_t_3_1, B_t_3_1, Q0_t_3, Q1_t_3, Q2_t_3⟩ := id h_t_3
  replace R_t_3 := gz_hi R_t_3
  replace B_t_3 := gz_hi B_t_3
  replace R_t_3_1 := gz_hi R_t_3_1
  replace B_t_3_1 := gz_hi B_t_3_1
  obtain ⟨S_t_7, R_t_7, B_t_7, A_t_7_0, S_t_7_1, R_t_7_1, B_t_7_1, Q0_t_7, Q1_t_7, Q2_t_7⟩ := id h_t_7
  replace R_t_7 := gz_hi R_t_7
  replace B_t_7 := gz_hi B_t_7
  replace R_t_7_1 := gz_hi R_t_7_1
  replace B_t_7_1 := gz_hi B_t_7_1
  obtain ⟨S_t_11, R_t_11, B_t_11, A_t_11_0, S_t_11_1, R_t_11_1, B_t_11_1, Q0_t_11, Q1_t_11, Q2_t_11⟩ := id h_t_11
  replace R_t_11 := gz_hi R_t_11
  replace B_t_11 := gz_hi B_t_11
  replace R_t_11_1 := gz_hi R_t_11_1
  replace B_t_11_1 := gz_hi B_t_11_1
  obtain ⟨S_t_17, R_t_17, B_t_17, A_t_17_0, S_20, R_20, B_20, A_t_17_1, S_t_17_1, R_t_17_1, B_t_17_1, A_t_17_2, S_t_17_2, R_t_17_2, B_t_17_2, A_t_17_3, S_t_17_3, R_t_17_3, B_t_17_3, A_t_17_4, S_t_17_4, R_t_17_4, B_t_17_4, A_t_17_5, S_t_17_5, R_t_17_5, B_t_17_5, S_t_17_6, R_t_17_6, B_t_17_6, S_t_17_7, R_t_17_7, B_t_17_7⟩ := id h_t_17
  replace R_t_17 := gz_hi R_t_17
  replace B_t_17 := gz_hi B_t_17
  replace R_20 := gz_hi R_20
  replace B_20 := gz_hi B_20
  replace R_t_17_1 := gz_hi R_t_17_1
  replace B_t_17_1 := gz_hi B_t_17_1
  replace R_t_17_2 := gz_hi R_t_17_2
  replace B_t_17_2 := gz_hi B_t_17_2
  replace R_t_17_3 := gz_hi R_t_17_3
  replace B_t_17_3 := gz_hi B_t_17_3
  replace R_t_17_4 := gz_hi R_t_17_4
  replace B_t_17_4 := gz_hi B_t_17_4
  replace R_t_17_5 := gz_hi R_t_17_5
  replace B_t_17_5 := gz_hi B_t_17_5
  replace R_t_17_6 := gz_hi R_t_17_6
  replace B_t_17_6 := gz_hi B_t_17_6
  replace R_t_17_7 := gz_hi R_t_17_7
  replace B_t_17_7 := gz_hi B_t_17_7
  have hD : gv_D (gc_E8 ws0 tb 2 (yX8_restore, cX8_restore, 2, none) kX8_restore) := gq_of oX8_restore
  refine gv_run 1 true hD (pcₚ := 97) (lvₚ := [(0, .inr (.inr (some 1))), (1, .inl a1)]) (stₚ := [.inr (.inr (some 1))]) (hₚ := gc_h sh I J A) (C := (True ∧ True)) rfl ⟨trivial, trivial⟩ ?_
  refine gv_get hD rfl rfl S_1 ⟨by decide, (gz_sh B_1)⟩ (gc_hA S_1 rfl A_1_4) ?_
  show gv_X _ _ (100, [(0, .inr (.inr (some 1))), (1, .inl a1)], [.inr (.inr (some 10))], sh, gc_h sh I J A)
  refine gv_run 1 true hD (pcₚ := 101) (lvₚ := [(0, .inr (.inr (some 1))), (1, .inl a1)]) (stₚ := [.inl a1, .inr (.inr (some 10))]) (hₚ := gc_h sh I J A) (C := (True ∧ True)) rfl ⟨trivial, trivial⟩ ?_
  refine gv_aald hD rfl S_10 ⟨by decide, by decide⟩ ⟨by decide, (gz_sh B_10)⟩ ⟨by (/-0-/first | omega | (simp only [gz_hd] at *; omega)), by (/-1-/first | omega | (simp only [gz_hd] at *; omega))⟩ ((gc_aA S_10 rfl).trans x0) ?_
  show gv_X _ _ (102, [(0, .inr (.inr (some 1))), (1, .inl a1)], [.inr (.inr (some t))], sh, gc_h sh I J A)
  refine gv_run 1 true hD (pcₚ := 103) (lvₚ := [(0, .inr (.inr (some 1))), (1, .inl a1)]) (stₚ := [.inr (.inr (some 1)), .inr (.inr (some t))]) (hₚ := gc_h sh I J A) (C := (True ∧ True)) rfl ⟨trivial, trivial⟩ ?_
  refine gv_get hD rfl rfl S_1 ⟨by decide, (gz_sh B_1)⟩ (gc_hA S_1 rfl A_1_19) ?_
  show gv_X _ _ (106, [(0, .inr (.inr (some 1))), (1, .inl a1)], [.inr (.inr (some 21)), .inr (.inr (some t))], sh, gc_h sh I J A)
  refine gv_run 5 true hD (pcₚ := 113) (lvₚ := [(0, .inr (.inr (some 1))), (1, .inl a1)]) (stₚ := [.inl (7 + (a1 * 7)), .inr (.inr (some 21)), .inr (.inr (some t))]) (hₚ := gc_h sh I J A) (C := (((((True ∧ True) ∧ True) ∧ True) ∧ True) ∧ True)) rfl ⟨⟨⟨⟨⟨trivial, trivial⟩, trivial⟩, trivial⟩, trivial⟩, trivial⟩ ?_
  obtain ⟨r5, h5, E5, P5⟩ := d_X11_loadSizes (ws0 := ws0) (tb := tb) hws htb sh ro I J A hI t 159 21 ((7 + (a1 * 7))) h_t S_21 (gz_sh R_21) (gz_sh B_21) (by decide)  ⟨by (/-2-/first | omega | (simp only [gz_hd] at *; omega)), by (/-3-/first | omega | (simp only [gz_hd] at *; omega))⟩ (by (/-4-/first | omega | (simp only [gz_hd] at *; omega))) (by (/-5-/first | omega | (simp only [gz_hd] at *; omega))) (by (/-6-/first | omega | (simp only [gz_hd] at *; omega))) (by (/-7-/first | omega | (simp only [gz_hd] at *; omega))) (by (/-8-/first | omega | (simp only [gz_hd] at *; omega))) (by (/-9-/first | omega | (simp only [gz_hd] at *; omega))) (by (/-10-/first | omega | (simp only [gz_hd] at *; omega))) (by (/-11-/first | omega | (simp only [gz_hd] at *; omega))) (by (/-12-/first | omega | (simp only [gz_hd] at *; omega))) (by (/-13-/first | omega | (simp only [gz_hd] at *; omega))) 
  obtain ⟨I6, J7, rfl, hI6, g5, k5, ⟨rfl, q5⟩⟩ := P5
  replace q5 := gz_hi q5
  have FI6 := gc_frc (W := fun q j => (q = (t + 1) ∧ j = 1) ∨ (q = (t + 3) ∧ j = 1) ∨ (q = (t + 7) ∧ j = 1) ∨ (q = t ∧ j = 6) ∨ (q = (t + 11) ∧ j = 1) ∨ (q = t ∧ j = 11) ∨ (q = t ∧ j = 13)) (V := fun q j => (q = (t + 1) ∧ j = 1) ∨ (q = (t + 3) ∧ j = 1) ∨ (q = (t + 7) ∧ j = 1) ∨ (q = (t + 11) ∧ j = 1) ∨ (q = t ∧ j = 6) ∨ (q = t ∧ j = 11) ∨ (q = t ∧ j = 13)) FI (fun q j h => (h.elim (fun h => (Or.inl h)) (fun h => (h.elim (fun h => (Or.inr (Or.inl h))) (fun h => (h.elim (fun h => (Or.inr (Or.inr (Or.inl h)))) (fun h => (h.elim (fun h => (Or.inr (Or.inr (Or.inr (Or.inr (Or.inl h)))))) (fun h => (h.elim (fun h => (Or.inr (Or.inr (Or.inr (Or.inl h))))) (fun h => (h.elim (fun h => (Or.inr (Or.inr (Or.inr (Or.inr (Or.inr (Or.inl h))))))) (fun h => (Or.inr (Or.inr (Or.inr (Or.inr (Or.inr (Or.inr h))))))))))))))))))) g5
  obtain rfl : J = J7 := funext fun q => funext fun j => ((k5 q j).resolve_left id).symm
  refine gv_callV hD rfl (As := [.inr (.inr (some 21)), .inl (7 + (a1 * 7))]) (st := []) rfl (gz_sh B_t) S_t rfl (gc_lV8 hws rfl) (Nat.le_of_ble_eq_true rfl) (gz_Ev_mono (d := 1) (by decide) E5) ?_
  show gv_X _ _ (116, [(0, .inr (.inr (some 1))), (1, .inl a1)], [], sh, gc_h sh I6 J A)
  refine gv_run 2 true hD (pcₚ := 85) (lvₚ := [(1, .inl (a1 + 1)), (0, .inr (.inr (some 1)))]) (stₚ := []) (hₚ := gc_h sh I6 J A) (C := ((True ∧ True) ∧ True)) rfl ⟨⟨trivial, trivial⟩, trivial⟩ ?_
  refine gv_pick [1, 0] rfl ?_
  exact L85 I6 J (a1 + 1) hI6 FI6 FJ (by (/-14-/first | (and_intros; (omega); (omega); (omega); (have o1 := gz_sh q5; omega); (have o1 := gz_sh q5; omega); (have o1 := gz_sh q5; omega); (have o1 := gz_sh q5; omega); (have o1 := gz_sh q5; omega); (have o1 := gz_sh q5; omega); (have o1 := gz_sh q5; omega)) | (simp only [gz_hd] at *; omega)))
set_option maxHeartbeats 8000000 in
set_option maxRecDepth 100000 in
theorem d_X8_restore_t {ws0 : List Cond} {tb : String → gz_T} (hws : gc_Ws ws0) (htb : gc_tbs tb) (sh : gz_Sh) (ro : Nat → Nat) (I : gr_I) (J : gr_J) (A : gc_A) (hI : gc_Inv ro I) (a1 : Int) (hb : gc_Base sh ro A) (ha1 : 0 ≤ a1 ∧ a1 ≤ 8) (x0 : ∀ f : Nat, f < 96 → 0 ≤ I 21 (63 + f) ∧ I 21 (63 + f) ≤ 40)  : gv_X (gc_E8 ws0 tb 2 (yX8_restore, cX8_restore, 2, none) kX8_restore) (gv_Q cX8_restore none sh (fun r hₚ => (∃ (Iₚ : gr_I) (Jₚ : gr_J), hₚ = gc_h sh Iₚ Jₚ A ∧ gc_Inv ro Iₚ ∧ (∀ q j : Nat, (q = 15) ∨ Iₚ q j = I q j) ∧ (∀ q j : Nat, (False) ∨ Jₚ q j = J q j) ∧ r = none ∧ (∀ f : Nat, f < 96 → Iₚ 15 f = I 21 (63 + f))))) (122, [(0, .inr (.inr (some 1))), (1, .inl a1)], [], sh, gc_h sh I J A) := by
  have FI : ∀ q j : Nat, (q = 15) ∨ I q j = I q j := fun _ _ => Or.inr rfl
  have FJ : ∀ q j : Nat, (False) ∨ J q j = J q j := fun _ _ => Or.inr rfl
  have A_1_10 : A 1 10 = some 15 := gc_bA_1_10 hb
  have A_1_19 : A 1 19 = some 21 := gc_bA_1_19 hb
  have B_1 := gz_hi (show 1 < 1000000 from by decide)
  have B_15 := gz_hi (show 15 < 1000000 from by decide)
  have B_21 := gz_hi (show 21 < 1000000 from by decide)
  have R_15 := gz_hi (show ro 15 = 28 from gc_bR_15 hb)
  have R_21 := gz_hi (show ro 21 = 70 from gc_bR_21 hb)
  have S_1 : sh[1]? = some (false, 8, 21) := gc_bS_1 hb
  have S_15 : sh[15]? = some (true, 1, 96) := gc_bS_15 hb
  have S_21 : sh[21]? = some (true, 1, 159) := gc_bS_21 hb
  have hD : gv_D (gc_E8 ws0 tb 2 (yX8_restore, cX8_restore, 2, none) kX8_restore) := gq_of oX8_restore
  refine gv_run 1 true hD (pcₚ := 123) (lvₚ := [(0, .inr (.inr (some 1))), (1, .inl a1)]) (stₚ := [.inr (.inr (some 1))]) (hₚ := gc_h sh I J A) (C := (True ∧ True)) rfl ⟨trivial, trivial⟩ ?_
  refine gv_get hD rfl rfl S_1 ⟨by decide, (gz_sh B_1)⟩ (gc_hA S_1 rfl A_1_19) ?_
  show gv_X _ _ (126, [(0, .inr (.inr (some 1))), (1, .inl a1)], [.inr (.inr (some 21))], sh, gc_h sh I J A)
  refine gv_run 2 true hD (pcₚ := 129) (lvₚ := [(0, .inr (.inr (some 1))), (1, .inl a1)]) (stₚ := [.inr (.inr (some 1)), .inl 63, .inr (.inr (some 21))]) (hₚ := gc_h sh I J A) (C := ((True ∧ True) ∧ True)) rfl ⟨⟨trivial, trivial⟩, trivial⟩ ?_
  refine gv_get hD rfl rfl S_1 ⟨by decide, (gz_sh B_1)⟩ (gc_hA S_1 rfl A_1_10) ?_
  show gv_X _ _ (132, [(0, .inr (.inr (some 1))), (1, .inl a1)], [.inr (.inr (some 15)), .inl 63, .inr (.inr (some 21))], sh, gc_h sh I J A)
  refine gv_run 2 true hD (pcₚ := 135) (lvₚ := [(0, .inr (.inr (some 1))), (1, .inl a1)]) (stₚ := [.inl 96, .inl 0, .inr (.inr (some 15)), .inl 63, .inr (.inr (some 21))]) (hₚ := gc_h sh I J A) (C := ((True ∧ True) ∧ True)) rfl ⟨⟨trivial, trivial⟩, trivial⟩ ?_
  refine gv_copy hD rfl (gc_lC8_95 hws) (Nat.le_of_ble_eq_true rfl) ⟨(gz_sh B_21), (gz_sh B_15)⟩ S_21 S_15 (by decide) ⟨by decide, by decide⟩ ⟨by (/-0-/first | omega | (simp only [gz_hd] at *; omega)), by (/-1-/first | omega | (simp only [gz_hd] at *; omega)), by (/-2-/first | omega | (simp only [gz_hd] at *; omega))⟩ (by (/-3-/first | omega | (simp only [gz_hd] at *; omega))) (by (/-4-/first | omega | (simp only [gz_hd] at *; omega))) (fun h => absurd h (by first | exact gz_ne rfl | decide)) ?_
  refine gc_cp hI S_21 S_15 (by decide) (fun j hj => by have h9 := x0 j (by (/-5-/first | omega | (simp only [gz_hd] at *; omega))); rw [show Int.toNat (63 : Int) + j = 63 + j from rfl, (gz_sh R_15)]; exact ⟨by show (0 : Int) ≤ _; (/-6-/first | omega | (simp only [gz_hd] at *; omega)), by show _ ≤ (40 : Int); (/-7-/first | omega | (simp only [gz_hd] at *; omega))⟩) (fun I2 hI2 p1 q1 => ?_)
  have FI2 := gc_frp (W := fun q j => q = 15) (V := fun q j => q = 15 ∧ Int.toNat 0 ≤ j ∧ j < Int.toNat 0 + Int.toNat 96) FI (fun q j h => h.1) p1
  show gv_X _ _ (138, [(0, .inr (.inr (some 1))), (1, .inl a1)], [], sh, gc_h sh I2 J A)
  exact gv_vret hD rfl ⟨I2, J, rfl, hI2, FI2, FJ, ⟨rfl, (fun f hf => by have h9 := q1 f (by (/-8-/first | omega | (simp only [gz_hd] at *; omega))); rw [show Int.toNat (0 : Int) + f = f from by (/-9-/first | omega | (simp only [gz_hd] at *; omega)), show Int.toNat (63 : Int) + f = 63 + f from rfl] at h9; exact h9)⟩⟩
