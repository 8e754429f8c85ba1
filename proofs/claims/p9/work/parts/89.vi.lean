set_option maxHeartbeats 8000000 in
set_option maxRecDepth 100000 in
theorem d_X11_forgetAll_w {ws0 : List Cond} {tb : String → gz_T} (hws : gc_Ws ws0) (htb : gc_tbs tb) (sh : gz_Sh) (ro : Nat → Nat) (I : gr_I) (J : gr_J) (A : gc_A) (hI : gc_Inv ro I) (p : Nat)  (hp : gc_isTongue sh ro A p)   : ∃ r hₚ, gz_Ev ws0 tb 1 (yX11_forgetAll, cX11_forgetAll, 1, none) [.inr (.inr (some p))] sh (gc_h sh I J A) r sh hₚ 0 0 ∧ (∃ (Iₚ : gr_I) (Jₚ : gr_J), hₚ = gc_h sh Iₚ Jₚ A ∧ gc_Inv ro Iₚ ∧ (∀ q j : Nat, ((q = (p + 1) ∧ j = 1) ∨ (q = (p + 3) ∧ j = 1) ∨ (q = (p + 7) ∧ j = 1) ∨ (q = (p + 11) ∧ j = 1) ∨ (q = p ∧ j = 6) ∨ (q = p ∧ j = 11) ∨ (q = p ∧ j = 13)) ∨ Iₚ q j = I q j) ∧ (∀ q j : Nat, (False) ∨ Jₚ q j = J q j) ∧ r = none ∧ (Iₚ (p + 1) 1 = 0) ∧ (Iₚ (p + 3) 1 = 0) ∧ (Iₚ (p + 7) 1 = 0) ∧ (Iₚ (p + 11) 1 = 0) ∧ (Iₚ p 6 = 0) ∧ (Iₚ p 11 = 0) ∧ (Iₚ p 13 = 0)) := by
  have FI : ∀ q j : Nat, ((q = (p + 1) ∧ j = 1) ∨ (q = (p + 3) ∧ j = 1) ∨ (q = (p + 7) ∧ j = 1) ∨ (q = (p + 11) ∧ j = 1) ∨ (q = p ∧ j = 6) ∨ (q = p ∧ j = 11) ∨ (q = p ∧ j = 13)) ∨ I q j = I q j := fun _ _ => Or.inr rfl
  have FJ : ∀ q j : Nat, (False) ∨ J q j = J q j := fun _ _ => Or.inr rfl
  obtain ⟨S_p, R_p, B_p, A_p_0, h_p_1, A_p_1, h_p_3, A_p_2, S_p_5, R_p_5, B_p_5, A_p_3, S_p_6, R_p_6, B_p_6, A_p_4, h_p_7, A_p_5, S_p_9, R_p_9, B_p_9, A_p_7, S_p_10, R_p_10, B_p_10, A_p_8, h_p_11, A_p_9, S_p_13, R_p_13, B_p_13, A_p_10, S_p_14, R_p_14, B_p_14, A_p_12, S_p_15, R_p_15, B_p_15, A_p_14, S_p_16, R_p_16, B_p_16, A_p_15, h_p_17⟩ := id hp
  replace R_p := gz_hi R_p
  replace B_p := gz_hi B_p
  replace R_p_5 := gz_hi R_p_5
  replace B_p_5 := gz_hi B_p_5
  replace R_p_6 := gz_hi R_p_6
  replace B_p_6 := gz_hi B_p_6
  replace R_p_9 := gz_hi R_p_9
  replace B_p_9 := gz_hi B_p_9
  replace R_p_10 := gz_hi R_p_10
  replace B_p_10 := gz_hi B_p_10
  replace R_p_13 := gz_hi R_p_13
  replace B_p_13 := gz_hi B_p_13
  replace R_p_14 := gz_hi R_p_14
  replace B_p_14 := gz_hi B_p_14
  replace R_p_15 := gz_hi R_p_15
  replace B_p_15 := gz_hi B_p_15
  replace R_p_16 := gz_hi R_p_16
  replace B_p_16 := gz_hi B_p_16
  obtain ⟨S_p_1, R_p_1, B_p_1, A_p_1_0, S_p_1_1, R_p_1_1, B_p_1_1, Q0_p_1, Q1_p_1, Q2_p_1⟩ := id h_p_1
  replace R_p_1 := gz_hi R_p_1
  replace B_p_1 := gz_hi B_p_1
  replace R_p_1_1 := gz_hi R_p_1_1
  replace B_p_1_1 := gz_hi B_p_1_1
  obtain ⟨S_p_3, R_p_3, B_p_3, A_p_3_0, S_p_3_1, R_p_3_1, B_p_3_1, Q0_p_3, Q1_p_3, Q2_p_3⟩ := id h_p_3
  replace R_p_3 := gz_hi R_p_3
  replace B_p_3 := gz_hi B_p_3
  replace R_p_3_1 := gz_hi R_p_3_1
  replace B_p_3_1 := gz_hi B_p_3_1
  obtain ⟨S_p_7, R_p_7, B_p_7, A_p_7_0, S_p_7_1, R_p_7_1, B_p_7_1, Q0_p_7, Q1_p_7, Q2_p_7⟩ := id h_p_7
  replace R_p_7 := gz_hi R_p_7
  replace B_p_7 := gz_hi B_p_7
  replace R_p_7_1 := gz_hi R_p_7_1
  replace B_p_7_1 := gz_hi B_p_7_1
  obtain ⟨S_p_11, R_p_11, B_p_11, A_p_11_0, S_p_11_1, R_p_11_1, B_p_11_1, Q0_p_11, Q1_p_11, Q2_p_11⟩ := id h_p_11
  replace R_p_11 := gz_hi R_p_11
  replace B_p_11 := gz_hi B_p_11
  replace R_p_11_1 := gz_hi R_p_11_1
  replace B_p_11_1 := gz_hi B_p_11_1
  obtain ⟨S_p_17, R_p_17, B_p_17, A_p_17_0, S_20, R_20, B_20, A_p_17_1, S_p_17_1, R_p_17_1, B_p_17_1, A_p_17_2, S_p_17_2, R_p_17_2, B_p_17_2, A_p_17_3, S_p_17_3, R_p_17_3, B_p_17_3, A_p_17_4, S_p_17_4, R_p_17_4, B_p_17_4, A_p_17_5, S_p_17_5, R_p_17_5, B_p_17_5, S_p_17_6, R_p_17_6, B_p_17_6, S_p_17_7, R_p_17_7, B_p_17_7⟩ := id h_p_17
  replace R_p_17 := gz_hi R_p_17
  replace B_p_17 := gz_hi B_p_17
  replace R_20 := gz_hi R_20
  replace B_20 := gz_hi B_20
  replace R_p_17_1 := gz_hi R_p_17_1
  replace B_p_17_1 := gz_hi B_p_17_1
  replace R_p_17_2 := gz_hi R_p_17_2
  replace B_p_17_2 := gz_hi B_p_17_2
  replace R_p_17_3 := gz_hi R_p_17_3
  replace B_p_17_3 := gz_hi B_p_17_3
  replace R_p_17_4 := gz_hi R_p_17_4
  replace B_p_17_4 := gz_hi B_p_17_4
  replace R_p_17_5 := gz_hi R_p_17_5
  replace B_p_17_5 := gz_hi B_p_17_5
  replace R_p_17_6 := gz_hi R_p_17_6
  replace B_p_17_6 := gz_hi B_p_17_6
  replace R_p_17_7 := gz_hi R_p_17_7
  replace B_p_17_7 := gz_hi B_p_17_7
  have hD : gv_D (gc_E11 ws0 tb 0 (yX11_forgetAll, cX11_forgetAll, 1, none) kX11_forgetAll) := gq_of oX11_forgetAll
  refine gc_ev11 (d := 0) (l := kX11_forgetAll) (Po := fun r hₚ => (∃ (Iₚ : gr_I) (Jₚ : gr_J), hₚ = gc_h sh Iₚ Jₚ A ∧ gc_Inv ro Iₚ ∧ (∀ q j : Nat, ((q = (p + 1) ∧ j = 1) ∨ (q = (p + 3) ∧ j = 1) ∨ (q = (p + 7) ∧ j = 1) ∨ (q = (p + 11) ∧ j = 1) ∨ (q = p ∧ j = 6) ∨ (q = p ∧ j = 11) ∨ (q = p ∧ j = 13)) ∨ Iₚ q j = I q j) ∧ (∀ q j : Nat, (False) ∨ Jₚ q j = J q j) ∧ r = none ∧ (Iₚ (p + 1) 1 = 0) ∧ (Iₚ (p + 3) 1 = 0) ∧ (Iₚ (p + 7) 1 = 0) ∧ (Iₚ (p + 11) 1 = 0) ∧ (Iₚ p 6 = 0) ∧ (Iₚ p 11 = 0) ∧ (Iₚ p 13 = 0))) htb rfl (Nat.le_of_ble_eq_true rfl) ?_
  have N_p_3__p_1 := gz_hi (show ¬ ((p + 3) = (p + 1)) from by (/-0-/first | omega | (simp only [gz_hd] at *; omega)))
  have N_p_7__p_1 := gz_hi (show ¬ ((p + 7) = (p + 1)) from by (/-1-/first | omega | (simp only [gz_hd] at *; omega)))
  have N_p_11__p_1 := gz_hi (show ¬ ((p + 11) = (p + 1)) from by (/-2-/first | omega | (simp only [gz_hd] at *; omega)))
  have N_p_1__p_3 := gz_hi (show ¬ ((p + 1) = (p + 3)) from by (/-3-/first | omega | (simp only [gz_hd] at *; omega)))
  have N_p_7__p_3 := gz_hi (show ¬ ((p + 7) = (p + 3)) from by (/-4-/first | omega | (simp only [gz_hd] at *; omega)))
  have N_p_11__p_3 := gz_hi (show ¬ ((p + 11) = (p + 3)) from by (/-5-/first | omega | (simp only [gz_hd] at *; omega)))
  have N_p_1__p_7 := gz_hi (show ¬ ((p + 1) = (p + 7)) from by (/-6-/first | omega | (simp only [gz_hd] at *; omega)))
  have N_p_3__p_7 := gz_hi (show ¬ ((p + 3) = (p + 7)) from by (/-7-/first | omega | (simp only [gz_hd] at *; omega)))
  have N_p_11__p_7 := gz_hi (show ¬ ((p + 11) = (p + 7)) from by (/-8-/first | omega | (simp only [gz_hd] at *; omega)))
  have N_p_1__p_11 := gz_hi (show ¬ ((p + 1) = (p + 11)) from by (/-9-/first | omega | (simp only [gz_hd] at *; omega)))
  have N_p_3__p_11 := gz_hi (show ¬ ((p + 3) = (p + 11)) from by (/-10-/first | omega | (simp only [gz_hd] at *; omega)))
  have N_p_7__p_11 := gz_hi (show ¬ ((p + 7) = (p + 11)) from by (/-11-/first | omega | (simp only [gz_hd] at *; omega)))
  refine gv_run 1 true hD (pcₚ := 1) (lvₚ := [(0, .inr (.inr (some p)))]) (stₚ := [.inr (.inr (some p))]) (hₚ := gc_h sh I J A) (C := (True ∧ True)) rfl ⟨trivial, trivial⟩ ?_
  refine gv_get hD rfl rfl S_p ⟨by decide, (gz_sh B_p)⟩ (gc_hA S_p rfl A_p_0) ?_
  show gv_X _ _ (4, [(0, .inr (.inr (some p)))], [.inr (.inr (some (p + 1)))], sh, gc_h sh I J A)
  refine gv_run 1 true hD (pcₚ := 5) (lvₚ := [(0, .inr (.inr (some p)))]) (stₚ := [.inl 0, .inr (.inr (some (p + 1)))]) (hₚ := gc_h sh I J A) (C := (True ∧ True)) rfl ⟨trivial, trivial⟩ ?_
  refine gv_put hD rfl rfl S_p_1 ⟨by decide, (gz_sh B_p_1)⟩ rfl trivial ?_
  refine gc_st (k := 1) hI S_p_1 rfl (gz_sh R_p_1) (lo := 0) (hi := 8) rfl rfl (by (/-12-/first | omega | (simp only [gz_hd] at *; omega))) (by (/-13-/first | omega | (simp only [gz_hd] at *; omega))) (fun I8 hI8 q9 p9 => ?_)
  have FI8 := gc_frs (W := fun q j => (q = (p + 1) ∧ j = 1) ∨ (q = (p + 3) ∧ j = 1) ∨ (q = (p + 7) ∧ j = 1) ∨ (q = (p + 11) ∧ j = 1) ∨ (q = p ∧ j = 6) ∨ (q = p ∧ j = 11) ∨ (q = p ∧ j = 13)) FI (Or.inl ⟨rfl, rfl⟩) p9
  show gv_X _ _ (8, [(0, .inr (.inr (some p)))], [], sh, gc_h sh I8 J A)
  refine gv_run 1 true hD (pcₚ := 9) (lvₚ := [(0, .inr (.inr (some p)))]) (stₚ := [.inr (.inr (some p))]) (hₚ := gc_h sh I8 J A) (C := (True ∧ True)) rfl ⟨trivial, trivial⟩ ?_
  refine gv_get hD rfl rfl S_p ⟨by decide, (gz_sh B_p)⟩ (gc_hA S_p rfl A_p_1) ?_
  show gv_X _ _ (12, [(0, .inr (.inr (some p)))], [.inr (.inr (some (p + 3)))], sh, gc_h sh I8 J A)
  refine gv_run 1 true hD (pcₚ := 13) (lvₚ := [(0, .inr (.inr (some p)))]) (stₚ := [.inl 0, .inr (.inr (some (p + 3)))]) (hₚ := gc_h sh I8 J A) (C := (True ∧ True)) rfl ⟨trivial, trivial⟩ ?_
  refine gv_put hD rfl rfl S_p_3 ⟨by decide, (gz_sh B_p_3)⟩ rfl trivial ?_
  refine gc_st (k := 1) hI8 S_p_3 rfl (gz_sh R_p_3) (lo := 0) (hi := 48) rfl rfl (by (/-14-/first | omega | (simp only [gz_hd] at *; omega))) (by (/-15-/first | omega | (simp only [gz_hd] at *; omega))) (fun I17 hI17 q18 p18 => ?_)
  have FI17 := gc_frs (W := fun q j => (q = (p + 1) ∧ j = 1) ∨ (q = (p + 3) ∧ j = 1) ∨ (q = (p + 7) ∧ j = 1) ∨ (q = (p + 11) ∧ j = 1) ∨ (q = p ∧ j = 6) ∨ (q = p ∧ j = 11) ∨ (q = p ∧ j = 13)) FI8 (Or.inr (Or.inl ⟨rfl, rfl⟩)) p18
  have t19 := gz_hi (p18 (p + 1) 1 (fun h => absurd h.1 (gz_sh N_p_1__p_3)))
  show gv_X _ _ (16, [(0, .inr (.inr (some p)))], [], sh, gc_h sh I17 J A)
  refine gv_run 1 true hD (pcₚ := 17) (lvₚ := [(0, .inr (.inr (some p)))]) (stₚ := [.inr (.inr (some p))]) (hₚ := gc_h sh I17 J A) (C := (True ∧ True)) rfl ⟨trivial, trivial⟩ ?_
  refine gv_get hD rfl rfl S_p ⟨by decide, (gz_sh B_p)⟩ (gc_hA S_p rfl A_p_4) ?_
  show gv_X _ _ (20, [(0, .inr (.inr (some p)))], [.inr (.inr (some (p + 7)))], sh, gc_h sh I17 J A)
  refine gv_run 1 true hD (pcₚ := 21) (lvₚ := [(0, .inr (.inr (some p)))]) (stₚ := [.inl 0, .inr (.inr (some (p + 7)))]) (hₚ := gc_h sh I17 J A) (C := (True ∧ True)) rfl ⟨trivial, trivial⟩ ?_
  refine gv_put hD rfl rfl S_p_7 ⟨by decide, (gz_sh B_p_7)⟩ rfl trivial ?_
  refine gc_st (k := 1) hI17 S_p_7 rfl (gz_sh R_p_7) (lo := 0) (hi := 16) rfl rfl (by (/-16-/first | omega | (simp only [gz_hd] at *; omega))) (by (/-17-/first | omega | (simp only [gz_hd] at *; omega))) (fun I26 hI26 q27 p27 => ?_)
  have FI26 := gc_frs (W := fun q j => (q = (p + 1) ∧ j = 1) ∨ (q = (p + 3) ∧ j = 1) ∨ (q = (p + 7) ∧ j = 1) ∨ (q = (p + 11) ∧ j = 1) ∨ (q = p ∧ j = 6) ∨ (q = p ∧ j = 11) ∨ (q = p ∧ j = 13)) FI17 (Or.inr (Or.inr (Or.inl ⟨rfl, rfl⟩))) p27
  have t28 := gz_hi (p27 (p + 1) 1 (fun h => absurd h.1 (gz_sh N_p_1__p_7)))
  have t29 := gz_hi (p27 (p + 3) 1 (fun h => absurd h.1 (gz_sh N_p_3__p_7)))
  show gv_X _ _ (24, [(0, .inr (.inr (some p)))], [], sh, gc_h sh I26 J A)
  refine gv_run 2 true hD (pcₚ := 26) (lvₚ := [(0, .inr (.inr (some p)))]) (stₚ := [.inl 0, .inr (.inr (some p))]) (hₚ := gc_h sh I26 J A) (C := ((True ∧ True) ∧ True)) rfl ⟨⟨trivial, trivial⟩, trivial⟩ ?_
  refine gv_put hD rfl rfl S_p ⟨by decide, (gz_sh B_p)⟩ rfl trivial ?_
  refine gc_st (k := 6) hI26 S_p rfl (gz_sh R_p) (lo := 0) (hi := 24) rfl rfl (by (/-18-/first | omega | (simp only [gz_hd] at *; omega))) (by (/-19-/first | omega | (simp only [gz_hd] at *; omega))) (fun I35 hI35 q36 p36 => ?_)
  have FI35 := gc_frs (W := fun q j => (q = (p + 1) ∧ j = 1) ∨ (q = (p + 3) ∧ j = 1) ∨ (q = (p + 7) ∧ j = 1) ∨ (q = (p + 11) ∧ j = 1) ∨ (q = p ∧ j = 6) ∨ (q = p ∧ j = 11) ∨ (q = p ∧ j = 13)) FI26 (Or.inr (Or.inr (Or.inr (Or.inr (Or.inl ⟨rfl, rfl⟩))))) p36
  have t37 := gz_hi (p36 (p + 1) 1 (fun h => absurd h.2 (by first | exact gz_ne rfl | decide)))
  have t38 := gz_hi (p36 (p + 3) 1 (fun h => absurd h.2 (by first | exact gz_ne rfl | decide)))
  have t39 := gz_hi (p36 (p + 7) 1 (fun h => absurd h.2 (by first | exact gz_ne rfl | decide)))
  show gv_X _ _ (29, [(0, .inr (.inr (some p)))], [], sh, gc_h sh I35 J A)
  refine gv_run 1 true hD (pcₚ := 30) (lvₚ := [(0, .inr (.inr (some p)))]) (stₚ := [.inr (.inr (some p))]) (hₚ := gc_h sh I35 J A) (C := (True ∧ True)) rfl ⟨trivial, trivial⟩ ?_
  refine gv_get hD rfl rfl S_p ⟨by decide, (gz_sh B_p)⟩ (gc_hA S_p rfl A_p_8) ?_
  show gv_X _ _ (33, [(0, .inr (.inr (some p)))], [.inr (.inr (some (p + 11)))], sh, gc_h sh I35 J A)
  refine gv_run 1 true hD (pcₚ := 34) (lvₚ := [(0, .inr (.inr (some p)))]) (stₚ := [.inl 0, .inr (.inr (some (p + 11)))]) (hₚ := gc_h sh I35 J A) (C := (True ∧ True)) rfl ⟨trivial, trivial⟩ ?_
  refine gv_put hD rfl rfl S_p_11 ⟨by decide, (gz_sh B_p_11)⟩ rfl trivial ?_
  refine gc_st (k := 1) hI35 S_p_11 rfl (gz_sh R_p_11) (lo := 0) (hi := 24) rfl rfl (by (/-20-/first | omega | (simp only [gz_hd] at *; omega))) (by (/-21-/first | omega | (simp only [gz_hd] at *; omega))) (fun I44 hI44 q45 p45 => ?_)
  have FI44 := gc_frs (W := fun q j => (q = (p + 1) ∧ j = 1) ∨ (q = (p + 3) ∧ j = 1) ∨ (q = (p + 7) ∧ j = 1) ∨ (q = (p + 11) ∧ j = 1) ∨ (q = p ∧ j = 6) ∨ (q = p ∧ j = 11) ∨ (q = p ∧ j = 13)) FI35 (Or.inr (Or.inr (Or.inr (Or.inl ⟨rfl, rfl⟩)))) p45
  have t46 := gz_hi (p45 (p + 1) 1 (fun h => absurd h.1 (gz_sh N_p_1__p_11)))
  have t47 := gz_hi (p45 (p + 3) 1 (fun h => absurd h.1 (gz_sh N_p_3__p_11)))
  have t48 := gz_hi (p45 (p + 7) 1 (fun h => absurd h.1 (gz_sh N_p_7__p_11)))
  have t49 := gz_hi (p45 p 6 (fun h => absurd h.2 (by first | exact gz_ne rfl | decide)))
  show gv_X _ _ (37, [(0, .inr (.inr (some p)))], [], sh, gc_h sh I44 J A)
  refine gv_run 2 true hD (pcₚ := 39) (lvₚ := [(0, .inr (.inr (some p)))]) (stₚ := [.inl 0, .inr (.inr (some p))]) (hₚ := gc_h sh I44 J A) (C := ((True ∧ True) ∧ True)) rfl ⟨⟨trivial, trivial⟩, trivial⟩ ?_
  refine gv_put hD rfl rfl S_p ⟨by decide, (gz_sh B_p)⟩ rfl trivial ?_
  refine gc_st (k := 11) hI44 S_p rfl (gz_sh R_p) (lo := 0) (hi := 64) rfl rfl (by (/-22-/first | omega | (simp only [gz_hd] at *; omega))) (by (/-23-/first | omega | (simp only [gz_hd] at *; omega))) (fun I53 hI53 q54 p54 => ?_)
  have FI53 := gc_frs (W := fun q j => (q = (p + 1) ∧ j = 1) ∨ (q = (p + 3) ∧ j = 1) ∨ (q = (p + 7) ∧ j = 1) ∨ (q = (p + 11) ∧ j = 1) ∨ (q = p ∧ j = 6) ∨ (q = p ∧ j = 11) ∨ (q = p ∧ j = 13)) FI44 (Or.inr (Or.inr (Or.inr (Or.inr (Or.inr (Or.inl ⟨rfl, rfl⟩)))))) p54
  have t55 := gz_hi (p54 (p + 1) 1 (fun h => absurd h.2 (by first | exact gz_ne rfl | decide)))
  have t56 := gz_hi (p54 (p + 3) 1 (fun h => absurd h.2 (by first | exact gz_ne rfl | decide)))
  have t57 := gz_hi (p54 (p + 7) 1 (fun h => absurd h.2 (by first | exact gz_ne rfl | decide)))
  have t58 := gz_hi (p54 (p + 11) 1 (fun h => absurd h.2 (by first | exact gz_ne rfl | decide)))
  have t59 := gz_hi (p54 p 6 (fun h => absurd h.2 (by first | exact gz_ne rfl | decide)))
  show gv_X _ _ (42, [(0, .inr (.inr (some p)))], [], sh, gc_h sh I53 J A)
  refine gv_run 2 true hD (pcₚ := 44) (lvₚ := [(0, .inr (.inr (some p)))]) (stₚ := [.inl 0, .inr (.inr (some p))]) (hₚ := gc_h sh I53 J A) (C := ((True ∧ True) ∧ True)) rfl ⟨⟨trivial, trivial⟩, trivial⟩ ?_
  refine gv_put hD rfl rfl S_p ⟨by decide, (gz_sh B_p)⟩ rfl trivial ?_
  refine gc_st (k := 13) hI53 S_p rfl (gz_sh R_p) (lo := 0) (hi := 384) rfl rfl (by (/-24-/first | omega | (simp only [gz_hd] at *; omega))) (by (/-25-/first | omega | (simp only [gz_hd] at *; omega))) (fun I62 hI62 q63 p63 => ?_)
  have FI62 := gc_frs (W := fun q j => (q = (p + 1) ∧ j = 1) ∨ (q = (p + 3) ∧ j = 1) ∨ (q = (p + 7) ∧ j = 1) ∨ (q = (p + 11) ∧ j = 1) ∨ (q = p ∧ j = 6) ∨ (q = p ∧ j = 11) ∨ (q = p ∧ j = 13)) FI53 (Or.inr (Or.inr (Or.inr (Or.inr (Or.inr (Or.inr ⟨rfl, rfl⟩)))))) p63
  have t64 := gz_hi (p63 (p + 1) 1 (fun h => absurd h.2 (by first | exact gz_ne rfl | decide)))
  have t65 := gz_hi (p63 (p + 3) 1 (fun h => absurd h.2 (by first | exact gz_ne rfl | decide)))
  have t66 := gz_hi (p63 (p + 7) 1 (fun h => absurd h.2 (by first | exact gz_ne rfl | decide)))
  have t67 := gz_hi (p63 (p + 11) 1 (fun h => absurd h.2 (by first | exact gz_ne rfl | decide)))
  have t68 := gz_hi (p63 p 6 (fun h => absurd h.2 (by first | exact gz_ne rfl | decide)))
  have t69 := gz_hi (p63 p 11 (fun h => absurd h.2 (by first | exact gz_ne rfl | decide)))
  show gv_X _ _ (47, [(0, .inr (.inr (some p)))], [], sh, gc_h sh I62 J A)
  exact gv_vret hD rfl ⟨I62, J, rfl, hI62, FI62, FJ, ⟨rfl, by (/-26-/first | (and_intros; (have o1 := gz_sh t19; have o2 := gz_sh t28; have o3 := gz_sh t29; have o4 := gz_sh t37; have o5 := gz_sh t38; have o6 := gz_sh t39; have o7 := gz_sh t46; have o8 := gz_sh t47; have o9 := gz_sh t48; have o10 := gz_sh t49; have o11 := gz_sh t55; have o12 := gz_sh t56; have o13 := gz_sh t57; have o14 := gz_sh t58; have o15 := gz_sh t59; have o16 := gz_sh t64; have o17 := gz_sh t65; have o18 := gz_sh t66; have o19 := gz_sh t67; have o20 := gz_sh t68; have o21 := gz_sh t69; omega); (have o1 := gz_sh t29; have o2 := gz_sh t38; have o3 := gz_sh t47; have o4 := gz_sh t56; have o5 := gz_sh t65; omega); (have o1 := gz_sh t39; have o2 := gz_sh t48; have o3 := gz_sh t57; have o4 := gz_sh t66; omega); (have o1 := gz_sh t58; have o2 := gz_sh t67; omega); (have o1 := gz_sh t49; have o2 := gz_sh t59; have o3 := gz_sh t68; omega); (have o1 := gz_sh t69; omega); (omega)) | (simp only [gz_hd] at *; omega))⟩⟩
