set_option maxHeartbeats 8000000 in
set_option maxRecDepth 100000 in
theorem d_X2_soundWord {ws0 : List Cond} {tb : String → gz_T} (hws : gc_Ws ws0) (htb : gc_tbs tb) (sh : gz_Sh) (ro : Nat → Nat) (I : gr_I) (J : gr_J) (A : gc_A) (hI : gc_Inv ro I) (p : Nat) (a1 : Nat) (a2 : Nat) (hp : gc_isForms sh ro A p) (h_a1 : gc_isTongue sh ro A a1) (G_a1 : 144 ≤ a1) (h_a2 : gc_isText sh ro A a2)  (x0 : gc_sc (a1 + 10) I) (x1 : p = a1 + 17) (x2 : I a2 1 ≤ 24) : ∃ r hₚ, gz_Ev ws0 tb 5 (yX2_soundWord, cX2_soundWord, 3, (some .int)) [.inr (.inr (some p)), .inr (.inr (some a1)), .inr (.inr (some a2))] sh (gc_h sh I J A) r sh hₚ 0 0 ∧ (∃ (Iₚ : gr_I) (Jₚ : gr_J), hₚ = gc_h sh Iₚ Jₚ A ∧ gc_Inv ro Iₚ ∧ (∀ q j : Nat, ((q = p ∧ j = 6) ∨ (q = p ∧ j = 7) ∨ q = (p + 6) ∨ q = (p + 7)) ∨ Iₚ q j = I q j) ∧ (∀ q j : Nat, (False) ∨ Jₚ q j = J q j) ∧ (∃ z : Int, r = some (.inl z) ∧ (-1) ≤ z ∧ z ≤ 24 ∧ (z = -1 ∨ 1 ≤ z) ∧ (I p 6 = I p 7 ∨ ¬ Iₚ p 6 = Iₚ p 7))) := by
  have FI : ∀ q j : Nat, ((q = p ∧ j = 6) ∨ (q = p ∧ j = 7) ∨ q = (p + 6) ∨ q = (p + 7)) ∨ I q j = I q j := fun _ _ => Or.inr rfl
  have FJ : ∀ q j : Nat, (False) ∨ J q j = J q j := fun _ _ => Or.inr rfl
  obtain ⟨S_p, R_p, B_p, A_p_0, S_20, R_20, B_20, A_p_1, S_p_1, R_p_1, B_p_1, A_p_2, S_p_2, R_p_2, B_p_2, A_p_3, S_p_3, R_p_3, B_p_3, A_p_4, S_p_4, R_p_4, B_p_4, A_p_5, S_p_5, R_p_5, B_p_5, S_p_6, R_p_6, B_p_6, S_p_7, R_p_7, B_p_7⟩ := id hp
  replace R_p := gz_hi R_p
  replace B_p := gz_hi B_p
  replace R_20 := gz_hi R_20
  replace B_20 := gz_hi B_20
  replace R_p_1 := gz_hi R_p_1
  replace B_p_1 := gz_hi B_p_1
  replace R_p_2 := gz_hi R_p_2
  replace B_p_2 := gz_hi B_p_2
  replace R_p_3 := gz_hi R_p_3
  replace B_p_3 := gz_hi B_p_3
  replace R_p_4 := gz_hi R_p_4
  replace B_p_4 := gz_hi B_p_4
  replace R_p_5 := gz_hi R_p_5
  replace B_p_5 := gz_hi B_p_5
  replace R_p_6 := gz_hi R_p_6
  replace B_p_6 := gz_hi B_p_6
  replace R_p_7 := gz_hi R_p_7
  replace B_p_7 := gz_hi B_p_7
  obtain ⟨S_a1, R_a1, B_a1, A_a1_0, h_a1_1, A_a1_1, h_a1_3, A_a1_2, S_a1_5, R_a1_5, B_a1_5, A_a1_3, S_a1_6, R_a1_6, B_a1_6, A_a1_4, h_a1_7, A_a1_5, S_a1_9, R_a1_9, B_a1_9, A_a1_7, S_a1_10, R_a1_10, B_a1_10, A_a1_8, h_a1_11, A_a1_9, S_a1_13, R_a1_13, B_a1_13, A_a1_10, S_a1_14, R_a1_14, B_a1_14, A_a1_12, S_a1_15, R_a1_15, B_a1_15, A_a1_14, S_a1_16, R_a1_16, B_a1_16, A_a1_15, h_a1_17⟩ := id h_a1
  replace R_a1 := gz_hi R_a1
  replace B_a1 := gz_hi B_a1
  replace R_a1_5 := gz_hi R_a1_5
  replace B_a1_5 := gz_hi B_a1_5
  replace R_a1_6 := gz_hi R_a1_6
  replace B_a1_6 := gz_hi B_a1_6
  replace R_a1_9 := gz_hi R_a1_9
  replace B_a1_9 := gz_hi B_a1_9
  replace R_a1_10 := gz_hi R_a1_10
  replace B_a1_10 := gz_hi B_a1_10
  replace R_a1_13 := gz_hi R_a1_13
  replace B_a1_13 := gz_hi B_a1_13
  replace R_a1_14 := gz_hi R_a1_14
  replace B_a1_14 := gz_hi B_a1_14
  replace R_a1_15 := gz_hi R_a1_15
  replace B_a1_15 := gz_hi B_a1_15
  replace R_a1_16 := gz_hi R_a1_16
  replace B_a1_16 := gz_hi B_a1_16
  obtain ⟨S_a1_1, R_a1_1, B_a1_1, A_a1_1_0, S_a1_1_1, R_a1_1_1, B_a1_1_1, Q0_a1_1, Q1_a1_1, Q2_a1_1⟩ := id h_a1_1
  replace R_a1_1 := gz_hi R_a1_1
  replace B_a1_1 := gz_hi B_a1_1
  replace R_a1_1_1 := gz_hi R_a1_1_1
  replace B_a1_1_1 := gz_hi B_a1_1_1
  obtain ⟨S_a1_3, R_a1_3, B_a1_3, A_a1_3_0, S_a1_3_1, R_a1_3_1, B_a1_3_1, Q0_a1_3, Q1_a1_3, Q2_a1_3⟩ := id h_a1_3
  replace R_a1_3 := gz_hi R_a1_3
  replace B_a1_3 := gz_hi B_a1_3
  replace R_a1_3_1 := gz_hi R_a1_3_1
  replace B_a1_3_1 := gz_hi B_a1_3_1
  obtain ⟨S_a1_7, R_a1_7, B_a1_7, A_a1_7_0, S_a1_7_1, R_a1_7_1, B_a1_7_1, Q0_a1_7, Q1_a1_7, Q2_a1_7⟩ := id h_a1_7
  replace R_a1_7 := gz_hi R_a1_7
  replace B_a1_7 := gz_hi B_a1_7
  replace R_a1_7_1 := gz_hi R_a1_7_1
  replace B_a1_7_1 := gz_hi B_a1_7_1
  obtain ⟨S_a1_11, R_a1_11, B_a1_11, A_a1_11_0, S_a1_11_1, R_a1_11_1, B_a1_11_1, Q0_a1_11, Q1_a1_11, Q2_a1_11⟩ := id h_a1_11
  replace R_a1_11 := gz_hi R_a1_11
  replace B_a1_11 := gz_hi B_a1_11
  replace R_a1_11_1 := gz_hi R_a1_11_1
  replace B_a1_11_1 := gz_hi B_a1_11_1
  obtain ⟨S_a1_17, R_a1_17, B_a1_17, A_a1_17_0, S_20, R_20, B_20, A_a1_17_1, S_a1_17_1, R_a1_17_1, B_a1_17_1, A_a1_17_2, S_a1_17_2, R_a1_17_2, B_a1_17_2, A_a1_17_3, S_a1_17_3, R_a1_17_3, B_a1_17_3, A_a1_17_4, S_a1_17_4, R_a1_17_4, B_a1_17_4, A_a1_17_5, S_a1_17_5, R_a1_17_5, B_a1_17_5, S_a1_17_6, R_a1_17_6, B_a1_17_6, S_a1_17_7, R_a1_17_7, B_a1_17_7⟩ := id h_a1_17
  replace R_a1_17 := gz_hi R_a1_17
  replace B_a1_17 := gz_hi B_a1_17
  replace R_20 := gz_hi R_20
  replace B_20 := gz_hi B_20
  replace R_a1_17_1 := gz_hi R_a1_17_1
  replace B_a1_17_1 := gz_hi B_a1_17_1
  replace R_a1_17_2 := gz_hi R_a1_17_2
  replace B_a1_17_2 := gz_hi B_a1_17_2
  replace R_a1_17_3 := gz_hi R_a1_17_3
  replace B_a1_17_3 := gz_hi B_a1_17_3
  replace R_a1_17_4 := gz_hi R_a1_17_4
  replace B_a1_17_4 := gz_hi B_a1_17_4
  replace R_a1_17_5 := gz_hi R_a1_17_5
  replace B_a1_17_5 := gz_hi B_a1_17_5
  replace R_a1_17_6 := gz_hi R_a1_17_6
  replace B_a1_17_6 := gz_hi B_a1_17_6
  replace R_a1_17_7 := gz_hi R_a1_17_7
  replace B_a1_17_7 := gz_hi B_a1_17_7
  obtain ⟨S_a2, R_a2, B_a2, A_a2_0, S_a2_1, R_a2_1, B_a2_1, A_a2_2, S_a2_2, R_a2_2, B_a2_2, A_a2_3, S_a2_3, R_a2_3, B_a2_3⟩ := id h_a2
  replace R_a2 := gz_hi R_a2
  replace B_a2 := gz_hi B_a2
  replace R_a2_1 := gz_hi R_a2_1
  replace B_a2_1 := gz_hi B_a2_1
  replace R_a2_2 := gz_hi R_a2_2
  replace B_a2_2 := gz_hi B_a2_2
  replace R_a2_3 := gz_hi R_a2_3
  replace B_a2_3 := gz_hi B_a2_3
  have N1 : a2 ≠ p + 6 := fun h => by
    have h9 := S_a2
    rw [h, S_p_6] at h9
    cases h9
  have N2 : a2 ≠ p + 7 := fun h => by
    have h9 := S_a2
    rw [h, S_p_7] at h9
    cases h9
  have hD : gv_D (gc_E2 ws0 tb 4 (yX2_soundWord, cX2_soundWord, 3, (some .int)) kX2_soundWord) := gq_of oX2_soundWord
  refine gc_ev2 (d := 4) (l := kX2_soundWord) (Po := fun r hₚ => (∃ (Iₚ : gr_I) (Jₚ : gr_J), hₚ = gc_h sh Iₚ Jₚ A ∧ gc_Inv ro Iₚ ∧ (∀ q j : Nat, ((q = p ∧ j = 6) ∨ (q = p ∧ j = 7) ∨ q = (p + 6) ∨ q = (p + 7)) ∨ Iₚ q j = I q j) ∧ (∀ q j : Nat, (False) ∨ Jₚ q j = J q j) ∧ (∃ z : Int, r = some (.inl z) ∧ (-1) ≤ z ∧ z ≤ 24 ∧ (z = -1 ∨ 1 ≤ z) ∧ (I p 6 = I p 7 ∨ ¬ Iₚ p 6 = Iₚ p 7)))) htb rfl (Nat.le_of_ble_eq_true rfl) ?_
  have N_a2__p_6 := gz_hi (show ¬ (a2 = (p + 6)) from by (/-0-/first | omega | (simp only [gz_hd] at *; omega)))
  have N_a2__p_7 := gz_hi (show ¬ (a2 = (p + 7)) from by (/-1-/first | (have o1 := gz_sh N_a2__p_6; omega) | (simp only [gz_hd] at *; omega)))
  have f1 := gz_hi ((show 0 ≤ I a2 1 ∧ I a2 1 ≤ 1000 from gc_in2 hI (gz_sh R_a2) rfl rfl rfl))
  have f2 := gz_hi ((show 0 ≤ I p 6 ∧ I p 6 ≤ 1 from gc_in2 hI (gz_sh R_p) rfl rfl rfl))
  refine gv_run 1 true hD (pcₚ := 1) (lvₚ := [(0, .inr (.inr (some p))), (1, .inr (.inr (some a1))), (2, .inr (.inr (some a2)))]) (stₚ := [.inr (.inr (some a2))]) (hₚ := gc_h sh I J A) (C := (True ∧ True)) rfl ⟨trivial, trivial⟩ ?_
  refine gv_get hD rfl rfl S_a2 ⟨by decide, (gz_sh B_a2)⟩ (gc_hA S_a2 rfl A_a2_0) ?_
  show gv_X _ _ (4, [(0, .inr (.inr (some p))), (1, .inr (.inr (some a1))), (2, .inr (.inr (some a2)))], [.inr (.inr (some (a2 + 1)))], sh, gc_h sh I J A)
  refine gv_run 2 true hD (pcₚ := 6) (lvₚ := [(0, .inr (.inr (some p))), (1, .inr (.inr (some a1))), (2, .inr (.inr (some a2)))]) (stₚ := [.inr (.inr (some p)), .inl 0, .inr (.inr (some (a2 + 1)))]) (hₚ := gc_h sh I J A) (C := ((True ∧ True) ∧ True)) rfl ⟨⟨trivial, trivial⟩, trivial⟩ ?_
  obtain ⟨f4_, hq_f4_, S_f4, R_f4, B_f4, D_f4⟩ := gc_sw (p := p) (d := 6) (s := 1) (z := I p 6) (show 0 ≤ I p 6 ∧ I p 6 ≤ 1 from gc_in2 hI (gz_sh R_p) rfl rfl rfl) S_p_6 (gz_sh R_p_6) (gz_sh B_p_6) S_p_7 (gz_sh R_p_7) (gz_sh B_p_7)
  refine gv_get hD rfl rfl S_p ⟨by decide, (gz_sh B_p)⟩ (gc_hS (n := 6) S_p rfl hq_f4_) ?_
  show gv_X _ _ (9, [(0, .inr (.inr (some p))), (1, .inr (.inr (some a1))), (2, .inr (.inr (some a2)))], [.inr (.inr (some f4_)), .inl 0, .inr (.inr (some (a2 + 1)))], sh, gc_h sh I J A)
  refine gv_run 2 true hD (pcₚ := 11) (lvₚ := [(0, .inr (.inr (some p))), (1, .inr (.inr (some a1))), (2, .inr (.inr (some a2)))]) (stₚ := [.inr (.inr (some a2)), .inl 0, .inr (.inr (some f4_)), .inl 0, .inr (.inr (some (a2 + 1)))]) (hₚ := gc_h sh I J A) (C := ((True ∧ True) ∧ True)) rfl ⟨⟨trivial, trivial⟩, trivial⟩ ?_
  refine gv_get hD rfl rfl S_a2 ⟨by decide, (gz_sh B_a2)⟩ (gc_hI S_a2 rfl) ?_
  show gv_X _ _ (14, [(0, .inr (.inr (some p))), (1, .inr (.inr (some a1))), (2, .inr (.inr (some a2)))], [.inl (I a2 1), .inl 0, .inr (.inr (some f4_)), .inl 0, .inr (.inr (some (a2 + 1)))], sh, gc_h sh I J A)
  refine gv_copy hD rfl (gc_lC2_71 hws) (Nat.le_of_ble_eq_true rfl) ⟨(gz_sh B_a2_1), B_f4⟩ S_a2_1 S_f4 (by decide) ⟨by decide, by decide⟩ ⟨by (/-2-/first | omega | (simp only [gz_hd] at *; omega)), by (/-3-/first | omega | (simp only [gz_hd] at *; omega)), by (/-4-/first | (have o1 := gz_sh f1; omega) | (simp only [gz_hd] at *; omega))⟩ (by (/-5-/first | (have o1 := gz_sh f1; omega) | (simp only [gz_hd] at *; omega))) (by (/-6-/first | (have o1 := gz_sh f1; omega) | (simp only [gz_hd] at *; omega))) (fun _ k _ => by rw [gc_iI S_a2_1 rfl]; have h9 := (show (-128) ≤ I (a2 + 1) (Int.toNat 0 + k) ∧ I (a2 + 1) (Int.toNat 0 + k) ≤ 127 from gc_in2 hI (gz_sh R_a2_1) rfl rfl rfl); exact ⟨by (/-7-/first | omega | (simp only [gz_hd] at *; omega)), by (/-8-/first | omega | (simp only [gz_hd] at *; omega))⟩) ?_
  refine gc_cp hI S_a2_1 S_f4 (by decide) (fun j hj => by have h9 := (show (-128) ≤ I (a2 + 1) (Int.toNat 0 + j) ∧ I (a2 + 1) (Int.toNat 0 + j) ≤ 127 from gc_in2 hI (gz_sh R_a2_1) rfl rfl rfl); rw [R_f4]; exact ⟨by show (-128) ≤ _; (/-9-/first | omega | (simp only [gz_hd] at *; omega)), by show _ ≤ 127; (/-10-/first | omega | (simp only [gz_hd] at *; omega))⟩) (fun I8 hI8 p7 q7 => ?_)
  have FI8 := gc_frp (W := fun q j => (q = p ∧ j = 6) ∨ (q = p ∧ j = 7) ∨ q = (p + 6) ∨ q = (p + 7)) (V := fun q j => q = f4_ ∧ Int.toNat 0 ≤ j ∧ j < Int.toNat 0 + Int.toNat (I a2 1)) FI (fun q j h => (show (q = p ∧ j = 6) ∨ (q = p ∧ j = 7) ∨ q = (p + 6) ∨ q = (p + 7) from by have := h.1; (/-11-/first | omega | (simp only [gz_hd] at *; omega)))) p7
  have t10 := gz_hi (p7 a2 1 (fun h => absurd h.1 (by (/-12-/first | (have o1 := gz_sh N_a2__p_6; have o2 := gz_sh N_a2__p_7; have o3 := gz_sh f2; omega) | (simp only [gz_hd] at *; omega)))))
  have t11 := gz_hi (p7 p 6 (fun h => absurd h.1 (by (/-13-/first | omega | (simp only [gz_hd] at *; omega)))))
  have t12 := gz_hi (p7 p 7 (fun h => absurd h.1 (by (/-14-/first | omega | (simp only [gz_hd] at *; omega)))))
  show gv_X _ _ (17, [(0, .inr (.inr (some p))), (1, .inr (.inr (some a1))), (2, .inr (.inr (some a2)))], [], sh, gc_h sh I8 J A)
  refine gv_run 3 true hD (pcₚ := 20) (lvₚ := [(0, .inr (.inr (some p))), (1, .inr (.inr (some a1))), (2, .inr (.inr (some a2)))]) (stₚ := [.inr (.inr (some a2)), .inr (.inr (some a1)), .inr (.inr (some p))]) (hₚ := gc_h sh I8 J A) (C := (((True ∧ True) ∧ True) ∧ True)) rfl ⟨⟨⟨trivial, trivial⟩, trivial⟩, trivial⟩ ?_
  refine gv_get hD rfl rfl S_a2 ⟨by decide, (gz_sh B_a2)⟩ (gc_hI S_a2 rfl) ?_
  show gv_X _ _ (23, [(0, .inr (.inr (some p))), (1, .inr (.inr (some a1))), (2, .inr (.inr (some a2)))], [.inl (I8 a2 1), .inr (.inr (some a1)), .inr (.inr (some p))], sh, gc_h sh I8 J A)
  obtain ⟨r17, h17, E17, P17⟩ := d_X2_soundAll (ws0 := ws0) (tb := tb) hws htb sh ro I8 J A hI8 p a1 (I8 a2 1) hp h_a1 G_a1  ⟨by (/-15-/first | (have o1 := gz_sh f1; have o2 := gz_sh t10; omega) | (simp only [gz_hd] at *; omega)), by (/-16-/first | (have o1 := gz_sh f1; have o2 := gz_sh t10; omega) | (simp only [gz_hd] at *; omega))⟩ (gc_sc_fr x0 (fun k => (FI8 (a1 + 10) k).resolve_left (by (/-17-/first | omega | (simp only [gz_hd] at *; omega))))) (by (/-18-/first | omega | (simp only [gz_hd] at *; omega))) 
  obtain ⟨I18, J19, rfl, hI18, g17, k17, ⟨z17, rfl, q17⟩⟩ := P17
  replace q17 := gz_hi q17
  have FI18 := gc_frc (W := fun q j => (q = p ∧ j = 6) ∨ (q = p ∧ j = 7) ∨ q = (p + 6) ∨ q = (p + 7)) (V := fun q j => (q = p ∧ j = 6) ∨ (q = p ∧ j = 7) ∨ q = (p + 6) ∨ q = (p + 7)) FI8 (fun q j h => (h.elim (fun h => (Or.inl h)) (fun h => (h.elim (fun h => (Or.inr (Or.inl h))) (fun h => (h.elim (fun h => (Or.inr (Or.inr (Or.inl h)))) (fun h => (Or.inr (Or.inr (Or.inr h)))))))))) g17
  obtain rfl : J = J19 := funext fun q => funext fun j => ((k17 q j).resolve_left id).symm
  refine gv_callV hD rfl (As := [.inr (.inr (some a1)), .inl (I8 a2 1)]) (st := []) rfl (gz_sh B_p) S_p rfl (gc_lV2 hws rfl) (Nat.le_of_ble_eq_true rfl) (gz_Ev_mono (d := 4) (by decide) E17) ?_
  show gv_X _ _ (26, [(0, .inr (.inr (some p))), (1, .inr (.inr (some a1))), (2, .inr (.inr (some a2)))], [.inl z17], sh, gc_h sh I18 J A)
  exact gv_iret hD rfl ⟨I18, J, rfl, hI18, FI18, FJ, ⟨_, rfl, by (/-19-/first | (and_intros; (have o1 := gz_sh q17; omega); (have o1 := gz_sh q17; omega); (have o1 := gz_sh q17; omega); (have o1 := gz_sh q17; have o2 := gz_sh t11; have o3 := gz_sh t12; omega)) | (simp only [gz_hd] at *; omega))⟩⟩
