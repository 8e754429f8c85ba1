set_option maxHeartbeats 4000000 in
set_option maxRecDepth 100000 in
theorem d_X2_soundWord {ws0 : List Cond} {tb : String → gz_T} (hws : gc_Ws ws0) (htb : gc_tbs tb) (sh : gz_Sh) (ro : Nat → Nat) (I : gr_I) (J : gr_J) (A : gc_A) (hI : gc_Inv ro I) (p : Nat) (a1 : Nat) (a2 : Nat) (hp : gc_isForms sh ro A p) (h_a1 : gc_isTongue sh ro A a1) (G_a1 : 144 ≤ a1) (h_a2 : gc_isText sh ro A a2)  (x0 : gc_sc (a1 + 10) I) (x1 : p = a1 + 17) (x2 : I a2 1 ≤ 24) : ∃ r h', gz_Ev ws0 tb 5 (yX2_soundWord, cX2_soundWord, 3, (some .int)) [.inr (.inr (some p)), .inr (.inr (some a1)), .inr (.inr (some a2))] sh (gc_h sh I J A) r sh h' 0 0 ∧ (∃ (I' : gr_I) (J' : gr_J), h' = gc_h sh I' J' A ∧ gc_Inv ro I' ∧ (∀ q j : Nat, ((q = p ∧ j = 6) ∨ (q = p ∧ j = 7) ∨ q = (p + 6) ∨ q = (p + 7)) ∨ I' q j = I q j) ∧ (∀ q j : Nat, (False) ∨ J' q j = J q j) ∧ (∃ z : Int, r = some (.inl z) ∧ (-1) ≤ z ∧ z ≤ 24 ∧ (z = -1 ∨ 1 ≤ z))) := by
  have FI : ∀ q j : Nat, ((q = p ∧ j = 6) ∨ (q = p ∧ j = 7) ∨ q = (p + 6) ∨ q = (p + 7)) ∨ I q j = I q j := fun _ _ => Or.inr rfl
  have FJ : ∀ q j : Nat, (False) ∨ J q j = J q j := fun _ _ => Or.inr rfl
  obtain ⟨S_p, R_p, B_p, A_p_0, S_20, R_20, B_20, A_p_1, S_p_1, R_p_1, B_p_1, A_p_2, S_p_2, R_p_2, B_p_2, A_p_3, S_p_3, R_p_3, B_p_3, A_p_4, S_p_4, R_p_4, B_p_4, A_p_5, S_p_5, R_p_5, B_p_5, S_p_6, R_p_6, B_p_6, S_p_7, R_p_7, B_p_7⟩ := id hp
  obtain ⟨S_a1, R_a1, B_a1, A_a1_0, h_a1_1, A_a1_1, h_a1_3, A_a1_2, S_a1_5, R_a1_5, B_a1_5, A_a1_3, S_a1_6, R_a1_6, B_a1_6, A_a1_4, h_a1_7, A_a1_5, S_a1_9, R_a1_9, B_a1_9, A_a1_7, S_a1_10, R_a1_10, B_a1_10, A_a1_8, h_a1_11, A_a1_9, S_a1_13, R_a1_13, B_a1_13, A_a1_10, S_a1_14, R_a1_14, B_a1_14, A_a1_12, S_a1_15, R_a1_15, B_a1_15, A_a1_14, S_a1_16, R_a1_16, B_a1_16, A_a1_15, h_a1_17⟩ := id h_a1
  obtain ⟨S_a1_1, R_a1_1, B_a1_1, A_a1_1_0, S_a1_1_1, R_a1_1_1, B_a1_1_1, Q0_a1_1, Q1_a1_1, Q2_a1_1⟩ := id h_a1_1
  obtain ⟨S_a1_3, R_a1_3, B_a1_3, A_a1_3_0, S_a1_3_1, R_a1_3_1, B_a1_3_1, Q0_a1_3, Q1_a1_3, Q2_a1_3⟩ := id h_a1_3
  obtain ⟨S_a1_7, R_a1_7, B_a1_7, A_a1_7_0, S_a1_7_1, R_a1_7_1, B_a1_7_1, Q0_a1_7, Q1_a1_7, Q2_a1_7⟩ := id h_a1_7
  obtain ⟨S_a1_11, R_a1_11, B_a1_11, A_a1_11_0, S_a1_11_1, R_a1_11_1, B_a1_11_1, Q0_a1_11, Q1_a1_11, Q2_a1_11⟩ := id h_a1_11
  obtain ⟨S_a1_17, R_a1_17, B_a1_17, A_a1_17_0, S_20, R_20, B_20, A_a1_17_1, S_a1_17_1, R_a1_17_1, B_a1_17_1, A_a1_17_2, S_a1_17_2, R_a1_17_2, B_a1_17_2, A_a1_17_3, S_a1_17_3, R_a1_17_3, B_a1_17_3, A_a1_17_4, S_a1_17_4, R_a1_17_4, B_a1_17_4, A_a1_17_5, S_a1_17_5, R_a1_17_5, B_a1_17_5, S_a1_17_6, R_a1_17_6, B_a1_17_6, S_a1_17_7, R_a1_17_7, B_a1_17_7⟩ := id h_a1_17
  obtain ⟨S_a2, R_a2, B_a2, A_a2_0, S_a2_1, R_a2_1, B_a2_1, A_a2_2, S_a2_2, R_a2_2, B_a2_2, A_a2_3, S_a2_3, R_a2_3, B_a2_3⟩ := id h_a2
  have N1 : a2 ≠ p + 6 := fun h => by
    have h9 := S_a2
    rw [h, S_p_6] at h9
    cases h9
  have N2 : a2 ≠ p + 7 := fun h => by
    have h9 := S_a2
    rw [h, S_p_7] at h9
    cases h9
  have hD : gv_D (gc_E2 ws0 tb 4 (yX2_soundWord, cX2_soundWord, 3, (some .int)) kX2_soundWord) := gq_ok oX2_soundWord
  refine gc_ev2 (d := 4) (l := kX2_soundWord) (Po := fun r h' => (∃ (I' : gr_I) (J' : gr_J), h' = gc_h sh I' J' A ∧ gc_Inv ro I' ∧ (∀ q j : Nat, ((q = p ∧ j = 6) ∨ (q = p ∧ j = 7) ∨ q = (p + 6) ∨ q = (p + 7)) ∨ I' q j = I q j) ∧ (∀ q j : Nat, (False) ∨ J' q j = J q j) ∧ (∃ z : Int, r = some (.inl z) ∧ (-1) ≤ z ∧ z ≤ 24 ∧ (z = -1 ∨ 1 ≤ z)))) htb rfl (Nat.le_of_ble_eq_true rfl) ?_
  have N_a2__p_6 : ¬ (a2 = (p + 6)) := by omega
  have N_a2__p_7 : ¬ (a2 = (p + 7)) := by omega
  have f1 := (show 0 ≤ I a2 1 ∧ I a2 1 ≤ 1000 from gc_in hI R_a2 rfl rfl)
  refine gv_run 1 true hD (pc' := 1) (lv' := [(0, .inr (.inr (some p))), (1, .inr (.inr (some a1))), (2, .inr (.inr (some a2)))]) (st' := [.inr (.inr (some a2))]) (h' := gc_h sh I J A) (C := (True ∧ True)) rfl ⟨trivial, trivial⟩ ?_
  refine gv_get hD rfl rfl S_a2 ⟨by decide, B_a2⟩ (gc_hA S_a2 rfl A_a2_0) ?_
  show gv_X _ _ (4, [(0, .inr (.inr (some p))), (1, .inr (.inr (some a1))), (2, .inr (.inr (some a2)))], [.inr (.inr (some (a2 + 1)))], sh, gc_h sh I J A)
  refine gv_run 2 true hD (pc' := 6) (lv' := [(0, .inr (.inr (some p))), (1, .inr (.inr (some a1))), (2, .inr (.inr (some a2)))]) (st' := [.inr (.inr (some p)), .inl 0, .inr (.inr (some (a2 + 1)))]) (h' := gc_h sh I J A) (C := ((True ∧ True) ∧ True)) rfl ⟨⟨trivial, trivial⟩, trivial⟩ ?_
  have f3 := (show 0 ≤ I p 6 ∧ I p 6 ≤ 1 from gc_in hI R_p rfl rfl)
  obtain ⟨f2_, hq_f2_, S_f2, R_f2, B_f2, D_f2⟩ := gc_sw (p := p) (d := 6) (s := 1) (z := I p 6) (show 0 ≤ I p 6 ∧ I p 6 ≤ 1 from gc_in hI R_p rfl rfl) S_p_6 R_p_6 B_p_6 S_p_7 R_p_7 B_p_7
  refine gv_get hD rfl rfl S_p ⟨by decide, B_p⟩ (gc_hS (n := 6) S_p rfl hq_f2_) ?_
  show gv_X _ _ (9, [(0, .inr (.inr (some p))), (1, .inr (.inr (some a1))), (2, .inr (.inr (some a2)))], [.inr (.inr (some f2_)), .inl 0, .inr (.inr (some (a2 + 1)))], sh, gc_h sh I J A)
  refine gv_run 2 true hD (pc' := 11) (lv' := [(0, .inr (.inr (some p))), (1, .inr (.inr (some a1))), (2, .inr (.inr (some a2)))]) (st' := [.inr (.inr (some a2)), .inl 0, .inr (.inr (some f2_)), .inl 0, .inr (.inr (some (a2 + 1)))]) (h' := gc_h sh I J A) (C := ((True ∧ True) ∧ True)) rfl ⟨⟨trivial, trivial⟩, trivial⟩ ?_
  have f4 := (show 0 ≤ I a2 1 ∧ I a2 1 ≤ 1000 from gc_in hI R_a2 rfl rfl)
  refine gv_get hD rfl rfl S_a2 ⟨by decide, B_a2⟩ (gc_hI S_a2 rfl) ?_
  show gv_X _ _ (14, [(0, .inr (.inr (some p))), (1, .inr (.inr (some a1))), (2, .inr (.inr (some a2)))], [.inl (I a2 1), .inl 0, .inr (.inr (some f2_)), .inl 0, .inr (.inr (some (a2 + 1)))], sh, gc_h sh I J A)
  refine gv_copy hD rfl (gc_lC2_71 hws) (Nat.le_of_ble_eq_true rfl) ⟨B_a2_1, B_f2⟩ S_a2_1 S_f2 (by decide) ⟨by decide, by decide⟩ ⟨by omega, by omega, by omega⟩ (by omega) (by omega) (fun _ k _ => by rw [gc_iI S_a2_1 rfl]; have h9 := (show (-128) ≤ I (a2 + 1) (Int.toNat 0 + k) ∧ I (a2 + 1) (Int.toNat 0 + k) ≤ 127 from gc_in hI R_a2_1 rfl rfl); exact ⟨by omega, by omega⟩) ?_
  refine gc_cp hI S_a2_1 S_f2 (by decide) (fun j hj => by have h9 := (show (-128) ≤ I (a2 + 1) (Int.toNat 0 + j) ∧ I (a2 + 1) (Int.toNat 0 + j) ≤ 127 from gc_in hI R_a2_1 rfl rfl); rw [R_f2]; exact ⟨by show (-128) ≤ _; omega, by show _ ≤ 127; omega⟩) (fun I6 hI6 p5 q5 => ?_)
  have FI6 := gc_frp (W := fun q j => (q = p ∧ j = 6) ∨ (q = p ∧ j = 7) ∨ q = (p + 6) ∨ q = (p + 7)) (V := fun q j => q = f2_ ∧ Int.toNat 0 ≤ j ∧ j < Int.toNat 0 + Int.toNat (I a2 1)) FI (fun q j h => (show (q = p ∧ j = 6) ∨ (q = p ∧ j = 7) ∨ q = (p + 6) ∨ q = (p + 7) from by have := h.1; omega)) p5
  have t8 := p5 a2 1 (fun h => absurd h.1 (by omega))
  have f9 := (show 0 ≤ I6 a2 1 ∧ I6 a2 1 ≤ 1000 from gc_in hI6 R_a2 rfl rfl)
  show gv_X _ _ (17, [(0, .inr (.inr (some p))), (1, .inr (.inr (some a1))), (2, .inr (.inr (some a2)))], [], sh, gc_h sh I6 J A)
  refine gv_run 3 true hD (pc' := 20) (lv' := [(0, .inr (.inr (some p))), (1, .inr (.inr (some a1))), (2, .inr (.inr (some a2)))]) (st' := [.inr (.inr (some a2)), .inr (.inr (some a1)), .inr (.inr (some p))]) (h' := gc_h sh I6 J A) (C := (((True ∧ True) ∧ True) ∧ True)) rfl ⟨⟨⟨trivial, trivial⟩, trivial⟩, trivial⟩ ?_
  have f10 := (show 0 ≤ I6 a2 1 ∧ I6 a2 1 ≤ 1000 from gc_in hI6 R_a2 rfl rfl)
  refine gv_get hD rfl rfl S_a2 ⟨by decide, B_a2⟩ (gc_hI S_a2 rfl) ?_
  show gv_X _ _ (23, [(0, .inr (.inr (some p))), (1, .inr (.inr (some a1))), (2, .inr (.inr (some a2)))], [.inl (I6 a2 1), .inr (.inr (some a1)), .inr (.inr (some p))], sh, gc_h sh I6 J A)
  obtain ⟨r11, h11, E11, P11⟩ := d_X2_soundAll (ws0 := ws0) (tb := tb) hws htb sh ro I6 J A hI6 p a1 (I6 a2 1) hp h_a1 G_a1  ⟨by omega, by omega⟩ (gc_sc_fr x0 (fun k => (FI6 (a1 + 10) k).resolve_left (by omega))) (by omega) 
  obtain ⟨I12, J13, rfl, hI12, g11, k11, ⟨z11, rfl, q11⟩⟩ := P11
  have FI12 := gc_frc (W := fun q j => (q = p ∧ j = 6) ∨ (q = p ∧ j = 7) ∨ q = (p + 6) ∨ q = (p + 7)) (V := fun q j => (q = p ∧ j = 6) ∨ (q = p ∧ j = 7) ∨ q = (p + 6) ∨ q = (p + 7)) FI6 (fun q j h => (h.elim (fun h => (Or.inl h)) (fun h => (h.elim (fun h => (Or.inr (Or.inl h))) (fun h => (h.elim (fun h => (Or.inr (Or.inr (Or.inl h)))) (fun h => (Or.inr (Or.inr (Or.inr h)))))))))) g11
  have t14 := (g11 a2 1).resolve_left (fun h => h.elim (fun h => absurd h.2 (by decide)) (fun h => h.elim (fun h => absurd h.2 (by decide)) (fun h => h.elim (fun h => absurd h N_a2__p_6) (fun h => absurd h N_a2__p_7))))
  obtain rfl : J = J13 := funext fun q => funext fun j => ((k11 q j).resolve_left id).symm
  refine gv_callV hD rfl (As := [.inr (.inr (some a1)), .inl (I6 a2 1)]) (st := []) rfl B_p S_p rfl (gc_lV2 hws rfl) (Nat.le_of_ble_eq_true rfl) (gz_Ev_mono (d := 4) (by decide) E11) ?_
  show gv_X _ _ (26, [(0, .inr (.inr (some p))), (1, .inr (.inr (some a1))), (2, .inr (.inr (some a2)))], [.inl z11], sh, gc_h sh I12 J A)
  exact gv_iret hD rfl ⟨I12, J, rfl, hI12, FI12, FJ, ⟨_, rfl, by omega⟩⟩
set_option maxHeartbeats 4000000 in
set_option maxRecDepth 100000 in
theorem d_X2_build {ws0 : List Cond} {tb : String → gz_T} (hws : gc_Ws ws0) (htb : gc_tbs tb) (sh : gz_Sh) (ro : Nat → Nat) (I : gr_I) (J : gr_J) (A : gc_A) (hI : gc_Inv ro I) (p : Nat) (a1 : Nat) (hp : gc_isForms sh ro A p) (h_a1 : gc_isTongue sh ro A a1) (G_a1 : 144 ≤ a1)  (x0 : gc_sc (a1 + 10) I) (x1 : p = a1 + 17) : ∃ r h', gz_Ev ws0 tb 5 (yX2_build, cX2_build, 7, none) [.inr (.inr (some p)), .inr (.inr (some a1))] sh (gc_h sh I J A) r sh h' 0 0 ∧ (∃ (I' : gr_I) (J' : gr_J), h' = gc_h sh I' J' A ∧ gc_Inv ro I' ∧ (∀ q j : Nat, ((q = p ∧ j = 6) ∨ (q = p ∧ j = 7) ∨ (q = p ∧ j = 8) ∨ (q = p ∧ j = 9) ∨ q = (p + 1) ∨ q = (p + 2) ∨ q = (p + 3) ∨ q = (p + 4) ∨ q = (p + 6) ∨ q = (p + 7)) ∨ I' q j = I q j) ∧ (∀ q j : Nat, (False) ∨ J' q j = J q j) ∧ r = none) := by
  have FI : ∀ q j : Nat, ((q = p ∧ j = 6) ∨ (q = p ∧ j = 7) ∨ (q = p ∧ j = 8) ∨ (q = p ∧ j = 9) ∨ q = (p + 1) ∨ q = (p + 2) ∨ q = (p + 3) ∨ q = (p + 4) ∨ q = (p + 6) ∨ q = (p + 7)) ∨ I q j = I q j := fun _ _ => Or.inr rfl
  have FJ : ∀ q j : Nat, (False) ∨ J q j = J q j := fun _ _ => Or.inr rfl
  obtain ⟨S_p, R_p, B_p, A_p_0, S_20, R_20, B_20, A_p_1, S_p_1, R_p_1, B_p_1, A_p_2, S_p_2, R_p_2, B_p_2, A_p_3, S_p_3, R_p_3, B_p_3, A_p_4, S_p_4, R_p_4, B_p_4, A_p_5, S_p_5, R_p_5, B_p_5, S_p_6, R_p_6, B_p_6, S_p_7, R_p_7, B_p_7⟩ := id hp
  obtain ⟨S_a1, R_a1, B_a1, A_a1_0, h_a1_1, A_a1_1, h_a1_3, A_a1_2, S_a1_5, R_a1_5, B_a1_5, A_a1_3, S_a1_6, R_a1_6, B_a1_6, A_a1_4, h_a1_7, A_a1_5, S_a1_9, R_a1_9, B_a1_9, A_a1_7, S_a1_10, R_a1_10, B_a1_10, A_a1_8, h_a1_11, A_a1_9, S_a1_13, R_a1_13, B_a1_13, A_a1_10, S_a1_14, R_a1_14, B_a1_14, A_a1_12, S_a1_15, R_a1_15, B_a1_15, A_a1_14, S_a1_16, R_a1_16, B_a1_16, A_a1_15, h_a1_17⟩ := id h_a1
  obtain ⟨S_a1_1, R_a1_1, B_a1_1, A_a1_1_0, S_a1_1_1, R_a1_1_1, B_a1_1_1, Q0_a1_1, Q1_a1_1, Q2_a1_1⟩ := id h_a1_1
  obtain ⟨S_a1_3, R_a1_3, B_a1_3, A_a1_3_0, S_a1_3_1, R_a1_3_1, B_a1_3_1, Q0_a1_3, Q1_a1_3, Q2_a1_3⟩ := id h_a1_3
  obtain ⟨S_a1_7, R_a1_7, B_a1_7, A_a1_7_0, S_a1_7_1, R_a1_7_1, B_a1_7_1, Q0_a1_7, Q1_a1_7, Q2_a1_7⟩ := id h_a1_7
  obtain ⟨S_a1_11, R_a1_11, B_a1_11, A_a1_11_0, S_a1_11_1, R_a1_11_1, B_a1_11_1, Q0_a1_11, Q1_a1_11, Q2_a1_11⟩ := id h_a1_11
  obtain ⟨S_a1_17, R_a1_17, B_a1_17, A_a1_17_0, S_20, R_20, B_20, A_a1_17_1, S_a1_17_1, R_a1_17_1, B_a1_17_1, A_a1_17_2, S_a1_17_2, R_a1_17_2, B_a1_17_2, A_a1_17_3, S_a1_17_3, R_a1_17_3, B_a1_17_3, A_a1_17_4, S_a1_17_4, R_a1_17_4, B_a1_17_4, A_a1_17_5, S_a1_17_5, R_a1_17_5, B_a1_17_5, S_a1_17_6, R_a1_17_6, B_a1_17_6, S_a1_17_7, R_a1_17_7, B_a1_17_7⟩ := id h_a1_17
  have hD : gv_D (gc_E2 ws0 tb 4 (yX2_build, cX2_build, 7, none) kX2_build) := gq_ok oX2_build
  refine gc_ev2 (d := 4) (l := kX2_build) (Po := fun r h' => (∃ (I' : gr_I) (J' : gr_J), h' = gc_h sh I' J' A ∧ gc_Inv ro I' ∧ (∀ q j : Nat, ((q = p ∧ j = 6) ∨ (q = p ∧ j = 7) ∨ (q = p ∧ j = 8) ∨ (q = p ∧ j = 9) ∨ q = (p + 1) ∨ q = (p + 2) ∨ q = (p + 3) ∨ q = (p + 4) ∨ q = (p + 6) ∨ q = (p + 7)) ∨ I' q j = I q j) ∧ (∀ q j : Nat, (False) ∨ J' q j = J q j) ∧ r = none)) htb rfl (Nat.le_of_ble_eq_true rfl) ?_
  have N_p_2__p_1 : ¬ ((p + 2) = (p + 1)) := by omega
  have N_p_2__p_3 : ¬ ((p + 2) = (p + 3)) := by omega
  have N_p_2__p_4 : ¬ ((p + 2) = (p + 4)) := by omega
  have N_p_2__p_6 : ¬ ((p + 2) = (p + 6)) := by omega
  have N_p_2__p_7 : ¬ ((p + 2) = (p + 7)) := by omega
  have N_p_2__p : ¬ ((p + 2) = p) := by omega
  have L23 : gv_X (gc_E2 ws0 tb 4 (yX2_build, cX2_build, 7, none) kX2_build) (gv_Q cX2_build none sh (fun r h' => (∃ (I' : gr_I) (J' : gr_J), h' = gc_h sh I' J' A ∧ gc_Inv ro I' ∧ (∀ q j : Nat, ((q = p ∧ j = 6) ∨ (q = p ∧ j = 7) ∨ (q = p ∧ j = 8) ∨ (q = p ∧ j = 9) ∨ q = (p + 1) ∨ q = (p + 2) ∨ q = (p + 3) ∨ q = (p + 4) ∨ q = (p + 6) ∨ q = (p + 7)) ∨ I' q j = I q j) ∧ (∀ q j : Nat, (False) ∨ J' q j = J q j) ∧ r = none))) (23, [(0, .inr (.inr (some p))), (1, .inr (.inr (some a1)))], [], sh, gc_h sh I J A) := by
    have L54 : ∀ (n9 : Nat) (I2 : gr_I) (J3 : gr_J) (v2_4 : Int), (v2_4 - (-2)).toNat < n9 → gc_Inv ro I2 → (∀ q j : Nat, ((q = p ∧ j = 6) ∨ (q = p ∧ j = 7) ∨ (q = p ∧ j = 8) ∨ (q = p ∧ j = 9) ∨ q = (p + 1) ∨ q = (p + 2) ∨ q = (p + 3) ∨ q = (p + 4) ∨ q = (p + 6) ∨ q = (p + 7)) ∨ I2 q j = I q j) → (∀ q j : Nat, (False) ∨ J3 q j = J q j) → (((-1) ≤ v2_4 ∧ v2_4 ≤ 63)) → gv_X (gc_E2 ws0 tb 4 (yX2_build, cX2_build, 7, none) kX2_build) (gv_Q cX2_build none sh (fun r h' => (∃ (I' : gr_I) (J' : gr_J), h' = gc_h sh I' J' A ∧ gc_Inv ro I' ∧ (∀ q j : Nat, ((q = p ∧ j = 6) ∨ (q = p ∧ j = 7) ∨ (q = p ∧ j = 8) ∨ (q = p ∧ j = 9) ∨ q = (p + 1) ∨ q = (p + 2) ∨ q = (p + 3) ∨ q = (p + 4) ∨ q = (p + 6) ∨ q = (p + 7)) ∨ I' q j = I q j) ∧ (∀ q j : Nat, (False) ∨ J' q j = J q j) ∧ r = none))) (54, [(0, .inr (.inr (some p))), (1, .inr (.inr (some a1))), (2, .inl v2_4)], [], sh, gc_h sh I2 J3 A) := by
      intro n9
      induction n9 with
      | zero => intro I2 J3 v2_4 hn; omega
      | succ n9 ih54 =>
        intro I2 J3 v2_4 hn hI2 FI2 FJ3 m_4
        have hv2_4 := m_4
        have L66 : ∀ (n9 : Nat) (I5 : gr_I) (J6 : gr_J) (v3_7 : Int), (v3_7 - (-2)).toNat < n9 → gc_Inv ro I5 → (∀ q j : Nat, ((q = p ∧ j = 6) ∨ (q = p ∧ j = 7) ∨ (q = p ∧ j = 8) ∨ (q = p ∧ j = 9) ∨ q = (p + 1) ∨ q = (p + 2) ∨ q = (p + 3) ∨ q = (p + 4) ∨ q = (p + 6) ∨ q = (p + 7)) ∨ I5 q j = I q j) → (∀ q j : Nat, (False) ∨ J6 q j = J q j) → ((0 ≤ v2_4 ∧ v2_4 ≤ 63) ∧ ((-1) ≤ v3_7 ∧ v3_7 ≤ 23)) → gv_X (gc_E2 ws0 tb 4 (yX2_build, cX2_build, 7, none) kX2_build) (gv_Q cX2_build none sh (fun r h' => (∃ (I' : gr_I) (J' : gr_J), h' = gc_h sh I' J' A ∧ gc_Inv ro I' ∧ (∀ q j : Nat, ((q = p ∧ j = 6) ∨ (q = p ∧ j = 7) ∨ (q = p ∧ j = 8) ∨ (q = p ∧ j = 9) ∨ q = (p + 1) ∨ q = (p + 2) ∨ q = (p + 3) ∨ q = (p + 4) ∨ q = (p + 6) ∨ q = (p + 7)) ∨ I' q j = I q j) ∧ (∀ q j : Nat, (False) ∨ J' q j = J q j) ∧ r = none))) (66, [(0, .inr (.inr (some p))), (1, .inr (.inr (some a1))), (2, .inl v2_4), (3, .inl v3_7)], [], sh, gc_h sh I5 J6 A) := by
          intro n9
          induction n9 with
          | zero => intro I5 J6 v3_7 hn; omega
          | succ n9 ih66 =>
            intro I5 J6 v3_7 hn hI5 FI5 FJ6 m_7
            clear hv2_4
            obtain ⟨hv2_4_7, hv3_7⟩ := m_7
            have L109 : ∀ (I8 : gr_I) (J9 : gr_J) (v4_10 : Int) (s1_10 : Int) (s2_10 : Int), gc_Inv ro I8 → (∀ q j : Nat, ((q = p ∧ j = 6) ∨ (q = p ∧ j = 7) ∨ (q = p ∧ j = 8) ∨ (q = p ∧ j = 9) ∨ q = (p + 1) ∨ q = (p + 2) ∨ q = (p + 3) ∨ q = (p + 4) ∨ q = (p + 6) ∨ q = (p + 7)) ∨ I8 q j = I q j) → (∀ q j : Nat, (False) ∨ J9 q j = J q j) → ((0 ≤ v2_4 ∧ v2_4 ≤ 63) ∧ (0 ≤ v3_7 ∧ v3_7 ≤ 23) ∧ (0 ≤ v4_10 ∧ v4_10 ≤ 1535) ∧ (0 ≤ s1_10 ∧ s1_10 ≤ 1535) ∧ ((-1) ≤ s2_10 ∧ s2_10 ≤ 24)) → gv_X (gc_E2 ws0 tb 4 (yX2_build, cX2_build, 7, none) kX2_build) (gv_Q cX2_build none sh (fun r h' => (∃ (I' : gr_I) (J' : gr_J), h' = gc_h sh I' J' A ∧ gc_Inv ro I' ∧ (∀ q j : Nat, ((q = p ∧ j = 6) ∨ (q = p ∧ j = 7) ∨ (q = p ∧ j = 8) ∨ (q = p ∧ j = 9) ∨ q = (p + 1) ∨ q = (p + 2) ∨ q = (p + 3) ∨ q = (p + 4) ∨ q = (p + 6) ∨ q = (p + 7)) ∨ I' q j = I q j) ∧ (∀ q j : Nat, (False) ∨ J' q j = J q j) ∧ r = none))) (109, [(0, .inr (.inr (some p))), (1, .inr (.inr (some a1))), (2, .inl v2_4), (3, .inl v3_7), (4, .inl v4_10)], [.inl s2_10, .inl s1_10, .inr (.inr (some (p + 2)))], sh, gc_h sh I8 J9 A) := by
              intro I8 J9 v4_10 s1_10 s2_10 hI8 FI8 FJ9 m_10
              clear hv2_4_7 hv3_7
              obtain ⟨hv2_4_10, hv3_7_10, hv4_10, hs1_10, hs2_10⟩ := m_10
              have L184 : ∀ (I11 : gr_I) (J12 : gr_J) , gc_Inv ro I11 → (∀ q j : Nat, ((q = p ∧ j = 6) ∨ (q = p ∧ j = 7) ∨ (q = p ∧ j = 8) ∨ (q = p ∧ j = 9) ∨ q = (p + 1) ∨ q = (p + 2) ∨ q = (p + 3) ∨ q = (p + 4) ∨ q = (p + 6) ∨ q = (p + 7)) ∨ I11 q j = I q j) → (∀ q j : Nat, (False) ∨ J12 q j = J q j) → ((0 ≤ v2_4 ∧ v2_4 ≤ 63) ∧ (0 ≤ v3_7 ∧ v3_7 ≤ 23)) → gv_X (gc_E2 ws0 tb 4 (yX2_build, cX2_build, 7, none) kX2_build) (gv_Q cX2_build none sh (fun r h' => (∃ (I' : gr_I) (J' : gr_J), h' = gc_h sh I' J' A ∧ gc_Inv ro I' ∧ (∀ q j : Nat, ((q = p ∧ j = 6) ∨ (q = p ∧ j = 7) ∨ (q = p ∧ j = 8) ∨ (q = p ∧ j = 9) ∨ q = (p + 1) ∨ q = (p + 2) ∨ q = (p + 3) ∨ q = (p + 4) ∨ q = (p + 6) ∨ q = (p + 7)) ∨ I' q j = I q j) ∧ (∀ q j : Nat, (False) ∨ J' q j = J q j) ∧ r = none))) (184, [(0, .inr (.inr (some p))), (1, .inr (.inr (some a1))), (2, .inl v2_4), (3, .inl v3_7)], [], sh, gc_h sh I11 J12 A) := by
                intro I11 J12 hI11 FI11 FJ12 m_13
                clear hv2_4_10 hv3_7_10 hv4_10 hs1_10 hs2_10
                obtain ⟨hv2_4_13, hv3_7_13⟩ := m_13
                refine gv_run 2 true hD (pc' := 66) (lv' := [(3, .inl (v3_7 + (-1))), (0, .inr (.inr (some p))), (1, .inr (.inr (some a1))), (2, .inl v2_4)]) (st' := []) (h' := gc_h sh I11 J12 A) (C := ((True ∧ True) ∧ True)) rfl ⟨⟨trivial, trivial⟩, trivial⟩ ?_
                refine gv_pick [1, 2, 3, 0] rfl ?_
                exact ih66 I11 J12 ((v3_7 + (-1))) (by omega) hI11 FI11 FJ12 (by omega)
              refine gv_iast hD rfl S_p_2 ⟨by decide, B_p_2⟩ ⟨by omega, by omega⟩ ?_
              refine gc_st hI8 S_p_2 rfl R_p_2 (lo := (-1)) (hi := 24) rfl rfl (by omega) (by omega) (fun I14 hI14 q15 p15 => ?_)
              have FI14 := gc_frs (W := fun q j => (q = p ∧ j = 6) ∨ (q = p ∧ j = 7) ∨ (q = p ∧ j = 8) ∨ (q = p ∧ j = 9) ∨ q = (p + 1) ∨ q = (p + 2) ∨ q = (p + 3) ∨ q = (p + 4) ∨ q = (p + 6) ∨ q = (p + 7)) FI8 (Or.inr (Or.inr (Or.inr (Or.inr (Or.inr (Or.inl rfl)))))) p15
              show gv_X _ _ (110, [(0, .inr (.inr (some p))), (1, .inr (.inr (some a1))), (2, .inl v2_4), (3, .inl v3_7), (4, .inl v4_10)], [], sh, gc_h sh I14 J9 A)
              refine gv_run 1 true hD (pc' := 111) (lv' := [(0, .inr (.inr (some p))), (1, .inr (.inr (some a1))), (2, .inl v2_4), (3, .inl v3_7), (4, .inl v4_10)]) (st' := [.inr (.inr (some p))]) (h' := gc_h sh I14 J9 A) (C := (True ∧ True)) rfl ⟨trivial, trivial⟩ ?_
              refine gv_get hD rfl rfl S_p ⟨by decide, B_p⟩ (gc_hA S_p rfl A_p_2) ?_
              show gv_X _ _ (114, [(0, .inr (.inr (some p))), (1, .inr (.inr (some a1))), (2, .inl v2_4), (3, .inl v3_7), (4, .inl v4_10)], [.inr (.inr (some (p + 2)))], sh, gc_h sh I14 J9 A)
              refine gv_run 1 true hD (pc' := 116) (lv' := [(0, .inr (.inr (some p))), (1, .inr (.inr (some a1))), (2, .inl v2_4), (3, .inl v3_7), (4, .inl v4_10)]) (st' := [.inl v4_10, .inr (.inr (some (p + 2)))]) (h' := gc_h sh I14 J9 A) (C := (True ∧ True)) rfl ⟨trivial, trivial⟩ ?_
              have f16 := (show (-1) ≤ I14 (p + 2) (Int.toNat v4_10) ∧ I14 (p + 2) (Int.toNat v4_10) ≤ 24 from gc_in hI14 R_p_2 rfl rfl)
              refine gv_iald hD rfl S_p_2 rfl ⟨by decide, B_p_2⟩ ⟨by omega, by omega⟩ (gc_iI S_p_2 rfl) ?_
              show gv_X _ _ (117, [(0, .inr (.inr (some p))), (1, .inr (.inr (some a1))), (2, .inl v2_4), (3, .inl v3_7), (4, .inl v4_10)], [.inl (I14 (p + 2) (Int.toNat v4_10))], sh, gc_h sh I14 J9 A)
              refine gv_if_le (t := 184) hD rfl rfl ⟨by omega, by omega⟩ (fun c17 => ?_) (fun c17 => ?_)
              · show gv_X _ _ (184, [(0, .inr (.inr (some p))), (1, .inr (.inr (some a1))), (2, .inl v2_4), (3, .inl v3_7), (4, .inl v4_10)], [], sh, gc_h sh I14 J9 A)
                refine gv_pick [0, 1, 2, 3] rfl ?_
                exact L184 I14 J9 hI14 FI14 FJ9 (by omega)
              · show gv_X _ _ (120, [(0, .inr (.inr (some p))), (1, .inr (.inr (some a1))), (2, .inl v2_4), (3, .inl v3_7), (4, .inl v4_10)], [], sh, gc_h sh I14 J9 A)
                refine gv_run 1 true hD (pc' := 121) (lv' := [(0, .inr (.inr (some p))), (1, .inr (.inr (some a1))), (2, .inl v2_4), (3, .inl v3_7), (4, .inl v4_10)]) (st' := [.inr (.inr (some p))]) (h' := gc_h sh I14 J9 A) (C := (True ∧ True)) rfl ⟨trivial, trivial⟩ ?_
                have f19 := (show 0 ≤ I14 p 6 ∧ I14 p 6 ≤ 1 from gc_in hI14 R_p rfl rfl)
                obtain ⟨f18_, hq_f18_, S_f18, R_f18, B_f18, D_f18⟩ := gc_sw (p := p) (d := 6) (s := 1) (z := I14 p 6) (show 0 ≤ I14 p 6 ∧ I14 p 6 ≤ 1 from gc_in hI14 R_p rfl rfl) S_p_6 R_p_6 B_p_6 S_p_7 R_p_7 B_p_7
                refine gv_get hD rfl rfl S_p ⟨by decide, B_p⟩ (gc_hS (n := 6) S_p rfl hq_f18_) ?_
                show gv_X _ _ (124, [(0, .inr (.inr (some p))), (1, .inr (.inr (some a1))), (2, .inl v2_4), (3, .inl v3_7), (4, .inl v4_10)], [.inr (.inr (some f18_))], sh, gc_h sh I14 J9 A)
                refine gv_run 2 true hD (pc' := 126) (lv' := [(0, .inr (.inr (some p))), (1, .inr (.inr (some a1))), (2, .inl v2_4), (3, .inl v3_7), (4, .inl v4_10)]) (st' := [.inr (.inr (some p)), .inl 0, .inr (.inr (some f18_))]) (h' := gc_h sh I14 J9 A) (C := ((True ∧ True) ∧ True)) rfl ⟨⟨trivial, trivial⟩, trivial⟩ ?_
                refine gv_get hD rfl rfl S_p ⟨by decide, B_p⟩ (gc_hA S_p rfl A_p_1) ?_
                show gv_X _ _ (129, [(0, .inr (.inr (some p))), (1, .inr (.inr (some a1))), (2, .inl v2_4), (3, .inl v3_7), (4, .inl v4_10)], [.inr (.inr (some (p + 1))), .inl 0, .inr (.inr (some f18_))], sh, gc_h sh I14 J9 A)
                refine gv_run 4 true hD (pc' := 135) (lv' := [(0, .inr (.inr (some p))), (1, .inr (.inr (some a1))), (2, .inl v2_4), (3, .inl v3_7), (4, .inl v4_10)]) (st' := [.inr (.inr (some p)), .inl (v4_10 * 24), .inr (.inr (some (p + 1))), .inl 0, .inr (.inr (some f18_))]) (h' := gc_h sh I14 J9 A) (C := ((((True ∧ True) ∧ True) ∧ True) ∧ True)) rfl ⟨⟨⟨⟨trivial, trivial⟩, trivial⟩, trivial⟩, trivial⟩ ?_
                refine gv_get hD rfl rfl S_p ⟨by decide, B_p⟩ (gc_hA S_p rfl A_p_2) ?_
                show gv_X _ _ (138, [(0, .inr (.inr (some p))), (1, .inr (.inr (some a1))), (2, .inl v2_4), (3, .inl v3_7), (4, .inl v4_10)], [.inr (.inr (some (p + 2))), .inl (v4_10 * 24), .inr (.inr (some (p + 1))), .inl 0, .inr (.inr (some f18_))], sh, gc_h sh I14 J9 A)
                refine gv_run 1 true hD (pc' := 140) (lv' := [(0, .inr (.inr (some p))), (1, .inr (.inr (some a1))), (2, .inl v2_4), (3, .inl v3_7), (4, .inl v4_10)]) (st' := [.inl v4_10, .inr (.inr (some (p + 2))), .inl (v4_10 * 24), .inr (.inr (some (p + 1))), .inl 0, .inr (.inr (some f18_))]) (h' := gc_h sh I14 J9 A) (C := (True ∧ True)) rfl ⟨trivial, trivial⟩ ?_
                have f20 := (show (-1) ≤ I14 (p + 2) (Int.toNat v4_10) ∧ I14 (p + 2) (Int.toNat v4_10) ≤ 24 from gc_in hI14 R_p_2 rfl rfl)
                refine gv_iald hD rfl S_p_2 rfl ⟨by decide, B_p_2⟩ ⟨by omega, by omega⟩ (gc_iI S_p_2 rfl) ?_
                show gv_X _ _ (141, [(0, .inr (.inr (some p))), (1, .inr (.inr (some a1))), (2, .inl v2_4), (3, .inl v3_7), (4, .inl v4_10)], [.inl (I14 (p + 2) (Int.toNat v4_10)), .inl (v4_10 * 24), .inr (.inr (some (p + 1))), .inl 0, .inr (.inr (some f18_))], sh, gc_h sh I14 J9 A)
                refine gv_copy hD rfl (gc_lC2_71 hws) (Nat.le_of_ble_eq_true rfl) ⟨B_f18, B_p_1⟩ S_f18 S_p_1 (by decide) ⟨by decide, by decide⟩ ⟨by omega, by omega, by omega⟩ (by omega) (by omega) (fun _ k _ => by rw [gc_iI S_f18 rfl]; have h9 := (show (-128) ≤ I14 f18_ (Int.toNat 0 + k) ∧ I14 f18_ (Int.toNat 0 + k) ≤ 127 from gc_in hI14 R_f18 rfl rfl); exact ⟨by omega, by omega⟩) ?_
                refine gc_cp hI14 S_f18 S_p_1 (by decide) (fun j hj => by have h9 := (show (-128) ≤ I14 f18_ (Int.toNat 0 + j) ∧ I14 f18_ (Int.toNat 0 + j) ≤ 127 from gc_in hI14 R_f18 rfl rfl); rw [R_p_1]; exact ⟨by show (-128) ≤ _; omega, by show _ ≤ 127; omega⟩) (fun I22 hI22 p21 q21 => ?_)
                have FI22 := gc_frp (W := fun q j => (q = p ∧ j = 6) ∨ (q = p ∧ j = 7) ∨ (q = p ∧ j = 8) ∨ (q = p ∧ j = 9) ∨ q = (p + 1) ∨ q = (p + 2) ∨ q = (p + 3) ∨ q = (p + 4) ∨ q = (p + 6) ∨ q = (p + 7)) (V := fun q j => q = (p + 1) ∧ Int.toNat (v4_10 * 24) ≤ j ∧ j < Int.toNat (v4_10 * 24) + Int.toNat ((I14 (p + 2) (Int.toNat v4_10)))) FI14 (fun q j h => (Or.inr (Or.inr (Or.inr (Or.inr (Or.inl h.1)))))) p21
                have t24 := p21 (p + 2) (Int.toNat v4_10) (fun h => absurd h.1 N_p_2__p_1)
                show gv_X _ _ (144, [(0, .inr (.inr (some p))), (1, .inr (.inr (some a1))), (2, .inl v2_4), (3, .inl v3_7), (4, .inl v4_10)], [], sh, gc_h sh I22 J9 A)
                refine gv_run 1 true hD (pc' := 145) (lv' := [(0, .inr (.inr (some p))), (1, .inr (.inr (some a1))), (2, .inl v2_4), (3, .inl v3_7), (4, .inl v4_10)]) (st' := [.inr (.inr (some p))]) (h' := gc_h sh I22 J9 A) (C := (True ∧ True)) rfl ⟨trivial, trivial⟩ ?_
                have f26 := (show 0 ≤ I22 p 6 ∧ I22 p 6 ≤ 1 from gc_in hI22 R_p rfl rfl)
                obtain ⟨f25_, hq_f25_, S_f25, R_f25, B_f25, D_f25⟩ := gc_sw (p := p) (d := 6) (s := 1) (z := I22 p 6) (show 0 ≤ I22 p 6 ∧ I22 p 6 ≤ 1 from gc_in hI22 R_p rfl rfl) S_p_6 R_p_6 B_p_6 S_p_7 R_p_7 B_p_7
                refine gv_get hD rfl rfl S_p ⟨by decide, B_p⟩ (gc_hS (n := 6) S_p rfl hq_f25_) ?_
                show gv_X _ _ (148, [(0, .inr (.inr (some p))), (1, .inr (.inr (some a1))), (2, .inl v2_4), (3, .inl v3_7), (4, .inl v4_10)], [.inr (.inr (some f25_))], sh, gc_h sh I22 J9 A)
                refine gv_run 2 true hD (pc' := 150) (lv' := [(0, .inr (.inr (some p))), (1, .inr (.inr (some a1))), (2, .inl v2_4), (3, .inl v3_7), (4, .inl v4_10)]) (st' := [.inr (.inr (some p)), .inl 0, .inr (.inr (some f25_))]) (h' := gc_h sh I22 J9 A) (C := ((True ∧ True) ∧ True)) rfl ⟨⟨trivial, trivial⟩, trivial⟩ ?_
                refine gv_get hD rfl rfl S_p ⟨by decide, B_p⟩ (gc_hA S_p rfl A_p_2) ?_
                show gv_X _ _ (153, [(0, .inr (.inr (some p))), (1, .inr (.inr (some a1))), (2, .inl v2_4), (3, .inl v3_7), (4, .inl v4_10)], [.inr (.inr (some (p + 2))), .inl 0, .inr (.inr (some f25_))], sh, gc_h sh I22 J9 A)
                refine gv_run 1 true hD (pc' := 155) (lv' := [(0, .inr (.inr (some p))), (1, .inr (.inr (some a1))), (2, .inl v2_4), (3, .inl v3_7), (4, .inl v4_10)]) (st' := [.inl v4_10, .inr (.inr (some (p + 2))), .inl 0, .inr (.inr (some f25_))]) (h' := gc_h sh I22 J9 A) (C := (True ∧ True)) rfl ⟨trivial, trivial⟩ ?_
                have f27 := (show (-1) ≤ I22 (p + 2) (Int.toNat v4_10) ∧ I22 (p + 2) (Int.toNat v4_10) ≤ 24 from gc_in hI22 R_p_2 rfl rfl)
                refine gv_iald hD rfl S_p_2 rfl ⟨by decide, B_p_2⟩ ⟨by omega, by omega⟩ (gc_iI S_p_2 rfl) ?_
                show gv_X _ _ (156, [(0, .inr (.inr (some p))), (1, .inr (.inr (some a1))), (2, .inl v2_4), (3, .inl v3_7), (4, .inl v4_10)], [.inl (I22 (p + 2) (Int.toNat v4_10)), .inl 0, .inr (.inr (some f25_))], sh, gc_h sh I22 J9 A)
                obtain ⟨r28, h28, E28, P28⟩ := d_X2_hash (ws0 := ws0) (tb := tb) hws htb sh ro I22 J9 A hI22  24 f25_ 0 ((I22 (p + 2) (Int.toNat v4_10)))  S_f25 R_f25 B_f25 (by decide)  ⟨by omega, by omega⟩ ⟨by omega, by omega⟩ (by omega) 
                obtain ⟨rfl, ⟨z28, rfl, q28⟩⟩ := P28
                refine gv_callS hD rfl (As := [.inr (.inr (some f25_)), .inl 0, .inl (I22 (p + 2) (Int.toNat v4_10))]) (st := []) rfl (gc_lS2 hws rfl) (Nat.le_of_ble_eq_true rfl) (gz_Ev_mono (d := 1) (by decide) E28) ?_
                show gv_X _ _ (159, [(0, .inr (.inr (some p))), (1, .inr (.inr (some a1))), (2, .inl v2_4), (3, .inl v3_7), (4, .inl v4_10)], [.inl z28], sh, gc_h sh I22 J9 A)
                refine gv_run 2 true hD (pc' := 162) (lv' := [(6, .inl z28), (0, .inr (.inr (some p))), (1, .inr (.inr (some a1))), (2, .inl v2_4), (3, .inl v3_7), (4, .inl v4_10)]) (st' := [.inr (.inr (some p))]) (h' := gc_h sh I22 J9 A) (C := ((True ∧ True) ∧ True)) rfl ⟨⟨trivial, trivial⟩, trivial⟩ ?_
                refine gv_get hD rfl rfl S_p ⟨by decide, B_p⟩ (gc_hA S_p rfl A_p_3) ?_
                show gv_X _ _ (165, [(6, .inl z28), (0, .inr (.inr (some p))), (1, .inr (.inr (some a1))), (2, .inl v2_4), (3, .inl v3_7), (4, .inl v4_10)], [.inr (.inr (some (p + 3)))], sh, gc_h sh I22 J9 A)
                refine gv_run 2 true hD (pc' := 168) (lv' := [(6, .inl z28), (0, .inr (.inr (some p))), (1, .inr (.inr (some a1))), (2, .inl v2_4), (3, .inl v3_7), (4, .inl v4_10)]) (st' := [.inr (.inr (some p)), .inl v4_10, .inr (.inr (some (p + 3)))]) (h' := gc_h sh I22 J9 A) (C := ((True ∧ True) ∧ True)) rfl ⟨⟨trivial, trivial⟩, trivial⟩ ?_
                refine gv_get hD rfl rfl S_p ⟨by decide, B_p⟩ (gc_hA S_p rfl A_p_4) ?_
                show gv_X _ _ (171, [(6, .inl z28), (0, .inr (.inr (some p))), (1, .inr (.inr (some a1))), (2, .inl v2_4), (3, .inl v3_7), (4, .inl v4_10)], [.inr (.inr (some (p + 4))), .inl v4_10, .inr (.inr (some (p + 3)))], sh, gc_h sh I22 J9 A)
                refine gv_run 1 true hD (pc' := 173) (lv' := [(6, .inl z28), (0, .inr (.inr (some p))), (1, .inr (.inr (some a1))), (2, .inl v2_4), (3, .inl v3_7), (4, .inl v4_10)]) (st' := [.inl z28, .inr (.inr (some (p + 4))), .inl v4_10, .inr (.inr (some (p + 3)))]) (h' := gc_h sh I22 J9 A) (C := (True ∧ True)) rfl ⟨trivial, trivial⟩ ?_
                have f29 := (show (-1) ≤ I22 (p + 4) (Int.toNat z28) ∧ I22 (p + 4) (Int.toNat z28) ≤ 1535 from gc_in hI22 R_p_4 rfl rfl)
                refine gv_iald hD rfl S_p_4 rfl ⟨by decide, B_p_4⟩ ⟨by omega, by omega⟩ (gc_iI S_p_4 rfl) ?_
                show gv_X _ _ (174, [(6, .inl z28), (0, .inr (.inr (some p))), (1, .inr (.inr (some a1))), (2, .inl v2_4), (3, .inl v3_7), (4, .inl v4_10)], [.inl (I22 (p + 4) (Int.toNat z28)), .inl v4_10, .inr (.inr (some (p + 3)))], sh, gc_h sh I22 J9 A)
                refine gv_iast hD rfl S_p_3 ⟨by decide, B_p_3⟩ ⟨by omega, by omega⟩ ?_
                refine gc_st hI22 S_p_3 rfl R_p_3 (lo := (-1)) (hi := 1535) rfl rfl (by omega) (by omega) (fun I30 hI30 q31 p31 => ?_)
                have FI30 := gc_frs (W := fun q j => (q = p ∧ j = 6) ∨ (q = p ∧ j = 7) ∨ (q = p ∧ j = 8) ∨ (q = p ∧ j = 9) ∨ q = (p + 1) ∨ q = (p + 2) ∨ q = (p + 3) ∨ q = (p + 4) ∨ q = (p + 6) ∨ q = (p + 7)) FI22 (Or.inr (Or.inr (Or.inr (Or.inr (Or.inr (Or.inr (Or.inl rfl))))))) p31
                have t32 := p31 (p + 2) (Int.toNat v4_10) (fun h => absurd h.1 N_p_2__p_3)
                show gv_X _ _ (175, [(6, .inl z28), (0, .inr (.inr (some p))), (1, .inr (.inr (some a1))), (2, .inl v2_4), (3, .inl v3_7), (4, .inl v4_10)], [], sh, gc_h sh I30 J9 A)
                refine gv_run 1 true hD (pc' := 176) (lv' := [(6, .inl z28), (0, .inr (.inr (some p))), (1, .inr (.inr (some a1))), (2, .inl v2_4), (3, .inl v3_7), (4, .inl v4_10)]) (st' := [.inr (.inr (some p))]) (h' := gc_h sh I30 J9 A) (C := (True ∧ True)) rfl ⟨trivial, trivial⟩ ?_
                refine gv_get hD rfl rfl S_p ⟨by decide, B_p⟩ (gc_hA S_p rfl A_p_4) ?_
                show gv_X _ _ (179, [(6, .inl z28), (0, .inr (.inr (some p))), (1, .inr (.inr (some a1))), (2, .inl v2_4), (3, .inl v3_7), (4, .inl v4_10)], [.inr (.inr (some (p + 4)))], sh, gc_h sh I30 J9 A)
                refine gv_run 2 true hD (pc' := 183) (lv' := [(6, .inl z28), (0, .inr (.inr (some p))), (1, .inr (.inr (some a1))), (2, .inl v2_4), (3, .inl v3_7), (4, .inl v4_10)]) (st' := [.inl v4_10, .inl z28, .inr (.inr (some (p + 4)))]) (h' := gc_h sh I30 J9 A) (C := ((True ∧ True) ∧ True)) rfl ⟨⟨trivial, trivial⟩, trivial⟩ ?_
                refine gv_iast hD rfl S_p_4 ⟨by decide, B_p_4⟩ ⟨by omega, by omega⟩ ?_
                refine gc_st hI30 S_p_4 rfl R_p_4 (lo := (-1)) (hi := 1535) rfl rfl (by omega) (by omega) (fun I33 hI33 q34 p34 => ?_)
                have FI33 := gc_frs (W := fun q j => (q = p ∧ j = 6) ∨ (q = p ∧ j = 7) ∨ (q = p ∧ j = 8) ∨ (q = p ∧ j = 9) ∨ q = (p + 1) ∨ q = (p + 2) ∨ q = (p + 3) ∨ q = (p + 4) ∨ q = (p + 6) ∨ q = (p + 7)) FI30 (Or.inr (Or.inr (Or.inr (Or.inr (Or.inr (Or.inr (Or.inr (Or.inl rfl)))))))) p34
                have t35 := p34 (p + 2) (Int.toNat v4_10) (fun h => absurd h.1 N_p_2__p_4)
                show gv_X _ _ (184, [(6, .inl z28), (0, .inr (.inr (some p))), (1, .inr (.inr (some a1))), (2, .inl v2_4), (3, .inl v3_7), (4, .inl v4_10)], [], sh, gc_h sh I33 J9 A)
                refine gv_pick [1, 2, 3, 4] rfl ?_
                exact L184 I33 J9 hI33 FI33 FJ9 (by omega)
            refine gv_run 1 true hD (pc' := 67) (lv' := [(0, .inr (.inr (some p))), (1, .inr (.inr (some a1))), (2, .inl v2_4), (3, .inl v3_7)]) (st' := [.inl v3_7]) (h' := gc_h sh I5 J6 A) (C := (True ∧ True)) rfl ⟨trivial, trivial⟩ ?_
            refine gv_if_lt (t := 190) hD rfl rfl ⟨by omega, by omega⟩ (fun c36 => ?_) (fun c36 => ?_)
            · show gv_X _ _ (190, [(0, .inr (.inr (some p))), (1, .inr (.inr (some a1))), (2, .inl v2_4), (3, .inl v3_7)], [], sh, gc_h sh I5 J6 A)
              refine gv_run 2 true hD (pc' := 54) (lv' := [(2, .inl (v2_4 + (-1))), (0, .inr (.inr (some p))), (1, .inr (.inr (some a1))), (3, .inl v3_7)]) (st' := []) (h' := gc_h sh I5 J6 A) (C := ((True ∧ True) ∧ True)) rfl ⟨⟨trivial, trivial⟩, trivial⟩ ?_
              refine gv_pick [1, 2, 0] rfl ?_
              exact ih54 I5 J6 ((v2_4 + (-1))) (by omega) hI5 FI5 FJ6 (by omega)
            · show gv_X _ _ (70, [(0, .inr (.inr (some p))), (1, .inr (.inr (some a1))), (2, .inl v2_4), (3, .inl v3_7)], [], sh, gc_h sh I5 J6 A)
              refine gv_run 7 true hD (pc' := 79) (lv' := [(4, .inl ((v2_4 * 24) + v3_7)), (0, .inr (.inr (some p))), (1, .inr (.inr (some a1))), (2, .inl v2_4), (3, .inl v3_7)]) (st' := [.inr (.inr (some p))]) (h' := gc_h sh I5 J6 A) (C := (((((((True ∧ True) ∧ True) ∧ True) ∧ True) ∧ True) ∧ True) ∧ True)) rfl ⟨⟨⟨⟨⟨⟨⟨trivial, trivial⟩, trivial⟩, trivial⟩, trivial⟩, trivial⟩, trivial⟩, trivial⟩ ?_
              refine gv_run 3 true hD (pc' := 82) (lv' := [(4, .inl ((v2_4 * 24) + v3_7)), (0, .inr (.inr (some p))), (1, .inr (.inr (some a1))), (2, .inl v2_4), (3, .inl v3_7)]) (st' := [.inl v3_7, .inl v2_4, .inr (.inr (some a1)), .inr (.inr (some p))]) (h' := gc_h sh I5 J6 A) (C := (((True ∧ True) ∧ True) ∧ True)) rfl ⟨⟨⟨trivial, trivial⟩, trivial⟩, trivial⟩ ?_
              obtain ⟨r37, h37, E37, P37⟩ := d_X2_join (ws0 := ws0) (tb := tb) hws htb sh ro I5 J6 A hI5 p a1 v2_4 v3_7 hp h_a1 G_a1  ⟨by omega, by omega⟩ ⟨by omega, by omega⟩ (by omega) 
              obtain ⟨I38, J39, rfl, hI38, g37, k37, ⟨z37, rfl, q37⟩⟩ := P37
              have FI38 := gc_frc (W := fun q j => (q = p ∧ j = 6) ∨ (q = p ∧ j = 7) ∨ (q = p ∧ j = 8) ∨ (q = p ∧ j = 9) ∨ q = (p + 1) ∨ q = (p + 2) ∨ q = (p + 3) ∨ q = (p + 4) ∨ q = (p + 6) ∨ q = (p + 7)) (V := fun q j => q = (p + 6) ∨ q = (p + 7)) FI5 (fun q j h => (h.elim (fun h => (Or.inr (Or.inr (Or.inr (Or.inr (Or.inr (Or.inr (Or.inr (Or.inr (Or.inl h)))))))))) (fun h => (Or.inr (Or.inr (Or.inr (Or.inr (Or.inr (Or.inr (Or.inr (Or.inr (Or.inr h)))))))))))) g37
              have t40 := (g37 (p + 2) (Int.toNat (((v2_4 * 24) + v3_7)))).resolve_left (fun h => h.elim (fun h => absurd h N_p_2__p_6) (fun h => absurd h N_p_2__p_7))
              obtain rfl : J6 = J39 := funext fun q => funext fun j => ((k37 q j).resolve_left id).symm
              refine gv_callV hD rfl (As := [.inr (.inr (some a1)), .inl v2_4, .inl v3_7]) (st := []) rfl B_p S_p rfl (gc_lV2 hws rfl) (Nat.le_of_ble_eq_true rfl) (gz_Ev_mono (d := 2) (by decide) E37) ?_
              show gv_X _ _ (85, [(4, .inl ((v2_4 * 24) + v3_7)), (0, .inr (.inr (some p))), (1, .inr (.inr (some a1))), (2, .inl v2_4), (3, .inl v3_7)], [.inl z37], sh, gc_h sh I38 J6 A)
              refine gv_run 2 true hD (pc' := 88) (lv' := [(5, .inl z37), (4, .inl ((v2_4 * 24) + v3_7)), (0, .inr (.inr (some p))), (1, .inr (.inr (some a1))), (2, .inl v2_4), (3, .inl v3_7)]) (st' := [.inr (.inr (some p))]) (h' := gc_h sh I38 J6 A) (C := ((True ∧ True) ∧ True)) rfl ⟨⟨trivial, trivial⟩, trivial⟩ ?_
              refine gv_get hD rfl rfl S_p ⟨by decide, B_p⟩ (gc_hA S_p rfl A_p_2) ?_
              show gv_X _ _ (91, [(5, .inl z37), (4, .inl ((v2_4 * 24) + v3_7)), (0, .inr (.inr (some p))), (1, .inr (.inr (some a1))), (2, .inl v2_4), (3, .inl v3_7)], [.inr (.inr (some (p + 2)))], sh, gc_h sh I38 J6 A)
              refine gv_run 2 true hD (pc' := 95) (lv' := [(5, .inl z37), (4, .inl ((v2_4 * 24) + v3_7)), (0, .inr (.inr (some p))), (1, .inr (.inr (some a1))), (2, .inl v2_4), (3, .inl v3_7)]) (st' := [.inl z37, .inl ((v2_4 * 24) + v3_7), .inr (.inr (some (p + 2)))]) (h' := gc_h sh I38 J6 A) (C := ((True ∧ True) ∧ True)) rfl ⟨⟨trivial, trivial⟩, trivial⟩ ?_
              refine gv_if_le (t := 108) hD rfl rfl ⟨by omega, by omega⟩ (fun c41 => ?_) (fun c41 => ?_)
              · show gv_X _ _ (108, [(5, .inl z37), (4, .inl ((v2_4 * 24) + v3_7)), (0, .inr (.inr (some p))), (1, .inr (.inr (some a1))), (2, .inl v2_4), (3, .inl v3_7)], [.inl ((v2_4 * 24) + v3_7), .inr (.inr (some (p + 2)))], sh, gc_h sh I38 J6 A)
                refine gv_run 1 true hD (pc' := 109) (lv' := [(5, .inl z37), (4, .inl ((v2_4 * 24) + v3_7)), (0, .inr (.inr (some p))), (1, .inr (.inr (some a1))), (2, .inl v2_4), (3, .inl v3_7)]) (st' := [.inl (-1), .inl ((v2_4 * 24) + v3_7), .inr (.inr (some (p + 2)))]) (h' := gc_h sh I38 J6 A) (C := (True ∧ True)) rfl ⟨trivial, trivial⟩ ?_
                refine gv_pick [2, 3, 4, 5, 1] rfl ?_
                exact L109 I38 J6 (((v2_4 * 24) + v3_7)) (((v2_4 * 24) + v3_7)) (-1) hI38 FI38 FJ6 (by omega)
              · show gv_X _ _ (98, [(5, .inl z37), (4, .inl ((v2_4 * 24) + v3_7)), (0, .inr (.inr (some p))), (1, .inr (.inr (some a1))), (2, .inl v2_4), (3, .inl v3_7)], [.inl ((v2_4 * 24) + v3_7), .inr (.inr (some (p + 2)))], sh, gc_h sh I38 J6 A)
                refine gv_run 3 true hD (pc' := 102) (lv' := [(5, .inl z37), (4, .inl ((v2_4 * 24) + v3_7)), (0, .inr (.inr (some p))), (1, .inr (.inr (some a1))), (2, .inl v2_4), (3, .inl v3_7)]) (st' := [.inl z37, .inr (.inr (some a1)), .inr (.inr (some p)), .inl ((v2_4 * 24) + v3_7), .inr (.inr (some (p + 2)))]) (h' := gc_h sh I38 J6 A) (C := (((True ∧ True) ∧ True) ∧ True)) rfl ⟨⟨⟨trivial, trivial⟩, trivial⟩, trivial⟩ ?_
                obtain ⟨r42, h42, E42, P42⟩ := d_X2_soundAll (ws0 := ws0) (tb := tb) hws htb sh ro I38 J6 A hI38 p a1 z37 hp h_a1 G_a1  ⟨by omega, by omega⟩ (gc_sc_fr x0 (fun k => (FI38 (a1 + 10) k).resolve_left (by omega))) (by omega) 
                obtain ⟨I43, J44, rfl, hI43, g42, k42, ⟨z42, rfl, q42⟩⟩ := P42
                have FI43 := gc_frc (W := fun q j => (q = p ∧ j = 6) ∨ (q = p ∧ j = 7) ∨ (q = p ∧ j = 8) ∨ (q = p ∧ j = 9) ∨ q = (p + 1) ∨ q = (p + 2) ∨ q = (p + 3) ∨ q = (p + 4) ∨ q = (p + 6) ∨ q = (p + 7)) (V := fun q j => (q = p ∧ j = 6) ∨ (q = p ∧ j = 7) ∨ q = (p + 6) ∨ q = (p + 7)) FI38 (fun q j h => (h.elim (fun h => (Or.inl h)) (fun h => (h.elim (fun h => (Or.inr (Or.inl h))) (fun h => (h.elim (fun h => (Or.inr (Or.inr (Or.inr (Or.inr (Or.inr (Or.inr (Or.inr (Or.inr (Or.inl h)))))))))) (fun h => (Or.inr (Or.inr (Or.inr (Or.inr (Or.inr (Or.inr (Or.inr (Or.inr (Or.inr h)))))))))))))))) g42
                have t45 := (g42 (p + 2) (Int.toNat (((v2_4 * 24) + v3_7)))).resolve_left (fun h => h.elim (fun h => absurd h.1 N_p_2__p) (fun h => h.elim (fun h => absurd h.1 N_p_2__p) (fun h => h.elim (fun h => absurd h N_p_2__p_6) (fun h => absurd h N_p_2__p_7))))
                obtain rfl : J6 = J44 := funext fun q => funext fun j => ((k42 q j).resolve_left id).symm
                refine gv_callV hD rfl (As := [.inr (.inr (some a1)), .inl z37]) (st := [.inl ((v2_4 * 24) + v3_7), .inr (.inr (some (p + 2)))]) rfl B_p S_p rfl (gc_lV2 hws rfl) (Nat.le_of_ble_eq_true rfl) (gz_Ev_mono (d := 4) (by decide) E42) ?_
                show gv_X _ _ (105, [(5, .inl z37), (4, .inl ((v2_4 * 24) + v3_7)), (0, .inr (.inr (some p))), (1, .inr (.inr (some a1))), (2, .inl v2_4), (3, .inl v3_7)], [.inl z42, .inl ((v2_4 * 24) + v3_7), .inr (.inr (some (p + 2)))], sh, gc_h sh I43 J6 A)
                refine gv_run 1 true hD (pc' := 109) (lv' := [(5, .inl z37), (4, .inl ((v2_4 * 24) + v3_7)), (0, .inr (.inr (some p))), (1, .inr (.inr (some a1))), (2, .inl v2_4), (3, .inl v3_7)]) (st' := [.inl z42, .inl ((v2_4 * 24) + v3_7), .inr (.inr (some (p + 2)))]) (h' := gc_h sh I43 J6 A) (C := (True ∧ True)) rfl ⟨trivial, trivial⟩ ?_
                refine gv_pick [2, 3, 4, 5, 1] rfl ?_
                exact L109 I43 J6 (((v2_4 * 24) + v3_7)) (((v2_4 * 24) + v3_7)) z42 hI43 FI43 FJ6 (by omega)
        refine gv_run 1 true hD (pc' := 55) (lv' := [(0, .inr (.inr (some p))), (1, .inr (.inr (some a1))), (2, .inl v2_4)]) (st' := [.inl v2_4]) (h' := gc_h sh I2 J3 A) (C := (True ∧ True)) rfl ⟨trivial, trivial⟩ ?_
        refine gv_if_lt (t := 196) hD rfl rfl ⟨by omega, by omega⟩ (fun c46 => ?_) (fun c46 => ?_)
        · show gv_X _ _ (196, [(0, .inr (.inr (some p))), (1, .inr (.inr (some a1))), (2, .inl v2_4)], [], sh, gc_h sh I2 J3 A)
          exact gv_vret hD rfl ⟨I2, J3, rfl, hI2, FI2, FJ3, rfl⟩
        · show gv_X _ _ (58, [(0, .inr (.inr (some p))), (1, .inr (.inr (some a1))), (2, .inl v2_4)], [], sh, gc_h sh I2 J3 A)
          refine gv_run 2 true hD (pc' := 60) (lv' := [(0, .inr (.inr (some p))), (1, .inr (.inr (some a1))), (2, .inl v2_4)]) (st' := [.inl v2_4, .inr (.inr (some a1))]) (h' := gc_h sh I2 J3 A) (C := ((True ∧ True) ∧ True)) rfl ⟨⟨trivial, trivial⟩, trivial⟩ ?_
          obtain ⟨r47, h47, E47, P47⟩ := d_X11_cellsOf (ws0 := ws0) (tb := tb) hws htb sh ro I2 J3 A hI2 a1 v2_4 h_a1   ⟨by omega, by omega⟩  
          obtain ⟨rfl, ⟨z47, rfl, q47⟩⟩ := P47
          refine gv_callV hD rfl (As := [.inl v2_4]) (st := []) rfl B_a1 S_a1 rfl (gc_lV2 hws rfl) (Nat.le_of_ble_eq_true rfl) (gz_Ev_mono (d := 2) (by decide) E47) ?_
          show gv_X _ _ (63, [(0, .inr (.inr (some p))), (1, .inr (.inr (some a1))), (2, .inl v2_4)], [.inl z47], sh, gc_h sh I2 J3 A)
          refine gv_run 3 true hD (pc' := 66) (lv' := [(3, .inl (z47 - 1)), (0, .inr (.inr (some p))), (1, .inr (.inr (some a1))), (2, .inl v2_4)]) (st' := []) (h' := gc_h sh I2 J3 A) (C := (((True ∧ True) ∧ True) ∧ True)) rfl ⟨⟨⟨trivial, trivial⟩, trivial⟩, trivial⟩ ?_
          refine gv_pick [1, 2, 3, 0] rfl ?_
          exact L66 _ I2 J3 (z47 - 1) (Nat.lt_succ_self _) hI2 FI2 FJ3 (by omega)
    refine gv_run 2 true hD (pc' := 25) (lv' := [(0, .inr (.inr (some p))), (1, .inr (.inr (some a1)))]) (st' := [.inr (.inr (some a1)), .inr (.inr (some p))]) (h' := gc_h sh I J A) (C := ((True ∧ True) ∧ True)) rfl ⟨⟨trivial, trivial⟩, trivial⟩ ?_
    have f48 := (show 0 ≤ I a1 11 ∧ I a1 11 ≤ 64 from gc_in hI R_a1 rfl rfl)
    refine gv_get hD rfl rfl S_a1 ⟨by decide, B_a1⟩ (gc_hI S_a1 rfl) ?_
    show gv_X _ _ (28, [(0, .inr (.inr (some p))), (1, .inr (.inr (some a1)))], [.inl (I a1 11), .inr (.inr (some p))], sh, gc_h sh I J A)
    refine gv_put hD rfl rfl S_p ⟨by decide, B_p⟩ rfl trivial ?_
    refine gc_st (k := 8) hI S_p rfl R_p (lo := 0) (hi := 64) rfl rfl (by omega) (by omega) (fun I49 hI49 q50 p50 => ?_)
    have FI49 := gc_frs (W := fun q j => (q = p ∧ j = 6) ∨ (q = p ∧ j = 7) ∨ (q = p ∧ j = 8) ∨ (q = p ∧ j = 9) ∨ q = (p + 1) ∨ q = (p + 2) ∨ q = (p + 3) ∨ q = (p + 4) ∨ q = (p + 6) ∨ q = (p + 7)) FI (Or.inr (Or.inr (Or.inl ⟨rfl, rfl⟩))) p50
    show gv_X _ _ (31, [(0, .inr (.inr (some p))), (1, .inr (.inr (some a1)))], [], sh, gc_h sh I49 J A)
    refine gv_run 2 true hD (pc' := 33) (lv' := [(0, .inr (.inr (some p))), (1, .inr (.inr (some a1)))]) (st' := [.inr (.inr (some a1)), .inr (.inr (some p))]) (h' := gc_h sh I49 J A) (C := ((True ∧ True) ∧ True)) rfl ⟨⟨trivial, trivial⟩, trivial⟩ ?_
    have f51 := (show 0 ≤ I49 a1 6 ∧ I49 a1 6 ≤ 24 from gc_in hI49 R_a1 rfl rfl)
    refine gv_get hD rfl rfl S_a1 ⟨by decide, B_a1⟩ (gc_hI S_a1 rfl) ?_
    show gv_X _ _ (36, [(0, .inr (.inr (some p))), (1, .inr (.inr (some a1)))], [.inl (I49 a1 6), .inr (.inr (some p))], sh, gc_h sh I49 J A)
    refine gv_put hD rfl rfl S_p ⟨by decide, B_p⟩ rfl trivial ?_
    refine gc_st (k := 9) hI49 S_p rfl R_p (lo := 0) (hi := 24) rfl rfl (by omega) (by omega) (fun I52 hI52 q53 p53 => ?_)
    have FI52 := gc_frs (W := fun q j => (q = p ∧ j = 6) ∨ (q = p ∧ j = 7) ∨ (q = p ∧ j = 8) ∨ (q = p ∧ j = 9) ∨ q = (p + 1) ∨ q = (p + 2) ∨ q = (p + 3) ∨ q = (p + 4) ∨ q = (p + 6) ∨ q = (p + 7)) FI49 (Or.inr (Or.inr (Or.inr (Or.inl ⟨rfl, rfl⟩)))) p53
    show gv_X _ _ (39, [(0, .inr (.inr (some p))), (1, .inr (.inr (some a1)))], [], sh, gc_h sh I52 J A)
    refine gv_run 1 true hD (pc' := 40) (lv' := [(0, .inr (.inr (some p))), (1, .inr (.inr (some a1)))]) (st' := [.inr (.inr (some p))]) (h' := gc_h sh I52 J A) (C := (True ∧ True)) rfl ⟨trivial, trivial⟩ ?_
    refine gv_get hD rfl rfl S_p ⟨by decide, B_p⟩ (gc_hA S_p rfl A_p_4) ?_
    show gv_X _ _ (43, [(0, .inr (.inr (some p))), (1, .inr (.inr (some a1)))], [.inr (.inr (some (p + 4)))], sh, gc_h sh I52 J A)
    refine gv_run 1 true hD (pc' := 44) (lv' := [(0, .inr (.inr (some p))), (1, .inr (.inr (some a1)))]) (st' := [.inl (-1), .inr (.inr (some (p + 4)))]) (h' := gc_h sh I52 J A) (C := (True ∧ True)) rfl ⟨trivial, trivial⟩ ?_
    obtain ⟨I55, E54, hI55, g54, q54⟩ := gj_fill (ws0 := ws0) (tb := tb) sh ro I52 J A hI52 (p + 4) 512 (-1) S_p_4 B_p_4 (by decide) ⟨by omega, by omega⟩ (fun k => by rw [R_p_4]; exact ⟨by show (-1) ≤ _; omega, by show _ ≤ 1535; omega⟩)
    refine gv_callS hD rfl (As := [.inr (.inr (some (p + 4))), .inl (-1)]) (st := []) rfl (gc_lS2 hws rfl) (Nat.le_of_ble_eq_true rfl) (gz_Ev_mono (d := 1) (by decide) E54) ?_
    have FI55 := gc_frc (W := fun q j => (q = p ∧ j = 6) ∨ (q = p ∧ j = 7) ∨ (q = p ∧ j = 8) ∨ (q = p ∧ j = 9) ∨ q = (p + 1) ∨ q = (p + 2) ∨ q = (p + 3) ∨ q = (p + 4) ∨ q = (p + 6) ∨ q = (p + 7)) (V := fun q j => q = (p + 4)) FI52 (fun q j h => (Or.inr (Or.inr (Or.inr (Or.inr (Or.inr (Or.inr (Or.inr (Or.inl h))))))))) g54
    show gv_X _ _ (47, [(0, .inr (.inr (some p))), (1, .inr (.inr (some a1)))], [], sh, gc_h sh I55 J A)
    refine gv_run 1 true hD (pc' := 48) (lv' := [(0, .inr (.inr (some p))), (1, .inr (.inr (some a1)))]) (st' := [.inr (.inr (some a1))]) (h' := gc_h sh I55 J A) (C := (True ∧ True)) rfl ⟨trivial, trivial⟩ ?_
    have f57 := (show 0 ≤ I55 a1 11 ∧ I55 a1 11 ≤ 64 from gc_in hI55 R_a1 rfl rfl)
    refine gv_get hD rfl rfl S_a1 ⟨by decide, B_a1⟩ (gc_hI S_a1 rfl) ?_
    show gv_X _ _ (51, [(0, .inr (.inr (some p))), (1, .inr (.inr (some a1)))], [.inl (I55 a1 11)], sh, gc_h sh I55 J A)
    refine gv_run 3 true hD (pc' := 54) (lv' := [(2, .inl ((I55 a1 11) - 1)), (0, .inr (.inr (some p))), (1, .inr (.inr (some a1)))]) (st' := []) (h' := gc_h sh I55 J A) (C := (((True ∧ True) ∧ True) ∧ True)) rfl ⟨⟨⟨trivial, trivial⟩, trivial⟩, trivial⟩ ?_
    refine gv_pick [1, 2, 0] rfl ?_
    exact L54 _ I55 J (((I55 a1 11) - 1)) (Nat.lt_succ_self _) hI55 FI55 FJ (by omega)
  refine gv_run 1 true hD (pc' := 1) (lv' := [(0, .inr (.inr (some p))), (1, .inr (.inr (some a1)))]) (st' := [.inr (.inr (some p))]) (h' := gc_h sh I J A) (C := (True ∧ True)) rfl ⟨trivial, trivial⟩ ?_
  have f58 := (show 0 ≤ I p 8 ∧ I p 8 ≤ 64 from gc_in hI R_p rfl rfl)
  refine gv_get hD rfl rfl S_p ⟨by decide, B_p⟩ (gc_hI S_p rfl) ?_
  show gv_X _ _ (4, [(0, .inr (.inr (some p))), (1, .inr (.inr (some a1)))], [.inl (I p 8)], sh, gc_h sh I J A)
  refine gv_run 1 true hD (pc' := 5) (lv' := [(0, .inr (.inr (some p))), (1, .inr (.inr (some a1)))]) (st' := [.inr (.inr (some a1)), .inl (I p 8)]) (h' := gc_h sh I J A) (C := (True ∧ True)) rfl ⟨trivial, trivial⟩ ?_
  have f59 := (show 0 ≤ I a1 11 ∧ I a1 11 ≤ 64 from gc_in hI R_a1 rfl rfl)
  refine gv_get hD rfl rfl S_a1 ⟨by decide, B_a1⟩ (gc_hI S_a1 rfl) ?_
  show gv_X _ _ (8, [(0, .inr (.inr (some p))), (1, .inr (.inr (some a1)))], [.inl (I a1 11), .inl (I p 8)], sh, gc_h sh I J A)
  refine gv_icmp_ne (t := 23) hD rfl rfl ⟨⟨by omega, by omega⟩, ⟨by omega, by omega⟩⟩ (fun c60 => ?_) (fun c60 => ?_)
  · show gv_X _ _ (23, [(0, .inr (.inr (some p))), (1, .inr (.inr (some a1)))], [], sh, gc_h sh I J A)
    exact L23 
  · show gv_X _ _ (11, [(0, .inr (.inr (some p))), (1, .inr (.inr (some a1)))], [], sh, gc_h sh I J A)
    refine gv_run 1 true hD (pc' := 12) (lv' := [(0, .inr (.inr (some p))), (1, .inr (.inr (some a1)))]) (st' := [.inr (.inr (some p))]) (h' := gc_h sh I J A) (C := (True ∧ True)) rfl ⟨trivial, trivial⟩ ?_
    have f61 := (show 0 ≤ I p 9 ∧ I p 9 ≤ 24 from gc_in hI R_p rfl rfl)
    refine gv_get hD rfl rfl S_p ⟨by decide, B_p⟩ (gc_hI S_p rfl) ?_
    show gv_X _ _ (15, [(0, .inr (.inr (some p))), (1, .inr (.inr (some a1)))], [.inl (I p 9)], sh, gc_h sh I J A)
    refine gv_run 1 true hD (pc' := 16) (lv' := [(0, .inr (.inr (some p))), (1, .inr (.inr (some a1)))]) (st' := [.inr (.inr (some a1)), .inl (I p 9)]) (h' := gc_h sh I J A) (C := (True ∧ True)) rfl ⟨trivial, trivial⟩ ?_
    have f62 := (show 0 ≤ I a1 6 ∧ I a1 6 ≤ 24 from gc_in hI R_a1 rfl rfl)
    refine gv_get hD rfl rfl S_a1 ⟨by decide, B_a1⟩ (gc_hI S_a1 rfl) ?_
    show gv_X _ _ (19, [(0, .inr (.inr (some p))), (1, .inr (.inr (some a1)))], [.inl (I a1 6), .inl (I p 9)], sh, gc_h sh I J A)
    refine gv_icmp_ne (t := 23) hD rfl rfl ⟨⟨by omega, by omega⟩, ⟨by omega, by omega⟩⟩ (fun c63 => ?_) (fun c63 => ?_)
    · show gv_X _ _ (23, [(0, .inr (.inr (some p))), (1, .inr (.inr (some a1)))], [], sh, gc_h sh I J A)
      exact L23 
    · show gv_X _ _ (22, [(0, .inr (.inr (some p))), (1, .inr (.inr (some a1)))], [], sh, gc_h sh I J A)
      exact gv_vret hD rfl ⟨I, J, rfl, hI, FI, FJ, rfl⟩
