set_option maxHeartbeats 8000000 in
set_option maxRecDepth 100000 in
theorem d_X12_sounds {ws0 : List Cond} {tb : String → gz_T} (hws : gc_Ws ws0) (htb : gc_tbs tb) (sh : gz_Sh) (ro : Nat → Nat) (I : gr_I) (J : gr_J) (A : gc_A) (hI : gc_Inv ro I) (t : Nat) (a1 : Int) (hb : gc_Base sh ro A) (h_t : gc_isTongue sh ro A t) (G_t : 144 ≤ t) (ha1 : 0 ≤ a1 ∧ a1 ≤ 7) (x0 : 0 ≤ a1 ∧ a1 < I 8 1) (x1 : A 10 (Int.toNat a1) = some t) (x2 : gc_sc (t + 10) I) : ∃ r h', gz_Ev ws0 tb 6 (yX12_sounds, cX12_sounds, 4, (some .int)) [.inr (.inr (some 0)), .inl a1] sh (gc_h sh I J A) r sh h' 0 0 ∧ (∃ (I' : gr_I) (J' : gr_J), h' = gc_h sh I' J' A ∧ gc_Inv ro I' ∧ (∀ q j : Nat, ((q = 27 ∧ j = 1) ∨ q = 28 ∨ (q = 23 ∧ j = 1) ∨ (q = (t + 17) ∧ j = 6) ∨ (q = (t + 17) ∧ j = 7) ∨ q = (t + 23) ∨ q = (t + 24)) ∨ I' q j = I q j) ∧ (∀ q j : Nat, (False) ∨ J' q j = J q j) ∧ (∃ z : Int, r = some (.inl z) ∧ (-3) ≤ z ∧ z ≤ 24 ∧ (I' 23 1 = 0) ∧ (I (t + 17) 6 = I (t + 17) 7 ∨ ¬ I' (t + 17) 6 = I' (t + 17) 7))) := by
  have FI : ∀ q j : Nat, ((q = 27 ∧ j = 1) ∨ q = 28 ∨ (q = 23 ∧ j = 1) ∨ (q = (t + 17) ∧ j = 6) ∨ (q = (t + 17) ∧ j = 7) ∨ q = (t + 23) ∨ q = (t + 24)) ∨ I q j = I q j := fun _ _ => Or.inr rfl
  have FJ : ∀ q j : Nat, (False) ∨ J q j = J q j := fun _ _ => Or.inr rfl
  have A_0_1 : A 0 1 = some 23 := gc_bA_0_1 hb
  have A_0_2 : A 0 2 = some 27 := gc_bA_0_2 hb
  have B_0 : 0 < 1000000 := by decide
  have B_23 : 23 < 1000000 := by decide
  have B_27 : 27 < 1000000 := by decide
  have R_23 : ro 23 = 3 := gc_bR_23 hb
  have R_27 : ro 27 = 3 := gc_bR_27 hb
  have S_0 : sh[0]? = some (false, 12, 17) := gc_bS_0 hb
  have S_23 : sh[23]? = some (false, 9, 10) := gc_bS_23 hb
  have S_27 : sh[27]? = some (false, 9, 10) := gc_bS_27 hb
  obtain ⟨S_t, R_t, B_t, A_t_0, h_t_1, A_t_1, h_t_3, A_t_2, S_t_5, R_t_5, B_t_5, A_t_3, S_t_6, R_t_6, B_t_6, A_t_4, h_t_7, A_t_5, S_t_9, R_t_9, B_t_9, A_t_7, S_t_10, R_t_10, B_t_10, A_t_8, h_t_11, A_t_9, S_t_13, R_t_13, B_t_13, A_t_10, S_t_14, R_t_14, B_t_14, A_t_12, S_t_15, R_t_15, B_t_15, A_t_14, S_t_16, R_t_16, B_t_16, A_t_15, h_t_17⟩ := id h_t
  obtain ⟨S_t_1, R_t_1, B_t_1, A_t_1_0, S_t_1_1, R_t_1_1, B_t_1_1, Q0_t_1, Q1_t_1, Q2_t_1⟩ := id h_t_1
  obtain ⟨S_t_3, R_t_3, B_t_3, A_t_3_0, S_t_3_1, R_t_3_1, B_t_3_1, Q0_t_3, Q1_t_3, Q2_t_3⟩ := id h_t_3
  obtain ⟨S_t_7, R_t_7, B_t_7, A_t_7_0, S_t_7_1, R_t_7_1, B_t_7_1, Q0_t_7, Q1_t_7, Q2_t_7⟩ := id h_t_7
  obtain ⟨S_t_11, R_t_11, B_t_11, A_t_11_0, S_t_11_1, R_t_11_1, B_t_11_1, Q0_t_11, Q1_t_11, Q2_t_11⟩ := id h_t_11
  obtain ⟨S_t_17, R_t_17, B_t_17, A_t_17_0, S_20, R_20, B_20, A_t_17_1, S_t_17_1, R_t_17_1, B_t_17_1, A_t_17_2, S_t_17_2, R_t_17_2, B_t_17_2, A_t_17_3, S_t_17_3, R_t_17_3, B_t_17_3, A_t_17_4, S_t_17_4, R_t_17_4, B_t_17_4, A_t_17_5, S_t_17_5, R_t_17_5, B_t_17_5, S_t_17_6, R_t_17_6, B_t_17_6, S_t_17_7, R_t_17_7, B_t_17_7⟩ := id h_t_17
  have hD : gv_D (gc_E12 ws0 tb 5 (yX12_sounds, cX12_sounds, 4, (some .int)) kX12_sounds) := gq_of oX12_sounds
  refine gc_ev12 (d := 5) (l := kX12_sounds) (Po := fun r h' => (∃ (I' : gr_I) (J' : gr_J), h' = gc_h sh I' J' A ∧ gc_Inv ro I' ∧ (∀ q j : Nat, ((q = 27 ∧ j = 1) ∨ q = 28 ∨ (q = 23 ∧ j = 1) ∨ (q = (t + 17) ∧ j = 6) ∨ (q = (t + 17) ∧ j = 7) ∨ q = (t + 23) ∨ q = (t + 24)) ∨ I' q j = I q j) ∧ (∀ q j : Nat, (False) ∨ J' q j = J q j) ∧ (∃ z : Int, r = some (.inl z) ∧ (-3) ≤ z ∧ z ≤ 24 ∧ (I' 23 1 = 0) ∧ (I (t + 17) 6 = I (t + 17) 7 ∨ ¬ I' (t + 17) 6 = I' (t + 17) 7)))) htb rfl (Nat.le_of_ble_eq_true rfl) ?_
  have N_t_17__28 : ¬ ((t + 17) = 28) := by exact gz_m 0 (by omega)
  have N_23__t_23 : ¬ (23 = (t + 23)) := by exact gz_m 1 (by omega)
  have N_23__t_24 : ¬ (23 = (t + 24)) := by exact gz_m 2 (by omega)
  have f1 := (gc_b_3_1 hI R_23)
  have f2 := (show 0 ≤ I (t + 17) 6 ∧ I (t + 17) 6 ≤ 1 from gc_in2 hI R_t_17 rfl rfl rfl)
  have f3 := (show 0 ≤ I (t + 17) 7 ∧ I (t + 17) 7 ≤ 1 from gc_in2 hI R_t_17 rfl rfl rfl)
  have L40 : ∀ (I4 : gr_I) (J5 : gr_J) (v3_6 : Int), gc_Inv ro I4 → (∀ q j : Nat, ((q = 27 ∧ j = 1) ∨ q = 28 ∨ (q = 23 ∧ j = 1) ∨ (q = (t + 17) ∧ j = 6) ∨ (q = (t + 17) ∧ j = 7) ∨ q = (t + 23) ∨ q = (t + 24)) ∨ I4 q j = I q j) → (∀ q j : Nat, (False) ∨ J5 q j = J q j) → (((-3) ≤ v3_6 ∧ v3_6 ≤ 24) ∧ (I (t + 17) 6 = I (t + 17) 7 ∨ ¬ I4 (t + 17) 6 = I4 (t + 17) 7)) → gv_X (gc_E12 ws0 tb 5 (yX12_sounds, cX12_sounds, 4, (some .int)) kX12_sounds) (gv_Q cX12_sounds (some .int) sh (fun r h' => (∃ (I' : gr_I) (J' : gr_J), h' = gc_h sh I' J' A ∧ gc_Inv ro I' ∧ (∀ q j : Nat, ((q = 27 ∧ j = 1) ∨ q = 28 ∨ (q = 23 ∧ j = 1) ∨ (q = (t + 17) ∧ j = 6) ∨ (q = (t + 17) ∧ j = 7) ∨ q = (t + 23) ∨ q = (t + 24)) ∨ I' q j = I q j) ∧ (∀ q j : Nat, (False) ∨ J' q j = J q j) ∧ (∃ z : Int, r = some (.inl z) ∧ (-3) ≤ z ∧ z ≤ 24 ∧ (I' 23 1 = 0) ∧ (I (t + 17) 6 = I (t + 17) 7 ∨ ¬ I' (t + 17) 6 = I' (t + 17) 7))))) (40, [(0, .inr (.inr (some 0))), (2, .inr (.inr (some t))), (3, .inl v3_6)], [], sh, gc_h sh I4 J5 A) := by
    intro I4 J5 v3_6 hI4 FI4 FJ5 m_6
    obtain ⟨hv3_6, e0_6⟩ := m_6
    have f7 := (gc_b_3_1 hI4 R_23)
    have f8 := (show 0 ≤ I4 (t + 17) 6 ∧ I4 (t + 17) 6 ≤ 1 from gc_in2 hI4 R_t_17 rfl rfl rfl)
    have f9 := (show 0 ≤ I4 (t + 17) 7 ∧ I4 (t + 17) 7 ≤ 1 from gc_in2 hI4 R_t_17 rfl rfl rfl)
    have L68 : ∀ (I10 : gr_I) (J11 : gr_J) , gc_Inv ro I10 → (∀ q j : Nat, ((q = 27 ∧ j = 1) ∨ q = 28 ∨ (q = 23 ∧ j = 1) ∨ (q = (t + 17) ∧ j = 6) ∨ (q = (t + 17) ∧ j = 7) ∨ q = (t + 23) ∨ q = (t + 24)) ∨ I10 q j = I q j) → (∀ q j : Nat, (False) ∨ J11 q j = J q j) → (((-3) ≤ v3_6 ∧ v3_6 ≤ 24) ∧ (I10 23 1 = 0) ∧ (I (t + 17) 6 = I (t + 17) 7 ∨ ¬ I10 (t + 17) 6 = I10 (t + 17) 7)) → gv_X (gc_E12 ws0 tb 5 (yX12_sounds, cX12_sounds, 4, (some .int)) kX12_sounds) (gv_Q cX12_sounds (some .int) sh (fun r h' => (∃ (I' : gr_I) (J' : gr_J), h' = gc_h sh I' J' A ∧ gc_Inv ro I' ∧ (∀ q j : Nat, ((q = 27 ∧ j = 1) ∨ q = 28 ∨ (q = 23 ∧ j = 1) ∨ (q = (t + 17) ∧ j = 6) ∨ (q = (t + 17) ∧ j = 7) ∨ q = (t + 23) ∨ q = (t + 24)) ∨ I' q j = I q j) ∧ (∀ q j : Nat, (False) ∨ J' q j = J q j) ∧ (∃ z : Int, r = some (.inl z) ∧ (-3) ≤ z ∧ z ≤ 24 ∧ (I' 23 1 = 0) ∧ (I (t + 17) 6 = I (t + 17) 7 ∨ ¬ I' (t + 17) 6 = I' (t + 17) 7))))) (68, [(3, .inl v3_6)], [], sh, gc_h sh I10 J11 A) := by
      intro I10 J11 hI10 FI10 FJ11 m_12
      clear hv3_6 e0_6 f7 f8 f9
      obtain ⟨hv3_6_12, e0_12, e1_12⟩ := m_12
      have f13 := (gc_b_3_1 hI10 R_23)
      have f14 := (show 0 ≤ I10 (t + 17) 6 ∧ I10 (t + 17) 6 ≤ 1 from gc_in2 hI10 R_t_17 rfl rfl rfl)
      have f15 := (show 0 ≤ I10 (t + 17) 7 ∧ I10 (t + 17) 7 ≤ 1 from gc_in2 hI10 R_t_17 rfl rfl rfl)
      refine gv_run 1 true hD (pc' := 69) (lv' := [(3, .inl v3_6)]) (st' := [.inl v3_6]) (h' := gc_h sh I10 J11 A) (C := (True ∧ True)) rfl ⟨trivial, trivial⟩ ?_
      exact gv_iret hD rfl ⟨I10, J11, rfl, hI10, FI10, FJ11, ⟨_, rfl, by exact gz_m 3 (by omega)⟩⟩
    refine gv_run 1 true hD (pc' := 41) (lv' := [(0, .inr (.inr (some 0))), (2, .inr (.inr (some t))), (3, .inl v3_6)]) (st' := [.inr (.inr (some 0))]) (h' := gc_h sh I4 J5 A) (C := (True ∧ True)) rfl ⟨trivial, trivial⟩ ?_
    refine gv_get hD rfl rfl S_0 ⟨by decide, B_0⟩ (gc_hA S_0 rfl A_0_1) ?_
    show gv_X _ _ (44, [(0, .inr (.inr (some 0))), (2, .inr (.inr (some t))), (3, .inl v3_6)], [.inr (.inr (some 23))], sh, gc_h sh I4 J5 A)
    refine gv_run 1 true hD (pc' := 45) (lv' := [(0, .inr (.inr (some 0))), (2, .inr (.inr (some t))), (3, .inl v3_6)]) (st' := [.inl 0, .inr (.inr (some 23))]) (h' := gc_h sh I4 J5 A) (C := (True ∧ True)) rfl ⟨trivial, trivial⟩ ?_
    refine gv_put hD rfl rfl S_23 ⟨by decide, B_23⟩ rfl trivial ?_
    refine gc_st (k := 1) hI4 S_23 rfl R_23 (lo := 0) (hi := 1000) rfl rfl (by exact gz_m 4 (by omega)) (by exact gz_m 5 (by omega)) (fun I16 hI16 q17 p17 => ?_)
    have FI16 := gc_frs (W := fun q j => (q = 27 ∧ j = 1) ∨ q = 28 ∨ (q = 23 ∧ j = 1) ∨ (q = (t + 17) ∧ j = 6) ∨ (q = (t + 17) ∧ j = 7) ∨ q = (t + 23) ∨ q = (t + 24)) FI4 (Or.inr (Or.inr (Or.inl ⟨rfl, rfl⟩))) p17
    have t18 := p17 (t + 17) 6 (fun h => absurd h.2 (by first | exact gz_ne rfl | decide))
    have t19 := p17 (t + 17) 7 (fun h => absurd h.2 (by first | exact gz_ne rfl | decide))
    have f20 := (gc_b_3_1 hI16 R_23)
    show gv_X _ _ (48, [(0, .inr (.inr (some 0))), (2, .inr (.inr (some t))), (3, .inl v3_6)], [], sh, gc_h sh I16 J5 A)
    refine gv_run 1 true hD (pc' := 49) (lv' := [(0, .inr (.inr (some 0))), (2, .inr (.inr (some t))), (3, .inl v3_6)]) (st' := [.inl v3_6]) (h' := gc_h sh I16 J5 A) (C := (True ∧ True)) rfl ⟨trivial, trivial⟩ ?_
    refine gv_if_le (t := 68) hD rfl rfl ⟨by exact gz_m 6 (by omega), by exact gz_m 7 (by omega)⟩ (fun c21 => ?_) (fun c21 => ?_)
    · show gv_X _ _ (68, [(0, .inr (.inr (some 0))), (2, .inr (.inr (some t))), (3, .inl v3_6)], [], sh, gc_h sh I16 J5 A)
      refine gv_pick [2] rfl ?_
      exact L68 I16 J5 hI16 FI16 FJ5 (by exact gz_m 8 (by omega))
    · show gv_X _ _ (52, [(0, .inr (.inr (some 0))), (2, .inr (.inr (some t))), (3, .inl v3_6)], [], sh, gc_h sh I16 J5 A)
      refine gv_run 1 true hD (pc' := 53) (lv' := [(0, .inr (.inr (some 0))), (2, .inr (.inr (some t))), (3, .inl v3_6)]) (st' := [.inr (.inr (some 0))]) (h' := gc_h sh I16 J5 A) (C := (True ∧ True)) rfl ⟨trivial, trivial⟩ ?_
      refine gv_get hD rfl rfl S_0 ⟨by decide, B_0⟩ (gc_hA S_0 rfl A_0_2) ?_
      show gv_X _ _ (56, [(0, .inr (.inr (some 0))), (2, .inr (.inr (some t))), (3, .inl v3_6)], [.inr (.inr (some 27))], sh, gc_h sh I16 J5 A)
      refine gv_run 1 true hD (pc' := 57) (lv' := [(0, .inr (.inr (some 0))), (2, .inr (.inr (some t))), (3, .inl v3_6)]) (st' := [.inr (.inr (some t)), .inr (.inr (some 27))]) (h' := gc_h sh I16 J5 A) (C := (True ∧ True)) rfl ⟨trivial, trivial⟩ ?_
      refine gv_get hD rfl rfl S_t ⟨by decide, B_t⟩ (gc_hA S_t rfl A_t_15) ?_
      show gv_X _ _ (60, [(0, .inr (.inr (some 0))), (2, .inr (.inr (some t))), (3, .inl v3_6)], [.inr (.inr (some (t + 17))), .inr (.inr (some 27))], sh, gc_h sh I16 J5 A)
      have f23 := (show 0 ≤ I16 (t + 17) 6 ∧ I16 (t + 17) 6 ≤ 1 from gc_in2 hI16 R_t_17 rfl rfl rfl)
      obtain ⟨f22_, hq_f22_, S_f22, R_f22, B_f22, D_f22⟩ := gc_sw (p := (t + 17)) (d := 6) (s := 1) (z := I16 (t + 17) 6) (show 0 ≤ I16 (t + 17) 6 ∧ I16 (t + 17) 6 ≤ 1 from gc_in2 hI16 R_t_17 rfl rfl rfl) S_t_17_6 R_t_17_6 B_t_17_6 S_t_17_7 R_t_17_7 B_t_17_7
      refine gv_get hD rfl rfl S_t_17 ⟨by decide, B_t_17⟩ (gc_hS (n := 6) S_t_17 rfl hq_f22_) ?_
      show gv_X _ _ (63, [(0, .inr (.inr (some 0))), (2, .inr (.inr (some t))), (3, .inl v3_6)], [.inr (.inr (some f22_)), .inr (.inr (some 27))], sh, gc_h sh I16 J5 A)
      refine gv_run 2 true hD (pc' := 65) (lv' := [(0, .inr (.inr (some 0))), (2, .inr (.inr (some t))), (3, .inl v3_6)]) (st' := [.inl v3_6, .inl 0, .inr (.inr (some f22_)), .inr (.inr (some 27))]) (h' := gc_h sh I16 J5 A) (C := ((True ∧ True) ∧ True)) rfl ⟨⟨trivial, trivial⟩, trivial⟩ ?_
      obtain ⟨r24, h24, E24, P24⟩ := d_X9_putBytes (ws0 := ws0) (tb := tb) hws htb sh ro I16 J5 A hI16 27 24 f22_ 0 v3_6 (gc_b27 hb) S_f22 R_f22 B_f22 (by decide)  ⟨by exact gz_m 9 (by omega), by exact gz_m 10 (by omega)⟩ ⟨by exact gz_m 11 (by omega), by exact gz_m 12 (by omega)⟩  
      obtain ⟨I25, J26, rfl, hI25, g24, k24, rfl⟩ := P24
      have FI25 := gc_frc (W := fun q j => (q = 27 ∧ j = 1) ∨ q = 28 ∨ (q = 23 ∧ j = 1) ∨ (q = (t + 17) ∧ j = 6) ∨ (q = (t + 17) ∧ j = 7) ∨ q = (t + 23) ∨ q = (t + 24)) (V := fun q j => (q = 27 ∧ j = 1) ∨ q = 28) FI16 (fun q j h => (h.elim (fun h => (Or.inl h)) (fun h => (Or.inr (Or.inl h))))) g24
      have t27 := (g24 23 1).resolve_left (fun h => h.elim (fun h => absurd h.1 (by first | exact gz_ne rfl | decide)) (fun h => absurd h (by first | exact gz_ne rfl | decide)))
      have t28 := (g24 (t + 17) 6).resolve_left (fun h => h.elim (fun h => absurd h.2 (by first | exact gz_ne rfl | decide)) (fun h => absurd h N_t_17__28))
      have t29 := (g24 (t + 17) 7).resolve_left (fun h => h.elim (fun h => absurd h.2 (by first | exact gz_ne rfl | decide)) (fun h => absurd h N_t_17__28))
      obtain rfl : J5 = J26 := funext fun q => funext fun j => ((k24 q j).resolve_left id).symm
      refine gv_callV hD rfl (As := [.inr (.inr (some f22_)), .inl 0, .inl v3_6]) (st := []) rfl B_27 S_27 rfl (gc_lV12 hws rfl) (Nat.le_of_ble_eq_true rfl) (gz_Ev_mono (d := 2) (by decide) E24) ?_
      show gv_X _ _ (68, [(0, .inr (.inr (some 0))), (2, .inr (.inr (some t))), (3, .inl v3_6)], [], sh, gc_h sh I25 J5 A)
      refine gv_pick [2] rfl ?_
      exact L68 I25 J5 hI25 FI25 FJ5 (by exact gz_m 13 (by omega))
  refine gv_run 2 true hD (pc' := 2) (lv' := [(0, .inr (.inr (some 0))), (1, .inl a1)]) (st' := [.inl a1, .inr (.inr (some 0))]) (h' := gc_h sh I J A) (C := ((True ∧ True) ∧ True)) rfl ⟨⟨trivial, trivial⟩, trivial⟩ ?_
  refine gv_callV hD rfl (As := [.inl a1]) (st := []) rfl B_0 S_0 rfl (gc_lV12 hws rfl) (Nat.le_of_ble_eq_true rfl) (gz_Ev_mono (d := 1) (by decide) (d_X12_tongueAt hws htb (J := J) hI hb (by exact gz_m 14 (by omega)) (by exact gz_m 15 (by omega)) x1)) ?_
  show gv_X _ _ (5, [(0, .inr (.inr (some 0))), (1, .inl a1)], [.inr (.inr (some t))], sh, gc_h sh I J A)
  refine gv_run 2 true hD (pc' := 7) (lv' := [(2, .inr (.inr (some t))), (0, .inr (.inr (some 0))), (1, .inl a1)]) (st' := [.inr (.inr (some 0))]) (h' := gc_h sh I J A) (C := ((True ∧ True) ∧ True)) rfl ⟨⟨trivial, trivial⟩, trivial⟩ ?_
  refine gv_get hD rfl rfl S_0 ⟨by decide, B_0⟩ (gc_hA S_0 rfl A_0_2) ?_
  show gv_X _ _ (10, [(2, .inr (.inr (some t))), (0, .inr (.inr (some 0))), (1, .inl a1)], [.inr (.inr (some 27))], sh, gc_h sh I J A)
  refine gv_run 1 true hD (pc' := 11) (lv' := [(2, .inr (.inr (some t))), (0, .inr (.inr (some 0))), (1, .inl a1)]) (st' := [.inl 0, .inr (.inr (some 27))]) (h' := gc_h sh I J A) (C := (True ∧ True)) rfl ⟨trivial, trivial⟩ ?_
  refine gv_put hD rfl rfl S_27 ⟨by decide, B_27⟩ rfl trivial ?_
  refine gc_st (k := 1) hI S_27 rfl R_27 (lo := 0) (hi := 1000) rfl rfl (by exact gz_m 16 (by omega)) (by exact gz_m 17 (by omega)) (fun I31 hI31 q32 p32 => ?_)
  have FI31 := gc_frs (W := fun q j => (q = 27 ∧ j = 1) ∨ q = 28 ∨ (q = 23 ∧ j = 1) ∨ (q = (t + 17) ∧ j = 6) ∨ (q = (t + 17) ∧ j = 7) ∨ q = (t + 23) ∨ q = (t + 24)) FI (Or.inl ⟨rfl, rfl⟩) p32
  have t33 := p32 23 1 (fun h => absurd h.1 (by first | exact gz_ne rfl | decide))
  have t34 := p32 (t + 17) 6 (fun h => absurd h.2 (by first | exact gz_ne rfl | decide))
  have t35 := p32 (t + 17) 7 (fun h => absurd h.2 (by first | exact gz_ne rfl | decide))
  show gv_X _ _ (14, [(2, .inr (.inr (some t))), (0, .inr (.inr (some 0))), (1, .inl a1)], [], sh, gc_h sh I31 J A)
  refine gv_run 3 true hD (pc' := 18) (lv' := [(3, .inl (-3)), (2, .inr (.inr (some t))), (0, .inr (.inr (some 0))), (1, .inl a1)]) (st' := [.inr (.inr (some 0))]) (h' := gc_h sh I31 J A) (C := (((True ∧ True) ∧ True) ∧ True)) rfl ⟨⟨⟨trivial, trivial⟩, trivial⟩, trivial⟩ ?_
  refine gv_get hD rfl rfl S_0 ⟨by decide, B_0⟩ (gc_hA S_0 rfl A_0_1) ?_
  show gv_X _ _ (21, [(3, .inl (-3)), (2, .inr (.inr (some t))), (0, .inr (.inr (some 0))), (1, .inl a1)], [.inr (.inr (some 23))], sh, gc_h sh I31 J A)
  obtain ⟨r36, h36, E36, P36⟩ := d_X9_isWord (ws0 := ws0) (tb := tb) hws htb sh ro I31 J A hI31 23  (gc_b23 hb)     
  obtain ⟨rfl, ⟨z36, rfl, q36⟩⟩ := P36
  refine gv_callV hD rfl (As := []) (st := []) rfl B_23 S_23 rfl (gc_lV12 hws rfl) (Nat.le_of_ble_eq_true rfl) (gz_Ev_mono (d := 2) (by decide) E36) ?_
  show gv_X _ _ (24, [(3, .inl (-3)), (2, .inr (.inr (some t))), (0, .inr (.inr (some 0))), (1, .inl a1)], [.inl z36], sh, gc_h sh I31 J A)
  refine gv_if_eq (t := 40) hD rfl rfl ⟨by exact gz_m 18 (by omega), by exact gz_m 19 (by omega)⟩ (fun c37 => ?_) (fun c37 => ?_)
  · show gv_X _ _ (40, [(3, .inl (-3)), (2, .inr (.inr (some t))), (0, .inr (.inr (some 0))), (1, .inl a1)], [], sh, gc_h sh I31 J A)
    refine gv_pick [2, 1, 0] rfl ?_
    exact L40 I31 J (-3) hI31 FI31 FJ (by exact gz_m 20 (by omega))
  · show gv_X _ _ (27, [(3, .inl (-3)), (2, .inr (.inr (some t))), (0, .inr (.inr (some 0))), (1, .inl a1)], [], sh, gc_h sh I31 J A)
    refine gv_run 1 true hD (pc' := 28) (lv' := [(3, .inl (-3)), (2, .inr (.inr (some t))), (0, .inr (.inr (some 0))), (1, .inl a1)]) (st' := [.inr (.inr (some t))]) (h' := gc_h sh I31 J A) (C := (True ∧ True)) rfl ⟨trivial, trivial⟩ ?_
    refine gv_get hD rfl rfl S_t ⟨by decide, B_t⟩ (gc_hA S_t rfl A_t_15) ?_
    show gv_X _ _ (31, [(3, .inl (-3)), (2, .inr (.inr (some t))), (0, .inr (.inr (some 0))), (1, .inl a1)], [.inr (.inr (some (t + 17)))], sh, gc_h sh I31 J A)
    refine gv_run 2 true hD (pc' := 33) (lv' := [(3, .inl (-3)), (2, .inr (.inr (some t))), (0, .inr (.inr (some 0))), (1, .inl a1)]) (st' := [.inr (.inr (some 0)), .inr (.inr (some t)), .inr (.inr (some (t + 17)))]) (h' := gc_h sh I31 J A) (C := ((True ∧ True) ∧ True)) rfl ⟨⟨trivial, trivial⟩, trivial⟩ ?_
    refine gv_get hD rfl rfl S_0 ⟨by decide, B_0⟩ (gc_hA S_0 rfl A_0_1) ?_
    show gv_X _ _ (36, [(3, .inl (-3)), (2, .inr (.inr (some t))), (0, .inr (.inr (some 0))), (1, .inl a1)], [.inr (.inr (some 23)), .inr (.inr (some t)), .inr (.inr (some (t + 17)))], sh, gc_h sh I31 J A)
    obtain ⟨r38, h38, E38, P38⟩ := d_X2_soundWord (ws0 := ws0) (tb := tb) hws htb sh ro I31 J A hI31 (t + 17) t 23 h_t_17 h_t G_t (gc_b23 hb)   (gc_sc_fr x2 (fun k => (FI31 (t + 10) k).resolve_left (by exact gz_m 21 (by omega)))) rfl (by exact gz_m 22 (by omega)) 
    obtain ⟨I39, J40, rfl, hI39, g38, k38, ⟨z38, rfl, q38⟩⟩ := P38
    have FI39 := gc_frc (W := fun q j => (q = 27 ∧ j = 1) ∨ q = 28 ∨ (q = 23 ∧ j = 1) ∨ (q = (t + 17) ∧ j = 6) ∨ (q = (t + 17) ∧ j = 7) ∨ q = (t + 23) ∨ q = (t + 24)) (V := fun q j => (q = (t + 17) ∧ j = 6) ∨ (q = (t + 17) ∧ j = 7) ∨ q = (t + 23) ∨ q = (t + 24)) FI31 (fun q j h => (h.elim (fun h => (Or.inr (Or.inr (Or.inr (Or.inl h))))) (fun h => (h.elim (fun h => (Or.inr (Or.inr (Or.inr (Or.inr (Or.inl h)))))) (fun h => (h.elim (fun h => (Or.inr (Or.inr (Or.inr (Or.inr (Or.inr (Or.inl h))))))) (fun h => (Or.inr (Or.inr (Or.inr (Or.inr (Or.inr (Or.inr h))))))))))))) g38
    have t41 := (g38 23 1).resolve_left (fun h => h.elim (fun h => absurd h.2 (by first | exact gz_ne rfl | decide)) (fun h => h.elim (fun h => absurd h.2 (by first | exact gz_ne rfl | decide)) (fun h => h.elim (fun h => absurd h N_23__t_23) (fun h => absurd h N_23__t_24))))
    have f42 := (show 0 ≤ I39 (t + 17) 6 ∧ I39 (t + 17) 6 ≤ 1 from gc_in2 hI39 R_t_17 rfl rfl rfl)
    have f43 := (show 0 ≤ I39 (t + 17) 7 ∧ I39 (t + 17) 7 ≤ 1 from gc_in2 hI39 R_t_17 rfl rfl rfl)
    obtain rfl : J = J40 := funext fun q => funext fun j => ((k38 q j).resolve_left id).symm
    refine gv_callV hD rfl (As := [.inr (.inr (some t)), .inr (.inr (some 23))]) (st := []) rfl B_t_17 S_t_17 rfl (gc_lV12 hws rfl) (Nat.le_of_ble_eq_true rfl) (gz_Ev_mono (d := 5) (by decide) E38) ?_
    show gv_X _ _ (39, [(3, .inl (-3)), (2, .inr (.inr (some t))), (0, .inr (.inr (some 0))), (1, .inl a1)], [.inl z38], sh, gc_h sh I39 J A)
    refine gv_run 1 true hD (pc' := 40) (lv' := [(3, .inl z38), (2, .inr (.inr (some t))), (0, .inr (.inr (some 0))), (1, .inl a1)]) (st' := []) (h' := gc_h sh I39 J A) (C := (True ∧ True)) rfl ⟨trivial, trivial⟩ ?_
    refine gv_pick [2, 1, 0] rfl ?_
    exact L40 I39 J z38 hI39 FI39 FJ (by exact gz_m 23 (by omega))
set_option maxHeartbeats 8000000 in
set_option maxRecDepth 100000 in
theorem d_X12_analyse {ws0 : List Cond} {tb : String → gz_T} (hws : gc_Ws ws0) (htb : gc_tbs tb) (sh : gz_Sh) (ro : Nat → Nat) (I : gr_I) (J : gr_J) (A : gc_A) (hI : gc_Inv ro I) (t : Nat) (a1 : Int) (hb : gc_Base sh ro A) (h_t : gc_isTongue sh ro A t) (G_t : 144 ≤ t) (ha1 : 0 ≤ a1 ∧ a1 ≤ 7) (x0 : 0 ≤ a1 ∧ a1 < I 8 1) (x1 : A 10 (Int.toNat a1) = some t) (x2 : gc_sc (t + 10) I) (x3 : gc_FB (t + 17) (24 * I (t + 17) 8) I) (x4 : I (t + 17) 8 ≤ I t 11) : ∃ r h', gz_Ev ws0 tb 6 (yX12_analyse, cX12_analyse, 4, (some .int)) [.inr (.inr (some 0)), .inl a1] sh (gc_h sh I J A) r sh h' 0 0 ∧ (∃ (I' : gr_I) (J' : gr_J), h' = gc_h sh I' J' A ∧ gc_Inv ro I' ∧ (∀ q j : Nat, ((q = (t + 17) ∧ j = 8) ∨ (q = (t + 17) ∧ j = 9) ∨ q = (t + 18) ∨ q = (t + 19) ∨ q = (t + 20) ∨ q = (t + 21) ∨ (q = (t + 17) ∧ j = 6) ∨ (q = (t + 17) ∧ j = 7) ∨ q = (t + 23) ∨ q = (t + 24) ∨ (q = 100 ∧ j = 2) ∨ (q = 100 ∧ j = 1) ∨ q = 101 ∨ q = (t + 22) ∨ (q = 23 ∧ j = 1)) ∨ I' q j = I q j) ∧ (∀ q j : Nat, (False) ∨ J' q j = J q j) ∧ (∃ z : Int, r = some (.inl z) ∧ (-3) ≤ z ∧ z ≤ 1536 ∧ (I' 23 1 = 0) ∧ (gc_FB (t + 17) (24 * I t 11) I') ∧ (I' (t + 17) 8 = I t 11) ∧ (I' 100 2 = 0 ∨ I' 100 1 = a1) ∧ (I (t + 17) 6 = I (t + 17) 7 ∨ ¬ I' (t + 17) 6 = I' (t + 17) 7) ∧ (gh_BD I t I'))) := by
  have FI : ∀ q j : Nat, ((q = (t + 17) ∧ j = 8) ∨ (q = (t + 17) ∧ j = 9) ∨ q = (t + 18) ∨ q = (t + 19) ∨ q = (t + 20) ∨ q = (t + 21) ∨ (q = (t + 17) ∧ j = 6) ∨ (q = (t + 17) ∧ j = 7) ∨ q = (t + 23) ∨ q = (t + 24) ∨ (q = 100 ∧ j = 2) ∨ (q = 100 ∧ j = 1) ∨ q = 101 ∨ q = (t + 22) ∨ (q = 23 ∧ j = 1)) ∨ I q j = I q j := fun _ _ => Or.inr rfl
  have FJ : ∀ q j : Nat, (False) ∨ J q j = J q j := fun _ _ => Or.inr rfl
  have A_0_1 : A 0 1 = some 23 := gc_bA_0_1 hb
  have A_0_10 : A 0 10 = some 100 := gc_bA_0_10 hb
  have B_0 : 0 < 1000000 := by decide
  have B_100 : 100 < 1000000 := by decide
  have B_23 : 23 < 1000000 := by decide
  have R_100 : ro 100 = 75 := gc_bR_100 hb
  have R_23 : ro 23 = 3 := gc_bR_23 hb
  have S_0 : sh[0]? = some (false, 12, 17) := gc_bS_0 hb
  have S_100 : sh[100]? = some (false, 1, 19) := gc_bS_100 hb
  have S_23 : sh[23]? = some (false, 9, 10) := gc_bS_23 hb
  obtain ⟨S_t, R_t, B_t, A_t_0, h_t_1, A_t_1, h_t_3, A_t_2, S_t_5, R_t_5, B_t_5, A_t_3, S_t_6, R_t_6, B_t_6, A_t_4, h_t_7, A_t_5, S_t_9, R_t_9, B_t_9, A_t_7, S_t_10, R_t_10, B_t_10, A_t_8, h_t_11, A_t_9, S_t_13, R_t_13, B_t_13, A_t_10, S_t_14, R_t_14, B_t_14, A_t_12, S_t_15, R_t_15, B_t_15, A_t_14, S_t_16, R_t_16, B_t_16, A_t_15, h_t_17⟩ := id h_t
  obtain ⟨S_t_1, R_t_1, B_t_1, A_t_1_0, S_t_1_1, R_t_1_1, B_t_1_1, Q0_t_1, Q1_t_1, Q2_t_1⟩ := id h_t_1
  obtain ⟨S_t_3, R_t_3, B_t_3, A_t_3_0, S_t_3_1, R_t_3_1, B_t_3_1, Q0_t_3, Q1_t_3, Q2_t_3⟩ := id h_t_3
  obtain ⟨S_t_7, R_t_7, B_t_7, A_t_7_0, S_t_7_1, R_t_7_1, B_t_7_1, Q0_t_7, Q1_t_7, Q2_t_7⟩ := id h_t_7
  obtain ⟨S_t_11, R_t_11, B_t_11, A_t_11_0, S_t_11_1, R_t_11_1, B_t_11_1, Q0_t_11, Q1_t_11, Q2_t_11⟩ := id h_t_11
  obtain ⟨S_t_17, R_t_17, B_t_17, A_t_17_0, S_20, R_20, B_20, A_t_17_1, S_t_17_1, R_t_17_1, B_t_17_1, A_t_17_2, S_t_17_2, R_t_17_2, B_t_17_2, A_t_17_3, S_t_17_3, R_t_17_3, B_t_17_3, A_t_17_4, S_t_17_4, R_t_17_4, B_t_17_4, A_t_17_5, S_t_17_5, R_t_17_5, B_t_17_5, S_t_17_6, R_t_17_6, B_t_17_6, S_t_17_7, R_t_17_7, B_t_17_7⟩ := id h_t_17
  have hD : gv_D (gc_E12 ws0 tb 5 (yX12_analyse, cX12_analyse, 4, (some .int)) kX12_analyse) := gq_of oX12_analyse
  refine gc_ev12 (d := 5) (l := kX12_analyse) (Po := fun r h' => (∃ (I' : gr_I) (J' : gr_J), h' = gc_h sh I' J' A ∧ gc_Inv ro I' ∧ (∀ q j : Nat, ((q = (t + 17) ∧ j = 8) ∨ (q = (t + 17) ∧ j = 9) ∨ q = (t + 18) ∨ q = (t + 19) ∨ q = (t + 20) ∨ q = (t + 21) ∨ (q = (t + 17) ∧ j = 6) ∨ (q = (t + 17) ∧ j = 7) ∨ q = (t + 23) ∨ q = (t + 24) ∨ (q = 100 ∧ j = 2) ∨ (q = 100 ∧ j = 1) ∨ q = 101 ∨ q = (t + 22) ∨ (q = 23 ∧ j = 1)) ∨ I' q j = I q j) ∧ (∀ q j : Nat, (False) ∨ J' q j = J q j) ∧ (∃ z : Int, r = some (.inl z) ∧ (-3) ≤ z ∧ z ≤ 1536 ∧ (I' 23 1 = 0) ∧ (gc_FB (t + 17) (24 * I t 11) I') ∧ (I' (t + 17) 8 = I t 11) ∧ (I' 100 2 = 0 ∨ I' 100 1 = a1) ∧ (I (t + 17) 6 = I (t + 17) 7 ∨ ¬ I' (t + 17) 6 = I' (t + 17) 7) ∧ (gh_BD I t I')))) htb rfl (Nat.le_of_ble_eq_true rfl) ?_
  have N_23__t_18 : ¬ (23 = (t + 18)) := by exact gz_m 0 (by omega)
  have N_23__t_19 : ¬ (23 = (t + 19)) := by exact gz_m 1 (by omega)
  have N_23__t_20 : ¬ (23 = (t + 20)) := by exact gz_m 2 (by omega)
  have N_23__t_21 : ¬ (23 = (t + 21)) := by exact gz_m 3 (by omega)
  have N_23__t_23 : ¬ (23 = (t + 23)) := by exact gz_m 4 (by omega)
  have N_23__t_24 : ¬ (23 = (t + 24)) := by exact gz_m 5 (by omega)
  have N_100__t_18 : ¬ (100 = (t + 18)) := by exact gz_m 6 (by omega)
  have N_100__t_19 : ¬ (100 = (t + 19)) := by exact gz_m 7 (by omega)
  have N_100__t_20 : ¬ (100 = (t + 20)) := by exact gz_m 8 (by omega)
  have N_100__t_21 : ¬ (100 = (t + 21)) := by exact gz_m 9 (by omega)
  have N_100__t_23 : ¬ (100 = (t + 23)) := by exact gz_m 10 (by omega)
  have N_100__t_24 : ¬ (100 = (t + 24)) := by exact gz_m 11 (by omega)
  have N_t__t_18 : ¬ (t = (t + 18)) := by exact gz_m 12 (by omega)
  have N_t__t_19 : ¬ (t = (t + 19)) := by exact gz_m 13 (by omega)
  have N_t__t_20 : ¬ (t = (t + 20)) := by exact gz_m 14 (by omega)
  have N_t__t_21 : ¬ (t = (t + 21)) := by exact gz_m 15 (by omega)
  have N_t__t_23 : ¬ (t = (t + 23)) := by exact gz_m 16 (by omega)
  have N_t__t_24 : ¬ (t = (t + 24)) := by exact gz_m 17 (by omega)
  have N_23__t_22 : ¬ (23 = (t + 22)) := by exact gz_m 18 (by omega)
  have N_t_17__101 : ¬ ((t + 17) = 101) := by exact gz_m 19 (by omega)
  have N_t_17__t_22 : ¬ ((t + 17) = (t + 22)) := by exact gz_m 20 (by omega)
  have N_t__101 : ¬ (t = 101) := by exact gz_m 21 (by omega)
  have N_t__t_22 : ¬ (t = (t + 22)) := by exact gz_m 22 (by omega)
  have N_t_18__100 : ¬ ((t + 18) = 100) := by exact gz_m 23 (by omega)
  have N_t_18__101 : ¬ ((t + 18) = 101) := by exact gz_m 24 (by omega)
  have N_t_18__t_22 : ¬ ((t + 18) = (t + 22)) := by exact gz_m 25 (by omega)
  have N_t_19__100 : ¬ ((t + 19) = 100) := by exact gz_m 26 (by omega)
  have N_t_19__101 : ¬ ((t + 19) = 101) := by exact gz_m 27 (by omega)
  have N_t_19__t_22 : ¬ ((t + 19) = (t + 22)) := by exact gz_m 28 (by omega)
  have N_t_20__100 : ¬ ((t + 20) = 100) := by exact gz_m 29 (by omega)
  have N_t_20__101 : ¬ ((t + 20) = 101) := by exact gz_m 30 (by omega)
  have N_t_20__t_22 : ¬ ((t + 20) = (t + 22)) := by exact gz_m 31 (by omega)
  have N_t_21__100 : ¬ ((t + 21) = 100) := by exact gz_m 32 (by omega)
  have N_t_21__101 : ¬ ((t + 21) = 101) := by exact gz_m 33 (by omega)
  have N_t_21__t_22 : ¬ ((t + 21) = (t + 22)) := by exact gz_m 34 (by omega)
  have N_t_18__23 : ¬ ((t + 18) = 23) := by exact gz_m 35 (by omega)
  have N_t_19__23 : ¬ ((t + 19) = 23) := by exact gz_m 36 (by omega)
  have N_t_20__23 : ¬ ((t + 20) = 23) := by exact gz_m 37 (by omega)
  have N_t_21__23 : ¬ ((t + 21) = 23) := by exact gz_m 38 (by omega)
  have KBD_I : gh_BD I t I := gh_BD_rf
  have f1 := (gc_b_3_1 hI R_23)
  have f2 := (gc_b_75_1 hI R_100)
  have f3 := (gc_b_75_2 hI R_100)
  have f4 := (show 0 ≤ I (t + 17) 8 ∧ I (t + 17) 8 ≤ 64 from gc_in2 hI R_t_17 rfl rfl rfl)
  have f5 := (show 0 ≤ I t 11 ∧ I t 11 ≤ 64 from gc_in2 hI R_t rfl rfl rfl)
  have f6 := (show 0 ≤ I (t + 17) 6 ∧ I (t + 17) 6 ≤ 1 from gc_in2 hI R_t_17 rfl rfl rfl)
  have f7 := (show 0 ≤ I (t + 17) 7 ∧ I (t + 17) 7 ≤ 1 from gc_in2 hI R_t_17 rfl rfl rfl)
  refine gv_run 2 true hD (pc' := 2) (lv' := [(0, .inr (.inr (some 0))), (1, .inl a1)]) (st' := [.inl a1, .inr (.inr (some 0))]) (h' := gc_h sh I J A) (C := ((True ∧ True) ∧ True)) rfl ⟨⟨trivial, trivial⟩, trivial⟩ ?_
  refine gv_callV hD rfl (As := [.inl a1]) (st := []) rfl B_0 S_0 rfl (gc_lV12 hws rfl) (Nat.le_of_ble_eq_true rfl) (gz_Ev_mono (d := 1) (by decide) (d_X12_tongueAt hws htb (J := J) hI hb (by exact gz_m 39 (by omega)) (by exact gz_m 40 (by omega)) x1)) ?_
  show gv_X _ _ (5, [(0, .inr (.inr (some 0))), (1, .inl a1)], [.inr (.inr (some t))], sh, gc_h sh I J A)
  refine gv_run 2 true hD (pc' := 7) (lv' := [(2, .inr (.inr (some t))), (0, .inr (.inr (some 0))), (1, .inl a1)]) (st' := [.inr (.inr (some t))]) (h' := gc_h sh I J A) (C := ((True ∧ True) ∧ True)) rfl ⟨⟨trivial, trivial⟩, trivial⟩ ?_
  refine gv_get hD rfl rfl S_t ⟨by decide, B_t⟩ (gc_hA S_t rfl A_t_15) ?_
  show gv_X _ _ (10, [(2, .inr (.inr (some t))), (0, .inr (.inr (some 0))), (1, .inl a1)], [.inr (.inr (some (t + 17)))], sh, gc_h sh I J A)
  refine gv_run 1 true hD (pc' := 11) (lv' := [(2, .inr (.inr (some t))), (0, .inr (.inr (some 0))), (1, .inl a1)]) (st' := [.inr (.inr (some t)), .inr (.inr (some (t + 17)))]) (h' := gc_h sh I J A) (C := (True ∧ True)) rfl ⟨trivial, trivial⟩ ?_
  obtain ⟨r9, h9, E9, P9⟩ := d_X2_build_b (ws0 := ws0) (tb := tb) hws htb sh ro I J A hI (t + 17) t h_t_17 h_t G_t   x2 rfl x3 (by exact gz_m 41 (by omega)) 
  obtain ⟨I10, J11, rfl, hI10, g9, k9, ⟨rfl, q9⟩⟩ := P9
  have FI10 := gc_frc (W := fun q j => (q = (t + 17) ∧ j = 8) ∨ (q = (t + 17) ∧ j = 9) ∨ q = (t + 18) ∨ q = (t + 19) ∨ q = (t + 20) ∨ q = (t + 21) ∨ (q = (t + 17) ∧ j = 6) ∨ (q = (t + 17) ∧ j = 7) ∨ q = (t + 23) ∨ q = (t + 24) ∨ (q = 100 ∧ j = 2) ∨ (q = 100 ∧ j = 1) ∨ q = 101 ∨ q = (t + 22) ∨ (q = 23 ∧ j = 1)) (V := fun q j => (q = (t + 17) ∧ j = 6) ∨ (q = (t + 17) ∧ j = 7) ∨ (q = (t + 17) ∧ j = 8) ∨ (q = (t + 17) ∧ j = 9) ∨ q = (t + 18) ∨ q = (t + 19) ∨ q = (t + 20) ∨ q = (t + 21) ∨ q = (t + 23) ∨ q = (t + 24)) FI (fun q j h => (h.elim (fun h => (Or.inr (Or.inr (Or.inr (Or.inr (Or.inr (Or.inr (Or.inl h)))))))) (fun h => (h.elim (fun h => (Or.inr (Or.inr (Or.inr (Or.inr (Or.inr (Or.inr (Or.inr (Or.inl h))))))))) (fun h => (h.elim (fun h => (Or.inl h)) (fun h => (h.elim (fun h => (Or.inr (Or.inl h))) (fun h => (h.elim (fun h => (Or.inr (Or.inr (Or.inl h)))) (fun h => (h.elim (fun h => (Or.inr (Or.inr (Or.inr (Or.inl h))))) (fun h => (h.elim (fun h => (Or.inr (Or.inr (Or.inr (Or.inr (Or.inl h)))))) (fun h => (h.elim (fun h => (Or.inr (Or.inr (Or.inr (Or.inr (Or.inr (Or.inl h))))))) (fun h => (h.elim (fun h => (Or.inr (Or.inr (Or.inr (Or.inr (Or.inr (Or.inr (Or.inr (Or.inr (Or.inl h)))))))))) (fun h => (Or.inr (Or.inr (Or.inr (Or.inr (Or.inr (Or.inr (Or.inr (Or.inr (Or.inr (Or.inl h))))))))))))))))))))))))))))) g9
  have t12 := (g9 23 1).resolve_left (fun h => h.elim (fun h => absurd h.2 (by first | exact gz_ne rfl | decide)) (fun h => h.elim (fun h => absurd h.2 (by first | exact gz_ne rfl | decide)) (fun h => h.elim (fun h => absurd h.2 (by first | exact gz_ne rfl | decide)) (fun h => h.elim (fun h => absurd h.2 (by first | exact gz_ne rfl | decide)) (fun h => h.elim (fun h => absurd h N_23__t_18) (fun h => h.elim (fun h => absurd h N_23__t_19) (fun h => h.elim (fun h => absurd h N_23__t_20) (fun h => h.elim (fun h => absurd h N_23__t_21) (fun h => h.elim (fun h => absurd h N_23__t_23) (fun h => absurd h N_23__t_24))))))))))
  have t13 := (g9 100 1).resolve_left (fun h => h.elim (fun h => absurd h.2 (by first | exact gz_ne rfl | decide)) (fun h => h.elim (fun h => absurd h.2 (by first | exact gz_ne rfl | decide)) (fun h => h.elim (fun h => absurd h.2 (by first | exact gz_ne rfl | decide)) (fun h => h.elim (fun h => absurd h.2 (by first | exact gz_ne rfl | decide)) (fun h => h.elim (fun h => absurd h N_100__t_18) (fun h => h.elim (fun h => absurd h N_100__t_19) (fun h => h.elim (fun h => absurd h N_100__t_20) (fun h => h.elim (fun h => absurd h N_100__t_21) (fun h => h.elim (fun h => absurd h N_100__t_23) (fun h => absurd h N_100__t_24))))))))))
  have t14 := (g9 100 2).resolve_left (fun h => h.elim (fun h => absurd h.2 (by first | exact gz_ne rfl | decide)) (fun h => h.elim (fun h => absurd h.2 (by first | exact gz_ne rfl | decide)) (fun h => h.elim (fun h => absurd h.2 (by first | exact gz_ne rfl | decide)) (fun h => h.elim (fun h => absurd h.2 (by first | exact gz_ne rfl | decide)) (fun h => h.elim (fun h => absurd h N_100__t_18) (fun h => h.elim (fun h => absurd h N_100__t_19) (fun h => h.elim (fun h => absurd h N_100__t_20) (fun h => h.elim (fun h => absurd h N_100__t_21) (fun h => h.elim (fun h => absurd h N_100__t_23) (fun h => absurd h N_100__t_24))))))))))
  have t15 := (g9 t 11).resolve_left (fun h => h.elim (fun h => absurd h.2 (by first | exact gz_ne rfl | decide)) (fun h => h.elim (fun h => absurd h.2 (by first | exact gz_ne rfl | decide)) (fun h => h.elim (fun h => absurd h.2 (by first | exact gz_ne rfl | decide)) (fun h => h.elim (fun h => absurd h.2 (by first | exact gz_ne rfl | decide)) (fun h => h.elim (fun h => absurd h N_t__t_18) (fun h => h.elim (fun h => absurd h N_t__t_19) (fun h => h.elim (fun h => absurd h N_t__t_20) (fun h => h.elim (fun h => absurd h N_t__t_21) (fun h => h.elim (fun h => absurd h N_t__t_23) (fun h => absurd h N_t__t_24))))))))))
  have f16 := (show 0 ≤ I10 (t + 17) 8 ∧ I10 (t + 17) 8 ≤ 64 from gc_in2 hI10 R_t_17 rfl rfl rfl)
  have f17 := (show 0 ≤ I10 (t + 17) 6 ∧ I10 (t + 17) 6 ≤ 1 from gc_in2 hI10 R_t_17 rfl rfl rfl)
  have f18 := (show 0 ≤ I10 (t + 17) 7 ∧ I10 (t + 17) 7 ≤ 1 from gc_in2 hI10 R_t_17 rfl rfl rfl)
  obtain rfl : J = J11 := funext fun q => funext fun j => ((k9 q j).resolve_left id).symm
  have KBD_I10 : gh_BD I t I10 := gh_BD_tr KBD_I gh_tb_rf (by exact gz_m 42 (by omega)) q9.2.2.2
  refine gv_callV hD rfl (As := [.inr (.inr (some t))]) (st := []) rfl B_t_17 S_t_17 rfl (gc_lV12 hws rfl) (Nat.le_of_ble_eq_true rfl) (gz_Ev_mono (d := 5) (by decide) E9) ?_
  show gv_X _ _ (14, [(2, .inr (.inr (some t))), (0, .inr (.inr (some 0))), (1, .inl a1)], [], sh, gc_h sh I10 J A)
  refine gv_run 1 true hD (pc' := 15) (lv' := [(2, .inr (.inr (some t))), (0, .inr (.inr (some 0))), (1, .inl a1)]) (st' := [.inr (.inr (some 0))]) (h' := gc_h sh I10 J A) (C := (True ∧ True)) rfl ⟨trivial, trivial⟩ ?_
  refine gv_get hD rfl rfl S_0 ⟨by decide, B_0⟩ (gc_hA S_0 rfl A_0_10) ?_
  show gv_X _ _ (18, [(2, .inr (.inr (some t))), (0, .inr (.inr (some 0))), (1, .inl a1)], [.inr (.inr (some 100))], sh, gc_h sh I10 J A)
  refine gv_run 3 true hD (pc' := 21) (lv' := [(2, .inr (.inr (some t))), (0, .inr (.inr (some 0))), (1, .inl a1)]) (st' := [.inr (.inr (some 0)), .inr (.inr (some t)), .inl a1, .inr (.inr (some 100))]) (h' := gc_h sh I10 J A) (C := (((True ∧ True) ∧ True) ∧ True)) rfl ⟨⟨⟨trivial, trivial⟩, trivial⟩, trivial⟩ ?_
  refine gv_get hD rfl rfl S_0 ⟨by decide, B_0⟩ (gc_hA S_0 rfl A_0_1) ?_
  show gv_X _ _ (24, [(2, .inr (.inr (some t))), (0, .inr (.inr (some 0))), (1, .inl a1)], [.inr (.inr (some 23)), .inr (.inr (some t)), .inl a1, .inr (.inr (some 100))], sh, gc_h sh I10 J A)
  obtain ⟨r19, h19, E19, P19⟩ := d_X1_noteAnalyses (ws0 := ws0) (tb := tb) hws htb sh ro I10 J A hI10  a1 t 23 hb h_t G_t (gc_b23 hb) (by exact gz_m 43 (by omega))  ⟨by exact gz_m 44 (by omega), by exact gz_m 45 (by omega)⟩  
  obtain ⟨I20, J21, rfl, hI20, g19, k19, ⟨z19, rfl, q19⟩⟩ := P19
  have FI20 := gc_frc (W := fun q j => (q = (t + 17) ∧ j = 8) ∨ (q = (t + 17) ∧ j = 9) ∨ q = (t + 18) ∨ q = (t + 19) ∨ q = (t + 20) ∨ q = (t + 21) ∨ (q = (t + 17) ∧ j = 6) ∨ (q = (t + 17) ∧ j = 7) ∨ q = (t + 23) ∨ q = (t + 24) ∨ (q = 100 ∧ j = 2) ∨ (q = 100 ∧ j = 1) ∨ q = 101 ∨ q = (t + 22) ∨ (q = 23 ∧ j = 1)) (V := fun q j => (q = 100 ∧ j = 2) ∨ (q = 100 ∧ j = 1) ∨ q = 101 ∨ q = (t + 22)) FI10 (fun q j h => (h.elim (fun h => (Or.inr (Or.inr (Or.inr (Or.inr (Or.inr (Or.inr (Or.inr (Or.inr (Or.inr (Or.inr (Or.inl h)))))))))))) (fun h => (h.elim (fun h => (Or.inr (Or.inr (Or.inr (Or.inr (Or.inr (Or.inr (Or.inr (Or.inr (Or.inr (Or.inr (Or.inr (Or.inl h))))))))))))) (fun h => (h.elim (fun h => (Or.inr (Or.inr (Or.inr (Or.inr (Or.inr (Or.inr (Or.inr (Or.inr (Or.inr (Or.inr (Or.inr (Or.inr (Or.inl h)))))))))))))) (fun h => (Or.inr (Or.inr (Or.inr (Or.inr (Or.inr (Or.inr (Or.inr (Or.inr (Or.inr (Or.inr (Or.inr (Or.inr (Or.inr (Or.inl h))))))))))))))))))))) g19
  have t22 := (g19 23 1).resolve_left (fun h => h.elim (fun h => absurd h.2 (by first | exact gz_ne rfl | decide)) (fun h => h.elim (fun h => absurd h.1 (by first | exact gz_ne rfl | decide)) (fun h => h.elim (fun h => absurd h (by first | exact gz_ne rfl | decide)) (fun h => absurd h N_23__t_22))))
  have t23 := (g19 (t + 17) 8).resolve_left (fun h => h.elim (fun h => absurd h.2 (by first | exact gz_ne rfl | decide)) (fun h => h.elim (fun h => absurd h.2 (by first | exact gz_ne rfl | decide)) (fun h => h.elim (fun h => absurd h N_t_17__101) (fun h => absurd h N_t_17__t_22))))
  have t24 := (g19 t 11).resolve_left (fun h => h.elim (fun h => absurd h.2 (by first | exact gz_ne rfl | decide)) (fun h => h.elim (fun h => absurd h.2 (by first | exact gz_ne rfl | decide)) (fun h => h.elim (fun h => absurd h N_t__101) (fun h => absurd h N_t__t_22))))
  have t25 := (g19 (t + 17) 6).resolve_left (fun h => h.elim (fun h => absurd h.2 (by first | exact gz_ne rfl | decide)) (fun h => h.elim (fun h => absurd h.2 (by first | exact gz_ne rfl | decide)) (fun h => h.elim (fun h => absurd h N_t_17__101) (fun h => absurd h N_t_17__t_22))))
  have t26 := (g19 (t + 17) 7).resolve_left (fun h => h.elim (fun h => absurd h.2 (by first | exact gz_ne rfl | decide)) (fun h => h.elim (fun h => absurd h.2 (by first | exact gz_ne rfl | decide)) (fun h => h.elim (fun h => absurd h N_t_17__101) (fun h => absurd h N_t_17__t_22))))
  have f27 := (gc_b_75_1 hI20 R_100)
  have f28 := (gc_b_75_2 hI20 R_100)
  obtain rfl : J = J21 := funext fun q => funext fun j => ((k19 q j).resolve_left id).symm
  have KBD_I20 := gh_BD_fr KBD_I10 ((g19 (t + 17) 8).resolve_left (fun h => h.elim (fun h => absurd h.2 (by first | exact gz_ne rfl | decide)) (fun h => h.elim (fun h => absurd h.2 (by first | exact gz_ne rfl | decide)) (fun h => h.elim (fun h => absurd h N_t_17__101) (fun h => absurd h N_t_17__t_22))))) ((g19 (t + 17) 9).resolve_left (fun h => h.elim (fun h => absurd h.2 (by first | exact gz_ne rfl | decide)) (fun h => h.elim (fun h => absurd h.2 (by first | exact gz_ne rfl | decide)) (fun h => h.elim (fun h => absurd h N_t_17__101) (fun h => absurd h N_t_17__t_22))))) (fun k => (g19 (t + 18) k).resolve_left (fun h => h.elim (fun h => absurd h.1 N_t_18__100) (fun h => h.elim (fun h => absurd h.1 N_t_18__100) (fun h => h.elim (fun h => absurd h N_t_18__101) (fun h => absurd h N_t_18__t_22))))) (fun k => (g19 (t + 19) k).resolve_left (fun h => h.elim (fun h => absurd h.1 N_t_19__100) (fun h => h.elim (fun h => absurd h.1 N_t_19__100) (fun h => h.elim (fun h => absurd h N_t_19__101) (fun h => absurd h N_t_19__t_22))))) (fun k => (g19 (t + 20) k).resolve_left (fun h => h.elim (fun h => absurd h.1 N_t_20__100) (fun h => h.elim (fun h => absurd h.1 N_t_20__100) (fun h => h.elim (fun h => absurd h N_t_20__101) (fun h => absurd h N_t_20__t_22))))) (fun k => (g19 (t + 21) k).resolve_left (fun h => h.elim (fun h => absurd h.1 N_t_21__100) (fun h => h.elim (fun h => absurd h.1 N_t_21__100) (fun h => h.elim (fun h => absurd h N_t_21__101) (fun h => absurd h N_t_21__t_22)))))
  refine gv_callV hD rfl (As := [.inl a1, .inr (.inr (some t)), .inr (.inr (some 23))]) (st := []) rfl B_100 S_100 rfl (gc_lV12 hws rfl) (Nat.le_of_ble_eq_true rfl) (gz_Ev_mono (d := 3) (by decide) E19) ?_
  show gv_X _ _ (27, [(2, .inr (.inr (some t))), (0, .inr (.inr (some 0))), (1, .inl a1)], [.inl z19], sh, gc_h sh I20 J A)
  refine gv_run 2 true hD (pc' := 29) (lv' := [(3, .inl z19), (2, .inr (.inr (some t))), (0, .inr (.inr (some 0))), (1, .inl a1)]) (st' := [.inr (.inr (some 0))]) (h' := gc_h sh I20 J A) (C := ((True ∧ True) ∧ True)) rfl ⟨⟨trivial, trivial⟩, trivial⟩ ?_
  refine gv_get hD rfl rfl S_0 ⟨by decide, B_0⟩ (gc_hA S_0 rfl A_0_1) ?_
  show gv_X _ _ (32, [(3, .inl z19), (2, .inr (.inr (some t))), (0, .inr (.inr (some 0))), (1, .inl a1)], [.inr (.inr (some 23))], sh, gc_h sh I20 J A)
  refine gv_run 1 true hD (pc' := 33) (lv' := [(3, .inl z19), (2, .inr (.inr (some t))), (0, .inr (.inr (some 0))), (1, .inl a1)]) (st' := [.inl 0, .inr (.inr (some 23))]) (h' := gc_h sh I20 J A) (C := (True ∧ True)) rfl ⟨trivial, trivial⟩ ?_
  refine gv_put hD rfl rfl S_23 ⟨by decide, B_23⟩ rfl trivial ?_
  refine gc_st (k := 1) hI20 S_23 rfl R_23 (lo := 0) (hi := 1000) rfl rfl (by exact gz_m 46 (by omega)) (by exact gz_m 47 (by omega)) (fun I29 hI29 q30 p30 => ?_)
  have FI29 := gc_frs (W := fun q j => (q = (t + 17) ∧ j = 8) ∨ (q = (t + 17) ∧ j = 9) ∨ q = (t + 18) ∨ q = (t + 19) ∨ q = (t + 20) ∨ q = (t + 21) ∨ (q = (t + 17) ∧ j = 6) ∨ (q = (t + 17) ∧ j = 7) ∨ q = (t + 23) ∨ q = (t + 24) ∨ (q = 100 ∧ j = 2) ∨ (q = 100 ∧ j = 1) ∨ q = 101 ∨ q = (t + 22) ∨ (q = 23 ∧ j = 1)) FI20 (Or.inr (Or.inr (Or.inr (Or.inr (Or.inr (Or.inr (Or.inr (Or.inr (Or.inr (Or.inr (Or.inr (Or.inr (Or.inr (Or.inr ⟨rfl, rfl⟩)))))))))))))) p30
  have t31 := p30 100 1 (fun h => absurd h.1 (by first | exact gz_ne rfl | decide))
  have t32 := p30 100 2 (fun h => absurd h.2 (by first | exact gz_ne rfl | decide))
  have t33 := p30 (t + 17) 8 (fun h => absurd h.2 (by first | exact gz_ne rfl | decide))
  have t34 := p30 t 11 (fun h => absurd h.2 (by first | exact gz_ne rfl | decide))
  have t35 := p30 (t + 17) 6 (fun h => absurd h.2 (by first | exact gz_ne rfl | decide))
  have t36 := p30 (t + 17) 7 (fun h => absurd h.2 (by first | exact gz_ne rfl | decide))
  have f37 := (gc_b_3_1 hI29 R_23)
  have KBD_I29 := gh_BD_fr KBD_I20 (p30 (t + 17) 8 (fun h => absurd h.2 (by first | exact gz_ne rfl | decide))) (p30 (t + 17) 9 (fun h => absurd h.2 (by first | exact gz_ne rfl | decide))) (fun k => p30 (t + 18) k (fun h => absurd h.1 N_t_18__23)) (fun k => p30 (t + 19) k (fun h => absurd h.1 N_t_19__23)) (fun k => p30 (t + 20) k (fun h => absurd h.1 N_t_20__23)) (fun k => p30 (t + 21) k (fun h => absurd h.1 N_t_21__23))
  show gv_X _ _ (36, [(3, .inl z19), (2, .inr (.inr (some t))), (0, .inr (.inr (some 0))), (1, .inl a1)], [], sh, gc_h sh I29 J A)
  refine gv_run 1 true hD (pc' := 37) (lv' := [(3, .inl z19), (2, .inr (.inr (some t))), (0, .inr (.inr (some 0))), (1, .inl a1)]) (st' := [.inl z19]) (h' := gc_h sh I29 J A) (C := (True ∧ True)) rfl ⟨trivial, trivial⟩ ?_
  exact gv_iret hD rfl ⟨I29, J, rfl, hI29, FI29, FJ, ⟨_, rfl, by exact gz_m 48 (by omega), by exact gz_m 49 (by omega), by exact gz_m 50 (by omega), (gc_FB_fr q9.1 (fun k => ((p30 (t + 17 + 4) k (fun h => absurd h.1 (by exact gz_m 51 (by omega)))).trans ((g19 (t + 17 + 4) k).resolve_left (by exact gz_m 52 (by omega))))) (fun k => ((p30 (t + 17 + 3) k (fun h => absurd h.1 (by exact gz_m 53 (by omega)))).trans ((g19 (t + 17 + 3) k).resolve_left (by exact gz_m 54 (by omega)))))), by exact gz_m 55 (by omega), by exact gz_m 56 (by omega), by exact gz_m 57 (by omega), KBD_I29⟩⟩
set_option maxHeartbeats 8000000 in
set_option maxRecDepth 100000 in
theorem d_X12_guess {ws0 : List Cond} {tb : String → gz_T} (hws : gc_Ws ws0) (htb : gc_tbs tb) (sh : gz_Sh) (ro : Nat → Nat) (I : gr_I) (J : gr_J) (A : gc_A) (hI : gc_Inv ro I) (t : Nat) (a1 : Int) (hb : gc_Base sh ro A) (h_t : gc_isTongue sh ro A t) (G_t : 144 ≤ t) (ha1 : 0 ≤ a1 ∧ a1 ≤ 7) (x0 : 0 ≤ a1 ∧ a1 < I 8 1) (x1 : A 10 (Int.toNat a1) = some t) (x2 : gc_sc (t + 10) I) (x3 : gc_FB (t + 17) (24 * I (t + 17) 8) I) (x4 : I (t + 17) 8 ≤ I t 11) : ∃ r h', gz_Ev ws0 tb 6 (yX12_guess, cX12_guess, 4, (some .int)) [.inr (.inr (some 0)), .inl a1] sh (gc_h sh I J A) r sh h' 0 0 ∧ (∃ (I' : gr_I) (J' : gr_J), h' = gc_h sh I' J' A ∧ gc_Inv ro I' ∧ (∀ q j : Nat, ((q = (t + 17) ∧ j = 8) ∨ (q = (t + 17) ∧ j = 9) ∨ q = (t + 18) ∨ q = (t + 19) ∨ q = (t + 20) ∨ q = (t + 21) ∨ (q = (t + 17) ∧ j = 6) ∨ (q = (t + 17) ∧ j = 7) ∨ q = (t + 23) ∨ q = (t + 24) ∨ (q = 100 ∧ j = 4) ∨ (q = 100 ∧ j = 7) ∨ (q = 100 ∧ j = 8) ∨ q = 102 ∨ q = 103 ∨ (q = 23 ∧ j = 1)) ∨ I' q j = I q j) ∧ (∀ q j : Nat, (False) ∨ J' q j = J q j) ∧ (∃ z : Int, r = some (.inl z) ∧ (-3) ≤ z ∧ z ≤ 24 ∧ (I' 23 1 = 0) ∧ (gc_FB (t + 17) (24 * I t 11) I') ∧ (I' (t + 17) 8 = I t 11) ∧ (I (t + 17) 6 = I (t + 17) 7 ∨ ¬ I' (t + 17) 6 = I' (t + 17) 7) ∧ (gh_BD I t I'))) := by
  have FI : ∀ q j : Nat, ((q = (t + 17) ∧ j = 8) ∨ (q = (t + 17) ∧ j = 9) ∨ q = (t + 18) ∨ q = (t + 19) ∨ q = (t + 20) ∨ q = (t + 21) ∨ (q = (t + 17) ∧ j = 6) ∨ (q = (t + 17) ∧ j = 7) ∨ q = (t + 23) ∨ q = (t + 24) ∨ (q = 100 ∧ j = 4) ∨ (q = 100 ∧ j = 7) ∨ (q = 100 ∧ j = 8) ∨ q = 102 ∨ q = 103 ∨ (q = 23 ∧ j = 1)) ∨ I q j = I q j := fun _ _ => Or.inr rfl
  have FJ : ∀ q j : Nat, (False) ∨ J q j = J q j := fun _ _ => Or.inr rfl
  have A_0_1 : A 0 1 = some 23 := gc_bA_0_1 hb
  have A_0_10 : A 0 10 = some 100 := gc_bA_0_10 hb
  have B_0 : 0 < 1000000 := by decide
  have B_100 : 100 < 1000000 := by decide
  have B_23 : 23 < 1000000 := by decide
  have R_23 : ro 23 = 3 := gc_bR_23 hb
  have S_0 : sh[0]? = some (false, 12, 17) := gc_bS_0 hb
  have S_100 : sh[100]? = some (false, 1, 19) := gc_bS_100 hb
  have S_23 : sh[23]? = some (false, 9, 10) := gc_bS_23 hb
  obtain ⟨S_t, R_t, B_t, A_t_0, h_t_1, A_t_1, h_t_3, A_t_2, S_t_5, R_t_5, B_t_5, A_t_3, S_t_6, R_t_6, B_t_6, A_t_4, h_t_7, A_t_5, S_t_9, R_t_9, B_t_9, A_t_7, S_t_10, R_t_10, B_t_10, A_t_8, h_t_11, A_t_9, S_t_13, R_t_13, B_t_13, A_t_10, S_t_14, R_t_14, B_t_14, A_t_12, S_t_15, R_t_15, B_t_15, A_t_14, S_t_16, R_t_16, B_t_16, A_t_15, h_t_17⟩ := id h_t
  obtain ⟨S_t_1, R_t_1, B_t_1, A_t_1_0, S_t_1_1, R_t_1_1, B_t_1_1, Q0_t_1, Q1_t_1, Q2_t_1⟩ := id h_t_1
  obtain ⟨S_t_3, R_t_3, B_t_3, A_t_3_0, S_t_3_1, R_t_3_1, B_t_3_1, Q0_t_3, Q1_t_3, Q2_t_3⟩ := id h_t_3
  obtain ⟨S_t_7, R_t_7, B_t_7, A_t_7_0, S_t_7_1, R_t_7_1, B_t_7_1, Q0_t_7, Q1_t_7, Q2_t_7⟩ := id h_t_7
  obtain ⟨S_t_11, R_t_11, B_t_11, A_t_11_0, S_t_11_1, R_t_11_1, B_t_11_1, Q0_t_11, Q1_t_11, Q2_t_11⟩ := id h_t_11
  obtain ⟨S_t_17, R_t_17, B_t_17, A_t_17_0, S_20, R_20, B_20, A_t_17_1, S_t_17_1, R_t_17_1, B_t_17_1, A_t_17_2, S_t_17_2, R_t_17_2, B_t_17_2, A_t_17_3, S_t_17_3, R_t_17_3, B_t_17_3, A_t_17_4, S_t_17_4, R_t_17_4, B_t_17_4, A_t_17_5, S_t_17_5, R_t_17_5, B_t_17_5, S_t_17_6, R_t_17_6, B_t_17_6, S_t_17_7, R_t_17_7, B_t_17_7⟩ := id h_t_17
  have hD : gv_D (gc_E12 ws0 tb 5 (yX12_guess, cX12_guess, 4, (some .int)) kX12_guess) := gq_of oX12_guess
  refine gc_ev12 (d := 5) (l := kX12_guess) (Po := fun r h' => (∃ (I' : gr_I) (J' : gr_J), h' = gc_h sh I' J' A ∧ gc_Inv ro I' ∧ (∀ q j : Nat, ((q = (t + 17) ∧ j = 8) ∨ (q = (t + 17) ∧ j = 9) ∨ q = (t + 18) ∨ q = (t + 19) ∨ q = (t + 20) ∨ q = (t + 21) ∨ (q = (t + 17) ∧ j = 6) ∨ (q = (t + 17) ∧ j = 7) ∨ q = (t + 23) ∨ q = (t + 24) ∨ (q = 100 ∧ j = 4) ∨ (q = 100 ∧ j = 7) ∨ (q = 100 ∧ j = 8) ∨ q = 102 ∨ q = 103 ∨ (q = 23 ∧ j = 1)) ∨ I' q j = I q j) ∧ (∀ q j : Nat, (False) ∨ J' q j = J q j) ∧ (∃ z : Int, r = some (.inl z) ∧ (-3) ≤ z ∧ z ≤ 24 ∧ (I' 23 1 = 0) ∧ (gc_FB (t + 17) (24 * I t 11) I') ∧ (I' (t + 17) 8 = I t 11) ∧ (I (t + 17) 6 = I (t + 17) 7 ∨ ¬ I' (t + 17) 6 = I' (t + 17) 7) ∧ (gh_BD I t I')))) htb rfl (Nat.le_of_ble_eq_true rfl) ?_
  have N_23__t_18 : ¬ (23 = (t + 18)) := by exact gz_m 0 (by omega)
  have N_23__t_19 : ¬ (23 = (t + 19)) := by exact gz_m 1 (by omega)
  have N_23__t_20 : ¬ (23 = (t + 20)) := by exact gz_m 2 (by omega)
  have N_23__t_21 : ¬ (23 = (t + 21)) := by exact gz_m 3 (by omega)
  have N_23__t_23 : ¬ (23 = (t + 23)) := by exact gz_m 4 (by omega)
  have N_23__t_24 : ¬ (23 = (t + 24)) := by exact gz_m 5 (by omega)
  have N_t__t_18 : ¬ (t = (t + 18)) := by exact gz_m 6 (by omega)
  have N_t__t_19 : ¬ (t = (t + 19)) := by exact gz_m 7 (by omega)
  have N_t__t_20 : ¬ (t = (t + 20)) := by exact gz_m 8 (by omega)
  have N_t__t_21 : ¬ (t = (t + 21)) := by exact gz_m 9 (by omega)
  have N_t__t_23 : ¬ (t = (t + 23)) := by exact gz_m 10 (by omega)
  have N_t__t_24 : ¬ (t = (t + 24)) := by exact gz_m 11 (by omega)
  have N_t_17__100 : ¬ ((t + 17) = 100) := by exact gz_m 12 (by omega)
  have N_t_17__102 : ¬ ((t + 17) = 102) := by exact gz_m 13 (by omega)
  have N_t_17__103 : ¬ ((t + 17) = 103) := by exact gz_m 14 (by omega)
  have N_t__102 : ¬ (t = 102) := by exact gz_m 15 (by omega)
  have N_t__103 : ¬ (t = 103) := by exact gz_m 16 (by omega)
  have N_t_18__100 : ¬ ((t + 18) = 100) := by exact gz_m 17 (by omega)
  have N_t_18__102 : ¬ ((t + 18) = 102) := by exact gz_m 18 (by omega)
  have N_t_18__103 : ¬ ((t + 18) = 103) := by exact gz_m 19 (by omega)
  have N_t_19__100 : ¬ ((t + 19) = 100) := by exact gz_m 20 (by omega)
  have N_t_19__102 : ¬ ((t + 19) = 102) := by exact gz_m 21 (by omega)
  have N_t_19__103 : ¬ ((t + 19) = 103) := by exact gz_m 22 (by omega)
  have N_t_20__100 : ¬ ((t + 20) = 100) := by exact gz_m 23 (by omega)
  have N_t_20__102 : ¬ ((t + 20) = 102) := by exact gz_m 24 (by omega)
  have N_t_20__103 : ¬ ((t + 20) = 103) := by exact gz_m 25 (by omega)
  have N_t_21__100 : ¬ ((t + 21) = 100) := by exact gz_m 26 (by omega)
  have N_t_21__102 : ¬ ((t + 21) = 102) := by exact gz_m 27 (by omega)
  have N_t_21__103 : ¬ ((t + 21) = 103) := by exact gz_m 28 (by omega)
  have N_t_18__23 : ¬ ((t + 18) = 23) := by exact gz_m 29 (by omega)
  have N_t_19__23 : ¬ ((t + 19) = 23) := by exact gz_m 30 (by omega)
  have N_t_20__23 : ¬ ((t + 20) = 23) := by exact gz_m 31 (by omega)
  have N_t_21__23 : ¬ ((t + 21) = 23) := by exact gz_m 32 (by omega)
  have KBD_I : gh_BD I t I := gh_BD_rf
  have f1 := (gc_b_3_1 hI R_23)
  have f2 := (show 0 ≤ I (t + 17) 8 ∧ I (t + 17) 8 ≤ 64 from gc_in2 hI R_t_17 rfl rfl rfl)
  have f3 := (show 0 ≤ I t 11 ∧ I t 11 ≤ 64 from gc_in2 hI R_t rfl rfl rfl)
  have f4 := (show 0 ≤ I (t + 17) 6 ∧ I (t + 17) 6 ≤ 1 from gc_in2 hI R_t_17 rfl rfl rfl)
  have f5 := (show 0 ≤ I (t + 17) 7 ∧ I (t + 17) 7 ≤ 1 from gc_in2 hI R_t_17 rfl rfl rfl)
  refine gv_run 2 true hD (pc' := 2) (lv' := [(0, .inr (.inr (some 0))), (1, .inl a1)]) (st' := [.inl a1, .inr (.inr (some 0))]) (h' := gc_h sh I J A) (C := ((True ∧ True) ∧ True)) rfl ⟨⟨trivial, trivial⟩, trivial⟩ ?_
  refine gv_callV hD rfl (As := [.inl a1]) (st := []) rfl B_0 S_0 rfl (gc_lV12 hws rfl) (Nat.le_of_ble_eq_true rfl) (gz_Ev_mono (d := 1) (by decide) (d_X12_tongueAt hws htb (J := J) hI hb (by exact gz_m 33 (by omega)) (by exact gz_m 34 (by omega)) x1)) ?_
  show gv_X _ _ (5, [(0, .inr (.inr (some 0))), (1, .inl a1)], [.inr (.inr (some t))], sh, gc_h sh I J A)
  refine gv_run 2 true hD (pc' := 7) (lv' := [(2, .inr (.inr (some t))), (0, .inr (.inr (some 0))), (1, .inl a1)]) (st' := [.inr (.inr (some t))]) (h' := gc_h sh I J A) (C := ((True ∧ True) ∧ True)) rfl ⟨⟨trivial, trivial⟩, trivial⟩ ?_
  refine gv_get hD rfl rfl S_t ⟨by decide, B_t⟩ (gc_hA S_t rfl A_t_15) ?_
  show gv_X _ _ (10, [(2, .inr (.inr (some t))), (0, .inr (.inr (some 0))), (1, .inl a1)], [.inr (.inr (some (t + 17)))], sh, gc_h sh I J A)
  refine gv_run 1 true hD (pc' := 11) (lv' := [(2, .inr (.inr (some t))), (0, .inr (.inr (some 0))), (1, .inl a1)]) (st' := [.inr (.inr (some t)), .inr (.inr (some (t + 17)))]) (h' := gc_h sh I J A) (C := (True ∧ True)) rfl ⟨trivial, trivial⟩ ?_
  obtain ⟨r7, h7, E7, P7⟩ := d_X2_build_b (ws0 := ws0) (tb := tb) hws htb sh ro I J A hI (t + 17) t h_t_17 h_t G_t   x2 rfl x3 (by exact gz_m 35 (by omega)) 
  obtain ⟨I8, J9, rfl, hI8, g7, k7, ⟨rfl, q7⟩⟩ := P7
  have FI8 := gc_frc (W := fun q j => (q = (t + 17) ∧ j = 8) ∨ (q = (t + 17) ∧ j = 9) ∨ q = (t + 18) ∨ q = (t + 19) ∨ q = (t + 20) ∨ q = (t + 21) ∨ (q = (t + 17) ∧ j = 6) ∨ (q = (t + 17) ∧ j = 7) ∨ q = (t + 23) ∨ q = (t + 24) ∨ (q = 100 ∧ j = 4) ∨ (q = 100 ∧ j = 7) ∨ (q = 100 ∧ j = 8) ∨ q = 102 ∨ q = 103 ∨ (q = 23 ∧ j = 1)) (V := fun q j => (q = (t + 17) ∧ j = 6) ∨ (q = (t + 17) ∧ j = 7) ∨ (q = (t + 17) ∧ j = 8) ∨ (q = (t + 17) ∧ j = 9) ∨ q = (t + 18) ∨ q = (t + 19) ∨ q = (t + 20) ∨ q = (t + 21) ∨ q = (t + 23) ∨ q = (t + 24)) FI (fun q j h => (h.elim (fun h => (Or.inr (Or.inr (Or.inr (Or.inr (Or.inr (Or.inr (Or.inl h)))))))) (fun h => (h.elim (fun h => (Or.inr (Or.inr (Or.inr (Or.inr (Or.inr (Or.inr (Or.inr (Or.inl h))))))))) (fun h => (h.elim (fun h => (Or.inl h)) (fun h => (h.elim (fun h => (Or.inr (Or.inl h))) (fun h => (h.elim (fun h => (Or.inr (Or.inr (Or.inl h)))) (fun h => (h.elim (fun h => (Or.inr (Or.inr (Or.inr (Or.inl h))))) (fun h => (h.elim (fun h => (Or.inr (Or.inr (Or.inr (Or.inr (Or.inl h)))))) (fun h => (h.elim (fun h => (Or.inr (Or.inr (Or.inr (Or.inr (Or.inr (Or.inl h))))))) (fun h => (h.elim (fun h => (Or.inr (Or.inr (Or.inr (Or.inr (Or.inr (Or.inr (Or.inr (Or.inr (Or.inl h)))))))))) (fun h => (Or.inr (Or.inr (Or.inr (Or.inr (Or.inr (Or.inr (Or.inr (Or.inr (Or.inr (Or.inl h))))))))))))))))))))))))))))) g7
  have t10 := (g7 23 1).resolve_left (fun h => h.elim (fun h => absurd h.2 (by first | exact gz_ne rfl | decide)) (fun h => h.elim (fun h => absurd h.2 (by first | exact gz_ne rfl | decide)) (fun h => h.elim (fun h => absurd h.2 (by first | exact gz_ne rfl | decide)) (fun h => h.elim (fun h => absurd h.2 (by first | exact gz_ne rfl | decide)) (fun h => h.elim (fun h => absurd h N_23__t_18) (fun h => h.elim (fun h => absurd h N_23__t_19) (fun h => h.elim (fun h => absurd h N_23__t_20) (fun h => h.elim (fun h => absurd h N_23__t_21) (fun h => h.elim (fun h => absurd h N_23__t_23) (fun h => absurd h N_23__t_24))))))))))
  have t11 := (g7 t 11).resolve_left (fun h => h.elim (fun h => absurd h.2 (by first | exact gz_ne rfl | decide)) (fun h => h.elim (fun h => absurd h.2 (by first | exact gz_ne rfl | decide)) (fun h => h.elim (fun h => absurd h.2 (by first | exact gz_ne rfl | decide)) (fun h => h.elim (fun h => absurd h.2 (by first | exact gz_ne rfl | decide)) (fun h => h.elim (fun h => absurd h N_t__t_18) (fun h => h.elim (fun h => absurd h N_t__t_19) (fun h => h.elim (fun h => absurd h N_t__t_20) (fun h => h.elim (fun h => absurd h N_t__t_21) (fun h => h.elim (fun h => absurd h N_t__t_23) (fun h => absurd h N_t__t_24))))))))))
  have f12 := (show 0 ≤ I8 (t + 17) 8 ∧ I8 (t + 17) 8 ≤ 64 from gc_in2 hI8 R_t_17 rfl rfl rfl)
  have f13 := (show 0 ≤ I8 (t + 17) 6 ∧ I8 (t + 17) 6 ≤ 1 from gc_in2 hI8 R_t_17 rfl rfl rfl)
  have f14 := (show 0 ≤ I8 (t + 17) 7 ∧ I8 (t + 17) 7 ≤ 1 from gc_in2 hI8 R_t_17 rfl rfl rfl)
  obtain rfl : J = J9 := funext fun q => funext fun j => ((k7 q j).resolve_left id).symm
  have KBD_I8 : gh_BD I t I8 := gh_BD_tr KBD_I gh_tb_rf (by exact gz_m 36 (by omega)) q7.2.2.2
  refine gv_callV hD rfl (As := [.inr (.inr (some t))]) (st := []) rfl B_t_17 S_t_17 rfl (gc_lV12 hws rfl) (Nat.le_of_ble_eq_true rfl) (gz_Ev_mono (d := 5) (by decide) E7) ?_
  show gv_X _ _ (14, [(2, .inr (.inr (some t))), (0, .inr (.inr (some 0))), (1, .inl a1)], [], sh, gc_h sh I8 J A)
  refine gv_run 1 true hD (pc' := 15) (lv' := [(2, .inr (.inr (some t))), (0, .inr (.inr (some 0))), (1, .inl a1)]) (st' := [.inr (.inr (some 0))]) (h' := gc_h sh I8 J A) (C := (True ∧ True)) rfl ⟨trivial, trivial⟩ ?_
  refine gv_get hD rfl rfl S_0 ⟨by decide, B_0⟩ (gc_hA S_0 rfl A_0_10) ?_
  show gv_X _ _ (18, [(2, .inr (.inr (some t))), (0, .inr (.inr (some 0))), (1, .inl a1)], [.inr (.inr (some 100))], sh, gc_h sh I8 J A)
  refine gv_run 2 true hD (pc' := 20) (lv' := [(2, .inr (.inr (some t))), (0, .inr (.inr (some 0))), (1, .inl a1)]) (st' := [.inr (.inr (some 0)), .inr (.inr (some t)), .inr (.inr (some 100))]) (h' := gc_h sh I8 J A) (C := ((True ∧ True) ∧ True)) rfl ⟨⟨trivial, trivial⟩, trivial⟩ ?_
  refine gv_get hD rfl rfl S_0 ⟨by decide, B_0⟩ (gc_hA S_0 rfl A_0_1) ?_
  show gv_X _ _ (23, [(2, .inr (.inr (some t))), (0, .inr (.inr (some 0))), (1, .inl a1)], [.inr (.inr (some 23)), .inr (.inr (some t)), .inr (.inr (some 100))], sh, gc_h sh I8 J A)
  obtain ⟨r15, h15, E15, P15⟩ := d_X1_noteGuesses (ws0 := ws0) (tb := tb) hws htb sh ro I8 J A hI8  t 23 hb h_t G_t (gc_b23 hb) (by exact gz_m 37 (by omega))    
  obtain ⟨I16, J17, rfl, hI16, g15, k15, ⟨z15, rfl, q15⟩⟩ := P15
  have FI16 := gc_frc (W := fun q j => (q = (t + 17) ∧ j = 8) ∨ (q = (t + 17) ∧ j = 9) ∨ q = (t + 18) ∨ q = (t + 19) ∨ q = (t + 20) ∨ q = (t + 21) ∨ (q = (t + 17) ∧ j = 6) ∨ (q = (t + 17) ∧ j = 7) ∨ q = (t + 23) ∨ q = (t + 24) ∨ (q = 100 ∧ j = 4) ∨ (q = 100 ∧ j = 7) ∨ (q = 100 ∧ j = 8) ∨ q = 102 ∨ q = 103 ∨ (q = 23 ∧ j = 1)) (V := fun q j => (q = 100 ∧ j = 4) ∨ (q = 100 ∧ j = 7) ∨ (q = 100 ∧ j = 8) ∨ q = 102 ∨ q = 103) FI8 (fun q j h => (h.elim (fun h => (Or.inr (Or.inr (Or.inr (Or.inr (Or.inr (Or.inr (Or.inr (Or.inr (Or.inr (Or.inr (Or.inl h)))))))))))) (fun h => (h.elim (fun h => (Or.inr (Or.inr (Or.inr (Or.inr (Or.inr (Or.inr (Or.inr (Or.inr (Or.inr (Or.inr (Or.inr (Or.inl h))))))))))))) (fun h => (h.elim (fun h => (Or.inr (Or.inr (Or.inr (Or.inr (Or.inr (Or.inr (Or.inr (Or.inr (Or.inr (Or.inr (Or.inr (Or.inr (Or.inl h)))))))))))))) (fun h => (h.elim (fun h => (Or.inr (Or.inr (Or.inr (Or.inr (Or.inr (Or.inr (Or.inr (Or.inr (Or.inr (Or.inr (Or.inr (Or.inr (Or.inr (Or.inl h))))))))))))))) (fun h => (Or.inr (Or.inr (Or.inr (Or.inr (Or.inr (Or.inr (Or.inr (Or.inr (Or.inr (Or.inr (Or.inr (Or.inr (Or.inr (Or.inr (Or.inl h)))))))))))))))))))))))) g15
  have t18 := (g15 23 1).resolve_left (fun h => h.elim (fun h => absurd h.2 (by first | exact gz_ne rfl | decide)) (fun h => h.elim (fun h => absurd h.2 (by first | exact gz_ne rfl | decide)) (fun h => h.elim (fun h => absurd h.2 (by first | exact gz_ne rfl | decide)) (fun h => h.elim (fun h => absurd h (by first | exact gz_ne rfl | decide)) (fun h => absurd h (by first | exact gz_ne rfl | decide))))))
  have t19 := (g15 (t + 17) 8).resolve_left (fun h => h.elim (fun h => absurd h.2 (by first | exact gz_ne rfl | decide)) (fun h => h.elim (fun h => absurd h.2 (by first | exact gz_ne rfl | decide)) (fun h => h.elim (fun h => absurd h.1 N_t_17__100) (fun h => h.elim (fun h => absurd h N_t_17__102) (fun h => absurd h N_t_17__103)))))
  have t20 := (g15 t 11).resolve_left (fun h => h.elim (fun h => absurd h.2 (by first | exact gz_ne rfl | decide)) (fun h => h.elim (fun h => absurd h.2 (by first | exact gz_ne rfl | decide)) (fun h => h.elim (fun h => absurd h.2 (by first | exact gz_ne rfl | decide)) (fun h => h.elim (fun h => absurd h N_t__102) (fun h => absurd h N_t__103)))))
  have t21 := (g15 (t + 17) 6).resolve_left (fun h => h.elim (fun h => absurd h.2 (by first | exact gz_ne rfl | decide)) (fun h => h.elim (fun h => absurd h.2 (by first | exact gz_ne rfl | decide)) (fun h => h.elim (fun h => absurd h.2 (by first | exact gz_ne rfl | decide)) (fun h => h.elim (fun h => absurd h N_t_17__102) (fun h => absurd h N_t_17__103)))))
  have t22 := (g15 (t + 17) 7).resolve_left (fun h => h.elim (fun h => absurd h.2 (by first | exact gz_ne rfl | decide)) (fun h => h.elim (fun h => absurd h.1 N_t_17__100) (fun h => h.elim (fun h => absurd h.2 (by first | exact gz_ne rfl | decide)) (fun h => h.elim (fun h => absurd h N_t_17__102) (fun h => absurd h N_t_17__103)))))
  obtain rfl : J = J17 := funext fun q => funext fun j => ((k15 q j).resolve_left id).symm
  have KBD_I16 := gh_BD_fr KBD_I8 ((g15 (t + 17) 8).resolve_left (fun h => h.elim (fun h => absurd h.2 (by first | exact gz_ne rfl | decide)) (fun h => h.elim (fun h => absurd h.2 (by first | exact gz_ne rfl | decide)) (fun h => h.elim (fun h => absurd h.1 N_t_17__100) (fun h => h.elim (fun h => absurd h N_t_17__102) (fun h => absurd h N_t_17__103)))))) ((g15 (t + 17) 9).resolve_left (fun h => h.elim (fun h => absurd h.2 (by first | exact gz_ne rfl | decide)) (fun h => h.elim (fun h => absurd h.2 (by first | exact gz_ne rfl | decide)) (fun h => h.elim (fun h => absurd h.2 (by first | exact gz_ne rfl | decide)) (fun h => h.elim (fun h => absurd h N_t_17__102) (fun h => absurd h N_t_17__103)))))) (fun k => (g15 (t + 18) k).resolve_left (fun h => h.elim (fun h => absurd h.1 N_t_18__100) (fun h => h.elim (fun h => absurd h.1 N_t_18__100) (fun h => h.elim (fun h => absurd h.1 N_t_18__100) (fun h => h.elim (fun h => absurd h N_t_18__102) (fun h => absurd h N_t_18__103)))))) (fun k => (g15 (t + 19) k).resolve_left (fun h => h.elim (fun h => absurd h.1 N_t_19__100) (fun h => h.elim (fun h => absurd h.1 N_t_19__100) (fun h => h.elim (fun h => absurd h.1 N_t_19__100) (fun h => h.elim (fun h => absurd h N_t_19__102) (fun h => absurd h N_t_19__103)))))) (fun k => (g15 (t + 20) k).resolve_left (fun h => h.elim (fun h => absurd h.1 N_t_20__100) (fun h => h.elim (fun h => absurd h.1 N_t_20__100) (fun h => h.elim (fun h => absurd h.1 N_t_20__100) (fun h => h.elim (fun h => absurd h N_t_20__102) (fun h => absurd h N_t_20__103)))))) (fun k => (g15 (t + 21) k).resolve_left (fun h => h.elim (fun h => absurd h.1 N_t_21__100) (fun h => h.elim (fun h => absurd h.1 N_t_21__100) (fun h => h.elim (fun h => absurd h.1 N_t_21__100) (fun h => h.elim (fun h => absurd h N_t_21__102) (fun h => absurd h N_t_21__103))))))
  refine gv_callV hD rfl (As := [.inr (.inr (some t)), .inr (.inr (some 23))]) (st := []) rfl B_100 S_100 rfl (gc_lV12 hws rfl) (Nat.le_of_ble_eq_true rfl) (gz_Ev_mono (d := 4) (by decide) E15) ?_
  show gv_X _ _ (26, [(2, .inr (.inr (some t))), (0, .inr (.inr (some 0))), (1, .inl a1)], [.inl z15], sh, gc_h sh I16 J A)
  refine gv_run 2 true hD (pc' := 28) (lv' := [(3, .inl z15), (2, .inr (.inr (some t))), (0, .inr (.inr (some 0))), (1, .inl a1)]) (st' := [.inr (.inr (some 0))]) (h' := gc_h sh I16 J A) (C := ((True ∧ True) ∧ True)) rfl ⟨⟨trivial, trivial⟩, trivial⟩ ?_
  refine gv_get hD rfl rfl S_0 ⟨by decide, B_0⟩ (gc_hA S_0 rfl A_0_1) ?_
  show gv_X _ _ (31, [(3, .inl z15), (2, .inr (.inr (some t))), (0, .inr (.inr (some 0))), (1, .inl a1)], [.inr (.inr (some 23))], sh, gc_h sh I16 J A)
  refine gv_run 1 true hD (pc' := 32) (lv' := [(3, .inl z15), (2, .inr (.inr (some t))), (0, .inr (.inr (some 0))), (1, .inl a1)]) (st' := [.inl 0, .inr (.inr (some 23))]) (h' := gc_h sh I16 J A) (C := (True ∧ True)) rfl ⟨trivial, trivial⟩ ?_
  refine gv_put hD rfl rfl S_23 ⟨by decide, B_23⟩ rfl trivial ?_
  refine gc_st (k := 1) hI16 S_23 rfl R_23 (lo := 0) (hi := 1000) rfl rfl (by exact gz_m 38 (by omega)) (by exact gz_m 39 (by omega)) (fun I23 hI23 q24 p24 => ?_)
  have FI23 := gc_frs (W := fun q j => (q = (t + 17) ∧ j = 8) ∨ (q = (t + 17) ∧ j = 9) ∨ q = (t + 18) ∨ q = (t + 19) ∨ q = (t + 20) ∨ q = (t + 21) ∨ (q = (t + 17) ∧ j = 6) ∨ (q = (t + 17) ∧ j = 7) ∨ q = (t + 23) ∨ q = (t + 24) ∨ (q = 100 ∧ j = 4) ∨ (q = 100 ∧ j = 7) ∨ (q = 100 ∧ j = 8) ∨ q = 102 ∨ q = 103 ∨ (q = 23 ∧ j = 1)) FI16 (Or.inr (Or.inr (Or.inr (Or.inr (Or.inr (Or.inr (Or.inr (Or.inr (Or.inr (Or.inr (Or.inr (Or.inr (Or.inr (Or.inr (Or.inr ⟨rfl, rfl⟩))))))))))))))) p24
  have t25 := p24 (t + 17) 8 (fun h => absurd h.2 (by first | exact gz_ne rfl | decide))
  have t26 := p24 t 11 (fun h => absurd h.2 (by first | exact gz_ne rfl | decide))
  have t27 := p24 (t + 17) 6 (fun h => absurd h.2 (by first | exact gz_ne rfl | decide))
  have t28 := p24 (t + 17) 7 (fun h => absurd h.2 (by first | exact gz_ne rfl | decide))
  have f29 := (gc_b_3_1 hI23 R_23)
  have KBD_I23 := gh_BD_fr KBD_I16 (p24 (t + 17) 8 (fun h => absurd h.2 (by first | exact gz_ne rfl | decide))) (p24 (t + 17) 9 (fun h => absurd h.2 (by first | exact gz_ne rfl | decide))) (fun k => p24 (t + 18) k (fun h => absurd h.1 N_t_18__23)) (fun k => p24 (t + 19) k (fun h => absurd h.1 N_t_19__23)) (fun k => p24 (t + 20) k (fun h => absurd h.1 N_t_20__23)) (fun k => p24 (t + 21) k (fun h => absurd h.1 N_t_21__23))
  show gv_X _ _ (35, [(3, .inl z15), (2, .inr (.inr (some t))), (0, .inr (.inr (some 0))), (1, .inl a1)], [], sh, gc_h sh I23 J A)
  refine gv_run 1 true hD (pc' := 36) (lv' := [(3, .inl z15), (2, .inr (.inr (some t))), (0, .inr (.inr (some 0))), (1, .inl a1)]) (st' := [.inl z15]) (h' := gc_h sh I23 J A) (C := (True ∧ True)) rfl ⟨trivial, trivial⟩ ?_
  exact gv_iret hD rfl ⟨I23, J, rfl, hI23, FI23, FJ, ⟨_, rfl, by exact gz_m 40 (by omega), by exact gz_m 41 (by omega), by exact gz_m 42 (by omega), (gc_FB_fr q7.1 (fun k => ((p24 (t + 17 + 4) k (fun h => absurd h.1 (by exact gz_m 43 (by omega)))).trans ((g15 (t + 17 + 4) k).resolve_left (by exact gz_m 44 (by omega))))) (fun k => ((p24 (t + 17 + 3) k (fun h => absurd h.1 (by exact gz_m 45 (by omega)))).trans ((g15 (t + 17 + 3) k).resolve_left (by exact gz_m 46 (by omega)))))), by exact gz_m 47 (by omega), by exact gz_m 48 (by omega), KBD_I23⟩⟩
