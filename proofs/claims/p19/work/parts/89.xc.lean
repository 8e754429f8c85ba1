set_option maxHeartbeats 4000000 in
set_option maxRecDepth 100000 in
theorem d_X12_sounds {ws0 : List Cond} {tb : String → gz_T} (hws : gc_Ws ws0) (htb : gc_tbs tb) (sh : gz_Sh) (ro : Nat → Nat) (I : gr_I) (J : gr_J) (A : gc_A) (hI : gc_Inv ro I) (t : Nat) (a1 : Int) (hb : gc_Base sh ro A) (h_t : gc_isTongue sh ro A t) (G_t : 144 ≤ t) (ha1 : 0 ≤ a1 ∧ a1 ≤ 7) (x0 : 0 ≤ a1 ∧ a1 < I 8 1) (x1 : A 10 (Int.toNat a1) = some t) (x2 : gc_sc (t + 10) I) : ∃ r h', gz_Ev ws0 tb 6 (yX12_sounds, cX12_sounds, 4, (some .int)) [.inr (.inr (some 0)), .inl a1] sh (gc_h sh I J A) r sh h' 0 0 ∧ (∃ (I' : gr_I) (J' : gr_J), h' = gc_h sh I' J' A ∧ gc_Inv ro I' ∧ (∀ q j : Nat, ((q = 27 ∧ j = 1) ∨ q = 28 ∨ (q = 23 ∧ j = 1) ∨ (q = (t + 17) ∧ j = 6) ∨ (q = (t + 17) ∧ j = 7) ∨ q = (t + 23) ∨ q = (t + 24)) ∨ I' q j = I q j) ∧ (∀ q j : Nat, (False) ∨ J' q j = J q j) ∧ (∃ z : Int, r = some (.inl z) ∧ (-3) ≤ z ∧ z ≤ 24 ∧ (I' 23 1 = 0))) := by
  have FI : ∀ q j : Nat, ((q = 27 ∧ j = 1) ∨ q = 28 ∨ (q = 23 ∧ j = 1) ∨ (q = (t + 17) ∧ j = 6) ∨ (q = (t + 17) ∧ j = 7) ∨ q = (t + 23) ∨ q = (t + 24)) ∨ I q j = I q j := fun _ _ => Or.inr rfl
  have FJ : ∀ q j : Nat, (False) ∨ J q j = J q j := fun _ _ => Or.inr rfl
  have A_0_1 : A 0 1 = some 23 := gc_bA hb rfl
  have A_0_2 : A 0 2 = some 27 := gc_bA hb rfl
  have B_0 : 0 < 1000000 := by decide
  have B_23 : 23 < 1000000 := by decide
  have B_27 : 27 < 1000000 := by decide
  have R_23 : ro 23 = 3 := gc_bR hb (by decide) rfl
  have R_27 : ro 27 = 3 := gc_bR hb (by decide) rfl
  have S_0 : sh[0]? = some (false, 12, 17) := gc_bS hb rfl
  have S_23 : sh[23]? = some (false, 9, 10) := gc_bS hb rfl
  have S_27 : sh[27]? = some (false, 9, 10) := gc_bS hb rfl
  obtain ⟨S_t, R_t, B_t, A_t_0, h_t_1, A_t_1, h_t_3, A_t_2, S_t_5, R_t_5, B_t_5, A_t_3, S_t_6, R_t_6, B_t_6, A_t_4, h_t_7, A_t_5, S_t_9, R_t_9, B_t_9, A_t_7, S_t_10, R_t_10, B_t_10, A_t_8, h_t_11, A_t_9, S_t_13, R_t_13, B_t_13, A_t_10, S_t_14, R_t_14, B_t_14, A_t_12, S_t_15, R_t_15, B_t_15, A_t_14, S_t_16, R_t_16, B_t_16, A_t_15, h_t_17⟩ := id h_t
  obtain ⟨S_t_1, R_t_1, B_t_1, A_t_1_0, S_t_1_1, R_t_1_1, B_t_1_1, Q0_t_1, Q1_t_1, Q2_t_1⟩ := id h_t_1
  obtain ⟨S_t_3, R_t_3, B_t_3, A_t_3_0, S_t_3_1, R_t_3_1, B_t_3_1, Q0_t_3, Q1_t_3, Q2_t_3⟩ := id h_t_3
  obtain ⟨S_t_7, R_t_7, B_t_7, A_t_7_0, S_t_7_1, R_t_7_1, B_t_7_1, Q0_t_7, Q1_t_7, Q2_t_7⟩ := id h_t_7
  obtain ⟨S_t_11, R_t_11, B_t_11, A_t_11_0, S_t_11_1, R_t_11_1, B_t_11_1, Q0_t_11, Q1_t_11, Q2_t_11⟩ := id h_t_11
  obtain ⟨S_t_17, R_t_17, B_t_17, A_t_17_0, S_20, R_20, B_20, A_t_17_1, S_t_17_1, R_t_17_1, B_t_17_1, A_t_17_2, S_t_17_2, R_t_17_2, B_t_17_2, A_t_17_3, S_t_17_3, R_t_17_3, B_t_17_3, A_t_17_4, S_t_17_4, R_t_17_4, B_t_17_4, A_t_17_5, S_t_17_5, R_t_17_5, B_t_17_5, S_t_17_6, R_t_17_6, B_t_17_6, S_t_17_7, R_t_17_7, B_t_17_7⟩ := id h_t_17
  have hD : gv_D (gc_E12 ws0 tb 5 (yX12_sounds, cX12_sounds, 4, (some .int)) kX12_sounds) := gq_ok oX12_sounds
  refine gc_ev12 (d := 5) (l := kX12_sounds) (Po := fun r h' => (∃ (I' : gr_I) (J' : gr_J), h' = gc_h sh I' J' A ∧ gc_Inv ro I' ∧ (∀ q j : Nat, ((q = 27 ∧ j = 1) ∨ q = 28 ∨ (q = 23 ∧ j = 1) ∨ (q = (t + 17) ∧ j = 6) ∨ (q = (t + 17) ∧ j = 7) ∨ q = (t + 23) ∨ q = (t + 24)) ∨ I' q j = I q j) ∧ (∀ q j : Nat, (False) ∨ J' q j = J q j) ∧ (∃ z : Int, r = some (.inl z) ∧ (-3) ≤ z ∧ z ≤ 24 ∧ (I' 23 1 = 0)))) htb rfl (Nat.le_of_ble_eq_true rfl) ?_
  have N_23__t_23 : ¬ (23 = (t + 23)) := by omega
  have N_23__t_24 : ¬ (23 = (t + 24)) := by omega
  have f1 := (show 0 ≤ I 23 1 ∧ I 23 1 ≤ 1000 from gc_in hI R_23 rfl rfl)
  have L40 : ∀ (I2 : gr_I) (J3 : gr_J) (v3_4 : Int), gc_Inv ro I2 → (∀ q j : Nat, ((q = 27 ∧ j = 1) ∨ q = 28 ∨ (q = 23 ∧ j = 1) ∨ (q = (t + 17) ∧ j = 6) ∨ (q = (t + 17) ∧ j = 7) ∨ q = (t + 23) ∨ q = (t + 24)) ∨ I2 q j = I q j) → (∀ q j : Nat, (False) ∨ J3 q j = J q j) → (((-3) ≤ v3_4 ∧ v3_4 ≤ 24)) → gv_X (gc_E12 ws0 tb 5 (yX12_sounds, cX12_sounds, 4, (some .int)) kX12_sounds) (gv_Q cX12_sounds (some .int) sh (fun r h' => (∃ (I' : gr_I) (J' : gr_J), h' = gc_h sh I' J' A ∧ gc_Inv ro I' ∧ (∀ q j : Nat, ((q = 27 ∧ j = 1) ∨ q = 28 ∨ (q = 23 ∧ j = 1) ∨ (q = (t + 17) ∧ j = 6) ∨ (q = (t + 17) ∧ j = 7) ∨ q = (t + 23) ∨ q = (t + 24)) ∨ I' q j = I q j) ∧ (∀ q j : Nat, (False) ∨ J' q j = J q j) ∧ (∃ z : Int, r = some (.inl z) ∧ (-3) ≤ z ∧ z ≤ 24 ∧ (I' 23 1 = 0))))) (40, [(0, .inr (.inr (some 0))), (2, .inr (.inr (some t))), (3, .inl v3_4)], [], sh, gc_h sh I2 J3 A) := by
    intro I2 J3 v3_4 hI2 FI2 FJ3 m_4
    have hv3_4 := m_4
    have f5 := (show 0 ≤ I2 23 1 ∧ I2 23 1 ≤ 1000 from gc_in hI2 R_23 rfl rfl)
    have L68 : ∀ (I6 : gr_I) (J7 : gr_J) , gc_Inv ro I6 → (∀ q j : Nat, ((q = 27 ∧ j = 1) ∨ q = 28 ∨ (q = 23 ∧ j = 1) ∨ (q = (t + 17) ∧ j = 6) ∨ (q = (t + 17) ∧ j = 7) ∨ q = (t + 23) ∨ q = (t + 24)) ∨ I6 q j = I q j) → (∀ q j : Nat, (False) ∨ J7 q j = J q j) → (((-3) ≤ v3_4 ∧ v3_4 ≤ 24) ∧ (I6 23 1 = 0)) → gv_X (gc_E12 ws0 tb 5 (yX12_sounds, cX12_sounds, 4, (some .int)) kX12_sounds) (gv_Q cX12_sounds (some .int) sh (fun r h' => (∃ (I' : gr_I) (J' : gr_J), h' = gc_h sh I' J' A ∧ gc_Inv ro I' ∧ (∀ q j : Nat, ((q = 27 ∧ j = 1) ∨ q = 28 ∨ (q = 23 ∧ j = 1) ∨ (q = (t + 17) ∧ j = 6) ∨ (q = (t + 17) ∧ j = 7) ∨ q = (t + 23) ∨ q = (t + 24)) ∨ I' q j = I q j) ∧ (∀ q j : Nat, (False) ∨ J' q j = J q j) ∧ (∃ z : Int, r = some (.inl z) ∧ (-3) ≤ z ∧ z ≤ 24 ∧ (I' 23 1 = 0))))) (68, [(3, .inl v3_4)], [], sh, gc_h sh I6 J7 A) := by
      intro I6 J7 hI6 FI6 FJ7 m_8
      clear hv3_4 f5
      obtain ⟨hv3_4_8, e0_8⟩ := m_8
      have f9 := (show 0 ≤ I6 23 1 ∧ I6 23 1 ≤ 1000 from gc_in hI6 R_23 rfl rfl)
      refine gv_run 1 true hD (pc' := 69) (lv' := [(3, .inl v3_4)]) (st' := [.inl v3_4]) (h' := gc_h sh I6 J7 A) (C := (True ∧ True)) rfl ⟨trivial, trivial⟩ ?_
      exact gv_iret hD rfl ⟨I6, J7, rfl, hI6, FI6, FJ7, ⟨_, rfl, by omega⟩⟩
    refine gv_run 1 true hD (pc' := 41) (lv' := [(0, .inr (.inr (some 0))), (2, .inr (.inr (some t))), (3, .inl v3_4)]) (st' := [.inr (.inr (some 0))]) (h' := gc_h sh I2 J3 A) (C := (True ∧ True)) rfl ⟨trivial, trivial⟩ ?_
    refine gv_get hD rfl rfl S_0 ⟨by decide, B_0⟩ (gc_hA S_0 rfl A_0_1) ?_
    show gv_X _ _ (44, [(0, .inr (.inr (some 0))), (2, .inr (.inr (some t))), (3, .inl v3_4)], [.inr (.inr (some 23))], sh, gc_h sh I2 J3 A)
    refine gv_run 1 true hD (pc' := 45) (lv' := [(0, .inr (.inr (some 0))), (2, .inr (.inr (some t))), (3, .inl v3_4)]) (st' := [.inl 0, .inr (.inr (some 23))]) (h' := gc_h sh I2 J3 A) (C := (True ∧ True)) rfl ⟨trivial, trivial⟩ ?_
    refine gv_put hD rfl rfl S_23 ⟨by decide, B_23⟩ rfl trivial ?_
    refine gc_st (k := 1) hI2 S_23 rfl R_23 (lo := 0) (hi := 1000) rfl rfl (by omega) (by omega) (fun I10 hI10 q11 p11 => ?_)
    have FI10 := gc_frs (W := fun q j => (q = 27 ∧ j = 1) ∨ q = 28 ∨ (q = 23 ∧ j = 1) ∨ (q = (t + 17) ∧ j = 6) ∨ (q = (t + 17) ∧ j = 7) ∨ q = (t + 23) ∨ q = (t + 24)) FI2 (Or.inr (Or.inr (Or.inl ⟨rfl, rfl⟩))) p11
    have f12 := (show 0 ≤ I10 23 1 ∧ I10 23 1 ≤ 1000 from gc_in hI10 R_23 rfl rfl)
    show gv_X _ _ (48, [(0, .inr (.inr (some 0))), (2, .inr (.inr (some t))), (3, .inl v3_4)], [], sh, gc_h sh I10 J3 A)
    refine gv_run 1 true hD (pc' := 49) (lv' := [(0, .inr (.inr (some 0))), (2, .inr (.inr (some t))), (3, .inl v3_4)]) (st' := [.inl v3_4]) (h' := gc_h sh I10 J3 A) (C := (True ∧ True)) rfl ⟨trivial, trivial⟩ ?_
    refine gv_if_le (t := 68) hD rfl rfl ⟨by omega, by omega⟩ (fun c13 => ?_) (fun c13 => ?_)
    · show gv_X _ _ (68, [(0, .inr (.inr (some 0))), (2, .inr (.inr (some t))), (3, .inl v3_4)], [], sh, gc_h sh I10 J3 A)
      refine gv_pick [2] rfl ?_
      exact L68 I10 J3 hI10 FI10 FJ3 (by omega)
    · show gv_X _ _ (52, [(0, .inr (.inr (some 0))), (2, .inr (.inr (some t))), (3, .inl v3_4)], [], sh, gc_h sh I10 J3 A)
      refine gv_run 1 true hD (pc' := 53) (lv' := [(0, .inr (.inr (some 0))), (2, .inr (.inr (some t))), (3, .inl v3_4)]) (st' := [.inr (.inr (some 0))]) (h' := gc_h sh I10 J3 A) (C := (True ∧ True)) rfl ⟨trivial, trivial⟩ ?_
      refine gv_get hD rfl rfl S_0 ⟨by decide, B_0⟩ (gc_hA S_0 rfl A_0_2) ?_
      show gv_X _ _ (56, [(0, .inr (.inr (some 0))), (2, .inr (.inr (some t))), (3, .inl v3_4)], [.inr (.inr (some 27))], sh, gc_h sh I10 J3 A)
      refine gv_run 1 true hD (pc' := 57) (lv' := [(0, .inr (.inr (some 0))), (2, .inr (.inr (some t))), (3, .inl v3_4)]) (st' := [.inr (.inr (some t)), .inr (.inr (some 27))]) (h' := gc_h sh I10 J3 A) (C := (True ∧ True)) rfl ⟨trivial, trivial⟩ ?_
      refine gv_get hD rfl rfl S_t ⟨by decide, B_t⟩ (gc_hA S_t rfl A_t_15) ?_
      show gv_X _ _ (60, [(0, .inr (.inr (some 0))), (2, .inr (.inr (some t))), (3, .inl v3_4)], [.inr (.inr (some (t + 17))), .inr (.inr (some 27))], sh, gc_h sh I10 J3 A)
      have f15 := (show 0 ≤ I10 (t + 17) 6 ∧ I10 (t + 17) 6 ≤ 1 from gc_in hI10 R_t_17 rfl rfl)
      obtain ⟨f14_, hq_f14_, S_f14, R_f14, B_f14, D_f14⟩ := gc_sw (p := (t + 17)) (d := 6) (s := 1) (z := I10 (t + 17) 6) (show 0 ≤ I10 (t + 17) 6 ∧ I10 (t + 17) 6 ≤ 1 from gc_in hI10 R_t_17 rfl rfl) S_t_17_6 R_t_17_6 B_t_17_6 S_t_17_7 R_t_17_7 B_t_17_7
      refine gv_get hD rfl rfl S_t_17 ⟨by decide, B_t_17⟩ (gc_hS (n := 6) S_t_17 rfl hq_f14_) ?_
      show gv_X _ _ (63, [(0, .inr (.inr (some 0))), (2, .inr (.inr (some t))), (3, .inl v3_4)], [.inr (.inr (some f14_)), .inr (.inr (some 27))], sh, gc_h sh I10 J3 A)
      refine gv_run 2 true hD (pc' := 65) (lv' := [(0, .inr (.inr (some 0))), (2, .inr (.inr (some t))), (3, .inl v3_4)]) (st' := [.inl v3_4, .inl 0, .inr (.inr (some f14_)), .inr (.inr (some 27))]) (h' := gc_h sh I10 J3 A) (C := ((True ∧ True) ∧ True)) rfl ⟨⟨trivial, trivial⟩, trivial⟩ ?_
      obtain ⟨r16, h16, E16, P16⟩ := d_X9_putBytes (ws0 := ws0) (tb := tb) hws htb sh ro I10 J3 A hI10 27 24 f14_ 0 v3_4 (gc_b27 hb) S_f14 R_f14 B_f14 (by decide)  ⟨by omega, by omega⟩ ⟨by omega, by omega⟩  
      obtain ⟨I17, J18, rfl, hI17, g16, k16, rfl⟩ := P16
      have FI17 := gc_frc (W := fun q j => (q = 27 ∧ j = 1) ∨ q = 28 ∨ (q = 23 ∧ j = 1) ∨ (q = (t + 17) ∧ j = 6) ∨ (q = (t + 17) ∧ j = 7) ∨ q = (t + 23) ∨ q = (t + 24)) (V := fun q j => (q = 27 ∧ j = 1) ∨ q = 28) FI10 (fun q j h => (h.elim (fun h => (Or.inl h)) (fun h => (Or.inr (Or.inl h))))) g16
      have t19 := (g16 23 1).resolve_left (fun h => h.elim (fun h => absurd h.1 (by decide)) (fun h => absurd h (by decide)))
      obtain rfl : J3 = J18 := funext fun q => funext fun j => ((k16 q j).resolve_left id).symm
      refine gv_callV hD rfl (As := [.inr (.inr (some f14_)), .inl 0, .inl v3_4]) (st := []) rfl B_27 S_27 rfl (gc_lV12 hws rfl) (Nat.le_of_ble_eq_true rfl) (gz_Ev_mono (d := 2) (by decide) E16) ?_
      show gv_X _ _ (68, [(0, .inr (.inr (some 0))), (2, .inr (.inr (some t))), (3, .inl v3_4)], [], sh, gc_h sh I17 J3 A)
      refine gv_pick [2] rfl ?_
      exact L68 I17 J3 hI17 FI17 FJ3 (by omega)
  refine gv_run 2 true hD (pc' := 2) (lv' := [(0, .inr (.inr (some 0))), (1, .inl a1)]) (st' := [.inl a1, .inr (.inr (some 0))]) (h' := gc_h sh I J A) (C := ((True ∧ True) ∧ True)) rfl ⟨⟨trivial, trivial⟩, trivial⟩ ?_
  refine gv_callV hD rfl (As := [.inl a1]) (st := []) rfl B_0 S_0 rfl (gc_lV12 hws rfl) (Nat.le_of_ble_eq_true rfl) (gz_Ev_mono (d := 1) (by decide) (d_X12_tongueAt hws htb (J := J) hI hb (by omega) (by omega) x1)) ?_
  show gv_X _ _ (5, [(0, .inr (.inr (some 0))), (1, .inl a1)], [.inr (.inr (some t))], sh, gc_h sh I J A)
  refine gv_run 2 true hD (pc' := 7) (lv' := [(2, .inr (.inr (some t))), (0, .inr (.inr (some 0))), (1, .inl a1)]) (st' := [.inr (.inr (some 0))]) (h' := gc_h sh I J A) (C := ((True ∧ True) ∧ True)) rfl ⟨⟨trivial, trivial⟩, trivial⟩ ?_
  refine gv_get hD rfl rfl S_0 ⟨by decide, B_0⟩ (gc_hA S_0 rfl A_0_2) ?_
  show gv_X _ _ (10, [(2, .inr (.inr (some t))), (0, .inr (.inr (some 0))), (1, .inl a1)], [.inr (.inr (some 27))], sh, gc_h sh I J A)
  refine gv_run 1 true hD (pc' := 11) (lv' := [(2, .inr (.inr (some t))), (0, .inr (.inr (some 0))), (1, .inl a1)]) (st' := [.inl 0, .inr (.inr (some 27))]) (h' := gc_h sh I J A) (C := (True ∧ True)) rfl ⟨trivial, trivial⟩ ?_
  refine gv_put hD rfl rfl S_27 ⟨by decide, B_27⟩ rfl trivial ?_
  refine gc_st (k := 1) hI S_27 rfl R_27 (lo := 0) (hi := 1000) rfl rfl (by omega) (by omega) (fun I21 hI21 q22 p22 => ?_)
  have FI21 := gc_frs (W := fun q j => (q = 27 ∧ j = 1) ∨ q = 28 ∨ (q = 23 ∧ j = 1) ∨ (q = (t + 17) ∧ j = 6) ∨ (q = (t + 17) ∧ j = 7) ∨ q = (t + 23) ∨ q = (t + 24)) FI (Or.inl ⟨rfl, rfl⟩) p22
  have t23 := p22 23 1 (fun h => absurd h.1 (by decide))
  show gv_X _ _ (14, [(2, .inr (.inr (some t))), (0, .inr (.inr (some 0))), (1, .inl a1)], [], sh, gc_h sh I21 J A)
  refine gv_run 3 true hD (pc' := 18) (lv' := [(3, .inl (-3)), (2, .inr (.inr (some t))), (0, .inr (.inr (some 0))), (1, .inl a1)]) (st' := [.inr (.inr (some 0))]) (h' := gc_h sh I21 J A) (C := (((True ∧ True) ∧ True) ∧ True)) rfl ⟨⟨⟨trivial, trivial⟩, trivial⟩, trivial⟩ ?_
  refine gv_get hD rfl rfl S_0 ⟨by decide, B_0⟩ (gc_hA S_0 rfl A_0_1) ?_
  show gv_X _ _ (21, [(3, .inl (-3)), (2, .inr (.inr (some t))), (0, .inr (.inr (some 0))), (1, .inl a1)], [.inr (.inr (some 23))], sh, gc_h sh I21 J A)
  obtain ⟨r24, h24, E24, P24⟩ := d_X9_isWord (ws0 := ws0) (tb := tb) hws htb sh ro I21 J A hI21 23  (gc_b23 hb)     
  obtain ⟨rfl, ⟨z24, rfl, q24⟩⟩ := P24
  refine gv_callV hD rfl (As := []) (st := []) rfl B_23 S_23 rfl (gc_lV12 hws rfl) (Nat.le_of_ble_eq_true rfl) (gz_Ev_mono (d := 2) (by decide) E24) ?_
  show gv_X _ _ (24, [(3, .inl (-3)), (2, .inr (.inr (some t))), (0, .inr (.inr (some 0))), (1, .inl a1)], [.inl z24], sh, gc_h sh I21 J A)
  refine gv_if_eq (t := 40) hD rfl rfl ⟨by omega, by omega⟩ (fun c25 => ?_) (fun c25 => ?_)
  · show gv_X _ _ (40, [(3, .inl (-3)), (2, .inr (.inr (some t))), (0, .inr (.inr (some 0))), (1, .inl a1)], [], sh, gc_h sh I21 J A)
    refine gv_pick [2, 1, 0] rfl ?_
    exact L40 I21 J (-3) hI21 FI21 FJ (by omega)
  · show gv_X _ _ (27, [(3, .inl (-3)), (2, .inr (.inr (some t))), (0, .inr (.inr (some 0))), (1, .inl a1)], [], sh, gc_h sh I21 J A)
    refine gv_run 1 true hD (pc' := 28) (lv' := [(3, .inl (-3)), (2, .inr (.inr (some t))), (0, .inr (.inr (some 0))), (1, .inl a1)]) (st' := [.inr (.inr (some t))]) (h' := gc_h sh I21 J A) (C := (True ∧ True)) rfl ⟨trivial, trivial⟩ ?_
    refine gv_get hD rfl rfl S_t ⟨by decide, B_t⟩ (gc_hA S_t rfl A_t_15) ?_
    show gv_X _ _ (31, [(3, .inl (-3)), (2, .inr (.inr (some t))), (0, .inr (.inr (some 0))), (1, .inl a1)], [.inr (.inr (some (t + 17)))], sh, gc_h sh I21 J A)
    refine gv_run 2 true hD (pc' := 33) (lv' := [(3, .inl (-3)), (2, .inr (.inr (some t))), (0, .inr (.inr (some 0))), (1, .inl a1)]) (st' := [.inr (.inr (some 0)), .inr (.inr (some t)), .inr (.inr (some (t + 17)))]) (h' := gc_h sh I21 J A) (C := ((True ∧ True) ∧ True)) rfl ⟨⟨trivial, trivial⟩, trivial⟩ ?_
    refine gv_get hD rfl rfl S_0 ⟨by decide, B_0⟩ (gc_hA S_0 rfl A_0_1) ?_
    show gv_X _ _ (36, [(3, .inl (-3)), (2, .inr (.inr (some t))), (0, .inr (.inr (some 0))), (1, .inl a1)], [.inr (.inr (some 23)), .inr (.inr (some t)), .inr (.inr (some (t + 17)))], sh, gc_h sh I21 J A)
    obtain ⟨r26, h26, E26, P26⟩ := d_X2_soundWord (ws0 := ws0) (tb := tb) hws htb sh ro I21 J A hI21 (t + 17) t 23 h_t_17 h_t G_t (gc_b23 hb)   (gc_sc_fr x2 (fun k => (FI21 (t + 10) k).resolve_left (by omega))) rfl (by omega) 
    obtain ⟨I27, J28, rfl, hI27, g26, k26, ⟨z26, rfl, q26⟩⟩ := P26
    have FI27 := gc_frc (W := fun q j => (q = 27 ∧ j = 1) ∨ q = 28 ∨ (q = 23 ∧ j = 1) ∨ (q = (t + 17) ∧ j = 6) ∨ (q = (t + 17) ∧ j = 7) ∨ q = (t + 23) ∨ q = (t + 24)) (V := fun q j => (q = (t + 17) ∧ j = 6) ∨ (q = (t + 17) ∧ j = 7) ∨ q = (t + 23) ∨ q = (t + 24)) FI21 (fun q j h => (h.elim (fun h => (Or.inr (Or.inr (Or.inr (Or.inl h))))) (fun h => (h.elim (fun h => (Or.inr (Or.inr (Or.inr (Or.inr (Or.inl h)))))) (fun h => (h.elim (fun h => (Or.inr (Or.inr (Or.inr (Or.inr (Or.inr (Or.inl h))))))) (fun h => (Or.inr (Or.inr (Or.inr (Or.inr (Or.inr (Or.inr h))))))))))))) g26
    have t29 := (g26 23 1).resolve_left (fun h => h.elim (fun h => absurd h.2 (by decide)) (fun h => h.elim (fun h => absurd h.2 (by decide)) (fun h => h.elim (fun h => absurd h N_23__t_23) (fun h => absurd h N_23__t_24))))
    obtain rfl : J = J28 := funext fun q => funext fun j => ((k26 q j).resolve_left id).symm
    refine gv_callV hD rfl (As := [.inr (.inr (some t)), .inr (.inr (some 23))]) (st := []) rfl B_t_17 S_t_17 rfl (gc_lV12 hws rfl) (Nat.le_of_ble_eq_true rfl) (gz_Ev_mono (d := 5) (by decide) E26) ?_
    show gv_X _ _ (39, [(3, .inl (-3)), (2, .inr (.inr (some t))), (0, .inr (.inr (some 0))), (1, .inl a1)], [.inl z26], sh, gc_h sh I27 J A)
    refine gv_run 1 true hD (pc' := 40) (lv' := [(3, .inl z26), (2, .inr (.inr (some t))), (0, .inr (.inr (some 0))), (1, .inl a1)]) (st' := []) (h' := gc_h sh I27 J A) (C := (True ∧ True)) rfl ⟨trivial, trivial⟩ ?_
    refine gv_pick [2, 1, 0] rfl ?_
    exact L40 I27 J z26 hI27 FI27 FJ (by omega)
set_option maxHeartbeats 4000000 in
set_option maxRecDepth 100000 in
theorem d_X12_analyse {ws0 : List Cond} {tb : String → gz_T} (hws : gc_Ws ws0) (htb : gc_tbs tb) (sh : gz_Sh) (ro : Nat → Nat) (I : gr_I) (J : gr_J) (A : gc_A) (hI : gc_Inv ro I) (t : Nat) (a1 : Int) (hb : gc_Base sh ro A) (h_t : gc_isTongue sh ro A t) (G_t : 144 ≤ t) (ha1 : 0 ≤ a1 ∧ a1 ≤ 7) (x0 : 0 ≤ a1 ∧ a1 < I 8 1) (x1 : A 10 (Int.toNat a1) = some t) (x2 : gc_sc (t + 10) I) (x3 : gc_FB (t + 17) (24 * I (t + 17) 8) I) (x4 : I (t + 17) 8 ≤ I t 11) : ∃ r h', gz_Ev ws0 tb 6 (yX12_analyse, cX12_analyse, 4, (some .int)) [.inr (.inr (some 0)), .inl a1] sh (gc_h sh I J A) r sh h' 0 0 ∧ (∃ (I' : gr_I) (J' : gr_J), h' = gc_h sh I' J' A ∧ gc_Inv ro I' ∧ (∀ q j : Nat, ((q = (t + 17) ∧ j = 8) ∨ (q = (t + 17) ∧ j = 9) ∨ q = (t + 18) ∨ q = (t + 19) ∨ q = (t + 20) ∨ q = (t + 21) ∨ (q = (t + 17) ∧ j = 6) ∨ (q = (t + 17) ∧ j = 7) ∨ q = (t + 23) ∨ q = (t + 24) ∨ (q = 100 ∧ j = 2) ∨ (q = 100 ∧ j = 1) ∨ q = 101 ∨ q = (t + 22) ∨ (q = 23 ∧ j = 1)) ∨ I' q j = I q j) ∧ (∀ q j : Nat, (False) ∨ J' q j = J q j) ∧ (∃ z : Int, r = some (.inl z) ∧ (-3) ≤ z ∧ z ≤ 1536 ∧ (I' 23 1 = 0) ∧ (gc_FB (t + 17) (24 * I t 11) I') ∧ (I' (t + 17) 8 = I t 11) ∧ (I' 100 2 = 0 ∨ I' 100 1 = a1))) := by
  have FI : ∀ q j : Nat, ((q = (t + 17) ∧ j = 8) ∨ (q = (t + 17) ∧ j = 9) ∨ q = (t + 18) ∨ q = (t + 19) ∨ q = (t + 20) ∨ q = (t + 21) ∨ (q = (t + 17) ∧ j = 6) ∨ (q = (t + 17) ∧ j = 7) ∨ q = (t + 23) ∨ q = (t + 24) ∨ (q = 100 ∧ j = 2) ∨ (q = 100 ∧ j = 1) ∨ q = 101 ∨ q = (t + 22) ∨ (q = 23 ∧ j = 1)) ∨ I q j = I q j := fun _ _ => Or.inr rfl
  have FJ : ∀ q j : Nat, (False) ∨ J q j = J q j := fun _ _ => Or.inr rfl
  have A_0_1 : A 0 1 = some 23 := gc_bA hb rfl
  have A_0_10 : A 0 10 = some 100 := gc_bA hb rfl
  have B_0 : 0 < 1000000 := by decide
  have B_100 : 100 < 1000000 := by decide
  have B_23 : 23 < 1000000 := by decide
  have R_100 : ro 100 = 75 := gc_bR hb (by decide) rfl
  have R_23 : ro 23 = 3 := gc_bR hb (by decide) rfl
  have S_0 : sh[0]? = some (false, 12, 17) := gc_bS hb rfl
  have S_100 : sh[100]? = some (false, 1, 19) := gc_bS hb rfl
  have S_23 : sh[23]? = some (false, 9, 10) := gc_bS hb rfl
  obtain ⟨S_t, R_t, B_t, A_t_0, h_t_1, A_t_1, h_t_3, A_t_2, S_t_5, R_t_5, B_t_5, A_t_3, S_t_6, R_t_6, B_t_6, A_t_4, h_t_7, A_t_5, S_t_9, R_t_9, B_t_9, A_t_7, S_t_10, R_t_10, B_t_10, A_t_8, h_t_11, A_t_9, S_t_13, R_t_13, B_t_13, A_t_10, S_t_14, R_t_14, B_t_14, A_t_12, S_t_15, R_t_15, B_t_15, A_t_14, S_t_16, R_t_16, B_t_16, A_t_15, h_t_17⟩ := id h_t
  obtain ⟨S_t_1, R_t_1, B_t_1, A_t_1_0, S_t_1_1, R_t_1_1, B_t_1_1, Q0_t_1, Q1_t_1, Q2_t_1⟩ := id h_t_1
  obtain ⟨S_t_3, R_t_3, B_t_3, A_t_3_0, S_t_3_1, R_t_3_1, B_t_3_1, Q0_t_3, Q1_t_3, Q2_t_3⟩ := id h_t_3
  obtain ⟨S_t_7, R_t_7, B_t_7, A_t_7_0, S_t_7_1, R_t_7_1, B_t_7_1, Q0_t_7, Q1_t_7, Q2_t_7⟩ := id h_t_7
  obtain ⟨S_t_11, R_t_11, B_t_11, A_t_11_0, S_t_11_1, R_t_11_1, B_t_11_1, Q0_t_11, Q1_t_11, Q2_t_11⟩ := id h_t_11
  obtain ⟨S_t_17, R_t_17, B_t_17, A_t_17_0, S_20, R_20, B_20, A_t_17_1, S_t_17_1, R_t_17_1, B_t_17_1, A_t_17_2, S_t_17_2, R_t_17_2, B_t_17_2, A_t_17_3, S_t_17_3, R_t_17_3, B_t_17_3, A_t_17_4, S_t_17_4, R_t_17_4, B_t_17_4, A_t_17_5, S_t_17_5, R_t_17_5, B_t_17_5, S_t_17_6, R_t_17_6, B_t_17_6, S_t_17_7, R_t_17_7, B_t_17_7⟩ := id h_t_17
  have hD : gv_D (gc_E12 ws0 tb 5 (yX12_analyse, cX12_analyse, 4, (some .int)) kX12_analyse) := gq_ok oX12_analyse
  refine gc_ev12 (d := 5) (l := kX12_analyse) (Po := fun r h' => (∃ (I' : gr_I) (J' : gr_J), h' = gc_h sh I' J' A ∧ gc_Inv ro I' ∧ (∀ q j : Nat, ((q = (t + 17) ∧ j = 8) ∨ (q = (t + 17) ∧ j = 9) ∨ q = (t + 18) ∨ q = (t + 19) ∨ q = (t + 20) ∨ q = (t + 21) ∨ (q = (t + 17) ∧ j = 6) ∨ (q = (t + 17) ∧ j = 7) ∨ q = (t + 23) ∨ q = (t + 24) ∨ (q = 100 ∧ j = 2) ∨ (q = 100 ∧ j = 1) ∨ q = 101 ∨ q = (t + 22) ∨ (q = 23 ∧ j = 1)) ∨ I' q j = I q j) ∧ (∀ q j : Nat, (False) ∨ J' q j = J q j) ∧ (∃ z : Int, r = some (.inl z) ∧ (-3) ≤ z ∧ z ≤ 1536 ∧ (I' 23 1 = 0) ∧ (gc_FB (t + 17) (24 * I t 11) I') ∧ (I' (t + 17) 8 = I t 11) ∧ (I' 100 2 = 0 ∨ I' 100 1 = a1)))) htb rfl (Nat.le_of_ble_eq_true rfl) ?_
  have N_23__t_18 : ¬ (23 = (t + 18)) := by omega
  have N_23__t_19 : ¬ (23 = (t + 19)) := by omega
  have N_23__t_20 : ¬ (23 = (t + 20)) := by omega
  have N_23__t_21 : ¬ (23 = (t + 21)) := by omega
  have N_23__t_23 : ¬ (23 = (t + 23)) := by omega
  have N_23__t_24 : ¬ (23 = (t + 24)) := by omega
  have N_100__t_18 : ¬ (100 = (t + 18)) := by omega
  have N_100__t_19 : ¬ (100 = (t + 19)) := by omega
  have N_100__t_20 : ¬ (100 = (t + 20)) := by omega
  have N_100__t_21 : ¬ (100 = (t + 21)) := by omega
  have N_100__t_23 : ¬ (100 = (t + 23)) := by omega
  have N_100__t_24 : ¬ (100 = (t + 24)) := by omega
  have N_t__t_18 : ¬ (t = (t + 18)) := by omega
  have N_t__t_19 : ¬ (t = (t + 19)) := by omega
  have N_t__t_20 : ¬ (t = (t + 20)) := by omega
  have N_t__t_21 : ¬ (t = (t + 21)) := by omega
  have N_t__t_23 : ¬ (t = (t + 23)) := by omega
  have N_t__t_24 : ¬ (t = (t + 24)) := by omega
  have N_23__t_22 : ¬ (23 = (t + 22)) := by omega
  have N_t_17__101 : ¬ ((t + 17) = 101) := by omega
  have N_t_17__t_22 : ¬ ((t + 17) = (t + 22)) := by omega
  have N_t__101 : ¬ (t = 101) := by omega
  have N_t__t_22 : ¬ (t = (t + 22)) := by omega
  have f1 := (show 0 ≤ I 23 1 ∧ I 23 1 ≤ 1000 from gc_in hI R_23 rfl rfl)
  have f2 := (show 0 ≤ I 100 1 ∧ I 100 1 ≤ 7 from gc_in hI R_100 rfl rfl)
  have f3 := (show 0 ≤ I 100 2 ∧ I 100 2 ≤ 1536 from gc_in hI R_100 rfl rfl)
  have f4 := (show 0 ≤ I (t + 17) 8 ∧ I (t + 17) 8 ≤ 64 from gc_in hI R_t_17 rfl rfl)
  have f5 := (show 0 ≤ I t 11 ∧ I t 11 ≤ 64 from gc_in hI R_t rfl rfl)
  refine gv_run 2 true hD (pc' := 2) (lv' := [(0, .inr (.inr (some 0))), (1, .inl a1)]) (st' := [.inl a1, .inr (.inr (some 0))]) (h' := gc_h sh I J A) (C := ((True ∧ True) ∧ True)) rfl ⟨⟨trivial, trivial⟩, trivial⟩ ?_
  refine gv_callV hD rfl (As := [.inl a1]) (st := []) rfl B_0 S_0 rfl (gc_lV12 hws rfl) (Nat.le_of_ble_eq_true rfl) (gz_Ev_mono (d := 1) (by decide) (d_X12_tongueAt hws htb (J := J) hI hb (by omega) (by omega) x1)) ?_
  show gv_X _ _ (5, [(0, .inr (.inr (some 0))), (1, .inl a1)], [.inr (.inr (some t))], sh, gc_h sh I J A)
  refine gv_run 2 true hD (pc' := 7) (lv' := [(2, .inr (.inr (some t))), (0, .inr (.inr (some 0))), (1, .inl a1)]) (st' := [.inr (.inr (some t))]) (h' := gc_h sh I J A) (C := ((True ∧ True) ∧ True)) rfl ⟨⟨trivial, trivial⟩, trivial⟩ ?_
  refine gv_get hD rfl rfl S_t ⟨by decide, B_t⟩ (gc_hA S_t rfl A_t_15) ?_
  show gv_X _ _ (10, [(2, .inr (.inr (some t))), (0, .inr (.inr (some 0))), (1, .inl a1)], [.inr (.inr (some (t + 17)))], sh, gc_h sh I J A)
  refine gv_run 1 true hD (pc' := 11) (lv' := [(2, .inr (.inr (some t))), (0, .inr (.inr (some 0))), (1, .inl a1)]) (st' := [.inr (.inr (some t)), .inr (.inr (some (t + 17)))]) (h' := gc_h sh I J A) (C := (True ∧ True)) rfl ⟨trivial, trivial⟩ ?_
  obtain ⟨r7, h7, E7, P7⟩ := d_X2_build_b (ws0 := ws0) (tb := tb) hws htb sh ro I J A hI (t + 17) t h_t_17 h_t G_t   x2 rfl x3 (by omega) 
  obtain ⟨I8, J9, rfl, hI8, g7, k7, ⟨rfl, q7⟩⟩ := P7
  have FI8 := gc_frc (W := fun q j => (q = (t + 17) ∧ j = 8) ∨ (q = (t + 17) ∧ j = 9) ∨ q = (t + 18) ∨ q = (t + 19) ∨ q = (t + 20) ∨ q = (t + 21) ∨ (q = (t + 17) ∧ j = 6) ∨ (q = (t + 17) ∧ j = 7) ∨ q = (t + 23) ∨ q = (t + 24) ∨ (q = 100 ∧ j = 2) ∨ (q = 100 ∧ j = 1) ∨ q = 101 ∨ q = (t + 22) ∨ (q = 23 ∧ j = 1)) (V := fun q j => (q = (t + 17) ∧ j = 6) ∨ (q = (t + 17) ∧ j = 7) ∨ (q = (t + 17) ∧ j = 8) ∨ (q = (t + 17) ∧ j = 9) ∨ q = (t + 18) ∨ q = (t + 19) ∨ q = (t + 20) ∨ q = (t + 21) ∨ q = (t + 23) ∨ q = (t + 24)) FI (fun q j h => (h.elim (fun h => (Or.inr (Or.inr (Or.inr (Or.inr (Or.inr (Or.inr (Or.inl h)))))))) (fun h => (h.elim (fun h => (Or.inr (Or.inr (Or.inr (Or.inr (Or.inr (Or.inr (Or.inr (Or.inl h))))))))) (fun h => (h.elim (fun h => (Or.inl h)) (fun h => (h.elim (fun h => (Or.inr (Or.inl h))) (fun h => (h.elim (fun h => (Or.inr (Or.inr (Or.inl h)))) (fun h => (h.elim (fun h => (Or.inr (Or.inr (Or.inr (Or.inl h))))) (fun h => (h.elim (fun h => (Or.inr (Or.inr (Or.inr (Or.inr (Or.inl h)))))) (fun h => (h.elim (fun h => (Or.inr (Or.inr (Or.inr (Or.inr (Or.inr (Or.inl h))))))) (fun h => (h.elim (fun h => (Or.inr (Or.inr (Or.inr (Or.inr (Or.inr (Or.inr (Or.inr (Or.inr (Or.inl h)))))))))) (fun h => (Or.inr (Or.inr (Or.inr (Or.inr (Or.inr (Or.inr (Or.inr (Or.inr (Or.inr (Or.inl h))))))))))))))))))))))))))))) g7
  have t10 := (g7 23 1).resolve_left (fun h => h.elim (fun h => absurd h.2 (by decide)) (fun h => h.elim (fun h => absurd h.2 (by decide)) (fun h => h.elim (fun h => absurd h.2 (by decide)) (fun h => h.elim (fun h => absurd h.2 (by decide)) (fun h => h.elim (fun h => absurd h N_23__t_18) (fun h => h.elim (fun h => absurd h N_23__t_19) (fun h => h.elim (fun h => absurd h N_23__t_20) (fun h => h.elim (fun h => absurd h N_23__t_21) (fun h => h.elim (fun h => absurd h N_23__t_23) (fun h => absurd h N_23__t_24))))))))))
  have t11 := (g7 100 1).resolve_left (fun h => h.elim (fun h => absurd h.2 (by decide)) (fun h => h.elim (fun h => absurd h.2 (by decide)) (fun h => h.elim (fun h => absurd h.2 (by decide)) (fun h => h.elim (fun h => absurd h.2 (by decide)) (fun h => h.elim (fun h => absurd h N_100__t_18) (fun h => h.elim (fun h => absurd h N_100__t_19) (fun h => h.elim (fun h => absurd h N_100__t_20) (fun h => h.elim (fun h => absurd h N_100__t_21) (fun h => h.elim (fun h => absurd h N_100__t_23) (fun h => absurd h N_100__t_24))))))))))
  have t12 := (g7 100 2).resolve_left (fun h => h.elim (fun h => absurd h.2 (by decide)) (fun h => h.elim (fun h => absurd h.2 (by decide)) (fun h => h.elim (fun h => absurd h.2 (by decide)) (fun h => h.elim (fun h => absurd h.2 (by decide)) (fun h => h.elim (fun h => absurd h N_100__t_18) (fun h => h.elim (fun h => absurd h N_100__t_19) (fun h => h.elim (fun h => absurd h N_100__t_20) (fun h => h.elim (fun h => absurd h N_100__t_21) (fun h => h.elim (fun h => absurd h N_100__t_23) (fun h => absurd h N_100__t_24))))))))))
  have t13 := (g7 t 11).resolve_left (fun h => h.elim (fun h => absurd h.2 (by decide)) (fun h => h.elim (fun h => absurd h.2 (by decide)) (fun h => h.elim (fun h => absurd h.2 (by decide)) (fun h => h.elim (fun h => absurd h.2 (by decide)) (fun h => h.elim (fun h => absurd h N_t__t_18) (fun h => h.elim (fun h => absurd h N_t__t_19) (fun h => h.elim (fun h => absurd h N_t__t_20) (fun h => h.elim (fun h => absurd h N_t__t_21) (fun h => h.elim (fun h => absurd h N_t__t_23) (fun h => absurd h N_t__t_24))))))))))
  have f14 := (show 0 ≤ I8 (t + 17) 8 ∧ I8 (t + 17) 8 ≤ 64 from gc_in hI8 R_t_17 rfl rfl)
  obtain rfl : J = J9 := funext fun q => funext fun j => ((k7 q j).resolve_left id).symm
  refine gv_callV hD rfl (As := [.inr (.inr (some t))]) (st := []) rfl B_t_17 S_t_17 rfl (gc_lV12 hws rfl) (Nat.le_of_ble_eq_true rfl) (gz_Ev_mono (d := 5) (by decide) E7) ?_
  show gv_X _ _ (14, [(2, .inr (.inr (some t))), (0, .inr (.inr (some 0))), (1, .inl a1)], [], sh, gc_h sh I8 J A)
  refine gv_run 1 true hD (pc' := 15) (lv' := [(2, .inr (.inr (some t))), (0, .inr (.inr (some 0))), (1, .inl a1)]) (st' := [.inr (.inr (some 0))]) (h' := gc_h sh I8 J A) (C := (True ∧ True)) rfl ⟨trivial, trivial⟩ ?_
  refine gv_get hD rfl rfl S_0 ⟨by decide, B_0⟩ (gc_hA S_0 rfl A_0_10) ?_
  show gv_X _ _ (18, [(2, .inr (.inr (some t))), (0, .inr (.inr (some 0))), (1, .inl a1)], [.inr (.inr (some 100))], sh, gc_h sh I8 J A)
  refine gv_run 3 true hD (pc' := 21) (lv' := [(2, .inr (.inr (some t))), (0, .inr (.inr (some 0))), (1, .inl a1)]) (st' := [.inr (.inr (some 0)), .inr (.inr (some t)), .inl a1, .inr (.inr (some 100))]) (h' := gc_h sh I8 J A) (C := (((True ∧ True) ∧ True) ∧ True)) rfl ⟨⟨⟨trivial, trivial⟩, trivial⟩, trivial⟩ ?_
  refine gv_get hD rfl rfl S_0 ⟨by decide, B_0⟩ (gc_hA S_0 rfl A_0_1) ?_
  show gv_X _ _ (24, [(2, .inr (.inr (some t))), (0, .inr (.inr (some 0))), (1, .inl a1)], [.inr (.inr (some 23)), .inr (.inr (some t)), .inl a1, .inr (.inr (some 100))], sh, gc_h sh I8 J A)
  obtain ⟨r15, h15, E15, P15⟩ := d_X1_noteAnalyses (ws0 := ws0) (tb := tb) hws htb sh ro I8 J A hI8  a1 t 23 hb h_t G_t (gc_b23 hb) (by omega)  ⟨by omega, by omega⟩  
  obtain ⟨I16, J17, rfl, hI16, g15, k15, ⟨z15, rfl, q15⟩⟩ := P15
  have FI16 := gc_frc (W := fun q j => (q = (t + 17) ∧ j = 8) ∨ (q = (t + 17) ∧ j = 9) ∨ q = (t + 18) ∨ q = (t + 19) ∨ q = (t + 20) ∨ q = (t + 21) ∨ (q = (t + 17) ∧ j = 6) ∨ (q = (t + 17) ∧ j = 7) ∨ q = (t + 23) ∨ q = (t + 24) ∨ (q = 100 ∧ j = 2) ∨ (q = 100 ∧ j = 1) ∨ q = 101 ∨ q = (t + 22) ∨ (q = 23 ∧ j = 1)) (V := fun q j => (q = 100 ∧ j = 2) ∨ (q = 100 ∧ j = 1) ∨ q = 101 ∨ q = (t + 22)) FI8 (fun q j h => (h.elim (fun h => (Or.inr (Or.inr (Or.inr (Or.inr (Or.inr (Or.inr (Or.inr (Or.inr (Or.inr (Or.inr (Or.inl h)))))))))))) (fun h => (h.elim (fun h => (Or.inr (Or.inr (Or.inr (Or.inr (Or.inr (Or.inr (Or.inr (Or.inr (Or.inr (Or.inr (Or.inr (Or.inl h))))))))))))) (fun h => (h.elim (fun h => (Or.inr (Or.inr (Or.inr (Or.inr (Or.inr (Or.inr (Or.inr (Or.inr (Or.inr (Or.inr (Or.inr (Or.inr (Or.inl h)))))))))))))) (fun h => (Or.inr (Or.inr (Or.inr (Or.inr (Or.inr (Or.inr (Or.inr (Or.inr (Or.inr (Or.inr (Or.inr (Or.inr (Or.inr (Or.inl h))))))))))))))))))))) g15
  have t18 := (g15 23 1).resolve_left (fun h => h.elim (fun h => absurd h.2 (by decide)) (fun h => h.elim (fun h => absurd h.1 (by decide)) (fun h => h.elim (fun h => absurd h (by decide)) (fun h => absurd h N_23__t_22))))
  have t19 := (g15 (t + 17) 8).resolve_left (fun h => h.elim (fun h => absurd h.2 (by decide)) (fun h => h.elim (fun h => absurd h.2 (by decide)) (fun h => h.elim (fun h => absurd h N_t_17__101) (fun h => absurd h N_t_17__t_22))))
  have t20 := (g15 t 11).resolve_left (fun h => h.elim (fun h => absurd h.2 (by decide)) (fun h => h.elim (fun h => absurd h.2 (by decide)) (fun h => h.elim (fun h => absurd h N_t__101) (fun h => absurd h N_t__t_22))))
  have f21 := (show 0 ≤ I16 100 1 ∧ I16 100 1 ≤ 7 from gc_in hI16 R_100 rfl rfl)
  have f22 := (show 0 ≤ I16 100 2 ∧ I16 100 2 ≤ 1536 from gc_in hI16 R_100 rfl rfl)
  obtain rfl : J = J17 := funext fun q => funext fun j => ((k15 q j).resolve_left id).symm
  refine gv_callV hD rfl (As := [.inl a1, .inr (.inr (some t)), .inr (.inr (some 23))]) (st := []) rfl B_100 S_100 rfl (gc_lV12 hws rfl) (Nat.le_of_ble_eq_true rfl) (gz_Ev_mono (d := 3) (by decide) E15) ?_
  show gv_X _ _ (27, [(2, .inr (.inr (some t))), (0, .inr (.inr (some 0))), (1, .inl a1)], [.inl z15], sh, gc_h sh I16 J A)
  refine gv_run 2 true hD (pc' := 29) (lv' := [(3, .inl z15), (2, .inr (.inr (some t))), (0, .inr (.inr (some 0))), (1, .inl a1)]) (st' := [.inr (.inr (some 0))]) (h' := gc_h sh I16 J A) (C := ((True ∧ True) ∧ True)) rfl ⟨⟨trivial, trivial⟩, trivial⟩ ?_
  refine gv_get hD rfl rfl S_0 ⟨by decide, B_0⟩ (gc_hA S_0 rfl A_0_1) ?_
  show gv_X _ _ (32, [(3, .inl z15), (2, .inr (.inr (some t))), (0, .inr (.inr (some 0))), (1, .inl a1)], [.inr (.inr (some 23))], sh, gc_h sh I16 J A)
  refine gv_run 1 true hD (pc' := 33) (lv' := [(3, .inl z15), (2, .inr (.inr (some t))), (0, .inr (.inr (some 0))), (1, .inl a1)]) (st' := [.inl 0, .inr (.inr (some 23))]) (h' := gc_h sh I16 J A) (C := (True ∧ True)) rfl ⟨trivial, trivial⟩ ?_
  refine gv_put hD rfl rfl S_23 ⟨by decide, B_23⟩ rfl trivial ?_
  refine gc_st (k := 1) hI16 S_23 rfl R_23 (lo := 0) (hi := 1000) rfl rfl (by omega) (by omega) (fun I23 hI23 q24 p24 => ?_)
  have FI23 := gc_frs (W := fun q j => (q = (t + 17) ∧ j = 8) ∨ (q = (t + 17) ∧ j = 9) ∨ q = (t + 18) ∨ q = (t + 19) ∨ q = (t + 20) ∨ q = (t + 21) ∨ (q = (t + 17) ∧ j = 6) ∨ (q = (t + 17) ∧ j = 7) ∨ q = (t + 23) ∨ q = (t + 24) ∨ (q = 100 ∧ j = 2) ∨ (q = 100 ∧ j = 1) ∨ q = 101 ∨ q = (t + 22) ∨ (q = 23 ∧ j = 1)) FI16 (Or.inr (Or.inr (Or.inr (Or.inr (Or.inr (Or.inr (Or.inr (Or.inr (Or.inr (Or.inr (Or.inr (Or.inr (Or.inr (Or.inr ⟨rfl, rfl⟩)))))))))))))) p24
  have t25 := p24 100 1 (fun h => absurd h.1 (by decide))
  have t26 := p24 100 2 (fun h => absurd h.2 (by decide))
  have t27 := p24 (t + 17) 8 (fun h => absurd h.2 (by decide))
  have t28 := p24 t 11 (fun h => absurd h.2 (by decide))
  have f29 := (show 0 ≤ I23 23 1 ∧ I23 23 1 ≤ 1000 from gc_in hI23 R_23 rfl rfl)
  show gv_X _ _ (36, [(3, .inl z15), (2, .inr (.inr (some t))), (0, .inr (.inr (some 0))), (1, .inl a1)], [], sh, gc_h sh I23 J A)
  refine gv_run 1 true hD (pc' := 37) (lv' := [(3, .inl z15), (2, .inr (.inr (some t))), (0, .inr (.inr (some 0))), (1, .inl a1)]) (st' := [.inl z15]) (h' := gc_h sh I23 J A) (C := (True ∧ True)) rfl ⟨trivial, trivial⟩ ?_
  exact gv_iret hD rfl ⟨I23, J, rfl, hI23, FI23, FJ, ⟨_, rfl, by omega, by omega, by omega, (gc_FB_fr q7.1 (fun k => ((p24 (t + 17 + 4) k (fun h => absurd h.1 (by omega))).trans ((g15 (t + 17 + 4) k).resolve_left (by omega)))) (fun k => ((p24 (t + 17 + 3) k (fun h => absurd h.1 (by omega))).trans ((g15 (t + 17 + 3) k).resolve_left (by omega))))), by omega, by omega⟩⟩
set_option maxHeartbeats 4000000 in
set_option maxRecDepth 100000 in
theorem d_X12_guess {ws0 : List Cond} {tb : String → gz_T} (hws : gc_Ws ws0) (htb : gc_tbs tb) (sh : gz_Sh) (ro : Nat → Nat) (I : gr_I) (J : gr_J) (A : gc_A) (hI : gc_Inv ro I) (t : Nat) (a1 : Int) (hb : gc_Base sh ro A) (h_t : gc_isTongue sh ro A t) (G_t : 144 ≤ t) (ha1 : 0 ≤ a1 ∧ a1 ≤ 7) (x0 : 0 ≤ a1 ∧ a1 < I 8 1) (x1 : A 10 (Int.toNat a1) = some t) (x2 : gc_sc (t + 10) I) (x3 : gc_FB (t + 17) (24 * I (t + 17) 8) I) (x4 : I (t + 17) 8 ≤ I t 11) : ∃ r h', gz_Ev ws0 tb 6 (yX12_guess, cX12_guess, 4, (some .int)) [.inr (.inr (some 0)), .inl a1] sh (gc_h sh I J A) r sh h' 0 0 ∧ (∃ (I' : gr_I) (J' : gr_J), h' = gc_h sh I' J' A ∧ gc_Inv ro I' ∧ (∀ q j : Nat, ((q = (t + 17) ∧ j = 8) ∨ (q = (t + 17) ∧ j = 9) ∨ q = (t + 18) ∨ q = (t + 19) ∨ q = (t + 20) ∨ q = (t + 21) ∨ (q = (t + 17) ∧ j = 6) ∨ (q = (t + 17) ∧ j = 7) ∨ q = (t + 23) ∨ q = (t + 24) ∨ (q = 100 ∧ j = 4) ∨ (q = 100 ∧ j = 7) ∨ (q = 100 ∧ j = 8) ∨ q = 102 ∨ q = 103 ∨ (q = 23 ∧ j = 1)) ∨ I' q j = I q j) ∧ (∀ q j : Nat, (False) ∨ J' q j = J q j) ∧ (∃ z : Int, r = some (.inl z) ∧ (-3) ≤ z ∧ z ≤ 24 ∧ (I' 23 1 = 0) ∧ (gc_FB (t + 17) (24 * I t 11) I') ∧ (I' (t + 17) 8 = I t 11))) := by
  have FI : ∀ q j : Nat, ((q = (t + 17) ∧ j = 8) ∨ (q = (t + 17) ∧ j = 9) ∨ q = (t + 18) ∨ q = (t + 19) ∨ q = (t + 20) ∨ q = (t + 21) ∨ (q = (t + 17) ∧ j = 6) ∨ (q = (t + 17) ∧ j = 7) ∨ q = (t + 23) ∨ q = (t + 24) ∨ (q = 100 ∧ j = 4) ∨ (q = 100 ∧ j = 7) ∨ (q = 100 ∧ j = 8) ∨ q = 102 ∨ q = 103 ∨ (q = 23 ∧ j = 1)) ∨ I q j = I q j := fun _ _ => Or.inr rfl
  have FJ : ∀ q j : Nat, (False) ∨ J q j = J q j := fun _ _ => Or.inr rfl
  have A_0_1 : A 0 1 = some 23 := gc_bA hb rfl
  have A_0_10 : A 0 10 = some 100 := gc_bA hb rfl
  have B_0 : 0 < 1000000 := by decide
  have B_100 : 100 < 1000000 := by decide
  have B_23 : 23 < 1000000 := by decide
  have R_23 : ro 23 = 3 := gc_bR hb (by decide) rfl
  have S_0 : sh[0]? = some (false, 12, 17) := gc_bS hb rfl
  have S_100 : sh[100]? = some (false, 1, 19) := gc_bS hb rfl
  have S_23 : sh[23]? = some (false, 9, 10) := gc_bS hb rfl
  obtain ⟨S_t, R_t, B_t, A_t_0, h_t_1, A_t_1, h_t_3, A_t_2, S_t_5, R_t_5, B_t_5, A_t_3, S_t_6, R_t_6, B_t_6, A_t_4, h_t_7, A_t_5, S_t_9, R_t_9, B_t_9, A_t_7, S_t_10, R_t_10, B_t_10, A_t_8, h_t_11, A_t_9, S_t_13, R_t_13, B_t_13, A_t_10, S_t_14, R_t_14, B_t_14, A_t_12, S_t_15, R_t_15, B_t_15, A_t_14, S_t_16, R_t_16, B_t_16, A_t_15, h_t_17⟩ := id h_t
  obtain ⟨S_t_1, R_t_1, B_t_1, A_t_1_0, S_t_1_1, R_t_1_1, B_t_1_1, Q0_t_1, Q1_t_1, Q2_t_1⟩ := id h_t_1
  obtain ⟨S_t_3, R_t_3, B_t_3, A_t_3_0, S_t_3_1, R_t_3_1, B_t_3_1, Q0_t_3, Q1_t_3, Q2_t_3⟩ := id h_t_3
  obtain ⟨S_t_7, R_t_7, B_t_7, A_t_7_0, S_t_7_1, R_t_7_1, B_t_7_1, Q0_t_7, Q1_t_7, Q2_t_7⟩ := id h_t_7
  obtain ⟨S_t_11, R_t_11, B_t_11, A_t_11_0, S_t_11_1, R_t_11_1, B_t_11_1, Q0_t_11, Q1_t_11, Q2_t_11⟩ := id h_t_11
  obtain ⟨S_t_17, R_t_17, B_t_17, A_t_17_0, S_20, R_20, B_20, A_t_17_1, S_t_17_1, R_t_17_1, B_t_17_1, A_t_17_2, S_t_17_2, R_t_17_2, B_t_17_2, A_t_17_3, S_t_17_3, R_t_17_3, B_t_17_3, A_t_17_4, S_t_17_4, R_t_17_4, B_t_17_4, A_t_17_5, S_t_17_5, R_t_17_5, B_t_17_5, S_t_17_6, R_t_17_6, B_t_17_6, S_t_17_7, R_t_17_7, B_t_17_7⟩ := id h_t_17
  have hD : gv_D (gc_E12 ws0 tb 5 (yX12_guess, cX12_guess, 4, (some .int)) kX12_guess) := gq_ok oX12_guess
  refine gc_ev12 (d := 5) (l := kX12_guess) (Po := fun r h' => (∃ (I' : gr_I) (J' : gr_J), h' = gc_h sh I' J' A ∧ gc_Inv ro I' ∧ (∀ q j : Nat, ((q = (t + 17) ∧ j = 8) ∨ (q = (t + 17) ∧ j = 9) ∨ q = (t + 18) ∨ q = (t + 19) ∨ q = (t + 20) ∨ q = (t + 21) ∨ (q = (t + 17) ∧ j = 6) ∨ (q = (t + 17) ∧ j = 7) ∨ q = (t + 23) ∨ q = (t + 24) ∨ (q = 100 ∧ j = 4) ∨ (q = 100 ∧ j = 7) ∨ (q = 100 ∧ j = 8) ∨ q = 102 ∨ q = 103 ∨ (q = 23 ∧ j = 1)) ∨ I' q j = I q j) ∧ (∀ q j : Nat, (False) ∨ J' q j = J q j) ∧ (∃ z : Int, r = some (.inl z) ∧ (-3) ≤ z ∧ z ≤ 24 ∧ (I' 23 1 = 0) ∧ (gc_FB (t + 17) (24 * I t 11) I') ∧ (I' (t + 17) 8 = I t 11)))) htb rfl (Nat.le_of_ble_eq_true rfl) ?_
  have N_23__t_18 : ¬ (23 = (t + 18)) := by omega
  have N_23__t_19 : ¬ (23 = (t + 19)) := by omega
  have N_23__t_20 : ¬ (23 = (t + 20)) := by omega
  have N_23__t_21 : ¬ (23 = (t + 21)) := by omega
  have N_23__t_23 : ¬ (23 = (t + 23)) := by omega
  have N_23__t_24 : ¬ (23 = (t + 24)) := by omega
  have N_t__t_18 : ¬ (t = (t + 18)) := by omega
  have N_t__t_19 : ¬ (t = (t + 19)) := by omega
  have N_t__t_20 : ¬ (t = (t + 20)) := by omega
  have N_t__t_21 : ¬ (t = (t + 21)) := by omega
  have N_t__t_23 : ¬ (t = (t + 23)) := by omega
  have N_t__t_24 : ¬ (t = (t + 24)) := by omega
  have N_t_17__100 : ¬ ((t + 17) = 100) := by omega
  have N_t_17__102 : ¬ ((t + 17) = 102) := by omega
  have N_t_17__103 : ¬ ((t + 17) = 103) := by omega
  have N_t__102 : ¬ (t = 102) := by omega
  have N_t__103 : ¬ (t = 103) := by omega
  have f1 := (show 0 ≤ I 23 1 ∧ I 23 1 ≤ 1000 from gc_in hI R_23 rfl rfl)
  have f2 := (show 0 ≤ I (t + 17) 8 ∧ I (t + 17) 8 ≤ 64 from gc_in hI R_t_17 rfl rfl)
  have f3 := (show 0 ≤ I t 11 ∧ I t 11 ≤ 64 from gc_in hI R_t rfl rfl)
  refine gv_run 2 true hD (pc' := 2) (lv' := [(0, .inr (.inr (some 0))), (1, .inl a1)]) (st' := [.inl a1, .inr (.inr (some 0))]) (h' := gc_h sh I J A) (C := ((True ∧ True) ∧ True)) rfl ⟨⟨trivial, trivial⟩, trivial⟩ ?_
  refine gv_callV hD rfl (As := [.inl a1]) (st := []) rfl B_0 S_0 rfl (gc_lV12 hws rfl) (Nat.le_of_ble_eq_true rfl) (gz_Ev_mono (d := 1) (by decide) (d_X12_tongueAt hws htb (J := J) hI hb (by omega) (by omega) x1)) ?_
  show gv_X _ _ (5, [(0, .inr (.inr (some 0))), (1, .inl a1)], [.inr (.inr (some t))], sh, gc_h sh I J A)
  refine gv_run 2 true hD (pc' := 7) (lv' := [(2, .inr (.inr (some t))), (0, .inr (.inr (some 0))), (1, .inl a1)]) (st' := [.inr (.inr (some t))]) (h' := gc_h sh I J A) (C := ((True ∧ True) ∧ True)) rfl ⟨⟨trivial, trivial⟩, trivial⟩ ?_
  refine gv_get hD rfl rfl S_t ⟨by decide, B_t⟩ (gc_hA S_t rfl A_t_15) ?_
  show gv_X _ _ (10, [(2, .inr (.inr (some t))), (0, .inr (.inr (some 0))), (1, .inl a1)], [.inr (.inr (some (t + 17)))], sh, gc_h sh I J A)
  refine gv_run 1 true hD (pc' := 11) (lv' := [(2, .inr (.inr (some t))), (0, .inr (.inr (some 0))), (1, .inl a1)]) (st' := [.inr (.inr (some t)), .inr (.inr (some (t + 17)))]) (h' := gc_h sh I J A) (C := (True ∧ True)) rfl ⟨trivial, trivial⟩ ?_
  obtain ⟨r5, h5, E5, P5⟩ := d_X2_build_b (ws0 := ws0) (tb := tb) hws htb sh ro I J A hI (t + 17) t h_t_17 h_t G_t   x2 rfl x3 (by omega) 
  obtain ⟨I6, J7, rfl, hI6, g5, k5, ⟨rfl, q5⟩⟩ := P5
  have FI6 := gc_frc (W := fun q j => (q = (t + 17) ∧ j = 8) ∨ (q = (t + 17) ∧ j = 9) ∨ q = (t + 18) ∨ q = (t + 19) ∨ q = (t + 20) ∨ q = (t + 21) ∨ (q = (t + 17) ∧ j = 6) ∨ (q = (t + 17) ∧ j = 7) ∨ q = (t + 23) ∨ q = (t + 24) ∨ (q = 100 ∧ j = 4) ∨ (q = 100 ∧ j = 7) ∨ (q = 100 ∧ j = 8) ∨ q = 102 ∨ q = 103 ∨ (q = 23 ∧ j = 1)) (V := fun q j => (q = (t + 17) ∧ j = 6) ∨ (q = (t + 17) ∧ j = 7) ∨ (q = (t + 17) ∧ j = 8) ∨ (q = (t + 17) ∧ j = 9) ∨ q = (t + 18) ∨ q = (t + 19) ∨ q = (t + 20) ∨ q = (t + 21) ∨ q = (t + 23) ∨ q = (t + 24)) FI (fun q j h => (h.elim (fun h => (Or.inr (Or.inr (Or.inr (Or.inr (Or.inr (Or.inr (Or.inl h)))))))) (fun h => (h.elim (fun h => (Or.inr (Or.inr (Or.inr (Or.inr (Or.inr (Or.inr (Or.inr (Or.inl h))))))))) (fun h => (h.elim (fun h => (Or.inl h)) (fun h => (h.elim (fun h => (Or.inr (Or.inl h))) (fun h => (h.elim (fun h => (Or.inr (Or.inr (Or.inl h)))) (fun h => (h.elim (fun h => (Or.inr (Or.inr (Or.inr (Or.inl h))))) (fun h => (h.elim (fun h => (Or.inr (Or.inr (Or.inr (Or.inr (Or.inl h)))))) (fun h => (h.elim (fun h => (Or.inr (Or.inr (Or.inr (Or.inr (Or.inr (Or.inl h))))))) (fun h => (h.elim (fun h => (Or.inr (Or.inr (Or.inr (Or.inr (Or.inr (Or.inr (Or.inr (Or.inr (Or.inl h)))))))))) (fun h => (Or.inr (Or.inr (Or.inr (Or.inr (Or.inr (Or.inr (Or.inr (Or.inr (Or.inr (Or.inl h))))))))))))))))))))))))))))) g5
  have t8 := (g5 23 1).resolve_left (fun h => h.elim (fun h => absurd h.2 (by decide)) (fun h => h.elim (fun h => absurd h.2 (by decide)) (fun h => h.elim (fun h => absurd h.2 (by decide)) (fun h => h.elim (fun h => absurd h.2 (by decide)) (fun h => h.elim (fun h => absurd h N_23__t_18) (fun h => h.elim (fun h => absurd h N_23__t_19) (fun h => h.elim (fun h => absurd h N_23__t_20) (fun h => h.elim (fun h => absurd h N_23__t_21) (fun h => h.elim (fun h => absurd h N_23__t_23) (fun h => absurd h N_23__t_24))))))))))
  have t9 := (g5 t 11).resolve_left (fun h => h.elim (fun h => absurd h.2 (by decide)) (fun h => h.elim (fun h => absurd h.2 (by decide)) (fun h => h.elim (fun h => absurd h.2 (by decide)) (fun h => h.elim (fun h => absurd h.2 (by decide)) (fun h => h.elim (fun h => absurd h N_t__t_18) (fun h => h.elim (fun h => absurd h N_t__t_19) (fun h => h.elim (fun h => absurd h N_t__t_20) (fun h => h.elim (fun h => absurd h N_t__t_21) (fun h => h.elim (fun h => absurd h N_t__t_23) (fun h => absurd h N_t__t_24))))))))))
  have f10 := (show 0 ≤ I6 (t + 17) 8 ∧ I6 (t + 17) 8 ≤ 64 from gc_in hI6 R_t_17 rfl rfl)
  obtain rfl : J = J7 := funext fun q => funext fun j => ((k5 q j).resolve_left id).symm
  refine gv_callV hD rfl (As := [.inr (.inr (some t))]) (st := []) rfl B_t_17 S_t_17 rfl (gc_lV12 hws rfl) (Nat.le_of_ble_eq_true rfl) (gz_Ev_mono (d := 5) (by decide) E5) ?_
  show gv_X _ _ (14, [(2, .inr (.inr (some t))), (0, .inr (.inr (some 0))), (1, .inl a1)], [], sh, gc_h sh I6 J A)
  refine gv_run 1 true hD (pc' := 15) (lv' := [(2, .inr (.inr (some t))), (0, .inr (.inr (some 0))), (1, .inl a1)]) (st' := [.inr (.inr (some 0))]) (h' := gc_h sh I6 J A) (C := (True ∧ True)) rfl ⟨trivial, trivial⟩ ?_
  refine gv_get hD rfl rfl S_0 ⟨by decide, B_0⟩ (gc_hA S_0 rfl A_0_10) ?_
  show gv_X _ _ (18, [(2, .inr (.inr (some t))), (0, .inr (.inr (some 0))), (1, .inl a1)], [.inr (.inr (some 100))], sh, gc_h sh I6 J A)
  refine gv_run 2 true hD (pc' := 20) (lv' := [(2, .inr (.inr (some t))), (0, .inr (.inr (some 0))), (1, .inl a1)]) (st' := [.inr (.inr (some 0)), .inr (.inr (some t)), .inr (.inr (some 100))]) (h' := gc_h sh I6 J A) (C := ((True ∧ True) ∧ True)) rfl ⟨⟨trivial, trivial⟩, trivial⟩ ?_
  refine gv_get hD rfl rfl S_0 ⟨by decide, B_0⟩ (gc_hA S_0 rfl A_0_1) ?_
  show gv_X _ _ (23, [(2, .inr (.inr (some t))), (0, .inr (.inr (some 0))), (1, .inl a1)], [.inr (.inr (some 23)), .inr (.inr (some t)), .inr (.inr (some 100))], sh, gc_h sh I6 J A)
  obtain ⟨r11, h11, E11, P11⟩ := d_X1_noteGuesses (ws0 := ws0) (tb := tb) hws htb sh ro I6 J A hI6  t 23 hb h_t G_t (gc_b23 hb) (by omega)    
  obtain ⟨I12, J13, rfl, hI12, g11, k11, ⟨z11, rfl, q11⟩⟩ := P11
  have FI12 := gc_frc (W := fun q j => (q = (t + 17) ∧ j = 8) ∨ (q = (t + 17) ∧ j = 9) ∨ q = (t + 18) ∨ q = (t + 19) ∨ q = (t + 20) ∨ q = (t + 21) ∨ (q = (t + 17) ∧ j = 6) ∨ (q = (t + 17) ∧ j = 7) ∨ q = (t + 23) ∨ q = (t + 24) ∨ (q = 100 ∧ j = 4) ∨ (q = 100 ∧ j = 7) ∨ (q = 100 ∧ j = 8) ∨ q = 102 ∨ q = 103 ∨ (q = 23 ∧ j = 1)) (V := fun q j => (q = 100 ∧ j = 4) ∨ (q = 100 ∧ j = 7) ∨ (q = 100 ∧ j = 8) ∨ q = 102 ∨ q = 103) FI6 (fun q j h => (h.elim (fun h => (Or.inr (Or.inr (Or.inr (Or.inr (Or.inr (Or.inr (Or.inr (Or.inr (Or.inr (Or.inr (Or.inl h)))))))))))) (fun h => (h.elim (fun h => (Or.inr (Or.inr (Or.inr (Or.inr (Or.inr (Or.inr (Or.inr (Or.inr (Or.inr (Or.inr (Or.inr (Or.inl h))))))))))))) (fun h => (h.elim (fun h => (Or.inr (Or.inr (Or.inr (Or.inr (Or.inr (Or.inr (Or.inr (Or.inr (Or.inr (Or.inr (Or.inr (Or.inr (Or.inl h)))))))))))))) (fun h => (h.elim (fun h => (Or.inr (Or.inr (Or.inr (Or.inr (Or.inr (Or.inr (Or.inr (Or.inr (Or.inr (Or.inr (Or.inr (Or.inr (Or.inr (Or.inl h))))))))))))))) (fun h => (Or.inr (Or.inr (Or.inr (Or.inr (Or.inr (Or.inr (Or.inr (Or.inr (Or.inr (Or.inr (Or.inr (Or.inr (Or.inr (Or.inr (Or.inl h)))))))))))))))))))))))) g11
  have t14 := (g11 23 1).resolve_left (fun h => h.elim (fun h => absurd h.2 (by decide)) (fun h => h.elim (fun h => absurd h.2 (by decide)) (fun h => h.elim (fun h => absurd h.2 (by decide)) (fun h => h.elim (fun h => absurd h (by decide)) (fun h => absurd h (by decide))))))
  have t15 := (g11 (t + 17) 8).resolve_left (fun h => h.elim (fun h => absurd h.2 (by decide)) (fun h => h.elim (fun h => absurd h.2 (by decide)) (fun h => h.elim (fun h => absurd h.1 N_t_17__100) (fun h => h.elim (fun h => absurd h N_t_17__102) (fun h => absurd h N_t_17__103)))))
  have t16 := (g11 t 11).resolve_left (fun h => h.elim (fun h => absurd h.2 (by decide)) (fun h => h.elim (fun h => absurd h.2 (by decide)) (fun h => h.elim (fun h => absurd h.2 (by decide)) (fun h => h.elim (fun h => absurd h N_t__102) (fun h => absurd h N_t__103)))))
  obtain rfl : J = J13 := funext fun q => funext fun j => ((k11 q j).resolve_left id).symm
  refine gv_callV hD rfl (As := [.inr (.inr (some t)), .inr (.inr (some 23))]) (st := []) rfl B_100 S_100 rfl (gc_lV12 hws rfl) (Nat.le_of_ble_eq_true rfl) (gz_Ev_mono (d := 4) (by decide) E11) ?_
  show gv_X _ _ (26, [(2, .inr (.inr (some t))), (0, .inr (.inr (some 0))), (1, .inl a1)], [.inl z11], sh, gc_h sh I12 J A)
  refine gv_run 2 true hD (pc' := 28) (lv' := [(3, .inl z11), (2, .inr (.inr (some t))), (0, .inr (.inr (some 0))), (1, .inl a1)]) (st' := [.inr (.inr (some 0))]) (h' := gc_h sh I12 J A) (C := ((True ∧ True) ∧ True)) rfl ⟨⟨trivial, trivial⟩, trivial⟩ ?_
  refine gv_get hD rfl rfl S_0 ⟨by decide, B_0⟩ (gc_hA S_0 rfl A_0_1) ?_
  show gv_X _ _ (31, [(3, .inl z11), (2, .inr (.inr (some t))), (0, .inr (.inr (some 0))), (1, .inl a1)], [.inr (.inr (some 23))], sh, gc_h sh I12 J A)
  refine gv_run 1 true hD (pc' := 32) (lv' := [(3, .inl z11), (2, .inr (.inr (some t))), (0, .inr (.inr (some 0))), (1, .inl a1)]) (st' := [.inl 0, .inr (.inr (some 23))]) (h' := gc_h sh I12 J A) (C := (True ∧ True)) rfl ⟨trivial, trivial⟩ ?_
  refine gv_put hD rfl rfl S_23 ⟨by decide, B_23⟩ rfl trivial ?_
  refine gc_st (k := 1) hI12 S_23 rfl R_23 (lo := 0) (hi := 1000) rfl rfl (by omega) (by omega) (fun I17 hI17 q18 p18 => ?_)
  have FI17 := gc_frs (W := fun q j => (q = (t + 17) ∧ j = 8) ∨ (q = (t + 17) ∧ j = 9) ∨ q = (t + 18) ∨ q = (t + 19) ∨ q = (t + 20) ∨ q = (t + 21) ∨ (q = (t + 17) ∧ j = 6) ∨ (q = (t + 17) ∧ j = 7) ∨ q = (t + 23) ∨ q = (t + 24) ∨ (q = 100 ∧ j = 4) ∨ (q = 100 ∧ j = 7) ∨ (q = 100 ∧ j = 8) ∨ q = 102 ∨ q = 103 ∨ (q = 23 ∧ j = 1)) FI12 (Or.inr (Or.inr (Or.inr (Or.inr (Or.inr (Or.inr (Or.inr (Or.inr (Or.inr (Or.inr (Or.inr (Or.inr (Or.inr (Or.inr (Or.inr ⟨rfl, rfl⟩))))))))))))))) p18
  have t19 := p18 (t + 17) 8 (fun h => absurd h.2 (by decide))
  have t20 := p18 t 11 (fun h => absurd h.2 (by decide))
  have f21 := (show 0 ≤ I17 23 1 ∧ I17 23 1 ≤ 1000 from gc_in hI17 R_23 rfl rfl)
  show gv_X _ _ (35, [(3, .inl z11), (2, .inr (.inr (some t))), (0, .inr (.inr (some 0))), (1, .inl a1)], [], sh, gc_h sh I17 J A)
  refine gv_run 1 true hD (pc' := 36) (lv' := [(3, .inl z11), (2, .inr (.inr (some t))), (0, .inr (.inr (some 0))), (1, .inl a1)]) (st' := [.inl z11]) (h' := gc_h sh I17 J A) (C := (True ∧ True)) rfl ⟨trivial, trivial⟩ ?_
  exact gv_iret hD rfl ⟨I17, J, rfl, hI17, FI17, FJ, ⟨_, rfl, by omega, by omega, by omega, (gc_FB_fr q5.1 (fun k => ((p18 (t + 17 + 4) k (fun h => absurd h.1 (by omega))).trans ((g11 (t + 17 + 4) k).resolve_left (by omega)))) (fun k => ((p18 (t + 17 + 3) k (fun h => absurd h.1 (by omega))).trans ((g11 (t + 17 + 3) k).resolve_left (by omega))))), by omega⟩⟩
