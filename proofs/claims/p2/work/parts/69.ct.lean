set_option maxHeartbeats 4000000 in
set_option maxRecDepth 100000 in
theorem d_X6_readSound {ws0 : List Cond} {tb : String → gz_T} (hws : gc_Ws ws0) (htb : gc_tbs tb) (sh : gz_Sh) (ro : Nat → Nat) (I : gr_I) (J : gr_J) (A : gc_A) (hI : gc_Inv ro I) (t : Nat)  (hb : gc_Base sh ro A) (h_t : gc_isTongue sh ro A t) (G_t : 144 ≤ t)  (x0 : I 23 5 ≤ I 23 6) (x1 : I 23 7 = 5 ∨ I 23 6 ≤ I 23 1) (x2 : I 23 5 ≤ I 23 1) (x3 : I 23 7 = 4 ∨ (I 23 5 < I 23 6 ∧ I 23 5 < I 23 1)) (x4 : I 23 7 = 3 → 2 ≤ I 23 6 - I 23 5 ∧ I 23 6 - I 23 5 ≤ 14) (x5 : I 1 17 + I 23 1 ≤ 1280 + I 23 5) (x6 : I 39 2 = (t : Int)) (KLT_I : gc_LT I) (KSC_I : gc_sc (t + 10) I) : ∃ r h', gz_Ev ws0 tb 6 (yX6_readSound, cX6_readSound, 1, (some .boolean)) [.inr (.inr (some 39))] sh (gc_h sh I J A) r sh h' 0 0 ∧ (∃ (I' : gr_I) (J' : gr_J), h' = gc_h sh I' J' A ∧ gc_Inv ro I' ∧ (∀ q j : Nat, ((q = 39 ∧ j = 3) ∨ (q = 39 ∧ j = 4) ∨ (q = 23 ∧ j = 5) ∨ (q = 23 ∧ j = 6) ∨ (q = 23 ∧ j = 7) ∨ (q = 23 ∧ j = 8) ∨ (q = 1 ∧ j = 17) ∨ (q = 1 ∧ j = 18) ∨ q = 20 ∨ q = 41 ∨ q = (t + 10) ∨ (q = t ∧ j = 6)) ∨ I' q j = I q j) ∧ (∀ q j : Nat, ((q = 23 ∧ j = 9)) ∨ J' q j = J q j) ∧ gc_LT I' ∧ gc_sc (t + 10) I' ∧ (∃ z : Int, r = some (.inl z) ∧ 0 ≤ z ∧ z ≤ 1 ∧ (I' 23 5 ≤ I' 23 6) ∧ (I' 23 7 = 5 ∨ I' 23 6 ≤ I' 23 1) ∧ (I' 23 5 ≤ I' 23 1) ∧ (I' 23 7 = 4 ∨ (I' 23 5 < I' 23 6 ∧ I' 23 5 < I' 23 1)) ∧ (I' 23 7 = 3 → 2 ≤ I' 23 6 - I' 23 5 ∧ I' 23 6 - I' 23 5 ≤ 14) ∧ (I' 23 1 = I 23 1) ∧ (I 23 5 ≤ I' 23 5) ∧ (I' 1 17 + I' 23 1 ≤ 1280 + I' 23 5))) := by
  have FI : ∀ q j : Nat, ((q = 39 ∧ j = 3) ∨ (q = 39 ∧ j = 4) ∨ (q = 23 ∧ j = 5) ∨ (q = 23 ∧ j = 6) ∨ (q = 23 ∧ j = 7) ∨ (q = 23 ∧ j = 8) ∨ (q = 1 ∧ j = 17) ∨ (q = 1 ∧ j = 18) ∨ q = 20 ∨ q = 41 ∨ q = (t + 10) ∨ (q = t ∧ j = 6)) ∨ I q j = I q j := fun _ _ => Or.inr rfl
  have FJ : ∀ q j : Nat, ((q = 23 ∧ j = 9)) ∨ J q j = J q j := fun _ _ => Or.inr rfl
  have A_39_1 : A 39 1 = some 23 := gc_bA hb rfl
  have A_39_10 : A 39 10 = some 41 := gc_bA hb rfl
  have B_23 : 23 < 1000000 := by decide
  have B_39 : 39 < 1000000 := by decide
  have B_41 : 41 < 1000000 := by decide
  have R_1 : ro 1 = 22 := gc_bR hb (by decide) rfl
  have R_23 : ro 23 = 3 := gc_bR hb (by decide) rfl
  have R_39 : ro 39 = 42 := gc_bR hb (by decide) rfl
  have R_41 : ro 41 = 0 := gc_bR hb (by decide) rfl
  have S_23 : sh[23]? = some (false, 9, 10) := gc_bS hb rfl
  have S_39 : sh[39]? = some (false, 6, 19) := gc_bS hb rfl
  have S_41 : sh[41]? = some (true, 1, 25) := gc_bS hb rfl
  obtain ⟨S_t, R_t, B_t, A_t_0, h_t_1, A_t_1, h_t_3, A_t_2, S_t_5, R_t_5, B_t_5, A_t_3, S_t_6, R_t_6, B_t_6, A_t_4, h_t_7, A_t_5, S_t_9, R_t_9, B_t_9, A_t_7, S_t_10, R_t_10, B_t_10, A_t_8, h_t_11, A_t_9, S_t_13, R_t_13, B_t_13, A_t_10, S_t_14, R_t_14, B_t_14, A_t_12, S_t_15, R_t_15, B_t_15, A_t_14, S_t_16, R_t_16, B_t_16, A_t_15, h_t_17⟩ := id h_t
  obtain ⟨S_t_1, R_t_1, B_t_1, A_t_1_0, S_t_1_1, R_t_1_1, B_t_1_1, Q0_t_1, Q1_t_1, Q2_t_1⟩ := id h_t_1
  obtain ⟨S_t_3, R_t_3, B_t_3, A_t_3_0, S_t_3_1, R_t_3_1, B_t_3_1, Q0_t_3, Q1_t_3, Q2_t_3⟩ := id h_t_3
  obtain ⟨S_t_7, R_t_7, B_t_7, A_t_7_0, S_t_7_1, R_t_7_1, B_t_7_1, Q0_t_7, Q1_t_7, Q2_t_7⟩ := id h_t_7
  obtain ⟨S_t_11, R_t_11, B_t_11, A_t_11_0, S_t_11_1, R_t_11_1, B_t_11_1, Q0_t_11, Q1_t_11, Q2_t_11⟩ := id h_t_11
  obtain ⟨S_t_17, R_t_17, B_t_17, A_t_17_0, S_20, R_20, B_20, A_t_17_1, S_t_17_1, R_t_17_1, B_t_17_1, A_t_17_2, S_t_17_2, R_t_17_2, B_t_17_2, A_t_17_3, S_t_17_3, R_t_17_3, B_t_17_3, A_t_17_4, S_t_17_4, R_t_17_4, B_t_17_4, A_t_17_5, S_t_17_5, R_t_17_5, B_t_17_5, S_t_17_6, R_t_17_6, B_t_17_6, S_t_17_7, R_t_17_7, B_t_17_7⟩ := id h_t_17
  have hD : gv_D (gc_E6 ws0 tb 5 (yX6_readSound, cX6_readSound, 1, (some .boolean)) kX6_readSound) := gq_ok oX6_readSound
  refine gc_ev6 (d := 5) (l := kX6_readSound) (Po := fun r h' => (∃ (I' : gr_I) (J' : gr_J), h' = gc_h sh I' J' A ∧ gc_Inv ro I' ∧ (∀ q j : Nat, ((q = 39 ∧ j = 3) ∨ (q = 39 ∧ j = 4) ∨ (q = 23 ∧ j = 5) ∨ (q = 23 ∧ j = 6) ∨ (q = 23 ∧ j = 7) ∨ (q = 23 ∧ j = 8) ∨ (q = 1 ∧ j = 17) ∨ (q = 1 ∧ j = 18) ∨ q = 20 ∨ q = 41 ∨ q = (t + 10) ∨ (q = t ∧ j = 6)) ∨ I' q j = I q j) ∧ (∀ q j : Nat, ((q = 23 ∧ j = 9)) ∨ J' q j = J q j) ∧ gc_LT I' ∧ gc_sc (t + 10) I' ∧ (∃ z : Int, r = some (.inl z) ∧ 0 ≤ z ∧ z ≤ 1 ∧ (I' 23 5 ≤ I' 23 6) ∧ (I' 23 7 = 5 ∨ I' 23 6 ≤ I' 23 1) ∧ (I' 23 5 ≤ I' 23 1) ∧ (I' 23 7 = 4 ∨ (I' 23 5 < I' 23 6 ∧ I' 23 5 < I' 23 1)) ∧ (I' 23 7 = 3 → 2 ≤ I' 23 6 - I' 23 5 ∧ I' 23 6 - I' 23 5 ≤ 14) ∧ (I' 23 1 = I 23 1) ∧ (I 23 5 ≤ I' 23 5) ∧ (I' 1 17 + I' 23 1 ≤ 1280 + I' 23 5)))) htb rfl (Nat.le_of_ble_eq_true rfl) ?_
  have f1 := (show 0 ≤ I 23 1 ∧ I 23 1 ≤ 1000 from gc_in hI R_23 rfl rfl)
  have f2 := (show 0 ≤ I 23 5 ∧ I 23 5 ≤ 1000 from gc_in hI R_23 rfl rfl)
  have f3 := (show 0 ≤ I 23 6 ∧ I 23 6 ≤ 1001 from gc_in hI R_23 rfl rfl)
  have f4 := (show 0 ≤ I 23 7 ∧ I 23 7 ≤ 125 from gc_in hI R_23 rfl rfl)
  have f5 := (show 0 ≤ I 1 17 ∧ I 1 17 ≤ 12000 from gc_in hI R_1 rfl rfl)
  have f6 := (show 0 ≤ I t 6 ∧ I t 6 ≤ 24 from gc_in hI R_t rfl rfl)
  have f7 := (show (-1) ≤ I 39 2 ∧ I 39 2 ≤ 999999 from gc_in hI R_39 rfl rfl)
  have L29 : ∀ (I8 : gr_I) (J9 : gr_J) , gc_Inv ro I8 → (∀ q j : Nat, ((q = 39 ∧ j = 3) ∨ (q = 39 ∧ j = 4) ∨ (q = 23 ∧ j = 5) ∨ (q = 23 ∧ j = 6) ∨ (q = 23 ∧ j = 7) ∨ (q = 23 ∧ j = 8) ∨ (q = 1 ∧ j = 17) ∨ (q = 1 ∧ j = 18) ∨ q = 20 ∨ q = 41 ∨ q = (t + 10) ∨ (q = t ∧ j = 6)) ∨ I8 q j = I q j) → (∀ q j : Nat, ((q = 23 ∧ j = 9)) ∨ J9 q j = J q j) → gc_LT I8 → gc_sc (t + 10) I8 → gc_row 41 25 gc_fS I8 → gc_RC I8 → ((I8 23 5 ≤ I8 23 6) ∧ (I8 23 7 = 5 ∨ I8 23 6 ≤ I8 23 1) ∧ (I8 23 5 ≤ I8 23 1) ∧ (I8 23 7 = 4 ∨ (I8 23 5 < I8 23 6 ∧ I8 23 5 < I8 23 1)) ∧ (I8 23 7 = 3 → 2 ≤ I8 23 6 - I8 23 5 ∧ I8 23 6 - I8 23 5 ≤ 14) ∧ (I8 23 1 = I 23 1) ∧ (I 23 5 ≤ I8 23 5) ∧ (I8 1 17 + I8 23 1 ≤ 1280 + I8 23 5) ∧ (I8 39 2 = (t : Int))) → gv_X (gc_E6 ws0 tb 5 (yX6_readSound, cX6_readSound, 1, (some .boolean)) kX6_readSound) (gv_Q cX6_readSound (some .boolean) sh (fun r h' => (∃ (I' : gr_I) (J' : gr_J), h' = gc_h sh I' J' A ∧ gc_Inv ro I' ∧ (∀ q j : Nat, ((q = 39 ∧ j = 3) ∨ (q = 39 ∧ j = 4) ∨ (q = 23 ∧ j = 5) ∨ (q = 23 ∧ j = 6) ∨ (q = 23 ∧ j = 7) ∨ (q = 23 ∧ j = 8) ∨ (q = 1 ∧ j = 17) ∨ (q = 1 ∧ j = 18) ∨ q = 20 ∨ q = 41 ∨ q = (t + 10) ∨ (q = t ∧ j = 6)) ∨ I' q j = I q j) ∧ (∀ q j : Nat, ((q = 23 ∧ j = 9)) ∨ J' q j = J q j) ∧ gc_LT I' ∧ gc_sc (t + 10) I' ∧ (∃ z : Int, r = some (.inl z) ∧ 0 ≤ z ∧ z ≤ 1 ∧ (I' 23 5 ≤ I' 23 6) ∧ (I' 23 7 = 5 ∨ I' 23 6 ≤ I' 23 1) ∧ (I' 23 5 ≤ I' 23 1) ∧ (I' 23 7 = 4 ∨ (I' 23 5 < I' 23 6 ∧ I' 23 5 < I' 23 1)) ∧ (I' 23 7 = 3 → 2 ≤ I' 23 6 - I' 23 5 ∧ I' 23 6 - I' 23 5 ≤ 14) ∧ (I' 23 1 = I 23 1) ∧ (I 23 5 ≤ I' 23 5) ∧ (I' 1 17 + I' 23 1 ≤ 1280 + I' 23 5))))) (29, [(0, .inr (.inr (some 39)))], [], sh, gc_h sh I8 J9 A) := by
    intro I8 J9 hI8 FI8 FJ9 KLT_I8 KSC_I8 KRS_I8 KRC_I8 m_10
    clear x0 x1 x2 x3 x4
    obtain ⟨e0_10, e1_10, e2_10, e3_10, e4_10, e5_10, e6_10, e7_10, e8_10⟩ := m_10
    have f11 := (show 0 ≤ I8 23 1 ∧ I8 23 1 ≤ 1000 from gc_in hI8 R_23 rfl rfl)
    have f12 := (show 0 ≤ I8 23 5 ∧ I8 23 5 ≤ 1000 from gc_in hI8 R_23 rfl rfl)
    have f13 := (show 0 ≤ I8 23 6 ∧ I8 23 6 ≤ 1001 from gc_in hI8 R_23 rfl rfl)
    have f14 := (show 0 ≤ I8 23 7 ∧ I8 23 7 ≤ 125 from gc_in hI8 R_23 rfl rfl)
    have f15 := (show 0 ≤ I8 1 17 ∧ I8 1 17 ≤ 12000 from gc_in hI8 R_1 rfl rfl)
    have f16 := (show 0 ≤ I8 t 6 ∧ I8 t 6 ≤ 24 from gc_in hI8 R_t rfl rfl)
    have f17 := (show (-1) ≤ I8 39 2 ∧ I8 39 2 ≤ 999999 from gc_in hI8 R_39 rfl rfl)
    have L62 : ((I8 23 5 ≤ I8 23 6) ∧ (I8 23 7 = 5 ∨ I8 23 6 ≤ I8 23 1) ∧ (I8 23 5 ≤ I8 23 1) ∧ (I8 23 7 = 4 ∨ (I8 23 5 < I8 23 6 ∧ I8 23 5 < I8 23 1)) ∧ (I8 23 7 = 3 → 2 ≤ I8 23 6 - I8 23 5 ∧ I8 23 6 - I8 23 5 ≤ 14) ∧ (I8 23 1 = I 23 1) ∧ (I 23 5 ≤ I8 23 5) ∧ (I8 1 17 + I8 23 1 ≤ 1280 + I8 23 5) ∧ (I8 39 2 = (t : Int))) → gv_X (gc_E6 ws0 tb 5 (yX6_readSound, cX6_readSound, 1, (some .boolean)) kX6_readSound) (gv_Q cX6_readSound (some .boolean) sh (fun r h' => (∃ (I' : gr_I) (J' : gr_J), h' = gc_h sh I' J' A ∧ gc_Inv ro I' ∧ (∀ q j : Nat, ((q = 39 ∧ j = 3) ∨ (q = 39 ∧ j = 4) ∨ (q = 23 ∧ j = 5) ∨ (q = 23 ∧ j = 6) ∨ (q = 23 ∧ j = 7) ∨ (q = 23 ∧ j = 8) ∨ (q = 1 ∧ j = 17) ∨ (q = 1 ∧ j = 18) ∨ q = 20 ∨ q = 41 ∨ q = (t + 10) ∨ (q = t ∧ j = 6)) ∨ I' q j = I q j) ∧ (∀ q j : Nat, ((q = 23 ∧ j = 9)) ∨ J' q j = J q j) ∧ gc_LT I' ∧ gc_sc (t + 10) I' ∧ (∃ z : Int, r = some (.inl z) ∧ 0 ≤ z ∧ z ≤ 1 ∧ (I' 23 5 ≤ I' 23 6) ∧ (I' 23 7 = 5 ∨ I' 23 6 ≤ I' 23 1) ∧ (I' 23 5 ≤ I' 23 1) ∧ (I' 23 7 = 4 ∨ (I' 23 5 < I' 23 6 ∧ I' 23 5 < I' 23 1)) ∧ (I' 23 7 = 3 → 2 ≤ I' 23 6 - I' 23 5 ∧ I' 23 6 - I' 23 5 ≤ 14) ∧ (I' 23 1 = I 23 1) ∧ (I 23 5 ≤ I' 23 5) ∧ (I' 1 17 + I' 23 1 ≤ 1280 + I' 23 5))))) (62, [(0, .inr (.inr (some 39)))], [], sh, gc_h sh I8 J9 A) := by
      intro m_18
      obtain ⟨e0_18, e1_18, e2_18, e3_18, e4_18, e5_18, e6_18, e7_18, e8_18⟩ := m_18
      have f19 := (show 0 ≤ I8 23 1 ∧ I8 23 1 ≤ 1000 from gc_in hI8 R_23 rfl rfl)
      have f20 := (show 0 ≤ I8 23 5 ∧ I8 23 5 ≤ 1000 from gc_in hI8 R_23 rfl rfl)
      have f21 := (show 0 ≤ I8 23 6 ∧ I8 23 6 ≤ 1001 from gc_in hI8 R_23 rfl rfl)
      have f22 := (show 0 ≤ I8 23 7 ∧ I8 23 7 ≤ 125 from gc_in hI8 R_23 rfl rfl)
      have f23 := (show 0 ≤ I8 1 17 ∧ I8 1 17 ≤ 12000 from gc_in hI8 R_1 rfl rfl)
      have f24 := (show 0 ≤ I8 t 6 ∧ I8 t 6 ≤ 24 from gc_in hI8 R_t rfl rfl)
      have f25 := (show (-1) ≤ I8 39 2 ∧ I8 39 2 ≤ 999999 from gc_in hI8 R_39 rfl rfl)
      refine gv_run 3 true hD (pc' := 65) (lv' := [(0, .inr (.inr (some 39)))]) (st' := [.inr (.inr (some 39)), .inl 5, .inr (.inr (some 39))]) (h' := gc_h sh I8 J9 A) (C := (((True ∧ True) ∧ True) ∧ True)) rfl ⟨⟨⟨trivial, trivial⟩, trivial⟩, trivial⟩ ?_
      refine gv_get hD rfl rfl S_39 ⟨by decide, B_39⟩ (gc_hA S_39 rfl A_39_1) ?_
      show gv_X _ _ (68, [(0, .inr (.inr (some 39)))], [.inr (.inr (some 23)), .inl 5, .inr (.inr (some 39))], sh, gc_h sh I8 J9 A)
      have f26 := (show 0 ≤ I8 23 5 ∧ I8 23 5 ≤ 1000 from gc_in hI8 R_23 rfl rfl)
      refine gv_get hD rfl rfl S_23 ⟨by decide, B_23⟩ (gc_hI S_23 rfl) ?_
      show gv_X _ _ (71, [(0, .inr (.inr (some 39)))], [.inl (I8 23 5), .inl 5, .inr (.inr (some 39))], sh, gc_h sh I8 J9 A)
      obtain ⟨r27, h27, E27, P27⟩ := d_X6_wrong (ws0 := ws0) (tb := tb) hws htb sh ro I8 J9 A hI8  5 (I8 23 5) hb   ⟨by omega, by omega⟩ ⟨by omega, by omega⟩  
      obtain ⟨I28, J29, rfl, hI28, g27, k27, ⟨z27, rfl, q27⟩⟩ := P27
      have FI28 := gc_frc (W := fun q j => (q = 39 ∧ j = 3) ∨ (q = 39 ∧ j = 4) ∨ (q = 23 ∧ j = 5) ∨ (q = 23 ∧ j = 6) ∨ (q = 23 ∧ j = 7) ∨ (q = 23 ∧ j = 8) ∨ (q = 1 ∧ j = 17) ∨ (q = 1 ∧ j = 18) ∨ q = 20 ∨ q = 41 ∨ q = (t + 10) ∨ (q = t ∧ j = 6)) (V := fun q j => (q = 39 ∧ j = 3) ∨ (q = 39 ∧ j = 4)) FI8 (fun q j h => (h.elim (fun h => (Or.inl h)) (fun h => (Or.inr (Or.inl h))))) g27
      have t30 := (g27 23 1).resolve_left (by omega)
      have t31 := (g27 23 5).resolve_left (by omega)
      have t32 := (g27 23 6).resolve_left (by omega)
      have t33 := (g27 23 7).resolve_left (by omega)
      have t34 := (g27 1 17).resolve_left (by omega)
      have t35 := (g27 t 6).resolve_left (by omega)
      have t36 := (g27 39 2).resolve_left (by omega)
      have f37 := (show 0 ≤ I28 23 1 ∧ I28 23 1 ≤ 1000 from gc_in hI28 R_23 rfl rfl)
      have f38 := (show 0 ≤ I28 23 5 ∧ I28 23 5 ≤ 1000 from gc_in hI28 R_23 rfl rfl)
      have f39 := (show 0 ≤ I28 23 6 ∧ I28 23 6 ≤ 1001 from gc_in hI28 R_23 rfl rfl)
      have f40 := (show 0 ≤ I28 23 7 ∧ I28 23 7 ≤ 125 from gc_in hI28 R_23 rfl rfl)
      have f41 := (show 0 ≤ I28 1 17 ∧ I28 1 17 ≤ 12000 from gc_in hI28 R_1 rfl rfl)
      have f42 := (show 0 ≤ I28 t 6 ∧ I28 t 6 ≤ 24 from gc_in hI28 R_t rfl rfl)
      have f43 := (show (-1) ≤ I28 39 2 ∧ I28 39 2 ≤ 999999 from gc_in hI28 R_39 rfl rfl)
      obtain rfl : J9 = J29 := funext fun q => funext fun j => ((k27 q j).resolve_left id).symm
      have KLT_I28 := gc_LT_fr KLT_I8 ((g27 23 5).resolve_left (by omega)) ((g27 23 6).resolve_left (by omega)) ((g27 23 7).resolve_left (by omega)) (fun k => (g27 24 k).resolve_left (by omega))
      have KSC_I28 := gc_sc_fr KSC_I8 (fun k => (g27 (t + 10) k).resolve_left (by omega))
      have KRS_I28 := gc_row_fr KRS_I8 (fun k => (g27 41 k).resolve_left (by omega))
      have KRC_I28 := gc_RC_fr KRC_I8 (fun k => (g27 41 k).resolve_left (by omega))
      refine gv_callV hD rfl (As := [.inl 5, .inl (I8 23 5)]) (st := []) rfl B_39 S_39 rfl (gc_lV6 hws rfl) (Nat.le_of_ble_eq_true rfl) (gz_Ev_mono (d := 1) (by decide) E27) ?_
      show gv_X _ _ (74, [(0, .inr (.inr (some 39)))], [.inl z27], sh, gc_h sh I28 J9 A)
      exact gv_zret hD rfl (by omega) ⟨I28, J9, rfl, hI28, FI28, FJ9, KLT_I28, KSC_I28, ⟨_, rfl, by omega⟩⟩
    have L75 : ((I8 23 5 ≤ I8 23 6) ∧ (I8 23 7 = 5 ∨ I8 23 6 ≤ I8 23 1) ∧ (I8 23 5 ≤ I8 23 1) ∧ (I8 23 7 = 4 ∨ (I8 23 5 < I8 23 6 ∧ I8 23 5 < I8 23 1)) ∧ (I8 23 7 = 3 → 2 ≤ I8 23 6 - I8 23 5 ∧ I8 23 6 - I8 23 5 ≤ 14) ∧ (I8 23 1 = I 23 1) ∧ (I 23 5 ≤ I8 23 5) ∧ (I8 1 17 + I8 23 1 ≤ 1280 + I8 23 5) ∧ (I8 39 2 = (t : Int))) → gv_X (gc_E6 ws0 tb 5 (yX6_readSound, cX6_readSound, 1, (some .boolean)) kX6_readSound) (gv_Q cX6_readSound (some .boolean) sh (fun r h' => (∃ (I' : gr_I) (J' : gr_J), h' = gc_h sh I' J' A ∧ gc_Inv ro I' ∧ (∀ q j : Nat, ((q = 39 ∧ j = 3) ∨ (q = 39 ∧ j = 4) ∨ (q = 23 ∧ j = 5) ∨ (q = 23 ∧ j = 6) ∨ (q = 23 ∧ j = 7) ∨ (q = 23 ∧ j = 8) ∨ (q = 1 ∧ j = 17) ∨ (q = 1 ∧ j = 18) ∨ q = 20 ∨ q = 41 ∨ q = (t + 10) ∨ (q = t ∧ j = 6)) ∨ I' q j = I q j) ∧ (∀ q j : Nat, ((q = 23 ∧ j = 9)) ∨ J' q j = J q j) ∧ gc_LT I' ∧ gc_sc (t + 10) I' ∧ (∃ z : Int, r = some (.inl z) ∧ 0 ≤ z ∧ z ≤ 1 ∧ (I' 23 5 ≤ I' 23 6) ∧ (I' 23 7 = 5 ∨ I' 23 6 ≤ I' 23 1) ∧ (I' 23 5 ≤ I' 23 1) ∧ (I' 23 7 = 4 ∨ (I' 23 5 < I' 23 6 ∧ I' 23 5 < I' 23 1)) ∧ (I' 23 7 = 3 → 2 ≤ I' 23 6 - I' 23 5 ∧ I' 23 6 - I' 23 5 ≤ 14) ∧ (I' 23 1 = I 23 1) ∧ (I 23 5 ≤ I' 23 5) ∧ (I' 1 17 + I' 23 1 ≤ 1280 + I' 23 5))))) (75, [(0, .inr (.inr (some 39)))], [], sh, gc_h sh I8 J9 A) := by
      intro m_44
      obtain ⟨e0_44, e1_44, e2_44, e3_44, e4_44, e5_44, e6_44, e7_44, e8_44⟩ := m_44
      have f45 := (show 0 ≤ I8 23 1 ∧ I8 23 1 ≤ 1000 from gc_in hI8 R_23 rfl rfl)
      have f46 := (show 0 ≤ I8 23 5 ∧ I8 23 5 ≤ 1000 from gc_in hI8 R_23 rfl rfl)
      have f47 := (show 0 ≤ I8 23 6 ∧ I8 23 6 ≤ 1001 from gc_in hI8 R_23 rfl rfl)
      have f48 := (show 0 ≤ I8 23 7 ∧ I8 23 7 ≤ 125 from gc_in hI8 R_23 rfl rfl)
      have f49 := (show 0 ≤ I8 1 17 ∧ I8 1 17 ≤ 12000 from gc_in hI8 R_1 rfl rfl)
      have f50 := (show 0 ≤ I8 t 6 ∧ I8 t 6 ≤ 24 from gc_in hI8 R_t rfl rfl)
      have f51 := (show (-1) ≤ I8 39 2 ∧ I8 39 2 ≤ 999999 from gc_in hI8 R_39 rfl rfl)
      have L100 : ∀ (I52 : gr_I) (J53 : gr_J) , gc_Inv ro I52 → (∀ q j : Nat, ((q = 39 ∧ j = 3) ∨ (q = 39 ∧ j = 4) ∨ (q = 23 ∧ j = 5) ∨ (q = 23 ∧ j = 6) ∨ (q = 23 ∧ j = 7) ∨ (q = 23 ∧ j = 8) ∨ (q = 1 ∧ j = 17) ∨ (q = 1 ∧ j = 18) ∨ q = 20 ∨ q = 41 ∨ q = (t + 10) ∨ (q = t ∧ j = 6)) ∨ I52 q j = I q j) → (∀ q j : Nat, ((q = 23 ∧ j = 9)) ∨ J53 q j = J q j) → gc_LT I52 → gc_sc (t + 10) I52 → ((I52 23 5 ≤ I52 23 6) ∧ (I52 23 7 = 5 ∨ I52 23 6 ≤ I52 23 1) ∧ (I52 23 5 ≤ I52 23 1) ∧ (I52 23 7 = 4 ∨ (I52 23 5 < I52 23 6 ∧ I52 23 5 < I52 23 1)) ∧ (I52 23 7 = 3 → 2 ≤ I52 23 6 - I52 23 5 ∧ I52 23 6 - I52 23 5 ≤ 14) ∧ (I52 23 1 = I 23 1) ∧ (I 23 5 ≤ I52 23 5) ∧ (I52 1 17 + I52 23 1 ≤ 1280 + I52 23 5) ∧ (I52 39 2 = (t : Int))) → gv_X (gc_E6 ws0 tb 5 (yX6_readSound, cX6_readSound, 1, (some .boolean)) kX6_readSound) (gv_Q cX6_readSound (some .boolean) sh (fun r h' => (∃ (I' : gr_I) (J' : gr_J), h' = gc_h sh I' J' A ∧ gc_Inv ro I' ∧ (∀ q j : Nat, ((q = 39 ∧ j = 3) ∨ (q = 39 ∧ j = 4) ∨ (q = 23 ∧ j = 5) ∨ (q = 23 ∧ j = 6) ∨ (q = 23 ∧ j = 7) ∨ (q = 23 ∧ j = 8) ∨ (q = 1 ∧ j = 17) ∨ (q = 1 ∧ j = 18) ∨ q = 20 ∨ q = 41 ∨ q = (t + 10) ∨ (q = t ∧ j = 6)) ∨ I' q j = I q j) ∧ (∀ q j : Nat, ((q = 23 ∧ j = 9)) ∨ J' q j = J q j) ∧ gc_LT I' ∧ gc_sc (t + 10) I' ∧ (∃ z : Int, r = some (.inl z) ∧ 0 ≤ z ∧ z ≤ 1 ∧ (I' 23 5 ≤ I' 23 6) ∧ (I' 23 7 = 5 ∨ I' 23 6 ≤ I' 23 1) ∧ (I' 23 5 ≤ I' 23 1) ∧ (I' 23 7 = 4 ∨ (I' 23 5 < I' 23 6 ∧ I' 23 5 < I' 23 1)) ∧ (I' 23 7 = 3 → 2 ≤ I' 23 6 - I' 23 5 ∧ I' 23 6 - I' 23 5 ≤ 14) ∧ (I' 23 1 = I 23 1) ∧ (I 23 5 ≤ I' 23 5) ∧ (I' 1 17 + I' 23 1 ≤ 1280 + I' 23 5))))) (100, [], [], sh, gc_h sh I52 J53 A) := by
        intro I52 J53 hI52 FI52 FJ53 KLT_I52 KSC_I52 m_54
        clear e0_44 e1_44 e2_44 e3_44 e4_44 e5_44 e6_44 e7_44 e8_44 f45 f46 f47 f48 f49 f50 f51 e0_10 e1_10 e2_10 e3_10 e4_10 e5_10 e6_10 e7_10 e8_10 f11 f12 f13 f14 f15 f16 f17
        obtain ⟨e0_54, e1_54, e2_54, e3_54, e4_54, e5_54, e6_54, e7_54, e8_54⟩ := m_54
        have f55 := (show 0 ≤ I52 23 1 ∧ I52 23 1 ≤ 1000 from gc_in hI52 R_23 rfl rfl)
        have f56 := (show 0 ≤ I52 23 5 ∧ I52 23 5 ≤ 1000 from gc_in hI52 R_23 rfl rfl)
        have f57 := (show 0 ≤ I52 23 6 ∧ I52 23 6 ≤ 1001 from gc_in hI52 R_23 rfl rfl)
        have f58 := (show 0 ≤ I52 23 7 ∧ I52 23 7 ≤ 125 from gc_in hI52 R_23 rfl rfl)
        have f59 := (show 0 ≤ I52 1 17 ∧ I52 1 17 ≤ 12000 from gc_in hI52 R_1 rfl rfl)
        have f60 := (show 0 ≤ I52 t 6 ∧ I52 t 6 ≤ 24 from gc_in hI52 R_t rfl rfl)
        have f61 := (show (-1) ≤ I52 39 2 ∧ I52 39 2 ≤ 999999 from gc_in hI52 R_39 rfl rfl)
        refine gv_run 1 true hD (pc' := 101) (lv' := []) (st' := [.inl 0]) (h' := gc_h sh I52 J53 A) (C := (True ∧ True)) rfl ⟨trivial, trivial⟩ ?_
        exact gv_zret hD rfl (by omega) ⟨I52, J53, rfl, hI52, FI52, FJ53, KLT_I52, KSC_I52, ⟨_, rfl, by omega⟩⟩
      have L181 : ∀ (I62 : gr_I) (J63 : gr_J) , gc_Inv ro I62 → (∀ q j : Nat, ((q = 39 ∧ j = 3) ∨ (q = 39 ∧ j = 4) ∨ (q = 23 ∧ j = 5) ∨ (q = 23 ∧ j = 6) ∨ (q = 23 ∧ j = 7) ∨ (q = 23 ∧ j = 8) ∨ (q = 1 ∧ j = 17) ∨ (q = 1 ∧ j = 18) ∨ q = 20 ∨ q = 41 ∨ q = (t + 10) ∨ (q = t ∧ j = 6)) ∨ I62 q j = I q j) → (∀ q j : Nat, ((q = 23 ∧ j = 9)) ∨ J63 q j = J q j) → gc_LT I62 → gc_sc (t + 10) I62 → ((I62 23 5 ≤ I62 23 6) ∧ (I62 23 7 = 5 ∨ I62 23 6 ≤ I62 23 1) ∧ (I62 23 5 ≤ I62 23 1) ∧ (I62 23 7 = 4 ∨ (I62 23 5 < I62 23 6 ∧ I62 23 5 < I62 23 1)) ∧ (I62 23 7 = 3 → 2 ≤ I62 23 6 - I62 23 5 ∧ I62 23 6 - I62 23 5 ≤ 14) ∧ (I62 23 1 = I 23 1) ∧ (I 23 5 ≤ I62 23 5) ∧ (I62 1 17 + I62 23 1 ≤ 1280 + I62 23 5) ∧ (I62 39 2 = (t : Int))) → gv_X (gc_E6 ws0 tb 5 (yX6_readSound, cX6_readSound, 1, (some .boolean)) kX6_readSound) (gv_Q cX6_readSound (some .boolean) sh (fun r h' => (∃ (I' : gr_I) (J' : gr_J), h' = gc_h sh I' J' A ∧ gc_Inv ro I' ∧ (∀ q j : Nat, ((q = 39 ∧ j = 3) ∨ (q = 39 ∧ j = 4) ∨ (q = 23 ∧ j = 5) ∨ (q = 23 ∧ j = 6) ∨ (q = 23 ∧ j = 7) ∨ (q = 23 ∧ j = 8) ∨ (q = 1 ∧ j = 17) ∨ (q = 1 ∧ j = 18) ∨ q = 20 ∨ q = 41 ∨ q = (t + 10) ∨ (q = t ∧ j = 6)) ∨ I' q j = I q j) ∧ (∀ q j : Nat, ((q = 23 ∧ j = 9)) ∨ J' q j = J q j) ∧ gc_LT I' ∧ gc_sc (t + 10) I' ∧ (∃ z : Int, r = some (.inl z) ∧ 0 ≤ z ∧ z ≤ 1 ∧ (I' 23 5 ≤ I' 23 6) ∧ (I' 23 7 = 5 ∨ I' 23 6 ≤ I' 23 1) ∧ (I' 23 5 ≤ I' 23 1) ∧ (I' 23 7 = 4 ∨ (I' 23 5 < I' 23 6 ∧ I' 23 5 < I' 23 1)) ∧ (I' 23 7 = 3 → 2 ≤ I' 23 6 - I' 23 5 ∧ I' 23 6 - I' 23 5 ≤ 14) ∧ (I' 23 1 = I 23 1) ∧ (I 23 5 ≤ I' 23 5) ∧ (I' 1 17 + I' 23 1 ≤ 1280 + I' 23 5))))) (181, [], [], sh, gc_h sh I62 J63 A) := by
        intro I62 J63 hI62 FI62 FJ63 KLT_I62 KSC_I62 m_64
        clear e0_44 e1_44 e2_44 e3_44 e4_44 e5_44 e6_44 e7_44 e8_44 f45 f46 f47 f48 f49 f50 f51 e0_10 e1_10 e2_10 e3_10 e4_10 e5_10 e6_10 e7_10 e8_10 f11 f12 f13 f14 f15 f16 f17
        obtain ⟨e0_64, e1_64, e2_64, e3_64, e4_64, e5_64, e6_64, e7_64, e8_64⟩ := m_64
        have f65 := (show 0 ≤ I62 23 1 ∧ I62 23 1 ≤ 1000 from gc_in hI62 R_23 rfl rfl)
        have f66 := (show 0 ≤ I62 23 5 ∧ I62 23 5 ≤ 1000 from gc_in hI62 R_23 rfl rfl)
        have f67 := (show 0 ≤ I62 23 6 ∧ I62 23 6 ≤ 1001 from gc_in hI62 R_23 rfl rfl)
        have f68 := (show 0 ≤ I62 23 7 ∧ I62 23 7 ≤ 125 from gc_in hI62 R_23 rfl rfl)
        have f69 := (show 0 ≤ I62 1 17 ∧ I62 1 17 ≤ 12000 from gc_in hI62 R_1 rfl rfl)
        have f70 := (show 0 ≤ I62 t 6 ∧ I62 t 6 ≤ 24 from gc_in hI62 R_t rfl rfl)
        have f71 := (show (-1) ≤ I62 39 2 ∧ I62 39 2 ≤ 999999 from gc_in hI62 R_39 rfl rfl)
        refine gv_run 1 true hD (pc' := 182) (lv' := []) (st' := [.inl 0]) (h' := gc_h sh I62 J63 A) (C := (True ∧ True)) rfl ⟨trivial, trivial⟩ ?_
        exact gv_zret hD rfl (by omega) ⟨I62, J63, rfl, hI62, FI62, FJ63, KLT_I62, KSC_I62, ⟨_, rfl, by omega⟩⟩
      have L183 : ∀ (I72 : gr_I) (J73 : gr_J) , gc_Inv ro I72 → (∀ q j : Nat, ((q = 39 ∧ j = 3) ∨ (q = 39 ∧ j = 4) ∨ (q = 23 ∧ j = 5) ∨ (q = 23 ∧ j = 6) ∨ (q = 23 ∧ j = 7) ∨ (q = 23 ∧ j = 8) ∨ (q = 1 ∧ j = 17) ∨ (q = 1 ∧ j = 18) ∨ q = 20 ∨ q = 41 ∨ q = (t + 10) ∨ (q = t ∧ j = 6)) ∨ I72 q j = I q j) → (∀ q j : Nat, ((q = 23 ∧ j = 9)) ∨ J73 q j = J q j) → gc_LT I72 → gc_sc (t + 10) I72 → gc_row 41 25 gc_fS I72 → gc_RC I72 → ((I72 23 5 ≤ I72 23 6) ∧ (I72 23 7 = 5 ∨ I72 23 6 ≤ I72 23 1) ∧ (I72 23 5 ≤ I72 23 1) ∧ (I72 23 7 = 4 ∨ (I72 23 5 < I72 23 6 ∧ I72 23 5 < I72 23 1)) ∧ (I72 23 7 = 3 → 2 ≤ I72 23 6 - I72 23 5 ∧ I72 23 6 - I72 23 5 ≤ 14) ∧ (I72 23 1 = I 23 1) ∧ (I 23 5 ≤ I72 23 5) ∧ (I72 1 17 + I72 23 1 ≤ 1280 + I72 23 5) ∧ (I72 39 2 = (t : Int))) → gv_X (gc_E6 ws0 tb 5 (yX6_readSound, cX6_readSound, 1, (some .boolean)) kX6_readSound) (gv_Q cX6_readSound (some .boolean) sh (fun r h' => (∃ (I' : gr_I) (J' : gr_J), h' = gc_h sh I' J' A ∧ gc_Inv ro I' ∧ (∀ q j : Nat, ((q = 39 ∧ j = 3) ∨ (q = 39 ∧ j = 4) ∨ (q = 23 ∧ j = 5) ∨ (q = 23 ∧ j = 6) ∨ (q = 23 ∧ j = 7) ∨ (q = 23 ∧ j = 8) ∨ (q = 1 ∧ j = 17) ∨ (q = 1 ∧ j = 18) ∨ q = 20 ∨ q = 41 ∨ q = (t + 10) ∨ (q = t ∧ j = 6)) ∨ I' q j = I q j) ∧ (∀ q j : Nat, ((q = 23 ∧ j = 9)) ∨ J' q j = J q j) ∧ gc_LT I' ∧ gc_sc (t + 10) I' ∧ (∃ z : Int, r = some (.inl z) ∧ 0 ≤ z ∧ z ≤ 1 ∧ (I' 23 5 ≤ I' 23 6) ∧ (I' 23 7 = 5 ∨ I' 23 6 ≤ I' 23 1) ∧ (I' 23 5 ≤ I' 23 1) ∧ (I' 23 7 = 4 ∨ (I' 23 5 < I' 23 6 ∧ I' 23 5 < I' 23 1)) ∧ (I' 23 7 = 3 → 2 ≤ I' 23 6 - I' 23 5 ∧ I' 23 6 - I' 23 5 ≤ 14) ∧ (I' 23 1 = I 23 1) ∧ (I 23 5 ≤ I' 23 5) ∧ (I' 1 17 + I' 23 1 ≤ 1280 + I' 23 5))))) (183, [(0, .inr (.inr (some 39)))], [], sh, gc_h sh I72 J73 A) := by
        intro I72 J73 hI72 FI72 FJ73 KLT_I72 KSC_I72 KRS_I72 KRC_I72 m_74
        clear e0_44 e1_44 e2_44 e3_44 e4_44 e5_44 e6_44 e7_44 e8_44 f45 f46 f47 f48 f49 f50 f51 e0_10 e1_10 e2_10 e3_10 e4_10 e5_10 e6_10 e7_10 e8_10 f11 f12 f13 f14 f15 f16 f17
        obtain ⟨e0_74, e1_74, e2_74, e3_74, e4_74, e5_74, e6_74, e7_74, e8_74⟩ := m_74
        have f75 := (show 0 ≤ I72 23 1 ∧ I72 23 1 ≤ 1000 from gc_in hI72 R_23 rfl rfl)
        have f76 := (show 0 ≤ I72 23 5 ∧ I72 23 5 ≤ 1000 from gc_in hI72 R_23 rfl rfl)
        have f77 := (show 0 ≤ I72 23 6 ∧ I72 23 6 ≤ 1001 from gc_in hI72 R_23 rfl rfl)
        have f78 := (show 0 ≤ I72 23 7 ∧ I72 23 7 ≤ 125 from gc_in hI72 R_23 rfl rfl)
        have f79 := (show 0 ≤ I72 1 17 ∧ I72 1 17 ≤ 12000 from gc_in hI72 R_1 rfl rfl)
        have f80 := (show 0 ≤ I72 t 6 ∧ I72 t 6 ≤ 24 from gc_in hI72 R_t rfl rfl)
        have f81 := (show (-1) ≤ I72 39 2 ∧ I72 39 2 ≤ 999999 from gc_in hI72 R_39 rfl rfl)
        have L201 : ∀ (s1_82 : Int), ((0 ≤ s1_82 ∧ s1_82 ≤ 1) ∧ (s1_82 = 1 ∨ I72 t 6 < 24) ∧ (I72 23 5 ≤ I72 23 6) ∧ (I72 23 7 = 5 ∨ I72 23 6 ≤ I72 23 1) ∧ (I72 23 5 ≤ I72 23 1) ∧ (I72 23 7 = 4 ∨ (I72 23 5 < I72 23 6 ∧ I72 23 5 < I72 23 1)) ∧ (I72 23 7 = 3 → 2 ≤ I72 23 6 - I72 23 5 ∧ I72 23 6 - I72 23 5 ≤ 14) ∧ (I72 23 1 = I 23 1) ∧ (I 23 5 ≤ I72 23 5) ∧ (I72 1 17 + I72 23 1 ≤ 1280 + I72 23 5) ∧ (I72 39 2 = (t : Int))) → gv_X (gc_E6 ws0 tb 5 (yX6_readSound, cX6_readSound, 1, (some .boolean)) kX6_readSound) (gv_Q cX6_readSound (some .boolean) sh (fun r h' => (∃ (I' : gr_I) (J' : gr_J), h' = gc_h sh I' J' A ∧ gc_Inv ro I' ∧ (∀ q j : Nat, ((q = 39 ∧ j = 3) ∨ (q = 39 ∧ j = 4) ∨ (q = 23 ∧ j = 5) ∨ (q = 23 ∧ j = 6) ∨ (q = 23 ∧ j = 7) ∨ (q = 23 ∧ j = 8) ∨ (q = 1 ∧ j = 17) ∨ (q = 1 ∧ j = 18) ∨ q = 20 ∨ q = 41 ∨ q = (t + 10) ∨ (q = t ∧ j = 6)) ∨ I' q j = I q j) ∧ (∀ q j : Nat, ((q = 23 ∧ j = 9)) ∨ J' q j = J q j) ∧ gc_LT I' ∧ gc_sc (t + 10) I' ∧ (∃ z : Int, r = some (.inl z) ∧ 0 ≤ z ∧ z ≤ 1 ∧ (I' 23 5 ≤ I' 23 6) ∧ (I' 23 7 = 5 ∨ I' 23 6 ≤ I' 23 1) ∧ (I' 23 5 ≤ I' 23 1) ∧ (I' 23 7 = 4 ∨ (I' 23 5 < I' 23 6 ∧ I' 23 5 < I' 23 1)) ∧ (I' 23 7 = 3 → 2 ≤ I' 23 6 - I' 23 5 ∧ I' 23 6 - I' 23 5 ≤ 14) ∧ (I' 23 1 = I 23 1) ∧ (I 23 5 ≤ I' 23 5) ∧ (I' 1 17 + I' 23 1 ≤ 1280 + I' 23 5))))) (201, [(0, .inr (.inr (some 39)))], [.inl s1_82, .inr (.inr (some 39))], sh, gc_h sh I72 J73 A) := by
          intro s1_82 m_82
          obtain ⟨hs1_82, e0_82, e1_82, e2_82, e3_82, e4_82, e5_82, e6_82, e7_82, e8_82, e9_82⟩ := m_82
          have f83 := (show 0 ≤ I72 23 1 ∧ I72 23 1 ≤ 1000 from gc_in hI72 R_23 rfl rfl)
          have f84 := (show 0 ≤ I72 23 5 ∧ I72 23 5 ≤ 1000 from gc_in hI72 R_23 rfl rfl)
          have f85 := (show 0 ≤ I72 23 6 ∧ I72 23 6 ≤ 1001 from gc_in hI72 R_23 rfl rfl)
          have f86 := (show 0 ≤ I72 23 7 ∧ I72 23 7 ≤ 125 from gc_in hI72 R_23 rfl rfl)
          have f87 := (show 0 ≤ I72 1 17 ∧ I72 1 17 ≤ 12000 from gc_in hI72 R_1 rfl rfl)
          have f88 := (show 0 ≤ I72 t 6 ∧ I72 t 6 ≤ 24 from gc_in hI72 R_t rfl rfl)
          have f89 := (show (-1) ≤ I72 39 2 ∧ I72 39 2 ≤ 999999 from gc_in hI72 R_39 rfl rfl)
          obtain ⟨r90, h90, E90, P90⟩ := d_X6_closes (ws0 := ws0) (tb := tb) hws htb sh ro I72 J73 A hI72  s1_82 hb   ⟨by omega, by omega⟩ (by omega) (by omega) (by omega) (by omega) (by omega) KLT_I72
          obtain ⟨I91, J92, rfl, hI91, g90, k90, KLT_I91, ⟨z90, rfl, q90⟩⟩ := P90
          have FI91 := gc_frc (W := fun q j => (q = 39 ∧ j = 3) ∨ (q = 39 ∧ j = 4) ∨ (q = 23 ∧ j = 5) ∨ (q = 23 ∧ j = 6) ∨ (q = 23 ∧ j = 7) ∨ (q = 23 ∧ j = 8) ∨ (q = 1 ∧ j = 17) ∨ (q = 1 ∧ j = 18) ∨ q = 20 ∨ q = 41 ∨ q = (t + 10) ∨ (q = t ∧ j = 6)) (V := fun q j => (q = 39 ∧ j = 3) ∨ (q = 39 ∧ j = 4) ∨ (q = 23 ∧ j = 5) ∨ (q = 23 ∧ j = 6) ∨ (q = 23 ∧ j = 7) ∨ (q = 23 ∧ j = 8)) FI72 (fun q j h => (h.elim (fun h => (Or.inl h)) (fun h => (h.elim (fun h => (Or.inr (Or.inl h))) (fun h => (h.elim (fun h => (Or.inr (Or.inr (Or.inl h)))) (fun h => (h.elim (fun h => (Or.inr (Or.inr (Or.inr (Or.inl h))))) (fun h => (h.elim (fun h => (Or.inr (Or.inr (Or.inr (Or.inr (Or.inl h)))))) (fun h => (Or.inr (Or.inr (Or.inr (Or.inr (Or.inr (Or.inl h))))))))))))))))) g90
          have FJ92 := gc_frc (W := fun q j => (q = 23 ∧ j = 9)) (V := fun q j => (q = 23 ∧ j = 9)) FJ73 (fun q j h => h) k90
          have t93 := (g90 23 1).resolve_left (by omega)
          have t94 := (g90 1 17).resolve_left (by omega)
          have t95 := (g90 t 6).resolve_left (by omega)
          have t96 := (g90 39 2).resolve_left (by omega)
          have f97 := (show 0 ≤ I91 23 1 ∧ I91 23 1 ≤ 1000 from gc_in hI91 R_23 rfl rfl)
          have f98 := (show 0 ≤ I91 23 5 ∧ I91 23 5 ≤ 1000 from gc_in hI91 R_23 rfl rfl)
          have f99 := (show 0 ≤ I91 23 6 ∧ I91 23 6 ≤ 1001 from gc_in hI91 R_23 rfl rfl)
          have f100 := (show 0 ≤ I91 23 7 ∧ I91 23 7 ≤ 125 from gc_in hI91 R_23 rfl rfl)
          have f101 := (show 0 ≤ I91 1 17 ∧ I91 1 17 ≤ 12000 from gc_in hI91 R_1 rfl rfl)
          have f102 := (show 0 ≤ I91 t 6 ∧ I91 t 6 ≤ 24 from gc_in hI91 R_t rfl rfl)
          have f103 := (show (-1) ≤ I91 39 2 ∧ I91 39 2 ≤ 999999 from gc_in hI91 R_39 rfl rfl)
          have KSC_I91 := gc_sc_fr KSC_I72 (fun k => (g90 (t + 10) k).resolve_left (by omega))
          have KRS_I91 := gc_row_fr KRS_I72 (fun k => (g90 41 k).resolve_left (by omega))
          have KRC_I91 := gc_RC_fr KRC_I72 (fun k => (g90 41 k).resolve_left (by omega))
          refine gv_callV hD rfl (As := [.inl s1_82]) (st := []) rfl B_39 S_39 rfl (gc_lV6 hws rfl) (Nat.le_of_ble_eq_true rfl) (gz_Ev_mono (d := 4) (by decide) E90) ?_
          show gv_X _ _ (204, [(0, .inr (.inr (some 39)))], [.inl z90], sh, gc_h sh I91 J92 A)
          refine gv_if_ne (t := 209) hD rfl rfl ⟨by omega, by omega⟩ (fun c104 => ?_) (fun c104 => ?_)
          · show gv_X _ _ (209, [(0, .inr (.inr (some 39)))], [], sh, gc_h sh I91 J92 A)
            refine gv_run 1 true hD (pc' := 210) (lv' := [(0, .inr (.inr (some 39)))]) (st' := [.inr (.inr (some 39))]) (h' := gc_h sh I91 J92 A) (C := (True ∧ True)) rfl ⟨trivial, trivial⟩ ?_
            refine gv_get hD rfl rfl S_39 ⟨by decide, B_39⟩ (gc_hA S_39 rfl A_39_10) ?_
            show gv_X _ _ (213, [(0, .inr (.inr (some 39)))], [.inr (.inr (some 41))], sh, gc_h sh I91 J92 A)
            refine gv_run 2 true hD (pc' := 215) (lv' := [(0, .inr (.inr (some 39)))]) (st' := [.inr (.inr (some 39)), .inl 0, .inr (.inr (some 41))]) (h' := gc_h sh I91 J92 A) (C := ((True ∧ True) ∧ True)) rfl ⟨⟨trivial, trivial⟩, trivial⟩ ?_
            refine gv_get hD rfl rfl S_39 ⟨by decide, B_39⟩ (gc_h5 (t := t) S_39 rfl (by omega)) ?_
            show gv_X _ _ (218, [(0, .inr (.inr (some 39)))], [.inr (.inr (some t)), .inl 0, .inr (.inr (some 41))], sh, gc_h sh I91 J92 A)
            refine gv_get hD rfl rfl S_t ⟨by decide, B_t⟩ (gc_hA S_t rfl A_t_7) ?_
            show gv_X _ _ (221, [(0, .inr (.inr (some 39)))], [.inr (.inr (some (t + 10))), .inl 0, .inr (.inr (some 41))], sh, gc_h sh I91 J92 A)
            refine gv_run 1 true hD (pc' := 222) (lv' := [(0, .inr (.inr (some 39)))]) (st' := [.inr (.inr (some 39)), .inr (.inr (some (t + 10))), .inl 0, .inr (.inr (some 41))]) (h' := gc_h sh I91 J92 A) (C := (True ∧ True)) rfl ⟨trivial, trivial⟩ ?_
            refine gv_get hD rfl rfl S_39 ⟨by decide, B_39⟩ (gc_h5 (t := t) S_39 rfl (by omega)) ?_
            show gv_X _ _ (225, [(0, .inr (.inr (some 39)))], [.inr (.inr (some t)), .inr (.inr (some (t + 10))), .inl 0, .inr (.inr (some 41))], sh, gc_h sh I91 J92 A)
            have f105 := (show 0 ≤ I91 t 6 ∧ I91 t 6 ≤ 24 from gc_in hI91 R_t rfl rfl)
            refine gv_get hD rfl rfl S_t ⟨by decide, B_t⟩ (gc_hI S_t rfl) ?_
            show gv_X _ _ (228, [(0, .inr (.inr (some 39)))], [.inl (I91 t 6), .inr (.inr (some (t + 10))), .inl 0, .inr (.inr (some 41))], sh, gc_h sh I91 J92 A)
            refine gv_run 3 true hD (pc' := 233) (lv' := [(0, .inr (.inr (some 39)))]) (st' := [.inl 25, .inl ((I91 t 6) * 25), .inr (.inr (some (t + 10))), .inl 0, .inr (.inr (some 41))]) (h' := gc_h sh I91 J92 A) (C := (((True ∧ True) ∧ True) ∧ True)) rfl ⟨⟨⟨trivial, trivial⟩, trivial⟩, trivial⟩ ?_
            refine gv_copy hD rfl (gc_lC6_263 hws) (Nat.le_of_ble_eq_true rfl) ⟨B_41, B_t_10⟩ S_41 S_t_10 (by decide) ⟨by decide, by decide⟩ ⟨by omega, by omega, by omega⟩ (by omega) (by omega) (fun h => absurd h (by decide)) ?_
            refine gc_cp hI91 S_41 S_t_10 (by decide) (fun j hj => gc_RS_cp KRS_I91 R_t_10 (by omega) (by decide) hj) (fun I107 hI107 p106 q106 => ?_)
            have FI107 := gc_frp (W := fun q j => (q = 39 ∧ j = 3) ∨ (q = 39 ∧ j = 4) ∨ (q = 23 ∧ j = 5) ∨ (q = 23 ∧ j = 6) ∨ (q = 23 ∧ j = 7) ∨ (q = 23 ∧ j = 8) ∨ (q = 1 ∧ j = 17) ∨ (q = 1 ∧ j = 18) ∨ q = 20 ∨ q = 41 ∨ q = (t + 10) ∨ (q = t ∧ j = 6)) (V := fun q j => q = (t + 10) ∧ Int.toNat (((I91 t 6) * 25)) ≤ j ∧ j < Int.toNat (((I91 t 6) * 25)) + Int.toNat 25) FI91 (fun q j h => (Or.inr (Or.inr (Or.inr (Or.inr (Or.inr (Or.inr (Or.inr (Or.inr (Or.inr (Or.inr (Or.inl h.1)))))))))))) p106
            have KLT_I107 := gc_LT_fr KLT_I91 (p106 23 5 (fun h => absurd h.1 (by omega))) (p106 23 6 (fun h => absurd h.1 (by omega))) (p106 23 7 (fun h => absurd h.1 (by omega))) (fun k => p106 24 k (fun h => absurd h.1 (by omega)))
            have KRS_I107 := gc_row_fr KRS_I91 (fun k => p106 41 k (fun h => absurd h.1 (by omega)))
            have KRC_I107 := gc_RC_fr KRC_I91 (fun k => p106 41 k (fun h => absurd h.1 (by omega)))
            have KSC_I107 : gc_sc (t + 10) I107 := gc_sc_cp KSC_I91 KRC_I91 p106 q106 (by omega) (by decide) (by decide)
            have t109 := p106 23 1 (fun h => absurd h.1 (by omega))
            have t110 := p106 23 5 (fun h => absurd h.1 (by omega))
            have t111 := p106 23 6 (fun h => absurd h.1 (by omega))
            have t112 := p106 23 7 (fun h => absurd h.1 (by omega))
            have t113 := p106 1 17 (fun h => absurd h.1 (by omega))
            have t114 := p106 t 6 (fun h => absurd h.1 (by omega))
            have t115 := p106 39 2 (fun h => absurd h.1 (by omega))
            have f116 := (show 0 ≤ I107 23 1 ∧ I107 23 1 ≤ 1000 from gc_in hI107 R_23 rfl rfl)
            have f117 := (show 0 ≤ I107 23 5 ∧ I107 23 5 ≤ 1000 from gc_in hI107 R_23 rfl rfl)
            have f118 := (show 0 ≤ I107 23 6 ∧ I107 23 6 ≤ 1001 from gc_in hI107 R_23 rfl rfl)
            have f119 := (show 0 ≤ I107 23 7 ∧ I107 23 7 ≤ 125 from gc_in hI107 R_23 rfl rfl)
            have f120 := (show 0 ≤ I107 1 17 ∧ I107 1 17 ≤ 12000 from gc_in hI107 R_1 rfl rfl)
            have f121 := (show 0 ≤ I107 t 6 ∧ I107 t 6 ≤ 24 from gc_in hI107 R_t rfl rfl)
            have f122 := (show (-1) ≤ I107 39 2 ∧ I107 39 2 ≤ 999999 from gc_in hI107 R_39 rfl rfl)
            show gv_X _ _ (236, [(0, .inr (.inr (some 39)))], [], sh, gc_h sh I107 J92 A)
            refine gv_run 1 true hD (pc' := 237) (lv' := [(0, .inr (.inr (some 39)))]) (st' := [.inr (.inr (some 39))]) (h' := gc_h sh I107 J92 A) (C := (True ∧ True)) rfl ⟨trivial, trivial⟩ ?_
            refine gv_get hD rfl rfl S_39 ⟨by decide, B_39⟩ (gc_h5 (t := t) S_39 rfl (by omega)) ?_
            show gv_X _ _ (240, [(0, .inr (.inr (some 39)))], [.inr (.inr (some t))], sh, gc_h sh I107 J92 A)
            refine gv_run 1 true hD (pc' := 241) (lv' := [(0, .inr (.inr (some 39)))]) (st' := [.inr (.inr (some t)), .inr (.inr (some t))]) (h' := gc_h sh I107 J92 A) (C := (True ∧ True)) rfl ⟨trivial, trivial⟩ ?_
            have f123 := (show 0 ≤ I107 t 6 ∧ I107 t 6 ≤ 24 from gc_in hI107 R_t rfl rfl)
            refine gv_get hD rfl rfl S_t ⟨by decide, B_t⟩ (gc_hI S_t rfl) ?_
            show gv_X _ _ (244, [(0, .inr (.inr (some 39)))], [.inl (I107 t 6), .inr (.inr (some t))], sh, gc_h sh I107 J92 A)
            refine gv_run 2 true hD (pc' := 246) (lv' := [(0, .inr (.inr (some 39)))]) (st' := [.inl ((I107 t 6) + 1), .inr (.inr (some t))]) (h' := gc_h sh I107 J92 A) (C := ((True ∧ True) ∧ True)) rfl ⟨⟨trivial, trivial⟩, trivial⟩ ?_
            refine gv_put hD rfl rfl S_t ⟨by decide, B_t⟩ rfl trivial ?_
            refine gc_st (k := 6) hI107 S_t rfl R_t (lo := 0) (hi := 24) rfl rfl (by omega) (by omega) (fun I124 hI124 q125 p125 => ?_)
            have FI124 := gc_frs (W := fun q j => (q = 39 ∧ j = 3) ∨ (q = 39 ∧ j = 4) ∨ (q = 23 ∧ j = 5) ∨ (q = 23 ∧ j = 6) ∨ (q = 23 ∧ j = 7) ∨ (q = 23 ∧ j = 8) ∨ (q = 1 ∧ j = 17) ∨ (q = 1 ∧ j = 18) ∨ q = 20 ∨ q = 41 ∨ q = (t + 10) ∨ (q = t ∧ j = 6)) FI107 (Or.inr (Or.inr (Or.inr (Or.inr (Or.inr (Or.inr (Or.inr (Or.inr (Or.inr (Or.inr (Or.inr ⟨rfl, rfl⟩))))))))))) p125
            have t126 := p125 23 1 (fun h => absurd h.1 (by omega))
            have t127 := p125 23 5 (fun h => absurd h.1 (by omega))
            have t128 := p125 23 6 (fun h => absurd h.1 (by omega))
            have t129 := p125 23 7 (fun h => absurd h.1 (by omega))
            have t130 := p125 1 17 (fun h => absurd h.1 (by omega))
            have t131 := p125 39 2 (fun h => absurd h.1 (by omega))
            have f132 := (show 0 ≤ I124 23 1 ∧ I124 23 1 ≤ 1000 from gc_in hI124 R_23 rfl rfl)
            have f133 := (show 0 ≤ I124 23 5 ∧ I124 23 5 ≤ 1000 from gc_in hI124 R_23 rfl rfl)
            have f134 := (show 0 ≤ I124 23 6 ∧ I124 23 6 ≤ 1001 from gc_in hI124 R_23 rfl rfl)
            have f135 := (show 0 ≤ I124 23 7 ∧ I124 23 7 ≤ 125 from gc_in hI124 R_23 rfl rfl)
            have f136 := (show 0 ≤ I124 1 17 ∧ I124 1 17 ≤ 12000 from gc_in hI124 R_1 rfl rfl)
            have f137 := (show 0 ≤ I124 t 6 ∧ I124 t 6 ≤ 24 from gc_in hI124 R_t rfl rfl)
            have f138 := (show (-1) ≤ I124 39 2 ∧ I124 39 2 ≤ 999999 from gc_in hI124 R_39 rfl rfl)
            have KLT_I124 := gc_LT_fr KLT_I107 (p125 23 5 (fun h => absurd h.1 (by omega))) (p125 23 6 (fun h => absurd h.1 (by omega))) (p125 23 7 (fun h => absurd h.1 (by omega))) (fun k => p125 24 k (fun h => absurd h.1 (by omega)))
            have KSC_I124 := gc_sc_fr KSC_I107 (fun k => p125 (t + 10) k (fun h => absurd h.1 (by omega)))
            have KRS_I124 := gc_row_fr KRS_I107 (fun k => p125 41 k (fun h => absurd h.1 (by omega)))
            have KRC_I124 := gc_RC_fr KRC_I107 (fun k => p125 41 k (fun h => absurd h.1 (by omega)))
            show gv_X _ _ (249, [(0, .inr (.inr (some 39)))], [], sh, gc_h sh I124 J92 A)
            refine gv_run 1 true hD (pc' := 250) (lv' := [(0, .inr (.inr (some 39)))]) (st' := [.inl 1]) (h' := gc_h sh I124 J92 A) (C := (True ∧ True)) rfl ⟨trivial, trivial⟩ ?_
            exact gv_zret hD rfl (by omega) ⟨I124, J92, rfl, hI124, FI124, FJ92, KLT_I124, KSC_I124, ⟨_, rfl, by omega⟩⟩
          · show gv_X _ _ (207, [(0, .inr (.inr (some 39)))], [], sh, gc_h sh I91 J92 A)
            refine gv_run 1 true hD (pc' := 208) (lv' := [(0, .inr (.inr (some 39)))]) (st' := [.inl 0]) (h' := gc_h sh I91 J92 A) (C := (True ∧ True)) rfl ⟨trivial, trivial⟩ ?_
            exact gv_zret hD rfl (by omega) ⟨I91, J92, rfl, hI91, FI91, FJ92, KLT_I91, KSC_I91, ⟨_, rfl, by omega⟩⟩
        refine gv_run 2 true hD (pc' := 185) (lv' := [(0, .inr (.inr (some 39)))]) (st' := [.inr (.inr (some 39)), .inr (.inr (some 39))]) (h' := gc_h sh I72 J73 A) (C := ((True ∧ True) ∧ True)) rfl ⟨⟨trivial, trivial⟩, trivial⟩ ?_
        refine gv_get hD rfl rfl S_39 ⟨by decide, B_39⟩ (gc_h5 (t := t) S_39 rfl (by omega)) ?_
        show gv_X _ _ (188, [(0, .inr (.inr (some 39)))], [.inr (.inr (some t)), .inr (.inr (some 39))], sh, gc_h sh I72 J73 A)
        have f139 := (show 0 ≤ I72 t 6 ∧ I72 t 6 ≤ 24 from gc_in hI72 R_t rfl rfl)
        refine gv_get hD rfl rfl S_t ⟨by decide, B_t⟩ (gc_hI S_t rfl) ?_
        show gv_X _ _ (191, [(0, .inr (.inr (some 39)))], [.inl (I72 t 6), .inr (.inr (some 39))], sh, gc_h sh I72 J73 A)
        refine gv_run 1 true hD (pc' := 193) (lv' := [(0, .inr (.inr (some 39)))]) (st' := [.inl 24, .inl (I72 t 6), .inr (.inr (some 39))]) (h' := gc_h sh I72 J73 A) (C := (True ∧ True)) rfl ⟨trivial, trivial⟩ ?_
        refine gv_icmp_lt (t := 200) hD rfl rfl ⟨⟨by omega, by omega⟩, ⟨by omega, by omega⟩⟩ (fun c140 => ?_) (fun c140 => ?_)
        · show gv_X _ _ (200, [(0, .inr (.inr (some 39)))], [.inr (.inr (some 39))], sh, gc_h sh I72 J73 A)
          refine gv_run 1 true hD (pc' := 201) (lv' := [(0, .inr (.inr (some 39)))]) (st' := [.inl 0, .inr (.inr (some 39))]) (h' := gc_h sh I72 J73 A) (C := (True ∧ True)) rfl ⟨trivial, trivial⟩ ?_
          exact L201 0 (by omega)
        · show gv_X _ _ (196, [(0, .inr (.inr (some 39)))], [.inr (.inr (some 39))], sh, gc_h sh I72 J73 A)
          refine gv_run 2 true hD (pc' := 201) (lv' := [(0, .inr (.inr (some 39)))]) (st' := [.inl 1, .inr (.inr (some 39))]) (h' := gc_h sh I72 J73 A) (C := ((True ∧ True) ∧ True)) rfl ⟨⟨trivial, trivial⟩, trivial⟩ ?_
          exact L201 1 (by omega)
      refine gv_run 2 true hD (pc' := 77) (lv' := [(0, .inr (.inr (some 39)))]) (st' := [.inl 0, .inr (.inr (some 39))]) (h' := gc_h sh I8 J9 A) (C := ((True ∧ True) ∧ True)) rfl ⟨⟨trivial, trivial⟩, trivial⟩ ?_
      obtain ⟨r141, h141, E141, P141⟩ := d_X6_readContext (ws0 := ws0) (tb := tb) hws htb sh ro I8 J9 A hI8  t 0 hb  h_t G_t  ⟨by omega, by omega⟩ (by omega) (by omega) (by omega) (by omega) (by omega) (by omega) (by omega) (by omega) KLT_I8 KRS_I8 KRC_I8
      obtain ⟨I142, J143, rfl, hI142, g141, k141, KLT_I142, KRS_I142, KRC_I142, ⟨z141, rfl, q141⟩⟩ := P141
      have FI142 := gc_frc (W := fun q j => (q = 39 ∧ j = 3) ∨ (q = 39 ∧ j = 4) ∨ (q = 23 ∧ j = 5) ∨ (q = 23 ∧ j = 6) ∨ (q = 23 ∧ j = 7) ∨ (q = 23 ∧ j = 8) ∨ (q = 1 ∧ j = 17) ∨ (q = 1 ∧ j = 18) ∨ q = 20 ∨ q = 41 ∨ q = (t + 10) ∨ (q = t ∧ j = 6)) (V := fun q j => (q = 39 ∧ j = 3) ∨ (q = 39 ∧ j = 4) ∨ (q = 23 ∧ j = 5) ∨ (q = 23 ∧ j = 6) ∨ (q = 23 ∧ j = 7) ∨ (q = 23 ∧ j = 8) ∨ (q = 1 ∧ j = 17) ∨ (q = 1 ∧ j = 18) ∨ q = 20 ∨ (q = 41 ∧ j = (Int.toNat 0)) ∨ (q = 41 ∧ j = (Int.toNat (0 + 1))) ∨ (q = 41 ∧ j = (Int.toNat (0 + 2)))) FI8 (fun q j h => (h.elim (fun h => (Or.inl h)) (fun h => (h.elim (fun h => (Or.inr (Or.inl h))) (fun h => (h.elim (fun h => (Or.inr (Or.inr (Or.inl h)))) (fun h => (h.elim (fun h => (Or.inr (Or.inr (Or.inr (Or.inl h))))) (fun h => (h.elim (fun h => (Or.inr (Or.inr (Or.inr (Or.inr (Or.inl h)))))) (fun h => (h.elim (fun h => (Or.inr (Or.inr (Or.inr (Or.inr (Or.inr (Or.inl h))))))) (fun h => (h.elim (fun h => (Or.inr (Or.inr (Or.inr (Or.inr (Or.inr (Or.inr (Or.inl h)))))))) (fun h => (h.elim (fun h => (Or.inr (Or.inr (Or.inr (Or.inr (Or.inr (Or.inr (Or.inr (Or.inl h))))))))) (fun h => (h.elim (fun h => (Or.inr (Or.inr (Or.inr (Or.inr (Or.inr (Or.inr (Or.inr (Or.inr (Or.inl h)))))))))) (fun h => (h.elim (fun h => (Or.inr (Or.inr (Or.inr (Or.inr (Or.inr (Or.inr (Or.inr (Or.inr (Or.inr (Or.inl h.1))))))))))) (fun h => (h.elim (fun h => (Or.inr (Or.inr (Or.inr (Or.inr (Or.inr (Or.inr (Or.inr (Or.inr (Or.inr (Or.inl h.1))))))))))) (fun h => (Or.inr (Or.inr (Or.inr (Or.inr (Or.inr (Or.inr (Or.inr (Or.inr (Or.inr (Or.inl h.1))))))))))))))))))))))))))))))))) g141
      have FJ143 := gc_frc (W := fun q j => (q = 23 ∧ j = 9)) (V := fun q j => (q = 23 ∧ j = 9)) FJ9 (fun q j h => h) k141
      have t144 := (g141 23 1).resolve_left (by omega)
      have t145 := (g141 t 6).resolve_left (by omega)
      have t146 := (g141 39 2).resolve_left (by omega)
      have f147 := (show 0 ≤ I142 23 1 ∧ I142 23 1 ≤ 1000 from gc_in hI142 R_23 rfl rfl)
      have f148 := (show 0 ≤ I142 23 5 ∧ I142 23 5 ≤ 1000 from gc_in hI142 R_23 rfl rfl)
      have f149 := (show 0 ≤ I142 23 6 ∧ I142 23 6 ≤ 1001 from gc_in hI142 R_23 rfl rfl)
      have f150 := (show 0 ≤ I142 23 7 ∧ I142 23 7 ≤ 125 from gc_in hI142 R_23 rfl rfl)
      have f151 := (show 0 ≤ I142 1 17 ∧ I142 1 17 ≤ 12000 from gc_in hI142 R_1 rfl rfl)
      have f152 := (show 0 ≤ I142 t 6 ∧ I142 t 6 ≤ 24 from gc_in hI142 R_t rfl rfl)
      have f153 := (show (-1) ≤ I142 39 2 ∧ I142 39 2 ≤ 999999 from gc_in hI142 R_39 rfl rfl)
      have KSC_I142 := gc_sc_fr KSC_I8 (fun k => (g141 (t + 10) k).resolve_left (by omega))
      refine gv_callV hD rfl (As := [.inl 0]) (st := []) rfl B_39 S_39 rfl (gc_lV6 hws rfl) (Nat.le_of_ble_eq_true rfl) (gz_Ev_mono (d := 4) (by decide) E141) ?_
      show gv_X _ _ (80, [(0, .inr (.inr (some 39)))], [.inl z141], sh, gc_h sh I142 J143 A)
      refine gv_if_eq (t := 100) hD rfl rfl ⟨by omega, by omega⟩ (fun c154 => ?_) (fun c154 => ?_)
      · show gv_X _ _ (100, [(0, .inr (.inr (some 39)))], [], sh, gc_h sh I142 J143 A)
        refine gv_pick [] rfl ?_
        exact L100 I142 J143 hI142 FI142 FJ143 KLT_I142 KSC_I142 (by omega)
      · show gv_X _ _ (83, [(0, .inr (.inr (some 39)))], [], sh, gc_h sh I142 J143 A)
        refine gv_run 2 true hD (pc' := 86) (lv' := [(0, .inr (.inr (some 39)))]) (st' := [.inl 62, .inr (.inr (some 39))]) (h' := gc_h sh I142 J143 A) (C := ((True ∧ True) ∧ True)) rfl ⟨⟨trivial, trivial⟩, trivial⟩ ?_
        obtain ⟨r155, h155, E155, P155⟩ := d_X6_take (ws0 := ws0) (tb := tb) hws htb sh ro I142 J143 A hI142  62 hb   ⟨by omega, by omega⟩ (by omega) (by omega) (by omega) (by omega) (by omega) (by omega) KLT_I142
        obtain ⟨I156, J157, rfl, hI156, g155, k155, KLT_I156, ⟨z155, rfl, q155⟩⟩ := P155
        have FI156 := gc_frc (W := fun q j => (q = 39 ∧ j = 3) ∨ (q = 39 ∧ j = 4) ∨ (q = 23 ∧ j = 5) ∨ (q = 23 ∧ j = 6) ∨ (q = 23 ∧ j = 7) ∨ (q = 23 ∧ j = 8) ∨ (q = 1 ∧ j = 17) ∨ (q = 1 ∧ j = 18) ∨ q = 20 ∨ q = 41 ∨ q = (t + 10) ∨ (q = t ∧ j = 6)) (V := fun q j => (q = 39 ∧ j = 3) ∨ (q = 39 ∧ j = 4) ∨ (q = 23 ∧ j = 5) ∨ (q = 23 ∧ j = 6) ∨ (q = 23 ∧ j = 7) ∨ (q = 23 ∧ j = 8)) FI142 (fun q j h => (h.elim (fun h => (Or.inl h)) (fun h => (h.elim (fun h => (Or.inr (Or.inl h))) (fun h => (h.elim (fun h => (Or.inr (Or.inr (Or.inl h)))) (fun h => (h.elim (fun h => (Or.inr (Or.inr (Or.inr (Or.inl h))))) (fun h => (h.elim (fun h => (Or.inr (Or.inr (Or.inr (Or.inr (Or.inl h)))))) (fun h => (Or.inr (Or.inr (Or.inr (Or.inr (Or.inr (Or.inl h))))))))))))))))) g155
        have FJ157 := gc_frc (W := fun q j => (q = 23 ∧ j = 9)) (V := fun q j => (q = 23 ∧ j = 9)) FJ143 (fun q j h => h) k155
        have t158 := (g155 23 1).resolve_left (by omega)
        have t159 := (g155 1 17).resolve_left (by omega)
        have t160 := (g155 t 6).resolve_left (by omega)
        have t161 := (g155 39 2).resolve_left (by omega)
        have f162 := (show 0 ≤ I156 23 1 ∧ I156 23 1 ≤ 1000 from gc_in hI156 R_23 rfl rfl)
        have f163 := (show 0 ≤ I156 23 5 ∧ I156 23 5 ≤ 1000 from gc_in hI156 R_23 rfl rfl)
        have f164 := (show 0 ≤ I156 23 6 ∧ I156 23 6 ≤ 1001 from gc_in hI156 R_23 rfl rfl)
        have f165 := (show 0 ≤ I156 23 7 ∧ I156 23 7 ≤ 125 from gc_in hI156 R_23 rfl rfl)
        have f166 := (show 0 ≤ I156 1 17 ∧ I156 1 17 ≤ 12000 from gc_in hI156 R_1 rfl rfl)
        have f167 := (show 0 ≤ I156 t 6 ∧ I156 t 6 ≤ 24 from gc_in hI156 R_t rfl rfl)
        have f168 := (show (-1) ≤ I156 39 2 ∧ I156 39 2 ≤ 999999 from gc_in hI156 R_39 rfl rfl)
        have KSC_I156 := gc_sc_fr KSC_I142 (fun k => (g155 (t + 10) k).resolve_left (by omega))
        have KRS_I156 := gc_row_fr KRS_I142 (fun k => (g155 41 k).resolve_left (by omega))
        have KRC_I156 := gc_RC_fr KRC_I142 (fun k => (g155 41 k).resolve_left (by omega))
        refine gv_callV hD rfl (As := [.inl 62]) (st := []) rfl B_39 S_39 rfl (gc_lV6 hws rfl) (Nat.le_of_ble_eq_true rfl) (gz_Ev_mono (d := 3) (by decide) E155) ?_
        show gv_X _ _ (89, [(0, .inr (.inr (some 39)))], [.inl z155], sh, gc_h sh I156 J157 A)
        refine gv_if_eq (t := 100) hD rfl rfl ⟨by omega, by omega⟩ (fun c169 => ?_) (fun c169 => ?_)
        · show gv_X _ _ (100, [(0, .inr (.inr (some 39)))], [], sh, gc_h sh I156 J157 A)
          refine gv_pick [] rfl ?_
          exact L100 I156 J157 hI156 FI156 FJ157 KLT_I156 KSC_I156 (by omega)
        · show gv_X _ _ (92, [(0, .inr (.inr (some 39)))], [], sh, gc_h sh I156 J157 A)
          refine gv_run 2 true hD (pc' := 94) (lv' := [(0, .inr (.inr (some 39)))]) (st' := [.inl 3, .inr (.inr (some 39))]) (h' := gc_h sh I156 J157 A) (C := ((True ∧ True) ∧ True)) rfl ⟨⟨trivial, trivial⟩, trivial⟩ ?_
          obtain ⟨r170, h170, E170, P170⟩ := d_X6_need (ws0 := ws0) (tb := tb) hws htb sh ro I156 J157 A hI156  3 hb   ⟨by omega, by omega⟩  
          obtain ⟨I171, J172, rfl, hI171, g170, k170, ⟨z170, rfl, q170⟩⟩ := P170
          have FI171 := gc_frc (W := fun q j => (q = 39 ∧ j = 3) ∨ (q = 39 ∧ j = 4) ∨ (q = 23 ∧ j = 5) ∨ (q = 23 ∧ j = 6) ∨ (q = 23 ∧ j = 7) ∨ (q = 23 ∧ j = 8) ∨ (q = 1 ∧ j = 17) ∨ (q = 1 ∧ j = 18) ∨ q = 20 ∨ q = 41 ∨ q = (t + 10) ∨ (q = t ∧ j = 6)) (V := fun q j => (q = 39 ∧ j = 3) ∨ (q = 39 ∧ j = 4)) FI156 (fun q j h => (h.elim (fun h => (Or.inl h)) (fun h => (Or.inr (Or.inl h))))) g170
          have t173 := (g170 23 1).resolve_left (by omega)
          have t174 := (g170 23 5).resolve_left (by omega)
          have t175 := (g170 23 6).resolve_left (by omega)
          have t176 := (g170 23 7).resolve_left (by omega)
          have t177 := (g170 1 17).resolve_left (by omega)
          have t178 := (g170 t 6).resolve_left (by omega)
          have t179 := (g170 39 2).resolve_left (by omega)
          have f180 := (show 0 ≤ I171 23 1 ∧ I171 23 1 ≤ 1000 from gc_in hI171 R_23 rfl rfl)
          have f181 := (show 0 ≤ I171 23 5 ∧ I171 23 5 ≤ 1000 from gc_in hI171 R_23 rfl rfl)
          have f182 := (show 0 ≤ I171 23 6 ∧ I171 23 6 ≤ 1001 from gc_in hI171 R_23 rfl rfl)
          have f183 := (show 0 ≤ I171 23 7 ∧ I171 23 7 ≤ 125 from gc_in hI171 R_23 rfl rfl)
          have f184 := (show 0 ≤ I171 1 17 ∧ I171 1 17 ≤ 12000 from gc_in hI171 R_1 rfl rfl)
          have f185 := (show 0 ≤ I171 t 6 ∧ I171 t 6 ≤ 24 from gc_in hI171 R_t rfl rfl)
          have f186 := (show (-1) ≤ I171 39 2 ∧ I171 39 2 ≤ 999999 from gc_in hI171 R_39 rfl rfl)
          obtain rfl : J157 = J172 := funext fun q => funext fun j => ((k170 q j).resolve_left id).symm
          have KLT_I171 := gc_LT_fr KLT_I156 ((g170 23 5).resolve_left (by omega)) ((g170 23 6).resolve_left (by omega)) ((g170 23 7).resolve_left (by omega)) (fun k => (g170 24 k).resolve_left (by omega))
          have KSC_I171 := gc_sc_fr KSC_I156 (fun k => (g170 (t + 10) k).resolve_left (by omega))
          have KRS_I171 := gc_row_fr KRS_I156 (fun k => (g170 41 k).resolve_left (by omega))
          have KRC_I171 := gc_RC_fr KRC_I156 (fun k => (g170 41 k).resolve_left (by omega))
          refine gv_callV hD rfl (As := [.inl 3]) (st := []) rfl B_39 S_39 rfl (gc_lV6 hws rfl) (Nat.le_of_ble_eq_true rfl) (gz_Ev_mono (d := 2) (by decide) E170) ?_
          show gv_X _ _ (97, [(0, .inr (.inr (some 39)))], [.inl z170], sh, gc_h sh I171 J157 A)
          refine gv_if_ne (t := 102) hD rfl rfl ⟨by omega, by omega⟩ (fun c187 => ?_) (fun c187 => ?_)
          · show gv_X _ _ (102, [(0, .inr (.inr (some 39)))], [], sh, gc_h sh I171 J157 A)
            refine gv_run 1 true hD (pc' := 103) (lv' := [(0, .inr (.inr (some 39)))]) (st' := [.inr (.inr (some 39))]) (h' := gc_h sh I171 J157 A) (C := (True ∧ True)) rfl ⟨trivial, trivial⟩ ?_
            refine gv_get hD rfl rfl S_39 ⟨by decide, B_39⟩ (gc_hA S_39 rfl A_39_10) ?_
            show gv_X _ _ (106, [(0, .inr (.inr (some 39)))], [.inr (.inr (some 41))], sh, gc_h sh I171 J157 A)
            refine gv_run 2 true hD (pc' := 108) (lv' := [(0, .inr (.inr (some 39)))]) (st' := [.inr (.inr (some 39)), .inl 3, .inr (.inr (some 41))]) (h' := gc_h sh I171 J157 A) (C := ((True ∧ True) ∧ True)) rfl ⟨⟨trivial, trivial⟩, trivial⟩ ?_
            obtain ⟨r188, h188, E188, P188⟩ := d_X6_keepLetters (ws0 := ws0) (tb := tb) hws htb sh ro I171 J157 A hI171   hb    (by omega) (by omega) (by omega) (by omega) (by omega) (by omega) KLT_I171
            obtain ⟨I189, J190, rfl, hI189, g188, k188, KLT_I189, ⟨z188, rfl, q188⟩⟩ := P188
            have FI189 := gc_frc (W := fun q j => (q = 39 ∧ j = 3) ∨ (q = 39 ∧ j = 4) ∨ (q = 23 ∧ j = 5) ∨ (q = 23 ∧ j = 6) ∨ (q = 23 ∧ j = 7) ∨ (q = 23 ∧ j = 8) ∨ (q = 1 ∧ j = 17) ∨ (q = 1 ∧ j = 18) ∨ q = 20 ∨ q = 41 ∨ q = (t + 10) ∨ (q = t ∧ j = 6)) (V := fun q j => (q = 1 ∧ j = 17) ∨ (q = 1 ∧ j = 18) ∨ q = 20) FI171 (fun q j h => (h.elim (fun h => (Or.inr (Or.inr (Or.inr (Or.inr (Or.inr (Or.inr (Or.inl h)))))))) (fun h => (h.elim (fun h => (Or.inr (Or.inr (Or.inr (Or.inr (Or.inr (Or.inr (Or.inr (Or.inl h))))))))) (fun h => (Or.inr (Or.inr (Or.inr (Or.inr (Or.inr (Or.inr (Or.inr (Or.inr (Or.inl h)))))))))))))) g188
            have t191 := (g188 23 1).resolve_left (by omega)
            have t192 := (g188 23 5).resolve_left (by omega)
            have t193 := (g188 23 6).resolve_left (by omega)
            have t194 := (g188 23 7).resolve_left (by omega)
            have t195 := (g188 t 6).resolve_left (by omega)
            have t196 := (g188 39 2).resolve_left (by omega)
            have f197 := (show 0 ≤ I189 23 1 ∧ I189 23 1 ≤ 1000 from gc_in hI189 R_23 rfl rfl)
            have f198 := (show 0 ≤ I189 23 5 ∧ I189 23 5 ≤ 1000 from gc_in hI189 R_23 rfl rfl)
            have f199 := (show 0 ≤ I189 23 6 ∧ I189 23 6 ≤ 1001 from gc_in hI189 R_23 rfl rfl)
            have f200 := (show 0 ≤ I189 23 7 ∧ I189 23 7 ≤ 125 from gc_in hI189 R_23 rfl rfl)
            have f201 := (show 0 ≤ I189 1 17 ∧ I189 1 17 ≤ 12000 from gc_in hI189 R_1 rfl rfl)
            have f202 := (show 0 ≤ I189 t 6 ∧ I189 t 6 ≤ 24 from gc_in hI189 R_t rfl rfl)
            have f203 := (show (-1) ≤ I189 39 2 ∧ I189 39 2 ≤ 999999 from gc_in hI189 R_39 rfl rfl)
            obtain rfl : J157 = J190 := funext fun q => funext fun j => ((k188 q j).resolve_left id).symm
            have KSC_I189 := gc_sc_fr KSC_I171 (fun k => (g188 (t + 10) k).resolve_left (by omega))
            have KRS_I189 := gc_row_fr KRS_I171 (fun k => (g188 41 k).resolve_left (by omega))
            have KRC_I189 := gc_RC_fr KRC_I171 (fun k => (g188 41 k).resolve_left (by omega))
            refine gv_callV hD rfl (As := []) (st := [.inl 3, .inr (.inr (some 41))]) rfl B_39 S_39 rfl (gc_lV6 hws rfl) (Nat.le_of_ble_eq_true rfl) (gz_Ev_mono (d := 2) (by decide) E188) ?_
            show gv_X _ _ (111, [(0, .inr (.inr (some 39)))], [.inl z188, .inl 3, .inr (.inr (some 41))], sh, gc_h sh I189 J157 A)
            refine gv_iast hD rfl S_41 ⟨by decide, B_41⟩ ⟨by omega, by omega⟩ ?_
            refine gc_st (k := 3) hI189 S_41 rfl R_41 (lo := (-2147483648)) (hi := 2147483647) rfl rfl (by omega) (by omega) (fun I204 hI204 q205 p205 => ?_)
            have FI204 := gc_frs (W := fun q j => (q = 39 ∧ j = 3) ∨ (q = 39 ∧ j = 4) ∨ (q = 23 ∧ j = 5) ∨ (q = 23 ∧ j = 6) ∨ (q = 23 ∧ j = 7) ∨ (q = 23 ∧ j = 8) ∨ (q = 1 ∧ j = 17) ∨ (q = 1 ∧ j = 18) ∨ q = 20 ∨ q = 41 ∨ q = (t + 10) ∨ (q = t ∧ j = 6)) FI189 (Or.inr (Or.inr (Or.inr (Or.inr (Or.inr (Or.inr (Or.inr (Or.inr (Or.inr (Or.inl rfl)))))))))) p205
            have t206 := p205 23 1 (fun h => absurd h.1 (by omega))
            have t207 := p205 23 5 (fun h => absurd h.1 (by omega))
            have t208 := p205 23 6 (fun h => absurd h.1 (by omega))
            have t209 := p205 23 7 (fun h => absurd h.1 (by omega))
            have t210 := p205 1 17 (fun h => absurd h.1 (by omega))
            have t211 := p205 t 6 (fun h => absurd h.1 (by omega))
            have t212 := p205 39 2 (fun h => absurd h.1 (by omega))
            have f213 := (show 0 ≤ I204 23 1 ∧ I204 23 1 ≤ 1000 from gc_in hI204 R_23 rfl rfl)
            have f214 := (show 0 ≤ I204 23 5 ∧ I204 23 5 ≤ 1000 from gc_in hI204 R_23 rfl rfl)
            have f215 := (show 0 ≤ I204 23 6 ∧ I204 23 6 ≤ 1001 from gc_in hI204 R_23 rfl rfl)
            have f216 := (show 0 ≤ I204 23 7 ∧ I204 23 7 ≤ 125 from gc_in hI204 R_23 rfl rfl)
            have f217 := (show 0 ≤ I204 1 17 ∧ I204 1 17 ≤ 12000 from gc_in hI204 R_1 rfl rfl)
            have f218 := (show 0 ≤ I204 t 6 ∧ I204 t 6 ≤ 24 from gc_in hI204 R_t rfl rfl)
            have f219 := (show (-1) ≤ I204 39 2 ∧ I204 39 2 ≤ 999999 from gc_in hI204 R_39 rfl rfl)
            have KLT_I204 := gc_LT_fr KLT_I189 (p205 23 5 (fun h => absurd h.1 (by omega))) (p205 23 6 (fun h => absurd h.1 (by omega))) (p205 23 7 (fun h => absurd h.1 (by omega))) (fun k => p205 24 k (fun h => absurd h.1 (by omega)))
            have KSC_I204 := gc_sc_fr KSC_I189 (fun k => p205 (t + 10) k (fun h => absurd h.1 (by omega)))
            have KRS_I204 := gc_row_st KRS_I189 p205 q205 (by unfold gc_fS; omega)
            have KRC_I204 : gc_RC I204 := gc_RC_st KRC_I189 p205 (by omega)
            show gv_X _ _ (112, [(0, .inr (.inr (some 39)))], [], sh, gc_h sh I204 J157 A)
            refine gv_run 1 true hD (pc' := 113) (lv' := [(0, .inr (.inr (some 39)))]) (st' := [.inr (.inr (some 39))]) (h' := gc_h sh I204 J157 A) (C := (True ∧ True)) rfl ⟨trivial, trivial⟩ ?_
            refine gv_get hD rfl rfl S_39 ⟨by decide, B_39⟩ (gc_hA S_39 rfl A_39_10) ?_
            show gv_X _ _ (116, [(0, .inr (.inr (some 39)))], [.inr (.inr (some 41))], sh, gc_h sh I204 J157 A)
            refine gv_run 2 true hD (pc' := 118) (lv' := [(0, .inr (.inr (some 39)))]) (st' := [.inr (.inr (some 39)), .inl 4, .inr (.inr (some 41))]) (h' := gc_h sh I204 J157 A) (C := ((True ∧ True) ∧ True)) rfl ⟨⟨trivial, trivial⟩, trivial⟩ ?_
            refine gv_get hD rfl rfl S_39 ⟨by decide, B_39⟩ (gc_hA S_39 rfl A_39_1) ?_
            show gv_X _ _ (121, [(0, .inr (.inr (some 39)))], [.inr (.inr (some 23)), .inl 4, .inr (.inr (some 41))], sh, gc_h sh I204 J157 A)
            obtain ⟨r220, h220, E220, P220⟩ := d_X9_lettersSize (ws0 := ws0) (tb := tb) hws htb sh ro I204 J157 A hI204 23  (gc_b23 hb)     
            obtain ⟨rfl, ⟨z220, rfl, q220⟩⟩ := P220
            refine gv_callV hD rfl (As := []) (st := [.inl 4, .inr (.inr (some 41))]) rfl B_23 S_23 rfl (gc_lV6 hws rfl) (Nat.le_of_ble_eq_true rfl) (gz_Ev_mono (d := 1) (by decide) E220) ?_
            show gv_X _ _ (124, [(0, .inr (.inr (some 39)))], [.inl z220, .inl 4, .inr (.inr (some 41))], sh, gc_h sh I204 J157 A)
            refine gv_iast hD rfl S_41 ⟨by decide, B_41⟩ ⟨by omega, by omega⟩ ?_
            refine gc_st (k := 4) hI204 S_41 rfl R_41 (lo := (-2147483648)) (hi := 2147483647) rfl rfl (by omega) (by omega) (fun I221 hI221 q222 p222 => ?_)
            have FI221 := gc_frs (W := fun q j => (q = 39 ∧ j = 3) ∨ (q = 39 ∧ j = 4) ∨ (q = 23 ∧ j = 5) ∨ (q = 23 ∧ j = 6) ∨ (q = 23 ∧ j = 7) ∨ (q = 23 ∧ j = 8) ∨ (q = 1 ∧ j = 17) ∨ (q = 1 ∧ j = 18) ∨ q = 20 ∨ q = 41 ∨ q = (t + 10) ∨ (q = t ∧ j = 6)) FI204 (Or.inr (Or.inr (Or.inr (Or.inr (Or.inr (Or.inr (Or.inr (Or.inr (Or.inr (Or.inl rfl)))))))))) p222
            have t223 := p222 23 1 (fun h => absurd h.1 (by omega))
            have t224 := p222 23 5 (fun h => absurd h.1 (by omega))
            have t225 := p222 23 6 (fun h => absurd h.1 (by omega))
            have t226 := p222 23 7 (fun h => absurd h.1 (by omega))
            have t227 := p222 1 17 (fun h => absurd h.1 (by omega))
            have t228 := p222 t 6 (fun h => absurd h.1 (by omega))
            have t229 := p222 39 2 (fun h => absurd h.1 (by omega))
            have f230 := (show 0 ≤ I221 23 1 ∧ I221 23 1 ≤ 1000 from gc_in hI221 R_23 rfl rfl)
            have f231 := (show 0 ≤ I221 23 5 ∧ I221 23 5 ≤ 1000 from gc_in hI221 R_23 rfl rfl)
            have f232 := (show 0 ≤ I221 23 6 ∧ I221 23 6 ≤ 1001 from gc_in hI221 R_23 rfl rfl)
            have f233 := (show 0 ≤ I221 23 7 ∧ I221 23 7 ≤ 125 from gc_in hI221 R_23 rfl rfl)
            have f234 := (show 0 ≤ I221 1 17 ∧ I221 1 17 ≤ 12000 from gc_in hI221 R_1 rfl rfl)
            have f235 := (show 0 ≤ I221 t 6 ∧ I221 t 6 ≤ 24 from gc_in hI221 R_t rfl rfl)
            have f236 := (show (-1) ≤ I221 39 2 ∧ I221 39 2 ≤ 999999 from gc_in hI221 R_39 rfl rfl)
            have KLT_I221 := gc_LT_fr KLT_I204 (p222 23 5 (fun h => absurd h.1 (by omega))) (p222 23 6 (fun h => absurd h.1 (by omega))) (p222 23 7 (fun h => absurd h.1 (by omega))) (fun k => p222 24 k (fun h => absurd h.1 (by omega)))
            have KSC_I221 := gc_sc_fr KSC_I204 (fun k => p222 (t + 10) k (fun h => absurd h.1 (by omega)))
            have KRS_I221 := gc_row_st KRS_I204 p222 q222 (by unfold gc_fS; omega)
            have KRC_I221 : gc_RC I221 := gc_RC_st KRC_I204 p222 (by omega)
            show gv_X _ _ (125, [(0, .inr (.inr (some 39)))], [], sh, gc_h sh I221 J157 A)
            refine gv_run 1 true hD (pc' := 126) (lv' := [(0, .inr (.inr (some 39)))]) (st' := [.inr (.inr (some 39))]) (h' := gc_h sh I221 J157 A) (C := (True ∧ True)) rfl ⟨trivial, trivial⟩ ?_
            refine gv_get hD rfl rfl S_39 ⟨by decide, B_39⟩ (gc_hA S_39 rfl A_39_1) ?_
            show gv_X _ _ (129, [(0, .inr (.inr (some 39)))], [.inr (.inr (some 23))], sh, gc_h sh I221 J157 A)
            obtain ⟨r237, h237, E237, P237⟩ := d_X9_advance (ws0 := ws0) (tb := tb) hws htb sh ro I221 J157 A hI221 23  (gc_b23 hb)    (by omega) 
            obtain ⟨I238, J239, rfl, hI238, g237, k237, ⟨rfl, q237⟩⟩ := P237
            have FI238 := gc_frc (W := fun q j => (q = 39 ∧ j = 3) ∨ (q = 39 ∧ j = 4) ∨ (q = 23 ∧ j = 5) ∨ (q = 23 ∧ j = 6) ∨ (q = 23 ∧ j = 7) ∨ (q = 23 ∧ j = 8) ∨ (q = 1 ∧ j = 17) ∨ (q = 1 ∧ j = 18) ∨ q = 20 ∨ q = 41 ∨ q = (t + 10) ∨ (q = t ∧ j = 6)) (V := fun q j => (q = 23 ∧ j = 5) ∨ (q = 23 ∧ j = 6) ∨ (q = 23 ∧ j = 7) ∨ (q = 23 ∧ j = 8)) FI221 (fun q j h => (h.elim (fun h => (Or.inr (Or.inr (Or.inl h)))) (fun h => (h.elim (fun h => (Or.inr (Or.inr (Or.inr (Or.inl h))))) (fun h => (h.elim (fun h => (Or.inr (Or.inr (Or.inr (Or.inr (Or.inl h)))))) (fun h => (Or.inr (Or.inr (Or.inr (Or.inr (Or.inr (Or.inl h))))))))))))) g237
            have FJ239 := gc_frc (W := fun q j => (q = 23 ∧ j = 9)) (V := fun q j => (q = 23 ∧ j = 9)) FJ157 (fun q j h => h) k237
            have t240 := (g237 23 1).resolve_left (by omega)
            have t241 := (g237 1 17).resolve_left (by omega)
            have t242 := (g237 t 6).resolve_left (by omega)
            have t243 := (g237 39 2).resolve_left (by omega)
            have f244 := (show 0 ≤ I238 23 1 ∧ I238 23 1 ≤ 1000 from gc_in hI238 R_23 rfl rfl)
            have f245 := (show 0 ≤ I238 23 5 ∧ I238 23 5 ≤ 1000 from gc_in hI238 R_23 rfl rfl)
            have f246 := (show 0 ≤ I238 23 6 ∧ I238 23 6 ≤ 1001 from gc_in hI238 R_23 rfl rfl)
            have f247 := (show 0 ≤ I238 23 7 ∧ I238 23 7 ≤ 125 from gc_in hI238 R_23 rfl rfl)
            have f248 := (show 0 ≤ I238 1 17 ∧ I238 1 17 ≤ 12000 from gc_in hI238 R_1 rfl rfl)
            have f249 := (show 0 ≤ I238 t 6 ∧ I238 t 6 ≤ 24 from gc_in hI238 R_t rfl rfl)
            have f250 := (show (-1) ≤ I238 39 2 ∧ I238 39 2 ≤ 999999 from gc_in hI238 R_39 rfl rfl)
            have KLT_I238 : gc_LT I238 := q237.2.2.2.2.2.2.2
            have KSC_I238 := gc_sc_fr KSC_I221 (fun k => (g237 (t + 10) k).resolve_left (by omega))
            have KRS_I238 := gc_row_fr KRS_I221 (fun k => (g237 41 k).resolve_left (by omega))
            have KRC_I238 := gc_RC_fr KRC_I221 (fun k => (g237 41 k).resolve_left (by omega))
            refine gv_callV hD rfl (As := []) (st := []) rfl B_23 S_23 rfl (gc_lV6 hws rfl) (Nat.le_of_ble_eq_true rfl) (gz_Ev_mono (d := 2) (by decide) E237) ?_
            show gv_X _ _ (132, [(0, .inr (.inr (some 39)))], [], sh, gc_h sh I238 J239 A)
            refine gv_run 1 true hD (pc' := 133) (lv' := [(0, .inr (.inr (some 39)))]) (st' := [.inr (.inr (some 39))]) (h' := gc_h sh I238 J239 A) (C := (True ∧ True)) rfl ⟨trivial, trivial⟩ ?_
            refine gv_get hD rfl rfl S_39 ⟨by decide, B_39⟩ (gc_hA S_39 rfl A_39_1) ?_
            show gv_X _ _ (136, [(0, .inr (.inr (some 39)))], [.inr (.inr (some 23))], sh, gc_h sh I238 J239 A)
            have f251 := (show 0 ≤ I238 23 7 ∧ I238 23 7 ≤ 125 from gc_in hI238 R_23 rfl rfl)
            refine gv_get hD rfl rfl S_23 ⟨by decide, B_23⟩ (gc_hI S_23 rfl) ?_
            show gv_X _ _ (139, [(0, .inr (.inr (some 39)))], [.inl (I238 23 7)], sh, gc_h sh I238 J239 A)
            refine gv_run 1 true hD (pc' := 141) (lv' := [(0, .inr (.inr (some 39)))]) (st' := [.inl 47, .inl (I238 23 7)]) (h' := gc_h sh I238 J239 A) (C := (True ∧ True)) rfl ⟨trivial, trivial⟩ ?_
            refine gv_icmp_ne (t := 183) hD rfl rfl ⟨⟨by omega, by omega⟩, ⟨by omega, by omega⟩⟩ (fun c252 => ?_) (fun c252 => ?_)
            · show gv_X _ _ (183, [(0, .inr (.inr (some 39)))], [], sh, gc_h sh I238 J239 A)
              exact L183 I238 J239 hI238 FI238 FJ239 KLT_I238 KSC_I238 KRS_I238 KRC_I238 (by omega)
            · show gv_X _ _ (144, [(0, .inr (.inr (some 39)))], [], sh, gc_h sh I238 J239 A)
              refine gv_run 1 true hD (pc' := 145) (lv' := [(0, .inr (.inr (some 39)))]) (st' := [.inr (.inr (some 39))]) (h' := gc_h sh I238 J239 A) (C := (True ∧ True)) rfl ⟨trivial, trivial⟩ ?_
              refine gv_get hD rfl rfl S_39 ⟨by decide, B_39⟩ (gc_hA S_39 rfl A_39_1) ?_
              show gv_X _ _ (148, [(0, .inr (.inr (some 39)))], [.inr (.inr (some 23))], sh, gc_h sh I238 J239 A)
              obtain ⟨r253, h253, E253, P253⟩ := d_X9_advance (ws0 := ws0) (tb := tb) hws htb sh ro I238 J239 A hI238 23  (gc_b23 hb)    (by omega) 
              obtain ⟨I254, J255, rfl, hI254, g253, k253, ⟨rfl, q253⟩⟩ := P253
              have FI254 := gc_frc (W := fun q j => (q = 39 ∧ j = 3) ∨ (q = 39 ∧ j = 4) ∨ (q = 23 ∧ j = 5) ∨ (q = 23 ∧ j = 6) ∨ (q = 23 ∧ j = 7) ∨ (q = 23 ∧ j = 8) ∨ (q = 1 ∧ j = 17) ∨ (q = 1 ∧ j = 18) ∨ q = 20 ∨ q = 41 ∨ q = (t + 10) ∨ (q = t ∧ j = 6)) (V := fun q j => (q = 23 ∧ j = 5) ∨ (q = 23 ∧ j = 6) ∨ (q = 23 ∧ j = 7) ∨ (q = 23 ∧ j = 8)) FI238 (fun q j h => (h.elim (fun h => (Or.inr (Or.inr (Or.inl h)))) (fun h => (h.elim (fun h => (Or.inr (Or.inr (Or.inr (Or.inl h))))) (fun h => (h.elim (fun h => (Or.inr (Or.inr (Or.inr (Or.inr (Or.inl h)))))) (fun h => (Or.inr (Or.inr (Or.inr (Or.inr (Or.inr (Or.inl h))))))))))))) g253
              have FJ255 := gc_frc (W := fun q j => (q = 23 ∧ j = 9)) (V := fun q j => (q = 23 ∧ j = 9)) FJ239 (fun q j h => h) k253
              have t256 := (g253 23 1).resolve_left (by omega)
              have t257 := (g253 1 17).resolve_left (by omega)
              have t258 := (g253 t 6).resolve_left (by omega)
              have t259 := (g253 39 2).resolve_left (by omega)
              have f260 := (show 0 ≤ I254 23 1 ∧ I254 23 1 ≤ 1000 from gc_in hI254 R_23 rfl rfl)
              have f261 := (show 0 ≤ I254 23 5 ∧ I254 23 5 ≤ 1000 from gc_in hI254 R_23 rfl rfl)
              have f262 := (show 0 ≤ I254 23 6 ∧ I254 23 6 ≤ 1001 from gc_in hI254 R_23 rfl rfl)
              have f263 := (show 0 ≤ I254 23 7 ∧ I254 23 7 ≤ 125 from gc_in hI254 R_23 rfl rfl)
              have f264 := (show 0 ≤ I254 1 17 ∧ I254 1 17 ≤ 12000 from gc_in hI254 R_1 rfl rfl)
              have f265 := (show 0 ≤ I254 t 6 ∧ I254 t 6 ≤ 24 from gc_in hI254 R_t rfl rfl)
              have f266 := (show (-1) ≤ I254 39 2 ∧ I254 39 2 ≤ 999999 from gc_in hI254 R_39 rfl rfl)
              have KLT_I254 : gc_LT I254 := q253.2.2.2.2.2.2.2
              have KSC_I254 := gc_sc_fr KSC_I238 (fun k => (g253 (t + 10) k).resolve_left (by omega))
              have KRS_I254 := gc_row_fr KRS_I238 (fun k => (g253 41 k).resolve_left (by omega))
              have KRC_I254 := gc_RC_fr KRC_I238 (fun k => (g253 41 k).resolve_left (by omega))
              refine gv_callV hD rfl (As := []) (st := []) rfl B_23 S_23 rfl (gc_lV6 hws rfl) (Nat.le_of_ble_eq_true rfl) (gz_Ev_mono (d := 2) (by decide) E253) ?_
              show gv_X _ _ (151, [(0, .inr (.inr (some 39)))], [], sh, gc_h sh I254 J255 A)
              refine gv_run 3 true hD (pc' := 155) (lv' := [(0, .inr (.inr (some 39)))]) (st' := [.inl 7, .inl 5, .inr (.inr (some 39))]) (h' := gc_h sh I254 J255 A) (C := (((True ∧ True) ∧ True) ∧ True)) rfl ⟨⟨⟨trivial, trivial⟩, trivial⟩, trivial⟩ ?_
              obtain ⟨r267, h267, E267, P267⟩ := d_X6_readSide (ws0 := ws0) (tb := tb) hws htb sh ro I254 J255 A hI254  t 5 7 hb  h_t G_t  ⟨by omega, by omega⟩ ⟨by omega, by omega⟩ (by omega) (by omega) (by omega) (by omega) (by omega) (by omega) (by omega) (by omega) KLT_I254 KRS_I254 KRC_I254
              obtain ⟨I268, J269, rfl, hI268, g267, k267, KLT_I268, KRS_I268, KRC_I268, ⟨z267, rfl, q267⟩⟩ := P267
              have FI268 := gc_frc (W := fun q j => (q = 39 ∧ j = 3) ∨ (q = 39 ∧ j = 4) ∨ (q = 23 ∧ j = 5) ∨ (q = 23 ∧ j = 6) ∨ (q = 23 ∧ j = 7) ∨ (q = 23 ∧ j = 8) ∨ (q = 1 ∧ j = 17) ∨ (q = 1 ∧ j = 18) ∨ q = 20 ∨ q = 41 ∨ q = (t + 10) ∨ (q = t ∧ j = 6)) (V := fun q j => (q = 39 ∧ j = 3) ∨ (q = 39 ∧ j = 4) ∨ (q = 23 ∧ j = 5) ∨ (q = 23 ∧ j = 6) ∨ (q = 23 ∧ j = 7) ∨ (q = 23 ∧ j = 8) ∨ (q = 1 ∧ j = 17) ∨ (q = 1 ∧ j = 18) ∨ q = 20 ∨ q = 41) FI254 (fun q j h => (h.elim (fun h => (Or.inl h)) (fun h => (h.elim (fun h => (Or.inr (Or.inl h))) (fun h => (h.elim (fun h => (Or.inr (Or.inr (Or.inl h)))) (fun h => (h.elim (fun h => (Or.inr (Or.inr (Or.inr (Or.inl h))))) (fun h => (h.elim (fun h => (Or.inr (Or.inr (Or.inr (Or.inr (Or.inl h)))))) (fun h => (h.elim (fun h => (Or.inr (Or.inr (Or.inr (Or.inr (Or.inr (Or.inl h))))))) (fun h => (h.elim (fun h => (Or.inr (Or.inr (Or.inr (Or.inr (Or.inr (Or.inr (Or.inl h)))))))) (fun h => (h.elim (fun h => (Or.inr (Or.inr (Or.inr (Or.inr (Or.inr (Or.inr (Or.inr (Or.inl h))))))))) (fun h => (h.elim (fun h => (Or.inr (Or.inr (Or.inr (Or.inr (Or.inr (Or.inr (Or.inr (Or.inr (Or.inl h)))))))))) (fun h => (Or.inr (Or.inr (Or.inr (Or.inr (Or.inr (Or.inr (Or.inr (Or.inr (Or.inr (Or.inl h))))))))))))))))))))))))))))) g267
              have FJ269 := gc_frc (W := fun q j => (q = 23 ∧ j = 9)) (V := fun q j => (q = 23 ∧ j = 9)) FJ255 (fun q j h => h) k267
              have t270 := (g267 23 1).resolve_left (by omega)
              have t271 := (g267 t 6).resolve_left (by omega)
              have t272 := (g267 39 2).resolve_left (by omega)
              have f273 := (show 0 ≤ I268 23 1 ∧ I268 23 1 ≤ 1000 from gc_in hI268 R_23 rfl rfl)
              have f274 := (show 0 ≤ I268 23 5 ∧ I268 23 5 ≤ 1000 from gc_in hI268 R_23 rfl rfl)
              have f275 := (show 0 ≤ I268 23 6 ∧ I268 23 6 ≤ 1001 from gc_in hI268 R_23 rfl rfl)
              have f276 := (show 0 ≤ I268 23 7 ∧ I268 23 7 ≤ 125 from gc_in hI268 R_23 rfl rfl)
              have f277 := (show 0 ≤ I268 1 17 ∧ I268 1 17 ≤ 12000 from gc_in hI268 R_1 rfl rfl)
              have f278 := (show 0 ≤ I268 t 6 ∧ I268 t 6 ≤ 24 from gc_in hI268 R_t rfl rfl)
              have f279 := (show (-1) ≤ I268 39 2 ∧ I268 39 2 ≤ 999999 from gc_in hI268 R_39 rfl rfl)
              have KSC_I268 := gc_sc_fr KSC_I254 (fun k => (g267 (t + 10) k).resolve_left (by omega))
              refine gv_callV hD rfl (As := [.inl 5, .inl 7]) (st := []) rfl B_39 S_39 rfl (gc_lV6 hws rfl) (Nat.le_of_ble_eq_true rfl) (gz_Ev_mono (d := 5) (by decide) E267) ?_
              show gv_X _ _ (158, [(0, .inr (.inr (some 39)))], [.inl z267], sh, gc_h sh I268 J269 A)
              refine gv_if_eq (t := 181) hD rfl rfl ⟨by omega, by omega⟩ (fun c280 => ?_) (fun c280 => ?_)
              · show gv_X _ _ (181, [(0, .inr (.inr (some 39)))], [], sh, gc_h sh I268 J269 A)
                refine gv_pick [] rfl ?_
                exact L181 I268 J269 hI268 FI268 FJ269 KLT_I268 KSC_I268 (by omega)
              · show gv_X _ _ (161, [(0, .inr (.inr (some 39)))], [], sh, gc_h sh I268 J269 A)
                refine gv_run 2 true hD (pc' := 164) (lv' := [(0, .inr (.inr (some 39)))]) (st' := [.inl 95, .inr (.inr (some 39))]) (h' := gc_h sh I268 J269 A) (C := ((True ∧ True) ∧ True)) rfl ⟨⟨trivial, trivial⟩, trivial⟩ ?_
                obtain ⟨r281, h281, E281, P281⟩ := d_X6_take (ws0 := ws0) (tb := tb) hws htb sh ro I268 J269 A hI268  95 hb   ⟨by omega, by omega⟩ (by omega) (by omega) (by omega) (by omega) (by omega) (by omega) KLT_I268
                obtain ⟨I282, J283, rfl, hI282, g281, k281, KLT_I282, ⟨z281, rfl, q281⟩⟩ := P281
                have FI282 := gc_frc (W := fun q j => (q = 39 ∧ j = 3) ∨ (q = 39 ∧ j = 4) ∨ (q = 23 ∧ j = 5) ∨ (q = 23 ∧ j = 6) ∨ (q = 23 ∧ j = 7) ∨ (q = 23 ∧ j = 8) ∨ (q = 1 ∧ j = 17) ∨ (q = 1 ∧ j = 18) ∨ q = 20 ∨ q = 41 ∨ q = (t + 10) ∨ (q = t ∧ j = 6)) (V := fun q j => (q = 39 ∧ j = 3) ∨ (q = 39 ∧ j = 4) ∨ (q = 23 ∧ j = 5) ∨ (q = 23 ∧ j = 6) ∨ (q = 23 ∧ j = 7) ∨ (q = 23 ∧ j = 8)) FI268 (fun q j h => (h.elim (fun h => (Or.inl h)) (fun h => (h.elim (fun h => (Or.inr (Or.inl h))) (fun h => (h.elim (fun h => (Or.inr (Or.inr (Or.inl h)))) (fun h => (h.elim (fun h => (Or.inr (Or.inr (Or.inr (Or.inl h))))) (fun h => (h.elim (fun h => (Or.inr (Or.inr (Or.inr (Or.inr (Or.inl h)))))) (fun h => (Or.inr (Or.inr (Or.inr (Or.inr (Or.inr (Or.inl h))))))))))))))))) g281
                have FJ283 := gc_frc (W := fun q j => (q = 23 ∧ j = 9)) (V := fun q j => (q = 23 ∧ j = 9)) FJ269 (fun q j h => h) k281
                have t284 := (g281 23 1).resolve_left (by omega)
                have t285 := (g281 1 17).resolve_left (by omega)
                have t286 := (g281 t 6).resolve_left (by omega)
                have t287 := (g281 39 2).resolve_left (by omega)
                have f288 := (show 0 ≤ I282 23 1 ∧ I282 23 1 ≤ 1000 from gc_in hI282 R_23 rfl rfl)
                have f289 := (show 0 ≤ I282 23 5 ∧ I282 23 5 ≤ 1000 from gc_in hI282 R_23 rfl rfl)
                have f290 := (show 0 ≤ I282 23 6 ∧ I282 23 6 ≤ 1001 from gc_in hI282 R_23 rfl rfl)
                have f291 := (show 0 ≤ I282 23 7 ∧ I282 23 7 ≤ 125 from gc_in hI282 R_23 rfl rfl)
                have f292 := (show 0 ≤ I282 1 17 ∧ I282 1 17 ≤ 12000 from gc_in hI282 R_1 rfl rfl)
                have f293 := (show 0 ≤ I282 t 6 ∧ I282 t 6 ≤ 24 from gc_in hI282 R_t rfl rfl)
                have f294 := (show (-1) ≤ I282 39 2 ∧ I282 39 2 ≤ 999999 from gc_in hI282 R_39 rfl rfl)
                have KSC_I282 := gc_sc_fr KSC_I268 (fun k => (g281 (t + 10) k).resolve_left (by omega))
                have KRS_I282 := gc_row_fr KRS_I268 (fun k => (g281 41 k).resolve_left (by omega))
                have KRC_I282 := gc_RC_fr KRC_I268 (fun k => (g281 41 k).resolve_left (by omega))
                refine gv_callV hD rfl (As := [.inl 95]) (st := []) rfl B_39 S_39 rfl (gc_lV6 hws rfl) (Nat.le_of_ble_eq_true rfl) (gz_Ev_mono (d := 3) (by decide) E281) ?_
                show gv_X _ _ (167, [(0, .inr (.inr (some 39)))], [.inl z281], sh, gc_h sh I282 J283 A)
                refine gv_if_eq (t := 181) hD rfl rfl ⟨by omega, by omega⟩ (fun c295 => ?_) (fun c295 => ?_)
                · show gv_X _ _ (181, [(0, .inr (.inr (some 39)))], [], sh, gc_h sh I282 J283 A)
                  refine gv_pick [] rfl ?_
                  exact L181 I282 J283 hI282 FI282 FJ283 KLT_I282 KSC_I282 (by omega)
                · show gv_X _ _ (170, [(0, .inr (.inr (some 39)))], [], sh, gc_h sh I282 J283 A)
                  refine gv_run 3 true hD (pc' := 175) (lv' := [(0, .inr (.inr (some 39)))]) (st' := [.inl 16, .inl 6, .inr (.inr (some 39))]) (h' := gc_h sh I282 J283 A) (C := (((True ∧ True) ∧ True) ∧ True)) rfl ⟨⟨⟨trivial, trivial⟩, trivial⟩, trivial⟩ ?_
                  obtain ⟨r296, h296, E296, P296⟩ := d_X6_readSide (ws0 := ws0) (tb := tb) hws htb sh ro I282 J283 A hI282  t 6 16 hb  h_t G_t  ⟨by omega, by omega⟩ ⟨by omega, by omega⟩ (by omega) (by omega) (by omega) (by omega) (by omega) (by omega) (by omega) (by omega) KLT_I282 KRS_I282 KRC_I282
                  obtain ⟨I297, J298, rfl, hI297, g296, k296, KLT_I297, KRS_I297, KRC_I297, ⟨z296, rfl, q296⟩⟩ := P296
                  have FI297 := gc_frc (W := fun q j => (q = 39 ∧ j = 3) ∨ (q = 39 ∧ j = 4) ∨ (q = 23 ∧ j = 5) ∨ (q = 23 ∧ j = 6) ∨ (q = 23 ∧ j = 7) ∨ (q = 23 ∧ j = 8) ∨ (q = 1 ∧ j = 17) ∨ (q = 1 ∧ j = 18) ∨ q = 20 ∨ q = 41 ∨ q = (t + 10) ∨ (q = t ∧ j = 6)) (V := fun q j => (q = 39 ∧ j = 3) ∨ (q = 39 ∧ j = 4) ∨ (q = 23 ∧ j = 5) ∨ (q = 23 ∧ j = 6) ∨ (q = 23 ∧ j = 7) ∨ (q = 23 ∧ j = 8) ∨ (q = 1 ∧ j = 17) ∨ (q = 1 ∧ j = 18) ∨ q = 20 ∨ q = 41) FI282 (fun q j h => (h.elim (fun h => (Or.inl h)) (fun h => (h.elim (fun h => (Or.inr (Or.inl h))) (fun h => (h.elim (fun h => (Or.inr (Or.inr (Or.inl h)))) (fun h => (h.elim (fun h => (Or.inr (Or.inr (Or.inr (Or.inl h))))) (fun h => (h.elim (fun h => (Or.inr (Or.inr (Or.inr (Or.inr (Or.inl h)))))) (fun h => (h.elim (fun h => (Or.inr (Or.inr (Or.inr (Or.inr (Or.inr (Or.inl h))))))) (fun h => (h.elim (fun h => (Or.inr (Or.inr (Or.inr (Or.inr (Or.inr (Or.inr (Or.inl h)))))))) (fun h => (h.elim (fun h => (Or.inr (Or.inr (Or.inr (Or.inr (Or.inr (Or.inr (Or.inr (Or.inl h))))))))) (fun h => (h.elim (fun h => (Or.inr (Or.inr (Or.inr (Or.inr (Or.inr (Or.inr (Or.inr (Or.inr (Or.inl h)))))))))) (fun h => (Or.inr (Or.inr (Or.inr (Or.inr (Or.inr (Or.inr (Or.inr (Or.inr (Or.inr (Or.inl h))))))))))))))))))))))))))))) g296
                  have FJ298 := gc_frc (W := fun q j => (q = 23 ∧ j = 9)) (V := fun q j => (q = 23 ∧ j = 9)) FJ283 (fun q j h => h) k296
                  have t299 := (g296 23 1).resolve_left (by omega)
                  have t300 := (g296 t 6).resolve_left (by omega)
                  have t301 := (g296 39 2).resolve_left (by omega)
                  have f302 := (show 0 ≤ I297 23 1 ∧ I297 23 1 ≤ 1000 from gc_in hI297 R_23 rfl rfl)
                  have f303 := (show 0 ≤ I297 23 5 ∧ I297 23 5 ≤ 1000 from gc_in hI297 R_23 rfl rfl)
                  have f304 := (show 0 ≤ I297 23 6 ∧ I297 23 6 ≤ 1001 from gc_in hI297 R_23 rfl rfl)
                  have f305 := (show 0 ≤ I297 23 7 ∧ I297 23 7 ≤ 125 from gc_in hI297 R_23 rfl rfl)
                  have f306 := (show 0 ≤ I297 1 17 ∧ I297 1 17 ≤ 12000 from gc_in hI297 R_1 rfl rfl)
                  have f307 := (show 0 ≤ I297 t 6 ∧ I297 t 6 ≤ 24 from gc_in hI297 R_t rfl rfl)
                  have f308 := (show (-1) ≤ I297 39 2 ∧ I297 39 2 ≤ 999999 from gc_in hI297 R_39 rfl rfl)
                  have KSC_I297 := gc_sc_fr KSC_I282 (fun k => (g296 (t + 10) k).resolve_left (by omega))
                  refine gv_callV hD rfl (As := [.inl 6, .inl 16]) (st := []) rfl B_39 S_39 rfl (gc_lV6 hws rfl) (Nat.le_of_ble_eq_true rfl) (gz_Ev_mono (d := 5) (by decide) E296) ?_
                  show gv_X _ _ (178, [(0, .inr (.inr (some 39)))], [.inl z296], sh, gc_h sh I297 J298 A)
                  refine gv_if_ne (t := 183) hD rfl rfl ⟨by omega, by omega⟩ (fun c309 => ?_) (fun c309 => ?_)
                  · show gv_X _ _ (183, [(0, .inr (.inr (some 39)))], [], sh, gc_h sh I297 J298 A)
                    exact L183 I297 J298 hI297 FI297 FJ298 KLT_I297 KSC_I297 KRS_I297 KRC_I297 (by omega)
                  · show gv_X _ _ (181, [(0, .inr (.inr (some 39)))], [], sh, gc_h sh I297 J298 A)
                    refine gv_pick [] rfl ?_
                    exact L181 I297 J298 hI297 FI297 FJ298 KLT_I297 KSC_I297 (by omega)
          · show gv_X _ _ (100, [(0, .inr (.inr (some 39)))], [], sh, gc_h sh I171 J157 A)
            refine gv_pick [] rfl ?_
            exact L100 I171 J157 hI171 FI171 FJ157 KLT_I171 KSC_I171 (by omega)
    refine gv_run 1 true hD (pc' := 30) (lv' := [(0, .inr (.inr (some 39)))]) (st' := [.inr (.inr (some 39))]) (h' := gc_h sh I8 J9 A) (C := (True ∧ True)) rfl ⟨trivial, trivial⟩ ?_
    refine gv_get hD rfl rfl S_39 ⟨by decide, B_39⟩ (gc_hA S_39 rfl A_39_1) ?_
    show gv_X _ _ (33, [(0, .inr (.inr (some 39)))], [.inr (.inr (some 23))], sh, gc_h sh I8 J9 A)
    have f310 := (show 0 ≤ I8 23 7 ∧ I8 23 7 ≤ 125 from gc_in hI8 R_23 rfl rfl)
    refine gv_get hD rfl rfl S_23 ⟨by decide, B_23⟩ (gc_hI S_23 rfl) ?_
    show gv_X _ _ (36, [(0, .inr (.inr (some 39)))], [.inl (I8 23 7)], sh, gc_h sh I8 J9 A)
    refine gv_run 1 true hD (pc' := 37) (lv' := [(0, .inr (.inr (some 39)))]) (st' := [.inl 3, .inl (I8 23 7)]) (h' := gc_h sh I8 J9 A) (C := (True ∧ True)) rfl ⟨trivial, trivial⟩ ?_
    refine gv_icmp_ne (t := 75) hD rfl rfl ⟨⟨by omega, by omega⟩, ⟨by omega, by omega⟩⟩ (fun c311 => ?_) (fun c311 => ?_)
    · show gv_X _ _ (75, [(0, .inr (.inr (some 39)))], [], sh, gc_h sh I8 J9 A)
      exact L75 (by omega)
    · show gv_X _ _ (40, [(0, .inr (.inr (some 39)))], [], sh, gc_h sh I8 J9 A)
      refine gv_run 1 true hD (pc' := 41) (lv' := [(0, .inr (.inr (some 39)))]) (st' := [.inr (.inr (some 39))]) (h' := gc_h sh I8 J9 A) (C := (True ∧ True)) rfl ⟨trivial, trivial⟩ ?_
      refine gv_get hD rfl rfl S_39 ⟨by decide, B_39⟩ (gc_hA S_39 rfl A_39_1) ?_
      show gv_X _ _ (44, [(0, .inr (.inr (some 39)))], [.inr (.inr (some 23))], sh, gc_h sh I8 J9 A)
      obtain ⟨r312, h312, E312, P312⟩ := d_X9_lettersSize (ws0 := ws0) (tb := tb) hws htb sh ro I8 J9 A hI8 23  (gc_b23 hb)     
      obtain ⟨rfl, ⟨z312, rfl, q312⟩⟩ := P312
      refine gv_callV hD rfl (As := []) (st := []) rfl B_23 S_23 rfl (gc_lV6 hws rfl) (Nat.le_of_ble_eq_true rfl) (gz_Ev_mono (d := 1) (by decide) E312) ?_
      show gv_X _ _ (47, [(0, .inr (.inr (some 39)))], [.inl z312], sh, gc_h sh I8 J9 A)
      refine gv_run 1 true hD (pc' := 48) (lv' := [(0, .inr (.inr (some 39)))]) (st' := [.inl 1, .inl z312]) (h' := gc_h sh I8 J9 A) (C := (True ∧ True)) rfl ⟨trivial, trivial⟩ ?_
      refine gv_icmp_lt (t := 62) hD rfl rfl ⟨⟨by omega, by omega⟩, ⟨by omega, by omega⟩⟩ (fun c313 => ?_) (fun c313 => ?_)
      · show gv_X _ _ (62, [(0, .inr (.inr (some 39)))], [], sh, gc_h sh I8 J9 A)
        exact L62 (by omega)
      · show gv_X _ _ (51, [(0, .inr (.inr (some 39)))], [], sh, gc_h sh I8 J9 A)
        refine gv_run 1 true hD (pc' := 52) (lv' := [(0, .inr (.inr (some 39)))]) (st' := [.inr (.inr (some 39))]) (h' := gc_h sh I8 J9 A) (C := (True ∧ True)) rfl ⟨trivial, trivial⟩ ?_
        refine gv_get hD rfl rfl S_39 ⟨by decide, B_39⟩ (gc_hA S_39 rfl A_39_1) ?_
        show gv_X _ _ (55, [(0, .inr (.inr (some 39)))], [.inr (.inr (some 23))], sh, gc_h sh I8 J9 A)
        obtain ⟨r314, h314, E314, P314⟩ := d_X9_lettersSize (ws0 := ws0) (tb := tb) hws htb sh ro I8 J9 A hI8 23  (gc_b23 hb)     
        obtain ⟨rfl, ⟨z314, rfl, q314⟩⟩ := P314
        refine gv_callV hD rfl (As := []) (st := []) rfl B_23 S_23 rfl (gc_lV6 hws rfl) (Nat.le_of_ble_eq_true rfl) (gz_Ev_mono (d := 1) (by decide) E314) ?_
        show gv_X _ _ (58, [(0, .inr (.inr (some 39)))], [.inl z314], sh, gc_h sh I8 J9 A)
        refine gv_run 1 true hD (pc' := 59) (lv' := [(0, .inr (.inr (some 39)))]) (st' := [.inl 3, .inl z314]) (h' := gc_h sh I8 J9 A) (C := (True ∧ True)) rfl ⟨trivial, trivial⟩ ?_
        refine gv_icmp_le (t := 75) hD rfl rfl ⟨⟨by omega, by omega⟩, ⟨by omega, by omega⟩⟩ (fun c315 => ?_) (fun c315 => ?_)
        · show gv_X _ _ (75, [(0, .inr (.inr (some 39)))], [], sh, gc_h sh I8 J9 A)
          exact L75 (by omega)
        · show gv_X _ _ (62, [(0, .inr (.inr (some 39)))], [], sh, gc_h sh I8 J9 A)
          exact L62 (by omega)
  refine gv_run 1 true hD (pc' := 1) (lv' := [(0, .inr (.inr (some 39)))]) (st' := [.inr (.inr (some 39))]) (h' := gc_h sh I J A) (C := (True ∧ True)) rfl ⟨trivial, trivial⟩ ?_
  refine gv_get hD rfl rfl S_39 ⟨by decide, B_39⟩ (gc_hA S_39 rfl A_39_10) ?_
  show gv_X _ _ (4, [(0, .inr (.inr (some 39)))], [.inr (.inr (some 41))], sh, gc_h sh I J A)
  refine gv_run 1 true hD (pc' := 5) (lv' := [(0, .inr (.inr (some 39)))]) (st' := [.inl 0, .inr (.inr (some 41))]) (h' := gc_h sh I J A) (C := (True ∧ True)) rfl ⟨trivial, trivial⟩ ?_
  obtain ⟨I317, E316, hI317, g316, q316⟩ := gj_fill (ws0 := ws0) (tb := tb) sh ro I J A hI 41 25 0 S_41 B_41 (by decide) ⟨by omega, by omega⟩ (fun k => by rw [R_41]; exact ⟨by show (-2147483648) ≤ _; omega, by show _ ≤ 2147483647; omega⟩)
  refine gv_callS hD rfl (As := [.inr (.inr (some 41)), .inl 0]) (st := []) rfl (gc_lS6 hws rfl) (Nat.le_of_ble_eq_true rfl) (gz_Ev_mono (d := 1) (by decide) E316) ?_
  have FI317 := gc_frc (W := fun q j => (q = 39 ∧ j = 3) ∨ (q = 39 ∧ j = 4) ∨ (q = 23 ∧ j = 5) ∨ (q = 23 ∧ j = 6) ∨ (q = 23 ∧ j = 7) ∨ (q = 23 ∧ j = 8) ∨ (q = 1 ∧ j = 17) ∨ (q = 1 ∧ j = 18) ∨ q = 20 ∨ q = 41 ∨ q = (t + 10) ∨ (q = t ∧ j = 6)) (V := fun q j => q = 41) FI (fun q j h => (Or.inr (Or.inr (Or.inr (Or.inr (Or.inr (Or.inr (Or.inr (Or.inr (Or.inr (Or.inl h))))))))))) g316
  have KLT_I317 := gc_LT_fr KLT_I ((g316 23 5).resolve_left (by omega)) ((g316 23 6).resolve_left (by omega)) ((g316 23 7).resolve_left (by omega)) (fun k => (g316 24 k).resolve_left (by omega))
  have KSC_I317 := gc_sc_fr KSC_I (fun k => (g316 (t + 10) k).resolve_left (by omega))
  have KRS_I317 : gc_row 41 25 gc_fS I317 := gc_row_fill q316 (fun j => by unfold gc_fS; omega)
  have KRC_I317 : gc_RC I317 := gc_RC_fill q316
  have t319 := (g316 23 1).resolve_left (by omega)
  have t320 := (g316 23 5).resolve_left (by omega)
  have t321 := (g316 23 6).resolve_left (by omega)
  have t322 := (g316 23 7).resolve_left (by omega)
  have t323 := (g316 1 17).resolve_left (by omega)
  have t324 := (g316 t 6).resolve_left (by omega)
  have t325 := (g316 39 2).resolve_left (by omega)
  have f326 := (show 0 ≤ I317 23 1 ∧ I317 23 1 ≤ 1000 from gc_in hI317 R_23 rfl rfl)
  have f327 := (show 0 ≤ I317 23 5 ∧ I317 23 5 ≤ 1000 from gc_in hI317 R_23 rfl rfl)
  have f328 := (show 0 ≤ I317 23 6 ∧ I317 23 6 ≤ 1001 from gc_in hI317 R_23 rfl rfl)
  have f329 := (show 0 ≤ I317 23 7 ∧ I317 23 7 ≤ 125 from gc_in hI317 R_23 rfl rfl)
  have f330 := (show 0 ≤ I317 1 17 ∧ I317 1 17 ≤ 12000 from gc_in hI317 R_1 rfl rfl)
  have f331 := (show 0 ≤ I317 t 6 ∧ I317 t 6 ≤ 24 from gc_in hI317 R_t rfl rfl)
  have f332 := (show (-1) ≤ I317 39 2 ∧ I317 39 2 ≤ 999999 from gc_in hI317 R_39 rfl rfl)
  show gv_X _ _ (8, [(0, .inr (.inr (some 39)))], [], sh, gc_h sh I317 J A)
  refine gv_run 1 true hD (pc' := 9) (lv' := [(0, .inr (.inr (some 39)))]) (st' := [.inr (.inr (some 39))]) (h' := gc_h sh I317 J A) (C := (True ∧ True)) rfl ⟨trivial, trivial⟩ ?_
  refine gv_get hD rfl rfl S_39 ⟨by decide, B_39⟩ (gc_hA S_39 rfl A_39_1) ?_
  show gv_X _ _ (12, [(0, .inr (.inr (some 39)))], [.inr (.inr (some 23))], sh, gc_h sh I317 J A)
  have f333 := (show 0 ≤ I317 23 7 ∧ I317 23 7 ≤ 125 from gc_in hI317 R_23 rfl rfl)
  refine gv_get hD rfl rfl S_23 ⟨by decide, B_23⟩ (gc_hI S_23 rfl) ?_
  show gv_X _ _ (15, [(0, .inr (.inr (some 39)))], [.inl (I317 23 7)], sh, gc_h sh I317 J A)
  refine gv_run 1 true hD (pc' := 16) (lv' := [(0, .inr (.inr (some 39)))]) (st' := [.inl 1, .inl (I317 23 7)]) (h' := gc_h sh I317 J A) (C := (True ∧ True)) rfl ⟨trivial, trivial⟩ ?_
  refine gv_icmp_eq (t := 29) hD rfl rfl ⟨⟨by omega, by omega⟩, ⟨by omega, by omega⟩⟩ (fun c334 => ?_) (fun c334 => ?_)
  · show gv_X _ _ (29, [(0, .inr (.inr (some 39)))], [], sh, gc_h sh I317 J A)
    exact L29 I317 J hI317 FI317 FJ KLT_I317 KSC_I317 KRS_I317 KRC_I317 (by omega)
  · show gv_X _ _ (19, [(0, .inr (.inr (some 39)))], [], sh, gc_h sh I317 J A)
    refine gv_run 2 true hD (pc' := 21) (lv' := [(0, .inr (.inr (some 39)))]) (st' := [.inl 3, .inr (.inr (some 39))]) (h' := gc_h sh I317 J A) (C := ((True ∧ True) ∧ True)) rfl ⟨⟨trivial, trivial⟩, trivial⟩ ?_
    obtain ⟨r335, h335, E335, P335⟩ := d_X6_need (ws0 := ws0) (tb := tb) hws htb sh ro I317 J A hI317  3 hb   ⟨by omega, by omega⟩  
    obtain ⟨I336, J337, rfl, hI336, g335, k335, ⟨z335, rfl, q335⟩⟩ := P335
    have FI336 := gc_frc (W := fun q j => (q = 39 ∧ j = 3) ∨ (q = 39 ∧ j = 4) ∨ (q = 23 ∧ j = 5) ∨ (q = 23 ∧ j = 6) ∨ (q = 23 ∧ j = 7) ∨ (q = 23 ∧ j = 8) ∨ (q = 1 ∧ j = 17) ∨ (q = 1 ∧ j = 18) ∨ q = 20 ∨ q = 41 ∨ q = (t + 10) ∨ (q = t ∧ j = 6)) (V := fun q j => (q = 39 ∧ j = 3) ∨ (q = 39 ∧ j = 4)) FI317 (fun q j h => (h.elim (fun h => (Or.inl h)) (fun h => (Or.inr (Or.inl h))))) g335
    have t338 := (g335 23 1).resolve_left (by omega)
    have t339 := (g335 23 5).resolve_left (by omega)
    have t340 := (g335 23 6).resolve_left (by omega)
    have t341 := (g335 23 7).resolve_left (by omega)
    have t342 := (g335 1 17).resolve_left (by omega)
    have t343 := (g335 t 6).resolve_left (by omega)
    have t344 := (g335 39 2).resolve_left (by omega)
    have f345 := (show 0 ≤ I336 23 1 ∧ I336 23 1 ≤ 1000 from gc_in hI336 R_23 rfl rfl)
    have f346 := (show 0 ≤ I336 23 5 ∧ I336 23 5 ≤ 1000 from gc_in hI336 R_23 rfl rfl)
    have f347 := (show 0 ≤ I336 23 6 ∧ I336 23 6 ≤ 1001 from gc_in hI336 R_23 rfl rfl)
    have f348 := (show 0 ≤ I336 23 7 ∧ I336 23 7 ≤ 125 from gc_in hI336 R_23 rfl rfl)
    have f349 := (show 0 ≤ I336 1 17 ∧ I336 1 17 ≤ 12000 from gc_in hI336 R_1 rfl rfl)
    have f350 := (show 0 ≤ I336 t 6 ∧ I336 t 6 ≤ 24 from gc_in hI336 R_t rfl rfl)
    have f351 := (show (-1) ≤ I336 39 2 ∧ I336 39 2 ≤ 999999 from gc_in hI336 R_39 rfl rfl)
    obtain rfl : J = J337 := funext fun q => funext fun j => ((k335 q j).resolve_left id).symm
    have KLT_I336 := gc_LT_fr KLT_I317 ((g335 23 5).resolve_left (by omega)) ((g335 23 6).resolve_left (by omega)) ((g335 23 7).resolve_left (by omega)) (fun k => (g335 24 k).resolve_left (by omega))
    have KSC_I336 := gc_sc_fr KSC_I317 (fun k => (g335 (t + 10) k).resolve_left (by omega))
    have KRS_I336 := gc_row_fr KRS_I317 (fun k => (g335 41 k).resolve_left (by omega))
    have KRC_I336 := gc_RC_fr KRC_I317 (fun k => (g335 41 k).resolve_left (by omega))
    refine gv_callV hD rfl (As := [.inl 3]) (st := []) rfl B_39 S_39 rfl (gc_lV6 hws rfl) (Nat.le_of_ble_eq_true rfl) (gz_Ev_mono (d := 2) (by decide) E335) ?_
    show gv_X _ _ (24, [(0, .inr (.inr (some 39)))], [.inl z335], sh, gc_h sh I336 J A)
    refine gv_if_ne (t := 29) hD rfl rfl ⟨by omega, by omega⟩ (fun c352 => ?_) (fun c352 => ?_)
    · show gv_X _ _ (29, [(0, .inr (.inr (some 39)))], [], sh, gc_h sh I336 J A)
      exact L29 I336 J hI336 FI336 FJ KLT_I336 KSC_I336 KRS_I336 KRC_I336 (by omega)
    · show gv_X _ _ (27, [(0, .inr (.inr (some 39)))], [], sh, gc_h sh I336 J A)
      refine gv_run 1 true hD (pc' := 28) (lv' := [(0, .inr (.inr (some 39)))]) (st' := [.inl 0]) (h' := gc_h sh I336 J A) (C := (True ∧ True)) rfl ⟨trivial, trivial⟩ ?_
      exact gv_zret hD rfl (by omega) ⟨I336, J, rfl, hI336, FI336, FJ, KLT_I336, KSC_I336, ⟨_, rfl, by omega⟩⟩
