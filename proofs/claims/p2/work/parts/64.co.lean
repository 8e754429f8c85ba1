set_option maxHeartbeats 4000000 in
set_option maxRecDepth 100000 in
theorem d_X6_readValues {ws0 : List Cond} {tb : String → gz_T} (hws : gc_Ws ws0) (htb : gc_tbs tb) (sh : gz_Sh) (ro : Nat → Nat) (I : gr_I) (J : gr_J) (A : gc_A) (hI : gc_Inv ro I) (t : Nat) (a1 : Int) (hb : gc_Base sh ro A) (h_t : gc_isTongue sh ro A t) (G_t : 144 ≤ t) (ha1 : 0 ≤ a1 ∧ a1 ≤ 1) (x0 : I 39 2 = (t : Int)) (KLT_I : gc_LT I) (KTK_I : gc_TK I) : ∃ r h', gz_Ev ws0 tb 3 (yX6_readValues, cX6_readValues, 5, (some .boolean)) [.inr (.inr (some 39)), .inl a1] sh (gc_h sh I J A) r sh h' 0 0 ∧ (∃ (I' : gr_I) (J' : gr_J), h' = gc_h sh I' J' A ∧ gc_Inv ro I' ∧ (∀ q j : Nat, ((q = 39 ∧ j = 3) ∨ (q = 39 ∧ j = 4) ∨ (q = 23 ∧ j = 5) ∨ (q = 23 ∧ j = 6) ∨ (q = 23 ∧ j = 7) ∨ (q = 23 ∧ j = 8) ∨ (q = 39 ∧ j = 6)) ∨ I' q j = I q j) ∧ (∀ q j : Nat, ((q = 23 ∧ j = 9)) ∨ J' q j = J q j) ∧ gc_LT I' ∧ gc_TK I' ∧ (∃ z : Int, r = some (.inl z) ∧ 0 ≤ z ∧ z ≤ 1 ∧ (I' 23 1 = I 23 1) ∧ (I 23 5 ≤ I' 23 5))) := by
  have FI : ∀ q j : Nat, ((q = 39 ∧ j = 3) ∨ (q = 39 ∧ j = 4) ∨ (q = 23 ∧ j = 5) ∨ (q = 23 ∧ j = 6) ∨ (q = 23 ∧ j = 7) ∨ (q = 23 ∧ j = 8) ∨ (q = 39 ∧ j = 6)) ∨ I q j = I q j := fun _ _ => Or.inr rfl
  have FJ : ∀ q j : Nat, ((q = 23 ∧ j = 9)) ∨ J q j = J q j := fun _ _ => Or.inr rfl
  have A_39_1 : A 39 1 = some 23 := gc_bA hb rfl
  have B_23 : 23 < 1000000 := by decide
  have B_39 : 39 < 1000000 := by decide
  have R_23 : ro 23 = 3 := gc_bR hb (by decide) rfl
  have R_39 : ro 39 = 42 := gc_bR hb (by decide) rfl
  have S_23 : sh[23]? = some (false, 9, 10) := gc_bS hb rfl
  have S_39 : sh[39]? = some (false, 6, 19) := gc_bS hb rfl
  obtain ⟨S_t, R_t, B_t, A_t_0, h_t_1, A_t_1, h_t_3, A_t_2, S_t_5, R_t_5, B_t_5, A_t_3, S_t_6, R_t_6, B_t_6, A_t_4, h_t_7, A_t_5, S_t_9, R_t_9, B_t_9, A_t_7, S_t_10, R_t_10, B_t_10, A_t_8, h_t_11, A_t_9, S_t_13, R_t_13, B_t_13, A_t_10, S_t_14, R_t_14, B_t_14, A_t_12, S_t_15, R_t_15, B_t_15, A_t_14, S_t_16, R_t_16, B_t_16, A_t_15, h_t_17⟩ := id h_t
  obtain ⟨S_t_1, R_t_1, B_t_1, A_t_1_0, S_t_1_1, R_t_1_1, B_t_1_1, Q0_t_1, Q1_t_1, Q2_t_1⟩ := id h_t_1
  obtain ⟨S_t_3, R_t_3, B_t_3, A_t_3_0, S_t_3_1, R_t_3_1, B_t_3_1, Q0_t_3, Q1_t_3, Q2_t_3⟩ := id h_t_3
  obtain ⟨S_t_7, R_t_7, B_t_7, A_t_7_0, S_t_7_1, R_t_7_1, B_t_7_1, Q0_t_7, Q1_t_7, Q2_t_7⟩ := id h_t_7
  obtain ⟨S_t_11, R_t_11, B_t_11, A_t_11_0, S_t_11_1, R_t_11_1, B_t_11_1, Q0_t_11, Q1_t_11, Q2_t_11⟩ := id h_t_11
  obtain ⟨S_t_17, R_t_17, B_t_17, A_t_17_0, S_20, R_20, B_20, A_t_17_1, S_t_17_1, R_t_17_1, B_t_17_1, A_t_17_2, S_t_17_2, R_t_17_2, B_t_17_2, A_t_17_3, S_t_17_3, R_t_17_3, B_t_17_3, A_t_17_4, S_t_17_4, R_t_17_4, B_t_17_4, A_t_17_5, S_t_17_5, R_t_17_5, B_t_17_5, S_t_17_6, R_t_17_6, B_t_17_6, S_t_17_7, R_t_17_7, B_t_17_7⟩ := id h_t_17
  have hD : gv_D (gc_E6 ws0 tb 2 (yX6_readValues, cX6_readValues, 5, (some .boolean)) kX6_readValues) := gq_ok oX6_readValues
  refine gc_ev6 (d := 2) (l := kX6_readValues) (Po := fun r h' => (∃ (I' : gr_I) (J' : gr_J), h' = gc_h sh I' J' A ∧ gc_Inv ro I' ∧ (∀ q j : Nat, ((q = 39 ∧ j = 3) ∨ (q = 39 ∧ j = 4) ∨ (q = 23 ∧ j = 5) ∨ (q = 23 ∧ j = 6) ∨ (q = 23 ∧ j = 7) ∨ (q = 23 ∧ j = 8) ∨ (q = 39 ∧ j = 6)) ∨ I' q j = I q j) ∧ (∀ q j : Nat, ((q = 23 ∧ j = 9)) ∨ J' q j = J q j) ∧ gc_LT I' ∧ gc_TK I' ∧ (∃ z : Int, r = some (.inl z) ∧ 0 ≤ z ∧ z ≤ 1 ∧ (I' 23 1 = I 23 1) ∧ (I 23 5 ≤ I' 23 5)))) htb rfl (Nat.le_of_ble_eq_true rfl) ?_
  have t1 := gc_TK_mo KTK_I
  have f2 := (show 0 ≤ I 23 1 ∧ I 23 1 ≤ 1000 from gc_in hI R_23 rfl rfl)
  have f3 := (show 0 ≤ I 23 5 ∧ I 23 5 ≤ 1000 from gc_in hI R_23 rfl rfl)
  have f4 := (show 0 ≤ I 23 6 ∧ I 23 6 ≤ 1001 from gc_in hI R_23 rfl rfl)
  have f5 := (show 0 ≤ I 23 7 ∧ I 23 7 ≤ 125 from gc_in hI R_23 rfl rfl)
  have f6 := (show 0 ≤ I (t + 3) 1 ∧ I (t + 3) 1 ≤ 48 from gc_in hI R_t_3 rfl rfl)
  have f7 := (show (-1) ≤ I 39 2 ∧ I 39 2 ≤ 999999 from gc_in hI R_39 rfl rfl)
  have L7 : ∀ (n9 : Nat) (I8 : gr_I) (J9 : gr_J) (v2_10 : Int), (10 - v2_10).toNat < n9 → gc_Inv ro I8 → (∀ q j : Nat, ((q = 39 ∧ j = 3) ∨ (q = 39 ∧ j = 4) ∨ (q = 23 ∧ j = 5) ∨ (q = 23 ∧ j = 6) ∨ (q = 23 ∧ j = 7) ∨ (q = 23 ∧ j = 8) ∨ (q = 39 ∧ j = 6)) ∨ I8 q j = I q j) → (∀ q j : Nat, ((q = 23 ∧ j = 9)) ∨ J9 q j = J q j) → gc_LT I8 → gc_TK I8 → ((0 ≤ a1 ∧ a1 ≤ 1) ∧ (0 ≤ v2_10 ∧ v2_10 ≤ 9) ∧ (I8 23 1 = I 23 1) ∧ (I 23 5 ≤ I8 23 5) ∧ (I8 39 2 = (t : Int))) → gv_X (gc_E6 ws0 tb 2 (yX6_readValues, cX6_readValues, 5, (some .boolean)) kX6_readValues) (gv_Q cX6_readValues (some .boolean) sh (fun r h' => (∃ (I' : gr_I) (J' : gr_J), h' = gc_h sh I' J' A ∧ gc_Inv ro I' ∧ (∀ q j : Nat, ((q = 39 ∧ j = 3) ∨ (q = 39 ∧ j = 4) ∨ (q = 23 ∧ j = 5) ∨ (q = 23 ∧ j = 6) ∨ (q = 23 ∧ j = 7) ∨ (q = 23 ∧ j = 8) ∨ (q = 39 ∧ j = 6)) ∨ I' q j = I q j) ∧ (∀ q j : Nat, ((q = 23 ∧ j = 9)) ∨ J' q j = J q j) ∧ gc_LT I' ∧ gc_TK I' ∧ (∃ z : Int, r = some (.inl z) ∧ 0 ≤ z ∧ z ≤ 1 ∧ (I' 23 1 = I 23 1) ∧ (I 23 5 ≤ I' 23 5))))) (7, [(0, .inr (.inr (some 39))), (1, .inl a1), (2, .inl v2_10)], [], sh, gc_h sh I8 J9 A) := by
    intro n9
    induction n9 with
    | zero => intro I8 J9 v2_10 hn; omega
    | succ n9 ih7 =>
      intro I8 J9 v2_10 hn hI8 FI8 FJ9 KLT_I8 KTK_I8 m_10
      obtain ⟨ha1_10, hv2_10, e0_10, e1_10, e2_10⟩ := m_10
      have t11 := gc_TK_mo KTK_I8
      have f12 := (show 0 ≤ I8 23 1 ∧ I8 23 1 ≤ 1000 from gc_in hI8 R_23 rfl rfl)
      have f13 := (show 0 ≤ I8 23 5 ∧ I8 23 5 ≤ 1000 from gc_in hI8 R_23 rfl rfl)
      have f14 := (show 0 ≤ I8 23 6 ∧ I8 23 6 ≤ 1001 from gc_in hI8 R_23 rfl rfl)
      have f15 := (show 0 ≤ I8 23 7 ∧ I8 23 7 ≤ 125 from gc_in hI8 R_23 rfl rfl)
      have f16 := (show 0 ≤ I8 (t + 3) 1 ∧ I8 (t + 3) 1 ≤ 48 from gc_in hI8 R_t_3 rfl rfl)
      have f17 := (show (-1) ≤ I8 39 2 ∧ I8 39 2 ≤ 999999 from gc_in hI8 R_39 rfl rfl)
      have L48 : ((0 ≤ a1 ∧ a1 ≤ 1) ∧ (0 ≤ v2_10 ∧ v2_10 ≤ 8) ∧ (I8 23 7 = 1) ∧ (I8 23 1 = I 23 1) ∧ (I 23 5 ≤ I8 23 5) ∧ (I8 39 2 = (t : Int))) → gv_X (gc_E6 ws0 tb 2 (yX6_readValues, cX6_readValues, 5, (some .boolean)) kX6_readValues) (gv_Q cX6_readValues (some .boolean) sh (fun r h' => (∃ (I' : gr_I) (J' : gr_J), h' = gc_h sh I' J' A ∧ gc_Inv ro I' ∧ (∀ q j : Nat, ((q = 39 ∧ j = 3) ∨ (q = 39 ∧ j = 4) ∨ (q = 23 ∧ j = 5) ∨ (q = 23 ∧ j = 6) ∨ (q = 23 ∧ j = 7) ∨ (q = 23 ∧ j = 8) ∨ (q = 39 ∧ j = 6)) ∨ I' q j = I q j) ∧ (∀ q j : Nat, ((q = 23 ∧ j = 9)) ∨ J' q j = J q j) ∧ gc_LT I' ∧ gc_TK I' ∧ (∃ z : Int, r = some (.inl z) ∧ 0 ≤ z ∧ z ≤ 1 ∧ (I' 23 1 = I 23 1) ∧ (I 23 5 ≤ I' 23 5))))) (48, [(0, .inr (.inr (some 39))), (1, .inl a1), (2, .inl v2_10)], [], sh, gc_h sh I8 J9 A) := by
        intro m_18
        obtain ⟨ha1_18, hv2_10_18, e0_18, e1_18, e2_18, e3_18⟩ := m_18
        have t19 := gc_TK_mo KTK_I8
        have f20 := (show 0 ≤ I8 23 1 ∧ I8 23 1 ≤ 1000 from gc_in hI8 R_23 rfl rfl)
        have f21 := (show 0 ≤ I8 23 5 ∧ I8 23 5 ≤ 1000 from gc_in hI8 R_23 rfl rfl)
        have f22 := (show 0 ≤ I8 23 6 ∧ I8 23 6 ≤ 1001 from gc_in hI8 R_23 rfl rfl)
        have f23 := (show 0 ≤ I8 23 7 ∧ I8 23 7 ≤ 125 from gc_in hI8 R_23 rfl rfl)
        have f24 := (show 0 ≤ I8 (t + 3) 1 ∧ I8 (t + 3) 1 ≤ 48 from gc_in hI8 R_t_3 rfl rfl)
        have f25 := (show (-1) ≤ I8 39 2 ∧ I8 39 2 ≤ 999999 from gc_in hI8 R_39 rfl rfl)
        have L86 : ∀ (v3_26 : Int) (s0_26 : Int), ((0 ≤ a1 ∧ a1 ≤ 1) ∧ (0 ≤ v2_10 ∧ v2_10 ≤ 8) ∧ ((-1) ≤ v3_26 ∧ v3_26 ≤ 47) ∧ (0 ≤ s0_26 ∧ s0_26 ≤ 21) ∧ (I8 23 7 = 1) ∧ (I8 23 1 = I 23 1) ∧ (I 23 5 ≤ I8 23 5) ∧ (I8 39 2 = (t : Int))) → gv_X (gc_E6 ws0 tb 2 (yX6_readValues, cX6_readValues, 5, (some .boolean)) kX6_readValues) (gv_Q cX6_readValues (some .boolean) sh (fun r h' => (∃ (I' : gr_I) (J' : gr_J), h' = gc_h sh I' J' A ∧ gc_Inv ro I' ∧ (∀ q j : Nat, ((q = 39 ∧ j = 3) ∨ (q = 39 ∧ j = 4) ∨ (q = 23 ∧ j = 5) ∨ (q = 23 ∧ j = 6) ∨ (q = 23 ∧ j = 7) ∨ (q = 23 ∧ j = 8) ∨ (q = 39 ∧ j = 6)) ∨ I' q j = I q j) ∧ (∀ q j : Nat, ((q = 23 ∧ j = 9)) ∨ J' q j = J q j) ∧ gc_LT I' ∧ gc_TK I' ∧ (∃ z : Int, r = some (.inl z) ∧ 0 ≤ z ∧ z ≤ 1 ∧ (I' 23 1 = I 23 1) ∧ (I 23 5 ≤ I' 23 5))))) (86, [(0, .inr (.inr (some 39))), (1, .inl a1), (2, .inl v2_10), (3, .inl v3_26)], [.inl s0_26], sh, gc_h sh I8 J9 A) := by
          intro v3_26 s0_26 m_26
          obtain ⟨ha1_26, hv2_10_26, hv3_26, hs0_26, e0_26, e1_26, e2_26, e3_26⟩ := m_26
          have t27 := gc_TK_mo KTK_I8
          have f28 := (show 0 ≤ I8 23 1 ∧ I8 23 1 ≤ 1000 from gc_in hI8 R_23 rfl rfl)
          have f29 := (show 0 ≤ I8 23 5 ∧ I8 23 5 ≤ 1000 from gc_in hI8 R_23 rfl rfl)
          have f30 := (show 0 ≤ I8 23 6 ∧ I8 23 6 ≤ 1001 from gc_in hI8 R_23 rfl rfl)
          have f31 := (show 0 ≤ I8 23 7 ∧ I8 23 7 ≤ 125 from gc_in hI8 R_23 rfl rfl)
          have f32 := (show 0 ≤ I8 (t + 3) 1 ∧ I8 (t + 3) 1 ≤ 48 from gc_in hI8 R_t_3 rfl rfl)
          have f33 := (show (-1) ≤ I8 39 2 ∧ I8 39 2 ≤ 999999 from gc_in hI8 R_39 rfl rfl)
          have L105 : ((I8 23 1 = I 23 1) ∧ (I 23 5 ≤ I8 23 5) ∧ (I8 39 2 = (t : Int))) → gv_X (gc_E6 ws0 tb 2 (yX6_readValues, cX6_readValues, 5, (some .boolean)) kX6_readValues) (gv_Q cX6_readValues (some .boolean) sh (fun r h' => (∃ (I' : gr_I) (J' : gr_J), h' = gc_h sh I' J' A ∧ gc_Inv ro I' ∧ (∀ q j : Nat, ((q = 39 ∧ j = 3) ∨ (q = 39 ∧ j = 4) ∨ (q = 23 ∧ j = 5) ∨ (q = 23 ∧ j = 6) ∨ (q = 23 ∧ j = 7) ∨ (q = 23 ∧ j = 8) ∨ (q = 39 ∧ j = 6)) ∨ I' q j = I q j) ∧ (∀ q j : Nat, ((q = 23 ∧ j = 9)) ∨ J' q j = J q j) ∧ gc_LT I' ∧ gc_TK I' ∧ (∃ z : Int, r = some (.inl z) ∧ 0 ≤ z ∧ z ≤ 1 ∧ (I' 23 1 = I 23 1) ∧ (I 23 5 ≤ I' 23 5))))) (105, [(0, .inr (.inr (some 39)))], [], sh, gc_h sh I8 J9 A) := by
            intro m_34
            obtain ⟨e0_34, e1_34, e2_34⟩ := m_34
            have t35 := gc_TK_mo KTK_I8
            have f36 := (show 0 ≤ I8 23 1 ∧ I8 23 1 ≤ 1000 from gc_in hI8 R_23 rfl rfl)
            have f37 := (show 0 ≤ I8 23 5 ∧ I8 23 5 ≤ 1000 from gc_in hI8 R_23 rfl rfl)
            have f38 := (show 0 ≤ I8 23 6 ∧ I8 23 6 ≤ 1001 from gc_in hI8 R_23 rfl rfl)
            have f39 := (show 0 ≤ I8 23 7 ∧ I8 23 7 ≤ 125 from gc_in hI8 R_23 rfl rfl)
            have f40 := (show 0 ≤ I8 (t + 3) 1 ∧ I8 (t + 3) 1 ≤ 48 from gc_in hI8 R_t_3 rfl rfl)
            have f41 := (show (-1) ≤ I8 39 2 ∧ I8 39 2 ≤ 999999 from gc_in hI8 R_39 rfl rfl)
            refine gv_run 3 true hD (pc' := 108) (lv' := [(0, .inr (.inr (some 39)))]) (st' := [.inr (.inr (some 39)), .inl 5, .inr (.inr (some 39))]) (h' := gc_h sh I8 J9 A) (C := (((True ∧ True) ∧ True) ∧ True)) rfl ⟨⟨⟨trivial, trivial⟩, trivial⟩, trivial⟩ ?_
            refine gv_get hD rfl rfl S_39 ⟨by decide, B_39⟩ (gc_hA S_39 rfl A_39_1) ?_
            show gv_X _ _ (111, [(0, .inr (.inr (some 39)))], [.inr (.inr (some 23)), .inl 5, .inr (.inr (some 39))], sh, gc_h sh I8 J9 A)
            have f42 := (show 0 ≤ I8 23 5 ∧ I8 23 5 ≤ 1000 from gc_in hI8 R_23 rfl rfl)
            refine gv_get hD rfl rfl S_23 ⟨by decide, B_23⟩ (gc_hI S_23 rfl) ?_
            show gv_X _ _ (114, [(0, .inr (.inr (some 39)))], [.inl (I8 23 5), .inl 5, .inr (.inr (some 39))], sh, gc_h sh I8 J9 A)
            obtain ⟨r43, h43, E43, P43⟩ := d_X6_wrong (ws0 := ws0) (tb := tb) hws htb sh ro I8 J9 A hI8  5 (I8 23 5) hb   ⟨by omega, by omega⟩ ⟨by omega, by omega⟩  
            obtain ⟨I44, J45, rfl, hI44, g43, k43, ⟨z43, rfl, q43⟩⟩ := P43
            have FI44 := gc_frc (W := fun q j => (q = 39 ∧ j = 3) ∨ (q = 39 ∧ j = 4) ∨ (q = 23 ∧ j = 5) ∨ (q = 23 ∧ j = 6) ∨ (q = 23 ∧ j = 7) ∨ (q = 23 ∧ j = 8) ∨ (q = 39 ∧ j = 6)) (V := fun q j => (q = 39 ∧ j = 3) ∨ (q = 39 ∧ j = 4)) FI8 (fun q j h => (h.elim (fun h => (Or.inl h)) (fun h => (Or.inr (Or.inl h))))) g43
            have t46 := (g43 23 1).resolve_left (fun h => h.elim (fun h => absurd h.2 (by decide)) (fun h => absurd h.2 (by decide)))
            have t47 := (g43 23 5).resolve_left (fun h => h.elim (fun h => absurd h.2 (by decide)) (fun h => absurd h.2 (by decide)))
            have t48 := (g43 23 6).resolve_left (fun h => h.elim (fun h => absurd h.2 (by decide)) (fun h => absurd h.2 (by decide)))
            have t49 := (g43 23 7).resolve_left (fun h => h.elim (fun h => absurd h.2 (by decide)) (fun h => absurd h.2 (by decide)))
            have t50 := (g43 (t + 3) 1).resolve_left (fun h => h.elim (fun h => absurd h.2 (by decide)) (fun h => absurd h.2 (by decide)))
            have t51 := (g43 39 2).resolve_left (fun h => h.elim (fun h => absurd h.2 (by decide)) (fun h => absurd h.2 (by decide)))
            obtain rfl : J9 = J45 := funext fun q => funext fun j => ((k43 q j).resolve_left id).symm
            have KLT_I44 := gc_LT_fr KLT_I8 ((g43 23 5).resolve_left (fun h => h.elim (fun h => absurd h.2 (by decide)) (fun h => absurd h.2 (by decide)))) ((g43 23 6).resolve_left (fun h => h.elim (fun h => absurd h.2 (by decide)) (fun h => absurd h.2 (by decide)))) ((g43 23 7).resolve_left (fun h => h.elim (fun h => absurd h.2 (by decide)) (fun h => absurd h.2 (by decide)))) (fun k => (g43 24 k).resolve_left (fun h => h.elim (fun h => absurd h.1 (by decide)) (fun h => absurd h.1 (by decide))))
            have KTK_I44 := gc_TK_fr KTK_I8 ((g43 23 1).resolve_left (fun h => h.elim (fun h => absurd h.2 (by decide)) (fun h => absurd h.2 (by decide)))) ((g43 23 5).resolve_left (fun h => h.elim (fun h => absurd h.2 (by decide)) (fun h => absurd h.2 (by decide)))) ((g43 23 6).resolve_left (fun h => h.elim (fun h => absurd h.2 (by decide)) (fun h => absurd h.2 (by decide)))) ((g43 23 7).resolve_left (fun h => h.elim (fun h => absurd h.2 (by decide)) (fun h => absurd h.2 (by decide))))
            refine gv_callV hD rfl (As := [.inl 5, .inl (I8 23 5)]) (st := []) rfl B_39 S_39 rfl (gc_lV6 hws rfl) (Nat.le_of_ble_eq_true rfl) (gz_Ev_mono (d := 1) (by decide) E43) ?_
            show gv_X _ _ (117, [(0, .inr (.inr (some 39)))], [.inl z43], sh, gc_h sh I44 J9 A)
            exact gv_zret hD rfl (by omega) ⟨I44, J9, rfl, hI44, FI44, FJ9, KLT_I44, KTK_I44, ⟨_, rfl, by omega⟩⟩
          refine gv_run 2 true hD (pc' := 89) (lv' := [(4, .inl s0_26), (0, .inr (.inr (some 39))), (1, .inl a1), (2, .inl v2_10), (3, .inl v3_26)]) (st' := [.inl v3_26]) (h' := gc_h sh I8 J9 A) (C := ((True ∧ True) ∧ True)) rfl ⟨⟨trivial, trivial⟩, trivial⟩ ?_
          refine gv_if_lt (t := 105) hD rfl rfl ⟨by omega, by omega⟩ (fun c52 => ?_) (fun c52 => ?_)
          · show gv_X _ _ (105, [(4, .inl s0_26), (0, .inr (.inr (some 39))), (1, .inl a1), (2, .inl v2_10), (3, .inl v3_26)], [], sh, gc_h sh I8 J9 A)
            refine gv_pick [1] rfl ?_
            exact L105 (by omega)
          · show gv_X _ _ (92, [(4, .inl s0_26), (0, .inr (.inr (some 39))), (1, .inl a1), (2, .inl v2_10), (3, .inl v3_26)], [], sh, gc_h sh I8 J9 A)
            refine gv_run 1 true hD (pc' := 93) (lv' := [(4, .inl s0_26), (0, .inr (.inr (some 39))), (1, .inl a1), (2, .inl v2_10), (3, .inl v3_26)]) (st' := [.inr (.inr (some 39))]) (h' := gc_h sh I8 J9 A) (C := (True ∧ True)) rfl ⟨trivial, trivial⟩ ?_
            have f53 := (show 0 ≤ I8 39 6 ∧ I8 39 6 ≤ 16777215 from gc_in hI8 R_39 rfl rfl)
            refine gv_get hD rfl rfl S_39 ⟨by decide, B_39⟩ (gc_hI S_39 rfl) ?_
            show gv_X _ _ (96, [(4, .inl s0_26), (0, .inr (.inr (some 39))), (1, .inl a1), (2, .inl v2_10), (3, .inl v3_26)], [.inl (I8 39 6)], sh, gc_h sh I8 J9 A)
            have f54 := gw_shr (x := (I8 39 6)) (y := s0_26) ⟨by omega, by omega⟩
            have f55 := gw_and (x := (((Int32.ofInt (I8 39 6) >>> (Int32.ofInt s0_26 &&& 31)).toInt))) (y := 7) ⟨by omega, by omega⟩
            refine gv_run 4 true hD (pc' := 102) (lv' := [(4, .inl s0_26), (0, .inr (.inr (some 39))), (1, .inl a1), (2, .inl v2_10), (3, .inl v3_26)]) (st' := [.inl ((Int32.ofInt (((Int32.ofInt (I8 39 6) >>> (Int32.ofInt s0_26 &&& 31)).toInt)) &&& Int32.ofInt 7).toInt)]) (h' := gc_h sh I8 J9 A) (C := ((((True ∧ True) ∧ True) ∧ True) ∧ True)) rfl ⟨⟨⟨⟨trivial, trivial⟩, trivial⟩, trivial⟩, trivial⟩ ?_
            refine gv_if_eq (t := 118) hD rfl rfl ⟨by omega, by omega⟩ (fun c56 => ?_) (fun c56 => ?_)
            · show gv_X _ _ (118, [(4, .inl s0_26), (0, .inr (.inr (some 39))), (1, .inl a1), (2, .inl v2_10), (3, .inl v3_26)], [], sh, gc_h sh I8 J9 A)
              refine gv_run 2 true hD (pc' := 120) (lv' := [(4, .inl s0_26), (0, .inr (.inr (some 39))), (1, .inl a1), (2, .inl v2_10), (3, .inl v3_26)]) (st' := [.inr (.inr (some 39)), .inr (.inr (some 39))]) (h' := gc_h sh I8 J9 A) (C := ((True ∧ True) ∧ True)) rfl ⟨⟨trivial, trivial⟩, trivial⟩ ?_
              have f57 := (show 0 ≤ I8 39 6 ∧ I8 39 6 ≤ 16777215 from gc_in hI8 R_39 rfl rfl)
              refine gv_get hD rfl rfl S_39 ⟨by decide, B_39⟩ (gc_hI S_39 rfl) ?_
              show gv_X _ _ (123, [(4, .inl s0_26), (0, .inr (.inr (some 39))), (1, .inl a1), (2, .inl v2_10), (3, .inl v3_26)], [.inl (I8 39 6), .inr (.inr (some 39))], sh, gc_h sh I8 J9 A)
              refine gv_run 1 true hD (pc' := 124) (lv' := [(4, .inl s0_26), (0, .inr (.inr (some 39))), (1, .inl a1), (2, .inl v2_10), (3, .inl v3_26)]) (st' := [.inr (.inr (some 39)), .inl (I8 39 6), .inr (.inr (some 39))]) (h' := gc_h sh I8 J9 A) (C := (True ∧ True)) rfl ⟨trivial, trivial⟩ ?_
              refine gv_get hD rfl rfl S_39 ⟨by decide, B_39⟩ (gc_h5 (t := t) S_39 rfl (by omega)) ?_
              show gv_X _ _ (127, [(4, .inl s0_26), (0, .inr (.inr (some 39))), (1, .inl a1), (2, .inl v2_10), (3, .inl v3_26)], [.inr (.inr (some t)), .inl (I8 39 6), .inr (.inr (some 39))], sh, gc_h sh I8 J9 A)
              refine gv_get hD rfl rfl S_t ⟨by decide, B_t⟩ (gc_hA S_t rfl A_t_3) ?_
              show gv_X _ _ (130, [(4, .inl s0_26), (0, .inr (.inr (some 39))), (1, .inl a1), (2, .inl v2_10), (3, .inl v3_26)], [.inr (.inr (some (t + 6))), .inl (I8 39 6), .inr (.inr (some 39))], sh, gc_h sh I8 J9 A)
              refine gv_run 1 true hD (pc' := 131) (lv' := [(4, .inl s0_26), (0, .inr (.inr (some 39))), (1, .inl a1), (2, .inl v2_10), (3, .inl v3_26)]) (st' := [.inl v3_26, .inr (.inr (some (t + 6))), .inl (I8 39 6), .inr (.inr (some 39))]) (h' := gc_h sh I8 J9 A) (C := (True ∧ True)) rfl ⟨trivial, trivial⟩ ?_
              have f58 := (show 0 ≤ I8 (t + 6) (Int.toNat v3_26) ∧ I8 (t + 6) (Int.toNat v3_26) ≤ 6 from gc_in hI8 R_t_6 rfl rfl)
              refine gv_iald hD rfl S_t_6 rfl ⟨by decide, B_t_6⟩ ⟨by omega, by omega⟩ (gc_iI S_t_6 rfl) ?_
              show gv_X _ _ (132, [(4, .inl s0_26), (0, .inr (.inr (some 39))), (1, .inl a1), (2, .inl v2_10), (3, .inl v3_26)], [.inl (I8 (t + 6) (Int.toNat v3_26)), .inl (I8 39 6), .inr (.inr (some 39))], sh, gc_h sh I8 J9 A)
              have f59 := gw_shl (x := ((I8 (t + 6) (Int.toNat v3_26)))) (y := s0_26) ⟨by omega, by omega⟩ ⟨by omega, by omega⟩
              have f60 := gw_or (x := (I8 39 6)) (y := (((Int32.ofInt ((I8 (t + 6) (Int.toNat v3_26))) <<< (Int32.ofInt s0_26 &&& 31)).toInt))) ⟨by omega, by omega⟩ ⟨by omega, by omega⟩
              refine gv_run 3 true hD (pc' := 136) (lv' := [(4, .inl s0_26), (0, .inr (.inr (some 39))), (1, .inl a1), (2, .inl v2_10), (3, .inl v3_26)]) (st' := [.inl ((Int32.ofInt (I8 39 6) ||| Int32.ofInt (((Int32.ofInt ((I8 (t + 6) (Int.toNat v3_26))) <<< (Int32.ofInt s0_26 &&& 31)).toInt))).toInt), .inr (.inr (some 39))]) (h' := gc_h sh I8 J9 A) (C := (((True ∧ True) ∧ True) ∧ True)) rfl ⟨⟨⟨trivial, trivial⟩, trivial⟩, trivial⟩ ?_
              refine gv_put hD rfl rfl S_39 ⟨by decide, B_39⟩ rfl trivial ?_
              refine gc_st (k := 6) hI8 S_39 rfl R_39 (lo := 0) (hi := 16777215) rfl rfl (by omega) (by omega) (fun I61 hI61 q62 p62 => ?_)
              have FI61 := gc_frs (W := fun q j => (q = 39 ∧ j = 3) ∨ (q = 39 ∧ j = 4) ∨ (q = 23 ∧ j = 5) ∨ (q = 23 ∧ j = 6) ∨ (q = 23 ∧ j = 7) ∨ (q = 23 ∧ j = 8) ∨ (q = 39 ∧ j = 6)) FI8 (Or.inr (Or.inr (Or.inr (Or.inr (Or.inr (Or.inr ⟨rfl, rfl⟩)))))) p62
              have t63 := p62 23 1 (fun h => absurd h.2 (by decide))
              have t64 := p62 23 5 (fun h => absurd h.2 (by decide))
              have t65 := p62 23 6 (fun h => absurd h.1 (by decide))
              have t66 := p62 23 7 (fun h => absurd h.2 (by decide))
              have t67 := p62 (t + 3) 1 (fun h => absurd h.2 (by decide))
              have t68 := p62 39 2 (fun h => absurd h.2 (by decide))
              have KLT_I61 := gc_LT_fr KLT_I8 (p62 23 5 (fun h => absurd h.2 (by decide))) (p62 23 6 (fun h => absurd h.1 (by decide))) (p62 23 7 (fun h => absurd h.2 (by decide))) (fun k => p62 24 k (fun h => absurd h.1 (by decide)))
              have KTK_I61 := gc_TK_fr KTK_I8 (p62 23 1 (fun h => absurd h.2 (by decide))) (p62 23 5 (fun h => absurd h.2 (by decide))) (p62 23 6 (fun h => absurd h.1 (by decide))) (p62 23 7 (fun h => absurd h.2 (by decide)))
              show gv_X _ _ (139, [(4, .inl s0_26), (0, .inr (.inr (some 39))), (1, .inl a1), (2, .inl v2_10), (3, .inl v3_26)], [], sh, gc_h sh I61 J9 A)
              refine gv_run 1 true hD (pc' := 140) (lv' := [(4, .inl s0_26), (0, .inr (.inr (some 39))), (1, .inl a1), (2, .inl v2_10), (3, .inl v3_26)]) (st' := [.inr (.inr (some 39))]) (h' := gc_h sh I61 J9 A) (C := (True ∧ True)) rfl ⟨trivial, trivial⟩ ?_
              refine gv_get hD rfl rfl S_39 ⟨by decide, B_39⟩ (gc_hA S_39 rfl A_39_1) ?_
              show gv_X _ _ (143, [(4, .inl s0_26), (0, .inr (.inr (some 39))), (1, .inl a1), (2, .inl v2_10), (3, .inl v3_26)], [.inr (.inr (some 23))], sh, gc_h sh I61 J9 A)
              have t70 := gc_TK_nx KTK_I61 (by omega)
              obtain ⟨r69, h69, E69, P69⟩ := d_X9_advance (ws0 := ws0) (tb := tb) hws htb sh ro I61 J9 A hI61 23  (gc_b23 hb)    (by omega) 
              obtain ⟨I71, J72, rfl, hI71, g69, k69, ⟨rfl, V69_0, V69_1, V69_2, V69_3, V69_4, q69⟩⟩ := P69
              have FI71 := gc_frc (W := fun q j => (q = 39 ∧ j = 3) ∨ (q = 39 ∧ j = 4) ∨ (q = 23 ∧ j = 5) ∨ (q = 23 ∧ j = 6) ∨ (q = 23 ∧ j = 7) ∨ (q = 23 ∧ j = 8) ∨ (q = 39 ∧ j = 6)) (V := fun q j => (q = 23 ∧ j = 5) ∨ (q = 23 ∧ j = 6) ∨ (q = 23 ∧ j = 7) ∨ (q = 23 ∧ j = 8)) FI61 (fun q j h => (h.elim (fun h => (Or.inr (Or.inr (Or.inl h)))) (fun h => (h.elim (fun h => (Or.inr (Or.inr (Or.inr (Or.inl h))))) (fun h => (h.elim (fun h => (Or.inr (Or.inr (Or.inr (Or.inr (Or.inl h)))))) (fun h => (Or.inr (Or.inr (Or.inr (Or.inr (Or.inr (Or.inl h))))))))))))) g69
              have FJ72 := gc_frc (W := fun q j => (q = 23 ∧ j = 9)) (V := fun q j => (q = 23 ∧ j = 9)) FJ9 (fun q j h => h) k69
              have t73 := (g69 23 1).resolve_left (fun h => h.elim (fun h => absurd h.2 (by decide)) (fun h => h.elim (fun h => absurd h.2 (by decide)) (fun h => h.elim (fun h => absurd h.2 (by decide)) (fun h => absurd h.2 (by decide)))))
              have t74 := (g69 (t + 3) 1).resolve_left (fun h => h.elim (fun h => absurd h.2 (by decide)) (fun h => h.elim (fun h => absurd h.2 (by decide)) (fun h => h.elim (fun h => absurd h.2 (by decide)) (fun h => absurd h.2 (by decide)))))
              have t75 := (g69 39 2).resolve_left (fun h => h.elim (fun h => absurd h.2 (by decide)) (fun h => h.elim (fun h => absurd h.2 (by decide)) (fun h => h.elim (fun h => absurd h.2 (by decide)) (fun h => absurd h.2 (by decide)))))
              have f76 := (show 0 ≤ I71 23 5 ∧ I71 23 5 ≤ 1000 from gc_in hI71 R_23 rfl rfl)
              have f77 := (show 0 ≤ I71 23 6 ∧ I71 23 6 ≤ 1001 from gc_in hI71 R_23 rfl rfl)
              have f78 := (show 0 ≤ I71 23 7 ∧ I71 23 7 ≤ 125 from gc_in hI71 R_23 rfl rfl)
              have KLT_I71 : gc_LT I71 := q69.2.2
              have KTK_I71 : gc_TK I71 := And.intro V69_0 (And.intro V69_1 (And.intro V69_2 (And.intro V69_3 V69_4)))
              have t79 := gc_TK_mo KTK_I71
              clear V69_0 V69_1 V69_2 V69_3 V69_4
              refine gv_callV hD rfl (As := []) (st := []) rfl B_23 S_23 rfl (gc_lV6 hws rfl) (Nat.le_of_ble_eq_true rfl) (gz_Ev_mono (d := 2) (by decide) E69) ?_
              show gv_X _ _ (146, [(4, .inl s0_26), (0, .inr (.inr (some 39))), (1, .inl a1), (2, .inl v2_10), (3, .inl v3_26)], [], sh, gc_h sh I71 J72 A)
              refine gv_run 2 true hD (pc' := 7) (lv' := [(2, .inl (v2_10 + 1)), (4, .inl s0_26), (0, .inr (.inr (some 39))), (1, .inl a1), (3, .inl v3_26)]) (st' := []) (h' := gc_h sh I71 J72 A) (C := ((True ∧ True) ∧ True)) rfl ⟨⟨trivial, trivial⟩, trivial⟩ ?_
              refine gv_pick [2, 3, 0] rfl ?_
              exact ih7 I71 J72 (v2_10 + 1) (by omega) hI71 FI71 FJ72 KLT_I71 KTK_I71 (by omega)
            · show gv_X _ _ (105, [(4, .inl s0_26), (0, .inr (.inr (some 39))), (1, .inl a1), (2, .inl v2_10), (3, .inl v3_26)], [], sh, gc_h sh I8 J9 A)
              refine gv_pick [1] rfl ?_
              exact L105 (by omega)
        refine gv_run 1 true hD (pc' := 49) (lv' := [(0, .inr (.inr (some 39))), (1, .inl a1), (2, .inl v2_10)]) (st' := [.inr (.inr (some 39))]) (h' := gc_h sh I8 J9 A) (C := (True ∧ True)) rfl ⟨trivial, trivial⟩ ?_
        refine gv_get hD rfl rfl S_39 ⟨by decide, B_39⟩ (gc_h5 (t := t) S_39 rfl (by omega)) ?_
        show gv_X _ _ (52, [(0, .inr (.inr (some 39))), (1, .inl a1), (2, .inl v2_10)], [.inr (.inr (some t))], sh, gc_h sh I8 J9 A)
        refine gv_get hD rfl rfl S_t ⟨by decide, B_t⟩ (gc_hA S_t rfl A_t_1) ?_
        show gv_X _ _ (55, [(0, .inr (.inr (some 39))), (1, .inl a1), (2, .inl v2_10)], [.inr (.inr (some (t + 3)))], sh, gc_h sh I8 J9 A)
        refine gv_run 1 true hD (pc' := 56) (lv' := [(0, .inr (.inr (some 39))), (1, .inl a1), (2, .inl v2_10)]) (st' := [.inr (.inr (some 39)), .inr (.inr (some (t + 3)))]) (h' := gc_h sh I8 J9 A) (C := (True ∧ True)) rfl ⟨trivial, trivial⟩ ?_
        refine gv_get hD rfl rfl S_39 ⟨by decide, B_39⟩ (gc_hA S_39 rfl A_39_1) ?_
        show gv_X _ _ (59, [(0, .inr (.inr (some 39))), (1, .inl a1), (2, .inl v2_10)], [.inr (.inr (some 23)), .inr (.inr (some (t + 3)))], sh, gc_h sh I8 J9 A)
        refine gv_get hD rfl rfl S_23 ⟨by decide, B_23⟩ (gc_hJ S_23 rfl) ?_
        show gv_X _ _ (62, [(0, .inr (.inr (some 39))), (1, .inl a1), (2, .inl v2_10)], [.inr (.inl (J9 23 9)), .inr (.inr (some (t + 3)))], sh, gc_h sh I8 J9 A)
        obtain ⟨r80, h80, E80, P80⟩ := d_X4_find (ws0 := ws0) (tb := tb) hws htb sh ro I8 J9 A hI8 (t + 3) 48 10 (J9 23 9) h_t_3     
        obtain ⟨rfl, ⟨z80, rfl, q80⟩⟩ := P80
        refine gv_callV hD rfl (As := [.inr (.inl (J9 23 9))]) (st := []) rfl B_t_3 S_t_3 rfl (gc_lV6 hws rfl) (Nat.le_of_ble_eq_true rfl) (gz_Ev_mono (d := 1) (by decide) E80) ?_
        show gv_X _ _ (65, [(0, .inr (.inr (some 39))), (1, .inl a1), (2, .inl v2_10)], [.inl z80], sh, gc_h sh I8 J9 A)
        refine gv_run 2 true hD (pc' := 67) (lv' := [(3, .inl z80), (0, .inr (.inr (some 39))), (1, .inl a1), (2, .inl v2_10)]) (st' := [.inl z80]) (h' := gc_h sh I8 J9 A) (C := ((True ∧ True) ∧ True)) rfl ⟨⟨trivial, trivial⟩, trivial⟩ ?_
        refine gv_if_ge (t := 74) hD rfl rfl ⟨by omega, by omega⟩ (fun c81 => ?_) (fun c81 => ?_)
        · show gv_X _ _ (74, [(3, .inl z80), (0, .inr (.inr (some 39))), (1, .inl a1), (2, .inl v2_10)], [], sh, gc_h sh I8 J9 A)
          refine gv_run 1 true hD (pc' := 75) (lv' := [(3, .inl z80), (0, .inr (.inr (some 39))), (1, .inl a1), (2, .inl v2_10)]) (st' := [.inr (.inr (some 39))]) (h' := gc_h sh I8 J9 A) (C := (True ∧ True)) rfl ⟨trivial, trivial⟩ ?_
          refine gv_get hD rfl rfl S_39 ⟨by decide, B_39⟩ (gc_h5 (t := t) S_39 rfl (by omega)) ?_
          show gv_X _ _ (78, [(3, .inl z80), (0, .inr (.inr (some 39))), (1, .inl a1), (2, .inl v2_10)], [.inr (.inr (some t))], sh, gc_h sh I8 J9 A)
          refine gv_get hD rfl rfl S_t ⟨by decide, B_t⟩ (gc_hA S_t rfl A_t_2) ?_
          show gv_X _ _ (81, [(3, .inl z80), (0, .inr (.inr (some 39))), (1, .inl a1), (2, .inl v2_10)], [.inr (.inr (some (t + 5)))], sh, gc_h sh I8 J9 A)
          refine gv_run 1 true hD (pc' := 82) (lv' := [(3, .inl z80), (0, .inr (.inr (some 39))), (1, .inl a1), (2, .inl v2_10)]) (st' := [.inl z80, .inr (.inr (some (t + 5)))]) (h' := gc_h sh I8 J9 A) (C := (True ∧ True)) rfl ⟨trivial, trivial⟩ ?_
          have f82 := (show 0 ≤ I8 (t + 5) (Int.toNat z80) ∧ I8 (t + 5) (Int.toNat z80) ≤ 7 from gc_in hI8 R_t_5 rfl rfl)
          refine gv_iald hD rfl S_t_5 rfl ⟨by decide, B_t_5⟩ ⟨by omega, by omega⟩ (gc_iI S_t_5 rfl) ?_
          show gv_X _ _ (83, [(3, .inl z80), (0, .inr (.inr (some 39))), (1, .inl a1), (2, .inl v2_10)], [.inl (I8 (t + 5) (Int.toNat z80))], sh, gc_h sh I8 J9 A)
          obtain ⟨r83, h83, E83, P83⟩ := d_X11_shiftOf (ws0 := ws0) (tb := tb) hws htb sh ro I8 J9 A hI8  ((I8 (t + 5) (Int.toNat z80)))    ⟨by omega, by omega⟩  
          obtain ⟨rfl, ⟨z83, rfl, q83⟩⟩ := P83
          refine gv_callS hD rfl (As := [.inl (I8 (t + 5) (Int.toNat z80))]) (st := []) rfl (gc_lS6 hws rfl) (Nat.le_of_ble_eq_true rfl) (gz_Ev_mono (d := 1) (by decide) E83) ?_
          show gv_X _ _ (86, [(3, .inl z80), (0, .inr (.inr (some 39))), (1, .inl a1), (2, .inl v2_10)], [.inl z83], sh, gc_h sh I8 J9 A)
          refine gv_pick [1, 2, 3, 0] rfl ?_
          exact L86 z80 z83 (by omega)
        · show gv_X _ _ (70, [(3, .inl z80), (0, .inr (.inr (some 39))), (1, .inl a1), (2, .inl v2_10)], [], sh, gc_h sh I8 J9 A)
          refine gv_run 2 true hD (pc' := 86) (lv' := [(3, .inl z80), (0, .inr (.inr (some 39))), (1, .inl a1), (2, .inl v2_10)]) (st' := [.inl 0]) (h' := gc_h sh I8 J9 A) (C := ((True ∧ True) ∧ True)) rfl ⟨⟨trivial, trivial⟩, trivial⟩ ?_
          refine gv_pick [1, 2, 3, 0] rfl ?_
          exact L86 z80 0 (by omega)
      have L152 : ((I8 23 1 = I 23 1) ∧ (I 23 5 ≤ I8 23 5) ∧ (I8 39 2 = (t : Int))) → gv_X (gc_E6 ws0 tb 2 (yX6_readValues, cX6_readValues, 5, (some .boolean)) kX6_readValues) (gv_Q cX6_readValues (some .boolean) sh (fun r h' => (∃ (I' : gr_I) (J' : gr_J), h' = gc_h sh I' J' A ∧ gc_Inv ro I' ∧ (∀ q j : Nat, ((q = 39 ∧ j = 3) ∨ (q = 39 ∧ j = 4) ∨ (q = 23 ∧ j = 5) ∨ (q = 23 ∧ j = 6) ∨ (q = 23 ∧ j = 7) ∨ (q = 23 ∧ j = 8) ∨ (q = 39 ∧ j = 6)) ∨ I' q j = I q j) ∧ (∀ q j : Nat, ((q = 23 ∧ j = 9)) ∨ J' q j = J q j) ∧ gc_LT I' ∧ gc_TK I' ∧ (∃ z : Int, r = some (.inl z) ∧ 0 ≤ z ∧ z ≤ 1 ∧ (I' 23 1 = I 23 1) ∧ (I 23 5 ≤ I' 23 5))))) (152, [], [], sh, gc_h sh I8 J9 A) := by
        intro m_84
        obtain ⟨e0_84, e1_84, e2_84⟩ := m_84
        have t85 := gc_TK_mo KTK_I8
        have f86 := (show 0 ≤ I8 23 1 ∧ I8 23 1 ≤ 1000 from gc_in hI8 R_23 rfl rfl)
        have f87 := (show 0 ≤ I8 23 5 ∧ I8 23 5 ≤ 1000 from gc_in hI8 R_23 rfl rfl)
        have f88 := (show 0 ≤ I8 23 6 ∧ I8 23 6 ≤ 1001 from gc_in hI8 R_23 rfl rfl)
        have f89 := (show 0 ≤ I8 23 7 ∧ I8 23 7 ≤ 125 from gc_in hI8 R_23 rfl rfl)
        have f90 := (show 0 ≤ I8 (t + 3) 1 ∧ I8 (t + 3) 1 ≤ 48 from gc_in hI8 R_t_3 rfl rfl)
        have f91 := (show (-1) ≤ I8 39 2 ∧ I8 39 2 ≤ 999999 from gc_in hI8 R_39 rfl rfl)
        refine gv_run 1 true hD (pc' := 153) (lv' := []) (st' := [.inl 1]) (h' := gc_h sh I8 J9 A) (C := (True ∧ True)) rfl ⟨trivial, trivial⟩ ?_
        exact gv_zret hD rfl (by omega) ⟨I8, J9, rfl, hI8, FI8, FJ9, KLT_I8, KTK_I8, ⟨_, rfl, by omega⟩⟩
      refine gv_run 2 true hD (pc' := 10) (lv' := [(0, .inr (.inr (some 39))), (1, .inl a1), (2, .inl v2_10)]) (st' := [.inl 8, .inl v2_10]) (h' := gc_h sh I8 J9 A) (C := ((True ∧ True) ∧ True)) rfl ⟨⟨trivial, trivial⟩, trivial⟩ ?_
      refine gv_icmp_gt (t := 152) hD rfl rfl ⟨⟨by omega, by omega⟩, ⟨by omega, by omega⟩⟩ (fun c92 => ?_) (fun c92 => ?_)
      · show gv_X _ _ (152, [(0, .inr (.inr (some 39))), (1, .inl a1), (2, .inl v2_10)], [], sh, gc_h sh I8 J9 A)
        refine gv_pick [] rfl ?_
        exact L152 (by omega)
      · show gv_X _ _ (13, [(0, .inr (.inr (some 39))), (1, .inl a1), (2, .inl v2_10)], [], sh, gc_h sh I8 J9 A)
        refine gv_run 1 true hD (pc' := 14) (lv' := [(0, .inr (.inr (some 39))), (1, .inl a1), (2, .inl v2_10)]) (st' := [.inr (.inr (some 39))]) (h' := gc_h sh I8 J9 A) (C := (True ∧ True)) rfl ⟨trivial, trivial⟩ ?_
        refine gv_get hD rfl rfl S_39 ⟨by decide, B_39⟩ (gc_hA S_39 rfl A_39_1) ?_
        show gv_X _ _ (17, [(0, .inr (.inr (some 39))), (1, .inl a1), (2, .inl v2_10)], [.inr (.inr (some 23))], sh, gc_h sh I8 J9 A)
        have f93 := (show 0 ≤ I8 23 7 ∧ I8 23 7 ≤ 125 from gc_in hI8 R_23 rfl rfl)
        refine gv_get hD rfl rfl S_23 ⟨by decide, B_23⟩ (gc_hI S_23 rfl) ?_
        show gv_X _ _ (20, [(0, .inr (.inr (some 39))), (1, .inl a1), (2, .inl v2_10)], [.inl (I8 23 7)], sh, gc_h sh I8 J9 A)
        refine gv_run 1 true hD (pc' := 21) (lv' := [(0, .inr (.inr (some 39))), (1, .inl a1), (2, .inl v2_10)]) (st' := [.inl 1, .inl (I8 23 7)]) (h' := gc_h sh I8 J9 A) (C := (True ∧ True)) rfl ⟨trivial, trivial⟩ ?_
        refine gv_icmp_ne (t := 152) hD rfl rfl ⟨⟨by omega, by omega⟩, ⟨by omega, by omega⟩⟩ (fun c94 => ?_) (fun c94 => ?_)
        · show gv_X _ _ (152, [(0, .inr (.inr (some 39))), (1, .inl a1), (2, .inl v2_10)], [], sh, gc_h sh I8 J9 A)
          refine gv_pick [] rfl ?_
          exact L152 (by omega)
        · show gv_X _ _ (24, [(0, .inr (.inr (some 39))), (1, .inl a1), (2, .inl v2_10)], [], sh, gc_h sh I8 J9 A)
          refine gv_run 1 true hD (pc' := 25) (lv' := [(0, .inr (.inr (some 39))), (1, .inl a1), (2, .inl v2_10)]) (st' := [.inl a1]) (h' := gc_h sh I8 J9 A) (C := (True ∧ True)) rfl ⟨trivial, trivial⟩ ?_
          refine gv_if_eq (t := 48) hD rfl rfl ⟨by omega, by omega⟩ (fun c95 => ?_) (fun c95 => ?_)
          · show gv_X _ _ (48, [(0, .inr (.inr (some 39))), (1, .inl a1), (2, .inl v2_10)], [], sh, gc_h sh I8 J9 A)
            exact L48 (by omega)
          · show gv_X _ _ (28, [(0, .inr (.inr (some 39))), (1, .inl a1), (2, .inl v2_10)], [], sh, gc_h sh I8 J9 A)
            refine gv_run 1 true hD (pc' := 29) (lv' := [(0, .inr (.inr (some 39))), (1, .inl a1), (2, .inl v2_10)]) (st' := [.inl v2_10]) (h' := gc_h sh I8 J9 A) (C := (True ∧ True)) rfl ⟨trivial, trivial⟩ ?_
            refine gv_if_le (t := 48) hD rfl rfl ⟨by omega, by omega⟩ (fun c96 => ?_) (fun c96 => ?_)
            · show gv_X _ _ (48, [(0, .inr (.inr (some 39))), (1, .inl a1), (2, .inl v2_10)], [], sh, gc_h sh I8 J9 A)
              exact L48 (by omega)
            · show gv_X _ _ (32, [(0, .inr (.inr (some 39))), (1, .inl a1), (2, .inl v2_10)], [], sh, gc_h sh I8 J9 A)
              refine gv_run 1 true hD (pc' := 33) (lv' := [(0, .inr (.inr (some 39))), (1, .inl a1), (2, .inl v2_10)]) (st' := [.inr (.inr (some 39))]) (h' := gc_h sh I8 J9 A) (C := (True ∧ True)) rfl ⟨trivial, trivial⟩ ?_
              refine gv_get hD rfl rfl S_39 ⟨by decide, B_39⟩ (gc_hA S_39 rfl A_39_1) ?_
              show gv_X _ _ (36, [(0, .inr (.inr (some 39))), (1, .inl a1), (2, .inl v2_10)], [.inr (.inr (some 23))], sh, gc_h sh I8 J9 A)
              refine gv_get hD rfl rfl S_23 ⟨by decide, B_23⟩ (gc_hJ S_23 rfl) ?_
              show gv_X _ _ (39, [(0, .inr (.inr (some 39))), (1, .inl a1), (2, .inl v2_10)], [.inr (.inl (J9 23 9))], sh, gc_h sh I8 J9 A)
              have f97 := gw_cmp ((J9 23 9)) ((1668248436))
              refine gv_run 2 true hD (pc' := 43) (lv' := [(0, .inr (.inr (some 39))), (1, .inl a1), (2, .inl v2_10)]) (st' := [.inl ((lg_cmp ((J9 23 9)) ((1668248436))).toInt)]) (h' := gc_h sh I8 J9 A) (C := ((True ∧ True) ∧ True)) rfl ⟨⟨trivial, trivial⟩, trivial⟩ ?_
              refine gv_if_ne (t := 48) hD rfl rfl ⟨by omega, by omega⟩ (fun c98 => ?_) (fun c98 => ?_)
              · show gv_X _ _ (48, [(0, .inr (.inr (some 39))), (1, .inl a1), (2, .inl v2_10)], [], sh, gc_h sh I8 J9 A)
                exact L48 (by omega)
              · show gv_X _ _ (46, [(0, .inr (.inr (some 39))), (1, .inl a1), (2, .inl v2_10)], [], sh, gc_h sh I8 J9 A)
                refine gv_run 1 true hD (pc' := 47) (lv' := [(0, .inr (.inr (some 39))), (1, .inl a1), (2, .inl v2_10)]) (st' := [.inl 1]) (h' := gc_h sh I8 J9 A) (C := (True ∧ True)) rfl ⟨trivial, trivial⟩ ?_
                exact gv_zret hD rfl (by omega) ⟨I8, J9, rfl, hI8, FI8, FJ9, KLT_I8, KTK_I8, ⟨_, rfl, by omega⟩⟩
  refine gv_run 2 true hD (pc' := 2) (lv' := [(0, .inr (.inr (some 39))), (1, .inl a1)]) (st' := [.inl 0, .inr (.inr (some 39))]) (h' := gc_h sh I J A) (C := ((True ∧ True) ∧ True)) rfl ⟨⟨trivial, trivial⟩, trivial⟩ ?_
  refine gv_put hD rfl rfl S_39 ⟨by decide, B_39⟩ rfl trivial ?_
  refine gc_st (k := 6) hI S_39 rfl R_39 (lo := 0) (hi := 16777215) rfl rfl (by omega) (by omega) (fun I99 hI99 q100 p100 => ?_)
  have FI99 := gc_frs (W := fun q j => (q = 39 ∧ j = 3) ∨ (q = 39 ∧ j = 4) ∨ (q = 23 ∧ j = 5) ∨ (q = 23 ∧ j = 6) ∨ (q = 23 ∧ j = 7) ∨ (q = 23 ∧ j = 8) ∨ (q = 39 ∧ j = 6)) FI (Or.inr (Or.inr (Or.inr (Or.inr (Or.inr (Or.inr ⟨rfl, rfl⟩)))))) p100
  have t101 := p100 23 1 (fun h => absurd h.2 (by decide))
  have t102 := p100 23 5 (fun h => absurd h.2 (by decide))
  have t103 := p100 23 6 (fun h => absurd h.1 (by decide))
  have t104 := p100 23 7 (fun h => absurd h.2 (by decide))
  have t105 := p100 (t + 3) 1 (fun h => absurd h.2 (by decide))
  have t106 := p100 39 2 (fun h => absurd h.2 (by decide))
  have KLT_I99 := gc_LT_fr KLT_I (p100 23 5 (fun h => absurd h.2 (by decide))) (p100 23 6 (fun h => absurd h.1 (by decide))) (p100 23 7 (fun h => absurd h.2 (by decide))) (fun k => p100 24 k (fun h => absurd h.1 (by decide)))
  have KTK_I99 := gc_TK_fr KTK_I (p100 23 1 (fun h => absurd h.2 (by decide))) (p100 23 5 (fun h => absurd h.2 (by decide))) (p100 23 6 (fun h => absurd h.1 (by decide))) (p100 23 7 (fun h => absurd h.2 (by decide)))
  show gv_X _ _ (5, [(0, .inr (.inr (some 39))), (1, .inl a1)], [], sh, gc_h sh I99 J A)
  refine gv_run 2 true hD (pc' := 7) (lv' := [(2, .inl 0), (0, .inr (.inr (some 39))), (1, .inl a1)]) (st' := []) (h' := gc_h sh I99 J A) (C := ((True ∧ True) ∧ True)) rfl ⟨⟨trivial, trivial⟩, trivial⟩ ?_
  refine gv_pick [1, 2, 0] rfl ?_
  exact L7 _ I99 J 0 (Nat.lt_succ_self _) hI99 FI99 FJ KLT_I99 KTK_I99 (by omega)
set_option maxHeartbeats 4000000 in
set_option maxRecDepth 100000 in
theorem d_X6_readNewName {ws0 : List Cond} {tb : String → gz_T} (hws : gc_Ws ws0) (htb : gc_tbs tb) (sh : gz_Sh) (ro : Nat → Nat) (I : gr_I) (J : gr_J) (A : gc_A) (hI : gc_Inv ro I) (n ρ : Nat) (a1 : Nat) (hb : gc_Base sh ro A) (h_a1 : gc_isNames sh ro A a1 n ρ)  (KLT_I : gc_LT I) (KTK_I : gc_TK I) : ∃ r h', gz_Ev ws0 tb 5 (yX6_readNewName, cX6_readNewName, 4, (some .boolean)) [.inr (.inr (some 39)), .inr (.inr (some a1))] sh (gc_h sh I J A) r sh h' 0 0 ∧ (∃ (I' : gr_I) (J' : gr_J), h' = gc_h sh I' J' A ∧ gc_Inv ro I' ∧ (∀ q j : Nat, ((q = 39 ∧ j = 3) ∨ (q = 39 ∧ j = 4) ∨ (q = 23 ∧ j = 5) ∨ (q = 23 ∧ j = 6) ∨ (q = 23 ∧ j = 7) ∨ (q = 23 ∧ j = 8) ∨ (q = a1 ∧ j = 1)) ∨ I' q j = I q j) ∧ (∀ q j : Nat, ((q = 23 ∧ j = 9) ∨ q = (a1 + 1)) ∨ J' q j = J q j) ∧ gc_LT I' ∧ gc_TK I' ∧ (∃ z : Int, r = some (.inl z) ∧ 0 ≤ z ∧ z ≤ 1 ∧ (I' 23 1 = I 23 1) ∧ (I 23 5 ≤ I' 23 5))) := by
  have FI : ∀ q j : Nat, ((q = 39 ∧ j = 3) ∨ (q = 39 ∧ j = 4) ∨ (q = 23 ∧ j = 5) ∨ (q = 23 ∧ j = 6) ∨ (q = 23 ∧ j = 7) ∨ (q = 23 ∧ j = 8) ∨ (q = a1 ∧ j = 1)) ∨ I q j = I q j := fun _ _ => Or.inr rfl
  have FJ : ∀ q j : Nat, ((q = 23 ∧ j = 9) ∨ q = (a1 + 1)) ∨ J q j = J q j := fun _ _ => Or.inr rfl
  have A_39_1 : A 39 1 = some 23 := gc_bA hb rfl
  have B_23 : 23 < 1000000 := by decide
  have B_39 : 39 < 1000000 := by decide
  have R_23 : ro 23 = 3 := gc_bR hb (by decide) rfl
  have S_23 : sh[23]? = some (false, 9, 10) := gc_bS hb rfl
  have S_39 : sh[39]? = some (false, 6, 19) := gc_bS hb rfl
  obtain ⟨S_a1, R_a1, B_a1, A_a1_0, S_a1_1, R_a1_1, B_a1_1, Q_lo, Q_hi, Q_n⟩ := id h_a1
  have N1 : a1 ≠ 23 := fun h => by
    have h9 := S_a1
    rw [h, S_23] at h9
    cases h9
  have N2 : a1 ≠ 39 := fun h => by
    have h9 := S_a1
    rw [h, gc_bS hb (p := 39) rfl] at h9
    cases h9
  have N3 : a1 ≠ 24 := fun h => by
    have h9 := S_a1
    rw [h, gc_bS hb (p := 24) rfl] at h9
    cases h9
  have hD : gv_D (gc_E6 ws0 tb 4 (yX6_readNewName, cX6_readNewName, 4, (some .boolean)) kX6_readNewName) := gq_ok oX6_readNewName
  refine gc_ev6 (d := 4) (l := kX6_readNewName) (Po := fun r h' => (∃ (I' : gr_I) (J' : gr_J), h' = gc_h sh I' J' A ∧ gc_Inv ro I' ∧ (∀ q j : Nat, ((q = 39 ∧ j = 3) ∨ (q = 39 ∧ j = 4) ∨ (q = 23 ∧ j = 5) ∨ (q = 23 ∧ j = 6) ∨ (q = 23 ∧ j = 7) ∨ (q = 23 ∧ j = 8) ∨ (q = a1 ∧ j = 1)) ∨ I' q j = I q j) ∧ (∀ q j : Nat, ((q = 23 ∧ j = 9) ∨ q = (a1 + 1)) ∨ J' q j = J q j) ∧ gc_LT I' ∧ gc_TK I' ∧ (∃ z : Int, r = some (.inl z) ∧ 0 ≤ z ∧ z ≤ 1 ∧ (I' 23 1 = I 23 1) ∧ (I 23 5 ≤ I' 23 5)))) htb rfl (Nat.le_of_ble_eq_true rfl) ?_
  have N_23__a1 : ¬ (23 = a1) := by omega
  have N_24__a1 : ¬ (24 = a1) := by omega
  have t1 := gc_TK_mo KTK_I
  have f2 := (show 0 ≤ I 23 1 ∧ I 23 1 ≤ 1000 from gc_in hI R_23 rfl rfl)
  have f3 := (show 0 ≤ I 23 5 ∧ I 23 5 ≤ 1000 from gc_in hI R_23 rfl rfl)
  have f4 := (show 0 ≤ I 23 6 ∧ I 23 6 ≤ 1001 from gc_in hI R_23 rfl rfl)
  have f5 := (show 0 ≤ I 23 7 ∧ I 23 7 ≤ 125 from gc_in hI R_23 rfl rfl)
  refine gv_run 2 true hD (pc' := 2) (lv' := [(0, .inr (.inr (some 39))), (1, .inr (.inr (some a1)))]) (st' := [.inr (.inr (some a1)), .inr (.inr (some 39))]) (h' := gc_h sh I J A) (C := ((True ∧ True) ∧ True)) rfl ⟨⟨trivial, trivial⟩, trivial⟩ ?_
  obtain ⟨r6, h6, E6, P6⟩ := d_X6_needNew (ws0 := ws0) (tb := tb) hws htb sh ro I J A hI  n ρ a1 hb h_a1    
  obtain ⟨I7, J8, rfl, hI7, g6, k6, ⟨z6, rfl, q6⟩⟩ := P6
  have FI7 := gc_frc (W := fun q j => (q = 39 ∧ j = 3) ∨ (q = 39 ∧ j = 4) ∨ (q = 23 ∧ j = 5) ∨ (q = 23 ∧ j = 6) ∨ (q = 23 ∧ j = 7) ∨ (q = 23 ∧ j = 8) ∨ (q = a1 ∧ j = 1)) (V := fun q j => (q = 39 ∧ j = 3) ∨ (q = 39 ∧ j = 4)) FI (fun q j h => (h.elim (fun h => (Or.inl h)) (fun h => (Or.inr (Or.inl h))))) g6
  have t9 := (g6 23 1).resolve_left (fun h => h.elim (fun h => absurd h.2 (by decide)) (fun h => absurd h.2 (by decide)))
  have t10 := (g6 23 5).resolve_left (fun h => h.elim (fun h => absurd h.2 (by decide)) (fun h => absurd h.2 (by decide)))
  have t11 := (g6 23 6).resolve_left (fun h => h.elim (fun h => absurd h.2 (by decide)) (fun h => absurd h.2 (by decide)))
  have t12 := (g6 23 7).resolve_left (fun h => h.elim (fun h => absurd h.2 (by decide)) (fun h => absurd h.2 (by decide)))
  obtain rfl : J = J8 := funext fun q => funext fun j => ((k6 q j).resolve_left id).symm
  have KLT_I7 := gc_LT_fr KLT_I ((g6 23 5).resolve_left (fun h => h.elim (fun h => absurd h.2 (by decide)) (fun h => absurd h.2 (by decide)))) ((g6 23 6).resolve_left (fun h => h.elim (fun h => absurd h.2 (by decide)) (fun h => absurd h.2 (by decide)))) ((g6 23 7).resolve_left (fun h => h.elim (fun h => absurd h.2 (by decide)) (fun h => absurd h.2 (by decide)))) (fun k => (g6 24 k).resolve_left (fun h => h.elim (fun h => absurd h.1 (by decide)) (fun h => absurd h.1 (by decide))))
  have KTK_I7 := gc_TK_fr KTK_I ((g6 23 1).resolve_left (fun h => h.elim (fun h => absurd h.2 (by decide)) (fun h => absurd h.2 (by decide)))) ((g6 23 5).resolve_left (fun h => h.elim (fun h => absurd h.2 (by decide)) (fun h => absurd h.2 (by decide)))) ((g6 23 6).resolve_left (fun h => h.elim (fun h => absurd h.2 (by decide)) (fun h => absurd h.2 (by decide)))) ((g6 23 7).resolve_left (fun h => h.elim (fun h => absurd h.2 (by decide)) (fun h => absurd h.2 (by decide))))
  refine gv_callV hD rfl (As := [.inr (.inr (some a1))]) (st := []) rfl B_39 S_39 rfl (gc_lV6 hws rfl) (Nat.le_of_ble_eq_true rfl) (gz_Ev_mono (d := 3) (by decide) E6) ?_
  show gv_X _ _ (5, [(0, .inr (.inr (some 39))), (1, .inr (.inr (some a1)))], [.inl z6], sh, gc_h sh I7 J A)
  refine gv_if_ne (t := 10) hD rfl rfl ⟨by omega, by omega⟩ (fun c13 => ?_) (fun c13 => ?_)
  · show gv_X _ _ (10, [(0, .inr (.inr (some 39))), (1, .inr (.inr (some a1)))], [], sh, gc_h sh I7 J A)
    refine gv_run 1 true hD (pc' := 11) (lv' := [(0, .inr (.inr (some 39))), (1, .inr (.inr (some a1)))]) (st' := [.inr (.inr (some 39))]) (h' := gc_h sh I7 J A) (C := (True ∧ True)) rfl ⟨trivial, trivial⟩ ?_
    refine gv_get hD rfl rfl S_39 ⟨by decide, B_39⟩ (gc_hA S_39 rfl A_39_1) ?_
    show gv_X _ _ (14, [(0, .inr (.inr (some 39))), (1, .inr (.inr (some a1)))], [.inr (.inr (some 23))], sh, gc_h sh I7 J A)
    refine gv_get hD rfl rfl S_23 ⟨by decide, B_23⟩ (gc_hJ S_23 rfl) ?_
    show gv_X _ _ (17, [(0, .inr (.inr (some 39))), (1, .inr (.inr (some a1)))], [.inr (.inl (J 23 9))], sh, gc_h sh I7 J A)
    refine gv_run 2 true hD (pc' := 19) (lv' := [(2, .inr (.inl (J 23 9))), (0, .inr (.inr (some 39))), (1, .inr (.inr (some a1)))]) (st' := [.inr (.inr (some 39))]) (h' := gc_h sh I7 J A) (C := ((True ∧ True) ∧ True)) rfl ⟨⟨trivial, trivial⟩, trivial⟩ ?_
    refine gv_get hD rfl rfl S_39 ⟨by decide, B_39⟩ (gc_hA S_39 rfl A_39_1) ?_
    show gv_X _ _ (22, [(2, .inr (.inl (J 23 9))), (0, .inr (.inr (some 39))), (1, .inr (.inr (some a1)))], [.inr (.inr (some 23))], sh, gc_h sh I7 J A)
    have t15 := gc_TK_nx KTK_I7 (by omega)
    obtain ⟨r14, h14, E14, P14⟩ := d_X9_advance (ws0 := ws0) (tb := tb) hws htb sh ro I7 J A hI7 23  (gc_b23 hb)    (by omega) 
    obtain ⟨I16, J17, rfl, hI16, g14, k14, ⟨rfl, V14_0, V14_1, V14_2, V14_3, V14_4, q14⟩⟩ := P14
    have FI16 := gc_frc (W := fun q j => (q = 39 ∧ j = 3) ∨ (q = 39 ∧ j = 4) ∨ (q = 23 ∧ j = 5) ∨ (q = 23 ∧ j = 6) ∨ (q = 23 ∧ j = 7) ∨ (q = 23 ∧ j = 8) ∨ (q = a1 ∧ j = 1)) (V := fun q j => (q = 23 ∧ j = 5) ∨ (q = 23 ∧ j = 6) ∨ (q = 23 ∧ j = 7) ∨ (q = 23 ∧ j = 8)) FI7 (fun q j h => (h.elim (fun h => (Or.inr (Or.inr (Or.inl h)))) (fun h => (h.elim (fun h => (Or.inr (Or.inr (Or.inr (Or.inl h))))) (fun h => (h.elim (fun h => (Or.inr (Or.inr (Or.inr (Or.inr (Or.inl h)))))) (fun h => (Or.inr (Or.inr (Or.inr (Or.inr (Or.inr (Or.inl h))))))))))))) g14
    have FJ17 := gc_frc (W := fun q j => (q = 23 ∧ j = 9) ∨ q = (a1 + 1)) (V := fun q j => (q = 23 ∧ j = 9)) FJ (fun q j h => (Or.inl h)) k14
    have t18 := (g14 23 1).resolve_left (fun h => h.elim (fun h => absurd h.2 (by decide)) (fun h => h.elim (fun h => absurd h.2 (by decide)) (fun h => h.elim (fun h => absurd h.2 (by decide)) (fun h => absurd h.2 (by decide)))))
    have f19 := (show 0 ≤ I16 23 5 ∧ I16 23 5 ≤ 1000 from gc_in hI16 R_23 rfl rfl)
    have f20 := (show 0 ≤ I16 23 6 ∧ I16 23 6 ≤ 1001 from gc_in hI16 R_23 rfl rfl)
    have f21 := (show 0 ≤ I16 23 7 ∧ I16 23 7 ≤ 125 from gc_in hI16 R_23 rfl rfl)
    have KLT_I16 : gc_LT I16 := q14.2.2
    have KTK_I16 : gc_TK I16 := And.intro V14_0 (And.intro V14_1 (And.intro V14_2 (And.intro V14_3 V14_4)))
    have t22 := gc_TK_mo KTK_I16
    clear V14_0 V14_1 V14_2 V14_3 V14_4
    refine gv_callV hD rfl (As := []) (st := []) rfl B_23 S_23 rfl (gc_lV6 hws rfl) (Nat.le_of_ble_eq_true rfl) (gz_Ev_mono (d := 2) (by decide) E14) ?_
    show gv_X _ _ (25, [(2, .inr (.inl (J 23 9))), (0, .inr (.inr (some 39))), (1, .inr (.inr (some a1)))], [], sh, gc_h sh I16 J17 A)
    refine gv_run 2 true hD (pc' := 27) (lv' := [(2, .inr (.inl (J 23 9))), (0, .inr (.inr (some 39))), (1, .inr (.inr (some a1)))]) (st' := [.inr (.inr (some a1)), .inr (.inr (some 39))]) (h' := gc_h sh I16 J17 A) (C := ((True ∧ True) ∧ True)) rfl ⟨⟨trivial, trivial⟩, trivial⟩ ?_
    obtain ⟨r23, h23, E23, P23⟩ := d_X4_isFull (ws0 := ws0) (tb := tb) hws htb sh ro I16 J17 A hI16 a1 n ρ  h_a1     
    obtain ⟨rfl, ⟨z23, rfl, q23⟩⟩ := P23
    refine gv_callV hD rfl (As := []) (st := [.inr (.inr (some 39))]) rfl B_a1 S_a1 rfl (gc_lV6 hws rfl) (Nat.le_of_ble_eq_true rfl) (gz_Ev_mono (d := 1) (by decide) E23) ?_
    show gv_X _ _ (30, [(2, .inr (.inl (J 23 9))), (0, .inr (.inr (some 39))), (1, .inr (.inr (some a1)))], [.inl z23, .inr (.inr (some 39))], sh, gc_h sh I16 J17 A)
    obtain ⟨r24, h24, E24, P24⟩ := d_X6_closes (ws0 := ws0) (tb := tb) hws htb sh ro I16 J17 A hI16  z23 hb   ⟨by omega, by omega⟩  KLT_I16 KTK_I16
    obtain ⟨I25, J26, rfl, hI25, g24, k24, KLT_I25, KTK_I25, ⟨z24, rfl, q24⟩⟩ := P24
    have FI25 := gc_frc (W := fun q j => (q = 39 ∧ j = 3) ∨ (q = 39 ∧ j = 4) ∨ (q = 23 ∧ j = 5) ∨ (q = 23 ∧ j = 6) ∨ (q = 23 ∧ j = 7) ∨ (q = 23 ∧ j = 8) ∨ (q = a1 ∧ j = 1)) (V := fun q j => (q = 39 ∧ j = 3) ∨ (q = 39 ∧ j = 4) ∨ (q = 23 ∧ j = 5) ∨ (q = 23 ∧ j = 6) ∨ (q = 23 ∧ j = 7) ∨ (q = 23 ∧ j = 8)) FI16 (fun q j h => (h.elim (fun h => (Or.inl h)) (fun h => (h.elim (fun h => (Or.inr (Or.inl h))) (fun h => (h.elim (fun h => (Or.inr (Or.inr (Or.inl h)))) (fun h => (h.elim (fun h => (Or.inr (Or.inr (Or.inr (Or.inl h))))) (fun h => (h.elim (fun h => (Or.inr (Or.inr (Or.inr (Or.inr (Or.inl h)))))) (fun h => (Or.inr (Or.inr (Or.inr (Or.inr (Or.inr (Or.inl h))))))))))))))))) g24
    have FJ26 := gc_frc (W := fun q j => (q = 23 ∧ j = 9) ∨ q = (a1 + 1)) (V := fun q j => (q = 23 ∧ j = 9)) FJ17 (fun q j h => (Or.inl h)) k24
    have t27 := (g24 23 1).resolve_left (fun h => h.elim (fun h => absurd h.2 (by decide)) (fun h => h.elim (fun h => absurd h.2 (by decide)) (fun h => h.elim (fun h => absurd h.2 (by decide)) (fun h => h.elim (fun h => absurd h.2 (by decide)) (fun h => h.elim (fun h => absurd h.2 (by decide)) (fun h => absurd h.2 (by decide)))))))
    have f28 := (show 0 ≤ I25 23 5 ∧ I25 23 5 ≤ 1000 from gc_in hI25 R_23 rfl rfl)
    have f29 := (show 0 ≤ I25 23 6 ∧ I25 23 6 ≤ 1001 from gc_in hI25 R_23 rfl rfl)
    have f30 := (show 0 ≤ I25 23 7 ∧ I25 23 7 ≤ 125 from gc_in hI25 R_23 rfl rfl)
    have t31 := gc_TK_mo KTK_I25
    refine gv_callV hD rfl (As := [.inl z23]) (st := []) rfl B_39 S_39 rfl (gc_lV6 hws rfl) (Nat.le_of_ble_eq_true rfl) (gz_Ev_mono (d := 4) (by decide) E24) ?_
    show gv_X _ _ (33, [(2, .inr (.inl (J 23 9))), (0, .inr (.inr (some 39))), (1, .inr (.inr (some a1)))], [.inl z24], sh, gc_h sh I25 J26 A)
    refine gv_if_ne (t := 38) hD rfl rfl ⟨by omega, by omega⟩ (fun c32 => ?_) (fun c32 => ?_)
    · show gv_X _ _ (38, [(2, .inr (.inl (J 23 9))), (0, .inr (.inr (some 39))), (1, .inr (.inr (some a1)))], [], sh, gc_h sh I25 J26 A)
      refine gv_run 2 true hD (pc' := 40) (lv' := [(2, .inr (.inl (J 23 9))), (0, .inr (.inr (some 39))), (1, .inr (.inr (some a1)))]) (st' := [.inr (.inl (J 23 9)), .inr (.inr (some a1))]) (h' := gc_h sh I25 J26 A) (C := ((True ∧ True) ∧ True)) rfl ⟨⟨trivial, trivial⟩, trivial⟩ ?_
      obtain ⟨r33, h33, E33, P33⟩ := d_X4_put (ws0 := ws0) (tb := tb) hws htb sh ro I25 J26 A hI25 a1 n ρ (J 23 9) h_a1     
      obtain ⟨I34, J35, rfl, hI34, g33, k33, ⟨rfl, q33⟩⟩ := P33
      have FI34 := gc_frc (W := fun q j => (q = 39 ∧ j = 3) ∨ (q = 39 ∧ j = 4) ∨ (q = 23 ∧ j = 5) ∨ (q = 23 ∧ j = 6) ∨ (q = 23 ∧ j = 7) ∨ (q = 23 ∧ j = 8) ∨ (q = a1 ∧ j = 1)) (V := fun q j => (q = a1 ∧ j = 1)) FI25 (fun q j h => (Or.inr (Or.inr (Or.inr (Or.inr (Or.inr (Or.inr h))))))) g33
      have FJ35 := gc_frc (W := fun q j => (q = 23 ∧ j = 9) ∨ q = (a1 + 1)) (V := fun q j => q = (a1 + 1)) FJ26 (fun q j h => (Or.inr h)) k33
      have t36 := (g33 23 1).resolve_left (fun h => absurd h.1 N_23__a1)
      have t37 := (g33 23 5).resolve_left (fun h => absurd h.2 (by decide))
      have t38 := (g33 23 6).resolve_left (fun h => absurd h.2 (by decide))
      have t39 := (g33 23 7).resolve_left (fun h => absurd h.2 (by decide))
      have KLT_I34 := gc_LT_fr KLT_I25 ((g33 23 5).resolve_left (fun h => absurd h.2 (by decide))) ((g33 23 6).resolve_left (fun h => absurd h.2 (by decide))) ((g33 23 7).resolve_left (fun h => absurd h.2 (by decide))) (fun k => (g33 24 k).resolve_left (fun h => absurd h.1 N_24__a1))
      have KTK_I34 := gc_TK_fr KTK_I25 ((g33 23 1).resolve_left (fun h => absurd h.1 N_23__a1)) ((g33 23 5).resolve_left (fun h => absurd h.2 (by decide))) ((g33 23 6).resolve_left (fun h => absurd h.2 (by decide))) ((g33 23 7).resolve_left (fun h => absurd h.2 (by decide)))
      refine gv_callV hD rfl (As := [.inr (.inl (J 23 9))]) (st := []) rfl B_a1 S_a1 rfl (gc_lV6 hws rfl) (Nat.le_of_ble_eq_true rfl) (gz_Ev_mono (d := 1) (by decide) E33) ?_
      show gv_X _ _ (43, [(2, .inr (.inl (J 23 9))), (0, .inr (.inr (some 39))), (1, .inr (.inr (some a1)))], [], sh, gc_h sh I34 J35 A)
      refine gv_run 1 true hD (pc' := 44) (lv' := [(2, .inr (.inl (J 23 9))), (0, .inr (.inr (some 39))), (1, .inr (.inr (some a1)))]) (st' := [.inl 1]) (h' := gc_h sh I34 J35 A) (C := (True ∧ True)) rfl ⟨trivial, trivial⟩ ?_
      exact gv_zret hD rfl (by omega) ⟨I34, J35, rfl, hI34, FI34, FJ35, KLT_I34, KTK_I34, ⟨_, rfl, by omega⟩⟩
    · show gv_X _ _ (36, [(2, .inr (.inl (J 23 9))), (0, .inr (.inr (some 39))), (1, .inr (.inr (some a1)))], [], sh, gc_h sh I25 J26 A)
      refine gv_run 1 true hD (pc' := 37) (lv' := [(2, .inr (.inl (J 23 9))), (0, .inr (.inr (some 39))), (1, .inr (.inr (some a1)))]) (st' := [.inl 0]) (h' := gc_h sh I25 J26 A) (C := (True ∧ True)) rfl ⟨trivial, trivial⟩ ?_
      exact gv_zret hD rfl (by omega) ⟨I25, J26, rfl, hI25, FI25, FJ26, KLT_I25, KTK_I25, ⟨_, rfl, by omega⟩⟩
  · show gv_X _ _ (8, [(0, .inr (.inr (some 39))), (1, .inr (.inr (some a1)))], [], sh, gc_h sh I7 J A)
    refine gv_run 1 true hD (pc' := 9) (lv' := [(0, .inr (.inr (some 39))), (1, .inr (.inr (some a1)))]) (st' := [.inl 0]) (h' := gc_h sh I7 J A) (C := (True ∧ True)) rfl ⟨trivial, trivial⟩ ?_
    exact gv_zret hD rfl (by omega) ⟨I7, J, rfl, hI7, FI7, FJ, KLT_I7, KTK_I7, ⟨_, rfl, by omega⟩⟩
