set_option maxHeartbeats 4000000 in
set_option maxRecDepth 100000 in
theorem d_X6_readContext {ws0 : List Cond} {tb : String → gz_T} (hws : gc_Ws ws0) (htb : gc_tbs tb) (sh : gz_Sh) (ro : Nat → Nat) (I : gr_I) (J : gr_J) (A : gc_A) (hI : gc_Inv ro I) (t : Nat) (a1 : Int) (hb : gc_Base sh ro A) (h_t : gc_isTongue sh ro A t) (G_t : 144 ≤ t) (ha1 : 0 ≤ a1 ∧ a1 ≤ 22) (x0 : I 23 5 ≤ I 23 6) (x1 : I 23 7 = 5 ∨ I 23 6 ≤ I 23 1) (x2 : I 23 5 ≤ I 23 1) (x3 : I 23 7 = 4 ∨ (I 23 5 < I 23 6 ∧ I 23 5 < I 23 1)) (x4 : I 23 7 = 3 → 2 ≤ I 23 6 - I 23 5 ∧ I 23 6 - I 23 5 ≤ 14) (x5 : I 1 17 + I 23 1 ≤ 1280 + I 23 5) (x6 : (a1 = 0 ∨ a1 = 7 ∨ a1 = 10 ∨ a1 = 13 ∨ a1 = 16 ∨ a1 = 19 ∨ a1 = 22)) (x7 : I 39 2 = (t : Int)) (KLT_I : gc_LT I) (KRS_I : gc_row 41 25 gc_fS I) (KRC_I : gc_RC I) : ∃ r h', gz_Ev ws0 tb 4 (yX6_readContext, cX6_readContext, 2, (some .boolean)) [.inr (.inr (some 39)), .inl a1] sh (gc_h sh I J A) r sh h' 0 0 ∧ (∃ (I' : gr_I) (J' : gr_J), h' = gc_h sh I' J' A ∧ gc_Inv ro I' ∧ (∀ q j : Nat, ((q = 39 ∧ j = 3) ∨ (q = 39 ∧ j = 4) ∨ (q = 23 ∧ j = 5) ∨ (q = 23 ∧ j = 6) ∨ (q = 23 ∧ j = 7) ∨ (q = 23 ∧ j = 8) ∨ (q = 1 ∧ j = 17) ∨ (q = 1 ∧ j = 18) ∨ q = 20 ∨ (q = 41 ∧ j = (Int.toNat a1)) ∨ (q = 41 ∧ j = (Int.toNat (a1 + 1))) ∨ (q = 41 ∧ j = (Int.toNat (a1 + 2)))) ∨ I' q j = I q j) ∧ (∀ q j : Nat, ((q = 23 ∧ j = 9)) ∨ J' q j = J q j) ∧ gc_LT I' ∧ gc_row 41 25 gc_fS I' ∧ gc_RC I' ∧ (∃ z : Int, r = some (.inl z) ∧ 0 ≤ z ∧ z ≤ 1 ∧ (I' 23 5 ≤ I' 23 6) ∧ (I' 23 7 = 5 ∨ I' 23 6 ≤ I' 23 1) ∧ (I' 23 5 ≤ I' 23 1) ∧ (I' 23 7 = 4 ∨ (I' 23 5 < I' 23 6 ∧ I' 23 5 < I' 23 1)) ∧ (I' 23 7 = 3 → 2 ≤ I' 23 6 - I' 23 5 ∧ I' 23 6 - I' 23 5 ≤ 14) ∧ (I' 23 1 = I 23 1) ∧ (I 23 5 ≤ I' 23 5) ∧ (I' 1 17 + I' 23 1 ≤ 1280 + I' 23 5))) := by
  have FI : ∀ q j : Nat, ((q = 39 ∧ j = 3) ∨ (q = 39 ∧ j = 4) ∨ (q = 23 ∧ j = 5) ∨ (q = 23 ∧ j = 6) ∨ (q = 23 ∧ j = 7) ∨ (q = 23 ∧ j = 8) ∨ (q = 1 ∧ j = 17) ∨ (q = 1 ∧ j = 18) ∨ q = 20 ∨ (q = 41 ∧ j = (Int.toNat a1)) ∨ (q = 41 ∧ j = (Int.toNat (a1 + 1))) ∨ (q = 41 ∧ j = (Int.toNat (a1 + 2)))) ∨ I q j = I q j := fun _ _ => Or.inr rfl
  have FJ : ∀ q j : Nat, ((q = 23 ∧ j = 9)) ∨ J q j = J q j := fun _ _ => Or.inr rfl
  have A_39_1 : A 39 1 = some 23 := gc_bA hb rfl
  have A_39_10 : A 39 10 = some 41 := gc_bA hb rfl
  have B_23 : 23 < 1000000 := by decide
  have B_39 : 39 < 1000000 := by decide
  have B_41 : 41 < 1000000 := by decide
  have R_1 : ro 1 = 22 := gc_bR hb (by decide) rfl
  have R_23 : ro 23 = 3 := gc_bR hb (by decide) rfl
  have R_39 : ro 39 = 42 := gc_bR hb (by decide) rfl
  have R_41 : ro 41 = 0 := gc_bR hb (by decide) rfl
  have S_23 : sh[23]? = some (false, 9, 10) := gc_bS hb rfl
  have S_39 : sh[39]? = some (false, 6, 19) := gc_bS hb rfl
  have S_41 : sh[41]? = some (true, 1, 25) := gc_bS hb rfl
  obtain ⟨S_t, R_t, B_t, A_t_0, h_t_1, A_t_1, h_t_3, A_t_2, S_t_5, R_t_5, B_t_5, A_t_3, S_t_6, R_t_6, B_t_6, A_t_4, h_t_7, A_t_5, S_t_9, R_t_9, B_t_9, A_t_7, S_t_10, R_t_10, B_t_10, A_t_8, h_t_11, A_t_9, S_t_13, R_t_13, B_t_13, A_t_10, S_t_14, R_t_14, B_t_14, A_t_12, S_t_15, R_t_15, B_t_15, A_t_14, S_t_16, R_t_16, B_t_16, A_t_15, h_t_17⟩ := id h_t
  obtain ⟨S_t_1, R_t_1, B_t_1, A_t_1_0, S_t_1_1, R_t_1_1, B_t_1_1, Q0_t_1, Q1_t_1, Q2_t_1⟩ := id h_t_1
  obtain ⟨S_t_3, R_t_3, B_t_3, A_t_3_0, S_t_3_1, R_t_3_1, B_t_3_1, Q0_t_3, Q1_t_3, Q2_t_3⟩ := id h_t_3
  obtain ⟨S_t_7, R_t_7, B_t_7, A_t_7_0, S_t_7_1, R_t_7_1, B_t_7_1, Q0_t_7, Q1_t_7, Q2_t_7⟩ := id h_t_7
  obtain ⟨S_t_11, R_t_11, B_t_11, A_t_11_0, S_t_11_1, R_t_11_1, B_t_11_1, Q0_t_11, Q1_t_11, Q2_t_11⟩ := id h_t_11
  obtain ⟨S_t_17, R_t_17, B_t_17, A_t_17_0, S_20, R_20, B_20, A_t_17_1, S_t_17_1, R_t_17_1, B_t_17_1, A_t_17_2, S_t_17_2, R_t_17_2, B_t_17_2, A_t_17_3, S_t_17_3, R_t_17_3, B_t_17_3, A_t_17_4, S_t_17_4, R_t_17_4, B_t_17_4, A_t_17_5, S_t_17_5, R_t_17_5, B_t_17_5, S_t_17_6, R_t_17_6, B_t_17_6, S_t_17_7, R_t_17_7, B_t_17_7⟩ := id h_t_17
  have hD : gv_D (gc_E6 ws0 tb 3 (yX6_readContext, cX6_readContext, 2, (some .boolean)) kX6_readContext) := gq_ok oX6_readContext
  refine gc_ev6 (d := 3) (l := kX6_readContext) (Po := fun r h' => (∃ (I' : gr_I) (J' : gr_J), h' = gc_h sh I' J' A ∧ gc_Inv ro I' ∧ (∀ q j : Nat, ((q = 39 ∧ j = 3) ∨ (q = 39 ∧ j = 4) ∨ (q = 23 ∧ j = 5) ∨ (q = 23 ∧ j = 6) ∨ (q = 23 ∧ j = 7) ∨ (q = 23 ∧ j = 8) ∨ (q = 1 ∧ j = 17) ∨ (q = 1 ∧ j = 18) ∨ q = 20 ∨ (q = 41 ∧ j = (Int.toNat a1)) ∨ (q = 41 ∧ j = (Int.toNat (a1 + 1))) ∨ (q = 41 ∧ j = (Int.toNat (a1 + 2)))) ∨ I' q j = I q j) ∧ (∀ q j : Nat, ((q = 23 ∧ j = 9)) ∨ J' q j = J q j) ∧ gc_LT I' ∧ gc_row 41 25 gc_fS I' ∧ gc_RC I' ∧ (∃ z : Int, r = some (.inl z) ∧ 0 ≤ z ∧ z ≤ 1 ∧ (I' 23 5 ≤ I' 23 6) ∧ (I' 23 7 = 5 ∨ I' 23 6 ≤ I' 23 1) ∧ (I' 23 5 ≤ I' 23 1) ∧ (I' 23 7 = 4 ∨ (I' 23 5 < I' 23 6 ∧ I' 23 5 < I' 23 1)) ∧ (I' 23 7 = 3 → 2 ≤ I' 23 6 - I' 23 5 ∧ I' 23 6 - I' 23 5 ≤ 14) ∧ (I' 23 1 = I 23 1) ∧ (I 23 5 ≤ I' 23 5) ∧ (I' 1 17 + I' 23 1 ≤ 1280 + I' 23 5)))) htb rfl (Nat.le_of_ble_eq_true rfl) ?_
  have f1 := (show 0 ≤ I 23 1 ∧ I 23 1 ≤ 1000 from gc_in hI R_23 rfl rfl)
  have f2 := (show 0 ≤ I 23 5 ∧ I 23 5 ≤ 1000 from gc_in hI R_23 rfl rfl)
  have f3 := (show 0 ≤ I 23 6 ∧ I 23 6 ≤ 1001 from gc_in hI R_23 rfl rfl)
  have f4 := (show 0 ≤ I 23 7 ∧ I 23 7 ≤ 125 from gc_in hI R_23 rfl rfl)
  have f5 := (show 0 ≤ I 1 17 ∧ I 1 17 ≤ 12000 from gc_in hI R_1 rfl rfl)
  have f6 := (show 0 ≤ I (t + 7) 1 ∧ I (t + 7) 1 ≤ 16 from gc_in hI R_t_7 rfl rfl)
  have f7 := (show (-1) ≤ I 39 2 ∧ I 39 2 ≤ 999999 from gc_in hI R_39 rfl rfl)
  have L121 : ∀ (I8 : gr_I) (J9 : gr_J) , gc_Inv ro I8 → (∀ q j : Nat, ((q = 39 ∧ j = 3) ∨ (q = 39 ∧ j = 4) ∨ (q = 23 ∧ j = 5) ∨ (q = 23 ∧ j = 6) ∨ (q = 23 ∧ j = 7) ∨ (q = 23 ∧ j = 8) ∨ (q = 1 ∧ j = 17) ∨ (q = 1 ∧ j = 18) ∨ q = 20 ∨ (q = 41 ∧ j = (Int.toNat a1)) ∨ (q = 41 ∧ j = (Int.toNat (a1 + 1))) ∨ (q = 41 ∧ j = (Int.toNat (a1 + 2)))) ∨ I8 q j = I q j) → (∀ q j : Nat, ((q = 23 ∧ j = 9)) ∨ J9 q j = J q j) → gc_LT I8 → gc_row 41 25 gc_fS I8 → ((I8 41 (Int.toNat a1) = 1 → I8 41 (Int.toNat (a1 + 1)) ≤ 15) ∧ (I 23 7 = 1 ∨ I 23 7 = 3 ∨ I 23 7 = 35) ∧ (I8 23 7 = I 23 7) ∧ (I8 23 6 = I 23 6) ∧ (I8 23 5 = I 23 5) ∧ (I8 1 17 ≤ I 1 17 ∨ I8 1 17 ≤ I 1 17 + I 23 6 - I 23 5) ∧ (I8 23 5 ≤ I8 23 6) ∧ (I8 23 7 = 5 ∨ I8 23 6 ≤ I8 23 1) ∧ (I8 23 5 ≤ I8 23 1) ∧ (I8 23 7 = 4 ∨ (I8 23 5 < I8 23 6 ∧ I8 23 5 < I8 23 1)) ∧ (I8 23 7 = 3 → 2 ≤ I8 23 6 - I8 23 5 ∧ I8 23 6 - I8 23 5 ≤ 14) ∧ (I8 23 1 = I 23 1) ∧ (I 23 5 ≤ I8 23 5) ∧ (I8 39 2 = (t : Int))) → gv_X (gc_E6 ws0 tb 3 (yX6_readContext, cX6_readContext, 2, (some .boolean)) kX6_readContext) (gv_Q cX6_readContext (some .boolean) sh (fun r h' => (∃ (I' : gr_I) (J' : gr_J), h' = gc_h sh I' J' A ∧ gc_Inv ro I' ∧ (∀ q j : Nat, ((q = 39 ∧ j = 3) ∨ (q = 39 ∧ j = 4) ∨ (q = 23 ∧ j = 5) ∨ (q = 23 ∧ j = 6) ∨ (q = 23 ∧ j = 7) ∨ (q = 23 ∧ j = 8) ∨ (q = 1 ∧ j = 17) ∨ (q = 1 ∧ j = 18) ∨ q = 20 ∨ (q = 41 ∧ j = (Int.toNat a1)) ∨ (q = 41 ∧ j = (Int.toNat (a1 + 1))) ∨ (q = 41 ∧ j = (Int.toNat (a1 + 2)))) ∨ I' q j = I q j) ∧ (∀ q j : Nat, ((q = 23 ∧ j = 9)) ∨ J' q j = J q j) ∧ gc_LT I' ∧ gc_row 41 25 gc_fS I' ∧ gc_RC I' ∧ (∃ z : Int, r = some (.inl z) ∧ 0 ≤ z ∧ z ≤ 1 ∧ (I' 23 5 ≤ I' 23 6) ∧ (I' 23 7 = 5 ∨ I' 23 6 ≤ I' 23 1) ∧ (I' 23 5 ≤ I' 23 1) ∧ (I' 23 7 = 4 ∨ (I' 23 5 < I' 23 6 ∧ I' 23 5 < I' 23 1)) ∧ (I' 23 7 = 3 → 2 ≤ I' 23 6 - I' 23 5 ∧ I' 23 6 - I' 23 5 ≤ 14) ∧ (I' 23 1 = I 23 1) ∧ (I 23 5 ≤ I' 23 5) ∧ (I' 1 17 + I' 23 1 ≤ 1280 + I' 23 5))))) (121, [(0, .inr (.inr (some 39)))], [], sh, gc_h sh I8 J9 A) := by
    intro I8 J9 hI8 FI8 FJ9 KLT_I8 KRS_I8 m_10
    clear x0 x1 x2 x3 x4
    obtain ⟨e0_10, e1_10, e2_10, e3_10, e4_10, e5_10, e6_10, e7_10, e8_10, e9_10, e10_10, e11_10, e12_10, e13_10⟩ := m_10
    have f11 := (show 0 ≤ I8 23 1 ∧ I8 23 1 ≤ 1000 from gc_in hI8 R_23 rfl rfl)
    have f12 := (show 0 ≤ I8 23 5 ∧ I8 23 5 ≤ 1000 from gc_in hI8 R_23 rfl rfl)
    have f13 := (show 0 ≤ I8 23 6 ∧ I8 23 6 ≤ 1001 from gc_in hI8 R_23 rfl rfl)
    have f14 := (show 0 ≤ I8 23 7 ∧ I8 23 7 ≤ 125 from gc_in hI8 R_23 rfl rfl)
    have f15 := (show 0 ≤ I8 1 17 ∧ I8 1 17 ≤ 12000 from gc_in hI8 R_1 rfl rfl)
    have f16 := (show 0 ≤ I8 (t + 7) 1 ∧ I8 (t + 7) 1 ≤ 16 from gc_in hI8 R_t_7 rfl rfl)
    have f17 := (show (-1) ≤ I8 39 2 ∧ I8 39 2 ≤ 999999 from gc_in hI8 R_39 rfl rfl)
    refine gv_run 1 true hD (pc' := 122) (lv' := [(0, .inr (.inr (some 39)))]) (st' := [.inr (.inr (some 39))]) (h' := gc_h sh I8 J9 A) (C := (True ∧ True)) rfl ⟨trivial, trivial⟩ ?_
    refine gv_get hD rfl rfl S_39 ⟨by decide, B_39⟩ (gc_hA S_39 rfl A_39_1) ?_
    show gv_X _ _ (125, [(0, .inr (.inr (some 39)))], [.inr (.inr (some 23))], sh, gc_h sh I8 J9 A)
    obtain ⟨r18, h18, E18, P18⟩ := d_X9_advance (ws0 := ws0) (tb := tb) hws htb sh ro I8 J9 A hI8 23  (gc_b23 hb)    (by omega) 
    obtain ⟨I19, J20, rfl, hI19, g18, k18, ⟨rfl, q18⟩⟩ := P18
    have FI19 := gc_frc (W := fun q j => (q = 39 ∧ j = 3) ∨ (q = 39 ∧ j = 4) ∨ (q = 23 ∧ j = 5) ∨ (q = 23 ∧ j = 6) ∨ (q = 23 ∧ j = 7) ∨ (q = 23 ∧ j = 8) ∨ (q = 1 ∧ j = 17) ∨ (q = 1 ∧ j = 18) ∨ q = 20 ∨ (q = 41 ∧ j = (Int.toNat a1)) ∨ (q = 41 ∧ j = (Int.toNat (a1 + 1))) ∨ (q = 41 ∧ j = (Int.toNat (a1 + 2)))) (V := fun q j => (q = 23 ∧ j = 5) ∨ (q = 23 ∧ j = 6) ∨ (q = 23 ∧ j = 7) ∨ (q = 23 ∧ j = 8)) FI8 (fun q j h => (h.elim (fun h => (Or.inr (Or.inr (Or.inl h)))) (fun h => (h.elim (fun h => (Or.inr (Or.inr (Or.inr (Or.inl h))))) (fun h => (h.elim (fun h => (Or.inr (Or.inr (Or.inr (Or.inr (Or.inl h)))))) (fun h => (Or.inr (Or.inr (Or.inr (Or.inr (Or.inr (Or.inl h))))))))))))) g18
    have FJ20 := gc_frc (W := fun q j => (q = 23 ∧ j = 9)) (V := fun q j => (q = 23 ∧ j = 9)) FJ9 (fun q j h => h) k18
    have t21 := (g18 23 1).resolve_left (by omega)
    have t22 := (g18 1 17).resolve_left (by omega)
    have t23 := (g18 (t + 7) 1).resolve_left (by omega)
    have t24 := (g18 39 2).resolve_left (by omega)
    have t25 := (g18 41 (Int.toNat a1)).resolve_left (by omega)
    have t26 := (g18 41 (Int.toNat (a1 + 1))).resolve_left (by omega)
    have f27 := (show 0 ≤ I19 23 1 ∧ I19 23 1 ≤ 1000 from gc_in hI19 R_23 rfl rfl)
    have f28 := (show 0 ≤ I19 23 5 ∧ I19 23 5 ≤ 1000 from gc_in hI19 R_23 rfl rfl)
    have f29 := (show 0 ≤ I19 23 6 ∧ I19 23 6 ≤ 1001 from gc_in hI19 R_23 rfl rfl)
    have f30 := (show 0 ≤ I19 23 7 ∧ I19 23 7 ≤ 125 from gc_in hI19 R_23 rfl rfl)
    have f31 := (show 0 ≤ I19 1 17 ∧ I19 1 17 ≤ 12000 from gc_in hI19 R_1 rfl rfl)
    have f32 := (show 0 ≤ I19 (t + 7) 1 ∧ I19 (t + 7) 1 ≤ 16 from gc_in hI19 R_t_7 rfl rfl)
    have f33 := (show (-1) ≤ I19 39 2 ∧ I19 39 2 ≤ 999999 from gc_in hI19 R_39 rfl rfl)
    have KLT_I19 : gc_LT I19 := q18.2.2.2.2.2.2.2
    have KRS_I19 := gc_row_fr KRS_I8 (fun k => (g18 41 k).resolve_left (by omega))
    refine gv_callV hD rfl (As := []) (st := []) rfl B_23 S_23 rfl (gc_lV6 hws rfl) (Nat.le_of_ble_eq_true rfl) (gz_Ev_mono (d := 2) (by decide) E18) ?_
    show gv_X _ _ (128, [(0, .inr (.inr (some 39)))], [], sh, gc_h sh I19 J20 A)
    refine gv_run 1 true hD (pc' := 129) (lv' := [(0, .inr (.inr (some 39)))]) (st' := [.inl 1]) (h' := gc_h sh I19 J20 A) (C := (True ∧ True)) rfl ⟨trivial, trivial⟩ ?_
    exact gv_zret hD rfl (by omega) ⟨I19, J20, rfl, hI19, FI19, FJ20, KLT_I19, KRS_I19, (gc_RC_ctx KRC_I (by omega) (fun j h1 h2 h3 => (FI19 41 j).resolve_left (by omega)) (by omega)), ⟨_, rfl, by omega⟩⟩
  refine gv_run 1 true hD (pc' := 1) (lv' := [(0, .inr (.inr (some 39))), (1, .inl a1)]) (st' := [.inr (.inr (some 39))]) (h' := gc_h sh I J A) (C := (True ∧ True)) rfl ⟨trivial, trivial⟩ ?_
  refine gv_get hD rfl rfl S_39 ⟨by decide, B_39⟩ (gc_hA S_39 rfl A_39_1) ?_
  show gv_X _ _ (4, [(0, .inr (.inr (some 39))), (1, .inl a1)], [.inr (.inr (some 23))], sh, gc_h sh I J A)
  have f34 := (show 0 ≤ I 23 7 ∧ I 23 7 ≤ 125 from gc_in hI R_23 rfl rfl)
  refine gv_get hD rfl rfl S_23 ⟨by decide, B_23⟩ (gc_hI S_23 rfl) ?_
  show gv_X _ _ (7, [(0, .inr (.inr (some 39))), (1, .inl a1)], [.inl (I 23 7)], sh, gc_h sh I J A)
  refine gv_run 1 true hD (pc' := 9) (lv' := [(0, .inr (.inr (some 39))), (1, .inl a1)]) (st' := [.inl 35, .inl (I 23 7)]) (h' := gc_h sh I J A) (C := (True ∧ True)) rfl ⟨trivial, trivial⟩ ?_
  refine gv_icmp_ne (t := 22) hD rfl rfl ⟨⟨by omega, by omega⟩, ⟨by omega, by omega⟩⟩ (fun c35 => ?_) (fun c35 => ?_)
  · show gv_X _ _ (22, [(0, .inr (.inr (some 39))), (1, .inl a1)], [], sh, gc_h sh I J A)
    refine gv_run 1 true hD (pc' := 23) (lv' := [(0, .inr (.inr (some 39))), (1, .inl a1)]) (st' := [.inr (.inr (some 39))]) (h' := gc_h sh I J A) (C := (True ∧ True)) rfl ⟨trivial, trivial⟩ ?_
    refine gv_get hD rfl rfl S_39 ⟨by decide, B_39⟩ (gc_hA S_39 rfl A_39_1) ?_
    show gv_X _ _ (26, [(0, .inr (.inr (some 39))), (1, .inl a1)], [.inr (.inr (some 23))], sh, gc_h sh I J A)
    have f36 := (show 0 ≤ I 23 7 ∧ I 23 7 ≤ 125 from gc_in hI R_23 rfl rfl)
    refine gv_get hD rfl rfl S_23 ⟨by decide, B_23⟩ (gc_hI S_23 rfl) ?_
    show gv_X _ _ (29, [(0, .inr (.inr (some 39))), (1, .inl a1)], [.inl (I 23 7)], sh, gc_h sh I J A)
    refine gv_run 1 true hD (pc' := 30) (lv' := [(0, .inr (.inr (some 39))), (1, .inl a1)]) (st' := [.inl 3, .inl (I 23 7)]) (h' := gc_h sh I J A) (C := (True ∧ True)) rfl ⟨trivial, trivial⟩ ?_
    refine gv_icmp_ne (t := 70) hD rfl rfl ⟨⟨by omega, by omega⟩, ⟨by omega, by omega⟩⟩ (fun c37 => ?_) (fun c37 => ?_)
    · show gv_X _ _ (70, [(0, .inr (.inr (some 39))), (1, .inl a1)], [], sh, gc_h sh I J A)
      refine gv_run 2 true hD (pc' := 72) (lv' := [(0, .inr (.inr (some 39))), (1, .inl a1)]) (st' := [.inr (.inr (some 39)), .inr (.inr (some 39))]) (h' := gc_h sh I J A) (C := ((True ∧ True) ∧ True)) rfl ⟨⟨trivial, trivial⟩, trivial⟩ ?_
      refine gv_get hD rfl rfl S_39 ⟨by decide, B_39⟩ (gc_h5 (t := t) S_39 rfl (by omega)) ?_
      show gv_X _ _ (75, [(0, .inr (.inr (some 39))), (1, .inl a1)], [.inr (.inr (some t)), .inr (.inr (some 39))], sh, gc_h sh I J A)
      refine gv_get hD rfl rfl S_t ⟨by decide, B_t⟩ (gc_hA S_t rfl A_t_4) ?_
      show gv_X _ _ (78, [(0, .inr (.inr (some 39))), (1, .inl a1)], [.inr (.inr (some (t + 7))), .inr (.inr (some 39))], sh, gc_h sh I J A)
      obtain ⟨r38, h38, E38, P38⟩ := d_X6_needKnown (ws0 := ws0) (tb := tb) hws htb sh ro I J A hI  16 7 (t + 7) hb h_t_7    
      obtain ⟨I39, J40, rfl, hI39, g38, k38, ⟨z38, rfl, q38⟩⟩ := P38
      have FI39 := gc_frc (W := fun q j => (q = 39 ∧ j = 3) ∨ (q = 39 ∧ j = 4) ∨ (q = 23 ∧ j = 5) ∨ (q = 23 ∧ j = 6) ∨ (q = 23 ∧ j = 7) ∨ (q = 23 ∧ j = 8) ∨ (q = 1 ∧ j = 17) ∨ (q = 1 ∧ j = 18) ∨ q = 20 ∨ (q = 41 ∧ j = (Int.toNat a1)) ∨ (q = 41 ∧ j = (Int.toNat (a1 + 1))) ∨ (q = 41 ∧ j = (Int.toNat (a1 + 2)))) (V := fun q j => (q = 39 ∧ j = 3) ∨ (q = 39 ∧ j = 4)) FI (fun q j h => (h.elim (fun h => (Or.inl h)) (fun h => (Or.inr (Or.inl h))))) g38
      have t41 := (g38 23 1).resolve_left (by omega)
      have t42 := (g38 23 5).resolve_left (by omega)
      have t43 := (g38 23 6).resolve_left (by omega)
      have t44 := (g38 23 7).resolve_left (by omega)
      have t45 := (g38 1 17).resolve_left (by omega)
      have t46 := (g38 (t + 7) 1).resolve_left (by omega)
      have t47 := (g38 39 2).resolve_left (by omega)
      have t48 := (g38 41 (Int.toNat a1)).resolve_left (by omega)
      have t49 := (g38 41 (Int.toNat (a1 + 1))).resolve_left (by omega)
      have f50 := (show 0 ≤ I39 23 1 ∧ I39 23 1 ≤ 1000 from gc_in hI39 R_23 rfl rfl)
      have f51 := (show 0 ≤ I39 23 5 ∧ I39 23 5 ≤ 1000 from gc_in hI39 R_23 rfl rfl)
      have f52 := (show 0 ≤ I39 23 6 ∧ I39 23 6 ≤ 1001 from gc_in hI39 R_23 rfl rfl)
      have f53 := (show 0 ≤ I39 23 7 ∧ I39 23 7 ≤ 125 from gc_in hI39 R_23 rfl rfl)
      have f54 := (show 0 ≤ I39 1 17 ∧ I39 1 17 ≤ 12000 from gc_in hI39 R_1 rfl rfl)
      have f55 := (show 0 ≤ I39 (t + 7) 1 ∧ I39 (t + 7) 1 ≤ 16 from gc_in hI39 R_t_7 rfl rfl)
      have f56 := (show (-1) ≤ I39 39 2 ∧ I39 39 2 ≤ 999999 from gc_in hI39 R_39 rfl rfl)
      obtain rfl : J = J40 := funext fun q => funext fun j => ((k38 q j).resolve_left id).symm
      have KLT_I39 := gc_LT_fr KLT_I ((g38 23 5).resolve_left (by omega)) ((g38 23 6).resolve_left (by omega)) ((g38 23 7).resolve_left (by omega)) (fun k => (g38 24 k).resolve_left (by omega))
      have KRS_I39 := gc_row_fr KRS_I (fun k => (g38 41 k).resolve_left (by omega))
      have KRC_I39 := gc_RC_fr KRC_I (fun k => (g38 41 k).resolve_left (by omega))
      refine gv_callV hD rfl (As := [.inr (.inr (some (t + 7)))]) (st := []) rfl B_39 S_39 rfl (gc_lV6 hws rfl) (Nat.le_of_ble_eq_true rfl) (gz_Ev_mono (d := 3) (by decide) E38) ?_
      show gv_X _ _ (81, [(0, .inr (.inr (some 39))), (1, .inl a1)], [.inl z38], sh, gc_h sh I39 J A)
      refine gv_if_eq (t := 119) hD rfl rfl ⟨by omega, by omega⟩ (fun c57 => ?_) (fun c57 => ?_)
      · show gv_X _ _ (119, [(0, .inr (.inr (some 39))), (1, .inl a1)], [], sh, gc_h sh I39 J A)
        refine gv_run 1 true hD (pc' := 120) (lv' := [(0, .inr (.inr (some 39))), (1, .inl a1)]) (st' := [.inl 0]) (h' := gc_h sh I39 J A) (C := (True ∧ True)) rfl ⟨trivial, trivial⟩ ?_
        exact gv_zret hD rfl (by omega) ⟨I39, J, rfl, hI39, FI39, FJ, KLT_I39, KRS_I39, KRC_I39, ⟨_, rfl, by omega⟩⟩
      · show gv_X _ _ (84, [(0, .inr (.inr (some 39))), (1, .inl a1)], [], sh, gc_h sh I39 J A)
        refine gv_run 1 true hD (pc' := 85) (lv' := [(0, .inr (.inr (some 39))), (1, .inl a1)]) (st' := [.inr (.inr (some 39))]) (h' := gc_h sh I39 J A) (C := (True ∧ True)) rfl ⟨trivial, trivial⟩ ?_
        refine gv_get hD rfl rfl S_39 ⟨by decide, B_39⟩ (gc_hA S_39 rfl A_39_10) ?_
        show gv_X _ _ (88, [(0, .inr (.inr (some 39))), (1, .inl a1)], [.inr (.inr (some 41))], sh, gc_h sh I39 J A)
        refine gv_run 2 true hD (pc' := 90) (lv' := [(0, .inr (.inr (some 39))), (1, .inl a1)]) (st' := [.inl 1, .inl a1, .inr (.inr (some 41))]) (h' := gc_h sh I39 J A) (C := ((True ∧ True) ∧ True)) rfl ⟨⟨trivial, trivial⟩, trivial⟩ ?_
        refine gv_iast hD rfl S_41 ⟨by decide, B_41⟩ ⟨by omega, by omega⟩ ?_
        refine gc_st hI39 S_41 rfl R_41 (lo := (-2147483648)) (hi := 2147483647) rfl rfl (by omega) (by omega) (fun I58 hI58 q59 p59 => ?_)
        have FI58 := gc_frs (W := fun q j => (q = 39 ∧ j = 3) ∨ (q = 39 ∧ j = 4) ∨ (q = 23 ∧ j = 5) ∨ (q = 23 ∧ j = 6) ∨ (q = 23 ∧ j = 7) ∨ (q = 23 ∧ j = 8) ∨ (q = 1 ∧ j = 17) ∨ (q = 1 ∧ j = 18) ∨ q = 20 ∨ (q = 41 ∧ j = (Int.toNat a1)) ∨ (q = 41 ∧ j = (Int.toNat (a1 + 1))) ∨ (q = 41 ∧ j = (Int.toNat (a1 + 2)))) FI39 (Or.inr (Or.inr (Or.inr (Or.inr (Or.inr (Or.inr (Or.inr (Or.inr (Or.inr (Or.inl ⟨rfl, rfl⟩)))))))))) p59
        have t60 := p59 23 1 (fun h => absurd h.1 (by omega))
        have t61 := p59 23 5 (fun h => absurd h.1 (by omega))
        have t62 := p59 23 6 (fun h => absurd h.1 (by omega))
        have t63 := p59 23 7 (fun h => absurd h.1 (by omega))
        have t64 := p59 1 17 (fun h => absurd h.1 (by omega))
        have t65 := p59 (t + 7) 1 (fun h => absurd h.1 (by omega))
        have t66 := p59 39 2 (fun h => absurd h.1 (by omega))
        have t67 := p59 41 (Int.toNat (a1 + 1)) (fun h => absurd h.2 (by omega))
        have f68 := (show 0 ≤ I58 23 1 ∧ I58 23 1 ≤ 1000 from gc_in hI58 R_23 rfl rfl)
        have f69 := (show 0 ≤ I58 23 5 ∧ I58 23 5 ≤ 1000 from gc_in hI58 R_23 rfl rfl)
        have f70 := (show 0 ≤ I58 23 6 ∧ I58 23 6 ≤ 1001 from gc_in hI58 R_23 rfl rfl)
        have f71 := (show 0 ≤ I58 23 7 ∧ I58 23 7 ≤ 125 from gc_in hI58 R_23 rfl rfl)
        have f72 := (show 0 ≤ I58 1 17 ∧ I58 1 17 ≤ 12000 from gc_in hI58 R_1 rfl rfl)
        have f73 := (show 0 ≤ I58 (t + 7) 1 ∧ I58 (t + 7) 1 ≤ 16 from gc_in hI58 R_t_7 rfl rfl)
        have f74 := (show (-1) ≤ I58 39 2 ∧ I58 39 2 ≤ 999999 from gc_in hI58 R_39 rfl rfl)
        have KLT_I58 := gc_LT_fr KLT_I39 (p59 23 5 (fun h => absurd h.1 (by omega))) (p59 23 6 (fun h => absurd h.1 (by omega))) (p59 23 7 (fun h => absurd h.1 (by omega))) (fun k => p59 24 k (fun h => absurd h.1 (by omega)))
        have KRS_I58 := gc_row_st KRS_I39 p59 q59 (by unfold gc_fS; omega)
        show gv_X _ _ (91, [(0, .inr (.inr (some 39))), (1, .inl a1)], [], sh, gc_h sh I58 J A)
        refine gv_run 1 true hD (pc' := 92) (lv' := [(0, .inr (.inr (some 39))), (1, .inl a1)]) (st' := [.inr (.inr (some 39))]) (h' := gc_h sh I58 J A) (C := (True ∧ True)) rfl ⟨trivial, trivial⟩ ?_
        refine gv_get hD rfl rfl S_39 ⟨by decide, B_39⟩ (gc_hA S_39 rfl A_39_10) ?_
        show gv_X _ _ (95, [(0, .inr (.inr (some 39))), (1, .inl a1)], [.inr (.inr (some 41))], sh, gc_h sh I58 J A)
        refine gv_run 4 true hD (pc' := 99) (lv' := [(0, .inr (.inr (some 39))), (1, .inl a1)]) (st' := [.inr (.inr (some 39)), .inl (a1 + 1), .inr (.inr (some 41))]) (h' := gc_h sh I58 J A) (C := ((((True ∧ True) ∧ True) ∧ True) ∧ True)) rfl ⟨⟨⟨⟨trivial, trivial⟩, trivial⟩, trivial⟩, trivial⟩ ?_
        refine gv_get hD rfl rfl S_39 ⟨by decide, B_39⟩ (gc_h5 (t := t) S_39 rfl (by omega)) ?_
        show gv_X _ _ (102, [(0, .inr (.inr (some 39))), (1, .inl a1)], [.inr (.inr (some t)), .inl (a1 + 1), .inr (.inr (some 41))], sh, gc_h sh I58 J A)
        refine gv_get hD rfl rfl S_t ⟨by decide, B_t⟩ (gc_hA S_t rfl A_t_4) ?_
        show gv_X _ _ (105, [(0, .inr (.inr (some 39))), (1, .inl a1)], [.inr (.inr (some (t + 7))), .inl (a1 + 1), .inr (.inr (some 41))], sh, gc_h sh I58 J A)
        refine gv_run 1 true hD (pc' := 106) (lv' := [(0, .inr (.inr (some 39))), (1, .inl a1)]) (st' := [.inr (.inr (some 39)), .inr (.inr (some (t + 7))), .inl (a1 + 1), .inr (.inr (some 41))]) (h' := gc_h sh I58 J A) (C := (True ∧ True)) rfl ⟨trivial, trivial⟩ ?_
        refine gv_get hD rfl rfl S_39 ⟨by decide, B_39⟩ (gc_hA S_39 rfl A_39_1) ?_
        show gv_X _ _ (109, [(0, .inr (.inr (some 39))), (1, .inl a1)], [.inr (.inr (some 23)), .inr (.inr (some (t + 7))), .inl (a1 + 1), .inr (.inr (some 41))], sh, gc_h sh I58 J A)
        refine gv_get hD rfl rfl S_23 ⟨by decide, B_23⟩ (gc_hJ S_23 rfl) ?_
        show gv_X _ _ (112, [(0, .inr (.inr (some 39))), (1, .inl a1)], [.inr (.inl (J 23 9)), .inr (.inr (some (t + 7))), .inl (a1 + 1), .inr (.inr (some 41))], sh, gc_h sh I58 J A)
        have t75 := (show gc_fd (J ((t + 7) + 1)) (J 23 9) (Int.toNat (I58 (t + 7) 1)) = gc_fd (J ((t + 7) + 1)) (J 23 9) (Int.toNat (I39 (t + 7) 1)) from by rw [show I58 (t + 7) 1 = I39 (t + 7) 1 from by omega])
        obtain ⟨r76, h76, E76, P76⟩ := d_X4_find (ws0 := ws0) (tb := tb) hws htb sh ro I58 J A hI58 (t + 7) 16 7 (J 23 9) h_t_7     
        obtain ⟨rfl, ⟨z76, rfl, q76⟩⟩ := P76
        refine gv_callV hD rfl (As := [.inr (.inl (J 23 9))]) (st := [.inl (a1 + 1), .inr (.inr (some 41))]) rfl B_t_7 S_t_7 rfl (gc_lV6 hws rfl) (Nat.le_of_ble_eq_true rfl) (gz_Ev_mono (d := 1) (by decide) E76) ?_
        show gv_X _ _ (115, [(0, .inr (.inr (some 39))), (1, .inl a1)], [.inl z76, .inl (a1 + 1), .inr (.inr (some 41))], sh, gc_h sh I58 J A)
        refine gv_iast hD rfl S_41 ⟨by decide, B_41⟩ ⟨by omega, by omega⟩ ?_
        refine gc_st hI58 S_41 rfl R_41 (lo := (-2147483648)) (hi := 2147483647) rfl rfl (by omega) (by omega) (fun I77 hI77 q78 p78 => ?_)
        have FI77 := gc_frs (W := fun q j => (q = 39 ∧ j = 3) ∨ (q = 39 ∧ j = 4) ∨ (q = 23 ∧ j = 5) ∨ (q = 23 ∧ j = 6) ∨ (q = 23 ∧ j = 7) ∨ (q = 23 ∧ j = 8) ∨ (q = 1 ∧ j = 17) ∨ (q = 1 ∧ j = 18) ∨ q = 20 ∨ (q = 41 ∧ j = (Int.toNat a1)) ∨ (q = 41 ∧ j = (Int.toNat (a1 + 1))) ∨ (q = 41 ∧ j = (Int.toNat (a1 + 2)))) FI58 (Or.inr (Or.inr (Or.inr (Or.inr (Or.inr (Or.inr (Or.inr (Or.inr (Or.inr (Or.inr (Or.inl ⟨rfl, rfl⟩))))))))))) p78
        have t79 := p78 23 1 (fun h => absurd h.1 (by omega))
        have t80 := p78 23 5 (fun h => absurd h.1 (by omega))
        have t81 := p78 23 6 (fun h => absurd h.1 (by omega))
        have t82 := p78 23 7 (fun h => absurd h.1 (by omega))
        have t83 := p78 1 17 (fun h => absurd h.1 (by omega))
        have t84 := p78 (t + 7) 1 (fun h => absurd h.1 (by omega))
        have t85 := p78 39 2 (fun h => absurd h.1 (by omega))
        have t86 := p78 41 (Int.toNat a1) (fun h => absurd h.2 (by omega))
        have f87 := (show 0 ≤ I77 23 1 ∧ I77 23 1 ≤ 1000 from gc_in hI77 R_23 rfl rfl)
        have f88 := (show 0 ≤ I77 23 5 ∧ I77 23 5 ≤ 1000 from gc_in hI77 R_23 rfl rfl)
        have f89 := (show 0 ≤ I77 23 6 ∧ I77 23 6 ≤ 1001 from gc_in hI77 R_23 rfl rfl)
        have f90 := (show 0 ≤ I77 23 7 ∧ I77 23 7 ≤ 125 from gc_in hI77 R_23 rfl rfl)
        have f91 := (show 0 ≤ I77 1 17 ∧ I77 1 17 ≤ 12000 from gc_in hI77 R_1 rfl rfl)
        have f92 := (show 0 ≤ I77 (t + 7) 1 ∧ I77 (t + 7) 1 ≤ 16 from gc_in hI77 R_t_7 rfl rfl)
        have f93 := (show (-1) ≤ I77 39 2 ∧ I77 39 2 ≤ 999999 from gc_in hI77 R_39 rfl rfl)
        have KLT_I77 := gc_LT_fr KLT_I58 (p78 23 5 (fun h => absurd h.1 (by omega))) (p78 23 6 (fun h => absurd h.1 (by omega))) (p78 23 7 (fun h => absurd h.1 (by omega))) (fun k => p78 24 k (fun h => absurd h.1 (by omega)))
        have KRS_I77 := gc_row_st KRS_I58 p78 q78 (by unfold gc_fS; omega)
        show gv_X _ _ (116, [(0, .inr (.inr (some 39))), (1, .inl a1)], [], sh, gc_h sh I77 J A)
        refine gv_run 1 true hD (pc' := 121) (lv' := [(0, .inr (.inr (some 39))), (1, .inl a1)]) (st' := []) (h' := gc_h sh I77 J A) (C := (True ∧ True)) rfl ⟨trivial, trivial⟩ ?_
        refine gv_pick [0] rfl ?_
        exact L121 I77 J hI77 FI77 FJ KLT_I77 KRS_I77 (by omega)
    · show gv_X _ _ (33, [(0, .inr (.inr (some 39))), (1, .inl a1)], [], sh, gc_h sh I J A)
      refine gv_run 1 true hD (pc' := 34) (lv' := [(0, .inr (.inr (some 39))), (1, .inl a1)]) (st' := [.inr (.inr (some 39))]) (h' := gc_h sh I J A) (C := (True ∧ True)) rfl ⟨trivial, trivial⟩ ?_
      refine gv_get hD rfl rfl S_39 ⟨by decide, B_39⟩ (gc_hA S_39 rfl A_39_10) ?_
      show gv_X _ _ (37, [(0, .inr (.inr (some 39))), (1, .inl a1)], [.inr (.inr (some 41))], sh, gc_h sh I J A)
      refine gv_run 2 true hD (pc' := 39) (lv' := [(0, .inr (.inr (some 39))), (1, .inl a1)]) (st' := [.inl 0, .inl a1, .inr (.inr (some 41))]) (h' := gc_h sh I J A) (C := ((True ∧ True) ∧ True)) rfl ⟨⟨trivial, trivial⟩, trivial⟩ ?_
      refine gv_iast hD rfl S_41 ⟨by decide, B_41⟩ ⟨by omega, by omega⟩ ?_
      refine gc_st hI S_41 rfl R_41 (lo := (-2147483648)) (hi := 2147483647) rfl rfl (by omega) (by omega) (fun I94 hI94 q95 p95 => ?_)
      have FI94 := gc_frs (W := fun q j => (q = 39 ∧ j = 3) ∨ (q = 39 ∧ j = 4) ∨ (q = 23 ∧ j = 5) ∨ (q = 23 ∧ j = 6) ∨ (q = 23 ∧ j = 7) ∨ (q = 23 ∧ j = 8) ∨ (q = 1 ∧ j = 17) ∨ (q = 1 ∧ j = 18) ∨ q = 20 ∨ (q = 41 ∧ j = (Int.toNat a1)) ∨ (q = 41 ∧ j = (Int.toNat (a1 + 1))) ∨ (q = 41 ∧ j = (Int.toNat (a1 + 2)))) FI (Or.inr (Or.inr (Or.inr (Or.inr (Or.inr (Or.inr (Or.inr (Or.inr (Or.inr (Or.inl ⟨rfl, rfl⟩)))))))))) p95
      have t96 := p95 23 1 (fun h => absurd h.1 (by omega))
      have t97 := p95 23 5 (fun h => absurd h.1 (by omega))
      have t98 := p95 23 6 (fun h => absurd h.1 (by omega))
      have t99 := p95 23 7 (fun h => absurd h.1 (by omega))
      have t100 := p95 1 17 (fun h => absurd h.1 (by omega))
      have t101 := p95 (t + 7) 1 (fun h => absurd h.1 (by omega))
      have t102 := p95 39 2 (fun h => absurd h.1 (by omega))
      have t103 := p95 41 (Int.toNat (a1 + 1)) (fun h => absurd h.2 (by omega))
      have f104 := (show 0 ≤ I94 23 1 ∧ I94 23 1 ≤ 1000 from gc_in hI94 R_23 rfl rfl)
      have f105 := (show 0 ≤ I94 23 5 ∧ I94 23 5 ≤ 1000 from gc_in hI94 R_23 rfl rfl)
      have f106 := (show 0 ≤ I94 23 6 ∧ I94 23 6 ≤ 1001 from gc_in hI94 R_23 rfl rfl)
      have f107 := (show 0 ≤ I94 23 7 ∧ I94 23 7 ≤ 125 from gc_in hI94 R_23 rfl rfl)
      have f108 := (show 0 ≤ I94 1 17 ∧ I94 1 17 ≤ 12000 from gc_in hI94 R_1 rfl rfl)
      have f109 := (show 0 ≤ I94 (t + 7) 1 ∧ I94 (t + 7) 1 ≤ 16 from gc_in hI94 R_t_7 rfl rfl)
      have f110 := (show (-1) ≤ I94 39 2 ∧ I94 39 2 ≤ 999999 from gc_in hI94 R_39 rfl rfl)
      have KLT_I94 := gc_LT_fr KLT_I (p95 23 5 (fun h => absurd h.1 (by omega))) (p95 23 6 (fun h => absurd h.1 (by omega))) (p95 23 7 (fun h => absurd h.1 (by omega))) (fun k => p95 24 k (fun h => absurd h.1 (by omega)))
      have KRS_I94 := gc_row_st KRS_I p95 q95 (by unfold gc_fS; omega)
      show gv_X _ _ (40, [(0, .inr (.inr (some 39))), (1, .inl a1)], [], sh, gc_h sh I94 J A)
      refine gv_run 1 true hD (pc' := 41) (lv' := [(0, .inr (.inr (some 39))), (1, .inl a1)]) (st' := [.inr (.inr (some 39))]) (h' := gc_h sh I94 J A) (C := (True ∧ True)) rfl ⟨trivial, trivial⟩ ?_
      refine gv_get hD rfl rfl S_39 ⟨by decide, B_39⟩ (gc_hA S_39 rfl A_39_10) ?_
      show gv_X _ _ (44, [(0, .inr (.inr (some 39))), (1, .inl a1)], [.inr (.inr (some 41))], sh, gc_h sh I94 J A)
      refine gv_run 4 true hD (pc' := 48) (lv' := [(0, .inr (.inr (some 39))), (1, .inl a1)]) (st' := [.inr (.inr (some 39)), .inl (a1 + 1), .inr (.inr (some 41))]) (h' := gc_h sh I94 J A) (C := ((((True ∧ True) ∧ True) ∧ True) ∧ True)) rfl ⟨⟨⟨⟨trivial, trivial⟩, trivial⟩, trivial⟩, trivial⟩ ?_
      obtain ⟨r111, h111, E111, P111⟩ := d_X6_keepLetters (ws0 := ws0) (tb := tb) hws htb sh ro I94 J A hI94   hb    (by omega) (by omega) (by omega) (by omega) (by omega) (by omega) KLT_I94
      obtain ⟨I112, J113, rfl, hI112, g111, k111, KLT_I112, ⟨z111, rfl, q111⟩⟩ := P111
      have FI112 := gc_frc (W := fun q j => (q = 39 ∧ j = 3) ∨ (q = 39 ∧ j = 4) ∨ (q = 23 ∧ j = 5) ∨ (q = 23 ∧ j = 6) ∨ (q = 23 ∧ j = 7) ∨ (q = 23 ∧ j = 8) ∨ (q = 1 ∧ j = 17) ∨ (q = 1 ∧ j = 18) ∨ q = 20 ∨ (q = 41 ∧ j = (Int.toNat a1)) ∨ (q = 41 ∧ j = (Int.toNat (a1 + 1))) ∨ (q = 41 ∧ j = (Int.toNat (a1 + 2)))) (V := fun q j => (q = 1 ∧ j = 17) ∨ (q = 1 ∧ j = 18) ∨ q = 20) FI94 (fun q j h => (h.elim (fun h => (Or.inr (Or.inr (Or.inr (Or.inr (Or.inr (Or.inr (Or.inl h)))))))) (fun h => (h.elim (fun h => (Or.inr (Or.inr (Or.inr (Or.inr (Or.inr (Or.inr (Or.inr (Or.inl h))))))))) (fun h => (Or.inr (Or.inr (Or.inr (Or.inr (Or.inr (Or.inr (Or.inr (Or.inr (Or.inl h)))))))))))))) g111
      have t114 := (g111 23 1).resolve_left (by omega)
      have t115 := (g111 23 5).resolve_left (by omega)
      have t116 := (g111 23 6).resolve_left (by omega)
      have t117 := (g111 23 7).resolve_left (by omega)
      have t118 := (g111 (t + 7) 1).resolve_left (by omega)
      have t119 := (g111 39 2).resolve_left (by omega)
      have t120 := (g111 41 (Int.toNat a1)).resolve_left (by omega)
      have t121 := (g111 41 (Int.toNat (a1 + 1))).resolve_left (by omega)
      have f122 := (show 0 ≤ I112 23 1 ∧ I112 23 1 ≤ 1000 from gc_in hI112 R_23 rfl rfl)
      have f123 := (show 0 ≤ I112 23 5 ∧ I112 23 5 ≤ 1000 from gc_in hI112 R_23 rfl rfl)
      have f124 := (show 0 ≤ I112 23 6 ∧ I112 23 6 ≤ 1001 from gc_in hI112 R_23 rfl rfl)
      have f125 := (show 0 ≤ I112 23 7 ∧ I112 23 7 ≤ 125 from gc_in hI112 R_23 rfl rfl)
      have f126 := (show 0 ≤ I112 1 17 ∧ I112 1 17 ≤ 12000 from gc_in hI112 R_1 rfl rfl)
      have f127 := (show 0 ≤ I112 (t + 7) 1 ∧ I112 (t + 7) 1 ≤ 16 from gc_in hI112 R_t_7 rfl rfl)
      have f128 := (show (-1) ≤ I112 39 2 ∧ I112 39 2 ≤ 999999 from gc_in hI112 R_39 rfl rfl)
      obtain rfl : J = J113 := funext fun q => funext fun j => ((k111 q j).resolve_left id).symm
      have KRS_I112 := gc_row_fr KRS_I94 (fun k => (g111 41 k).resolve_left (by omega))
      refine gv_callV hD rfl (As := []) (st := [.inl (a1 + 1), .inr (.inr (some 41))]) rfl B_39 S_39 rfl (gc_lV6 hws rfl) (Nat.le_of_ble_eq_true rfl) (gz_Ev_mono (d := 2) (by decide) E111) ?_
      show gv_X _ _ (51, [(0, .inr (.inr (some 39))), (1, .inl a1)], [.inl z111, .inl (a1 + 1), .inr (.inr (some 41))], sh, gc_h sh I112 J A)
      refine gv_iast hD rfl S_41 ⟨by decide, B_41⟩ ⟨by omega, by omega⟩ ?_
      refine gc_st hI112 S_41 rfl R_41 (lo := (-2147483648)) (hi := 2147483647) rfl rfl (by omega) (by omega) (fun I129 hI129 q130 p130 => ?_)
      have FI129 := gc_frs (W := fun q j => (q = 39 ∧ j = 3) ∨ (q = 39 ∧ j = 4) ∨ (q = 23 ∧ j = 5) ∨ (q = 23 ∧ j = 6) ∨ (q = 23 ∧ j = 7) ∨ (q = 23 ∧ j = 8) ∨ (q = 1 ∧ j = 17) ∨ (q = 1 ∧ j = 18) ∨ q = 20 ∨ (q = 41 ∧ j = (Int.toNat a1)) ∨ (q = 41 ∧ j = (Int.toNat (a1 + 1))) ∨ (q = 41 ∧ j = (Int.toNat (a1 + 2)))) FI112 (Or.inr (Or.inr (Or.inr (Or.inr (Or.inr (Or.inr (Or.inr (Or.inr (Or.inr (Or.inr (Or.inl ⟨rfl, rfl⟩))))))))))) p130
      have t131 := p130 23 1 (fun h => absurd h.1 (by omega))
      have t132 := p130 23 5 (fun h => absurd h.1 (by omega))
      have t133 := p130 23 6 (fun h => absurd h.1 (by omega))
      have t134 := p130 23 7 (fun h => absurd h.1 (by omega))
      have t135 := p130 1 17 (fun h => absurd h.1 (by omega))
      have t136 := p130 (t + 7) 1 (fun h => absurd h.1 (by omega))
      have t137 := p130 39 2 (fun h => absurd h.1 (by omega))
      have t138 := p130 41 (Int.toNat a1) (fun h => absurd h.2 (by omega))
      have f139 := (show 0 ≤ I129 23 1 ∧ I129 23 1 ≤ 1000 from gc_in hI129 R_23 rfl rfl)
      have f140 := (show 0 ≤ I129 23 5 ∧ I129 23 5 ≤ 1000 from gc_in hI129 R_23 rfl rfl)
      have f141 := (show 0 ≤ I129 23 6 ∧ I129 23 6 ≤ 1001 from gc_in hI129 R_23 rfl rfl)
      have f142 := (show 0 ≤ I129 23 7 ∧ I129 23 7 ≤ 125 from gc_in hI129 R_23 rfl rfl)
      have f143 := (show 0 ≤ I129 1 17 ∧ I129 1 17 ≤ 12000 from gc_in hI129 R_1 rfl rfl)
      have f144 := (show 0 ≤ I129 (t + 7) 1 ∧ I129 (t + 7) 1 ≤ 16 from gc_in hI129 R_t_7 rfl rfl)
      have f145 := (show (-1) ≤ I129 39 2 ∧ I129 39 2 ≤ 999999 from gc_in hI129 R_39 rfl rfl)
      have KLT_I129 := gc_LT_fr KLT_I112 (p130 23 5 (fun h => absurd h.1 (by omega))) (p130 23 6 (fun h => absurd h.1 (by omega))) (p130 23 7 (fun h => absurd h.1 (by omega))) (fun k => p130 24 k (fun h => absurd h.1 (by omega)))
      have KRS_I129 := gc_row_st KRS_I112 p130 q130 (by unfold gc_fS; omega)
      show gv_X _ _ (52, [(0, .inr (.inr (some 39))), (1, .inl a1)], [], sh, gc_h sh I129 J A)
      refine gv_run 1 true hD (pc' := 53) (lv' := [(0, .inr (.inr (some 39))), (1, .inl a1)]) (st' := [.inr (.inr (some 39))]) (h' := gc_h sh I129 J A) (C := (True ∧ True)) rfl ⟨trivial, trivial⟩ ?_
      refine gv_get hD rfl rfl S_39 ⟨by decide, B_39⟩ (gc_hA S_39 rfl A_39_10) ?_
      show gv_X _ _ (56, [(0, .inr (.inr (some 39))), (1, .inl a1)], [.inr (.inr (some 41))], sh, gc_h sh I129 J A)
      refine gv_run 4 true hD (pc' := 60) (lv' := [(0, .inr (.inr (some 39))), (1, .inl a1)]) (st' := [.inr (.inr (some 39)), .inl (a1 + 2), .inr (.inr (some 41))]) (h' := gc_h sh I129 J A) (C := ((((True ∧ True) ∧ True) ∧ True) ∧ True)) rfl ⟨⟨⟨⟨trivial, trivial⟩, trivial⟩, trivial⟩, trivial⟩ ?_
      refine gv_get hD rfl rfl S_39 ⟨by decide, B_39⟩ (gc_hA S_39 rfl A_39_1) ?_
      show gv_X _ _ (63, [(0, .inr (.inr (some 39))), (1, .inl a1)], [.inr (.inr (some 23)), .inl (a1 + 2), .inr (.inr (some 41))], sh, gc_h sh I129 J A)
      obtain ⟨r146, h146, E146, P146⟩ := d_X9_lettersSize (ws0 := ws0) (tb := tb) hws htb sh ro I129 J A hI129 23  (gc_b23 hb)     
      obtain ⟨rfl, ⟨z146, rfl, q146⟩⟩ := P146
      refine gv_callV hD rfl (As := []) (st := [.inl (a1 + 2), .inr (.inr (some 41))]) rfl B_23 S_23 rfl (gc_lV6 hws rfl) (Nat.le_of_ble_eq_true rfl) (gz_Ev_mono (d := 1) (by decide) E146) ?_
      show gv_X _ _ (66, [(0, .inr (.inr (some 39))), (1, .inl a1)], [.inl z146, .inl (a1 + 2), .inr (.inr (some 41))], sh, gc_h sh I129 J A)
      refine gv_iast hD rfl S_41 ⟨by decide, B_41⟩ ⟨by omega, by omega⟩ ?_
      refine gc_st hI129 S_41 rfl R_41 (lo := (-2147483648)) (hi := 2147483647) rfl rfl (by omega) (by omega) (fun I147 hI147 q148 p148 => ?_)
      have FI147 := gc_frs (W := fun q j => (q = 39 ∧ j = 3) ∨ (q = 39 ∧ j = 4) ∨ (q = 23 ∧ j = 5) ∨ (q = 23 ∧ j = 6) ∨ (q = 23 ∧ j = 7) ∨ (q = 23 ∧ j = 8) ∨ (q = 1 ∧ j = 17) ∨ (q = 1 ∧ j = 18) ∨ q = 20 ∨ (q = 41 ∧ j = (Int.toNat a1)) ∨ (q = 41 ∧ j = (Int.toNat (a1 + 1))) ∨ (q = 41 ∧ j = (Int.toNat (a1 + 2)))) FI129 (Or.inr (Or.inr (Or.inr (Or.inr (Or.inr (Or.inr (Or.inr (Or.inr (Or.inr (Or.inr (Or.inr ⟨rfl, rfl⟩))))))))))) p148
      have t149 := p148 23 1 (fun h => absurd h.1 (by omega))
      have t150 := p148 23 5 (fun h => absurd h.1 (by omega))
      have t151 := p148 23 6 (fun h => absurd h.1 (by omega))
      have t152 := p148 23 7 (fun h => absurd h.1 (by omega))
      have t153 := p148 1 17 (fun h => absurd h.1 (by omega))
      have t154 := p148 (t + 7) 1 (fun h => absurd h.1 (by omega))
      have t155 := p148 39 2 (fun h => absurd h.1 (by omega))
      have t156 := p148 41 (Int.toNat a1) (fun h => absurd h.2 (by omega))
      have t157 := p148 41 (Int.toNat (a1 + 1)) (fun h => absurd h.2 (by omega))
      have f158 := (show 0 ≤ I147 23 1 ∧ I147 23 1 ≤ 1000 from gc_in hI147 R_23 rfl rfl)
      have f159 := (show 0 ≤ I147 23 5 ∧ I147 23 5 ≤ 1000 from gc_in hI147 R_23 rfl rfl)
      have f160 := (show 0 ≤ I147 23 6 ∧ I147 23 6 ≤ 1001 from gc_in hI147 R_23 rfl rfl)
      have f161 := (show 0 ≤ I147 23 7 ∧ I147 23 7 ≤ 125 from gc_in hI147 R_23 rfl rfl)
      have f162 := (show 0 ≤ I147 1 17 ∧ I147 1 17 ≤ 12000 from gc_in hI147 R_1 rfl rfl)
      have f163 := (show 0 ≤ I147 (t + 7) 1 ∧ I147 (t + 7) 1 ≤ 16 from gc_in hI147 R_t_7 rfl rfl)
      have f164 := (show (-1) ≤ I147 39 2 ∧ I147 39 2 ≤ 999999 from gc_in hI147 R_39 rfl rfl)
      have KLT_I147 := gc_LT_fr KLT_I129 (p148 23 5 (fun h => absurd h.1 (by omega))) (p148 23 6 (fun h => absurd h.1 (by omega))) (p148 23 7 (fun h => absurd h.1 (by omega))) (fun k => p148 24 k (fun h => absurd h.1 (by omega)))
      have KRS_I147 := gc_row_st KRS_I129 p148 q148 (by unfold gc_fS; omega)
      show gv_X _ _ (67, [(0, .inr (.inr (some 39))), (1, .inl a1)], [], sh, gc_h sh I147 J A)
      refine gv_run 1 true hD (pc' := 121) (lv' := [(0, .inr (.inr (some 39))), (1, .inl a1)]) (st' := []) (h' := gc_h sh I147 J A) (C := (True ∧ True)) rfl ⟨trivial, trivial⟩ ?_
      refine gv_pick [0] rfl ?_
      exact L121 I147 J hI147 FI147 FJ KLT_I147 KRS_I147 (by omega)
  · show gv_X _ _ (12, [(0, .inr (.inr (some 39))), (1, .inl a1)], [], sh, gc_h sh I J A)
    refine gv_run 1 true hD (pc' := 13) (lv' := [(0, .inr (.inr (some 39))), (1, .inl a1)]) (st' := [.inr (.inr (some 39))]) (h' := gc_h sh I J A) (C := (True ∧ True)) rfl ⟨trivial, trivial⟩ ?_
    refine gv_get hD rfl rfl S_39 ⟨by decide, B_39⟩ (gc_hA S_39 rfl A_39_10) ?_
    show gv_X _ _ (16, [(0, .inr (.inr (some 39))), (1, .inl a1)], [.inr (.inr (some 41))], sh, gc_h sh I J A)
    refine gv_run 2 true hD (pc' := 18) (lv' := [(0, .inr (.inr (some 39))), (1, .inl a1)]) (st' := [.inl 2, .inl a1, .inr (.inr (some 41))]) (h' := gc_h sh I J A) (C := ((True ∧ True) ∧ True)) rfl ⟨⟨trivial, trivial⟩, trivial⟩ ?_
    refine gv_iast hD rfl S_41 ⟨by decide, B_41⟩ ⟨by omega, by omega⟩ ?_
    refine gc_st hI S_41 rfl R_41 (lo := (-2147483648)) (hi := 2147483647) rfl rfl (by omega) (by omega) (fun I165 hI165 q166 p166 => ?_)
    have FI165 := gc_frs (W := fun q j => (q = 39 ∧ j = 3) ∨ (q = 39 ∧ j = 4) ∨ (q = 23 ∧ j = 5) ∨ (q = 23 ∧ j = 6) ∨ (q = 23 ∧ j = 7) ∨ (q = 23 ∧ j = 8) ∨ (q = 1 ∧ j = 17) ∨ (q = 1 ∧ j = 18) ∨ q = 20 ∨ (q = 41 ∧ j = (Int.toNat a1)) ∨ (q = 41 ∧ j = (Int.toNat (a1 + 1))) ∨ (q = 41 ∧ j = (Int.toNat (a1 + 2)))) FI (Or.inr (Or.inr (Or.inr (Or.inr (Or.inr (Or.inr (Or.inr (Or.inr (Or.inr (Or.inl ⟨rfl, rfl⟩)))))))))) p166
    have t167 := p166 23 1 (fun h => absurd h.1 (by omega))
    have t168 := p166 23 5 (fun h => absurd h.1 (by omega))
    have t169 := p166 23 6 (fun h => absurd h.1 (by omega))
    have t170 := p166 23 7 (fun h => absurd h.1 (by omega))
    have t171 := p166 1 17 (fun h => absurd h.1 (by omega))
    have t172 := p166 (t + 7) 1 (fun h => absurd h.1 (by omega))
    have t173 := p166 39 2 (fun h => absurd h.1 (by omega))
    have t174 := p166 41 (Int.toNat (a1 + 1)) (fun h => absurd h.2 (by omega))
    have f175 := (show 0 ≤ I165 23 1 ∧ I165 23 1 ≤ 1000 from gc_in hI165 R_23 rfl rfl)
    have f176 := (show 0 ≤ I165 23 5 ∧ I165 23 5 ≤ 1000 from gc_in hI165 R_23 rfl rfl)
    have f177 := (show 0 ≤ I165 23 6 ∧ I165 23 6 ≤ 1001 from gc_in hI165 R_23 rfl rfl)
    have f178 := (show 0 ≤ I165 23 7 ∧ I165 23 7 ≤ 125 from gc_in hI165 R_23 rfl rfl)
    have f179 := (show 0 ≤ I165 1 17 ∧ I165 1 17 ≤ 12000 from gc_in hI165 R_1 rfl rfl)
    have f180 := (show 0 ≤ I165 (t + 7) 1 ∧ I165 (t + 7) 1 ≤ 16 from gc_in hI165 R_t_7 rfl rfl)
    have f181 := (show (-1) ≤ I165 39 2 ∧ I165 39 2 ≤ 999999 from gc_in hI165 R_39 rfl rfl)
    have KLT_I165 := gc_LT_fr KLT_I (p166 23 5 (fun h => absurd h.1 (by omega))) (p166 23 6 (fun h => absurd h.1 (by omega))) (p166 23 7 (fun h => absurd h.1 (by omega))) (fun k => p166 24 k (fun h => absurd h.1 (by omega)))
    have KRS_I165 := gc_row_st KRS_I p166 q166 (by unfold gc_fS; omega)
    show gv_X _ _ (19, [(0, .inr (.inr (some 39))), (1, .inl a1)], [], sh, gc_h sh I165 J A)
    refine gv_run 1 true hD (pc' := 121) (lv' := [(0, .inr (.inr (some 39))), (1, .inl a1)]) (st' := []) (h' := gc_h sh I165 J A) (C := (True ∧ True)) rfl ⟨trivial, trivial⟩ ?_
    refine gv_pick [0] rfl ?_
    exact L121 I165 J hI165 FI165 FJ KLT_I165 KRS_I165 (by omega)
set_option maxHeartbeats 4000000 in
set_option maxRecDepth 100000 in
theorem d_X6_readSide {ws0 : List Cond} {tb : String → gz_T} (hws : gc_Ws ws0) (htb : gc_tbs tb) (sh : gz_Sh) (ro : Nat → Nat) (I : gr_I) (J : gr_J) (A : gc_A) (hI : gc_Inv ro I) (t : Nat) (a1 : Int) (a2 : Int) (hb : gc_Base sh ro A) (h_t : gc_isTongue sh ro A t) (G_t : 144 ≤ t) (ha1 : 5 ≤ a1 ∧ a1 ≤ 6) (ha2 : 7 ≤ a2 ∧ a2 ≤ 16) (x0 : I 23 5 ≤ I 23 6) (x1 : I 23 7 = 5 ∨ I 23 6 ≤ I 23 1) (x2 : I 23 5 ≤ I 23 1) (x3 : I 23 7 = 4 ∨ (I 23 5 < I 23 6 ∧ I 23 5 < I 23 1)) (x4 : I 23 7 = 3 → 2 ≤ I 23 6 - I 23 5 ∧ I 23 6 - I 23 5 ≤ 14) (x5 : I 1 17 + I 23 1 ≤ 1280 + I 23 5) (x6 : (a1 = 5 ∧ a2 = 7) ∨ (a1 = 6 ∧ a2 = 16)) (x7 : I 39 2 = (t : Int)) (KLT_I : gc_LT I) (KRS_I : gc_row 41 25 gc_fS I) (KRC_I : gc_RC I) : ∃ r h', gz_Ev ws0 tb 5 (yX6_readSide, cX6_readSide, 4, (some .boolean)) [.inr (.inr (some 39)), .inl a1, .inl a2] sh (gc_h sh I J A) r sh h' 0 0 ∧ (∃ (I' : gr_I) (J' : gr_J), h' = gc_h sh I' J' A ∧ gc_Inv ro I' ∧ (∀ q j : Nat, ((q = 39 ∧ j = 3) ∨ (q = 39 ∧ j = 4) ∨ (q = 23 ∧ j = 5) ∨ (q = 23 ∧ j = 6) ∨ (q = 23 ∧ j = 7) ∨ (q = 23 ∧ j = 8) ∨ (q = 1 ∧ j = 17) ∨ (q = 1 ∧ j = 18) ∨ q = 20 ∨ q = 41) ∨ I' q j = I q j) ∧ (∀ q j : Nat, ((q = 23 ∧ j = 9)) ∨ J' q j = J q j) ∧ gc_LT I' ∧ gc_row 41 25 gc_fS I' ∧ gc_RC I' ∧ (∃ z : Int, r = some (.inl z) ∧ 0 ≤ z ∧ z ≤ 1 ∧ (I' 23 5 ≤ I' 23 6) ∧ (I' 23 7 = 5 ∨ I' 23 6 ≤ I' 23 1) ∧ (I' 23 5 ≤ I' 23 1) ∧ (I' 23 7 = 4 ∨ (I' 23 5 < I' 23 6 ∧ I' 23 5 < I' 23 1)) ∧ (I' 23 7 = 3 → 2 ≤ I' 23 6 - I' 23 5 ∧ I' 23 6 - I' 23 5 ≤ 14) ∧ (I' 23 1 = I 23 1) ∧ (I 23 5 ≤ I' 23 5) ∧ (I' 1 17 + I' 23 1 ≤ 1280 + I' 23 5))) := by
  have FI : ∀ q j : Nat, ((q = 39 ∧ j = 3) ∨ (q = 39 ∧ j = 4) ∨ (q = 23 ∧ j = 5) ∨ (q = 23 ∧ j = 6) ∨ (q = 23 ∧ j = 7) ∨ (q = 23 ∧ j = 8) ∨ (q = 1 ∧ j = 17) ∨ (q = 1 ∧ j = 18) ∨ q = 20 ∨ q = 41) ∨ I q j = I q j := fun _ _ => Or.inr rfl
  have FJ : ∀ q j : Nat, ((q = 23 ∧ j = 9)) ∨ J q j = J q j := fun _ _ => Or.inr rfl
  have A_39_1 : A 39 1 = some 23 := gc_bA hb rfl
  have A_39_10 : A 39 10 = some 41 := gc_bA hb rfl
  have B_23 : 23 < 1000000 := by decide
  have B_39 : 39 < 1000000 := by decide
  have B_41 : 41 < 1000000 := by decide
  have R_1 : ro 1 = 22 := gc_bR hb (by decide) rfl
  have R_23 : ro 23 = 3 := gc_bR hb (by decide) rfl
  have R_39 : ro 39 = 42 := gc_bR hb (by decide) rfl
  have R_41 : ro 41 = 0 := gc_bR hb (by decide) rfl
  have S_23 : sh[23]? = some (false, 9, 10) := gc_bS hb rfl
  have S_39 : sh[39]? = some (false, 6, 19) := gc_bS hb rfl
  have S_41 : sh[41]? = some (true, 1, 25) := gc_bS hb rfl
  obtain ⟨S_t, R_t, B_t, A_t_0, h_t_1, A_t_1, h_t_3, A_t_2, S_t_5, R_t_5, B_t_5, A_t_3, S_t_6, R_t_6, B_t_6, A_t_4, h_t_7, A_t_5, S_t_9, R_t_9, B_t_9, A_t_7, S_t_10, R_t_10, B_t_10, A_t_8, h_t_11, A_t_9, S_t_13, R_t_13, B_t_13, A_t_10, S_t_14, R_t_14, B_t_14, A_t_12, S_t_15, R_t_15, B_t_15, A_t_14, S_t_16, R_t_16, B_t_16, A_t_15, h_t_17⟩ := id h_t
  obtain ⟨S_t_1, R_t_1, B_t_1, A_t_1_0, S_t_1_1, R_t_1_1, B_t_1_1, Q0_t_1, Q1_t_1, Q2_t_1⟩ := id h_t_1
  obtain ⟨S_t_3, R_t_3, B_t_3, A_t_3_0, S_t_3_1, R_t_3_1, B_t_3_1, Q0_t_3, Q1_t_3, Q2_t_3⟩ := id h_t_3
  obtain ⟨S_t_7, R_t_7, B_t_7, A_t_7_0, S_t_7_1, R_t_7_1, B_t_7_1, Q0_t_7, Q1_t_7, Q2_t_7⟩ := id h_t_7
  obtain ⟨S_t_11, R_t_11, B_t_11, A_t_11_0, S_t_11_1, R_t_11_1, B_t_11_1, Q0_t_11, Q1_t_11, Q2_t_11⟩ := id h_t_11
  obtain ⟨S_t_17, R_t_17, B_t_17, A_t_17_0, S_20, R_20, B_20, A_t_17_1, S_t_17_1, R_t_17_1, B_t_17_1, A_t_17_2, S_t_17_2, R_t_17_2, B_t_17_2, A_t_17_3, S_t_17_3, R_t_17_3, B_t_17_3, A_t_17_4, S_t_17_4, R_t_17_4, B_t_17_4, A_t_17_5, S_t_17_5, R_t_17_5, B_t_17_5, S_t_17_6, R_t_17_6, B_t_17_6, S_t_17_7, R_t_17_7, B_t_17_7⟩ := id h_t_17
  have hD : gv_D (gc_E6 ws0 tb 4 (yX6_readSide, cX6_readSide, 4, (some .boolean)) kX6_readSide) := gq_ok oX6_readSide
  refine gc_ev6 (d := 4) (l := kX6_readSide) (Po := fun r h' => (∃ (I' : gr_I) (J' : gr_J), h' = gc_h sh I' J' A ∧ gc_Inv ro I' ∧ (∀ q j : Nat, ((q = 39 ∧ j = 3) ∨ (q = 39 ∧ j = 4) ∨ (q = 23 ∧ j = 5) ∨ (q = 23 ∧ j = 6) ∨ (q = 23 ∧ j = 7) ∨ (q = 23 ∧ j = 8) ∨ (q = 1 ∧ j = 17) ∨ (q = 1 ∧ j = 18) ∨ q = 20 ∨ q = 41) ∨ I' q j = I q j) ∧ (∀ q j : Nat, ((q = 23 ∧ j = 9)) ∨ J' q j = J q j) ∧ gc_LT I' ∧ gc_row 41 25 gc_fS I' ∧ gc_RC I' ∧ (∃ z : Int, r = some (.inl z) ∧ 0 ≤ z ∧ z ≤ 1 ∧ (I' 23 5 ≤ I' 23 6) ∧ (I' 23 7 = 5 ∨ I' 23 6 ≤ I' 23 1) ∧ (I' 23 5 ≤ I' 23 1) ∧ (I' 23 7 = 4 ∨ (I' 23 5 < I' 23 6 ∧ I' 23 5 < I' 23 1)) ∧ (I' 23 7 = 3 → 2 ≤ I' 23 6 - I' 23 5 ∧ I' 23 6 - I' 23 5 ≤ 14) ∧ (I' 23 1 = I 23 1) ∧ (I 23 5 ≤ I' 23 5) ∧ (I' 1 17 + I' 23 1 ≤ 1280 + I' 23 5)))) htb rfl (Nat.le_of_ble_eq_true rfl) ?_
  have f1 := (show 0 ≤ I 23 1 ∧ I 23 1 ≤ 1000 from gc_in hI R_23 rfl rfl)
  have f2 := (show 0 ≤ I 23 5 ∧ I 23 5 ≤ 1000 from gc_in hI R_23 rfl rfl)
  have f3 := (show 0 ≤ I 23 6 ∧ I 23 6 ≤ 1001 from gc_in hI R_23 rfl rfl)
  have f4 := (show 0 ≤ I 23 7 ∧ I 23 7 ≤ 125 from gc_in hI R_23 rfl rfl)
  have f5 := (show 0 ≤ I 1 17 ∧ I 1 17 ≤ 12000 from gc_in hI R_1 rfl rfl)
  have f6 := (show (-1) ≤ I 39 2 ∧ I 39 2 ≤ 999999 from gc_in hI R_39 rfl rfl)
  have L2 : ∀ (n9 : Nat) (I7 : gr_I) (J8 : gr_J) (v3_9 : Int), (5 - v3_9).toNat < n9 → gc_Inv ro I7 → (∀ q j : Nat, ((q = 39 ∧ j = 3) ∨ (q = 39 ∧ j = 4) ∨ (q = 23 ∧ j = 5) ∨ (q = 23 ∧ j = 6) ∨ (q = 23 ∧ j = 7) ∨ (q = 23 ∧ j = 8) ∨ (q = 1 ∧ j = 17) ∨ (q = 1 ∧ j = 18) ∨ q = 20 ∨ q = 41) ∨ I7 q j = I q j) → (∀ q j : Nat, ((q = 23 ∧ j = 9)) ∨ J8 q j = J q j) → gc_LT I7 → gc_row 41 25 gc_fS I7 → gc_RC I7 → ((5 ≤ a1 ∧ a1 ≤ 6) ∧ (7 ≤ a2 ∧ a2 ≤ 16) ∧ (0 ≤ v3_9 ∧ v3_9 ≤ 4) ∧ (I7 23 5 ≤ I7 23 6) ∧ (I7 23 7 = 5 ∨ I7 23 6 ≤ I7 23 1) ∧ (I7 23 5 ≤ I7 23 1) ∧ (I7 23 7 = 4 ∨ (I7 23 5 < I7 23 6 ∧ I7 23 5 < I7 23 1)) ∧ (I7 23 7 = 3 → 2 ≤ I7 23 6 - I7 23 5 ∧ I7 23 6 - I7 23 5 ≤ 14) ∧ (I7 23 1 = I 23 1) ∧ (I 23 5 ≤ I7 23 5) ∧ (I7 1 17 + I7 23 1 ≤ 1280 + I7 23 5) ∧ (I7 39 2 = (t : Int))) → gv_X (gc_E6 ws0 tb 4 (yX6_readSide, cX6_readSide, 4, (some .boolean)) kX6_readSide) (gv_Q cX6_readSide (some .boolean) sh (fun r h' => (∃ (I' : gr_I) (J' : gr_J), h' = gc_h sh I' J' A ∧ gc_Inv ro I' ∧ (∀ q j : Nat, ((q = 39 ∧ j = 3) ∨ (q = 39 ∧ j = 4) ∨ (q = 23 ∧ j = 5) ∨ (q = 23 ∧ j = 6) ∨ (q = 23 ∧ j = 7) ∨ (q = 23 ∧ j = 8) ∨ (q = 1 ∧ j = 17) ∨ (q = 1 ∧ j = 18) ∨ q = 20 ∨ q = 41) ∨ I' q j = I q j) ∧ (∀ q j : Nat, ((q = 23 ∧ j = 9)) ∨ J' q j = J q j) ∧ gc_LT I' ∧ gc_row 41 25 gc_fS I' ∧ gc_RC I' ∧ (∃ z : Int, r = some (.inl z) ∧ 0 ≤ z ∧ z ≤ 1 ∧ (I' 23 5 ≤ I' 23 6) ∧ (I' 23 7 = 5 ∨ I' 23 6 ≤ I' 23 1) ∧ (I' 23 5 ≤ I' 23 1) ∧ (I' 23 7 = 4 ∨ (I' 23 5 < I' 23 6 ∧ I' 23 5 < I' 23 1)) ∧ (I' 23 7 = 3 → 2 ≤ I' 23 6 - I' 23 5 ∧ I' 23 6 - I' 23 5 ≤ 14) ∧ (I' 23 1 = I 23 1) ∧ (I 23 5 ≤ I' 23 5) ∧ (I' 1 17 + I' 23 1 ≤ 1280 + I' 23 5))))) (2, [(0, .inr (.inr (some 39))), (1, .inl a1), (2, .inl a2), (3, .inl v3_9)], [], sh, gc_h sh I7 J8 A) := by
    intro n9
    induction n9 with
    | zero => intro I7 J8 v3_9 hn; omega
    | succ n9 ih2 =>
      intro I7 J8 v3_9 hn hI7 FI7 FJ8 KLT_I7 KRS_I7 KRC_I7 m_9
      clear x0 x1 x2 x3 x4
      obtain ⟨ha1_9, ha2_9, hv3_9, e0_9, e1_9, e2_9, e3_9, e4_9, e5_9, e6_9, e7_9, e8_9⟩ := m_9
      have f10 := (show 0 ≤ I7 23 1 ∧ I7 23 1 ≤ 1000 from gc_in hI7 R_23 rfl rfl)
      have f11 := (show 0 ≤ I7 23 5 ∧ I7 23 5 ≤ 1000 from gc_in hI7 R_23 rfl rfl)
      have f12 := (show 0 ≤ I7 23 6 ∧ I7 23 6 ≤ 1001 from gc_in hI7 R_23 rfl rfl)
      have f13 := (show 0 ≤ I7 23 7 ∧ I7 23 7 ≤ 125 from gc_in hI7 R_23 rfl rfl)
      have f14 := (show 0 ≤ I7 1 17 ∧ I7 1 17 ≤ 12000 from gc_in hI7 R_1 rfl rfl)
      have f15 := (show (-1) ≤ I7 39 2 ∧ I7 39 2 ≤ 999999 from gc_in hI7 R_39 rfl rfl)
      have L41 : ((5 ≤ a1 ∧ a1 ≤ 6) ∧ (7 ≤ a2 ∧ a2 ≤ 16) ∧ (0 ≤ v3_9 ∧ v3_9 ≤ 3) ∧ (I7 23 5 ≤ I7 23 6) ∧ (I7 23 7 = 5 ∨ I7 23 6 ≤ I7 23 1) ∧ (I7 23 5 ≤ I7 23 1) ∧ (I7 23 7 = 4 ∨ (I7 23 5 < I7 23 6 ∧ I7 23 5 < I7 23 1)) ∧ (I7 23 7 = 3 → 2 ≤ I7 23 6 - I7 23 5 ∧ I7 23 6 - I7 23 5 ≤ 14) ∧ (I7 23 1 = I 23 1) ∧ (I 23 5 ≤ I7 23 5) ∧ (I7 1 17 + I7 23 1 ≤ 1280 + I7 23 5) ∧ (I7 39 2 = (t : Int))) → gv_X (gc_E6 ws0 tb 4 (yX6_readSide, cX6_readSide, 4, (some .boolean)) kX6_readSide) (gv_Q cX6_readSide (some .boolean) sh (fun r h' => (∃ (I' : gr_I) (J' : gr_J), h' = gc_h sh I' J' A ∧ gc_Inv ro I' ∧ (∀ q j : Nat, ((q = 39 ∧ j = 3) ∨ (q = 39 ∧ j = 4) ∨ (q = 23 ∧ j = 5) ∨ (q = 23 ∧ j = 6) ∨ (q = 23 ∧ j = 7) ∨ (q = 23 ∧ j = 8) ∨ (q = 1 ∧ j = 17) ∨ (q = 1 ∧ j = 18) ∨ q = 20 ∨ q = 41) ∨ I' q j = I q j) ∧ (∀ q j : Nat, ((q = 23 ∧ j = 9)) ∨ J' q j = J q j) ∧ gc_LT I' ∧ gc_row 41 25 gc_fS I' ∧ gc_RC I' ∧ (∃ z : Int, r = some (.inl z) ∧ 0 ≤ z ∧ z ≤ 1 ∧ (I' 23 5 ≤ I' 23 6) ∧ (I' 23 7 = 5 ∨ I' 23 6 ≤ I' 23 1) ∧ (I' 23 5 ≤ I' 23 1) ∧ (I' 23 7 = 4 ∨ (I' 23 5 < I' 23 6 ∧ I' 23 5 < I' 23 1)) ∧ (I' 23 7 = 3 → 2 ≤ I' 23 6 - I' 23 5 ∧ I' 23 6 - I' 23 5 ≤ 14) ∧ (I' 23 1 = I 23 1) ∧ (I 23 5 ≤ I' 23 5) ∧ (I' 1 17 + I' 23 1 ≤ 1280 + I' 23 5))))) (41, [(0, .inr (.inr (some 39))), (1, .inl a1), (2, .inl a2), (3, .inl v3_9)], [], sh, gc_h sh I7 J8 A) := by
        intro m_16
        obtain ⟨ha1_16, ha2_16, hv3_9_16, e0_16, e1_16, e2_16, e3_16, e4_16, e5_16, e6_16, e7_16, e8_16⟩ := m_16
        have f17 := (show 0 ≤ I7 23 1 ∧ I7 23 1 ≤ 1000 from gc_in hI7 R_23 rfl rfl)
        have f18 := (show 0 ≤ I7 23 5 ∧ I7 23 5 ≤ 1000 from gc_in hI7 R_23 rfl rfl)
        have f19 := (show 0 ≤ I7 23 6 ∧ I7 23 6 ≤ 1001 from gc_in hI7 R_23 rfl rfl)
        have f20 := (show 0 ≤ I7 23 7 ∧ I7 23 7 ≤ 125 from gc_in hI7 R_23 rfl rfl)
        have f21 := (show 0 ≤ I7 1 17 ∧ I7 1 17 ≤ 12000 from gc_in hI7 R_1 rfl rfl)
        have f22 := (show (-1) ≤ I7 39 2 ∧ I7 39 2 ≤ 999999 from gc_in hI7 R_39 rfl rfl)
        refine gv_run 1 true hD (pc' := 42) (lv' := [(0, .inr (.inr (some 39))), (1, .inl a1), (2, .inl a2), (3, .inl v3_9)]) (st' := [.inr (.inr (some 39))]) (h' := gc_h sh I7 J8 A) (C := (True ∧ True)) rfl ⟨trivial, trivial⟩ ?_
        refine gv_get hD rfl rfl S_39 ⟨by decide, B_39⟩ (gc_hA S_39 rfl A_39_10) ?_
        show gv_X _ _ (45, [(0, .inr (.inr (some 39))), (1, .inl a1), (2, .inl a2), (3, .inl v3_9)], [.inr (.inr (some 41))], sh, gc_h sh I7 J8 A)
        refine gv_run 1 true hD (pc' := 46) (lv' := [(0, .inr (.inr (some 39))), (1, .inl a1), (2, .inl a2), (3, .inl v3_9)]) (st' := [.inl a1, .inr (.inr (some 41))]) (h' := gc_h sh I7 J8 A) (C := (True ∧ True)) rfl ⟨trivial, trivial⟩ ?_
        have t23 := gc_fS_ct (j := Int.toNat a1) KRS_I7 (by omega)
        have f24 := (show (-2147483648) ≤ I7 41 (Int.toNat a1) ∧ I7 41 (Int.toNat a1) ≤ 2147483647 from gc_in hI7 R_41 rfl rfl)
        refine gv_iald hD rfl S_41 rfl ⟨by decide, B_41⟩ ⟨by omega, by omega⟩ (gc_iI S_41 rfl) ?_
        show gv_X _ _ (47, [(0, .inr (.inr (some 39))), (1, .inl a1), (2, .inl a2), (3, .inl v3_9)], [.inl (I7 41 (Int.toNat a1))], sh, gc_h sh I7 J8 A)
        refine gv_run 1 true hD (pc' := 48) (lv' := [(0, .inr (.inr (some 39))), (1, .inl a1), (2, .inl a2), (3, .inl v3_9)]) (st' := [.inl 3, .inl (I7 41 (Int.toNat a1))]) (h' := gc_h sh I7 J8 A) (C := (True ∧ True)) rfl ⟨trivial, trivial⟩ ?_
        refine gv_icmp_ne (t := 64) hD rfl rfl ⟨⟨by omega, by omega⟩, ⟨by omega, by omega⟩⟩ (fun c25 => ?_) (fun c25 => ?_)
        · show gv_X _ _ (64, [(0, .inr (.inr (some 39))), (1, .inl a1), (2, .inl a2), (3, .inl v3_9)], [], sh, gc_h sh I7 J8 A)
          refine gv_run 4 true hD (pc' := 68) (lv' := [(0, .inr (.inr (some 39))), (1, .inl a1), (2, .inl a2), (3, .inl v3_9)]) (st' := [.inr (.inr (some 39)), .inl 3, .inl a2, .inr (.inr (some 39))]) (h' := gc_h sh I7 J8 A) (C := ((((True ∧ True) ∧ True) ∧ True) ∧ True)) rfl ⟨⟨⟨⟨trivial, trivial⟩, trivial⟩, trivial⟩, trivial⟩ ?_
          refine gv_get hD rfl rfl S_39 ⟨by decide, B_39⟩ (gc_hA S_39 rfl A_39_10) ?_
          show gv_X _ _ (71, [(0, .inr (.inr (some 39))), (1, .inl a1), (2, .inl a2), (3, .inl v3_9)], [.inr (.inr (some 41)), .inl 3, .inl a2, .inr (.inr (some 39))], sh, gc_h sh I7 J8 A)
          refine gv_run 1 true hD (pc' := 72) (lv' := [(0, .inr (.inr (some 39))), (1, .inl a1), (2, .inl a2), (3, .inl v3_9)]) (st' := [.inl a1, .inr (.inr (some 41)), .inl 3, .inl a2, .inr (.inr (some 39))]) (h' := gc_h sh I7 J8 A) (C := (True ∧ True)) rfl ⟨trivial, trivial⟩ ?_
          have t26 := gc_fS_ct (j := Int.toNat a1) KRS_I7 (by omega)
          have f27 := (show (-2147483648) ≤ I7 41 (Int.toNat a1) ∧ I7 41 (Int.toNat a1) ≤ 2147483647 from gc_in hI7 R_41 rfl rfl)
          refine gv_iald hD rfl S_41 rfl ⟨by decide, B_41⟩ ⟨by omega, by omega⟩ (gc_iI S_41 rfl) ?_
          show gv_X _ _ (73, [(0, .inr (.inr (some 39))), (1, .inl a1), (2, .inl a2), (3, .inl v3_9)], [.inl (I7 41 (Int.toNat a1)), .inl 3, .inl a2, .inr (.inr (some 39))], sh, gc_h sh I7 J8 A)
          refine gv_run 2 true hD (pc' := 75) (lv' := [(0, .inr (.inr (some 39))), (1, .inl a1), (2, .inl a2), (3, .inl v3_9)]) (st' := [.inl (a2 + (3 * (I7 41 (Int.toNat a1)))), .inr (.inr (some 39))]) (h' := gc_h sh I7 J8 A) (C := ((True ∧ True) ∧ True)) rfl ⟨⟨trivial, trivial⟩, trivial⟩ ?_
          obtain ⟨r28, h28, E28, P28⟩ := d_X6_readContext (ws0 := ws0) (tb := tb) hws htb sh ro I7 J8 A hI7  t ((a2 + (3 * (I7 41 (Int.toNat a1))))) hb  h_t G_t  ⟨by omega, by omega⟩ (by omega) (by omega) (by omega) (by omega) (by omega) (by omega) (by omega) (by omega) KLT_I7 KRS_I7 KRC_I7
          obtain ⟨I29, J30, rfl, hI29, g28, k28, KLT_I29, KRS_I29, KRC_I29, ⟨z28, rfl, q28⟩⟩ := P28
          have FI29 := gc_frc (W := fun q j => (q = 39 ∧ j = 3) ∨ (q = 39 ∧ j = 4) ∨ (q = 23 ∧ j = 5) ∨ (q = 23 ∧ j = 6) ∨ (q = 23 ∧ j = 7) ∨ (q = 23 ∧ j = 8) ∨ (q = 1 ∧ j = 17) ∨ (q = 1 ∧ j = 18) ∨ q = 20 ∨ q = 41) (V := fun q j => (q = 39 ∧ j = 3) ∨ (q = 39 ∧ j = 4) ∨ (q = 23 ∧ j = 5) ∨ (q = 23 ∧ j = 6) ∨ (q = 23 ∧ j = 7) ∨ (q = 23 ∧ j = 8) ∨ (q = 1 ∧ j = 17) ∨ (q = 1 ∧ j = 18) ∨ q = 20 ∨ (q = 41 ∧ j = (Int.toNat ((a2 + (3 * (I7 41 (Int.toNat a1))))))) ∨ (q = 41 ∧ j = (Int.toNat (((a2 + (3 * (I7 41 (Int.toNat a1))))) + 1))) ∨ (q = 41 ∧ j = (Int.toNat (((a2 + (3 * (I7 41 (Int.toNat a1))))) + 2)))) FI7 (fun q j h => (h.elim (fun h => (Or.inl h)) (fun h => (h.elim (fun h => (Or.inr (Or.inl h))) (fun h => (h.elim (fun h => (Or.inr (Or.inr (Or.inl h)))) (fun h => (h.elim (fun h => (Or.inr (Or.inr (Or.inr (Or.inl h))))) (fun h => (h.elim (fun h => (Or.inr (Or.inr (Or.inr (Or.inr (Or.inl h)))))) (fun h => (h.elim (fun h => (Or.inr (Or.inr (Or.inr (Or.inr (Or.inr (Or.inl h))))))) (fun h => (h.elim (fun h => (Or.inr (Or.inr (Or.inr (Or.inr (Or.inr (Or.inr (Or.inl h)))))))) (fun h => (h.elim (fun h => (Or.inr (Or.inr (Or.inr (Or.inr (Or.inr (Or.inr (Or.inr (Or.inl h))))))))) (fun h => (h.elim (fun h => (Or.inr (Or.inr (Or.inr (Or.inr (Or.inr (Or.inr (Or.inr (Or.inr (Or.inl h)))))))))) (fun h => (h.elim (fun h => (Or.inr (Or.inr (Or.inr (Or.inr (Or.inr (Or.inr (Or.inr (Or.inr (Or.inr h.1)))))))))) (fun h => (h.elim (fun h => (Or.inr (Or.inr (Or.inr (Or.inr (Or.inr (Or.inr (Or.inr (Or.inr (Or.inr h.1)))))))))) (fun h => (Or.inr (Or.inr (Or.inr (Or.inr (Or.inr (Or.inr (Or.inr (Or.inr (Or.inr h.1)))))))))))))))))))))))))))))))) g28
          have FJ30 := gc_frc (W := fun q j => (q = 23 ∧ j = 9)) (V := fun q j => (q = 23 ∧ j = 9)) FJ8 (fun q j h => h) k28
          have t31 := (g28 23 1).resolve_left (by omega)
          have t32 := (g28 39 2).resolve_left (by omega)
          have t33 := (g28 41 (Int.toNat a1)).resolve_left (by omega)
          have f34 := (show 0 ≤ I29 23 1 ∧ I29 23 1 ≤ 1000 from gc_in hI29 R_23 rfl rfl)
          have f35 := (show 0 ≤ I29 23 5 ∧ I29 23 5 ≤ 1000 from gc_in hI29 R_23 rfl rfl)
          have f36 := (show 0 ≤ I29 23 6 ∧ I29 23 6 ≤ 1001 from gc_in hI29 R_23 rfl rfl)
          have f37 := (show 0 ≤ I29 23 7 ∧ I29 23 7 ≤ 125 from gc_in hI29 R_23 rfl rfl)
          have f38 := (show 0 ≤ I29 1 17 ∧ I29 1 17 ≤ 12000 from gc_in hI29 R_1 rfl rfl)
          have f39 := (show (-1) ≤ I29 39 2 ∧ I29 39 2 ≤ 999999 from gc_in hI29 R_39 rfl rfl)
          refine gv_callV hD rfl (As := [.inl (a2 + (3 * (I7 41 (Int.toNat a1))))]) (st := []) rfl B_39 S_39 rfl (gc_lV6 hws rfl) (Nat.le_of_ble_eq_true rfl) (gz_Ev_mono (d := 4) (by decide) E28) ?_
          show gv_X _ _ (78, [(0, .inr (.inr (some 39))), (1, .inl a1), (2, .inl a2), (3, .inl v3_9)], [.inl z28], sh, gc_h sh I29 J30 A)
          refine gv_if_ne (t := 83) hD rfl rfl ⟨by omega, by omega⟩ (fun c40 => ?_) (fun c40 => ?_)
          · show gv_X _ _ (83, [(0, .inr (.inr (some 39))), (1, .inl a1), (2, .inl a2), (3, .inl v3_9)], [], sh, gc_h sh I29 J30 A)
            refine gv_run 1 true hD (pc' := 84) (lv' := [(0, .inr (.inr (some 39))), (1, .inl a1), (2, .inl a2), (3, .inl v3_9)]) (st' := [.inr (.inr (some 39))]) (h' := gc_h sh I29 J30 A) (C := (True ∧ True)) rfl ⟨trivial, trivial⟩ ?_
            refine gv_get hD rfl rfl S_39 ⟨by decide, B_39⟩ (gc_hA S_39 rfl A_39_10) ?_
            show gv_X _ _ (87, [(0, .inr (.inr (some 39))), (1, .inl a1), (2, .inl a2), (3, .inl v3_9)], [.inr (.inr (some 41))], sh, gc_h sh I29 J30 A)
            refine gv_run 2 true hD (pc' := 89) (lv' := [(0, .inr (.inr (some 39))), (1, .inl a1), (2, .inl a2), (3, .inl v3_9)]) (st' := [.inl a1, .inr (.inr (some 41)), .inl a1, .inr (.inr (some 41))]) (h' := gc_h sh I29 J30 A) (C := ((True ∧ True) ∧ True)) rfl ⟨⟨trivial, trivial⟩, trivial⟩ ?_
            have t41 := gc_fS_ct (j := Int.toNat a1) KRS_I29 (by omega)
            have f42 := (show (-2147483648) ≤ I29 41 (Int.toNat a1) ∧ I29 41 (Int.toNat a1) ≤ 2147483647 from gc_in hI29 R_41 rfl rfl)
            refine gv_iald hD rfl S_41 rfl ⟨by decide, B_41⟩ ⟨by omega, by omega⟩ (gc_iI S_41 rfl) ?_
            show gv_X _ _ (90, [(0, .inr (.inr (some 39))), (1, .inl a1), (2, .inl a2), (3, .inl v3_9)], [.inl (I29 41 (Int.toNat a1)), .inl a1, .inr (.inr (some 41))], sh, gc_h sh I29 J30 A)
            refine gv_run 2 true hD (pc' := 92) (lv' := [(0, .inr (.inr (some 39))), (1, .inl a1), (2, .inl a2), (3, .inl v3_9)]) (st' := [.inl ((I29 41 (Int.toNat a1)) + 1), .inl a1, .inr (.inr (some 41))]) (h' := gc_h sh I29 J30 A) (C := ((True ∧ True) ∧ True)) rfl ⟨⟨trivial, trivial⟩, trivial⟩ ?_
            refine gv_iast hD rfl S_41 ⟨by decide, B_41⟩ ⟨by omega, by omega⟩ ?_
            refine gc_st hI29 S_41 rfl R_41 (lo := (-2147483648)) (hi := 2147483647) rfl rfl (by omega) (by omega) (fun I43 hI43 q44 p44 => ?_)
            have FI43 := gc_frs (W := fun q j => (q = 39 ∧ j = 3) ∨ (q = 39 ∧ j = 4) ∨ (q = 23 ∧ j = 5) ∨ (q = 23 ∧ j = 6) ∨ (q = 23 ∧ j = 7) ∨ (q = 23 ∧ j = 8) ∨ (q = 1 ∧ j = 17) ∨ (q = 1 ∧ j = 18) ∨ q = 20 ∨ q = 41) FI29 (Or.inr (Or.inr (Or.inr (Or.inr (Or.inr (Or.inr (Or.inr (Or.inr (Or.inr rfl))))))))) p44
            have t45 := p44 23 1 (fun h => absurd h.1 (by omega))
            have t46 := p44 23 5 (fun h => absurd h.1 (by omega))
            have t47 := p44 23 6 (fun h => absurd h.1 (by omega))
            have t48 := p44 23 7 (fun h => absurd h.1 (by omega))
            have t49 := p44 1 17 (fun h => absurd h.1 (by omega))
            have t50 := p44 39 2 (fun h => absurd h.1 (by omega))
            have f51 := (show 0 ≤ I43 23 1 ∧ I43 23 1 ≤ 1000 from gc_in hI43 R_23 rfl rfl)
            have f52 := (show 0 ≤ I43 23 5 ∧ I43 23 5 ≤ 1000 from gc_in hI43 R_23 rfl rfl)
            have f53 := (show 0 ≤ I43 23 6 ∧ I43 23 6 ≤ 1001 from gc_in hI43 R_23 rfl rfl)
            have f54 := (show 0 ≤ I43 23 7 ∧ I43 23 7 ≤ 125 from gc_in hI43 R_23 rfl rfl)
            have f55 := (show 0 ≤ I43 1 17 ∧ I43 1 17 ≤ 12000 from gc_in hI43 R_1 rfl rfl)
            have f56 := (show (-1) ≤ I43 39 2 ∧ I43 39 2 ≤ 999999 from gc_in hI43 R_39 rfl rfl)
            have KLT_I43 := gc_LT_fr KLT_I29 (p44 23 5 (fun h => absurd h.1 (by omega))) (p44 23 6 (fun h => absurd h.1 (by omega))) (p44 23 7 (fun h => absurd h.1 (by omega))) (fun k => p44 24 k (fun h => absurd h.1 (by omega)))
            have KRS_I43 := gc_row_st KRS_I29 p44 q44 (by unfold gc_fS; omega)
            have KRC_I43 : gc_RC I43 := gc_RC_st KRC_I29 p44 (by omega)
            show gv_X _ _ (93, [(0, .inr (.inr (some 39))), (1, .inl a1), (2, .inl a2), (3, .inl v3_9)], [], sh, gc_h sh I43 J30 A)
            refine gv_run 2 true hD (pc' := 2) (lv' := [(3, .inl (v3_9 + 1)), (0, .inr (.inr (some 39))), (1, .inl a1), (2, .inl a2)]) (st' := []) (h' := gc_h sh I43 J30 A) (C := ((True ∧ True) ∧ True)) rfl ⟨⟨trivial, trivial⟩, trivial⟩ ?_
            refine gv_pick [1, 2, 3, 0] rfl ?_
            exact ih2 I43 J30 (v3_9 + 1) (by omega) hI43 FI43 FJ30 KLT_I43 KRS_I43 KRC_I43 (by omega)
          · show gv_X _ _ (81, [(0, .inr (.inr (some 39))), (1, .inl a1), (2, .inl a2), (3, .inl v3_9)], [], sh, gc_h sh I29 J30 A)
            refine gv_run 1 true hD (pc' := 82) (lv' := [(0, .inr (.inr (some 39))), (1, .inl a1), (2, .inl a2), (3, .inl v3_9)]) (st' := [.inl 0]) (h' := gc_h sh I29 J30 A) (C := (True ∧ True)) rfl ⟨trivial, trivial⟩ ?_
            exact gv_zret hD rfl (by omega) ⟨I29, J30, rfl, hI29, FI29, FJ30, KLT_I29, KRS_I29, KRC_I29, ⟨_, rfl, by omega⟩⟩
        · show gv_X _ _ (51, [(0, .inr (.inr (some 39))), (1, .inl a1), (2, .inl a2), (3, .inl v3_9)], [], sh, gc_h sh I7 J8 A)
          refine gv_run 3 true hD (pc' := 54) (lv' := [(0, .inr (.inr (some 39))), (1, .inl a1), (2, .inl a2), (3, .inl v3_9)]) (st' := [.inr (.inr (some 39)), .inl 5, .inr (.inr (some 39))]) (h' := gc_h sh I7 J8 A) (C := (((True ∧ True) ∧ True) ∧ True)) rfl ⟨⟨⟨trivial, trivial⟩, trivial⟩, trivial⟩ ?_
          refine gv_get hD rfl rfl S_39 ⟨by decide, B_39⟩ (gc_hA S_39 rfl A_39_1) ?_
          show gv_X _ _ (57, [(0, .inr (.inr (some 39))), (1, .inl a1), (2, .inl a2), (3, .inl v3_9)], [.inr (.inr (some 23)), .inl 5, .inr (.inr (some 39))], sh, gc_h sh I7 J8 A)
          have f57 := (show 0 ≤ I7 23 5 ∧ I7 23 5 ≤ 1000 from gc_in hI7 R_23 rfl rfl)
          refine gv_get hD rfl rfl S_23 ⟨by decide, B_23⟩ (gc_hI S_23 rfl) ?_
          show gv_X _ _ (60, [(0, .inr (.inr (some 39))), (1, .inl a1), (2, .inl a2), (3, .inl v3_9)], [.inl (I7 23 5), .inl 5, .inr (.inr (some 39))], sh, gc_h sh I7 J8 A)
          obtain ⟨r58, h58, E58, P58⟩ := d_X6_wrong (ws0 := ws0) (tb := tb) hws htb sh ro I7 J8 A hI7  5 (I7 23 5) hb   ⟨by omega, by omega⟩ ⟨by omega, by omega⟩  
          obtain ⟨I59, J60, rfl, hI59, g58, k58, ⟨z58, rfl, q58⟩⟩ := P58
          have FI59 := gc_frc (W := fun q j => (q = 39 ∧ j = 3) ∨ (q = 39 ∧ j = 4) ∨ (q = 23 ∧ j = 5) ∨ (q = 23 ∧ j = 6) ∨ (q = 23 ∧ j = 7) ∨ (q = 23 ∧ j = 8) ∨ (q = 1 ∧ j = 17) ∨ (q = 1 ∧ j = 18) ∨ q = 20 ∨ q = 41) (V := fun q j => (q = 39 ∧ j = 3) ∨ (q = 39 ∧ j = 4)) FI7 (fun q j h => (h.elim (fun h => (Or.inl h)) (fun h => (Or.inr (Or.inl h))))) g58
          have t61 := (g58 23 1).resolve_left (by omega)
          have t62 := (g58 23 5).resolve_left (by omega)
          have t63 := (g58 23 6).resolve_left (by omega)
          have t64 := (g58 23 7).resolve_left (by omega)
          have t65 := (g58 1 17).resolve_left (by omega)
          have t66 := (g58 39 2).resolve_left (by omega)
          have t67 := (g58 41 (Int.toNat a1)).resolve_left (by omega)
          have f68 := (show 0 ≤ I59 23 1 ∧ I59 23 1 ≤ 1000 from gc_in hI59 R_23 rfl rfl)
          have f69 := (show 0 ≤ I59 23 5 ∧ I59 23 5 ≤ 1000 from gc_in hI59 R_23 rfl rfl)
          have f70 := (show 0 ≤ I59 23 6 ∧ I59 23 6 ≤ 1001 from gc_in hI59 R_23 rfl rfl)
          have f71 := (show 0 ≤ I59 23 7 ∧ I59 23 7 ≤ 125 from gc_in hI59 R_23 rfl rfl)
          have f72 := (show 0 ≤ I59 1 17 ∧ I59 1 17 ≤ 12000 from gc_in hI59 R_1 rfl rfl)
          have f73 := (show (-1) ≤ I59 39 2 ∧ I59 39 2 ≤ 999999 from gc_in hI59 R_39 rfl rfl)
          obtain rfl : J8 = J60 := funext fun q => funext fun j => ((k58 q j).resolve_left id).symm
          have KLT_I59 := gc_LT_fr KLT_I7 ((g58 23 5).resolve_left (by omega)) ((g58 23 6).resolve_left (by omega)) ((g58 23 7).resolve_left (by omega)) (fun k => (g58 24 k).resolve_left (by omega))
          have KRS_I59 := gc_row_fr KRS_I7 (fun k => (g58 41 k).resolve_left (by omega))
          have KRC_I59 := gc_RC_fr KRC_I7 (fun k => (g58 41 k).resolve_left (by omega))
          refine gv_callV hD rfl (As := [.inl 5, .inl (I7 23 5)]) (st := []) rfl B_39 S_39 rfl (gc_lV6 hws rfl) (Nat.le_of_ble_eq_true rfl) (gz_Ev_mono (d := 1) (by decide) E58) ?_
          show gv_X _ _ (63, [(0, .inr (.inr (some 39))), (1, .inl a1), (2, .inl a2), (3, .inl v3_9)], [.inl z58], sh, gc_h sh I59 J8 A)
          exact gv_zret hD rfl (by omega) ⟨I59, J8, rfl, hI59, FI59, FJ8, KLT_I59, KRS_I59, KRC_I59, ⟨_, rfl, by omega⟩⟩
      have L99 : ((I7 23 5 ≤ I7 23 6) ∧ (I7 23 7 = 5 ∨ I7 23 6 ≤ I7 23 1) ∧ (I7 23 5 ≤ I7 23 1) ∧ (I7 23 7 = 4 ∨ (I7 23 5 < I7 23 6 ∧ I7 23 5 < I7 23 1)) ∧ (I7 23 7 = 3 → 2 ≤ I7 23 6 - I7 23 5 ∧ I7 23 6 - I7 23 5 ≤ 14) ∧ (I7 23 1 = I 23 1) ∧ (I 23 5 ≤ I7 23 5) ∧ (I7 1 17 + I7 23 1 ≤ 1280 + I7 23 5) ∧ (I7 39 2 = (t : Int))) → gv_X (gc_E6 ws0 tb 4 (yX6_readSide, cX6_readSide, 4, (some .boolean)) kX6_readSide) (gv_Q cX6_readSide (some .boolean) sh (fun r h' => (∃ (I' : gr_I) (J' : gr_J), h' = gc_h sh I' J' A ∧ gc_Inv ro I' ∧ (∀ q j : Nat, ((q = 39 ∧ j = 3) ∨ (q = 39 ∧ j = 4) ∨ (q = 23 ∧ j = 5) ∨ (q = 23 ∧ j = 6) ∨ (q = 23 ∧ j = 7) ∨ (q = 23 ∧ j = 8) ∨ (q = 1 ∧ j = 17) ∨ (q = 1 ∧ j = 18) ∨ q = 20 ∨ q = 41) ∨ I' q j = I q j) ∧ (∀ q j : Nat, ((q = 23 ∧ j = 9)) ∨ J' q j = J q j) ∧ gc_LT I' ∧ gc_row 41 25 gc_fS I' ∧ gc_RC I' ∧ (∃ z : Int, r = some (.inl z) ∧ 0 ≤ z ∧ z ≤ 1 ∧ (I' 23 5 ≤ I' 23 6) ∧ (I' 23 7 = 5 ∨ I' 23 6 ≤ I' 23 1) ∧ (I' 23 5 ≤ I' 23 1) ∧ (I' 23 7 = 4 ∨ (I' 23 5 < I' 23 6 ∧ I' 23 5 < I' 23 1)) ∧ (I' 23 7 = 3 → 2 ≤ I' 23 6 - I' 23 5 ∧ I' 23 6 - I' 23 5 ≤ 14) ∧ (I' 23 1 = I 23 1) ∧ (I 23 5 ≤ I' 23 5) ∧ (I' 1 17 + I' 23 1 ≤ 1280 + I' 23 5))))) (99, [], [], sh, gc_h sh I7 J8 A) := by
        intro m_74
        obtain ⟨e0_74, e1_74, e2_74, e3_74, e4_74, e5_74, e6_74, e7_74, e8_74⟩ := m_74
        have f75 := (show 0 ≤ I7 23 1 ∧ I7 23 1 ≤ 1000 from gc_in hI7 R_23 rfl rfl)
        have f76 := (show 0 ≤ I7 23 5 ∧ I7 23 5 ≤ 1000 from gc_in hI7 R_23 rfl rfl)
        have f77 := (show 0 ≤ I7 23 6 ∧ I7 23 6 ≤ 1001 from gc_in hI7 R_23 rfl rfl)
        have f78 := (show 0 ≤ I7 23 7 ∧ I7 23 7 ≤ 125 from gc_in hI7 R_23 rfl rfl)
        have f79 := (show 0 ≤ I7 1 17 ∧ I7 1 17 ≤ 12000 from gc_in hI7 R_1 rfl rfl)
        have f80 := (show (-1) ≤ I7 39 2 ∧ I7 39 2 ≤ 999999 from gc_in hI7 R_39 rfl rfl)
        refine gv_run 1 true hD (pc' := 100) (lv' := []) (st' := [.inl 1]) (h' := gc_h sh I7 J8 A) (C := (True ∧ True)) rfl ⟨trivial, trivial⟩ ?_
        exact gv_zret hD rfl (by omega) ⟨I7, J8, rfl, hI7, FI7, FJ8, KLT_I7, KRS_I7, KRC_I7, ⟨_, rfl, by omega⟩⟩
      refine gv_run 2 true hD (pc' := 4) (lv' := [(0, .inr (.inr (some 39))), (1, .inl a1), (2, .inl a2), (3, .inl v3_9)]) (st' := [.inl 3, .inl v3_9]) (h' := gc_h sh I7 J8 A) (C := ((True ∧ True) ∧ True)) rfl ⟨⟨trivial, trivial⟩, trivial⟩ ?_
      refine gv_icmp_gt (t := 99) hD rfl rfl ⟨⟨by omega, by omega⟩, ⟨by omega, by omega⟩⟩ (fun c81 => ?_) (fun c81 => ?_)
      · show gv_X _ _ (99, [(0, .inr (.inr (some 39))), (1, .inl a1), (2, .inl a2), (3, .inl v3_9)], [], sh, gc_h sh I7 J8 A)
        refine gv_pick [] rfl ?_
        exact L99 (by omega)
      · show gv_X _ _ (7, [(0, .inr (.inr (some 39))), (1, .inl a1), (2, .inl a2), (3, .inl v3_9)], [], sh, gc_h sh I7 J8 A)
        refine gv_run 1 true hD (pc' := 8) (lv' := [(0, .inr (.inr (some 39))), (1, .inl a1), (2, .inl a2), (3, .inl v3_9)]) (st' := [.inr (.inr (some 39))]) (h' := gc_h sh I7 J8 A) (C := (True ∧ True)) rfl ⟨trivial, trivial⟩ ?_
        refine gv_get hD rfl rfl S_39 ⟨by decide, B_39⟩ (gc_hA S_39 rfl A_39_1) ?_
        show gv_X _ _ (11, [(0, .inr (.inr (some 39))), (1, .inl a1), (2, .inl a2), (3, .inl v3_9)], [.inr (.inr (some 23))], sh, gc_h sh I7 J8 A)
        have f82 := (show 0 ≤ I7 23 7 ∧ I7 23 7 ≤ 125 from gc_in hI7 R_23 rfl rfl)
        refine gv_get hD rfl rfl S_23 ⟨by decide, B_23⟩ (gc_hI S_23 rfl) ?_
        show gv_X _ _ (14, [(0, .inr (.inr (some 39))), (1, .inl a1), (2, .inl a2), (3, .inl v3_9)], [.inl (I7 23 7)], sh, gc_h sh I7 J8 A)
        refine gv_run 1 true hD (pc' := 15) (lv' := [(0, .inr (.inr (some 39))), (1, .inl a1), (2, .inl a2), (3, .inl v3_9)]) (st' := [.inl 1, .inl (I7 23 7)]) (h' := gc_h sh I7 J8 A) (C := (True ∧ True)) rfl ⟨trivial, trivial⟩ ?_
        refine gv_icmp_eq (t := 41) hD rfl rfl ⟨⟨by omega, by omega⟩, ⟨by omega, by omega⟩⟩ (fun c83 => ?_) (fun c83 => ?_)
        · show gv_X _ _ (41, [(0, .inr (.inr (some 39))), (1, .inl a1), (2, .inl a2), (3, .inl v3_9)], [], sh, gc_h sh I7 J8 A)
          exact L41 (by omega)
        · show gv_X _ _ (18, [(0, .inr (.inr (some 39))), (1, .inl a1), (2, .inl a2), (3, .inl v3_9)], [], sh, gc_h sh I7 J8 A)
          refine gv_run 1 true hD (pc' := 19) (lv' := [(0, .inr (.inr (some 39))), (1, .inl a1), (2, .inl a2), (3, .inl v3_9)]) (st' := [.inr (.inr (some 39))]) (h' := gc_h sh I7 J8 A) (C := (True ∧ True)) rfl ⟨trivial, trivial⟩ ?_
          refine gv_get hD rfl rfl S_39 ⟨by decide, B_39⟩ (gc_hA S_39 rfl A_39_1) ?_
          show gv_X _ _ (22, [(0, .inr (.inr (some 39))), (1, .inl a1), (2, .inl a2), (3, .inl v3_9)], [.inr (.inr (some 23))], sh, gc_h sh I7 J8 A)
          have f84 := (show 0 ≤ I7 23 7 ∧ I7 23 7 ≤ 125 from gc_in hI7 R_23 rfl rfl)
          refine gv_get hD rfl rfl S_23 ⟨by decide, B_23⟩ (gc_hI S_23 rfl) ?_
          show gv_X _ _ (25, [(0, .inr (.inr (some 39))), (1, .inl a1), (2, .inl a2), (3, .inl v3_9)], [.inl (I7 23 7)], sh, gc_h sh I7 J8 A)
          refine gv_run 1 true hD (pc' := 26) (lv' := [(0, .inr (.inr (some 39))), (1, .inl a1), (2, .inl a2), (3, .inl v3_9)]) (st' := [.inl 3, .inl (I7 23 7)]) (h' := gc_h sh I7 J8 A) (C := (True ∧ True)) rfl ⟨trivial, trivial⟩ ?_
          refine gv_icmp_eq (t := 41) hD rfl rfl ⟨⟨by omega, by omega⟩, ⟨by omega, by omega⟩⟩ (fun c85 => ?_) (fun c85 => ?_)
          · show gv_X _ _ (41, [(0, .inr (.inr (some 39))), (1, .inl a1), (2, .inl a2), (3, .inl v3_9)], [], sh, gc_h sh I7 J8 A)
            exact L41 (by omega)
          · show gv_X _ _ (29, [(0, .inr (.inr (some 39))), (1, .inl a1), (2, .inl a2), (3, .inl v3_9)], [], sh, gc_h sh I7 J8 A)
            refine gv_run 1 true hD (pc' := 30) (lv' := [(0, .inr (.inr (some 39))), (1, .inl a1), (2, .inl a2), (3, .inl v3_9)]) (st' := [.inr (.inr (some 39))]) (h' := gc_h sh I7 J8 A) (C := (True ∧ True)) rfl ⟨trivial, trivial⟩ ?_
            refine gv_get hD rfl rfl S_39 ⟨by decide, B_39⟩ (gc_hA S_39 rfl A_39_1) ?_
            show gv_X _ _ (33, [(0, .inr (.inr (some 39))), (1, .inl a1), (2, .inl a2), (3, .inl v3_9)], [.inr (.inr (some 23))], sh, gc_h sh I7 J8 A)
            have f86 := (show 0 ≤ I7 23 7 ∧ I7 23 7 ≤ 125 from gc_in hI7 R_23 rfl rfl)
            refine gv_get hD rfl rfl S_23 ⟨by decide, B_23⟩ (gc_hI S_23 rfl) ?_
            show gv_X _ _ (36, [(0, .inr (.inr (some 39))), (1, .inl a1), (2, .inl a2), (3, .inl v3_9)], [.inl (I7 23 7)], sh, gc_h sh I7 J8 A)
            refine gv_run 1 true hD (pc' := 38) (lv' := [(0, .inr (.inr (some 39))), (1, .inl a1), (2, .inl a2), (3, .inl v3_9)]) (st' := [.inl 35, .inl (I7 23 7)]) (h' := gc_h sh I7 J8 A) (C := (True ∧ True)) rfl ⟨trivial, trivial⟩ ?_
            refine gv_icmp_ne (t := 99) hD rfl rfl ⟨⟨by omega, by omega⟩, ⟨by omega, by omega⟩⟩ (fun c87 => ?_) (fun c87 => ?_)
            · show gv_X _ _ (99, [(0, .inr (.inr (some 39))), (1, .inl a1), (2, .inl a2), (3, .inl v3_9)], [], sh, gc_h sh I7 J8 A)
              refine gv_pick [] rfl ?_
              exact L99 (by omega)
            · show gv_X _ _ (41, [(0, .inr (.inr (some 39))), (1, .inl a1), (2, .inl a2), (3, .inl v3_9)], [], sh, gc_h sh I7 J8 A)
              exact L41 (by omega)
  refine gv_run 2 true hD (pc' := 2) (lv' := [(3, .inl 0), (0, .inr (.inr (some 39))), (1, .inl a1), (2, .inl a2)]) (st' := []) (h' := gc_h sh I J A) (C := ((True ∧ True) ∧ True)) rfl ⟨⟨trivial, trivial⟩, trivial⟩ ?_
  refine gv_pick [1, 2, 3, 0] rfl ?_
  exact L2 _ I J 0 (Nat.lt_succ_self _) hI FI FJ KLT_I KRS_I KRC_I (by omega)
