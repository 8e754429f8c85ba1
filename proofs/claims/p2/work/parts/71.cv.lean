set_option maxHeartbeats 4000000 in
set_option maxRecDepth 100000 in
theorem d_X6_readParent {ws0 : List Cond} {tb : String → gz_T} (hws : gc_Ws ws0) (htb : gc_tbs tb) (sh : gz_Sh) (ro : Nat → Nat) (I : gr_I) (J : gr_J) (A : gc_A) (hI : gc_Inv ro I) (t : Nat)  (hb : gc_Base sh ro A) (h_t : gc_isTongue sh ro A t) (G_t : 144 ≤ t)  (x0 : I 23 5 ≤ I 23 6) (x1 : I 23 7 = 5 ∨ I 23 6 ≤ I 23 1) (x2 : I 23 5 ≤ I 23 1) (x3 : I 23 7 = 4 ∨ (I 23 5 < I 23 6 ∧ I 23 5 < I 23 1)) (x4 : I 23 7 = 3 → 2 ≤ I 23 6 - I 23 5 ∧ I 23 6 - I 23 5 ≤ 14) (x5 : I 23 7 = 1) (x6 : I 39 2 = (t : Int)) (KLT_I : gc_LT I) : ∃ r h', gz_Ev ws0 tb 4 (yX6_readParent, cX6_readParent, 2, (some .boolean)) [.inr (.inr (some 39))] sh (gc_h sh I J A) r sh h' 0 0 ∧ (∃ (I' : gr_I) (J' : gr_J), h' = gc_h sh I' J' A ∧ gc_Inv ro I' ∧ (∀ q j : Nat, ((q = 39 ∧ j = 3) ∨ (q = 39 ∧ j = 4) ∨ (q = 23 ∧ j = 5) ∨ (q = 23 ∧ j = 6) ∨ (q = 23 ∧ j = 7) ∨ (q = 23 ∧ j = 8) ∨ (q = 39 ∧ j = 8) ∨ q = 40) ∨ I' q j = I q j) ∧ (∀ q j : Nat, ((q = 23 ∧ j = 9)) ∨ J' q j = J q j) ∧ gc_LT I' ∧ (∃ z : Int, r = some (.inl z) ∧ 0 ≤ z ∧ z ≤ 1 ∧ (I' 23 5 ≤ I' 23 6) ∧ (I' 23 7 = 5 ∨ I' 23 6 ≤ I' 23 1) ∧ (I' 23 5 ≤ I' 23 1) ∧ (I' 23 7 = 4 ∨ (I' 23 5 < I' 23 6 ∧ I' 23 5 < I' 23 1)) ∧ (I' 23 7 = 3 → 2 ≤ I' 23 6 - I' 23 5 ∧ I' 23 6 - I' 23 5 ≤ 14) ∧ (I' 23 1 = I 23 1) ∧ (I 23 5 ≤ I' 23 5))) := by
  have FI : ∀ q j : Nat, ((q = 39 ∧ j = 3) ∨ (q = 39 ∧ j = 4) ∨ (q = 23 ∧ j = 5) ∨ (q = 23 ∧ j = 6) ∨ (q = 23 ∧ j = 7) ∨ (q = 23 ∧ j = 8) ∨ (q = 39 ∧ j = 8) ∨ q = 40) ∨ I q j = I q j := fun _ _ => Or.inr rfl
  have FJ : ∀ q j : Nat, ((q = 23 ∧ j = 9)) ∨ J q j = J q j := fun _ _ => Or.inr rfl
  have A_39_1 : A 39 1 = some 23 := gc_bA hb rfl
  have A_39_9 : A 39 9 = some 40 := gc_bA hb rfl
  have B_23 : 23 < 1000000 := by decide
  have B_39 : 39 < 1000000 := by decide
  have B_40 : 40 < 1000000 := by decide
  have R_23 : ro 23 = 3 := gc_bR hb (by decide) rfl
  have R_39 : ro 39 = 42 := gc_bR hb (by decide) rfl
  have R_40 : ro 40 = 39 := gc_bR hb (by decide) rfl
  have S_23 : sh[23]? = some (false, 9, 10) := gc_bS hb rfl
  have S_39 : sh[39]? = some (false, 6, 19) := gc_bS hb rfl
  have S_40 : sh[40]? = some (true, 1, 72) := gc_bS hb rfl
  obtain ⟨S_t, R_t, B_t, A_t_0, h_t_1, A_t_1, h_t_3, A_t_2, S_t_5, R_t_5, B_t_5, A_t_3, S_t_6, R_t_6, B_t_6, A_t_4, h_t_7, A_t_5, S_t_9, R_t_9, B_t_9, A_t_7, S_t_10, R_t_10, B_t_10, A_t_8, h_t_11, A_t_9, S_t_13, R_t_13, B_t_13, A_t_10, S_t_14, R_t_14, B_t_14, A_t_12, S_t_15, R_t_15, B_t_15, A_t_14, S_t_16, R_t_16, B_t_16, A_t_15, h_t_17⟩ := id h_t
  obtain ⟨S_t_1, R_t_1, B_t_1, A_t_1_0, S_t_1_1, R_t_1_1, B_t_1_1, Q0_t_1, Q1_t_1, Q2_t_1⟩ := id h_t_1
  obtain ⟨S_t_3, R_t_3, B_t_3, A_t_3_0, S_t_3_1, R_t_3_1, B_t_3_1, Q0_t_3, Q1_t_3, Q2_t_3⟩ := id h_t_3
  obtain ⟨S_t_7, R_t_7, B_t_7, A_t_7_0, S_t_7_1, R_t_7_1, B_t_7_1, Q0_t_7, Q1_t_7, Q2_t_7⟩ := id h_t_7
  obtain ⟨S_t_11, R_t_11, B_t_11, A_t_11_0, S_t_11_1, R_t_11_1, B_t_11_1, Q0_t_11, Q1_t_11, Q2_t_11⟩ := id h_t_11
  obtain ⟨S_t_17, R_t_17, B_t_17, A_t_17_0, S_20, R_20, B_20, A_t_17_1, S_t_17_1, R_t_17_1, B_t_17_1, A_t_17_2, S_t_17_2, R_t_17_2, B_t_17_2, A_t_17_3, S_t_17_3, R_t_17_3, B_t_17_3, A_t_17_4, S_t_17_4, R_t_17_4, B_t_17_4, A_t_17_5, S_t_17_5, R_t_17_5, B_t_17_5, S_t_17_6, R_t_17_6, B_t_17_6, S_t_17_7, R_t_17_7, B_t_17_7⟩ := id h_t_17
  have hD : gv_D (gc_E6 ws0 tb 3 (yX6_readParent, cX6_readParent, 2, (some .boolean)) kX6_readParent) := gq_ok oX6_readParent
  refine gc_ev6 (d := 3) (l := kX6_readParent) (Po := fun r h' => (∃ (I' : gr_I) (J' : gr_J), h' = gc_h sh I' J' A ∧ gc_Inv ro I' ∧ (∀ q j : Nat, ((q = 39 ∧ j = 3) ∨ (q = 39 ∧ j = 4) ∨ (q = 23 ∧ j = 5) ∨ (q = 23 ∧ j = 6) ∨ (q = 23 ∧ j = 7) ∨ (q = 23 ∧ j = 8) ∨ (q = 39 ∧ j = 8) ∨ q = 40) ∨ I' q j = I q j) ∧ (∀ q j : Nat, ((q = 23 ∧ j = 9)) ∨ J' q j = J q j) ∧ gc_LT I' ∧ (∃ z : Int, r = some (.inl z) ∧ 0 ≤ z ∧ z ≤ 1 ∧ (I' 23 5 ≤ I' 23 6) ∧ (I' 23 7 = 5 ∨ I' 23 6 ≤ I' 23 1) ∧ (I' 23 5 ≤ I' 23 1) ∧ (I' 23 7 = 4 ∨ (I' 23 5 < I' 23 6 ∧ I' 23 5 < I' 23 1)) ∧ (I' 23 7 = 3 → 2 ≤ I' 23 6 - I' 23 5 ∧ I' 23 6 - I' 23 5 ≤ 14) ∧ (I' 23 1 = I 23 1) ∧ (I 23 5 ≤ I' 23 5)))) htb rfl (Nat.le_of_ble_eq_true rfl) ?_
  have f1 := (show 0 ≤ I 23 1 ∧ I 23 1 ≤ 1000 from gc_in hI R_23 rfl rfl)
  have f2 := (show 0 ≤ I 23 5 ∧ I 23 5 ≤ 1000 from gc_in hI R_23 rfl rfl)
  have f3 := (show 0 ≤ I 23 6 ∧ I 23 6 ≤ 1001 from gc_in hI R_23 rfl rfl)
  have f4 := (show 0 ≤ I 23 7 ∧ I 23 7 ≤ 125 from gc_in hI R_23 rfl rfl)
  have f5 := (show 0 ≤ I (t + 11) 1 ∧ I (t + 11) 1 ≤ 24 from gc_in hI R_t_11 rfl rfl)
  have f6 := (show (-1) ≤ I 39 2 ∧ I 39 2 ≤ 999999 from gc_in hI R_39 rfl rfl)
  refine gv_run 1 true hD (pc' := 1) (lv' := [(0, .inr (.inr (some 39)))]) (st' := [.inr (.inr (some 39))]) (h' := gc_h sh I J A) (C := (True ∧ True)) rfl ⟨trivial, trivial⟩ ?_
  refine gv_get hD rfl rfl S_39 ⟨by decide, B_39⟩ (gc_hA S_39 rfl A_39_1) ?_
  show gv_X _ _ (4, [(0, .inr (.inr (some 39)))], [.inr (.inr (some 23))], sh, gc_h sh I J A)
  obtain ⟨r7, h7, E7, P7⟩ := d_X9_advance (ws0 := ws0) (tb := tb) hws htb sh ro I J A hI 23  (gc_b23 hb)    (by omega) 
  obtain ⟨I8, J9, rfl, hI8, g7, k7, ⟨rfl, q7⟩⟩ := P7
  have FI8 := gc_frc (W := fun q j => (q = 39 ∧ j = 3) ∨ (q = 39 ∧ j = 4) ∨ (q = 23 ∧ j = 5) ∨ (q = 23 ∧ j = 6) ∨ (q = 23 ∧ j = 7) ∨ (q = 23 ∧ j = 8) ∨ (q = 39 ∧ j = 8) ∨ q = 40) (V := fun q j => (q = 23 ∧ j = 5) ∨ (q = 23 ∧ j = 6) ∨ (q = 23 ∧ j = 7) ∨ (q = 23 ∧ j = 8)) FI (fun q j h => (h.elim (fun h => (Or.inr (Or.inr (Or.inl h)))) (fun h => (h.elim (fun h => (Or.inr (Or.inr (Or.inr (Or.inl h))))) (fun h => (h.elim (fun h => (Or.inr (Or.inr (Or.inr (Or.inr (Or.inl h)))))) (fun h => (Or.inr (Or.inr (Or.inr (Or.inr (Or.inr (Or.inl h))))))))))))) g7
  have FJ9 := gc_frc (W := fun q j => (q = 23 ∧ j = 9)) (V := fun q j => (q = 23 ∧ j = 9)) FJ (fun q j h => h) k7
  have t10 := (g7 23 1).resolve_left (by omega)
  have t11 := (g7 (t + 11) 1).resolve_left (by omega)
  have t12 := (g7 39 2).resolve_left (by omega)
  have f13 := (show 0 ≤ I8 23 1 ∧ I8 23 1 ≤ 1000 from gc_in hI8 R_23 rfl rfl)
  have f14 := (show 0 ≤ I8 23 5 ∧ I8 23 5 ≤ 1000 from gc_in hI8 R_23 rfl rfl)
  have f15 := (show 0 ≤ I8 23 6 ∧ I8 23 6 ≤ 1001 from gc_in hI8 R_23 rfl rfl)
  have f16 := (show 0 ≤ I8 23 7 ∧ I8 23 7 ≤ 125 from gc_in hI8 R_23 rfl rfl)
  have f17 := (show 0 ≤ I8 (t + 11) 1 ∧ I8 (t + 11) 1 ≤ 24 from gc_in hI8 R_t_11 rfl rfl)
  have f18 := (show (-1) ≤ I8 39 2 ∧ I8 39 2 ≤ 999999 from gc_in hI8 R_39 rfl rfl)
  have KLT_I8 : gc_LT I8 := q7.2.2.2.2.2.2.2
  refine gv_callV hD rfl (As := []) (st := []) rfl B_23 S_23 rfl (gc_lV6 hws rfl) (Nat.le_of_ble_eq_true rfl) (gz_Ev_mono (d := 2) (by decide) E7) ?_
  show gv_X _ _ (7, [(0, .inr (.inr (some 39)))], [], sh, gc_h sh I8 J9 A)
  refine gv_run 2 true hD (pc' := 9) (lv' := [(0, .inr (.inr (some 39)))]) (st' := [.inr (.inr (some 39)), .inr (.inr (some 39))]) (h' := gc_h sh I8 J9 A) (C := ((True ∧ True) ∧ True)) rfl ⟨⟨trivial, trivial⟩, trivial⟩ ?_
  refine gv_get hD rfl rfl S_39 ⟨by decide, B_39⟩ (gc_h5 (t := t) S_39 rfl (by omega)) ?_
  show gv_X _ _ (12, [(0, .inr (.inr (some 39)))], [.inr (.inr (some t)), .inr (.inr (some 39))], sh, gc_h sh I8 J9 A)
  refine gv_get hD rfl rfl S_t ⟨by decide, B_t⟩ (gc_hA S_t rfl A_t_8) ?_
  show gv_X _ _ (15, [(0, .inr (.inr (some 39)))], [.inr (.inr (some (t + 11))), .inr (.inr (some 39))], sh, gc_h sh I8 J9 A)
  obtain ⟨r19, h19, E19, P19⟩ := d_X6_needKnown (ws0 := ws0) (tb := tb) hws htb sh ro I8 J9 A hI8  24 8 (t + 11) hb h_t_11    
  obtain ⟨I20, J21, rfl, hI20, g19, k19, ⟨z19, rfl, q19⟩⟩ := P19
  have FI20 := gc_frc (W := fun q j => (q = 39 ∧ j = 3) ∨ (q = 39 ∧ j = 4) ∨ (q = 23 ∧ j = 5) ∨ (q = 23 ∧ j = 6) ∨ (q = 23 ∧ j = 7) ∨ (q = 23 ∧ j = 8) ∨ (q = 39 ∧ j = 8) ∨ q = 40) (V := fun q j => (q = 39 ∧ j = 3) ∨ (q = 39 ∧ j = 4)) FI8 (fun q j h => (h.elim (fun h => (Or.inl h)) (fun h => (Or.inr (Or.inl h))))) g19
  have t22 := (g19 23 1).resolve_left (by omega)
  have t23 := (g19 23 5).resolve_left (by omega)
  have t24 := (g19 23 6).resolve_left (by omega)
  have t25 := (g19 23 7).resolve_left (by omega)
  have t26 := (g19 (t + 11) 1).resolve_left (by omega)
  have t27 := (g19 39 2).resolve_left (by omega)
  have f28 := (show 0 ≤ I20 23 1 ∧ I20 23 1 ≤ 1000 from gc_in hI20 R_23 rfl rfl)
  have f29 := (show 0 ≤ I20 23 5 ∧ I20 23 5 ≤ 1000 from gc_in hI20 R_23 rfl rfl)
  have f30 := (show 0 ≤ I20 23 6 ∧ I20 23 6 ≤ 1001 from gc_in hI20 R_23 rfl rfl)
  have f31 := (show 0 ≤ I20 23 7 ∧ I20 23 7 ≤ 125 from gc_in hI20 R_23 rfl rfl)
  have f32 := (show 0 ≤ I20 (t + 11) 1 ∧ I20 (t + 11) 1 ≤ 24 from gc_in hI20 R_t_11 rfl rfl)
  have f33 := (show (-1) ≤ I20 39 2 ∧ I20 39 2 ≤ 999999 from gc_in hI20 R_39 rfl rfl)
  obtain rfl : J9 = J21 := funext fun q => funext fun j => ((k19 q j).resolve_left id).symm
  have KLT_I20 := gc_LT_fr KLT_I8 ((g19 23 5).resolve_left (by omega)) ((g19 23 6).resolve_left (by omega)) ((g19 23 7).resolve_left (by omega)) (fun k => (g19 24 k).resolve_left (by omega))
  refine gv_callV hD rfl (As := [.inr (.inr (some (t + 11)))]) (st := []) rfl B_39 S_39 rfl (gc_lV6 hws rfl) (Nat.le_of_ble_eq_true rfl) (gz_Ev_mono (d := 3) (by decide) E19) ?_
  show gv_X _ _ (18, [(0, .inr (.inr (some 39)))], [.inl z19], sh, gc_h sh I20 J9 A)
  refine gv_if_ne (t := 23) hD rfl rfl ⟨by omega, by omega⟩ (fun c34 => ?_) (fun c34 => ?_)
  · show gv_X _ _ (23, [(0, .inr (.inr (some 39)))], [], sh, gc_h sh I20 J9 A)
    refine gv_run 1 true hD (pc' := 24) (lv' := [(0, .inr (.inr (some 39)))]) (st' := [.inr (.inr (some 39))]) (h' := gc_h sh I20 J9 A) (C := (True ∧ True)) rfl ⟨trivial, trivial⟩ ?_
    refine gv_get hD rfl rfl S_39 ⟨by decide, B_39⟩ (gc_h5 (t := t) S_39 rfl (by omega)) ?_
    show gv_X _ _ (27, [(0, .inr (.inr (some 39)))], [.inr (.inr (some t))], sh, gc_h sh I20 J9 A)
    refine gv_get hD rfl rfl S_t ⟨by decide, B_t⟩ (gc_hA S_t rfl A_t_8) ?_
    show gv_X _ _ (30, [(0, .inr (.inr (some 39)))], [.inr (.inr (some (t + 11)))], sh, gc_h sh I20 J9 A)
    refine gv_run 1 true hD (pc' := 31) (lv' := [(0, .inr (.inr (some 39)))]) (st' := [.inr (.inr (some 39)), .inr (.inr (some (t + 11)))]) (h' := gc_h sh I20 J9 A) (C := (True ∧ True)) rfl ⟨trivial, trivial⟩ ?_
    refine gv_get hD rfl rfl S_39 ⟨by decide, B_39⟩ (gc_hA S_39 rfl A_39_1) ?_
    show gv_X _ _ (34, [(0, .inr (.inr (some 39)))], [.inr (.inr (some 23)), .inr (.inr (some (t + 11)))], sh, gc_h sh I20 J9 A)
    refine gv_get hD rfl rfl S_23 ⟨by decide, B_23⟩ (gc_hJ S_23 rfl) ?_
    show gv_X _ _ (37, [(0, .inr (.inr (some 39)))], [.inr (.inl (J9 23 9)), .inr (.inr (some (t + 11)))], sh, gc_h sh I20 J9 A)
    obtain ⟨r35, h35, E35, P35⟩ := d_X4_find (ws0 := ws0) (tb := tb) hws htb sh ro I20 J9 A hI20 (t + 11) 24 8 (J9 23 9) h_t_11     
    obtain ⟨rfl, ⟨z35, rfl, q35⟩⟩ := P35
    refine gv_callV hD rfl (As := [.inr (.inl (J9 23 9))]) (st := []) rfl B_t_11 S_t_11 rfl (gc_lV6 hws rfl) (Nat.le_of_ble_eq_true rfl) (gz_Ev_mono (d := 1) (by decide) E35) ?_
    show gv_X _ _ (40, [(0, .inr (.inr (some 39)))], [.inl z35], sh, gc_h sh I20 J9 A)
    refine gv_run 3 true hD (pc' := 43) (lv' := [(1, .inl z35), (0, .inr (.inr (some 39)))]) (st' := [.inr (.inr (some 39)), .inr (.inr (some 39))]) (h' := gc_h sh I20 J9 A) (C := (((True ∧ True) ∧ True) ∧ True)) rfl ⟨⟨⟨trivial, trivial⟩, trivial⟩, trivial⟩ ?_
    refine gv_get hD rfl rfl S_39 ⟨by decide, B_39⟩ (gc_h5 (t := t) S_39 rfl (by omega)) ?_
    show gv_X _ _ (46, [(1, .inl z35), (0, .inr (.inr (some 39)))], [.inr (.inr (some t)), .inr (.inr (some 39))], sh, gc_h sh I20 J9 A)
    refine gv_get hD rfl rfl S_t ⟨by decide, B_t⟩ (gc_hA S_t rfl A_t_9) ?_
    show gv_X _ _ (49, [(1, .inl z35), (0, .inr (.inr (some 39)))], [.inr (.inr (some (t + 13))), .inr (.inr (some 39))], sh, gc_h sh I20 J9 A)
    refine gv_run 1 true hD (pc' := 50) (lv' := [(1, .inl z35), (0, .inr (.inr (some 39)))]) (st' := [.inl z35, .inr (.inr (some (t + 13))), .inr (.inr (some 39))]) (h' := gc_h sh I20 J9 A) (C := (True ∧ True)) rfl ⟨trivial, trivial⟩ ?_
    have f36 := (show 0 ≤ I20 (t + 13) (Int.toNat z35) ∧ I20 (t + 13) (Int.toNat z35) ≤ 24 from gc_in hI20 R_t_13 rfl rfl)
    refine gv_iald hD rfl S_t_13 rfl ⟨by decide, B_t_13⟩ ⟨by omega, by omega⟩ (gc_iI S_t_13 rfl) ?_
    show gv_X _ _ (51, [(1, .inl z35), (0, .inr (.inr (some 39)))], [.inl (I20 (t + 13) (Int.toNat z35)), .inr (.inr (some 39))], sh, gc_h sh I20 J9 A)
    refine gv_put hD rfl rfl S_39 ⟨by decide, B_39⟩ rfl trivial ?_
    refine gc_st (k := 8) hI20 S_39 rfl R_39 (lo := 0) (hi := 24) rfl rfl (by omega) (by omega) (fun I37 hI37 q38 p38 => ?_)
    have FI37 := gc_frs (W := fun q j => (q = 39 ∧ j = 3) ∨ (q = 39 ∧ j = 4) ∨ (q = 23 ∧ j = 5) ∨ (q = 23 ∧ j = 6) ∨ (q = 23 ∧ j = 7) ∨ (q = 23 ∧ j = 8) ∨ (q = 39 ∧ j = 8) ∨ q = 40) FI20 (Or.inr (Or.inr (Or.inr (Or.inr (Or.inr (Or.inr (Or.inl ⟨rfl, rfl⟩))))))) p38
    have t39 := p38 23 1 (fun h => absurd h.1 (by omega))
    have t40 := p38 23 5 (fun h => absurd h.1 (by omega))
    have t41 := p38 23 6 (fun h => absurd h.1 (by omega))
    have t42 := p38 23 7 (fun h => absurd h.1 (by omega))
    have t43 := p38 (t + 11) 1 (fun h => absurd h.1 (by omega))
    have t44 := p38 39 2 (fun h => absurd h.2 (by decide))
    have f45 := (show 0 ≤ I37 23 1 ∧ I37 23 1 ≤ 1000 from gc_in hI37 R_23 rfl rfl)
    have f46 := (show 0 ≤ I37 23 5 ∧ I37 23 5 ≤ 1000 from gc_in hI37 R_23 rfl rfl)
    have f47 := (show 0 ≤ I37 23 6 ∧ I37 23 6 ≤ 1001 from gc_in hI37 R_23 rfl rfl)
    have f48 := (show 0 ≤ I37 23 7 ∧ I37 23 7 ≤ 125 from gc_in hI37 R_23 rfl rfl)
    have f49 := (show 0 ≤ I37 (t + 11) 1 ∧ I37 (t + 11) 1 ≤ 24 from gc_in hI37 R_t_11 rfl rfl)
    have f50 := (show (-1) ≤ I37 39 2 ∧ I37 39 2 ≤ 999999 from gc_in hI37 R_39 rfl rfl)
    have KLT_I37 := gc_LT_fr KLT_I20 (p38 23 5 (fun h => absurd h.1 (by omega))) (p38 23 6 (fun h => absurd h.1 (by omega))) (p38 23 7 (fun h => absurd h.1 (by omega))) (fun k => p38 24 k (fun h => absurd h.1 (by omega)))
    show gv_X _ _ (54, [(1, .inl z35), (0, .inr (.inr (some 39)))], [], sh, gc_h sh I37 J9 A)
    refine gv_run 1 true hD (pc' := 55) (lv' := [(1, .inl z35), (0, .inr (.inr (some 39)))]) (st' := [.inr (.inr (some 39))]) (h' := gc_h sh I37 J9 A) (C := (True ∧ True)) rfl ⟨trivial, trivial⟩ ?_
    refine gv_get hD rfl rfl S_39 ⟨by decide, B_39⟩ (gc_h5 (t := t) S_39 rfl (by omega)) ?_
    show gv_X _ _ (58, [(1, .inl z35), (0, .inr (.inr (some 39)))], [.inr (.inr (some t))], sh, gc_h sh I37 J9 A)
    refine gv_get hD rfl rfl S_t ⟨by decide, B_t⟩ (gc_hA S_t rfl A_t_10) ?_
    show gv_X _ _ (61, [(1, .inl z35), (0, .inr (.inr (some 39)))], [.inr (.inr (some (t + 14)))], sh, gc_h sh I37 J9 A)
    refine gv_run 6 true hD (pc' := 68) (lv' := [(1, .inl z35), (0, .inr (.inr (some 39)))]) (st' := [.inr (.inr (some 39)), .inl ((z35 * 24) * 3), .inr (.inr (some (t + 14)))]) (h' := gc_h sh I37 J9 A) (C := ((((((True ∧ True) ∧ True) ∧ True) ∧ True) ∧ True) ∧ True)) rfl ⟨⟨⟨⟨⟨⟨trivial, trivial⟩, trivial⟩, trivial⟩, trivial⟩, trivial⟩, trivial⟩ ?_
    refine gv_get hD rfl rfl S_39 ⟨by decide, B_39⟩ (gc_hA S_39 rfl A_39_9) ?_
    show gv_X _ _ (71, [(1, .inl z35), (0, .inr (.inr (some 39)))], [.inr (.inr (some 40)), .inl ((z35 * 24) * 3), .inr (.inr (some (t + 14)))], sh, gc_h sh I37 J9 A)
    refine gv_run 2 true hD (pc' := 73) (lv' := [(1, .inl z35), (0, .inr (.inr (some 39)))]) (st' := [.inr (.inr (some 39)), .inl 0, .inr (.inr (some 40)), .inl ((z35 * 24) * 3), .inr (.inr (some (t + 14)))]) (h' := gc_h sh I37 J9 A) (C := ((True ∧ True) ∧ True)) rfl ⟨⟨trivial, trivial⟩, trivial⟩ ?_
    have f51 := (show 0 ≤ I37 39 8 ∧ I37 39 8 ≤ 24 from gc_in hI37 R_39 rfl rfl)
    refine gv_get hD rfl rfl S_39 ⟨by decide, B_39⟩ (gc_hI S_39 rfl) ?_
    show gv_X _ _ (76, [(1, .inl z35), (0, .inr (.inr (some 39)))], [.inl (I37 39 8), .inl 0, .inr (.inr (some 40)), .inl ((z35 * 24) * 3), .inr (.inr (some (t + 14)))], sh, gc_h sh I37 J9 A)
    refine gv_run 2 true hD (pc' := 78) (lv' := [(1, .inl z35), (0, .inr (.inr (some 39)))]) (st' := [.inl ((I37 39 8) * 3), .inl 0, .inr (.inr (some 40)), .inl ((z35 * 24) * 3), .inr (.inr (some (t + 14)))]) (h' := gc_h sh I37 J9 A) (C := ((True ∧ True) ∧ True)) rfl ⟨⟨trivial, trivial⟩, trivial⟩ ?_
    refine gv_copy hD rfl (gc_lC6_263 hws) (Nat.le_of_ble_eq_true rfl) ⟨B_t_14, B_40⟩ S_t_14 S_40 (by decide) ⟨by decide, by decide⟩ ⟨by omega, by omega, by omega⟩ (by omega) (by omega) (fun h => absurd h (by decide)) ?_
    refine gc_cp hI37 S_t_14 S_40 (by decide) (fun j hj => gc_cprg (m := 2) hI37 R_t_14 R_40 rfl rfl (by omega)) (fun I53 hI53 p52 q52 => ?_)
    have FI53 := gc_frp (W := fun q j => (q = 39 ∧ j = 3) ∨ (q = 39 ∧ j = 4) ∨ (q = 23 ∧ j = 5) ∨ (q = 23 ∧ j = 6) ∨ (q = 23 ∧ j = 7) ∨ (q = 23 ∧ j = 8) ∨ (q = 39 ∧ j = 8) ∨ q = 40) (V := fun q j => q = 40 ∧ Int.toNat 0 ≤ j ∧ j < Int.toNat 0 + Int.toNat (((I37 39 8) * 3))) FI37 (fun q j h => (Or.inr (Or.inr (Or.inr (Or.inr (Or.inr (Or.inr (Or.inr h.1)))))))) p52
    have KLT_I53 := gc_LT_fr KLT_I37 (p52 23 5 (fun h => absurd h.1 (by omega))) (p52 23 6 (fun h => absurd h.1 (by omega))) (p52 23 7 (fun h => absurd h.1 (by omega))) (fun k => p52 24 k (fun h => absurd h.1 (by omega)))
    have t55 := p52 23 1 (fun h => absurd h.1 (by omega))
    have t56 := p52 23 5 (fun h => absurd h.1 (by omega))
    have t57 := p52 23 6 (fun h => absurd h.1 (by omega))
    have t58 := p52 23 7 (fun h => absurd h.1 (by omega))
    have t59 := p52 (t + 11) 1 (fun h => absurd h.1 (by omega))
    have t60 := p52 39 2 (fun h => absurd h.1 (by omega))
    have f61 := (show 0 ≤ I53 23 1 ∧ I53 23 1 ≤ 1000 from gc_in hI53 R_23 rfl rfl)
    have f62 := (show 0 ≤ I53 23 5 ∧ I53 23 5 ≤ 1000 from gc_in hI53 R_23 rfl rfl)
    have f63 := (show 0 ≤ I53 23 6 ∧ I53 23 6 ≤ 1001 from gc_in hI53 R_23 rfl rfl)
    have f64 := (show 0 ≤ I53 23 7 ∧ I53 23 7 ≤ 125 from gc_in hI53 R_23 rfl rfl)
    have f65 := (show 0 ≤ I53 (t + 11) 1 ∧ I53 (t + 11) 1 ≤ 24 from gc_in hI53 R_t_11 rfl rfl)
    have f66 := (show (-1) ≤ I53 39 2 ∧ I53 39 2 ≤ 999999 from gc_in hI53 R_39 rfl rfl)
    show gv_X _ _ (81, [(1, .inl z35), (0, .inr (.inr (some 39)))], [], sh, gc_h sh I53 J9 A)
    refine gv_run 1 true hD (pc' := 82) (lv' := [(1, .inl z35), (0, .inr (.inr (some 39)))]) (st' := [.inr (.inr (some 39))]) (h' := gc_h sh I53 J9 A) (C := (True ∧ True)) rfl ⟨trivial, trivial⟩ ?_
    refine gv_get hD rfl rfl S_39 ⟨by decide, B_39⟩ (gc_hA S_39 rfl A_39_1) ?_
    show gv_X _ _ (85, [(1, .inl z35), (0, .inr (.inr (some 39)))], [.inr (.inr (some 23))], sh, gc_h sh I53 J9 A)
    obtain ⟨r67, h67, E67, P67⟩ := d_X9_advance (ws0 := ws0) (tb := tb) hws htb sh ro I53 J9 A hI53 23  (gc_b23 hb)    (by omega) 
    obtain ⟨I68, J69, rfl, hI68, g67, k67, ⟨rfl, q67⟩⟩ := P67
    have FI68 := gc_frc (W := fun q j => (q = 39 ∧ j = 3) ∨ (q = 39 ∧ j = 4) ∨ (q = 23 ∧ j = 5) ∨ (q = 23 ∧ j = 6) ∨ (q = 23 ∧ j = 7) ∨ (q = 23 ∧ j = 8) ∨ (q = 39 ∧ j = 8) ∨ q = 40) (V := fun q j => (q = 23 ∧ j = 5) ∨ (q = 23 ∧ j = 6) ∨ (q = 23 ∧ j = 7) ∨ (q = 23 ∧ j = 8)) FI53 (fun q j h => (h.elim (fun h => (Or.inr (Or.inr (Or.inl h)))) (fun h => (h.elim (fun h => (Or.inr (Or.inr (Or.inr (Or.inl h))))) (fun h => (h.elim (fun h => (Or.inr (Or.inr (Or.inr (Or.inr (Or.inl h)))))) (fun h => (Or.inr (Or.inr (Or.inr (Or.inr (Or.inr (Or.inl h))))))))))))) g67
    have FJ69 := gc_frc (W := fun q j => (q = 23 ∧ j = 9)) (V := fun q j => (q = 23 ∧ j = 9)) FJ9 (fun q j h => h) k67
    have t70 := (g67 23 1).resolve_left (by omega)
    have t71 := (g67 (t + 11) 1).resolve_left (by omega)
    have t72 := (g67 39 2).resolve_left (by omega)
    have f73 := (show 0 ≤ I68 23 1 ∧ I68 23 1 ≤ 1000 from gc_in hI68 R_23 rfl rfl)
    have f74 := (show 0 ≤ I68 23 5 ∧ I68 23 5 ≤ 1000 from gc_in hI68 R_23 rfl rfl)
    have f75 := (show 0 ≤ I68 23 6 ∧ I68 23 6 ≤ 1001 from gc_in hI68 R_23 rfl rfl)
    have f76 := (show 0 ≤ I68 23 7 ∧ I68 23 7 ≤ 125 from gc_in hI68 R_23 rfl rfl)
    have f77 := (show 0 ≤ I68 (t + 11) 1 ∧ I68 (t + 11) 1 ≤ 24 from gc_in hI68 R_t_11 rfl rfl)
    have f78 := (show (-1) ≤ I68 39 2 ∧ I68 39 2 ≤ 999999 from gc_in hI68 R_39 rfl rfl)
    have KLT_I68 : gc_LT I68 := q67.2.2.2.2.2.2.2
    refine gv_callV hD rfl (As := []) (st := []) rfl B_23 S_23 rfl (gc_lV6 hws rfl) (Nat.le_of_ble_eq_true rfl) (gz_Ev_mono (d := 2) (by decide) E67) ?_
    show gv_X _ _ (88, [(1, .inl z35), (0, .inr (.inr (some 39)))], [], sh, gc_h sh I68 J69 A)
    refine gv_run 1 true hD (pc' := 89) (lv' := [(1, .inl z35), (0, .inr (.inr (some 39)))]) (st' := [.inl 1]) (h' := gc_h sh I68 J69 A) (C := (True ∧ True)) rfl ⟨trivial, trivial⟩ ?_
    exact gv_zret hD rfl (by omega) ⟨I68, J69, rfl, hI68, FI68, FJ69, KLT_I68, ⟨_, rfl, by omega⟩⟩
  · show gv_X _ _ (21, [(0, .inr (.inr (some 39)))], [], sh, gc_h sh I20 J9 A)
    refine gv_run 1 true hD (pc' := 22) (lv' := [(0, .inr (.inr (some 39)))]) (st' := [.inl 0]) (h' := gc_h sh I20 J9 A) (C := (True ∧ True)) rfl ⟨trivial, trivial⟩ ?_
    exact gv_zret hD rfl (by omega) ⟨I20, J9, rfl, hI20, FI20, FJ9, KLT_I20, ⟨_, rfl, by omega⟩⟩
set_option maxHeartbeats 4000000 in
set_option maxRecDepth 100000 in
theorem d_X6_readPattern {ws0 : List Cond} {tb : String → gz_T} (hws : gc_Ws ws0) (htb : gc_tbs tb) (sh : gz_Sh) (ro : Nat → Nat) (I : gr_I) (J : gr_J) (A : gc_A) (hI : gc_Inv ro I) (t : Nat)  (hb : gc_Base sh ro A) (h_t : gc_isTongue sh ro A t) (G_t : 144 ≤ t)  (x0 : I 23 5 ≤ I 23 6) (x1 : I 23 7 = 5 ∨ I 23 6 ≤ I 23 1) (x2 : I 23 5 ≤ I 23 1) (x3 : I 23 7 = 4 ∨ (I 23 5 < I 23 6 ∧ I 23 5 < I 23 1)) (x4 : I 23 7 = 3 → 2 ≤ I 23 6 - I 23 5 ∧ I 23 6 - I 23 5 ≤ 14) (x5 : I 1 17 + I 23 1 ≤ 1280 + I 23 5) (x6 : I 39 2 = (t : Int)) (KLT_I : gc_LT I) : ∃ r h', gz_Ev ws0 tb 5 (yX6_readPattern, cX6_readPattern, 6, (some .boolean)) [.inr (.inr (some 39))] sh (gc_h sh I J A) r sh h' 0 0 ∧ (∃ (I' : gr_I) (J' : gr_J), h' = gc_h sh I' J' A ∧ gc_Inv ro I' ∧ (∀ q j : Nat, ((q = 39 ∧ j = 3) ∨ (q = 39 ∧ j = 4) ∨ (q = 23 ∧ j = 5) ∨ (q = 23 ∧ j = 6) ∨ (q = 23 ∧ j = 7) ∨ (q = 23 ∧ j = 8) ∨ (q = 1 ∧ j = 17) ∨ (q = 1 ∧ j = 18) ∨ q = 20 ∨ (q = 39 ∧ j = 6) ∨ (q = 39 ∧ j = 8) ∨ q = 40 ∨ (q = 41 ∧ j = 0) ∨ (q = 41 ∧ j = 1) ∨ (q = 41 ∧ j = 2) ∨ q = (t + 13) ∨ q = (t + 14) ∨ (q = (t + 11) ∧ j = 1)) ∨ I' q j = I q j) ∧ (∀ q j : Nat, ((q = 23 ∧ j = 9) ∨ q = (t + 12)) ∨ J' q j = J q j) ∧ gc_LT I' ∧ (∃ z : Int, r = some (.inl z) ∧ 0 ≤ z ∧ z ≤ 1 ∧ (I' 23 5 ≤ I' 23 6) ∧ (I' 23 7 = 5 ∨ I' 23 6 ≤ I' 23 1) ∧ (I' 23 5 ≤ I' 23 1) ∧ (I' 23 7 = 4 ∨ (I' 23 5 < I' 23 6 ∧ I' 23 5 < I' 23 1)) ∧ (I' 23 7 = 3 → 2 ≤ I' 23 6 - I' 23 5 ∧ I' 23 6 - I' 23 5 ≤ 14) ∧ (I' 23 1 = I 23 1) ∧ (I 23 5 ≤ I' 23 5) ∧ (I' 1 17 + I' 23 1 ≤ 1280 + I' 23 5))) := by
  have FI : ∀ q j : Nat, ((q = 39 ∧ j = 3) ∨ (q = 39 ∧ j = 4) ∨ (q = 23 ∧ j = 5) ∨ (q = 23 ∧ j = 6) ∨ (q = 23 ∧ j = 7) ∨ (q = 23 ∧ j = 8) ∨ (q = 1 ∧ j = 17) ∨ (q = 1 ∧ j = 18) ∨ q = 20 ∨ (q = 39 ∧ j = 6) ∨ (q = 39 ∧ j = 8) ∨ q = 40 ∨ (q = 41 ∧ j = 0) ∨ (q = 41 ∧ j = 1) ∨ (q = 41 ∧ j = 2) ∨ q = (t + 13) ∨ q = (t + 14) ∨ (q = (t + 11) ∧ j = 1)) ∨ I q j = I q j := fun _ _ => Or.inr rfl
  have FJ : ∀ q j : Nat, ((q = 23 ∧ j = 9) ∨ q = (t + 12)) ∨ J q j = J q j := fun _ _ => Or.inr rfl
  have A_39_1 : A 39 1 = some 23 := gc_bA hb rfl
  have A_39_9 : A 39 9 = some 40 := gc_bA hb rfl
  have B_23 : 23 < 1000000 := by decide
  have B_39 : 39 < 1000000 := by decide
  have B_40 : 40 < 1000000 := by decide
  have R_1 : ro 1 = 22 := gc_bR hb (by decide) rfl
  have R_23 : ro 23 = 3 := gc_bR hb (by decide) rfl
  have R_39 : ro 39 = 42 := gc_bR hb (by decide) rfl
  have R_40 : ro 40 = 39 := gc_bR hb (by decide) rfl
  have R_41 : ro 41 = 0 := gc_bR hb (by decide) rfl
  have S_23 : sh[23]? = some (false, 9, 10) := gc_bS hb rfl
  have S_39 : sh[39]? = some (false, 6, 19) := gc_bS hb rfl
  have S_40 : sh[40]? = some (true, 1, 72) := gc_bS hb rfl
  obtain ⟨S_t, R_t, B_t, A_t_0, h_t_1, A_t_1, h_t_3, A_t_2, S_t_5, R_t_5, B_t_5, A_t_3, S_t_6, R_t_6, B_t_6, A_t_4, h_t_7, A_t_5, S_t_9, R_t_9, B_t_9, A_t_7, S_t_10, R_t_10, B_t_10, A_t_8, h_t_11, A_t_9, S_t_13, R_t_13, B_t_13, A_t_10, S_t_14, R_t_14, B_t_14, A_t_12, S_t_15, R_t_15, B_t_15, A_t_14, S_t_16, R_t_16, B_t_16, A_t_15, h_t_17⟩ := id h_t
  obtain ⟨S_t_1, R_t_1, B_t_1, A_t_1_0, S_t_1_1, R_t_1_1, B_t_1_1, Q0_t_1, Q1_t_1, Q2_t_1⟩ := id h_t_1
  obtain ⟨S_t_3, R_t_3, B_t_3, A_t_3_0, S_t_3_1, R_t_3_1, B_t_3_1, Q0_t_3, Q1_t_3, Q2_t_3⟩ := id h_t_3
  obtain ⟨S_t_7, R_t_7, B_t_7, A_t_7_0, S_t_7_1, R_t_7_1, B_t_7_1, Q0_t_7, Q1_t_7, Q2_t_7⟩ := id h_t_7
  obtain ⟨S_t_11, R_t_11, B_t_11, A_t_11_0, S_t_11_1, R_t_11_1, B_t_11_1, Q0_t_11, Q1_t_11, Q2_t_11⟩ := id h_t_11
  obtain ⟨S_t_17, R_t_17, B_t_17, A_t_17_0, S_20, R_20, B_20, A_t_17_1, S_t_17_1, R_t_17_1, B_t_17_1, A_t_17_2, S_t_17_2, R_t_17_2, B_t_17_2, A_t_17_3, S_t_17_3, R_t_17_3, B_t_17_3, A_t_17_4, S_t_17_4, R_t_17_4, B_t_17_4, A_t_17_5, S_t_17_5, R_t_17_5, B_t_17_5, S_t_17_6, R_t_17_6, B_t_17_6, S_t_17_7, R_t_17_7, B_t_17_7⟩ := id h_t_17
  have hD : gv_D (gc_E6 ws0 tb 4 (yX6_readPattern, cX6_readPattern, 6, (some .boolean)) kX6_readPattern) := gq_ok oX6_readPattern
  refine gc_ev6 (d := 4) (l := kX6_readPattern) (Po := fun r h' => (∃ (I' : gr_I) (J' : gr_J), h' = gc_h sh I' J' A ∧ gc_Inv ro I' ∧ (∀ q j : Nat, ((q = 39 ∧ j = 3) ∨ (q = 39 ∧ j = 4) ∨ (q = 23 ∧ j = 5) ∨ (q = 23 ∧ j = 6) ∨ (q = 23 ∧ j = 7) ∨ (q = 23 ∧ j = 8) ∨ (q = 1 ∧ j = 17) ∨ (q = 1 ∧ j = 18) ∨ q = 20 ∨ (q = 39 ∧ j = 6) ∨ (q = 39 ∧ j = 8) ∨ q = 40 ∨ (q = 41 ∧ j = 0) ∨ (q = 41 ∧ j = 1) ∨ (q = 41 ∧ j = 2) ∨ q = (t + 13) ∨ q = (t + 14) ∨ (q = (t + 11) ∧ j = 1)) ∨ I' q j = I q j) ∧ (∀ q j : Nat, ((q = 23 ∧ j = 9) ∨ q = (t + 12)) ∨ J' q j = J q j) ∧ gc_LT I' ∧ (∃ z : Int, r = some (.inl z) ∧ 0 ≤ z ∧ z ≤ 1 ∧ (I' 23 5 ≤ I' 23 6) ∧ (I' 23 7 = 5 ∨ I' 23 6 ≤ I' 23 1) ∧ (I' 23 5 ≤ I' 23 1) ∧ (I' 23 7 = 4 ∨ (I' 23 5 < I' 23 6 ∧ I' 23 5 < I' 23 1)) ∧ (I' 23 7 = 3 → 2 ≤ I' 23 6 - I' 23 5 ∧ I' 23 6 - I' 23 5 ≤ 14) ∧ (I' 23 1 = I 23 1) ∧ (I 23 5 ≤ I' 23 5) ∧ (I' 1 17 + I' 23 1 ≤ 1280 + I' 23 5)))) htb rfl (Nat.le_of_ble_eq_true rfl) ?_
  have f1 := (show 0 ≤ I 23 1 ∧ I 23 1 ≤ 1000 from gc_in hI R_23 rfl rfl)
  have f2 := (show 0 ≤ I 23 5 ∧ I 23 5 ≤ 1000 from gc_in hI R_23 rfl rfl)
  have f3 := (show 0 ≤ I 23 6 ∧ I 23 6 ≤ 1001 from gc_in hI R_23 rfl rfl)
  have f4 := (show 0 ≤ I 23 7 ∧ I 23 7 ≤ 125 from gc_in hI R_23 rfl rfl)
  have f5 := (show 0 ≤ I 1 17 ∧ I 1 17 ≤ 12000 from gc_in hI R_1 rfl rfl)
  have f6 := (show 0 ≤ I (t + 11) 1 ∧ I (t + 11) 1 ≤ 24 from gc_in hI R_t_11 rfl rfl)
  have f7 := (show (-2147483648) ≤ I 41 0 ∧ I 41 0 ≤ 2147483647 from gc_in hI R_41 rfl rfl)
  have f8 := (show (-2147483648) ≤ I 41 1 ∧ I 41 1 ≤ 2147483647 from gc_in hI R_41 rfl rfl)
  have f9 := (show (-2147483648) ≤ I 41 2 ∧ I 41 2 ≤ 2147483647 from gc_in hI R_41 rfl rfl)
  have f10 := (show (-1) ≤ I 39 2 ∧ I 39 2 ≤ 999999 from gc_in hI R_39 rfl rfl)
  have L55 : ∀ (I11 : gr_I) (J12 : gr_J) (v1_13 : Int64), gc_Inv ro I11 → (∀ q j : Nat, ((q = 39 ∧ j = 3) ∨ (q = 39 ∧ j = 4) ∨ (q = 23 ∧ j = 5) ∨ (q = 23 ∧ j = 6) ∨ (q = 23 ∧ j = 7) ∨ (q = 23 ∧ j = 8) ∨ (q = 1 ∧ j = 17) ∨ (q = 1 ∧ j = 18) ∨ q = 20 ∨ (q = 39 ∧ j = 6) ∨ (q = 39 ∧ j = 8) ∨ q = 40 ∨ (q = 41 ∧ j = 0) ∨ (q = 41 ∧ j = 1) ∨ (q = 41 ∧ j = 2) ∨ q = (t + 13) ∨ q = (t + 14) ∨ (q = (t + 11) ∧ j = 1)) ∨ I11 q j = I q j) → (∀ q j : Nat, ((q = 23 ∧ j = 9) ∨ q = (t + 12)) ∨ J12 q j = J q j) → gc_LT I11 → ((I11 23 5 ≤ I11 23 6) ∧ (I11 23 7 = 5 ∨ I11 23 6 ≤ I11 23 1) ∧ (I11 23 5 ≤ I11 23 1) ∧ (I11 23 7 = 4 ∨ (I11 23 5 < I11 23 6 ∧ I11 23 5 < I11 23 1)) ∧ (I11 23 7 = 3 → 2 ≤ I11 23 6 - I11 23 5 ∧ I11 23 6 - I11 23 5 ≤ 14) ∧ (I11 23 1 = I 23 1) ∧ (I 23 5 ≤ I11 23 5) ∧ (I11 1 17 + I11 23 1 ≤ 1280 + I11 23 5) ∧ (I11 39 2 = (t : Int))) → gv_X (gc_E6 ws0 tb 4 (yX6_readPattern, cX6_readPattern, 6, (some .boolean)) kX6_readPattern) (gv_Q cX6_readPattern (some .boolean) sh (fun r h' => (∃ (I' : gr_I) (J' : gr_J), h' = gc_h sh I' J' A ∧ gc_Inv ro I' ∧ (∀ q j : Nat, ((q = 39 ∧ j = 3) ∨ (q = 39 ∧ j = 4) ∨ (q = 23 ∧ j = 5) ∨ (q = 23 ∧ j = 6) ∨ (q = 23 ∧ j = 7) ∨ (q = 23 ∧ j = 8) ∨ (q = 1 ∧ j = 17) ∨ (q = 1 ∧ j = 18) ∨ q = 20 ∨ (q = 39 ∧ j = 6) ∨ (q = 39 ∧ j = 8) ∨ q = 40 ∨ (q = 41 ∧ j = 0) ∨ (q = 41 ∧ j = 1) ∨ (q = 41 ∧ j = 2) ∨ q = (t + 13) ∨ q = (t + 14) ∨ (q = (t + 11) ∧ j = 1)) ∨ I' q j = I q j) ∧ (∀ q j : Nat, ((q = 23 ∧ j = 9) ∨ q = (t + 12)) ∨ J' q j = J q j) ∧ gc_LT I' ∧ (∃ z : Int, r = some (.inl z) ∧ 0 ≤ z ∧ z ≤ 1 ∧ (I' 23 5 ≤ I' 23 6) ∧ (I' 23 7 = 5 ∨ I' 23 6 ≤ I' 23 1) ∧ (I' 23 5 ≤ I' 23 1) ∧ (I' 23 7 = 4 ∨ (I' 23 5 < I' 23 6 ∧ I' 23 5 < I' 23 1)) ∧ (I' 23 7 = 3 → 2 ≤ I' 23 6 - I' 23 5 ∧ I' 23 6 - I' 23 5 ≤ 14) ∧ (I' 23 1 = I 23 1) ∧ (I 23 5 ≤ I' 23 5) ∧ (I' 1 17 + I' 23 1 ≤ 1280 + I' 23 5))))) (55, [(0, .inr (.inr (some 39))), (1, .inr (.inl v1_13))], [], sh, gc_h sh I11 J12 A) := by
    intro I11 J12 v1_13 hI11 FI11 FJ12 KLT_I11 m_13
    clear x0 x1 x2 x3 x4
    obtain ⟨e0_13, e1_13, e2_13, e3_13, e4_13, e5_13, e6_13, e7_13, e8_13⟩ := m_13
    have f14 := (show 0 ≤ I11 23 1 ∧ I11 23 1 ≤ 1000 from gc_in hI11 R_23 rfl rfl)
    have f15 := (show 0 ≤ I11 23 5 ∧ I11 23 5 ≤ 1000 from gc_in hI11 R_23 rfl rfl)
    have f16 := (show 0 ≤ I11 23 6 ∧ I11 23 6 ≤ 1001 from gc_in hI11 R_23 rfl rfl)
    have f17 := (show 0 ≤ I11 23 7 ∧ I11 23 7 ≤ 125 from gc_in hI11 R_23 rfl rfl)
    have f18 := (show 0 ≤ I11 1 17 ∧ I11 1 17 ≤ 12000 from gc_in hI11 R_1 rfl rfl)
    have f19 := (show 0 ≤ I11 (t + 11) 1 ∧ I11 (t + 11) 1 ≤ 24 from gc_in hI11 R_t_11 rfl rfl)
    have f20 := (show (-2147483648) ≤ I11 41 0 ∧ I11 41 0 ≤ 2147483647 from gc_in hI11 R_41 rfl rfl)
    have f21 := (show (-2147483648) ≤ I11 41 1 ∧ I11 41 1 ≤ 2147483647 from gc_in hI11 R_41 rfl rfl)
    have f22 := (show (-2147483648) ≤ I11 41 2 ∧ I11 41 2 ≤ 2147483647 from gc_in hI11 R_41 rfl rfl)
    have f23 := (show (-1) ≤ I11 39 2 ∧ I11 39 2 ≤ 999999 from gc_in hI11 R_39 rfl rfl)
    have L74 : ∀ (n9 : Nat) (I24 : gr_I) (J25 : gr_J) (v3_26 : Int) (v4_26 : Int) (v5_26 : Int), (1001 - v5_26).toNat < n9 → gc_Inv ro I24 → (∀ q j : Nat, ((q = 39 ∧ j = 3) ∨ (q = 39 ∧ j = 4) ∨ (q = 23 ∧ j = 5) ∨ (q = 23 ∧ j = 6) ∨ (q = 23 ∧ j = 7) ∨ (q = 23 ∧ j = 8) ∨ (q = 1 ∧ j = 17) ∨ (q = 1 ∧ j = 18) ∨ q = 20 ∨ (q = 39 ∧ j = 6) ∨ (q = 39 ∧ j = 8) ∨ q = 40 ∨ (q = 41 ∧ j = 0) ∨ (q = 41 ∧ j = 1) ∨ (q = 41 ∧ j = 2) ∨ q = (t + 13) ∨ q = (t + 14) ∨ (q = (t + 11) ∧ j = 1)) ∨ I24 q j = I q j) → (∀ q j : Nat, ((q = 23 ∧ j = 9) ∨ q = (t + 12)) ∨ J25 q j = J q j) → gc_LT I24 → ((0 ≤ v3_26 ∧ v3_26 ≤ 1) ∧ (0 ≤ v4_26 ∧ v4_26 ≤ 1) ∧ (0 ≤ v5_26 ∧ v5_26 ≤ 1000) ∧ (I24 23 5 ≤ I24 23 6) ∧ (I24 23 7 = 5 ∨ I24 23 6 ≤ I24 23 1) ∧ (I24 23 5 ≤ I24 23 1) ∧ (I24 23 7 = 4 ∨ (I24 23 5 < I24 23 6 ∧ I24 23 5 < I24 23 1)) ∧ (I24 23 7 = 3 → 2 ≤ I24 23 6 - I24 23 5 ∧ I24 23 6 - I24 23 5 ≤ 14) ∧ (I24 23 1 = I 23 1) ∧ (I 23 5 ≤ I24 23 5) ∧ (I24 1 17 + I24 23 1 ≤ 1280 + I24 23 5) ∧ (I24 39 2 = (t : Int))) → gv_X (gc_E6 ws0 tb 4 (yX6_readPattern, cX6_readPattern, 6, (some .boolean)) kX6_readPattern) (gv_Q cX6_readPattern (some .boolean) sh (fun r h' => (∃ (I' : gr_I) (J' : gr_J), h' = gc_h sh I' J' A ∧ gc_Inv ro I' ∧ (∀ q j : Nat, ((q = 39 ∧ j = 3) ∨ (q = 39 ∧ j = 4) ∨ (q = 23 ∧ j = 5) ∨ (q = 23 ∧ j = 6) ∨ (q = 23 ∧ j = 7) ∨ (q = 23 ∧ j = 8) ∨ (q = 1 ∧ j = 17) ∨ (q = 1 ∧ j = 18) ∨ q = 20 ∨ (q = 39 ∧ j = 6) ∨ (q = 39 ∧ j = 8) ∨ q = 40 ∨ (q = 41 ∧ j = 0) ∨ (q = 41 ∧ j = 1) ∨ (q = 41 ∧ j = 2) ∨ q = (t + 13) ∨ q = (t + 14) ∨ (q = (t + 11) ∧ j = 1)) ∨ I' q j = I q j) ∧ (∀ q j : Nat, ((q = 23 ∧ j = 9) ∨ q = (t + 12)) ∨ J' q j = J q j) ∧ gc_LT I' ∧ (∃ z : Int, r = some (.inl z) ∧ 0 ≤ z ∧ z ≤ 1 ∧ (I' 23 5 ≤ I' 23 6) ∧ (I' 23 7 = 5 ∨ I' 23 6 ≤ I' 23 1) ∧ (I' 23 5 ≤ I' 23 1) ∧ (I' 23 7 = 4 ∨ (I' 23 5 < I' 23 6 ∧ I' 23 5 < I' 23 1)) ∧ (I' 23 7 = 3 → 2 ≤ I' 23 6 - I' 23 5 ∧ I' 23 6 - I' 23 5 ≤ 14) ∧ (I' 23 1 = I 23 1) ∧ (I 23 5 ≤ I' 23 5) ∧ (I' 1 17 + I' 23 1 ≤ 1280 + I' 23 5))))) (74, [(0, .inr (.inr (some 39))), (1, .inr (.inl v1_13)), (3, .inl v3_26), (4, .inl v4_26), (5, .inl v5_26)], [], sh, gc_h sh I24 J25 A) := by
      intro n9
      induction n9 with
      | zero => intro I24 J25 v3_26 v4_26 v5_26 hn; omega
      | succ n9 ih74 =>
        intro I24 J25 v3_26 v4_26 v5_26 hn hI24 FI24 FJ25 KLT_I24 m_26
        clear e0_13 e1_13 e2_13 e3_13 e4_13 e5_13 e6_13 e7_13 e8_13 f14 f15 f16 f17 f18 f19 f20 f21 f22 f23
        obtain ⟨hv3_26, hv4_26, hv5_26, e0_26, e1_26, e2_26, e3_26, e4_26, e5_26, e6_26, e7_26, e8_26⟩ := m_26
        have f27 := (show 0 ≤ I24 23 1 ∧ I24 23 1 ≤ 1000 from gc_in hI24 R_23 rfl rfl)
        have f28 := (show 0 ≤ I24 23 5 ∧ I24 23 5 ≤ 1000 from gc_in hI24 R_23 rfl rfl)
        have f29 := (show 0 ≤ I24 23 6 ∧ I24 23 6 ≤ 1001 from gc_in hI24 R_23 rfl rfl)
        have f30 := (show 0 ≤ I24 23 7 ∧ I24 23 7 ≤ 125 from gc_in hI24 R_23 rfl rfl)
        have f31 := (show 0 ≤ I24 1 17 ∧ I24 1 17 ≤ 12000 from gc_in hI24 R_1 rfl rfl)
        have f32 := (show 0 ≤ I24 (t + 11) 1 ∧ I24 (t + 11) 1 ≤ 24 from gc_in hI24 R_t_11 rfl rfl)
        have f33 := (show (-2147483648) ≤ I24 41 0 ∧ I24 41 0 ≤ 2147483647 from gc_in hI24 R_41 rfl rfl)
        have f34 := (show (-2147483648) ≤ I24 41 1 ∧ I24 41 1 ≤ 2147483647 from gc_in hI24 R_41 rfl rfl)
        have f35 := (show (-2147483648) ≤ I24 41 2 ∧ I24 41 2 ≤ 2147483647 from gc_in hI24 R_41 rfl rfl)
        have f36 := (show (-1) ≤ I24 39 2 ∧ I24 39 2 ≤ 999999 from gc_in hI24 R_39 rfl rfl)
        have L112 : ∀ (I37 : gr_I) (J38 : gr_J) (s0_39 : Int), gc_Inv ro I37 → (∀ q j : Nat, ((q = 39 ∧ j = 3) ∨ (q = 39 ∧ j = 4) ∨ (q = 23 ∧ j = 5) ∨ (q = 23 ∧ j = 6) ∨ (q = 23 ∧ j = 7) ∨ (q = 23 ∧ j = 8) ∨ (q = 1 ∧ j = 17) ∨ (q = 1 ∧ j = 18) ∨ q = 20 ∨ (q = 39 ∧ j = 6) ∨ (q = 39 ∧ j = 8) ∨ q = 40 ∨ (q = 41 ∧ j = 0) ∨ (q = 41 ∧ j = 1) ∨ (q = 41 ∧ j = 2) ∨ q = (t + 13) ∨ q = (t + 14) ∨ (q = (t + 11) ∧ j = 1)) ∨ I37 q j = I q j) → (∀ q j : Nat, ((q = 23 ∧ j = 9) ∨ q = (t + 12)) ∨ J38 q j = J q j) → gc_LT I37 → ((0 ≤ v5_26 ∧ v5_26 ≤ 999) ∧ (0 ≤ s0_39 ∧ s0_39 ≤ 1) ∧ (I37 23 5 ≤ I37 23 6) ∧ (I37 23 7 = 5 ∨ I37 23 6 ≤ I37 23 1) ∧ (I37 23 5 ≤ I37 23 1) ∧ (I37 23 7 = 4 ∨ (I37 23 5 < I37 23 6 ∧ I37 23 5 < I37 23 1)) ∧ (I37 23 7 = 3 → 2 ≤ I37 23 6 - I37 23 5 ∧ I37 23 6 - I37 23 5 ≤ 14) ∧ (I37 23 1 = I 23 1) ∧ (I 23 5 ≤ I37 23 5) ∧ (I37 1 17 + I37 23 1 ≤ 1280 + I37 23 5) ∧ (I37 39 2 = (t : Int))) → gv_X (gc_E6 ws0 tb 4 (yX6_readPattern, cX6_readPattern, 6, (some .boolean)) kX6_readPattern) (gv_Q cX6_readPattern (some .boolean) sh (fun r h' => (∃ (I' : gr_I) (J' : gr_J), h' = gc_h sh I' J' A ∧ gc_Inv ro I' ∧ (∀ q j : Nat, ((q = 39 ∧ j = 3) ∨ (q = 39 ∧ j = 4) ∨ (q = 23 ∧ j = 5) ∨ (q = 23 ∧ j = 6) ∨ (q = 23 ∧ j = 7) ∨ (q = 23 ∧ j = 8) ∨ (q = 1 ∧ j = 17) ∨ (q = 1 ∧ j = 18) ∨ q = 20 ∨ (q = 39 ∧ j = 6) ∨ (q = 39 ∧ j = 8) ∨ q = 40 ∨ (q = 41 ∧ j = 0) ∨ (q = 41 ∧ j = 1) ∨ (q = 41 ∧ j = 2) ∨ q = (t + 13) ∨ q = (t + 14) ∨ (q = (t + 11) ∧ j = 1)) ∨ I' q j = I q j) ∧ (∀ q j : Nat, ((q = 23 ∧ j = 9) ∨ q = (t + 12)) ∨ J' q j = J q j) ∧ gc_LT I' ∧ (∃ z : Int, r = some (.inl z) ∧ 0 ≤ z ∧ z ≤ 1 ∧ (I' 23 5 ≤ I' 23 6) ∧ (I' 23 7 = 5 ∨ I' 23 6 ≤ I' 23 1) ∧ (I' 23 5 ≤ I' 23 1) ∧ (I' 23 7 = 4 ∨ (I' 23 5 < I' 23 6 ∧ I' 23 5 < I' 23 1)) ∧ (I' 23 7 = 3 → 2 ≤ I' 23 6 - I' 23 5 ∧ I' 23 6 - I' 23 5 ≤ 14) ∧ (I' 23 1 = I 23 1) ∧ (I 23 5 ≤ I' 23 5) ∧ (I' 1 17 + I' 23 1 ≤ 1280 + I' 23 5))))) (112, [(0, .inr (.inr (some 39))), (1, .inr (.inl v1_13)), (5, .inl v5_26)], [.inl s0_39], sh, gc_h sh I37 J38 A) := by
          intro I37 J38 s0_39 hI37 FI37 FJ38 KLT_I37 m_39
          clear hv3_26 hv4_26 hv5_26 e0_26 e1_26 e2_26 e3_26 e4_26 e5_26 e6_26 e7_26 e8_26 f27 f28 f29 f30 f31 f32 f33 f34 f35 f36
          obtain ⟨hv5_26_39, hs0_39, e0_39, e1_39, e2_39, e3_39, e4_39, e5_39, e6_39, e7_39, e8_39⟩ := m_39
          have f40 := (show 0 ≤ I37 23 1 ∧ I37 23 1 ≤ 1000 from gc_in hI37 R_23 rfl rfl)
          have f41 := (show 0 ≤ I37 23 5 ∧ I37 23 5 ≤ 1000 from gc_in hI37 R_23 rfl rfl)
          have f42 := (show 0 ≤ I37 23 6 ∧ I37 23 6 ≤ 1001 from gc_in hI37 R_23 rfl rfl)
          have f43 := (show 0 ≤ I37 23 7 ∧ I37 23 7 ≤ 125 from gc_in hI37 R_23 rfl rfl)
          have f44 := (show 0 ≤ I37 1 17 ∧ I37 1 17 ≤ 12000 from gc_in hI37 R_1 rfl rfl)
          have f45 := (show 0 ≤ I37 (t + 11) 1 ∧ I37 (t + 11) 1 ≤ 24 from gc_in hI37 R_t_11 rfl rfl)
          have f46 := (show (-2147483648) ≤ I37 41 0 ∧ I37 41 0 ≤ 2147483647 from gc_in hI37 R_41 rfl rfl)
          have f47 := (show (-2147483648) ≤ I37 41 1 ∧ I37 41 1 ≤ 2147483647 from gc_in hI37 R_41 rfl rfl)
          have f48 := (show (-2147483648) ≤ I37 41 2 ∧ I37 41 2 ≤ 2147483647 from gc_in hI37 R_41 rfl rfl)
          have f49 := (show (-1) ≤ I37 39 2 ∧ I37 39 2 ≤ 999999 from gc_in hI37 R_39 rfl rfl)
          have L130 : ∀ (v3_50 : Int) (s0_50 : Int), ((0 ≤ v3_50 ∧ v3_50 ≤ 1) ∧ (0 ≤ v5_26 ∧ v5_26 ≤ 999) ∧ (0 ≤ s0_50 ∧ s0_50 ≤ 1) ∧ (s0_50 = 0 ∨ I37 23 7 = 44) ∧ (I37 23 5 ≤ I37 23 6) ∧ (I37 23 7 = 5 ∨ I37 23 6 ≤ I37 23 1) ∧ (I37 23 5 ≤ I37 23 1) ∧ (I37 23 7 = 4 ∨ (I37 23 5 < I37 23 6 ∧ I37 23 5 < I37 23 1)) ∧ (I37 23 7 = 3 → 2 ≤ I37 23 6 - I37 23 5 ∧ I37 23 6 - I37 23 5 ≤ 14) ∧ (I37 23 1 = I 23 1) ∧ (I 23 5 ≤ I37 23 5) ∧ (I37 1 17 + I37 23 1 ≤ 1280 + I37 23 5) ∧ (I37 39 2 = (t : Int))) → gv_X (gc_E6 ws0 tb 4 (yX6_readPattern, cX6_readPattern, 6, (some .boolean)) kX6_readPattern) (gv_Q cX6_readPattern (some .boolean) sh (fun r h' => (∃ (I' : gr_I) (J' : gr_J), h' = gc_h sh I' J' A ∧ gc_Inv ro I' ∧ (∀ q j : Nat, ((q = 39 ∧ j = 3) ∨ (q = 39 ∧ j = 4) ∨ (q = 23 ∧ j = 5) ∨ (q = 23 ∧ j = 6) ∨ (q = 23 ∧ j = 7) ∨ (q = 23 ∧ j = 8) ∨ (q = 1 ∧ j = 17) ∨ (q = 1 ∧ j = 18) ∨ q = 20 ∨ (q = 39 ∧ j = 6) ∨ (q = 39 ∧ j = 8) ∨ q = 40 ∨ (q = 41 ∧ j = 0) ∨ (q = 41 ∧ j = 1) ∨ (q = 41 ∧ j = 2) ∨ q = (t + 13) ∨ q = (t + 14) ∨ (q = (t + 11) ∧ j = 1)) ∨ I' q j = I q j) ∧ (∀ q j : Nat, ((q = 23 ∧ j = 9) ∨ q = (t + 12)) ∨ J' q j = J q j) ∧ gc_LT I' ∧ (∃ z : Int, r = some (.inl z) ∧ 0 ≤ z ∧ z ≤ 1 ∧ (I' 23 5 ≤ I' 23 6) ∧ (I' 23 7 = 5 ∨ I' 23 6 ≤ I' 23 1) ∧ (I' 23 5 ≤ I' 23 1) ∧ (I' 23 7 = 4 ∨ (I' 23 5 < I' 23 6 ∧ I' 23 5 < I' 23 1)) ∧ (I' 23 7 = 3 → 2 ≤ I' 23 6 - I' 23 5 ∧ I' 23 6 - I' 23 5 ≤ 14) ∧ (I' 23 1 = I 23 1) ∧ (I 23 5 ≤ I' 23 5) ∧ (I' 1 17 + I' 23 1 ≤ 1280 + I' 23 5))))) (130, [(0, .inr (.inr (some 39))), (1, .inr (.inl v1_13)), (3, .inl v3_50), (5, .inl v5_26)], [.inl s0_50], sh, gc_h sh I37 J38 A) := by
            intro v3_50 s0_50 m_50
            obtain ⟨hv3_50, hv5_26_50, hs0_50, e0_50, e1_50, e2_50, e3_50, e4_50, e5_50, e6_50, e7_50, e8_50, e9_50⟩ := m_50
            have f51 := (show 0 ≤ I37 23 1 ∧ I37 23 1 ≤ 1000 from gc_in hI37 R_23 rfl rfl)
            have f52 := (show 0 ≤ I37 23 5 ∧ I37 23 5 ≤ 1000 from gc_in hI37 R_23 rfl rfl)
            have f53 := (show 0 ≤ I37 23 6 ∧ I37 23 6 ≤ 1001 from gc_in hI37 R_23 rfl rfl)
            have f54 := (show 0 ≤ I37 23 7 ∧ I37 23 7 ≤ 125 from gc_in hI37 R_23 rfl rfl)
            have f55 := (show 0 ≤ I37 1 17 ∧ I37 1 17 ≤ 12000 from gc_in hI37 R_1 rfl rfl)
            have f56 := (show 0 ≤ I37 (t + 11) 1 ∧ I37 (t + 11) 1 ≤ 24 from gc_in hI37 R_t_11 rfl rfl)
            have f57 := (show (-2147483648) ≤ I37 41 0 ∧ I37 41 0 ≤ 2147483647 from gc_in hI37 R_41 rfl rfl)
            have f58 := (show (-2147483648) ≤ I37 41 1 ∧ I37 41 1 ≤ 2147483647 from gc_in hI37 R_41 rfl rfl)
            have f59 := (show (-2147483648) ≤ I37 41 2 ∧ I37 41 2 ≤ 2147483647 from gc_in hI37 R_41 rfl rfl)
            have f60 := (show (-1) ≤ I37 39 2 ∧ I37 39 2 ≤ 999999 from gc_in hI37 R_39 rfl rfl)
            have L144 : ∀ (I61 : gr_I) (J62 : gr_J) (v4_63 : Int), gc_Inv ro I61 → (∀ q j : Nat, ((q = 39 ∧ j = 3) ∨ (q = 39 ∧ j = 4) ∨ (q = 23 ∧ j = 5) ∨ (q = 23 ∧ j = 6) ∨ (q = 23 ∧ j = 7) ∨ (q = 23 ∧ j = 8) ∨ (q = 1 ∧ j = 17) ∨ (q = 1 ∧ j = 18) ∨ q = 20 ∨ (q = 39 ∧ j = 6) ∨ (q = 39 ∧ j = 8) ∨ q = 40 ∨ (q = 41 ∧ j = 0) ∨ (q = 41 ∧ j = 1) ∨ (q = 41 ∧ j = 2) ∨ q = (t + 13) ∨ q = (t + 14) ∨ (q = (t + 11) ∧ j = 1)) ∨ I61 q j = I q j) → (∀ q j : Nat, ((q = 23 ∧ j = 9) ∨ q = (t + 12)) ∨ J62 q j = J q j) → gc_LT I61 → ((0 ≤ v3_50 ∧ v3_50 ≤ 1) ∧ (0 ≤ v4_63 ∧ v4_63 ≤ 1) ∧ (0 ≤ v5_26 ∧ v5_26 ≤ 999) ∧ (I61 23 5 ≤ I61 23 6) ∧ (I61 23 7 = 5 ∨ I61 23 6 ≤ I61 23 1) ∧ (I61 23 5 ≤ I61 23 1) ∧ (I61 23 7 = 4 ∨ (I61 23 5 < I61 23 6 ∧ I61 23 5 < I61 23 1)) ∧ (I61 23 7 = 3 → 2 ≤ I61 23 6 - I61 23 5 ∧ I61 23 6 - I61 23 5 ≤ 14) ∧ (I61 23 1 = I 23 1) ∧ (I 23 5 ≤ I61 23 5) ∧ (I61 1 17 + I61 23 1 ≤ 1280 + I61 23 5) ∧ (I61 39 2 = (t : Int))) → gv_X (gc_E6 ws0 tb 4 (yX6_readPattern, cX6_readPattern, 6, (some .boolean)) kX6_readPattern) (gv_Q cX6_readPattern (some .boolean) sh (fun r h' => (∃ (I' : gr_I) (J' : gr_J), h' = gc_h sh I' J' A ∧ gc_Inv ro I' ∧ (∀ q j : Nat, ((q = 39 ∧ j = 3) ∨ (q = 39 ∧ j = 4) ∨ (q = 23 ∧ j = 5) ∨ (q = 23 ∧ j = 6) ∨ (q = 23 ∧ j = 7) ∨ (q = 23 ∧ j = 8) ∨ (q = 1 ∧ j = 17) ∨ (q = 1 ∧ j = 18) ∨ q = 20 ∨ (q = 39 ∧ j = 6) ∨ (q = 39 ∧ j = 8) ∨ q = 40 ∨ (q = 41 ∧ j = 0) ∨ (q = 41 ∧ j = 1) ∨ (q = 41 ∧ j = 2) ∨ q = (t + 13) ∨ q = (t + 14) ∨ (q = (t + 11) ∧ j = 1)) ∨ I' q j = I q j) ∧ (∀ q j : Nat, ((q = 23 ∧ j = 9) ∨ q = (t + 12)) ∨ J' q j = J q j) ∧ gc_LT I' ∧ (∃ z : Int, r = some (.inl z) ∧ 0 ≤ z ∧ z ≤ 1 ∧ (I' 23 5 ≤ I' 23 6) ∧ (I' 23 7 = 5 ∨ I' 23 6 ≤ I' 23 1) ∧ (I' 23 5 ≤ I' 23 1) ∧ (I' 23 7 = 4 ∨ (I' 23 5 < I' 23 6 ∧ I' 23 5 < I' 23 1)) ∧ (I' 23 7 = 3 → 2 ≤ I' 23 6 - I' 23 5 ∧ I' 23 6 - I' 23 5 ≤ 14) ∧ (I' 23 1 = I 23 1) ∧ (I 23 5 ≤ I' 23 5) ∧ (I' 1 17 + I' 23 1 ≤ 1280 + I' 23 5))))) (144, [(0, .inr (.inr (some 39))), (1, .inr (.inl v1_13)), (3, .inl v3_50), (4, .inl v4_63), (5, .inl v5_26)], [], sh, gc_h sh I61 J62 A) := by
              intro I61 J62 v4_63 hI61 FI61 FJ62 KLT_I61 m_63
              clear hv3_50 hv5_26_50 hs0_50 e0_50 e1_50 e2_50 e3_50 e4_50 e5_50 e6_50 e7_50 e8_50 e9_50 f51 f52 f53 f54 f55 f56 f57 f58 f59 f60 hv5_26_39 hs0_39 e0_39 e1_39 e2_39 e3_39 e4_39 e5_39 e6_39 e7_39 e8_39 f40 f41 f42 f43 f44 f45 f46 f47 f48 f49
              obtain ⟨hv3_50_63, hv4_63, hv5_26_63, e0_63, e1_63, e2_63, e3_63, e4_63, e5_63, e6_63, e7_63, e8_63⟩ := m_63
              have f64 := (show 0 ≤ I61 23 1 ∧ I61 23 1 ≤ 1000 from gc_in hI61 R_23 rfl rfl)
              have f65 := (show 0 ≤ I61 23 5 ∧ I61 23 5 ≤ 1000 from gc_in hI61 R_23 rfl rfl)
              have f66 := (show 0 ≤ I61 23 6 ∧ I61 23 6 ≤ 1001 from gc_in hI61 R_23 rfl rfl)
              have f67 := (show 0 ≤ I61 23 7 ∧ I61 23 7 ≤ 125 from gc_in hI61 R_23 rfl rfl)
              have f68 := (show 0 ≤ I61 1 17 ∧ I61 1 17 ≤ 12000 from gc_in hI61 R_1 rfl rfl)
              have f69 := (show 0 ≤ I61 (t + 11) 1 ∧ I61 (t + 11) 1 ≤ 24 from gc_in hI61 R_t_11 rfl rfl)
              have f70 := (show (-2147483648) ≤ I61 41 0 ∧ I61 41 0 ≤ 2147483647 from gc_in hI61 R_41 rfl rfl)
              have f71 := (show (-2147483648) ≤ I61 41 1 ∧ I61 41 1 ≤ 2147483647 from gc_in hI61 R_41 rfl rfl)
              have f72 := (show (-2147483648) ≤ I61 41 2 ∧ I61 41 2 ≤ 2147483647 from gc_in hI61 R_41 rfl rfl)
              have f73 := (show (-1) ≤ I61 39 2 ∧ I61 39 2 ≤ 999999 from gc_in hI61 R_39 rfl rfl)
              refine gv_run 2 true hD (pc' := 74) (lv' := [(5, .inl (v5_26 + 1)), (0, .inr (.inr (some 39))), (1, .inr (.inl v1_13)), (3, .inl v3_50), (4, .inl v4_63)]) (st' := []) (h' := gc_h sh I61 J62 A) (C := ((True ∧ True) ∧ True)) rfl ⟨⟨trivial, trivial⟩, trivial⟩ ?_
              refine gv_pick [1, 2, 3, 4, 0] rfl ?_
              exact ih74 I61 J62 v3_50 v4_63 (v5_26 + 1) (by omega) hI61 FI61 FJ62 KLT_I61 (by omega)
            refine gv_run 2 true hD (pc' := 134) (lv' := [(4, .inl s0_50), (0, .inr (.inr (some 39))), (1, .inr (.inl v1_13)), (3, .inl v3_50), (5, .inl v5_26)]) (st' := [.inl s0_50]) (h' := gc_h sh I37 J38 A) (C := ((True ∧ True) ∧ True)) rfl ⟨⟨trivial, trivial⟩, trivial⟩ ?_
            refine gv_if_eq (t := 144) hD rfl rfl ⟨by omega, by omega⟩ (fun c74 => ?_) (fun c74 => ?_)
            · show gv_X _ _ (144, [(4, .inl s0_50), (0, .inr (.inr (some 39))), (1, .inr (.inl v1_13)), (3, .inl v3_50), (5, .inl v5_26)], [], sh, gc_h sh I37 J38 A)
              refine gv_pick [1, 2, 3, 0, 4] rfl ?_
              exact L144 I37 J38 s0_50 hI37 FI37 FJ38 KLT_I37 (by omega)
            · show gv_X _ _ (137, [(4, .inl s0_50), (0, .inr (.inr (some 39))), (1, .inr (.inl v1_13)), (3, .inl v3_50), (5, .inl v5_26)], [], sh, gc_h sh I37 J38 A)
              refine gv_run 1 true hD (pc' := 138) (lv' := [(4, .inl s0_50), (0, .inr (.inr (some 39))), (1, .inr (.inl v1_13)), (3, .inl v3_50), (5, .inl v5_26)]) (st' := [.inr (.inr (some 39))]) (h' := gc_h sh I37 J38 A) (C := (True ∧ True)) rfl ⟨trivial, trivial⟩ ?_
              refine gv_get hD rfl rfl S_39 ⟨by decide, B_39⟩ (gc_hA S_39 rfl A_39_1) ?_
              show gv_X _ _ (141, [(4, .inl s0_50), (0, .inr (.inr (some 39))), (1, .inr (.inl v1_13)), (3, .inl v3_50), (5, .inl v5_26)], [.inr (.inr (some 23))], sh, gc_h sh I37 J38 A)
              obtain ⟨r75, h75, E75, P75⟩ := d_X9_advance (ws0 := ws0) (tb := tb) hws htb sh ro I37 J38 A hI37 23  (gc_b23 hb)    (by omega) 
              obtain ⟨I76, J77, rfl, hI76, g75, k75, ⟨rfl, q75⟩⟩ := P75
              have FI76 := gc_frc (W := fun q j => (q = 39 ∧ j = 3) ∨ (q = 39 ∧ j = 4) ∨ (q = 23 ∧ j = 5) ∨ (q = 23 ∧ j = 6) ∨ (q = 23 ∧ j = 7) ∨ (q = 23 ∧ j = 8) ∨ (q = 1 ∧ j = 17) ∨ (q = 1 ∧ j = 18) ∨ q = 20 ∨ (q = 39 ∧ j = 6) ∨ (q = 39 ∧ j = 8) ∨ q = 40 ∨ (q = 41 ∧ j = 0) ∨ (q = 41 ∧ j = 1) ∨ (q = 41 ∧ j = 2) ∨ q = (t + 13) ∨ q = (t + 14) ∨ (q = (t + 11) ∧ j = 1)) (V := fun q j => (q = 23 ∧ j = 5) ∨ (q = 23 ∧ j = 6) ∨ (q = 23 ∧ j = 7) ∨ (q = 23 ∧ j = 8)) FI37 (fun q j h => (h.elim (fun h => (Or.inr (Or.inr (Or.inl h)))) (fun h => (h.elim (fun h => (Or.inr (Or.inr (Or.inr (Or.inl h))))) (fun h => (h.elim (fun h => (Or.inr (Or.inr (Or.inr (Or.inr (Or.inl h)))))) (fun h => (Or.inr (Or.inr (Or.inr (Or.inr (Or.inr (Or.inl h))))))))))))) g75
              have FJ77 := gc_frc (W := fun q j => (q = 23 ∧ j = 9) ∨ q = (t + 12)) (V := fun q j => (q = 23 ∧ j = 9)) FJ38 (fun q j h => (Or.inl h)) k75
              have t78 := (g75 23 1).resolve_left (by omega)
              have t79 := (g75 1 17).resolve_left (by omega)
              have t80 := (g75 (t + 11) 1).resolve_left (by omega)
              have t81 := (g75 41 0).resolve_left (by omega)
              have t82 := (g75 41 1).resolve_left (by omega)
              have t83 := (g75 41 2).resolve_left (by omega)
              have t84 := (g75 39 2).resolve_left (by omega)
              have f85 := (show 0 ≤ I76 23 1 ∧ I76 23 1 ≤ 1000 from gc_in hI76 R_23 rfl rfl)
              have f86 := (show 0 ≤ I76 23 5 ∧ I76 23 5 ≤ 1000 from gc_in hI76 R_23 rfl rfl)
              have f87 := (show 0 ≤ I76 23 6 ∧ I76 23 6 ≤ 1001 from gc_in hI76 R_23 rfl rfl)
              have f88 := (show 0 ≤ I76 23 7 ∧ I76 23 7 ≤ 125 from gc_in hI76 R_23 rfl rfl)
              have f89 := (show 0 ≤ I76 1 17 ∧ I76 1 17 ≤ 12000 from gc_in hI76 R_1 rfl rfl)
              have f90 := (show 0 ≤ I76 (t + 11) 1 ∧ I76 (t + 11) 1 ≤ 24 from gc_in hI76 R_t_11 rfl rfl)
              have f91 := (show (-2147483648) ≤ I76 41 0 ∧ I76 41 0 ≤ 2147483647 from gc_in hI76 R_41 rfl rfl)
              have f92 := (show (-2147483648) ≤ I76 41 1 ∧ I76 41 1 ≤ 2147483647 from gc_in hI76 R_41 rfl rfl)
              have f93 := (show (-2147483648) ≤ I76 41 2 ∧ I76 41 2 ≤ 2147483647 from gc_in hI76 R_41 rfl rfl)
              have f94 := (show (-1) ≤ I76 39 2 ∧ I76 39 2 ≤ 999999 from gc_in hI76 R_39 rfl rfl)
              have KLT_I76 : gc_LT I76 := q75.2.2.2.2.2.2.2
              refine gv_callV hD rfl (As := []) (st := []) rfl B_23 S_23 rfl (gc_lV6 hws rfl) (Nat.le_of_ble_eq_true rfl) (gz_Ev_mono (d := 2) (by decide) E75) ?_
              show gv_X _ _ (144, [(4, .inl s0_50), (0, .inr (.inr (some 39))), (1, .inr (.inl v1_13)), (3, .inl v3_50), (5, .inl v5_26)], [], sh, gc_h sh I76 J77 A)
              refine gv_pick [1, 2, 3, 0, 4] rfl ?_
              exact L144 I76 J77 s0_50 hI76 FI76 FJ77 KLT_I76 (by omega)
          refine gv_run 2 true hD (pc' := 114) (lv' := [(3, .inl s0_39), (0, .inr (.inr (some 39))), (1, .inr (.inl v1_13)), (5, .inl v5_26)]) (st' := [.inr (.inr (some 39))]) (h' := gc_h sh I37 J38 A) (C := ((True ∧ True) ∧ True)) rfl ⟨⟨trivial, trivial⟩, trivial⟩ ?_
          refine gv_get hD rfl rfl S_39 ⟨by decide, B_39⟩ (gc_hA S_39 rfl A_39_1) ?_
          show gv_X _ _ (117, [(3, .inl s0_39), (0, .inr (.inr (some 39))), (1, .inr (.inl v1_13)), (5, .inl v5_26)], [.inr (.inr (some 23))], sh, gc_h sh I37 J38 A)
          have f95 := (show 0 ≤ I37 23 7 ∧ I37 23 7 ≤ 125 from gc_in hI37 R_23 rfl rfl)
          refine gv_get hD rfl rfl S_23 ⟨by decide, B_23⟩ (gc_hI S_23 rfl) ?_
          show gv_X _ _ (120, [(3, .inl s0_39), (0, .inr (.inr (some 39))), (1, .inr (.inl v1_13)), (5, .inl v5_26)], [.inl (I37 23 7)], sh, gc_h sh I37 J38 A)
          refine gv_run 1 true hD (pc' := 122) (lv' := [(3, .inl s0_39), (0, .inr (.inr (some 39))), (1, .inr (.inl v1_13)), (5, .inl v5_26)]) (st' := [.inl 44, .inl (I37 23 7)]) (h' := gc_h sh I37 J38 A) (C := (True ∧ True)) rfl ⟨trivial, trivial⟩ ?_
          refine gv_icmp_ne (t := 129) hD rfl rfl ⟨⟨by omega, by omega⟩, ⟨by omega, by omega⟩⟩ (fun c96 => ?_) (fun c96 => ?_)
          · show gv_X _ _ (129, [(3, .inl s0_39), (0, .inr (.inr (some 39))), (1, .inr (.inl v1_13)), (5, .inl v5_26)], [], sh, gc_h sh I37 J38 A)
            refine gv_run 1 true hD (pc' := 130) (lv' := [(3, .inl s0_39), (0, .inr (.inr (some 39))), (1, .inr (.inl v1_13)), (5, .inl v5_26)]) (st' := [.inl 0]) (h' := gc_h sh I37 J38 A) (C := (True ∧ True)) rfl ⟨trivial, trivial⟩ ?_
            refine gv_pick [1, 2, 0, 3] rfl ?_
            exact L130 s0_39 0 (by omega)
          · show gv_X _ _ (125, [(3, .inl s0_39), (0, .inr (.inr (some 39))), (1, .inr (.inl v1_13)), (5, .inl v5_26)], [], sh, gc_h sh I37 J38 A)
            refine gv_run 2 true hD (pc' := 130) (lv' := [(3, .inl s0_39), (0, .inr (.inr (some 39))), (1, .inr (.inl v1_13)), (5, .inl v5_26)]) (st' := [.inl 1]) (h' := gc_h sh I37 J38 A) (C := ((True ∧ True) ∧ True)) rfl ⟨⟨trivial, trivial⟩, trivial⟩ ?_
            refine gv_pick [1, 2, 0, 3] rfl ?_
            exact L130 s0_39 1 (by omega)
        have L107 : ∀ (I97 : gr_I) (J98 : gr_J) , gc_Inv ro I97 → (∀ q j : Nat, ((q = 39 ∧ j = 3) ∨ (q = 39 ∧ j = 4) ∨ (q = 23 ∧ j = 5) ∨ (q = 23 ∧ j = 6) ∨ (q = 23 ∧ j = 7) ∨ (q = 23 ∧ j = 8) ∨ (q = 1 ∧ j = 17) ∨ (q = 1 ∧ j = 18) ∨ q = 20 ∨ (q = 39 ∧ j = 6) ∨ (q = 39 ∧ j = 8) ∨ q = 40 ∨ (q = 41 ∧ j = 0) ∨ (q = 41 ∧ j = 1) ∨ (q = 41 ∧ j = 2) ∨ q = (t + 13) ∨ q = (t + 14) ∨ (q = (t + 11) ∧ j = 1)) ∨ I97 q j = I q j) → (∀ q j : Nat, ((q = 23 ∧ j = 9) ∨ q = (t + 12)) ∨ J98 q j = J q j) → gc_LT I97 → ((0 ≤ v5_26 ∧ v5_26 ≤ 999) ∧ (I97 23 5 ≤ I97 23 6) ∧ (I97 23 7 = 5 ∨ I97 23 6 ≤ I97 23 1) ∧ (I97 23 5 ≤ I97 23 1) ∧ (I97 23 7 = 4 ∨ (I97 23 5 < I97 23 6 ∧ I97 23 5 < I97 23 1)) ∧ (I97 23 7 = 3 → 2 ≤ I97 23 6 - I97 23 5 ∧ I97 23 6 - I97 23 5 ≤ 14) ∧ (I97 23 1 = I 23 1) ∧ (I 23 5 ≤ I97 23 5) ∧ (I97 1 17 + I97 23 1 ≤ 1280 + I97 23 5) ∧ (I97 39 2 = (t : Int))) → gv_X (gc_E6 ws0 tb 4 (yX6_readPattern, cX6_readPattern, 6, (some .boolean)) kX6_readPattern) (gv_Q cX6_readPattern (some .boolean) sh (fun r h' => (∃ (I' : gr_I) (J' : gr_J), h' = gc_h sh I' J' A ∧ gc_Inv ro I' ∧ (∀ q j : Nat, ((q = 39 ∧ j = 3) ∨ (q = 39 ∧ j = 4) ∨ (q = 23 ∧ j = 5) ∨ (q = 23 ∧ j = 6) ∨ (q = 23 ∧ j = 7) ∨ (q = 23 ∧ j = 8) ∨ (q = 1 ∧ j = 17) ∨ (q = 1 ∧ j = 18) ∨ q = 20 ∨ (q = 39 ∧ j = 6) ∨ (q = 39 ∧ j = 8) ∨ q = 40 ∨ (q = 41 ∧ j = 0) ∨ (q = 41 ∧ j = 1) ∨ (q = 41 ∧ j = 2) ∨ q = (t + 13) ∨ q = (t + 14) ∨ (q = (t + 11) ∧ j = 1)) ∨ I' q j = I q j) ∧ (∀ q j : Nat, ((q = 23 ∧ j = 9) ∨ q = (t + 12)) ∨ J' q j = J q j) ∧ gc_LT I' ∧ (∃ z : Int, r = some (.inl z) ∧ 0 ≤ z ∧ z ≤ 1 ∧ (I' 23 5 ≤ I' 23 6) ∧ (I' 23 7 = 5 ∨ I' 23 6 ≤ I' 23 1) ∧ (I' 23 5 ≤ I' 23 1) ∧ (I' 23 7 = 4 ∨ (I' 23 5 < I' 23 6 ∧ I' 23 5 < I' 23 1)) ∧ (I' 23 7 = 3 → 2 ≤ I' 23 6 - I' 23 5 ∧ I' 23 6 - I' 23 5 ≤ 14) ∧ (I' 23 1 = I 23 1) ∧ (I 23 5 ≤ I' 23 5) ∧ (I' 1 17 + I' 23 1 ≤ 1280 + I' 23 5))))) (107, [(0, .inr (.inr (some 39))), (1, .inr (.inl v1_13)), (5, .inl v5_26)], [], sh, gc_h sh I97 J98 A) := by
          intro I97 J98 hI97 FI97 FJ98 KLT_I97 m_99
          clear hv3_26 hv4_26 hv5_26 e0_26 e1_26 e2_26 e3_26 e4_26 e5_26 e6_26 e7_26 e8_26 f27 f28 f29 f30 f31 f32 f33 f34 f35 f36
          obtain ⟨hv5_26_99, e0_99, e1_99, e2_99, e3_99, e4_99, e5_99, e6_99, e7_99, e8_99⟩ := m_99
          have f100 := (show 0 ≤ I97 23 1 ∧ I97 23 1 ≤ 1000 from gc_in hI97 R_23 rfl rfl)
          have f101 := (show 0 ≤ I97 23 5 ∧ I97 23 5 ≤ 1000 from gc_in hI97 R_23 rfl rfl)
          have f102 := (show 0 ≤ I97 23 6 ∧ I97 23 6 ≤ 1001 from gc_in hI97 R_23 rfl rfl)
          have f103 := (show 0 ≤ I97 23 7 ∧ I97 23 7 ≤ 125 from gc_in hI97 R_23 rfl rfl)
          have f104 := (show 0 ≤ I97 1 17 ∧ I97 1 17 ≤ 12000 from gc_in hI97 R_1 rfl rfl)
          have f105 := (show 0 ≤ I97 (t + 11) 1 ∧ I97 (t + 11) 1 ≤ 24 from gc_in hI97 R_t_11 rfl rfl)
          have f106 := (show (-2147483648) ≤ I97 41 0 ∧ I97 41 0 ≤ 2147483647 from gc_in hI97 R_41 rfl rfl)
          have f107 := (show (-2147483648) ≤ I97 41 1 ∧ I97 41 1 ≤ 2147483647 from gc_in hI97 R_41 rfl rfl)
          have f108 := (show (-2147483648) ≤ I97 41 2 ∧ I97 41 2 ≤ 2147483647 from gc_in hI97 R_41 rfl rfl)
          have f109 := (show (-1) ≤ I97 39 2 ∧ I97 39 2 ≤ 999999 from gc_in hI97 R_39 rfl rfl)
          refine gv_run 2 true hD (pc' := 112) (lv' := [(0, .inr (.inr (some 39))), (1, .inr (.inl v1_13)), (5, .inl v5_26)]) (st' := [.inl 1]) (h' := gc_h sh I97 J98 A) (C := ((True ∧ True) ∧ True)) rfl ⟨⟨trivial, trivial⟩, trivial⟩ ?_
          exact L112 I97 J98 1 hI97 FI97 FJ98 KLT_I97 (by omega)
        have L150 : ((0 ≤ v3_26 ∧ v3_26 ≤ 1) ∧ (I24 23 5 ≤ I24 23 6) ∧ (I24 23 7 = 5 ∨ I24 23 6 ≤ I24 23 1) ∧ (I24 23 5 ≤ I24 23 1) ∧ (I24 23 7 = 4 ∨ (I24 23 5 < I24 23 6 ∧ I24 23 5 < I24 23 1)) ∧ (I24 23 7 = 3 → 2 ≤ I24 23 6 - I24 23 5 ∧ I24 23 6 - I24 23 5 ≤ 14) ∧ (I24 23 1 = I 23 1) ∧ (I 23 5 ≤ I24 23 5) ∧ (I24 1 17 + I24 23 1 ≤ 1280 + I24 23 5) ∧ (I24 39 2 = (t : Int))) → gv_X (gc_E6 ws0 tb 4 (yX6_readPattern, cX6_readPattern, 6, (some .boolean)) kX6_readPattern) (gv_Q cX6_readPattern (some .boolean) sh (fun r h' => (∃ (I' : gr_I) (J' : gr_J), h' = gc_h sh I' J' A ∧ gc_Inv ro I' ∧ (∀ q j : Nat, ((q = 39 ∧ j = 3) ∨ (q = 39 ∧ j = 4) ∨ (q = 23 ∧ j = 5) ∨ (q = 23 ∧ j = 6) ∨ (q = 23 ∧ j = 7) ∨ (q = 23 ∧ j = 8) ∨ (q = 1 ∧ j = 17) ∨ (q = 1 ∧ j = 18) ∨ q = 20 ∨ (q = 39 ∧ j = 6) ∨ (q = 39 ∧ j = 8) ∨ q = 40 ∨ (q = 41 ∧ j = 0) ∨ (q = 41 ∧ j = 1) ∨ (q = 41 ∧ j = 2) ∨ q = (t + 13) ∨ q = (t + 14) ∨ (q = (t + 11) ∧ j = 1)) ∨ I' q j = I q j) ∧ (∀ q j : Nat, ((q = 23 ∧ j = 9) ∨ q = (t + 12)) ∨ J' q j = J q j) ∧ gc_LT I' ∧ (∃ z : Int, r = some (.inl z) ∧ 0 ≤ z ∧ z ≤ 1 ∧ (I' 23 5 ≤ I' 23 6) ∧ (I' 23 7 = 5 ∨ I' 23 6 ≤ I' 23 1) ∧ (I' 23 5 ≤ I' 23 1) ∧ (I' 23 7 = 4 ∨ (I' 23 5 < I' 23 6 ∧ I' 23 5 < I' 23 1)) ∧ (I' 23 7 = 3 → 2 ≤ I' 23 6 - I' 23 5 ∧ I' 23 6 - I' 23 5 ≤ 14) ∧ (I' 23 1 = I 23 1) ∧ (I 23 5 ≤ I' 23 5) ∧ (I' 1 17 + I' 23 1 ≤ 1280 + I' 23 5))))) (150, [(0, .inr (.inr (some 39))), (1, .inr (.inl v1_13)), (3, .inl v3_26)], [], sh, gc_h sh I24 J25 A) := by
          intro m_110
          obtain ⟨hv3_26_110, e0_110, e1_110, e2_110, e3_110, e4_110, e5_110, e6_110, e7_110, e8_110⟩ := m_110
          have f111 := (show 0 ≤ I24 23 1 ∧ I24 23 1 ≤ 1000 from gc_in hI24 R_23 rfl rfl)
          have f112 := (show 0 ≤ I24 23 5 ∧ I24 23 5 ≤ 1000 from gc_in hI24 R_23 rfl rfl)
          have f113 := (show 0 ≤ I24 23 6 ∧ I24 23 6 ≤ 1001 from gc_in hI24 R_23 rfl rfl)
          have f114 := (show 0 ≤ I24 23 7 ∧ I24 23 7 ≤ 125 from gc_in hI24 R_23 rfl rfl)
          have f115 := (show 0 ≤ I24 1 17 ∧ I24 1 17 ≤ 12000 from gc_in hI24 R_1 rfl rfl)
          have f116 := (show 0 ≤ I24 (t + 11) 1 ∧ I24 (t + 11) 1 ≤ 24 from gc_in hI24 R_t_11 rfl rfl)
          have f117 := (show (-2147483648) ≤ I24 41 0 ∧ I24 41 0 ≤ 2147483647 from gc_in hI24 R_41 rfl rfl)
          have f118 := (show (-2147483648) ≤ I24 41 1 ∧ I24 41 1 ≤ 2147483647 from gc_in hI24 R_41 rfl rfl)
          have f119 := (show (-2147483648) ≤ I24 41 2 ∧ I24 41 2 ≤ 2147483647 from gc_in hI24 R_41 rfl rfl)
          have f120 := (show (-1) ≤ I24 39 2 ∧ I24 39 2 ≤ 999999 from gc_in hI24 R_39 rfl rfl)
          have L188 : ∀ (I121 : gr_I) (J122 : gr_J) , gc_Inv ro I121 → (∀ q j : Nat, ((q = 39 ∧ j = 3) ∨ (q = 39 ∧ j = 4) ∨ (q = 23 ∧ j = 5) ∨ (q = 23 ∧ j = 6) ∨ (q = 23 ∧ j = 7) ∨ (q = 23 ∧ j = 8) ∨ (q = 1 ∧ j = 17) ∨ (q = 1 ∧ j = 18) ∨ q = 20 ∨ (q = 39 ∧ j = 6) ∨ (q = 39 ∧ j = 8) ∨ q = 40 ∨ (q = 41 ∧ j = 0) ∨ (q = 41 ∧ j = 1) ∨ (q = 41 ∧ j = 2) ∨ q = (t + 13) ∨ q = (t + 14) ∨ (q = (t + 11) ∧ j = 1)) ∨ I121 q j = I q j) → (∀ q j : Nat, ((q = 23 ∧ j = 9) ∨ q = (t + 12)) ∨ J122 q j = J q j) → gc_LT I121 → ((I121 23 5 ≤ I121 23 6) ∧ (I121 23 7 = 5 ∨ I121 23 6 ≤ I121 23 1) ∧ (I121 23 5 ≤ I121 23 1) ∧ (I121 23 7 = 4 ∨ (I121 23 5 < I121 23 6 ∧ I121 23 5 < I121 23 1)) ∧ (I121 23 7 = 3 → 2 ≤ I121 23 6 - I121 23 5 ∧ I121 23 6 - I121 23 5 ≤ 14) ∧ (I121 23 1 = I 23 1) ∧ (I 23 5 ≤ I121 23 5) ∧ (I121 1 17 + I121 23 1 ≤ 1280 + I121 23 5) ∧ (I121 39 2 = (t : Int))) → gv_X (gc_E6 ws0 tb 4 (yX6_readPattern, cX6_readPattern, 6, (some .boolean)) kX6_readPattern) (gv_Q cX6_readPattern (some .boolean) sh (fun r h' => (∃ (I' : gr_I) (J' : gr_J), h' = gc_h sh I' J' A ∧ gc_Inv ro I' ∧ (∀ q j : Nat, ((q = 39 ∧ j = 3) ∨ (q = 39 ∧ j = 4) ∨ (q = 23 ∧ j = 5) ∨ (q = 23 ∧ j = 6) ∨ (q = 23 ∧ j = 7) ∨ (q = 23 ∧ j = 8) ∨ (q = 1 ∧ j = 17) ∨ (q = 1 ∧ j = 18) ∨ q = 20 ∨ (q = 39 ∧ j = 6) ∨ (q = 39 ∧ j = 8) ∨ q = 40 ∨ (q = 41 ∧ j = 0) ∨ (q = 41 ∧ j = 1) ∨ (q = 41 ∧ j = 2) ∨ q = (t + 13) ∨ q = (t + 14) ∨ (q = (t + 11) ∧ j = 1)) ∨ I' q j = I q j) ∧ (∀ q j : Nat, ((q = 23 ∧ j = 9) ∨ q = (t + 12)) ∨ J' q j = J q j) ∧ gc_LT I' ∧ (∃ z : Int, r = some (.inl z) ∧ 0 ≤ z ∧ z ≤ 1 ∧ (I' 23 5 ≤ I' 23 6) ∧ (I' 23 7 = 5 ∨ I' 23 6 ≤ I' 23 1) ∧ (I' 23 5 ≤ I' 23 1) ∧ (I' 23 7 = 4 ∨ (I' 23 5 < I' 23 6 ∧ I' 23 5 < I' 23 1)) ∧ (I' 23 7 = 3 → 2 ≤ I' 23 6 - I' 23 5 ∧ I' 23 6 - I' 23 5 ≤ 14) ∧ (I' 23 1 = I 23 1) ∧ (I 23 5 ≤ I' 23 5) ∧ (I' 1 17 + I' 23 1 ≤ 1280 + I' 23 5))))) (188, [], [], sh, gc_h sh I121 J122 A) := by
            intro I121 J122 hI121 FI121 FJ122 KLT_I121 m_123
            clear hv3_26_110 e0_110 e1_110 e2_110 e3_110 e4_110 e5_110 e6_110 e7_110 e8_110 f111 f112 f113 f114 f115 f116 f117 f118 f119 f120 hv3_26 hv4_26 hv5_26 e0_26 e1_26 e2_26 e3_26 e4_26 e5_26 e6_26 e7_26 e8_26 f27 f28 f29 f30 f31 f32 f33 f34 f35 f36
            obtain ⟨e0_123, e1_123, e2_123, e3_123, e4_123, e5_123, e6_123, e7_123, e8_123⟩ := m_123
            have f124 := (show 0 ≤ I121 23 1 ∧ I121 23 1 ≤ 1000 from gc_in hI121 R_23 rfl rfl)
            have f125 := (show 0 ≤ I121 23 5 ∧ I121 23 5 ≤ 1000 from gc_in hI121 R_23 rfl rfl)
            have f126 := (show 0 ≤ I121 23 6 ∧ I121 23 6 ≤ 1001 from gc_in hI121 R_23 rfl rfl)
            have f127 := (show 0 ≤ I121 23 7 ∧ I121 23 7 ≤ 125 from gc_in hI121 R_23 rfl rfl)
            have f128 := (show 0 ≤ I121 1 17 ∧ I121 1 17 ≤ 12000 from gc_in hI121 R_1 rfl rfl)
            have f129 := (show 0 ≤ I121 (t + 11) 1 ∧ I121 (t + 11) 1 ≤ 24 from gc_in hI121 R_t_11 rfl rfl)
            have f130 := (show (-2147483648) ≤ I121 41 0 ∧ I121 41 0 ≤ 2147483647 from gc_in hI121 R_41 rfl rfl)
            have f131 := (show (-2147483648) ≤ I121 41 1 ∧ I121 41 1 ≤ 2147483647 from gc_in hI121 R_41 rfl rfl)
            have f132 := (show (-2147483648) ≤ I121 41 2 ∧ I121 41 2 ≤ 2147483647 from gc_in hI121 R_41 rfl rfl)
            have f133 := (show (-1) ≤ I121 39 2 ∧ I121 39 2 ≤ 999999 from gc_in hI121 R_39 rfl rfl)
            refine gv_run 1 true hD (pc' := 189) (lv' := []) (st' := [.inl 0]) (h' := gc_h sh I121 J122 A) (C := (True ∧ True)) rfl ⟨trivial, trivial⟩ ?_
            exact gv_zret hD rfl (by omega) ⟨I121, J122, rfl, hI121, FI121, FJ122, KLT_I121, ⟨_, rfl, by omega⟩⟩
          have L182 : ∀ (I134 : gr_I) (J135 : gr_J) (s1_136 : Int), gc_Inv ro I134 → (∀ q j : Nat, ((q = 39 ∧ j = 3) ∨ (q = 39 ∧ j = 4) ∨ (q = 23 ∧ j = 5) ∨ (q = 23 ∧ j = 6) ∨ (q = 23 ∧ j = 7) ∨ (q = 23 ∧ j = 8) ∨ (q = 1 ∧ j = 17) ∨ (q = 1 ∧ j = 18) ∨ q = 20 ∨ (q = 39 ∧ j = 6) ∨ (q = 39 ∧ j = 8) ∨ q = 40 ∨ (q = 41 ∧ j = 0) ∨ (q = 41 ∧ j = 1) ∨ (q = 41 ∧ j = 2) ∨ q = (t + 13) ∨ q = (t + 14) ∨ (q = (t + 11) ∧ j = 1)) ∨ I134 q j = I q j) → (∀ q j : Nat, ((q = 23 ∧ j = 9) ∨ q = (t + 12)) ∨ J135 q j = J q j) → gc_LT I134 → ((0 ≤ s1_136 ∧ s1_136 ≤ 1) ∧ (s1_136 = 1 ∨ I134 (t + 11) 1 < 24) ∧ (I134 23 5 ≤ I134 23 6) ∧ (I134 23 7 = 5 ∨ I134 23 6 ≤ I134 23 1) ∧ (I134 23 5 ≤ I134 23 1) ∧ (I134 23 7 = 4 ∨ (I134 23 5 < I134 23 6 ∧ I134 23 5 < I134 23 1)) ∧ (I134 23 7 = 3 → 2 ≤ I134 23 6 - I134 23 5 ∧ I134 23 6 - I134 23 5 ≤ 14) ∧ (I134 23 1 = I 23 1) ∧ (I 23 5 ≤ I134 23 5) ∧ (I134 1 17 + I134 23 1 ≤ 1280 + I134 23 5) ∧ (I134 39 2 = (t : Int))) → gv_X (gc_E6 ws0 tb 4 (yX6_readPattern, cX6_readPattern, 6, (some .boolean)) kX6_readPattern) (gv_Q cX6_readPattern (some .boolean) sh (fun r h' => (∃ (I' : gr_I) (J' : gr_J), h' = gc_h sh I' J' A ∧ gc_Inv ro I' ∧ (∀ q j : Nat, ((q = 39 ∧ j = 3) ∨ (q = 39 ∧ j = 4) ∨ (q = 23 ∧ j = 5) ∨ (q = 23 ∧ j = 6) ∨ (q = 23 ∧ j = 7) ∨ (q = 23 ∧ j = 8) ∨ (q = 1 ∧ j = 17) ∨ (q = 1 ∧ j = 18) ∨ q = 20 ∨ (q = 39 ∧ j = 6) ∨ (q = 39 ∧ j = 8) ∨ q = 40 ∨ (q = 41 ∧ j = 0) ∨ (q = 41 ∧ j = 1) ∨ (q = 41 ∧ j = 2) ∨ q = (t + 13) ∨ q = (t + 14) ∨ (q = (t + 11) ∧ j = 1)) ∨ I' q j = I q j) ∧ (∀ q j : Nat, ((q = 23 ∧ j = 9) ∨ q = (t + 12)) ∨ J' q j = J q j) ∧ gc_LT I' ∧ (∃ z : Int, r = some (.inl z) ∧ 0 ≤ z ∧ z ≤ 1 ∧ (I' 23 5 ≤ I' 23 6) ∧ (I' 23 7 = 5 ∨ I' 23 6 ≤ I' 23 1) ∧ (I' 23 5 ≤ I' 23 1) ∧ (I' 23 7 = 4 ∨ (I' 23 5 < I' 23 6 ∧ I' 23 5 < I' 23 1)) ∧ (I' 23 7 = 3 → 2 ≤ I' 23 6 - I' 23 5 ∧ I' 23 6 - I' 23 5 ≤ 14) ∧ (I' 23 1 = I 23 1) ∧ (I 23 5 ≤ I' 23 5) ∧ (I' 1 17 + I' 23 1 ≤ 1280 + I' 23 5))))) (182, [(0, .inr (.inr (some 39))), (1, .inr (.inl v1_13))], [.inl s1_136, .inr (.inr (some 39))], sh, gc_h sh I134 J135 A) := by
            intro I134 J135 s1_136 hI134 FI134 FJ135 KLT_I134 m_136
            clear hv3_26_110 e0_110 e1_110 e2_110 e3_110 e4_110 e5_110 e6_110 e7_110 e8_110 f111 f112 f113 f114 f115 f116 f117 f118 f119 f120 hv3_26 hv4_26 hv5_26 e0_26 e1_26 e2_26 e3_26 e4_26 e5_26 e6_26 e7_26 e8_26 f27 f28 f29 f30 f31 f32 f33 f34 f35 f36
            obtain ⟨hs1_136, e0_136, e1_136, e2_136, e3_136, e4_136, e5_136, e6_136, e7_136, e8_136, e9_136⟩ := m_136
            have f137 := (show 0 ≤ I134 23 1 ∧ I134 23 1 ≤ 1000 from gc_in hI134 R_23 rfl rfl)
            have f138 := (show 0 ≤ I134 23 5 ∧ I134 23 5 ≤ 1000 from gc_in hI134 R_23 rfl rfl)
            have f139 := (show 0 ≤ I134 23 6 ∧ I134 23 6 ≤ 1001 from gc_in hI134 R_23 rfl rfl)
            have f140 := (show 0 ≤ I134 23 7 ∧ I134 23 7 ≤ 125 from gc_in hI134 R_23 rfl rfl)
            have f141 := (show 0 ≤ I134 1 17 ∧ I134 1 17 ≤ 12000 from gc_in hI134 R_1 rfl rfl)
            have f142 := (show 0 ≤ I134 (t + 11) 1 ∧ I134 (t + 11) 1 ≤ 24 from gc_in hI134 R_t_11 rfl rfl)
            have f143 := (show (-2147483648) ≤ I134 41 0 ∧ I134 41 0 ≤ 2147483647 from gc_in hI134 R_41 rfl rfl)
            have f144 := (show (-2147483648) ≤ I134 41 1 ∧ I134 41 1 ≤ 2147483647 from gc_in hI134 R_41 rfl rfl)
            have f145 := (show (-2147483648) ≤ I134 41 2 ∧ I134 41 2 ≤ 2147483647 from gc_in hI134 R_41 rfl rfl)
            have f146 := (show (-1) ≤ I134 39 2 ∧ I134 39 2 ≤ 999999 from gc_in hI134 R_39 rfl rfl)
            obtain ⟨r147, h147, E147, P147⟩ := d_X6_closes (ws0 := ws0) (tb := tb) hws htb sh ro I134 J135 A hI134  s1_136 hb   ⟨by omega, by omega⟩ (by omega) (by omega) (by omega) (by omega) (by omega) KLT_I134
            obtain ⟨I148, J149, rfl, hI148, g147, k147, KLT_I148, ⟨z147, rfl, q147⟩⟩ := P147
            have FI148 := gc_frc (W := fun q j => (q = 39 ∧ j = 3) ∨ (q = 39 ∧ j = 4) ∨ (q = 23 ∧ j = 5) ∨ (q = 23 ∧ j = 6) ∨ (q = 23 ∧ j = 7) ∨ (q = 23 ∧ j = 8) ∨ (q = 1 ∧ j = 17) ∨ (q = 1 ∧ j = 18) ∨ q = 20 ∨ (q = 39 ∧ j = 6) ∨ (q = 39 ∧ j = 8) ∨ q = 40 ∨ (q = 41 ∧ j = 0) ∨ (q = 41 ∧ j = 1) ∨ (q = 41 ∧ j = 2) ∨ q = (t + 13) ∨ q = (t + 14) ∨ (q = (t + 11) ∧ j = 1)) (V := fun q j => (q = 39 ∧ j = 3) ∨ (q = 39 ∧ j = 4) ∨ (q = 23 ∧ j = 5) ∨ (q = 23 ∧ j = 6) ∨ (q = 23 ∧ j = 7) ∨ (q = 23 ∧ j = 8)) FI134 (fun q j h => (h.elim (fun h => (Or.inl h)) (fun h => (h.elim (fun h => (Or.inr (Or.inl h))) (fun h => (h.elim (fun h => (Or.inr (Or.inr (Or.inl h)))) (fun h => (h.elim (fun h => (Or.inr (Or.inr (Or.inr (Or.inl h))))) (fun h => (h.elim (fun h => (Or.inr (Or.inr (Or.inr (Or.inr (Or.inl h)))))) (fun h => (Or.inr (Or.inr (Or.inr (Or.inr (Or.inr (Or.inl h))))))))))))))))) g147
            have FJ149 := gc_frc (W := fun q j => (q = 23 ∧ j = 9) ∨ q = (t + 12)) (V := fun q j => (q = 23 ∧ j = 9)) FJ135 (fun q j h => (Or.inl h)) k147
            have t150 := (g147 23 1).resolve_left (by omega)
            have t151 := (g147 1 17).resolve_left (by omega)
            have t152 := (g147 (t + 11) 1).resolve_left (by omega)
            have t153 := (g147 41 0).resolve_left (by omega)
            have t154 := (g147 41 1).resolve_left (by omega)
            have t155 := (g147 41 2).resolve_left (by omega)
            have t156 := (g147 39 2).resolve_left (by omega)
            have f157 := (show 0 ≤ I148 23 1 ∧ I148 23 1 ≤ 1000 from gc_in hI148 R_23 rfl rfl)
            have f158 := (show 0 ≤ I148 23 5 ∧ I148 23 5 ≤ 1000 from gc_in hI148 R_23 rfl rfl)
            have f159 := (show 0 ≤ I148 23 6 ∧ I148 23 6 ≤ 1001 from gc_in hI148 R_23 rfl rfl)
            have f160 := (show 0 ≤ I148 23 7 ∧ I148 23 7 ≤ 125 from gc_in hI148 R_23 rfl rfl)
            have f161 := (show 0 ≤ I148 1 17 ∧ I148 1 17 ≤ 12000 from gc_in hI148 R_1 rfl rfl)
            have f162 := (show 0 ≤ I148 (t + 11) 1 ∧ I148 (t + 11) 1 ≤ 24 from gc_in hI148 R_t_11 rfl rfl)
            have f163 := (show (-2147483648) ≤ I148 41 0 ∧ I148 41 0 ≤ 2147483647 from gc_in hI148 R_41 rfl rfl)
            have f164 := (show (-2147483648) ≤ I148 41 1 ∧ I148 41 1 ≤ 2147483647 from gc_in hI148 R_41 rfl rfl)
            have f165 := (show (-2147483648) ≤ I148 41 2 ∧ I148 41 2 ≤ 2147483647 from gc_in hI148 R_41 rfl rfl)
            have f166 := (show (-1) ≤ I148 39 2 ∧ I148 39 2 ≤ 999999 from gc_in hI148 R_39 rfl rfl)
            refine gv_callV hD rfl (As := [.inl s1_136]) (st := []) rfl B_39 S_39 rfl (gc_lV6 hws rfl) (Nat.le_of_ble_eq_true rfl) (gz_Ev_mono (d := 4) (by decide) E147) ?_
            show gv_X _ _ (185, [(0, .inr (.inr (some 39))), (1, .inr (.inl v1_13))], [.inl z147], sh, gc_h sh I148 J149 A)
            refine gv_if_ne (t := 190) hD rfl rfl ⟨by omega, by omega⟩ (fun c167 => ?_) (fun c167 => ?_)
            · show gv_X _ _ (190, [(0, .inr (.inr (some 39))), (1, .inr (.inl v1_13))], [], sh, gc_h sh I148 J149 A)
              refine gv_run 1 true hD (pc' := 191) (lv' := [(0, .inr (.inr (some 39))), (1, .inr (.inl v1_13))]) (st' := [.inr (.inr (some 39))]) (h' := gc_h sh I148 J149 A) (C := (True ∧ True)) rfl ⟨trivial, trivial⟩ ?_
              refine gv_get hD rfl rfl S_39 ⟨by decide, B_39⟩ (gc_h5 (t := t) S_39 rfl (by omega)) ?_
              show gv_X _ _ (194, [(0, .inr (.inr (some 39))), (1, .inr (.inl v1_13))], [.inr (.inr (some t))], sh, gc_h sh I148 J149 A)
              refine gv_get hD rfl rfl S_t ⟨by decide, B_t⟩ (gc_hA S_t rfl A_t_8) ?_
              show gv_X _ _ (197, [(0, .inr (.inr (some 39))), (1, .inr (.inl v1_13))], [.inr (.inr (some (t + 11)))], sh, gc_h sh I148 J149 A)
              have f168 := (show 0 ≤ I148 (t + 11) 1 ∧ I148 (t + 11) 1 ≤ 24 from gc_in hI148 R_t_11 rfl rfl)
              refine gv_get hD rfl rfl S_t_11 ⟨by decide, B_t_11⟩ (gc_hI S_t_11 rfl) ?_
              show gv_X _ _ (200, [(0, .inr (.inr (some 39))), (1, .inr (.inl v1_13))], [.inl (I148 (t + 11) 1)], sh, gc_h sh I148 J149 A)
              refine gv_run 2 true hD (pc' := 203) (lv' := [(5, .inl (I148 (t + 11) 1)), (0, .inr (.inr (some 39))), (1, .inr (.inl v1_13))]) (st' := [.inr (.inr (some 39))]) (h' := gc_h sh I148 J149 A) (C := ((True ∧ True) ∧ True)) rfl ⟨⟨trivial, trivial⟩, trivial⟩ ?_
              refine gv_get hD rfl rfl S_39 ⟨by decide, B_39⟩ (gc_h5 (t := t) S_39 rfl (by omega)) ?_
              show gv_X _ _ (206, [(5, .inl (I148 (t + 11) 1)), (0, .inr (.inr (some 39))), (1, .inr (.inl v1_13))], [.inr (.inr (some t))], sh, gc_h sh I148 J149 A)
              refine gv_get hD rfl rfl S_t ⟨by decide, B_t⟩ (gc_hA S_t rfl A_t_8) ?_
              show gv_X _ _ (209, [(5, .inl (I148 (t + 11) 1)), (0, .inr (.inr (some 39))), (1, .inr (.inl v1_13))], [.inr (.inr (some (t + 11)))], sh, gc_h sh I148 J149 A)
              refine gv_run 1 true hD (pc' := 210) (lv' := [(5, .inl (I148 (t + 11) 1)), (0, .inr (.inr (some 39))), (1, .inr (.inl v1_13))]) (st' := [.inr (.inl v1_13), .inr (.inr (some (t + 11)))]) (h' := gc_h sh I148 J149 A) (C := (True ∧ True)) rfl ⟨trivial, trivial⟩ ?_
              obtain ⟨r169, h169, E169, P169⟩ := d_X4_put (ws0 := ws0) (tb := tb) hws htb sh ro I148 J149 A hI148 (t + 11) 24 8 v1_13 h_t_11     
              obtain ⟨I170, J171, rfl, hI170, g169, k169, ⟨rfl, q169⟩⟩ := P169
              have FI170 := gc_frc (W := fun q j => (q = 39 ∧ j = 3) ∨ (q = 39 ∧ j = 4) ∨ (q = 23 ∧ j = 5) ∨ (q = 23 ∧ j = 6) ∨ (q = 23 ∧ j = 7) ∨ (q = 23 ∧ j = 8) ∨ (q = 1 ∧ j = 17) ∨ (q = 1 ∧ j = 18) ∨ q = 20 ∨ (q = 39 ∧ j = 6) ∨ (q = 39 ∧ j = 8) ∨ q = 40 ∨ (q = 41 ∧ j = 0) ∨ (q = 41 ∧ j = 1) ∨ (q = 41 ∧ j = 2) ∨ q = (t + 13) ∨ q = (t + 14) ∨ (q = (t + 11) ∧ j = 1)) (V := fun q j => (q = (t + 11) ∧ j = 1)) FI148 (fun q j h => (Or.inr (Or.inr (Or.inr (Or.inr (Or.inr (Or.inr (Or.inr (Or.inr (Or.inr (Or.inr (Or.inr (Or.inr (Or.inr (Or.inr (Or.inr (Or.inr (Or.inr h)))))))))))))))))) g169
              have FJ171 := gc_frc (W := fun q j => (q = 23 ∧ j = 9) ∨ q = (t + 12)) (V := fun q j => q = (t + 12)) FJ149 (fun q j h => (Or.inr h)) k169
              have t172 := (g169 23 1).resolve_left (by omega)
              have t173 := (g169 23 5).resolve_left (by omega)
              have t174 := (g169 23 6).resolve_left (by omega)
              have t175 := (g169 23 7).resolve_left (by omega)
              have t176 := (g169 1 17).resolve_left (by omega)
              have t177 := (g169 41 0).resolve_left (by omega)
              have t178 := (g169 41 1).resolve_left (by omega)
              have t179 := (g169 41 2).resolve_left (by omega)
              have t180 := (g169 39 2).resolve_left (by omega)
              have f181 := (show 0 ≤ I170 23 1 ∧ I170 23 1 ≤ 1000 from gc_in hI170 R_23 rfl rfl)
              have f182 := (show 0 ≤ I170 23 5 ∧ I170 23 5 ≤ 1000 from gc_in hI170 R_23 rfl rfl)
              have f183 := (show 0 ≤ I170 23 6 ∧ I170 23 6 ≤ 1001 from gc_in hI170 R_23 rfl rfl)
              have f184 := (show 0 ≤ I170 23 7 ∧ I170 23 7 ≤ 125 from gc_in hI170 R_23 rfl rfl)
              have f185 := (show 0 ≤ I170 1 17 ∧ I170 1 17 ≤ 12000 from gc_in hI170 R_1 rfl rfl)
              have f186 := (show 0 ≤ I170 (t + 11) 1 ∧ I170 (t + 11) 1 ≤ 24 from gc_in hI170 R_t_11 rfl rfl)
              have f187 := (show (-2147483648) ≤ I170 41 0 ∧ I170 41 0 ≤ 2147483647 from gc_in hI170 R_41 rfl rfl)
              have f188 := (show (-2147483648) ≤ I170 41 1 ∧ I170 41 1 ≤ 2147483647 from gc_in hI170 R_41 rfl rfl)
              have f189 := (show (-2147483648) ≤ I170 41 2 ∧ I170 41 2 ≤ 2147483647 from gc_in hI170 R_41 rfl rfl)
              have f190 := (show (-1) ≤ I170 39 2 ∧ I170 39 2 ≤ 999999 from gc_in hI170 R_39 rfl rfl)
              have KLT_I170 := gc_LT_fr KLT_I148 ((g169 23 5).resolve_left (by omega)) ((g169 23 6).resolve_left (by omega)) ((g169 23 7).resolve_left (by omega)) (fun k => (g169 24 k).resolve_left (by omega))
              refine gv_callV hD rfl (As := [.inr (.inl v1_13)]) (st := []) rfl B_t_11 S_t_11 rfl (gc_lV6 hws rfl) (Nat.le_of_ble_eq_true rfl) (gz_Ev_mono (d := 1) (by decide) E169) ?_
              show gv_X _ _ (213, [(5, .inl (I148 (t + 11) 1)), (0, .inr (.inr (some 39))), (1, .inr (.inl v1_13))], [], sh, gc_h sh I170 J171 A)
              refine gv_run 1 true hD (pc' := 214) (lv' := [(5, .inl (I148 (t + 11) 1)), (0, .inr (.inr (some 39))), (1, .inr (.inl v1_13))]) (st' := [.inr (.inr (some 39))]) (h' := gc_h sh I170 J171 A) (C := (True ∧ True)) rfl ⟨trivial, trivial⟩ ?_
              refine gv_get hD rfl rfl S_39 ⟨by decide, B_39⟩ (gc_h5 (t := t) S_39 rfl (by omega)) ?_
              show gv_X _ _ (217, [(5, .inl (I148 (t + 11) 1)), (0, .inr (.inr (some 39))), (1, .inr (.inl v1_13))], [.inr (.inr (some t))], sh, gc_h sh I170 J171 A)
              refine gv_get hD rfl rfl S_t ⟨by decide, B_t⟩ (gc_hA S_t rfl A_t_9) ?_
              show gv_X _ _ (220, [(5, .inl (I148 (t + 11) 1)), (0, .inr (.inr (some 39))), (1, .inr (.inl v1_13))], [.inr (.inr (some (t + 13)))], sh, gc_h sh I170 J171 A)
              refine gv_run 2 true hD (pc' := 223) (lv' := [(5, .inl (I148 (t + 11) 1)), (0, .inr (.inr (some 39))), (1, .inr (.inl v1_13))]) (st' := [.inr (.inr (some 39)), .inl (I148 (t + 11) 1), .inr (.inr (some (t + 13)))]) (h' := gc_h sh I170 J171 A) (C := ((True ∧ True) ∧ True)) rfl ⟨⟨trivial, trivial⟩, trivial⟩ ?_
              have f191 := (show 0 ≤ I170 39 8 ∧ I170 39 8 ≤ 24 from gc_in hI170 R_39 rfl rfl)
              refine gv_get hD rfl rfl S_39 ⟨by decide, B_39⟩ (gc_hI S_39 rfl) ?_
              show gv_X _ _ (226, [(5, .inl (I148 (t + 11) 1)), (0, .inr (.inr (some 39))), (1, .inr (.inl v1_13))], [.inl (I170 39 8), .inl (I148 (t + 11) 1), .inr (.inr (some (t + 13)))], sh, gc_h sh I170 J171 A)
              refine gv_iast hD rfl S_t_13 ⟨by decide, B_t_13⟩ ⟨by omega, by omega⟩ ?_
              refine gc_st hI170 S_t_13 rfl R_t_13 (lo := 0) (hi := 24) rfl rfl (by omega) (by omega) (fun I192 hI192 q193 p193 => ?_)
              have FI192 := gc_frs (W := fun q j => (q = 39 ∧ j = 3) ∨ (q = 39 ∧ j = 4) ∨ (q = 23 ∧ j = 5) ∨ (q = 23 ∧ j = 6) ∨ (q = 23 ∧ j = 7) ∨ (q = 23 ∧ j = 8) ∨ (q = 1 ∧ j = 17) ∨ (q = 1 ∧ j = 18) ∨ q = 20 ∨ (q = 39 ∧ j = 6) ∨ (q = 39 ∧ j = 8) ∨ q = 40 ∨ (q = 41 ∧ j = 0) ∨ (q = 41 ∧ j = 1) ∨ (q = 41 ∧ j = 2) ∨ q = (t + 13) ∨ q = (t + 14) ∨ (q = (t + 11) ∧ j = 1)) FI170 (Or.inr (Or.inr (Or.inr (Or.inr (Or.inr (Or.inr (Or.inr (Or.inr (Or.inr (Or.inr (Or.inr (Or.inr (Or.inr (Or.inr (Or.inr (Or.inl rfl)))))))))))))))) p193
              have t194 := p193 23 1 (fun h => absurd h.1 (by omega))
              have t195 := p193 23 5 (fun h => absurd h.1 (by omega))
              have t196 := p193 23 6 (fun h => absurd h.1 (by omega))
              have t197 := p193 23 7 (fun h => absurd h.1 (by omega))
              have t198 := p193 1 17 (fun h => absurd h.1 (by omega))
              have t199 := p193 (t + 11) 1 (fun h => absurd h.1 (by omega))
              have t200 := p193 41 0 (fun h => absurd h.1 (by omega))
              have t201 := p193 41 1 (fun h => absurd h.1 (by omega))
              have t202 := p193 41 2 (fun h => absurd h.1 (by omega))
              have t203 := p193 39 2 (fun h => absurd h.1 (by omega))
              have f204 := (show 0 ≤ I192 23 1 ∧ I192 23 1 ≤ 1000 from gc_in hI192 R_23 rfl rfl)
              have f205 := (show 0 ≤ I192 23 5 ∧ I192 23 5 ≤ 1000 from gc_in hI192 R_23 rfl rfl)
              have f206 := (show 0 ≤ I192 23 6 ∧ I192 23 6 ≤ 1001 from gc_in hI192 R_23 rfl rfl)
              have f207 := (show 0 ≤ I192 23 7 ∧ I192 23 7 ≤ 125 from gc_in hI192 R_23 rfl rfl)
              have f208 := (show 0 ≤ I192 1 17 ∧ I192 1 17 ≤ 12000 from gc_in hI192 R_1 rfl rfl)
              have f209 := (show 0 ≤ I192 (t + 11) 1 ∧ I192 (t + 11) 1 ≤ 24 from gc_in hI192 R_t_11 rfl rfl)
              have f210 := (show (-2147483648) ≤ I192 41 0 ∧ I192 41 0 ≤ 2147483647 from gc_in hI192 R_41 rfl rfl)
              have f211 := (show (-2147483648) ≤ I192 41 1 ∧ I192 41 1 ≤ 2147483647 from gc_in hI192 R_41 rfl rfl)
              have f212 := (show (-2147483648) ≤ I192 41 2 ∧ I192 41 2 ≤ 2147483647 from gc_in hI192 R_41 rfl rfl)
              have f213 := (show (-1) ≤ I192 39 2 ∧ I192 39 2 ≤ 999999 from gc_in hI192 R_39 rfl rfl)
              have KLT_I192 := gc_LT_fr KLT_I170 (p193 23 5 (fun h => absurd h.1 (by omega))) (p193 23 6 (fun h => absurd h.1 (by omega))) (p193 23 7 (fun h => absurd h.1 (by omega))) (fun k => p193 24 k (fun h => absurd h.1 (by omega)))
              show gv_X _ _ (227, [(5, .inl (I148 (t + 11) 1)), (0, .inr (.inr (some 39))), (1, .inr (.inl v1_13))], [], sh, gc_h sh I192 J171 A)
              refine gv_run 1 true hD (pc' := 228) (lv' := [(5, .inl (I148 (t + 11) 1)), (0, .inr (.inr (some 39))), (1, .inr (.inl v1_13))]) (st' := [.inr (.inr (some 39))]) (h' := gc_h sh I192 J171 A) (C := (True ∧ True)) rfl ⟨trivial, trivial⟩ ?_
              refine gv_get hD rfl rfl S_39 ⟨by decide, B_39⟩ (gc_hA S_39 rfl A_39_9) ?_
              show gv_X _ _ (231, [(5, .inl (I148 (t + 11) 1)), (0, .inr (.inr (some 39))), (1, .inr (.inl v1_13))], [.inr (.inr (some 40))], sh, gc_h sh I192 J171 A)
              refine gv_run 2 true hD (pc' := 233) (lv' := [(5, .inl (I148 (t + 11) 1)), (0, .inr (.inr (some 39))), (1, .inr (.inl v1_13))]) (st' := [.inr (.inr (some 39)), .inl 0, .inr (.inr (some 40))]) (h' := gc_h sh I192 J171 A) (C := ((True ∧ True) ∧ True)) rfl ⟨⟨trivial, trivial⟩, trivial⟩ ?_
              refine gv_get hD rfl rfl S_39 ⟨by decide, B_39⟩ (gc_h5 (t := t) S_39 rfl (by omega)) ?_
              show gv_X _ _ (236, [(5, .inl (I148 (t + 11) 1)), (0, .inr (.inr (some 39))), (1, .inr (.inl v1_13))], [.inr (.inr (some t)), .inl 0, .inr (.inr (some 40))], sh, gc_h sh I192 J171 A)
              refine gv_get hD rfl rfl S_t ⟨by decide, B_t⟩ (gc_hA S_t rfl A_t_10) ?_
              show gv_X _ _ (239, [(5, .inl (I148 (t + 11) 1)), (0, .inr (.inr (some 39))), (1, .inr (.inl v1_13))], [.inr (.inr (some (t + 14))), .inl 0, .inr (.inr (some 40))], sh, gc_h sh I192 J171 A)
              refine gv_run 6 true hD (pc' := 247) (lv' := [(5, .inl (I148 (t + 11) 1)), (0, .inr (.inr (some 39))), (1, .inr (.inl v1_13))]) (st' := [.inr (.inr (some 39)), .inl (((I148 (t + 11) 1) * 24) * 3), .inr (.inr (some (t + 14))), .inl 0, .inr (.inr (some 40))]) (h' := gc_h sh I192 J171 A) (C := ((((((True ∧ True) ∧ True) ∧ True) ∧ True) ∧ True) ∧ True)) rfl ⟨⟨⟨⟨⟨⟨trivial, trivial⟩, trivial⟩, trivial⟩, trivial⟩, trivial⟩, trivial⟩ ?_
              have f214 := (show 0 ≤ I192 39 8 ∧ I192 39 8 ≤ 24 from gc_in hI192 R_39 rfl rfl)
              refine gv_get hD rfl rfl S_39 ⟨by decide, B_39⟩ (gc_hI S_39 rfl) ?_
              show gv_X _ _ (250, [(5, .inl (I148 (t + 11) 1)), (0, .inr (.inr (some 39))), (1, .inr (.inl v1_13))], [.inl (I192 39 8), .inl (((I148 (t + 11) 1) * 24) * 3), .inr (.inr (some (t + 14))), .inl 0, .inr (.inr (some 40))], sh, gc_h sh I192 J171 A)
              refine gv_run 2 true hD (pc' := 252) (lv' := [(5, .inl (I148 (t + 11) 1)), (0, .inr (.inr (some 39))), (1, .inr (.inl v1_13))]) (st' := [.inl ((I192 39 8) * 3), .inl (((I148 (t + 11) 1) * 24) * 3), .inr (.inr (some (t + 14))), .inl 0, .inr (.inr (some 40))]) (h' := gc_h sh I192 J171 A) (C := ((True ∧ True) ∧ True)) rfl ⟨⟨trivial, trivial⟩, trivial⟩ ?_
              refine gv_copy hD rfl (gc_lC6_263 hws) (Nat.le_of_ble_eq_true rfl) ⟨B_40, B_t_14⟩ S_40 S_t_14 (by decide) ⟨by decide, by decide⟩ ⟨by omega, by omega, by omega⟩ (by omega) (by omega) (fun h => absurd h (by decide)) ?_
              refine gc_cp hI192 S_40 S_t_14 (by decide) (fun j hj => gc_cprg (m := 2) hI192 R_40 R_t_14 rfl rfl (by omega)) (fun I216 hI216 p215 q215 => ?_)
              have FI216 := gc_frp (W := fun q j => (q = 39 ∧ j = 3) ∨ (q = 39 ∧ j = 4) ∨ (q = 23 ∧ j = 5) ∨ (q = 23 ∧ j = 6) ∨ (q = 23 ∧ j = 7) ∨ (q = 23 ∧ j = 8) ∨ (q = 1 ∧ j = 17) ∨ (q = 1 ∧ j = 18) ∨ q = 20 ∨ (q = 39 ∧ j = 6) ∨ (q = 39 ∧ j = 8) ∨ q = 40 ∨ (q = 41 ∧ j = 0) ∨ (q = 41 ∧ j = 1) ∨ (q = 41 ∧ j = 2) ∨ q = (t + 13) ∨ q = (t + 14) ∨ (q = (t + 11) ∧ j = 1)) (V := fun q j => q = (t + 14) ∧ Int.toNat ((((I148 (t + 11) 1) * 24) * 3)) ≤ j ∧ j < Int.toNat ((((I148 (t + 11) 1) * 24) * 3)) + Int.toNat (((I192 39 8) * 3))) FI192 (fun q j h => (Or.inr (Or.inr (Or.inr (Or.inr (Or.inr (Or.inr (Or.inr (Or.inr (Or.inr (Or.inr (Or.inr (Or.inr (Or.inr (Or.inr (Or.inr (Or.inr (Or.inl h.1)))))))))))))))))) p215
              have KLT_I216 := gc_LT_fr KLT_I192 (p215 23 5 (fun h => absurd h.1 (by omega))) (p215 23 6 (fun h => absurd h.1 (by omega))) (p215 23 7 (fun h => absurd h.1 (by omega))) (fun k => p215 24 k (fun h => absurd h.1 (by omega)))
              have t218 := p215 23 1 (fun h => absurd h.1 (by omega))
              have t219 := p215 23 5 (fun h => absurd h.1 (by omega))
              have t220 := p215 23 6 (fun h => absurd h.1 (by omega))
              have t221 := p215 23 7 (fun h => absurd h.1 (by omega))
              have t222 := p215 1 17 (fun h => absurd h.1 (by omega))
              have t223 := p215 (t + 11) 1 (fun h => absurd h.1 (by omega))
              have t224 := p215 41 0 (fun h => absurd h.1 (by omega))
              have t225 := p215 41 1 (fun h => absurd h.1 (by omega))
              have t226 := p215 41 2 (fun h => absurd h.1 (by omega))
              have t227 := p215 39 2 (fun h => absurd h.1 (by omega))
              have f228 := (show 0 ≤ I216 23 1 ∧ I216 23 1 ≤ 1000 from gc_in hI216 R_23 rfl rfl)
              have f229 := (show 0 ≤ I216 23 5 ∧ I216 23 5 ≤ 1000 from gc_in hI216 R_23 rfl rfl)
              have f230 := (show 0 ≤ I216 23 6 ∧ I216 23 6 ≤ 1001 from gc_in hI216 R_23 rfl rfl)
              have f231 := (show 0 ≤ I216 23 7 ∧ I216 23 7 ≤ 125 from gc_in hI216 R_23 rfl rfl)
              have f232 := (show 0 ≤ I216 1 17 ∧ I216 1 17 ≤ 12000 from gc_in hI216 R_1 rfl rfl)
              have f233 := (show 0 ≤ I216 (t + 11) 1 ∧ I216 (t + 11) 1 ≤ 24 from gc_in hI216 R_t_11 rfl rfl)
              have f234 := (show (-2147483648) ≤ I216 41 0 ∧ I216 41 0 ≤ 2147483647 from gc_in hI216 R_41 rfl rfl)
              have f235 := (show (-2147483648) ≤ I216 41 1 ∧ I216 41 1 ≤ 2147483647 from gc_in hI216 R_41 rfl rfl)
              have f236 := (show (-2147483648) ≤ I216 41 2 ∧ I216 41 2 ≤ 2147483647 from gc_in hI216 R_41 rfl rfl)
              have f237 := (show (-1) ≤ I216 39 2 ∧ I216 39 2 ≤ 999999 from gc_in hI216 R_39 rfl rfl)
              show gv_X _ _ (255, [(5, .inl (I148 (t + 11) 1)), (0, .inr (.inr (some 39))), (1, .inr (.inl v1_13))], [], sh, gc_h sh I216 J171 A)
              refine gv_run 1 true hD (pc' := 256) (lv' := [(5, .inl (I148 (t + 11) 1)), (0, .inr (.inr (some 39))), (1, .inr (.inl v1_13))]) (st' := [.inl 1]) (h' := gc_h sh I216 J171 A) (C := (True ∧ True)) rfl ⟨trivial, trivial⟩ ?_
              exact gv_zret hD rfl (by omega) ⟨I216, J171, rfl, hI216, FI216, FJ171, KLT_I216, ⟨_, rfl, by omega⟩⟩
            · show gv_X _ _ (188, [(0, .inr (.inr (some 39))), (1, .inr (.inl v1_13))], [], sh, gc_h sh I148 J149 A)
              refine gv_pick [] rfl ?_
              exact L188 I148 J149 hI148 FI148 FJ149 KLT_I148 (by omega)
          have L177 : ∀ (I238 : gr_I) (J239 : gr_J) , gc_Inv ro I238 → (∀ q j : Nat, ((q = 39 ∧ j = 3) ∨ (q = 39 ∧ j = 4) ∨ (q = 23 ∧ j = 5) ∨ (q = 23 ∧ j = 6) ∨ (q = 23 ∧ j = 7) ∨ (q = 23 ∧ j = 8) ∨ (q = 1 ∧ j = 17) ∨ (q = 1 ∧ j = 18) ∨ q = 20 ∨ (q = 39 ∧ j = 6) ∨ (q = 39 ∧ j = 8) ∨ q = 40 ∨ (q = 41 ∧ j = 0) ∨ (q = 41 ∧ j = 1) ∨ (q = 41 ∧ j = 2) ∨ q = (t + 13) ∨ q = (t + 14) ∨ (q = (t + 11) ∧ j = 1)) ∨ I238 q j = I q j) → (∀ q j : Nat, ((q = 23 ∧ j = 9) ∨ q = (t + 12)) ∨ J239 q j = J q j) → gc_LT I238 → ((I238 23 5 ≤ I238 23 6) ∧ (I238 23 7 = 5 ∨ I238 23 6 ≤ I238 23 1) ∧ (I238 23 5 ≤ I238 23 1) ∧ (I238 23 7 = 4 ∨ (I238 23 5 < I238 23 6 ∧ I238 23 5 < I238 23 1)) ∧ (I238 23 7 = 3 → 2 ≤ I238 23 6 - I238 23 5 ∧ I238 23 6 - I238 23 5 ≤ 14) ∧ (I238 23 1 = I 23 1) ∧ (I 23 5 ≤ I238 23 5) ∧ (I238 1 17 + I238 23 1 ≤ 1280 + I238 23 5) ∧ (I238 39 2 = (t : Int))) → gv_X (gc_E6 ws0 tb 4 (yX6_readPattern, cX6_readPattern, 6, (some .boolean)) kX6_readPattern) (gv_Q cX6_readPattern (some .boolean) sh (fun r h' => (∃ (I' : gr_I) (J' : gr_J), h' = gc_h sh I' J' A ∧ gc_Inv ro I' ∧ (∀ q j : Nat, ((q = 39 ∧ j = 3) ∨ (q = 39 ∧ j = 4) ∨ (q = 23 ∧ j = 5) ∨ (q = 23 ∧ j = 6) ∨ (q = 23 ∧ j = 7) ∨ (q = 23 ∧ j = 8) ∨ (q = 1 ∧ j = 17) ∨ (q = 1 ∧ j = 18) ∨ q = 20 ∨ (q = 39 ∧ j = 6) ∨ (q = 39 ∧ j = 8) ∨ q = 40 ∨ (q = 41 ∧ j = 0) ∨ (q = 41 ∧ j = 1) ∨ (q = 41 ∧ j = 2) ∨ q = (t + 13) ∨ q = (t + 14) ∨ (q = (t + 11) ∧ j = 1)) ∨ I' q j = I q j) ∧ (∀ q j : Nat, ((q = 23 ∧ j = 9) ∨ q = (t + 12)) ∨ J' q j = J q j) ∧ gc_LT I' ∧ (∃ z : Int, r = some (.inl z) ∧ 0 ≤ z ∧ z ≤ 1 ∧ (I' 23 5 ≤ I' 23 6) ∧ (I' 23 7 = 5 ∨ I' 23 6 ≤ I' 23 1) ∧ (I' 23 5 ≤ I' 23 1) ∧ (I' 23 7 = 4 ∨ (I' 23 5 < I' 23 6 ∧ I' 23 5 < I' 23 1)) ∧ (I' 23 7 = 3 → 2 ≤ I' 23 6 - I' 23 5 ∧ I' 23 6 - I' 23 5 ≤ 14) ∧ (I' 23 1 = I 23 1) ∧ (I 23 5 ≤ I' 23 5) ∧ (I' 1 17 + I' 23 1 ≤ 1280 + I' 23 5))))) (177, [(0, .inr (.inr (some 39))), (1, .inr (.inl v1_13))], [.inr (.inr (some 39))], sh, gc_h sh I238 J239 A) := by
            intro I238 J239 hI238 FI238 FJ239 KLT_I238 m_240
            clear hv3_26_110 e0_110 e1_110 e2_110 e3_110 e4_110 e5_110 e6_110 e7_110 e8_110 f111 f112 f113 f114 f115 f116 f117 f118 f119 f120 hv3_26 hv4_26 hv5_26 e0_26 e1_26 e2_26 e3_26 e4_26 e5_26 e6_26 e7_26 e8_26 f27 f28 f29 f30 f31 f32 f33 f34 f35 f36
            obtain ⟨e0_240, e1_240, e2_240, e3_240, e4_240, e5_240, e6_240, e7_240, e8_240⟩ := m_240
            have f241 := (show 0 ≤ I238 23 1 ∧ I238 23 1 ≤ 1000 from gc_in hI238 R_23 rfl rfl)
            have f242 := (show 0 ≤ I238 23 5 ∧ I238 23 5 ≤ 1000 from gc_in hI238 R_23 rfl rfl)
            have f243 := (show 0 ≤ I238 23 6 ∧ I238 23 6 ≤ 1001 from gc_in hI238 R_23 rfl rfl)
            have f244 := (show 0 ≤ I238 23 7 ∧ I238 23 7 ≤ 125 from gc_in hI238 R_23 rfl rfl)
            have f245 := (show 0 ≤ I238 1 17 ∧ I238 1 17 ≤ 12000 from gc_in hI238 R_1 rfl rfl)
            have f246 := (show 0 ≤ I238 (t + 11) 1 ∧ I238 (t + 11) 1 ≤ 24 from gc_in hI238 R_t_11 rfl rfl)
            have f247 := (show (-2147483648) ≤ I238 41 0 ∧ I238 41 0 ≤ 2147483647 from gc_in hI238 R_41 rfl rfl)
            have f248 := (show (-2147483648) ≤ I238 41 1 ∧ I238 41 1 ≤ 2147483647 from gc_in hI238 R_41 rfl rfl)
            have f249 := (show (-2147483648) ≤ I238 41 2 ∧ I238 41 2 ≤ 2147483647 from gc_in hI238 R_41 rfl rfl)
            have f250 := (show (-1) ≤ I238 39 2 ∧ I238 39 2 ≤ 999999 from gc_in hI238 R_39 rfl rfl)
            refine gv_run 2 true hD (pc' := 182) (lv' := [(0, .inr (.inr (some 39))), (1, .inr (.inl v1_13))]) (st' := [.inl 1, .inr (.inr (some 39))]) (h' := gc_h sh I238 J239 A) (C := ((True ∧ True) ∧ True)) rfl ⟨⟨trivial, trivial⟩, trivial⟩ ?_
            exact L182 I238 J239 1 hI238 FI238 FJ239 KLT_I238 (by omega)
          refine gv_run 2 true hD (pc' := 153) (lv' := [(0, .inr (.inr (some 39))), (1, .inr (.inl v1_13)), (3, .inl v3_26)]) (st' := [.inl 125, .inr (.inr (some 39))]) (h' := gc_h sh I24 J25 A) (C := ((True ∧ True) ∧ True)) rfl ⟨⟨trivial, trivial⟩, trivial⟩ ?_
          obtain ⟨r251, h251, E251, P251⟩ := d_X6_take (ws0 := ws0) (tb := tb) hws htb sh ro I24 J25 A hI24  125 hb   ⟨by omega, by omega⟩ (by omega) (by omega) (by omega) (by omega) (by omega) (by omega) KLT_I24
          obtain ⟨I252, J253, rfl, hI252, g251, k251, KLT_I252, ⟨z251, rfl, q251⟩⟩ := P251
          have FI252 := gc_frc (W := fun q j => (q = 39 ∧ j = 3) ∨ (q = 39 ∧ j = 4) ∨ (q = 23 ∧ j = 5) ∨ (q = 23 ∧ j = 6) ∨ (q = 23 ∧ j = 7) ∨ (q = 23 ∧ j = 8) ∨ (q = 1 ∧ j = 17) ∨ (q = 1 ∧ j = 18) ∨ q = 20 ∨ (q = 39 ∧ j = 6) ∨ (q = 39 ∧ j = 8) ∨ q = 40 ∨ (q = 41 ∧ j = 0) ∨ (q = 41 ∧ j = 1) ∨ (q = 41 ∧ j = 2) ∨ q = (t + 13) ∨ q = (t + 14) ∨ (q = (t + 11) ∧ j = 1)) (V := fun q j => (q = 39 ∧ j = 3) ∨ (q = 39 ∧ j = 4) ∨ (q = 23 ∧ j = 5) ∨ (q = 23 ∧ j = 6) ∨ (q = 23 ∧ j = 7) ∨ (q = 23 ∧ j = 8)) FI24 (fun q j h => (h.elim (fun h => (Or.inl h)) (fun h => (h.elim (fun h => (Or.inr (Or.inl h))) (fun h => (h.elim (fun h => (Or.inr (Or.inr (Or.inl h)))) (fun h => (h.elim (fun h => (Or.inr (Or.inr (Or.inr (Or.inl h))))) (fun h => (h.elim (fun h => (Or.inr (Or.inr (Or.inr (Or.inr (Or.inl h)))))) (fun h => (Or.inr (Or.inr (Or.inr (Or.inr (Or.inr (Or.inl h))))))))))))))))) g251
          have FJ253 := gc_frc (W := fun q j => (q = 23 ∧ j = 9) ∨ q = (t + 12)) (V := fun q j => (q = 23 ∧ j = 9)) FJ25 (fun q j h => (Or.inl h)) k251
          have t254 := (g251 23 1).resolve_left (by omega)
          have t255 := (g251 1 17).resolve_left (by omega)
          have t256 := (g251 (t + 11) 1).resolve_left (by omega)
          have t257 := (g251 41 0).resolve_left (by omega)
          have t258 := (g251 41 1).resolve_left (by omega)
          have t259 := (g251 41 2).resolve_left (by omega)
          have t260 := (g251 39 2).resolve_left (by omega)
          have f261 := (show 0 ≤ I252 23 1 ∧ I252 23 1 ≤ 1000 from gc_in hI252 R_23 rfl rfl)
          have f262 := (show 0 ≤ I252 23 5 ∧ I252 23 5 ≤ 1000 from gc_in hI252 R_23 rfl rfl)
          have f263 := (show 0 ≤ I252 23 6 ∧ I252 23 6 ≤ 1001 from gc_in hI252 R_23 rfl rfl)
          have f264 := (show 0 ≤ I252 23 7 ∧ I252 23 7 ≤ 125 from gc_in hI252 R_23 rfl rfl)
          have f265 := (show 0 ≤ I252 1 17 ∧ I252 1 17 ≤ 12000 from gc_in hI252 R_1 rfl rfl)
          have f266 := (show 0 ≤ I252 (t + 11) 1 ∧ I252 (t + 11) 1 ≤ 24 from gc_in hI252 R_t_11 rfl rfl)
          have f267 := (show (-2147483648) ≤ I252 41 0 ∧ I252 41 0 ≤ 2147483647 from gc_in hI252 R_41 rfl rfl)
          have f268 := (show (-2147483648) ≤ I252 41 1 ∧ I252 41 1 ≤ 2147483647 from gc_in hI252 R_41 rfl rfl)
          have f269 := (show (-2147483648) ≤ I252 41 2 ∧ I252 41 2 ≤ 2147483647 from gc_in hI252 R_41 rfl rfl)
          have f270 := (show (-1) ≤ I252 39 2 ∧ I252 39 2 ≤ 999999 from gc_in hI252 R_39 rfl rfl)
          refine gv_callV hD rfl (As := [.inl 125]) (st := []) rfl B_39 S_39 rfl (gc_lV6 hws rfl) (Nat.le_of_ble_eq_true rfl) (gz_Ev_mono (d := 3) (by decide) E251) ?_
          show gv_X _ _ (156, [(0, .inr (.inr (some 39))), (1, .inr (.inl v1_13)), (3, .inl v3_26)], [.inl z251], sh, gc_h sh I252 J253 A)
          refine gv_if_eq (t := 188) hD rfl rfl ⟨by omega, by omega⟩ (fun c271 => ?_) (fun c271 => ?_)
          · show gv_X _ _ (188, [(0, .inr (.inr (some 39))), (1, .inr (.inl v1_13)), (3, .inl v3_26)], [], sh, gc_h sh I252 J253 A)
            refine gv_pick [] rfl ?_
            exact L188 I252 J253 hI252 FI252 FJ253 KLT_I252 (by omega)
          · show gv_X _ _ (159, [(0, .inr (.inr (some 39))), (1, .inr (.inl v1_13)), (3, .inl v3_26)], [], sh, gc_h sh I252 J253 A)
            refine gv_run 2 true hD (pc' := 161) (lv' := [(0, .inr (.inr (some 39))), (1, .inr (.inl v1_13)), (3, .inl v3_26)]) (st' := [.inl v3_26, .inr (.inr (some 39))]) (h' := gc_h sh I252 J253 A) (C := ((True ∧ True) ∧ True)) rfl ⟨⟨trivial, trivial⟩, trivial⟩ ?_
            refine gv_if_ne (t := 177) hD rfl rfl ⟨by omega, by omega⟩ (fun c272 => ?_) (fun c272 => ?_)
            · show gv_X _ _ (177, [(0, .inr (.inr (some 39))), (1, .inr (.inl v1_13)), (3, .inl v3_26)], [.inr (.inr (some 39))], sh, gc_h sh I252 J253 A)
              refine gv_pick [0, 1] rfl ?_
              exact L177 I252 J253 hI252 FI252 FJ253 KLT_I252 (by omega)
            · show gv_X _ _ (164, [(0, .inr (.inr (some 39))), (1, .inr (.inl v1_13)), (3, .inl v3_26)], [.inr (.inr (some 39))], sh, gc_h sh I252 J253 A)
              refine gv_run 1 true hD (pc' := 165) (lv' := [(0, .inr (.inr (some 39))), (1, .inr (.inl v1_13)), (3, .inl v3_26)]) (st' := [.inr (.inr (some 39)), .inr (.inr (some 39))]) (h' := gc_h sh I252 J253 A) (C := (True ∧ True)) rfl ⟨trivial, trivial⟩ ?_
              refine gv_get hD rfl rfl S_39 ⟨by decide, B_39⟩ (gc_h5 (t := t) S_39 rfl (by omega)) ?_
              show gv_X _ _ (168, [(0, .inr (.inr (some 39))), (1, .inr (.inl v1_13)), (3, .inl v3_26)], [.inr (.inr (some t)), .inr (.inr (some 39))], sh, gc_h sh I252 J253 A)
              refine gv_get hD rfl rfl S_t ⟨by decide, B_t⟩ (gc_hA S_t rfl A_t_8) ?_
              show gv_X _ _ (171, [(0, .inr (.inr (some 39))), (1, .inr (.inl v1_13)), (3, .inl v3_26)], [.inr (.inr (some (t + 11))), .inr (.inr (some 39))], sh, gc_h sh I252 J253 A)
              obtain ⟨r273, h273, E273, P273⟩ := d_X4_isFull (ws0 := ws0) (tb := tb) hws htb sh ro I252 J253 A hI252 (t + 11) 24 8  h_t_11     
              obtain ⟨rfl, ⟨z273, rfl, q273⟩⟩ := P273
              refine gv_callV hD rfl (As := []) (st := [.inr (.inr (some 39))]) rfl B_t_11 S_t_11 rfl (gc_lV6 hws rfl) (Nat.le_of_ble_eq_true rfl) (gz_Ev_mono (d := 1) (by decide) E273) ?_
              show gv_X _ _ (174, [(0, .inr (.inr (some 39))), (1, .inr (.inl v1_13)), (3, .inl v3_26)], [.inl z273, .inr (.inr (some 39))], sh, gc_h sh I252 J253 A)
              refine gv_if_eq (t := 181) hD rfl rfl ⟨by omega, by omega⟩ (fun c274 => ?_) (fun c274 => ?_)
              · show gv_X _ _ (181, [(0, .inr (.inr (some 39))), (1, .inr (.inl v1_13)), (3, .inl v3_26)], [.inr (.inr (some 39))], sh, gc_h sh I252 J253 A)
                refine gv_run 1 true hD (pc' := 182) (lv' := [(0, .inr (.inr (some 39))), (1, .inr (.inl v1_13)), (3, .inl v3_26)]) (st' := [.inl 0, .inr (.inr (some 39))]) (h' := gc_h sh I252 J253 A) (C := (True ∧ True)) rfl ⟨trivial, trivial⟩ ?_
                refine gv_pick [0, 1] rfl ?_
                exact L182 I252 J253 0 hI252 FI252 FJ253 KLT_I252 (by omega)
              · show gv_X _ _ (177, [(0, .inr (.inr (some 39))), (1, .inr (.inl v1_13)), (3, .inl v3_26)], [.inr (.inr (some 39))], sh, gc_h sh I252 J253 A)
                refine gv_pick [0, 1] rfl ?_
                exact L177 I252 J253 hI252 FI252 FJ253 KLT_I252 (by omega)
        refine gv_run 2 true hD (pc' := 79) (lv' := [(0, .inr (.inr (some 39))), (1, .inr (.inl v1_13)), (3, .inl v3_26), (4, .inl v4_26), (5, .inl v5_26)]) (st' := [.inl 1000, .inl v5_26]) (h' := gc_h sh I24 J25 A) (C := ((True ∧ True) ∧ True)) rfl ⟨⟨trivial, trivial⟩, trivial⟩ ?_
        refine gv_icmp_ge (t := 150) hD rfl rfl ⟨⟨by omega, by omega⟩, ⟨by omega, by omega⟩⟩ (fun c275 => ?_) (fun c275 => ?_)
        · show gv_X _ _ (150, [(0, .inr (.inr (some 39))), (1, .inr (.inl v1_13)), (3, .inl v3_26), (4, .inl v4_26), (5, .inl v5_26)], [], sh, gc_h sh I24 J25 A)
          refine gv_pick [0, 1, 2] rfl ?_
          exact L150 (by omega)
        · show gv_X _ _ (82, [(0, .inr (.inr (some 39))), (1, .inr (.inl v1_13)), (3, .inl v3_26), (4, .inl v4_26), (5, .inl v5_26)], [], sh, gc_h sh I24 J25 A)
          refine gv_run 1 true hD (pc' := 84) (lv' := [(0, .inr (.inr (some 39))), (1, .inr (.inl v1_13)), (3, .inl v3_26), (4, .inl v4_26), (5, .inl v5_26)]) (st' := [.inl v4_26]) (h' := gc_h sh I24 J25 A) (C := (True ∧ True)) rfl ⟨trivial, trivial⟩ ?_
          refine gv_if_eq (t := 150) hD rfl rfl ⟨by omega, by omega⟩ (fun c276 => ?_) (fun c276 => ?_)
          · show gv_X _ _ (150, [(0, .inr (.inr (some 39))), (1, .inr (.inl v1_13)), (3, .inl v3_26), (4, .inl v4_26), (5, .inl v5_26)], [], sh, gc_h sh I24 J25 A)
            refine gv_pick [0, 1, 2] rfl ?_
            exact L150 (by omega)
          · show gv_X _ _ (87, [(0, .inr (.inr (some 39))), (1, .inr (.inl v1_13)), (3, .inl v3_26), (4, .inl v4_26), (5, .inl v5_26)], [], sh, gc_h sh I24 J25 A)
            refine gv_run 1 true hD (pc' := 88) (lv' := [(0, .inr (.inr (some 39))), (1, .inr (.inl v1_13)), (3, .inl v3_26), (4, .inl v4_26), (5, .inl v5_26)]) (st' := [.inr (.inr (some 39))]) (h' := gc_h sh I24 J25 A) (C := (True ∧ True)) rfl ⟨trivial, trivial⟩ ?_
            obtain ⟨r277, h277, E277, P277⟩ := d_X6_readCell (ws0 := ws0) (tb := tb) hws htb sh ro I24 J25 A hI24  t  hb  h_t G_t   (by omega) (by omega) (by omega) (by omega) (by omega) (by omega) (by omega) KLT_I24
            obtain ⟨I278, J279, rfl, hI278, g277, k277, KLT_I278, ⟨z277, rfl, q277⟩⟩ := P277
            have FI278 := gc_frc (W := fun q j => (q = 39 ∧ j = 3) ∨ (q = 39 ∧ j = 4) ∨ (q = 23 ∧ j = 5) ∨ (q = 23 ∧ j = 6) ∨ (q = 23 ∧ j = 7) ∨ (q = 23 ∧ j = 8) ∨ (q = 1 ∧ j = 17) ∨ (q = 1 ∧ j = 18) ∨ q = 20 ∨ (q = 39 ∧ j = 6) ∨ (q = 39 ∧ j = 8) ∨ q = 40 ∨ (q = 41 ∧ j = 0) ∨ (q = 41 ∧ j = 1) ∨ (q = 41 ∧ j = 2) ∨ q = (t + 13) ∨ q = (t + 14) ∨ (q = (t + 11) ∧ j = 1)) (V := fun q j => (q = 39 ∧ j = 3) ∨ (q = 39 ∧ j = 4) ∨ (q = 23 ∧ j = 5) ∨ (q = 23 ∧ j = 6) ∨ (q = 23 ∧ j = 7) ∨ (q = 23 ∧ j = 8) ∨ (q = 1 ∧ j = 17) ∨ (q = 1 ∧ j = 18) ∨ q = 20 ∨ (q = 39 ∧ j = 6) ∨ (q = 41 ∧ j = 0) ∨ (q = 41 ∧ j = 1) ∨ (q = 41 ∧ j = 2)) FI24 (fun q j h => (h.elim (fun h => (Or.inl h)) (fun h => (h.elim (fun h => (Or.inr (Or.inl h))) (fun h => (h.elim (fun h => (Or.inr (Or.inr (Or.inl h)))) (fun h => (h.elim (fun h => (Or.inr (Or.inr (Or.inr (Or.inl h))))) (fun h => (h.elim (fun h => (Or.inr (Or.inr (Or.inr (Or.inr (Or.inl h)))))) (fun h => (h.elim (fun h => (Or.inr (Or.inr (Or.inr (Or.inr (Or.inr (Or.inl h))))))) (fun h => (h.elim (fun h => (Or.inr (Or.inr (Or.inr (Or.inr (Or.inr (Or.inr (Or.inl h)))))))) (fun h => (h.elim (fun h => (Or.inr (Or.inr (Or.inr (Or.inr (Or.inr (Or.inr (Or.inr (Or.inl h))))))))) (fun h => (h.elim (fun h => (Or.inr (Or.inr (Or.inr (Or.inr (Or.inr (Or.inr (Or.inr (Or.inr (Or.inl h)))))))))) (fun h => (h.elim (fun h => (Or.inr (Or.inr (Or.inr (Or.inr (Or.inr (Or.inr (Or.inr (Or.inr (Or.inr (Or.inl h))))))))))) (fun h => (h.elim (fun h => (Or.inr (Or.inr (Or.inr (Or.inr (Or.inr (Or.inr (Or.inr (Or.inr (Or.inr (Or.inr (Or.inr (Or.inr (Or.inl h)))))))))))))) (fun h => (h.elim (fun h => (Or.inr (Or.inr (Or.inr (Or.inr (Or.inr (Or.inr (Or.inr (Or.inr (Or.inr (Or.inr (Or.inr (Or.inr (Or.inr (Or.inl h))))))))))))))) (fun h => (Or.inr (Or.inr (Or.inr (Or.inr (Or.inr (Or.inr (Or.inr (Or.inr (Or.inr (Or.inr (Or.inr (Or.inr (Or.inr (Or.inr (Or.inl h)))))))))))))))))))))))))))))))))))))))) g277
            have FJ279 := gc_frc (W := fun q j => (q = 23 ∧ j = 9) ∨ q = (t + 12)) (V := fun q j => (q = 23 ∧ j = 9)) FJ25 (fun q j h => (Or.inl h)) k277
            have t280 := (g277 23 1).resolve_left (by omega)
            have t281 := (g277 (t + 11) 1).resolve_left (by omega)
            have t282 := (g277 39 2).resolve_left (by omega)
            have f283 := (show 0 ≤ I278 23 1 ∧ I278 23 1 ≤ 1000 from gc_in hI278 R_23 rfl rfl)
            have f284 := (show 0 ≤ I278 23 5 ∧ I278 23 5 ≤ 1000 from gc_in hI278 R_23 rfl rfl)
            have f285 := (show 0 ≤ I278 23 6 ∧ I278 23 6 ≤ 1001 from gc_in hI278 R_23 rfl rfl)
            have f286 := (show 0 ≤ I278 23 7 ∧ I278 23 7 ≤ 125 from gc_in hI278 R_23 rfl rfl)
            have f287 := (show 0 ≤ I278 1 17 ∧ I278 1 17 ≤ 12000 from gc_in hI278 R_1 rfl rfl)
            have f288 := (show 0 ≤ I278 (t + 11) 1 ∧ I278 (t + 11) 1 ≤ 24 from gc_in hI278 R_t_11 rfl rfl)
            have f289 := (show (-2147483648) ≤ I278 41 0 ∧ I278 41 0 ≤ 2147483647 from gc_in hI278 R_41 rfl rfl)
            have f290 := (show (-2147483648) ≤ I278 41 1 ∧ I278 41 1 ≤ 2147483647 from gc_in hI278 R_41 rfl rfl)
            have f291 := (show (-2147483648) ≤ I278 41 2 ∧ I278 41 2 ≤ 2147483647 from gc_in hI278 R_41 rfl rfl)
            have f292 := (show (-1) ≤ I278 39 2 ∧ I278 39 2 ≤ 999999 from gc_in hI278 R_39 rfl rfl)
            refine gv_callV hD rfl (As := []) (st := []) rfl B_39 S_39 rfl (gc_lV6 hws rfl) (Nat.le_of_ble_eq_true rfl) (gz_Ev_mono (d := 4) (by decide) E277) ?_
            show gv_X _ _ (91, [(0, .inr (.inr (some 39))), (1, .inr (.inl v1_13)), (3, .inl v3_26), (4, .inl v4_26), (5, .inl v5_26)], [.inl z277], sh, gc_h sh I278 J279 A)
            refine gv_if_ne (t := 96) hD rfl rfl ⟨by omega, by omega⟩ (fun c293 => ?_) (fun c293 => ?_)
            · show gv_X _ _ (96, [(0, .inr (.inr (some 39))), (1, .inr (.inl v1_13)), (3, .inl v3_26), (4, .inl v4_26), (5, .inl v5_26)], [], sh, gc_h sh I278 J279 A)
              refine gv_run 1 true hD (pc' := 97) (lv' := [(0, .inr (.inr (some 39))), (1, .inr (.inl v1_13)), (3, .inl v3_26), (4, .inl v4_26), (5, .inl v5_26)]) (st' := [.inl v3_26]) (h' := gc_h sh I278 J279 A) (C := (True ∧ True)) rfl ⟨trivial, trivial⟩ ?_
              refine gv_if_ne (t := 107) hD rfl rfl ⟨by omega, by omega⟩ (fun c294 => ?_) (fun c294 => ?_)
              · show gv_X _ _ (107, [(0, .inr (.inr (some 39))), (1, .inr (.inl v1_13)), (3, .inl v3_26), (4, .inl v4_26), (5, .inl v5_26)], [], sh, gc_h sh I278 J279 A)
                refine gv_pick [0, 1, 4] rfl ?_
                exact L107 I278 J279 hI278 FI278 FJ279 KLT_I278 (by omega)
              · show gv_X _ _ (100, [(0, .inr (.inr (some 39))), (1, .inr (.inl v1_13)), (3, .inl v3_26), (4, .inl v4_26), (5, .inl v5_26)], [], sh, gc_h sh I278 J279 A)
                refine gv_run 1 true hD (pc' := 101) (lv' := [(0, .inr (.inr (some 39))), (1, .inr (.inl v1_13)), (3, .inl v3_26), (4, .inl v4_26), (5, .inl v5_26)]) (st' := [.inr (.inr (some 39))]) (h' := gc_h sh I278 J279 A) (C := (True ∧ True)) rfl ⟨trivial, trivial⟩ ?_
                obtain ⟨r295, h295, E295, P295⟩ := d_X6_placeCell (ws0 := ws0) (tb := tb) hws htb sh ro I278 J279 A hI278   hb    (by omega) 
                obtain ⟨I296, J297, rfl, hI296, g295, k295, ⟨z295, rfl, q295⟩⟩ := P295
                have FI296 := gc_frc (W := fun q j => (q = 39 ∧ j = 3) ∨ (q = 39 ∧ j = 4) ∨ (q = 23 ∧ j = 5) ∨ (q = 23 ∧ j = 6) ∨ (q = 23 ∧ j = 7) ∨ (q = 23 ∧ j = 8) ∨ (q = 1 ∧ j = 17) ∨ (q = 1 ∧ j = 18) ∨ q = 20 ∨ (q = 39 ∧ j = 6) ∨ (q = 39 ∧ j = 8) ∨ q = 40 ∨ (q = 41 ∧ j = 0) ∨ (q = 41 ∧ j = 1) ∨ (q = 41 ∧ j = 2) ∨ q = (t + 13) ∨ q = (t + 14) ∨ (q = (t + 11) ∧ j = 1)) (V := fun q j => (q = 39 ∧ j = 8) ∨ q = 40) FI278 (fun q j h => (h.elim (fun h => (Or.inr (Or.inr (Or.inr (Or.inr (Or.inr (Or.inr (Or.inr (Or.inr (Or.inr (Or.inr (Or.inl h)))))))))))) (fun h => (Or.inr (Or.inr (Or.inr (Or.inr (Or.inr (Or.inr (Or.inr (Or.inr (Or.inr (Or.inr (Or.inr (Or.inl h))))))))))))))) g295
                have t298 := (g295 23 1).resolve_left (by omega)
                have t299 := (g295 23 5).resolve_left (by omega)
                have t300 := (g295 23 6).resolve_left (by omega)
                have t301 := (g295 23 7).resolve_left (by omega)
                have t302 := (g295 1 17).resolve_left (by omega)
                have t303 := (g295 (t + 11) 1).resolve_left (by omega)
                have t304 := (g295 41 0).resolve_left (by omega)
                have t305 := (g295 41 1).resolve_left (by omega)
                have t306 := (g295 41 2).resolve_left (by omega)
                have t307 := (g295 39 2).resolve_left (by omega)
                have f308 := (show 0 ≤ I296 23 1 ∧ I296 23 1 ≤ 1000 from gc_in hI296 R_23 rfl rfl)
                have f309 := (show 0 ≤ I296 23 5 ∧ I296 23 5 ≤ 1000 from gc_in hI296 R_23 rfl rfl)
                have f310 := (show 0 ≤ I296 23 6 ∧ I296 23 6 ≤ 1001 from gc_in hI296 R_23 rfl rfl)
                have f311 := (show 0 ≤ I296 23 7 ∧ I296 23 7 ≤ 125 from gc_in hI296 R_23 rfl rfl)
                have f312 := (show 0 ≤ I296 1 17 ∧ I296 1 17 ≤ 12000 from gc_in hI296 R_1 rfl rfl)
                have f313 := (show 0 ≤ I296 (t + 11) 1 ∧ I296 (t + 11) 1 ≤ 24 from gc_in hI296 R_t_11 rfl rfl)
                have f314 := (show (-2147483648) ≤ I296 41 0 ∧ I296 41 0 ≤ 2147483647 from gc_in hI296 R_41 rfl rfl)
                have f315 := (show (-2147483648) ≤ I296 41 1 ∧ I296 41 1 ≤ 2147483647 from gc_in hI296 R_41 rfl rfl)
                have f316 := (show (-2147483648) ≤ I296 41 2 ∧ I296 41 2 ≤ 2147483647 from gc_in hI296 R_41 rfl rfl)
                have f317 := (show (-1) ≤ I296 39 2 ∧ I296 39 2 ≤ 999999 from gc_in hI296 R_39 rfl rfl)
                obtain rfl : J279 = J297 := funext fun q => funext fun j => ((k295 q j).resolve_left id).symm
                have KLT_I296 := gc_LT_fr KLT_I278 ((g295 23 5).resolve_left (by omega)) ((g295 23 6).resolve_left (by omega)) ((g295 23 7).resolve_left (by omega)) (fun k => (g295 24 k).resolve_left (by omega))
                refine gv_callV hD rfl (As := []) (st := []) rfl B_39 S_39 rfl (gc_lV6 hws rfl) (Nat.le_of_ble_eq_true rfl) (gz_Ev_mono (d := 2) (by decide) E295) ?_
                show gv_X _ _ (104, [(0, .inr (.inr (some 39))), (1, .inr (.inl v1_13)), (3, .inl v3_26), (4, .inl v4_26), (5, .inl v5_26)], [.inl z295], sh, gc_h sh I296 J279 A)
                refine gv_if_ne (t := 111) hD rfl rfl ⟨by omega, by omega⟩ (fun c318 => ?_) (fun c318 => ?_)
                · show gv_X _ _ (111, [(0, .inr (.inr (some 39))), (1, .inr (.inl v1_13)), (3, .inl v3_26), (4, .inl v4_26), (5, .inl v5_26)], [], sh, gc_h sh I296 J279 A)
                  refine gv_run 1 true hD (pc' := 112) (lv' := [(0, .inr (.inr (some 39))), (1, .inr (.inl v1_13)), (3, .inl v3_26), (4, .inl v4_26), (5, .inl v5_26)]) (st' := [.inl 0]) (h' := gc_h sh I296 J279 A) (C := (True ∧ True)) rfl ⟨trivial, trivial⟩ ?_
                  refine gv_pick [0, 1, 4] rfl ?_
                  exact L112 I296 J279 0 hI296 FI296 FJ279 KLT_I296 (by omega)
                · show gv_X _ _ (107, [(0, .inr (.inr (some 39))), (1, .inr (.inl v1_13)), (3, .inl v3_26), (4, .inl v4_26), (5, .inl v5_26)], [], sh, gc_h sh I296 J279 A)
                  refine gv_pick [0, 1, 4] rfl ?_
                  exact L107 I296 J279 hI296 FI296 FJ279 KLT_I296 (by omega)
            · show gv_X _ _ (94, [(0, .inr (.inr (some 39))), (1, .inr (.inl v1_13)), (3, .inl v3_26), (4, .inl v4_26), (5, .inl v5_26)], [], sh, gc_h sh I278 J279 A)
              refine gv_run 1 true hD (pc' := 95) (lv' := [(0, .inr (.inr (some 39))), (1, .inr (.inl v1_13)), (3, .inl v3_26), (4, .inl v4_26), (5, .inl v5_26)]) (st' := [.inl 0]) (h' := gc_h sh I278 J279 A) (C := (True ∧ True)) rfl ⟨trivial, trivial⟩ ?_
              exact gv_zret hD rfl (by omega) ⟨I278, J279, rfl, hI278, FI278, FJ279, KLT_I278, ⟨_, rfl, by omega⟩⟩
    refine gv_run 2 true hD (pc' := 58) (lv' := [(0, .inr (.inr (some 39))), (1, .inr (.inl v1_13))]) (st' := [.inl 123, .inr (.inr (some 39))]) (h' := gc_h sh I11 J12 A) (C := ((True ∧ True) ∧ True)) rfl ⟨⟨trivial, trivial⟩, trivial⟩ ?_
    obtain ⟨r319, h319, E319, P319⟩ := d_X6_take (ws0 := ws0) (tb := tb) hws htb sh ro I11 J12 A hI11  123 hb   ⟨by omega, by omega⟩ (by omega) (by omega) (by omega) (by omega) (by omega) (by omega) KLT_I11
    obtain ⟨I320, J321, rfl, hI320, g319, k319, KLT_I320, ⟨z319, rfl, q319⟩⟩ := P319
    have FI320 := gc_frc (W := fun q j => (q = 39 ∧ j = 3) ∨ (q = 39 ∧ j = 4) ∨ (q = 23 ∧ j = 5) ∨ (q = 23 ∧ j = 6) ∨ (q = 23 ∧ j = 7) ∨ (q = 23 ∧ j = 8) ∨ (q = 1 ∧ j = 17) ∨ (q = 1 ∧ j = 18) ∨ q = 20 ∨ (q = 39 ∧ j = 6) ∨ (q = 39 ∧ j = 8) ∨ q = 40 ∨ (q = 41 ∧ j = 0) ∨ (q = 41 ∧ j = 1) ∨ (q = 41 ∧ j = 2) ∨ q = (t + 13) ∨ q = (t + 14) ∨ (q = (t + 11) ∧ j = 1)) (V := fun q j => (q = 39 ∧ j = 3) ∨ (q = 39 ∧ j = 4) ∨ (q = 23 ∧ j = 5) ∨ (q = 23 ∧ j = 6) ∨ (q = 23 ∧ j = 7) ∨ (q = 23 ∧ j = 8)) FI11 (fun q j h => (h.elim (fun h => (Or.inl h)) (fun h => (h.elim (fun h => (Or.inr (Or.inl h))) (fun h => (h.elim (fun h => (Or.inr (Or.inr (Or.inl h)))) (fun h => (h.elim (fun h => (Or.inr (Or.inr (Or.inr (Or.inl h))))) (fun h => (h.elim (fun h => (Or.inr (Or.inr (Or.inr (Or.inr (Or.inl h)))))) (fun h => (Or.inr (Or.inr (Or.inr (Or.inr (Or.inr (Or.inl h))))))))))))))))) g319
    have FJ321 := gc_frc (W := fun q j => (q = 23 ∧ j = 9) ∨ q = (t + 12)) (V := fun q j => (q = 23 ∧ j = 9)) FJ12 (fun q j h => (Or.inl h)) k319
    have t322 := (g319 23 1).resolve_left (by omega)
    have t323 := (g319 1 17).resolve_left (by omega)
    have t324 := (g319 (t + 11) 1).resolve_left (by omega)
    have t325 := (g319 41 0).resolve_left (by omega)
    have t326 := (g319 41 1).resolve_left (by omega)
    have t327 := (g319 41 2).resolve_left (by omega)
    have t328 := (g319 39 2).resolve_left (by omega)
    have f329 := (show 0 ≤ I320 23 1 ∧ I320 23 1 ≤ 1000 from gc_in hI320 R_23 rfl rfl)
    have f330 := (show 0 ≤ I320 23 5 ∧ I320 23 5 ≤ 1000 from gc_in hI320 R_23 rfl rfl)
    have f331 := (show 0 ≤ I320 23 6 ∧ I320 23 6 ≤ 1001 from gc_in hI320 R_23 rfl rfl)
    have f332 := (show 0 ≤ I320 23 7 ∧ I320 23 7 ≤ 125 from gc_in hI320 R_23 rfl rfl)
    have f333 := (show 0 ≤ I320 1 17 ∧ I320 1 17 ≤ 12000 from gc_in hI320 R_1 rfl rfl)
    have f334 := (show 0 ≤ I320 (t + 11) 1 ∧ I320 (t + 11) 1 ≤ 24 from gc_in hI320 R_t_11 rfl rfl)
    have f335 := (show (-2147483648) ≤ I320 41 0 ∧ I320 41 0 ≤ 2147483647 from gc_in hI320 R_41 rfl rfl)
    have f336 := (show (-2147483648) ≤ I320 41 1 ∧ I320 41 1 ≤ 2147483647 from gc_in hI320 R_41 rfl rfl)
    have f337 := (show (-2147483648) ≤ I320 41 2 ∧ I320 41 2 ≤ 2147483647 from gc_in hI320 R_41 rfl rfl)
    have f338 := (show (-1) ≤ I320 39 2 ∧ I320 39 2 ≤ 999999 from gc_in hI320 R_39 rfl rfl)
    refine gv_callV hD rfl (As := [.inl 123]) (st := []) rfl B_39 S_39 rfl (gc_lV6 hws rfl) (Nat.le_of_ble_eq_true rfl) (gz_Ev_mono (d := 3) (by decide) E319) ?_
    show gv_X _ _ (61, [(0, .inr (.inr (some 39))), (1, .inr (.inl v1_13))], [.inl z319], sh, gc_h sh I320 J321 A)
    refine gv_if_ne (t := 66) hD rfl rfl ⟨by omega, by omega⟩ (fun c339 => ?_) (fun c339 => ?_)
    · show gv_X _ _ (66, [(0, .inr (.inr (some 39))), (1, .inr (.inl v1_13))], [], sh, gc_h sh I320 J321 A)
      refine gv_run 6 true hD (pc' := 74) (lv' := [(5, .inl 0), (4, .inl 1), (3, .inl 0), (0, .inr (.inr (some 39))), (1, .inr (.inl v1_13))]) (st' := []) (h' := gc_h sh I320 J321 A) (C := ((((((True ∧ True) ∧ True) ∧ True) ∧ True) ∧ True) ∧ True)) rfl ⟨⟨⟨⟨⟨⟨trivial, trivial⟩, trivial⟩, trivial⟩, trivial⟩, trivial⟩, trivial⟩ ?_
      refine gv_pick [3, 4, 2, 1, 0] rfl ?_
      exact L74 _ I320 J321 0 1 0 (Nat.lt_succ_self _) hI320 FI320 FJ321 KLT_I320 (by omega)
    · show gv_X _ _ (64, [(0, .inr (.inr (some 39))), (1, .inr (.inl v1_13))], [], sh, gc_h sh I320 J321 A)
      refine gv_run 1 true hD (pc' := 65) (lv' := [(0, .inr (.inr (some 39))), (1, .inr (.inl v1_13))]) (st' := [.inl 0]) (h' := gc_h sh I320 J321 A) (C := (True ∧ True)) rfl ⟨trivial, trivial⟩ ?_
      exact gv_zret hD rfl (by omega) ⟨I320, J321, rfl, hI320, FI320, FJ321, KLT_I320, ⟨_, rfl, by omega⟩⟩
  refine gv_run 2 true hD (pc' := 2) (lv' := [(0, .inr (.inr (some 39)))]) (st' := [.inr (.inr (some 39)), .inr (.inr (some 39))]) (h' := gc_h sh I J A) (C := ((True ∧ True) ∧ True)) rfl ⟨⟨trivial, trivial⟩, trivial⟩ ?_
  refine gv_get hD rfl rfl S_39 ⟨by decide, B_39⟩ (gc_h5 (t := t) S_39 rfl (by omega)) ?_
  show gv_X _ _ (5, [(0, .inr (.inr (some 39)))], [.inr (.inr (some t)), .inr (.inr (some 39))], sh, gc_h sh I J A)
  refine gv_get hD rfl rfl S_t ⟨by decide, B_t⟩ (gc_hA S_t rfl A_t_8) ?_
  show gv_X _ _ (8, [(0, .inr (.inr (some 39)))], [.inr (.inr (some (t + 11))), .inr (.inr (some 39))], sh, gc_h sh I J A)
  obtain ⟨r340, h340, E340, P340⟩ := d_X6_needNew (ws0 := ws0) (tb := tb) hws htb sh ro I J A hI  24 8 (t + 11) hb h_t_11    
  obtain ⟨I341, J342, rfl, hI341, g340, k340, ⟨z340, rfl, q340⟩⟩ := P340
  have FI341 := gc_frc (W := fun q j => (q = 39 ∧ j = 3) ∨ (q = 39 ∧ j = 4) ∨ (q = 23 ∧ j = 5) ∨ (q = 23 ∧ j = 6) ∨ (q = 23 ∧ j = 7) ∨ (q = 23 ∧ j = 8) ∨ (q = 1 ∧ j = 17) ∨ (q = 1 ∧ j = 18) ∨ q = 20 ∨ (q = 39 ∧ j = 6) ∨ (q = 39 ∧ j = 8) ∨ q = 40 ∨ (q = 41 ∧ j = 0) ∨ (q = 41 ∧ j = 1) ∨ (q = 41 ∧ j = 2) ∨ q = (t + 13) ∨ q = (t + 14) ∨ (q = (t + 11) ∧ j = 1)) (V := fun q j => (q = 39 ∧ j = 3) ∨ (q = 39 ∧ j = 4)) FI (fun q j h => (h.elim (fun h => (Or.inl h)) (fun h => (Or.inr (Or.inl h))))) g340
  have t343 := (g340 23 1).resolve_left (by omega)
  have t344 := (g340 23 5).resolve_left (by omega)
  have t345 := (g340 23 6).resolve_left (by omega)
  have t346 := (g340 23 7).resolve_left (by omega)
  have t347 := (g340 1 17).resolve_left (by omega)
  have t348 := (g340 (t + 11) 1).resolve_left (by omega)
  have t349 := (g340 41 0).resolve_left (by omega)
  have t350 := (g340 41 1).resolve_left (by omega)
  have t351 := (g340 41 2).resolve_left (by omega)
  have t352 := (g340 39 2).resolve_left (by omega)
  have f353 := (show 0 ≤ I341 23 1 ∧ I341 23 1 ≤ 1000 from gc_in hI341 R_23 rfl rfl)
  have f354 := (show 0 ≤ I341 23 5 ∧ I341 23 5 ≤ 1000 from gc_in hI341 R_23 rfl rfl)
  have f355 := (show 0 ≤ I341 23 6 ∧ I341 23 6 ≤ 1001 from gc_in hI341 R_23 rfl rfl)
  have f356 := (show 0 ≤ I341 23 7 ∧ I341 23 7 ≤ 125 from gc_in hI341 R_23 rfl rfl)
  have f357 := (show 0 ≤ I341 1 17 ∧ I341 1 17 ≤ 12000 from gc_in hI341 R_1 rfl rfl)
  have f358 := (show 0 ≤ I341 (t + 11) 1 ∧ I341 (t + 11) 1 ≤ 24 from gc_in hI341 R_t_11 rfl rfl)
  have f359 := (show (-2147483648) ≤ I341 41 0 ∧ I341 41 0 ≤ 2147483647 from gc_in hI341 R_41 rfl rfl)
  have f360 := (show (-2147483648) ≤ I341 41 1 ∧ I341 41 1 ≤ 2147483647 from gc_in hI341 R_41 rfl rfl)
  have f361 := (show (-2147483648) ≤ I341 41 2 ∧ I341 41 2 ≤ 2147483647 from gc_in hI341 R_41 rfl rfl)
  have f362 := (show (-1) ≤ I341 39 2 ∧ I341 39 2 ≤ 999999 from gc_in hI341 R_39 rfl rfl)
  obtain rfl : J = J342 := funext fun q => funext fun j => ((k340 q j).resolve_left id).symm
  have KLT_I341 := gc_LT_fr KLT_I ((g340 23 5).resolve_left (by omega)) ((g340 23 6).resolve_left (by omega)) ((g340 23 7).resolve_left (by omega)) (fun k => (g340 24 k).resolve_left (by omega))
  refine gv_callV hD rfl (As := [.inr (.inr (some (t + 11)))]) (st := []) rfl B_39 S_39 rfl (gc_lV6 hws rfl) (Nat.le_of_ble_eq_true rfl) (gz_Ev_mono (d := 3) (by decide) E340) ?_
  show gv_X _ _ (11, [(0, .inr (.inr (some 39)))], [.inl z340], sh, gc_h sh I341 J A)
  refine gv_if_ne (t := 16) hD rfl rfl ⟨by omega, by omega⟩ (fun c363 => ?_) (fun c363 => ?_)
  · show gv_X _ _ (16, [(0, .inr (.inr (some 39)))], [], sh, gc_h sh I341 J A)
    refine gv_run 1 true hD (pc' := 17) (lv' := [(0, .inr (.inr (some 39)))]) (st' := [.inr (.inr (some 39))]) (h' := gc_h sh I341 J A) (C := (True ∧ True)) rfl ⟨trivial, trivial⟩ ?_
    refine gv_get hD rfl rfl S_39 ⟨by decide, B_39⟩ (gc_hA S_39 rfl A_39_1) ?_
    show gv_X _ _ (20, [(0, .inr (.inr (some 39)))], [.inr (.inr (some 23))], sh, gc_h sh I341 J A)
    refine gv_get hD rfl rfl S_23 ⟨by decide, B_23⟩ (gc_hJ S_23 rfl) ?_
    show gv_X _ _ (23, [(0, .inr (.inr (some 39)))], [.inr (.inl (J 23 9))], sh, gc_h sh I341 J A)
    refine gv_run 2 true hD (pc' := 25) (lv' := [(1, .inr (.inl (J 23 9))), (0, .inr (.inr (some 39)))]) (st' := [.inr (.inr (some 39))]) (h' := gc_h sh I341 J A) (C := ((True ∧ True) ∧ True)) rfl ⟨⟨trivial, trivial⟩, trivial⟩ ?_
    refine gv_get hD rfl rfl S_39 ⟨by decide, B_39⟩ (gc_hA S_39 rfl A_39_1) ?_
    show gv_X _ _ (28, [(1, .inr (.inl (J 23 9))), (0, .inr (.inr (some 39)))], [.inr (.inr (some 23))], sh, gc_h sh I341 J A)
    obtain ⟨r364, h364, E364, P364⟩ := d_X9_advance (ws0 := ws0) (tb := tb) hws htb sh ro I341 J A hI341 23  (gc_b23 hb)    (by omega) 
    obtain ⟨I365, J366, rfl, hI365, g364, k364, ⟨rfl, q364⟩⟩ := P364
    have FI365 := gc_frc (W := fun q j => (q = 39 ∧ j = 3) ∨ (q = 39 ∧ j = 4) ∨ (q = 23 ∧ j = 5) ∨ (q = 23 ∧ j = 6) ∨ (q = 23 ∧ j = 7) ∨ (q = 23 ∧ j = 8) ∨ (q = 1 ∧ j = 17) ∨ (q = 1 ∧ j = 18) ∨ q = 20 ∨ (q = 39 ∧ j = 6) ∨ (q = 39 ∧ j = 8) ∨ q = 40 ∨ (q = 41 ∧ j = 0) ∨ (q = 41 ∧ j = 1) ∨ (q = 41 ∧ j = 2) ∨ q = (t + 13) ∨ q = (t + 14) ∨ (q = (t + 11) ∧ j = 1)) (V := fun q j => (q = 23 ∧ j = 5) ∨ (q = 23 ∧ j = 6) ∨ (q = 23 ∧ j = 7) ∨ (q = 23 ∧ j = 8)) FI341 (fun q j h => (h.elim (fun h => (Or.inr (Or.inr (Or.inl h)))) (fun h => (h.elim (fun h => (Or.inr (Or.inr (Or.inr (Or.inl h))))) (fun h => (h.elim (fun h => (Or.inr (Or.inr (Or.inr (Or.inr (Or.inl h)))))) (fun h => (Or.inr (Or.inr (Or.inr (Or.inr (Or.inr (Or.inl h))))))))))))) g364
    have FJ366 := gc_frc (W := fun q j => (q = 23 ∧ j = 9) ∨ q = (t + 12)) (V := fun q j => (q = 23 ∧ j = 9)) FJ (fun q j h => (Or.inl h)) k364
    have t367 := (g364 23 1).resolve_left (by omega)
    have t368 := (g364 1 17).resolve_left (by omega)
    have t369 := (g364 (t + 11) 1).resolve_left (by omega)
    have t370 := (g364 41 0).resolve_left (by omega)
    have t371 := (g364 41 1).resolve_left (by omega)
    have t372 := (g364 41 2).resolve_left (by omega)
    have t373 := (g364 39 2).resolve_left (by omega)
    have f374 := (show 0 ≤ I365 23 1 ∧ I365 23 1 ≤ 1000 from gc_in hI365 R_23 rfl rfl)
    have f375 := (show 0 ≤ I365 23 5 ∧ I365 23 5 ≤ 1000 from gc_in hI365 R_23 rfl rfl)
    have f376 := (show 0 ≤ I365 23 6 ∧ I365 23 6 ≤ 1001 from gc_in hI365 R_23 rfl rfl)
    have f377 := (show 0 ≤ I365 23 7 ∧ I365 23 7 ≤ 125 from gc_in hI365 R_23 rfl rfl)
    have f378 := (show 0 ≤ I365 1 17 ∧ I365 1 17 ≤ 12000 from gc_in hI365 R_1 rfl rfl)
    have f379 := (show 0 ≤ I365 (t + 11) 1 ∧ I365 (t + 11) 1 ≤ 24 from gc_in hI365 R_t_11 rfl rfl)
    have f380 := (show (-2147483648) ≤ I365 41 0 ∧ I365 41 0 ≤ 2147483647 from gc_in hI365 R_41 rfl rfl)
    have f381 := (show (-2147483648) ≤ I365 41 1 ∧ I365 41 1 ≤ 2147483647 from gc_in hI365 R_41 rfl rfl)
    have f382 := (show (-2147483648) ≤ I365 41 2 ∧ I365 41 2 ≤ 2147483647 from gc_in hI365 R_41 rfl rfl)
    have f383 := (show (-1) ≤ I365 39 2 ∧ I365 39 2 ≤ 999999 from gc_in hI365 R_39 rfl rfl)
    have KLT_I365 : gc_LT I365 := q364.2.2.2.2.2.2.2
    refine gv_callV hD rfl (As := []) (st := []) rfl B_23 S_23 rfl (gc_lV6 hws rfl) (Nat.le_of_ble_eq_true rfl) (gz_Ev_mono (d := 2) (by decide) E364) ?_
    show gv_X _ _ (31, [(1, .inr (.inl (J 23 9))), (0, .inr (.inr (some 39)))], [], sh, gc_h sh I365 J366 A)
    refine gv_run 2 true hD (pc' := 33) (lv' := [(1, .inr (.inl (J 23 9))), (0, .inr (.inr (some 39)))]) (st' := [.inl 0, .inr (.inr (some 39))]) (h' := gc_h sh I365 J366 A) (C := ((True ∧ True) ∧ True)) rfl ⟨⟨trivial, trivial⟩, trivial⟩ ?_
    refine gv_put hD rfl rfl S_39 ⟨by decide, B_39⟩ rfl trivial ?_
    refine gc_st (k := 8) hI365 S_39 rfl R_39 (lo := 0) (hi := 24) rfl rfl (by omega) (by omega) (fun I384 hI384 q385 p385 => ?_)
    have FI384 := gc_frs (W := fun q j => (q = 39 ∧ j = 3) ∨ (q = 39 ∧ j = 4) ∨ (q = 23 ∧ j = 5) ∨ (q = 23 ∧ j = 6) ∨ (q = 23 ∧ j = 7) ∨ (q = 23 ∧ j = 8) ∨ (q = 1 ∧ j = 17) ∨ (q = 1 ∧ j = 18) ∨ q = 20 ∨ (q = 39 ∧ j = 6) ∨ (q = 39 ∧ j = 8) ∨ q = 40 ∨ (q = 41 ∧ j = 0) ∨ (q = 41 ∧ j = 1) ∨ (q = 41 ∧ j = 2) ∨ q = (t + 13) ∨ q = (t + 14) ∨ (q = (t + 11) ∧ j = 1)) FI365 (Or.inr (Or.inr (Or.inr (Or.inr (Or.inr (Or.inr (Or.inr (Or.inr (Or.inr (Or.inr (Or.inl ⟨rfl, rfl⟩))))))))))) p385
    have t386 := p385 23 1 (fun h => absurd h.1 (by omega))
    have t387 := p385 23 5 (fun h => absurd h.1 (by omega))
    have t388 := p385 23 6 (fun h => absurd h.1 (by omega))
    have t389 := p385 23 7 (fun h => absurd h.1 (by omega))
    have t390 := p385 1 17 (fun h => absurd h.1 (by omega))
    have t391 := p385 (t + 11) 1 (fun h => absurd h.1 (by omega))
    have t392 := p385 41 0 (fun h => absurd h.1 (by omega))
    have t393 := p385 41 1 (fun h => absurd h.1 (by omega))
    have t394 := p385 41 2 (fun h => absurd h.1 (by omega))
    have t395 := p385 39 2 (fun h => absurd h.2 (by decide))
    have f396 := (show 0 ≤ I384 23 1 ∧ I384 23 1 ≤ 1000 from gc_in hI384 R_23 rfl rfl)
    have f397 := (show 0 ≤ I384 23 5 ∧ I384 23 5 ≤ 1000 from gc_in hI384 R_23 rfl rfl)
    have f398 := (show 0 ≤ I384 23 6 ∧ I384 23 6 ≤ 1001 from gc_in hI384 R_23 rfl rfl)
    have f399 := (show 0 ≤ I384 23 7 ∧ I384 23 7 ≤ 125 from gc_in hI384 R_23 rfl rfl)
    have f400 := (show 0 ≤ I384 1 17 ∧ I384 1 17 ≤ 12000 from gc_in hI384 R_1 rfl rfl)
    have f401 := (show 0 ≤ I384 (t + 11) 1 ∧ I384 (t + 11) 1 ≤ 24 from gc_in hI384 R_t_11 rfl rfl)
    have f402 := (show (-2147483648) ≤ I384 41 0 ∧ I384 41 0 ≤ 2147483647 from gc_in hI384 R_41 rfl rfl)
    have f403 := (show (-2147483648) ≤ I384 41 1 ∧ I384 41 1 ≤ 2147483647 from gc_in hI384 R_41 rfl rfl)
    have f404 := (show (-2147483648) ≤ I384 41 2 ∧ I384 41 2 ≤ 2147483647 from gc_in hI384 R_41 rfl rfl)
    have f405 := (show (-1) ≤ I384 39 2 ∧ I384 39 2 ≤ 999999 from gc_in hI384 R_39 rfl rfl)
    have KLT_I384 := gc_LT_fr KLT_I365 (p385 23 5 (fun h => absurd h.1 (by omega))) (p385 23 6 (fun h => absurd h.1 (by omega))) (p385 23 7 (fun h => absurd h.1 (by omega))) (fun k => p385 24 k (fun h => absurd h.1 (by omega)))
    show gv_X _ _ (36, [(1, .inr (.inl (J 23 9))), (0, .inr (.inr (some 39)))], [], sh, gc_h sh I384 J366 A)
    refine gv_run 2 true hD (pc' := 40) (lv' := [(1, .inr (.inl (J 23 9))), (0, .inr (.inr (some 39)))]) (st' := [.inr (.inl (28518)), .inr (.inr (some 39))]) (h' := gc_h sh I384 J366 A) (C := ((True ∧ True) ∧ True)) rfl ⟨⟨trivial, trivial⟩, trivial⟩ ?_
    obtain ⟨r406, h406, E406, P406⟩ := d_X6_isWord (ws0 := ws0) (tb := tb) hws htb sh ro I384 J366 A hI384  (28518) hb     
    obtain ⟨rfl, ⟨z406, rfl, q406⟩⟩ := P406
    refine gv_callV hD rfl (As := [.inr (.inl (28518))]) (st := []) rfl B_39 S_39 rfl (gc_lV6 hws rfl) (Nat.le_of_ble_eq_true rfl) (gz_Ev_mono (d := 1) (by decide) E406) ?_
    show gv_X _ _ (43, [(1, .inr (.inl (J 23 9))), (0, .inr (.inr (some 39)))], [.inl z406], sh, gc_h sh I384 J366 A)
    refine gv_if_eq (t := 55) hD rfl rfl ⟨by omega, by omega⟩ (fun c407 => ?_) (fun c407 => ?_)
    · show gv_X _ _ (55, [(1, .inr (.inl (J 23 9))), (0, .inr (.inr (some 39)))], [], sh, gc_h sh I384 J366 A)
      refine gv_pick [1, 0] rfl ?_
      exact L55 I384 J366 (J 23 9) hI384 FI384 FJ366 KLT_I384 (by omega)
    · show gv_X _ _ (46, [(1, .inr (.inl (J 23 9))), (0, .inr (.inr (some 39)))], [], sh, gc_h sh I384 J366 A)
      refine gv_run 1 true hD (pc' := 47) (lv' := [(1, .inr (.inl (J 23 9))), (0, .inr (.inr (some 39)))]) (st' := [.inr (.inr (some 39))]) (h' := gc_h sh I384 J366 A) (C := (True ∧ True)) rfl ⟨trivial, trivial⟩ ?_
      obtain ⟨r408, h408, E408, P408⟩ := d_X6_readParent (ws0 := ws0) (tb := tb) hws htb sh ro I384 J366 A hI384  t  hb  h_t G_t   (by omega) (by omega) (by omega) (by omega) (by omega) (by omega) (by omega) KLT_I384
      obtain ⟨I409, J410, rfl, hI409, g408, k408, KLT_I409, ⟨z408, rfl, q408⟩⟩ := P408
      have FI409 := gc_frc (W := fun q j => (q = 39 ∧ j = 3) ∨ (q = 39 ∧ j = 4) ∨ (q = 23 ∧ j = 5) ∨ (q = 23 ∧ j = 6) ∨ (q = 23 ∧ j = 7) ∨ (q = 23 ∧ j = 8) ∨ (q = 1 ∧ j = 17) ∨ (q = 1 ∧ j = 18) ∨ q = 20 ∨ (q = 39 ∧ j = 6) ∨ (q = 39 ∧ j = 8) ∨ q = 40 ∨ (q = 41 ∧ j = 0) ∨ (q = 41 ∧ j = 1) ∨ (q = 41 ∧ j = 2) ∨ q = (t + 13) ∨ q = (t + 14) ∨ (q = (t + 11) ∧ j = 1)) (V := fun q j => (q = 39 ∧ j = 3) ∨ (q = 39 ∧ j = 4) ∨ (q = 23 ∧ j = 5) ∨ (q = 23 ∧ j = 6) ∨ (q = 23 ∧ j = 7) ∨ (q = 23 ∧ j = 8) ∨ (q = 39 ∧ j = 8) ∨ q = 40) FI384 (fun q j h => (h.elim (fun h => (Or.inl h)) (fun h => (h.elim (fun h => (Or.inr (Or.inl h))) (fun h => (h.elim (fun h => (Or.inr (Or.inr (Or.inl h)))) (fun h => (h.elim (fun h => (Or.inr (Or.inr (Or.inr (Or.inl h))))) (fun h => (h.elim (fun h => (Or.inr (Or.inr (Or.inr (Or.inr (Or.inl h)))))) (fun h => (h.elim (fun h => (Or.inr (Or.inr (Or.inr (Or.inr (Or.inr (Or.inl h))))))) (fun h => (h.elim (fun h => (Or.inr (Or.inr (Or.inr (Or.inr (Or.inr (Or.inr (Or.inr (Or.inr (Or.inr (Or.inr (Or.inl h)))))))))))) (fun h => (Or.inr (Or.inr (Or.inr (Or.inr (Or.inr (Or.inr (Or.inr (Or.inr (Or.inr (Or.inr (Or.inr (Or.inl h))))))))))))))))))))))))))) g408
      have FJ410 := gc_frc (W := fun q j => (q = 23 ∧ j = 9) ∨ q = (t + 12)) (V := fun q j => (q = 23 ∧ j = 9)) FJ366 (fun q j h => (Or.inl h)) k408
      have t411 := (g408 23 1).resolve_left (by omega)
      have t412 := (g408 1 17).resolve_left (by omega)
      have t413 := (g408 (t + 11) 1).resolve_left (by omega)
      have t414 := (g408 41 0).resolve_left (by omega)
      have t415 := (g408 41 1).resolve_left (by omega)
      have t416 := (g408 41 2).resolve_left (by omega)
      have t417 := (g408 39 2).resolve_left (by omega)
      have f418 := (show 0 ≤ I409 23 1 ∧ I409 23 1 ≤ 1000 from gc_in hI409 R_23 rfl rfl)
      have f419 := (show 0 ≤ I409 23 5 ∧ I409 23 5 ≤ 1000 from gc_in hI409 R_23 rfl rfl)
      have f420 := (show 0 ≤ I409 23 6 ∧ I409 23 6 ≤ 1001 from gc_in hI409 R_23 rfl rfl)
      have f421 := (show 0 ≤ I409 23 7 ∧ I409 23 7 ≤ 125 from gc_in hI409 R_23 rfl rfl)
      have f422 := (show 0 ≤ I409 1 17 ∧ I409 1 17 ≤ 12000 from gc_in hI409 R_1 rfl rfl)
      have f423 := (show 0 ≤ I409 (t + 11) 1 ∧ I409 (t + 11) 1 ≤ 24 from gc_in hI409 R_t_11 rfl rfl)
      have f424 := (show (-2147483648) ≤ I409 41 0 ∧ I409 41 0 ≤ 2147483647 from gc_in hI409 R_41 rfl rfl)
      have f425 := (show (-2147483648) ≤ I409 41 1 ∧ I409 41 1 ≤ 2147483647 from gc_in hI409 R_41 rfl rfl)
      have f426 := (show (-2147483648) ≤ I409 41 2 ∧ I409 41 2 ≤ 2147483647 from gc_in hI409 R_41 rfl rfl)
      have f427 := (show (-1) ≤ I409 39 2 ∧ I409 39 2 ≤ 999999 from gc_in hI409 R_39 rfl rfl)
      refine gv_callV hD rfl (As := []) (st := []) rfl B_39 S_39 rfl (gc_lV6 hws rfl) (Nat.le_of_ble_eq_true rfl) (gz_Ev_mono (d := 4) (by decide) E408) ?_
      show gv_X _ _ (50, [(1, .inr (.inl (J 23 9))), (0, .inr (.inr (some 39)))], [.inl z408], sh, gc_h sh I409 J410 A)
      refine gv_if_ne (t := 55) hD rfl rfl ⟨by omega, by omega⟩ (fun c428 => ?_) (fun c428 => ?_)
      · show gv_X _ _ (55, [(1, .inr (.inl (J 23 9))), (0, .inr (.inr (some 39)))], [], sh, gc_h sh I409 J410 A)
        refine gv_pick [1, 0] rfl ?_
        exact L55 I409 J410 (J 23 9) hI409 FI409 FJ410 KLT_I409 (by omega)
      · show gv_X _ _ (53, [(1, .inr (.inl (J 23 9))), (0, .inr (.inr (some 39)))], [], sh, gc_h sh I409 J410 A)
        refine gv_run 1 true hD (pc' := 54) (lv' := [(1, .inr (.inl (J 23 9))), (0, .inr (.inr (some 39)))]) (st' := [.inl 0]) (h' := gc_h sh I409 J410 A) (C := (True ∧ True)) rfl ⟨trivial, trivial⟩ ?_
        exact gv_zret hD rfl (by omega) ⟨I409, J410, rfl, hI409, FI409, FJ410, KLT_I409, ⟨_, rfl, by omega⟩⟩
  · show gv_X _ _ (14, [(0, .inr (.inr (some 39)))], [], sh, gc_h sh I341 J A)
    refine gv_run 1 true hD (pc' := 15) (lv' := [(0, .inr (.inr (some 39)))]) (st' := [.inl 0]) (h' := gc_h sh I341 J A) (C := (True ∧ True)) rfl ⟨trivial, trivial⟩ ?_
    exact gv_zret hD rfl (by omega) ⟨I341, J, rfl, hI341, FI341, FJ, KLT_I341, ⟨_, rfl, by omega⟩⟩
