set_option maxHeartbeats 4000000 in
set_option maxRecDepth 100000 in
theorem d_X6_readParent {ws0 : List Cond} {tb : String → gz_T} (hws : gc_Ws ws0) (htb : gc_tbs tb) (sh : gz_Sh) (ro : Nat → Nat) (I : gr_I) (J : gr_J) (A : gc_A) (hI : gc_Inv ro I) (t : Nat)  (hb : gc_Base sh ro A) (h_t : gc_isTongue sh ro A t) (G_t : 144 ≤ t)  (x0 : I 23 7 = 1) (x1 : I 39 2 = (t : Int)) (KLT_I : gc_LT I) (KTK_I : gc_TK I) : ∃ r h', gz_Ev ws0 tb 4 (yX6_readParent, cX6_readParent, 2, (some .boolean)) [.inr (.inr (some 39))] sh (gc_h sh I J A) r sh h' 0 0 ∧ (∃ (I' : gr_I) (J' : gr_J), h' = gc_h sh I' J' A ∧ gc_Inv ro I' ∧ (∀ q j : Nat, ((q = 39 ∧ j = 3) ∨ (q = 39 ∧ j = 4) ∨ (q = 23 ∧ j = 5) ∨ (q = 23 ∧ j = 6) ∨ (q = 23 ∧ j = 7) ∨ (q = 23 ∧ j = 8) ∨ (q = 39 ∧ j = 8) ∨ q = 40) ∨ I' q j = I q j) ∧ (∀ q j : Nat, ((q = 23 ∧ j = 9)) ∨ J' q j = J q j) ∧ gc_LT I' ∧ gc_TK I' ∧ (∃ z : Int, r = some (.inl z) ∧ 0 ≤ z ∧ z ≤ 1 ∧ (I' 23 1 = I 23 1) ∧ (I 23 5 ≤ I' 23 5))) := by
  have FI : ∀ q j : Nat, ((q = 39 ∧ j = 3) ∨ (q = 39 ∧ j = 4) ∨ (q = 23 ∧ j = 5) ∨ (q = 23 ∧ j = 6) ∨ (q = 23 ∧ j = 7) ∨ (q = 23 ∧ j = 8) ∨ (q = 39 ∧ j = 8) ∨ q = 40) ∨ I q j = I q j := fun _ _ => Or.inr rfl
  have FJ : ∀ q j : Nat, ((q = 23 ∧ j = 9)) ∨ J q j = J q j := fun _ _ => Or.inr rfl
  have A_39_1 : A 39 1 = some 23 := gc_bA hb rfl
  have A_39_9 : A 39 9 = some 40 := gc_bA hb rfl
  have B_23 : 23 < 1000000 := by decide
  have B_39 : 39 < 1000000 := by decide
  have B_40 : 40 < 1000000 := by decide
  have R_23 : ro 23 = 3 := gc_bR hb (by decide) rfl
  have R_39 : ro 39 = 42 := gc_bR hb (by decide) rfl
  have R_40 : ro 40 = 39 := gc_bR hb (by decide) rfl
  have S_23 : sh[23]? = some (false, 9, 10) := gc_bS hb rfl
  have S_39 : sh[39]? = some (false, 6, 19) := gc_bS hb rfl
  have S_40 : sh[40]? = some (true, 1, 72) := gc_bS hb rfl
  obtain ⟨S_t, R_t, B_t, A_t_0, h_t_1, A_t_1, h_t_3, A_t_2, S_t_5, R_t_5, B_t_5, A_t_3, S_t_6, R_t_6, B_t_6, A_t_4, h_t_7, A_t_5, S_t_9, R_t_9, B_t_9, A_t_7, S_t_10, R_t_10, B_t_10, A_t_8, h_t_11, A_t_9, S_t_13, R_t_13, B_t_13, A_t_10, S_t_14, R_t_14, B_t_14, A_t_12, S_t_15, R_t_15, B_t_15, A_t_14, S_t_16, R_t_16, B_t_16, A_t_15, h_t_17⟩ := id h_t
  obtain ⟨S_t_1, R_t_1, B_t_1, A_t_1_0, S_t_1_1, R_t_1_1, B_t_1_1, Q0_t_1, Q1_t_1, Q2_t_1⟩ := id h_t_1
  obtain ⟨S_t_3, R_t_3, B_t_3, A_t_3_0, S_t_3_1, R_t_3_1, B_t_3_1, Q0_t_3, Q1_t_3, Q2_t_3⟩ := id h_t_3
  obtain ⟨S_t_7, R_t_7, B_t_7, A_t_7_0, S_t_7_1, R_t_7_1, B_t_7_1, Q0_t_7, Q1_t_7, Q2_t_7⟩ := id h_t_7
  obtain ⟨S_t_11, R_t_11, B_t_11, A_t_11_0, S_t_11_1, R_t_11_1, B_t_11_1, Q0_t_11, Q1_t_11, Q2_t_11⟩ := id h_t_11
  obtain ⟨S_t_17, R_t_17, B_t_17, A_t_17_0, S_20, R_20, B_20, A_t_17_1, S_t_17_1, R_t_17_1, B_t_17_1, A_t_17_2, S_t_17_2, R_t_17_2, B_t_17_2, A_t_17_3, S_t_17_3, R_t_17_3, B_t_17_3, A_t_17_4, S_t_17_4, R_t_17_4, B_t_17_4, A_t_17_5, S_t_17_5, R_t_17_5, B_t_17_5, S_t_17_6, R_t_17_6, B_t_17_6, S_t_17_7, R_t_17_7, B_t_17_7⟩ := id h_t_17
  have hD : gv_D (gc_E6 ws0 tb 3 (yX6_readParent, cX6_readParent, 2, (some .boolean)) kX6_readParent) := gq_ok oX6_readParent
  refine gc_ev6 (d := 3) (l := kX6_readParent) (Po := fun r h' => (∃ (I' : gr_I) (J' : gr_J), h' = gc_h sh I' J' A ∧ gc_Inv ro I' ∧ (∀ q j : Nat, ((q = 39 ∧ j = 3) ∨ (q = 39 ∧ j = 4) ∨ (q = 23 ∧ j = 5) ∨ (q = 23 ∧ j = 6) ∨ (q = 23 ∧ j = 7) ∨ (q = 23 ∧ j = 8) ∨ (q = 39 ∧ j = 8) ∨ q = 40) ∨ I' q j = I q j) ∧ (∀ q j : Nat, ((q = 23 ∧ j = 9)) ∨ J' q j = J q j) ∧ gc_LT I' ∧ gc_TK I' ∧ (∃ z : Int, r = some (.inl z) ∧ 0 ≤ z ∧ z ≤ 1 ∧ (I' 23 1 = I 23 1) ∧ (I 23 5 ≤ I' 23 5)))) htb rfl (Nat.le_of_ble_eq_true rfl) ?_
  have N_t_11__40 : ¬ ((t + 11) = 40) := by omega
  have t1 := gc_TK_mo KTK_I
  have f2 := (show 0 ≤ I 23 1 ∧ I 23 1 ≤ 1000 from gc_in hI R_23 rfl rfl)
  have f3 := (show 0 ≤ I 23 5 ∧ I 23 5 ≤ 1000 from gc_in hI R_23 rfl rfl)
  have f4 := (show 0 ≤ I 23 6 ∧ I 23 6 ≤ 1001 from gc_in hI R_23 rfl rfl)
  have f5 := (show 0 ≤ I 23 7 ∧ I 23 7 ≤ 125 from gc_in hI R_23 rfl rfl)
  have f6 := (show 0 ≤ I (t + 11) 1 ∧ I (t + 11) 1 ≤ 24 from gc_in hI R_t_11 rfl rfl)
  have f7 := (show (-1) ≤ I 39 2 ∧ I 39 2 ≤ 999999 from gc_in hI R_39 rfl rfl)
  refine gv_run 1 true hD (pc' := 1) (lv' := [(0, .inr (.inr (some 39)))]) (st' := [.inr (.inr (some 39))]) (h' := gc_h sh I J A) (C := (True ∧ True)) rfl ⟨trivial, trivial⟩ ?_
  refine gv_get hD rfl rfl S_39 ⟨by decide, B_39⟩ (gc_hA S_39 rfl A_39_1) ?_
  show gv_X _ _ (4, [(0, .inr (.inr (some 39)))], [.inr (.inr (some 23))], sh, gc_h sh I J A)
  have t9 := gc_TK_nx KTK_I (by omega)
  obtain ⟨r8, h8, E8, P8⟩ := d_X9_advance (ws0 := ws0) (tb := tb) hws htb sh ro I J A hI 23  (gc_b23 hb)    (by omega) 
  obtain ⟨I10, J11, rfl, hI10, g8, k8, ⟨rfl, V8_0, V8_1, V8_2, V8_3, V8_4, q8⟩⟩ := P8
  have FI10 := gc_frc (W := fun q j => (q = 39 ∧ j = 3) ∨ (q = 39 ∧ j = 4) ∨ (q = 23 ∧ j = 5) ∨ (q = 23 ∧ j = 6) ∨ (q = 23 ∧ j = 7) ∨ (q = 23 ∧ j = 8) ∨ (q = 39 ∧ j = 8) ∨ q = 40) (V := fun q j => (q = 23 ∧ j = 5) ∨ (q = 23 ∧ j = 6) ∨ (q = 23 ∧ j = 7) ∨ (q = 23 ∧ j = 8)) FI (fun q j h => (h.elim (fun h => (Or.inr (Or.inr (Or.inl h)))) (fun h => (h.elim (fun h => (Or.inr (Or.inr (Or.inr (Or.inl h))))) (fun h => (h.elim (fun h => (Or.inr (Or.inr (Or.inr (Or.inr (Or.inl h)))))) (fun h => (Or.inr (Or.inr (Or.inr (Or.inr (Or.inr (Or.inl h))))))))))))) g8
  have FJ11 := gc_frc (W := fun q j => (q = 23 ∧ j = 9)) (V := fun q j => (q = 23 ∧ j = 9)) FJ (fun q j h => h) k8
  have t12 := (g8 23 1).resolve_left (fun h => h.elim (fun h => absurd h.2 (by decide)) (fun h => h.elim (fun h => absurd h.2 (by decide)) (fun h => h.elim (fun h => absurd h.2 (by decide)) (fun h => absurd h.2 (by decide)))))
  have t13 := (g8 (t + 11) 1).resolve_left (fun h => h.elim (fun h => absurd h.2 (by decide)) (fun h => h.elim (fun h => absurd h.2 (by decide)) (fun h => h.elim (fun h => absurd h.2 (by decide)) (fun h => absurd h.2 (by decide)))))
  have t14 := (g8 39 2).resolve_left (fun h => h.elim (fun h => absurd h.2 (by decide)) (fun h => h.elim (fun h => absurd h.2 (by decide)) (fun h => h.elim (fun h => absurd h.2 (by decide)) (fun h => absurd h.2 (by decide)))))
  have f15 := (show 0 ≤ I10 23 5 ∧ I10 23 5 ≤ 1000 from gc_in hI10 R_23 rfl rfl)
  have f16 := (show 0 ≤ I10 23 6 ∧ I10 23 6 ≤ 1001 from gc_in hI10 R_23 rfl rfl)
  have f17 := (show 0 ≤ I10 23 7 ∧ I10 23 7 ≤ 125 from gc_in hI10 R_23 rfl rfl)
  have KLT_I10 : gc_LT I10 := q8.2.2
  have KTK_I10 : gc_TK I10 := And.intro V8_0 (And.intro V8_1 (And.intro V8_2 (And.intro V8_3 V8_4)))
  have t18 := gc_TK_mo KTK_I10
  clear V8_0 V8_1 V8_2 V8_3 V8_4
  refine gv_callV hD rfl (As := []) (st := []) rfl B_23 S_23 rfl (gc_lV6 hws rfl) (Nat.le_of_ble_eq_true rfl) (gz_Ev_mono (d := 2) (by decide) E8) ?_
  show gv_X _ _ (7, [(0, .inr (.inr (some 39)))], [], sh, gc_h sh I10 J11 A)
  refine gv_run 2 true hD (pc' := 9) (lv' := [(0, .inr (.inr (some 39)))]) (st' := [.inr (.inr (some 39)), .inr (.inr (some 39))]) (h' := gc_h sh I10 J11 A) (C := ((True ∧ True) ∧ True)) rfl ⟨⟨trivial, trivial⟩, trivial⟩ ?_
  refine gv_get hD rfl rfl S_39 ⟨by decide, B_39⟩ (gc_h5 (t := t) S_39 rfl (by omega)) ?_
  show gv_X _ _ (12, [(0, .inr (.inr (some 39)))], [.inr (.inr (some t)), .inr (.inr (some 39))], sh, gc_h sh I10 J11 A)
  refine gv_get hD rfl rfl S_t ⟨by decide, B_t⟩ (gc_hA S_t rfl A_t_8) ?_
  show gv_X _ _ (15, [(0, .inr (.inr (some 39)))], [.inr (.inr (some (t + 11))), .inr (.inr (some 39))], sh, gc_h sh I10 J11 A)
  obtain ⟨r19, h19, E19, P19⟩ := d_X6_needKnown (ws0 := ws0) (tb := tb) hws htb sh ro I10 J11 A hI10  24 8 (t + 11) hb h_t_11    
  obtain ⟨I20, J21, rfl, hI20, g19, k19, ⟨z19, rfl, q19⟩⟩ := P19
  have FI20 := gc_frc (W := fun q j => (q = 39 ∧ j = 3) ∨ (q = 39 ∧ j = 4) ∨ (q = 23 ∧ j = 5) ∨ (q = 23 ∧ j = 6) ∨ (q = 23 ∧ j = 7) ∨ (q = 23 ∧ j = 8) ∨ (q = 39 ∧ j = 8) ∨ q = 40) (V := fun q j => (q = 39 ∧ j = 3) ∨ (q = 39 ∧ j = 4)) FI10 (fun q j h => (h.elim (fun h => (Or.inl h)) (fun h => (Or.inr (Or.inl h))))) g19
  have t22 := (g19 23 1).resolve_left (fun h => h.elim (fun h => absurd h.2 (by decide)) (fun h => absurd h.2 (by decide)))
  have t23 := (g19 23 5).resolve_left (fun h => h.elim (fun h => absurd h.2 (by decide)) (fun h => absurd h.2 (by decide)))
  have t24 := (g19 23 6).resolve_left (fun h => h.elim (fun h => absurd h.2 (by decide)) (fun h => absurd h.2 (by decide)))
  have t25 := (g19 23 7).resolve_left (fun h => h.elim (fun h => absurd h.2 (by decide)) (fun h => absurd h.2 (by decide)))
  have t26 := (g19 (t + 11) 1).resolve_left (fun h => h.elim (fun h => absurd h.2 (by decide)) (fun h => absurd h.2 (by decide)))
  have t27 := (g19 39 2).resolve_left (fun h => h.elim (fun h => absurd h.2 (by decide)) (fun h => absurd h.2 (by decide)))
  obtain rfl : J11 = J21 := funext fun q => funext fun j => ((k19 q j).resolve_left id).symm
  have KLT_I20 := gc_LT_fr KLT_I10 ((g19 23 5).resolve_left (fun h => h.elim (fun h => absurd h.2 (by decide)) (fun h => absurd h.2 (by decide)))) ((g19 23 6).resolve_left (fun h => h.elim (fun h => absurd h.2 (by decide)) (fun h => absurd h.2 (by decide)))) ((g19 23 7).resolve_left (fun h => h.elim (fun h => absurd h.2 (by decide)) (fun h => absurd h.2 (by decide)))) (fun k => (g19 24 k).resolve_left (fun h => h.elim (fun h => absurd h.1 (by decide)) (fun h => absurd h.1 (by decide))))
  have KTK_I20 := gc_TK_fr KTK_I10 ((g19 23 1).resolve_left (fun h => h.elim (fun h => absurd h.2 (by decide)) (fun h => absurd h.2 (by decide)))) ((g19 23 5).resolve_left (fun h => h.elim (fun h => absurd h.2 (by decide)) (fun h => absurd h.2 (by decide)))) ((g19 23 6).resolve_left (fun h => h.elim (fun h => absurd h.2 (by decide)) (fun h => absurd h.2 (by decide)))) ((g19 23 7).resolve_left (fun h => h.elim (fun h => absurd h.2 (by decide)) (fun h => absurd h.2 (by decide))))
  refine gv_callV hD rfl (As := [.inr (.inr (some (t + 11)))]) (st := []) rfl B_39 S_39 rfl (gc_lV6 hws rfl) (Nat.le_of_ble_eq_true rfl) (gz_Ev_mono (d := 3) (by decide) E19) ?_
  show gv_X _ _ (18, [(0, .inr (.inr (some 39)))], [.inl z19], sh, gc_h sh I20 J11 A)
  refine gv_if_ne (t := 23) hD rfl rfl ⟨by omega, by omega⟩ (fun c28 => ?_) (fun c28 => ?_)
  · show gv_X _ _ (23, [(0, .inr (.inr (some 39)))], [], sh, gc_h sh I20 J11 A)
    refine gv_run 1 true hD (pc' := 24) (lv' := [(0, .inr (.inr (some 39)))]) (st' := [.inr (.inr (some 39))]) (h' := gc_h sh I20 J11 A) (C := (True ∧ True)) rfl ⟨trivial, trivial⟩ ?_
    refine gv_get hD rfl rfl S_39 ⟨by decide, B_39⟩ (gc_h5 (t := t) S_39 rfl (by omega)) ?_
    show gv_X _ _ (27, [(0, .inr (.inr (some 39)))], [.inr (.inr (some t))], sh, gc_h sh I20 J11 A)
    refine gv_get hD rfl rfl S_t ⟨by decide, B_t⟩ (gc_hA S_t rfl A_t_8) ?_
    show gv_X _ _ (30, [(0, .inr (.inr (some 39)))], [.inr (.inr (some (t + 11)))], sh, gc_h sh I20 J11 A)
    refine gv_run 1 true hD (pc' := 31) (lv' := [(0, .inr (.inr (some 39)))]) (st' := [.inr (.inr (some 39)), .inr (.inr (some (t + 11)))]) (h' := gc_h sh I20 J11 A) (C := (True ∧ True)) rfl ⟨trivial, trivial⟩ ?_
    refine gv_get hD rfl rfl S_39 ⟨by decide, B_39⟩ (gc_hA S_39 rfl A_39_1) ?_
    show gv_X _ _ (34, [(0, .inr (.inr (some 39)))], [.inr (.inr (some 23)), .inr (.inr (some (t + 11)))], sh, gc_h sh I20 J11 A)
    refine gv_get hD rfl rfl S_23 ⟨by decide, B_23⟩ (gc_hJ S_23 rfl) ?_
    show gv_X _ _ (37, [(0, .inr (.inr (some 39)))], [.inr (.inl (J11 23 9)), .inr (.inr (some (t + 11)))], sh, gc_h sh I20 J11 A)
    obtain ⟨r29, h29, E29, P29⟩ := d_X4_find (ws0 := ws0) (tb := tb) hws htb sh ro I20 J11 A hI20 (t + 11) 24 8 (J11 23 9) h_t_11     
    obtain ⟨rfl, ⟨z29, rfl, q29⟩⟩ := P29
    refine gv_callV hD rfl (As := [.inr (.inl (J11 23 9))]) (st := []) rfl B_t_11 S_t_11 rfl (gc_lV6 hws rfl) (Nat.le_of_ble_eq_true rfl) (gz_Ev_mono (d := 1) (by decide) E29) ?_
    show gv_X _ _ (40, [(0, .inr (.inr (some 39)))], [.inl z29], sh, gc_h sh I20 J11 A)
    refine gv_run 3 true hD (pc' := 43) (lv' := [(1, .inl z29), (0, .inr (.inr (some 39)))]) (st' := [.inr (.inr (some 39)), .inr (.inr (some 39))]) (h' := gc_h sh I20 J11 A) (C := (((True ∧ True) ∧ True) ∧ True)) rfl ⟨⟨⟨trivial, trivial⟩, trivial⟩, trivial⟩ ?_
    refine gv_get hD rfl rfl S_39 ⟨by decide, B_39⟩ (gc_h5 (t := t) S_39 rfl (by omega)) ?_
    show gv_X _ _ (46, [(1, .inl z29), (0, .inr (.inr (some 39)))], [.inr (.inr (some t)), .inr (.inr (some 39))], sh, gc_h sh I20 J11 A)
    refine gv_get hD rfl rfl S_t ⟨by decide, B_t⟩ (gc_hA S_t rfl A_t_9) ?_
    show gv_X _ _ (49, [(1, .inl z29), (0, .inr (.inr (some 39)))], [.inr (.inr (some (t + 13))), .inr (.inr (some 39))], sh, gc_h sh I20 J11 A)
    refine gv_run 1 true hD (pc' := 50) (lv' := [(1, .inl z29), (0, .inr (.inr (some 39)))]) (st' := [.inl z29, .inr (.inr (some (t + 13))), .inr (.inr (some 39))]) (h' := gc_h sh I20 J11 A) (C := (True ∧ True)) rfl ⟨trivial, trivial⟩ ?_
    have f30 := (show 0 ≤ I20 (t + 13) (Int.toNat z29) ∧ I20 (t + 13) (Int.toNat z29) ≤ 24 from gc_in hI20 R_t_13 rfl rfl)
    refine gv_iald hD rfl S_t_13 rfl ⟨by decide, B_t_13⟩ ⟨by omega, by omega⟩ (gc_iI S_t_13 rfl) ?_
    show gv_X _ _ (51, [(1, .inl z29), (0, .inr (.inr (some 39)))], [.inl (I20 (t + 13) (Int.toNat z29)), .inr (.inr (some 39))], sh, gc_h sh I20 J11 A)
    refine gv_put hD rfl rfl S_39 ⟨by decide, B_39⟩ rfl trivial ?_
    refine gc_st (k := 8) hI20 S_39 rfl R_39 (lo := 0) (hi := 24) rfl rfl (by omega) (by omega) (fun I31 hI31 q32 p32 => ?_)
    have FI31 := gc_frs (W := fun q j => (q = 39 ∧ j = 3) ∨ (q = 39 ∧ j = 4) ∨ (q = 23 ∧ j = 5) ∨ (q = 23 ∧ j = 6) ∨ (q = 23 ∧ j = 7) ∨ (q = 23 ∧ j = 8) ∨ (q = 39 ∧ j = 8) ∨ q = 40) FI20 (Or.inr (Or.inr (Or.inr (Or.inr (Or.inr (Or.inr (Or.inl ⟨rfl, rfl⟩))))))) p32
    have t33 := p32 23 1 (fun h => absurd h.2 (by decide))
    have t34 := p32 23 5 (fun h => absurd h.2 (by decide))
    have t35 := p32 23 6 (fun h => absurd h.2 (by decide))
    have t36 := p32 23 7 (fun h => absurd h.2 (by decide))
    have t37 := p32 (t + 11) 1 (fun h => absurd h.2 (by decide))
    have t38 := p32 39 2 (fun h => absurd h.2 (by decide))
    have KLT_I31 := gc_LT_fr KLT_I20 (p32 23 5 (fun h => absurd h.2 (by decide))) (p32 23 6 (fun h => absurd h.2 (by decide))) (p32 23 7 (fun h => absurd h.2 (by decide))) (fun k => p32 24 k (fun h => absurd h.1 (by decide)))
    have KTK_I31 := gc_TK_fr KTK_I20 (p32 23 1 (fun h => absurd h.2 (by decide))) (p32 23 5 (fun h => absurd h.2 (by decide))) (p32 23 6 (fun h => absurd h.2 (by decide))) (p32 23 7 (fun h => absurd h.2 (by decide)))
    show gv_X _ _ (54, [(1, .inl z29), (0, .inr (.inr (some 39)))], [], sh, gc_h sh I31 J11 A)
    refine gv_run 1 true hD (pc' := 55) (lv' := [(1, .inl z29), (0, .inr (.inr (some 39)))]) (st' := [.inr (.inr (some 39))]) (h' := gc_h sh I31 J11 A) (C := (True ∧ True)) rfl ⟨trivial, trivial⟩ ?_
    refine gv_get hD rfl rfl S_39 ⟨by decide, B_39⟩ (gc_h5 (t := t) S_39 rfl (by omega)) ?_
    show gv_X _ _ (58, [(1, .inl z29), (0, .inr (.inr (some 39)))], [.inr (.inr (some t))], sh, gc_h sh I31 J11 A)
    refine gv_get hD rfl rfl S_t ⟨by decide, B_t⟩ (gc_hA S_t rfl A_t_10) ?_
    show gv_X _ _ (61, [(1, .inl z29), (0, .inr (.inr (some 39)))], [.inr (.inr (some (t + 14)))], sh, gc_h sh I31 J11 A)
    refine gv_run 6 true hD (pc' := 68) (lv' := [(1, .inl z29), (0, .inr (.inr (some 39)))]) (st' := [.inr (.inr (some 39)), .inl ((z29 * 24) * 3), .inr (.inr (some (t + 14)))]) (h' := gc_h sh I31 J11 A) (C := ((((((True ∧ True) ∧ True) ∧ True) ∧ True) ∧ True) ∧ True)) rfl ⟨⟨⟨⟨⟨⟨trivial, trivial⟩, trivial⟩, trivial⟩, trivial⟩, trivial⟩, trivial⟩ ?_
    refine gv_get hD rfl rfl S_39 ⟨by decide, B_39⟩ (gc_hA S_39 rfl A_39_9) ?_
    show gv_X _ _ (71, [(1, .inl z29), (0, .inr (.inr (some 39)))], [.inr (.inr (some 40)), .inl ((z29 * 24) * 3), .inr (.inr (some (t + 14)))], sh, gc_h sh I31 J11 A)
    refine gv_run 2 true hD (pc' := 73) (lv' := [(1, .inl z29), (0, .inr (.inr (some 39)))]) (st' := [.inr (.inr (some 39)), .inl 0, .inr (.inr (some 40)), .inl ((z29 * 24) * 3), .inr (.inr (some (t + 14)))]) (h' := gc_h sh I31 J11 A) (C := ((True ∧ True) ∧ True)) rfl ⟨⟨trivial, trivial⟩, trivial⟩ ?_
    have f39 := (show 0 ≤ I31 39 8 ∧ I31 39 8 ≤ 24 from gc_in hI31 R_39 rfl rfl)
    refine gv_get hD rfl rfl S_39 ⟨by decide, B_39⟩ (gc_hI S_39 rfl) ?_
    show gv_X _ _ (76, [(1, .inl z29), (0, .inr (.inr (some 39)))], [.inl (I31 39 8), .inl 0, .inr (.inr (some 40)), .inl ((z29 * 24) * 3), .inr (.inr (some (t + 14)))], sh, gc_h sh I31 J11 A)
    refine gv_run 2 true hD (pc' := 78) (lv' := [(1, .inl z29), (0, .inr (.inr (some 39)))]) (st' := [.inl ((I31 39 8) * 3), .inl 0, .inr (.inr (some 40)), .inl ((z29 * 24) * 3), .inr (.inr (some (t + 14)))]) (h' := gc_h sh I31 J11 A) (C := ((True ∧ True) ∧ True)) rfl ⟨⟨trivial, trivial⟩, trivial⟩ ?_
    refine gv_copy hD rfl (gc_lC6_263 hws) (Nat.le_of_ble_eq_true rfl) ⟨B_t_14, B_40⟩ S_t_14 S_40 (by decide) ⟨by decide, by decide⟩ ⟨by omega, by omega, by omega⟩ (by omega) (by omega) (fun h => absurd h (by decide)) ?_
    refine gc_cp hI31 S_t_14 S_40 (by decide) (fun j hj => gc_cprg (m := 2) hI31 R_t_14 R_40 rfl rfl (by omega)) (fun I41 hI41 p40 q40 => ?_)
    have FI41 := gc_frp (W := fun q j => (q = 39 ∧ j = 3) ∨ (q = 39 ∧ j = 4) ∨ (q = 23 ∧ j = 5) ∨ (q = 23 ∧ j = 6) ∨ (q = 23 ∧ j = 7) ∨ (q = 23 ∧ j = 8) ∨ (q = 39 ∧ j = 8) ∨ q = 40) (V := fun q j => q = 40 ∧ Int.toNat 0 ≤ j ∧ j < Int.toNat 0 + Int.toNat (((I31 39 8) * 3))) FI31 (fun q j h => (Or.inr (Or.inr (Or.inr (Or.inr (Or.inr (Or.inr (Or.inr h.1)))))))) p40
    have KLT_I41 := gc_LT_fr KLT_I31 (p40 23 5 (fun h => absurd h.1 (by decide))) (p40 23 6 (fun h => absurd h.1 (by decide))) (p40 23 7 (fun h => absurd h.1 (by decide))) (fun k => p40 24 k (fun h => absurd h.1 (by decide)))
    have KTK_I41 := gc_TK_fr KTK_I31 (p40 23 1 (fun h => absurd h.1 (by decide))) (p40 23 5 (fun h => absurd h.1 (by decide))) (p40 23 6 (fun h => absurd h.1 (by decide))) (p40 23 7 (fun h => absurd h.1 (by decide)))
    have t43 := p40 23 1 (fun h => absurd h.1 (by decide))
    have t44 := p40 23 5 (fun h => absurd h.1 (by decide))
    have t45 := p40 23 6 (fun h => absurd h.1 (by decide))
    have t46 := p40 23 7 (fun h => absurd h.1 (by decide))
    have t47 := p40 (t + 11) 1 (fun h => absurd h.1 N_t_11__40)
    have t48 := p40 39 2 (fun h => absurd h.1 (by decide))
    have t49 := gc_TK_mo KTK_I41
    have f50 := (show 0 ≤ I41 23 1 ∧ I41 23 1 ≤ 1000 from gc_in hI41 R_23 rfl rfl)
    have f51 := (show 0 ≤ I41 23 5 ∧ I41 23 5 ≤ 1000 from gc_in hI41 R_23 rfl rfl)
    have f52 := (show 0 ≤ I41 23 6 ∧ I41 23 6 ≤ 1001 from gc_in hI41 R_23 rfl rfl)
    have f53 := (show 0 ≤ I41 23 7 ∧ I41 23 7 ≤ 125 from gc_in hI41 R_23 rfl rfl)
    have f54 := (show 0 ≤ I41 (t + 11) 1 ∧ I41 (t + 11) 1 ≤ 24 from gc_in hI41 R_t_11 rfl rfl)
    have f55 := (show (-1) ≤ I41 39 2 ∧ I41 39 2 ≤ 999999 from gc_in hI41 R_39 rfl rfl)
    show gv_X _ _ (81, [(1, .inl z29), (0, .inr (.inr (some 39)))], [], sh, gc_h sh I41 J11 A)
    refine gv_run 1 true hD (pc' := 82) (lv' := [(1, .inl z29), (0, .inr (.inr (some 39)))]) (st' := [.inr (.inr (some 39))]) (h' := gc_h sh I41 J11 A) (C := (True ∧ True)) rfl ⟨trivial, trivial⟩ ?_
    refine gv_get hD rfl rfl S_39 ⟨by decide, B_39⟩ (gc_hA S_39 rfl A_39_1) ?_
    show gv_X _ _ (85, [(1, .inl z29), (0, .inr (.inr (some 39)))], [.inr (.inr (some 23))], sh, gc_h sh I41 J11 A)
    have t57 := gc_TK_nx KTK_I41 (by omega)
    obtain ⟨r56, h56, E56, P56⟩ := d_X9_advance (ws0 := ws0) (tb := tb) hws htb sh ro I41 J11 A hI41 23  (gc_b23 hb)    (by omega) 
    obtain ⟨I58, J59, rfl, hI58, g56, k56, ⟨rfl, V56_0, V56_1, V56_2, V56_3, V56_4, q56⟩⟩ := P56
    have FI58 := gc_frc (W := fun q j => (q = 39 ∧ j = 3) ∨ (q = 39 ∧ j = 4) ∨ (q = 23 ∧ j = 5) ∨ (q = 23 ∧ j = 6) ∨ (q = 23 ∧ j = 7) ∨ (q = 23 ∧ j = 8) ∨ (q = 39 ∧ j = 8) ∨ q = 40) (V := fun q j => (q = 23 ∧ j = 5) ∨ (q = 23 ∧ j = 6) ∨ (q = 23 ∧ j = 7) ∨ (q = 23 ∧ j = 8)) FI41 (fun q j h => (h.elim (fun h => (Or.inr (Or.inr (Or.inl h)))) (fun h => (h.elim (fun h => (Or.inr (Or.inr (Or.inr (Or.inl h))))) (fun h => (h.elim (fun h => (Or.inr (Or.inr (Or.inr (Or.inr (Or.inl h)))))) (fun h => (Or.inr (Or.inr (Or.inr (Or.inr (Or.inr (Or.inl h))))))))))))) g56
    have FJ59 := gc_frc (W := fun q j => (q = 23 ∧ j = 9)) (V := fun q j => (q = 23 ∧ j = 9)) FJ11 (fun q j h => h) k56
    have t60 := (g56 23 1).resolve_left (fun h => h.elim (fun h => absurd h.2 (by decide)) (fun h => h.elim (fun h => absurd h.2 (by decide)) (fun h => h.elim (fun h => absurd h.2 (by decide)) (fun h => absurd h.2 (by decide)))))
    have t61 := (g56 (t + 11) 1).resolve_left (fun h => h.elim (fun h => absurd h.2 (by decide)) (fun h => h.elim (fun h => absurd h.2 (by decide)) (fun h => h.elim (fun h => absurd h.2 (by decide)) (fun h => absurd h.2 (by decide)))))
    have t62 := (g56 39 2).resolve_left (fun h => h.elim (fun h => absurd h.2 (by decide)) (fun h => h.elim (fun h => absurd h.2 (by decide)) (fun h => h.elim (fun h => absurd h.2 (by decide)) (fun h => absurd h.2 (by decide)))))
    have f63 := (show 0 ≤ I58 23 5 ∧ I58 23 5 ≤ 1000 from gc_in hI58 R_23 rfl rfl)
    have f64 := (show 0 ≤ I58 23 6 ∧ I58 23 6 ≤ 1001 from gc_in hI58 R_23 rfl rfl)
    have f65 := (show 0 ≤ I58 23 7 ∧ I58 23 7 ≤ 125 from gc_in hI58 R_23 rfl rfl)
    have KLT_I58 : gc_LT I58 := q56.2.2
    have KTK_I58 : gc_TK I58 := And.intro V56_0 (And.intro V56_1 (And.intro V56_2 (And.intro V56_3 V56_4)))
    have t66 := gc_TK_mo KTK_I58
    clear V56_0 V56_1 V56_2 V56_3 V56_4
    refine gv_callV hD rfl (As := []) (st := []) rfl B_23 S_23 rfl (gc_lV6 hws rfl) (Nat.le_of_ble_eq_true rfl) (gz_Ev_mono (d := 2) (by decide) E56) ?_
    show gv_X _ _ (88, [(1, .inl z29), (0, .inr (.inr (some 39)))], [], sh, gc_h sh I58 J59 A)
    refine gv_run 1 true hD (pc' := 89) (lv' := [(1, .inl z29), (0, .inr (.inr (some 39)))]) (st' := [.inl 1]) (h' := gc_h sh I58 J59 A) (C := (True ∧ True)) rfl ⟨trivial, trivial⟩ ?_
    exact gv_zret hD rfl (by omega) ⟨I58, J59, rfl, hI58, FI58, FJ59, KLT_I58, KTK_I58, ⟨_, rfl, by omega⟩⟩
  · show gv_X _ _ (21, [(0, .inr (.inr (some 39)))], [], sh, gc_h sh I20 J11 A)
    refine gv_run 1 true hD (pc' := 22) (lv' := [(0, .inr (.inr (some 39)))]) (st' := [.inl 0]) (h' := gc_h sh I20 J11 A) (C := (True ∧ True)) rfl ⟨trivial, trivial⟩ ?_
    exact gv_zret hD rfl (by omega) ⟨I20, J11, rfl, hI20, FI20, FJ11, KLT_I20, KTK_I20, ⟨_, rfl, by omega⟩⟩
set_option maxHeartbeats 4000000 in
set_option maxRecDepth 100000 in
theorem d_X6_readPattern {ws0 : List Cond} {tb : String → gz_T} (hws : gc_Ws ws0) (htb : gc_tbs tb) (sh : gz_Sh) (ro : Nat → Nat) (I : gr_I) (J : gr_J) (A : gc_A) (hI : gc_Inv ro I) (t : Nat) (B : Int)  (hb : gc_Base sh ro A) (h_t : gc_isTongue sh ro A t) (G_t : 144 ≤ t)  (x0 : B ≤ 1280 ∧ I 1 17 + I 23 1 ≤ B + I 23 5) (x1 : I 39 2 = (t : Int)) (KLT_I : gc_LT I) (KTK_I : gc_TK I) : ∃ r h', gz_Ev ws0 tb 5 (yX6_readPattern, cX6_readPattern, 6, (some .boolean)) [.inr (.inr (some 39))] sh (gc_h sh I J A) r sh h' 0 0 ∧ (∃ (I' : gr_I) (J' : gr_J), h' = gc_h sh I' J' A ∧ gc_Inv ro I' ∧ (∀ q j : Nat, ((q = 39 ∧ j = 3) ∨ (q = 39 ∧ j = 4) ∨ (q = 23 ∧ j = 5) ∨ (q = 23 ∧ j = 6) ∨ (q = 23 ∧ j = 7) ∨ (q = 23 ∧ j = 8) ∨ (q = 1 ∧ j = 17) ∨ (q = 1 ∧ j = 18) ∨ q = 20 ∨ (q = 39 ∧ j = 6) ∨ (q = 39 ∧ j = 8) ∨ q = 40 ∨ (q = 41 ∧ j = 0) ∨ (q = 41 ∧ j = 1) ∨ (q = 41 ∧ j = 2) ∨ q = (t + 13) ∨ q = (t + 14) ∨ (q = (t + 11) ∧ j = 1)) ∨ I' q j = I q j) ∧ (∀ q j : Nat, ((q = 23 ∧ j = 9) ∨ q = (t + 12)) ∨ J' q j = J q j) ∧ gc_LT I' ∧ gc_TK I' ∧ (∃ z : Int, r = some (.inl z) ∧ 0 ≤ z ∧ z ≤ 1 ∧ (I' 23 1 = I 23 1) ∧ (I 23 5 ≤ I' 23 5) ∧ (B ≤ 1280 ∧ I' 1 17 + I' 23 1 ≤ B + I' 23 5))) := by
  have FI : ∀ q j : Nat, ((q = 39 ∧ j = 3) ∨ (q = 39 ∧ j = 4) ∨ (q = 23 ∧ j = 5) ∨ (q = 23 ∧ j = 6) ∨ (q = 23 ∧ j = 7) ∨ (q = 23 ∧ j = 8) ∨ (q = 1 ∧ j = 17) ∨ (q = 1 ∧ j = 18) ∨ q = 20 ∨ (q = 39 ∧ j = 6) ∨ (q = 39 ∧ j = 8) ∨ q = 40 ∨ (q = 41 ∧ j = 0) ∨ (q = 41 ∧ j = 1) ∨ (q = 41 ∧ j = 2) ∨ q = (t + 13) ∨ q = (t + 14) ∨ (q = (t + 11) ∧ j = 1)) ∨ I q j = I q j := fun _ _ => Or.inr rfl
  have FJ : ∀ q j : Nat, ((q = 23 ∧ j = 9) ∨ q = (t + 12)) ∨ J q j = J q j := fun _ _ => Or.inr rfl
  have A_39_1 : A 39 1 = some 23 := gc_bA hb rfl
  have A_39_9 : A 39 9 = some 40 := gc_bA hb rfl
  have B_23 : 23 < 1000000 := by decide
  have B_39 : 39 < 1000000 := by decide
  have B_40 : 40 < 1000000 := by decide
  have R_1 : ro 1 = 22 := gc_bR hb (by decide) rfl
  have R_23 : ro 23 = 3 := gc_bR hb (by decide) rfl
  have R_39 : ro 39 = 42 := gc_bR hb (by decide) rfl
  have R_40 : ro 40 = 39 := gc_bR hb (by decide) rfl
  have R_41 : ro 41 = 0 := gc_bR hb (by decide) rfl
  have S_23 : sh[23]? = some (false, 9, 10) := gc_bS hb rfl
  have S_39 : sh[39]? = some (false, 6, 19) := gc_bS hb rfl
  have S_40 : sh[40]? = some (true, 1, 72) := gc_bS hb rfl
  obtain ⟨S_t, R_t, B_t, A_t_0, h_t_1, A_t_1, h_t_3, A_t_2, S_t_5, R_t_5, B_t_5, A_t_3, S_t_6, R_t_6, B_t_6, A_t_4, h_t_7, A_t_5, S_t_9, R_t_9, B_t_9, A_t_7, S_t_10, R_t_10, B_t_10, A_t_8, h_t_11, A_t_9, S_t_13, R_t_13, B_t_13, A_t_10, S_t_14, R_t_14, B_t_14, A_t_12, S_t_15, R_t_15, B_t_15, A_t_14, S_t_16, R_t_16, B_t_16, A_t_15, h_t_17⟩ := id h_t
  obtain ⟨S_t_1, R_t_1, B_t_1, A_t_1_0, S_t_1_1, R_t_1_1, B_t_1_1, Q0_t_1, Q1_t_1, Q2_t_1⟩ := id h_t_1
  obtain ⟨S_t_3, R_t_3, B_t_3, A_t_3_0, S_t_3_1, R_t_3_1, B_t_3_1, Q0_t_3, Q1_t_3, Q2_t_3⟩ := id h_t_3
  obtain ⟨S_t_7, R_t_7, B_t_7, A_t_7_0, S_t_7_1, R_t_7_1, B_t_7_1, Q0_t_7, Q1_t_7, Q2_t_7⟩ := id h_t_7
  obtain ⟨S_t_11, R_t_11, B_t_11, A_t_11_0, S_t_11_1, R_t_11_1, B_t_11_1, Q0_t_11, Q1_t_11, Q2_t_11⟩ := id h_t_11
  obtain ⟨S_t_17, R_t_17, B_t_17, A_t_17_0, S_20, R_20, B_20, A_t_17_1, S_t_17_1, R_t_17_1, B_t_17_1, A_t_17_2, S_t_17_2, R_t_17_2, B_t_17_2, A_t_17_3, S_t_17_3, R_t_17_3, B_t_17_3, A_t_17_4, S_t_17_4, R_t_17_4, B_t_17_4, A_t_17_5, S_t_17_5, R_t_17_5, B_t_17_5, S_t_17_6, R_t_17_6, B_t_17_6, S_t_17_7, R_t_17_7, B_t_17_7⟩ := id h_t_17
  have hD : gv_D (gc_E6 ws0 tb 4 (yX6_readPattern, cX6_readPattern, 6, (some .boolean)) kX6_readPattern) := gq_ok oX6_readPattern
  refine gc_ev6 (d := 4) (l := kX6_readPattern) (Po := fun r h' => (∃ (I' : gr_I) (J' : gr_J), h' = gc_h sh I' J' A ∧ gc_Inv ro I' ∧ (∀ q j : Nat, ((q = 39 ∧ j = 3) ∨ (q = 39 ∧ j = 4) ∨ (q = 23 ∧ j = 5) ∨ (q = 23 ∧ j = 6) ∨ (q = 23 ∧ j = 7) ∨ (q = 23 ∧ j = 8) ∨ (q = 1 ∧ j = 17) ∨ (q = 1 ∧ j = 18) ∨ q = 20 ∨ (q = 39 ∧ j = 6) ∨ (q = 39 ∧ j = 8) ∨ q = 40 ∨ (q = 41 ∧ j = 0) ∨ (q = 41 ∧ j = 1) ∨ (q = 41 ∧ j = 2) ∨ q = (t + 13) ∨ q = (t + 14) ∨ (q = (t + 11) ∧ j = 1)) ∨ I' q j = I q j) ∧ (∀ q j : Nat, ((q = 23 ∧ j = 9) ∨ q = (t + 12)) ∨ J' q j = J q j) ∧ gc_LT I' ∧ gc_TK I' ∧ (∃ z : Int, r = some (.inl z) ∧ 0 ≤ z ∧ z ≤ 1 ∧ (I' 23 1 = I 23 1) ∧ (I 23 5 ≤ I' 23 5) ∧ (B ≤ 1280 ∧ I' 1 17 + I' 23 1 ≤ B + I' 23 5)))) htb rfl (Nat.le_of_ble_eq_true rfl) ?_
  have N_23__t_11 : ¬ (23 = (t + 11)) := by omega
  have N_41__t_11 : ¬ (41 = (t + 11)) := by omega
  have N_24__t_11 : ¬ (24 = (t + 11)) := by omega
  have N_23__t_13 : ¬ (23 = (t + 13)) := by omega
  have N_1__t_13 : ¬ (1 = (t + 13)) := by omega
  have N_t_11__t_13 : ¬ ((t + 11) = (t + 13)) := by omega
  have N_41__t_13 : ¬ (41 = (t + 13)) := by omega
  have N_39__t_13 : ¬ (39 = (t + 13)) := by omega
  have N_24__t_13 : ¬ (24 = (t + 13)) := by omega
  have N_23__t_14 : ¬ (23 = (t + 14)) := by omega
  have N_24__t_14 : ¬ (24 = (t + 14)) := by omega
  have N_1__t_14 : ¬ (1 = (t + 14)) := by omega
  have N_t_11__t_14 : ¬ ((t + 11) = (t + 14)) := by omega
  have N_41__t_14 : ¬ (41 = (t + 14)) := by omega
  have N_39__t_14 : ¬ (39 = (t + 14)) := by omega
  have N_t_11__20 : ¬ ((t + 11) = 20) := by omega
  have N_t_11__41 : ¬ ((t + 11) = 41) := by omega
  have N_t_11__40 : ¬ ((t + 11) = 40) := by omega
  have t1 := gc_TK_mo KTK_I
  have f2 := (show 0 ≤ I 23 1 ∧ I 23 1 ≤ 1000 from gc_in hI R_23 rfl rfl)
  have f3 := (show 0 ≤ I 23 5 ∧ I 23 5 ≤ 1000 from gc_in hI R_23 rfl rfl)
  have f4 := (show 0 ≤ I 23 6 ∧ I 23 6 ≤ 1001 from gc_in hI R_23 rfl rfl)
  have f5 := (show 0 ≤ I 23 7 ∧ I 23 7 ≤ 125 from gc_in hI R_23 rfl rfl)
  have f6 := (show 0 ≤ I 1 17 ∧ I 1 17 ≤ 12000 from gc_in hI R_1 rfl rfl)
  have f7 := (show 0 ≤ I (t + 11) 1 ∧ I (t + 11) 1 ≤ 24 from gc_in hI R_t_11 rfl rfl)
  have f8 := (show (-2147483648) ≤ I 41 0 ∧ I 41 0 ≤ 2147483647 from gc_in hI R_41 rfl rfl)
  have f9 := (show (-2147483648) ≤ I 41 1 ∧ I 41 1 ≤ 2147483647 from gc_in hI R_41 rfl rfl)
  have f10 := (show (-2147483648) ≤ I 41 2 ∧ I 41 2 ≤ 2147483647 from gc_in hI R_41 rfl rfl)
  have f11 := (show (-1) ≤ I 39 2 ∧ I 39 2 ≤ 999999 from gc_in hI R_39 rfl rfl)
  have L55 : ∀ (I12 : gr_I) (J13 : gr_J) (v1_14 : Int64), gc_Inv ro I12 → (∀ q j : Nat, ((q = 39 ∧ j = 3) ∨ (q = 39 ∧ j = 4) ∨ (q = 23 ∧ j = 5) ∨ (q = 23 ∧ j = 6) ∨ (q = 23 ∧ j = 7) ∨ (q = 23 ∧ j = 8) ∨ (q = 1 ∧ j = 17) ∨ (q = 1 ∧ j = 18) ∨ q = 20 ∨ (q = 39 ∧ j = 6) ∨ (q = 39 ∧ j = 8) ∨ q = 40 ∨ (q = 41 ∧ j = 0) ∨ (q = 41 ∧ j = 1) ∨ (q = 41 ∧ j = 2) ∨ q = (t + 13) ∨ q = (t + 14) ∨ (q = (t + 11) ∧ j = 1)) ∨ I12 q j = I q j) → (∀ q j : Nat, ((q = 23 ∧ j = 9) ∨ q = (t + 12)) ∨ J13 q j = J q j) → gc_LT I12 → gc_TK I12 → ((I12 23 1 = I 23 1) ∧ (I 23 5 ≤ I12 23 5) ∧ (B ≤ 1280 ∧ I12 1 17 + I12 23 1 ≤ B + I12 23 5) ∧ (I12 39 2 = (t : Int))) → gv_X (gc_E6 ws0 tb 4 (yX6_readPattern, cX6_readPattern, 6, (some .boolean)) kX6_readPattern) (gv_Q cX6_readPattern (some .boolean) sh (fun r h' => (∃ (I' : gr_I) (J' : gr_J), h' = gc_h sh I' J' A ∧ gc_Inv ro I' ∧ (∀ q j : Nat, ((q = 39 ∧ j = 3) ∨ (q = 39 ∧ j = 4) ∨ (q = 23 ∧ j = 5) ∨ (q = 23 ∧ j = 6) ∨ (q = 23 ∧ j = 7) ∨ (q = 23 ∧ j = 8) ∨ (q = 1 ∧ j = 17) ∨ (q = 1 ∧ j = 18) ∨ q = 20 ∨ (q = 39 ∧ j = 6) ∨ (q = 39 ∧ j = 8) ∨ q = 40 ∨ (q = 41 ∧ j = 0) ∨ (q = 41 ∧ j = 1) ∨ (q = 41 ∧ j = 2) ∨ q = (t + 13) ∨ q = (t + 14) ∨ (q = (t + 11) ∧ j = 1)) ∨ I' q j = I q j) ∧ (∀ q j : Nat, ((q = 23 ∧ j = 9) ∨ q = (t + 12)) ∨ J' q j = J q j) ∧ gc_LT I' ∧ gc_TK I' ∧ (∃ z : Int, r = some (.inl z) ∧ 0 ≤ z ∧ z ≤ 1 ∧ (I' 23 1 = I 23 1) ∧ (I 23 5 ≤ I' 23 5) ∧ (B ≤ 1280 ∧ I' 1 17 + I' 23 1 ≤ B + I' 23 5))))) (55, [(0, .inr (.inr (some 39))), (1, .inr (.inl v1_14))], [], sh, gc_h sh I12 J13 A) := by
    intro I12 J13 v1_14 hI12 FI12 FJ13 KLT_I12 KTK_I12 m_14
    obtain ⟨e0_14, e1_14, e2_14, e3_14⟩ := m_14
    have t15 := gc_TK_mo KTK_I12
    have f16 := (show 0 ≤ I12 23 1 ∧ I12 23 1 ≤ 1000 from gc_in hI12 R_23 rfl rfl)
    have f17 := (show 0 ≤ I12 23 5 ∧ I12 23 5 ≤ 1000 from gc_in hI12 R_23 rfl rfl)
    have f18 := (show 0 ≤ I12 23 6 ∧ I12 23 6 ≤ 1001 from gc_in hI12 R_23 rfl rfl)
    have f19 := (show 0 ≤ I12 23 7 ∧ I12 23 7 ≤ 125 from gc_in hI12 R_23 rfl rfl)
    have f20 := (show 0 ≤ I12 1 17 ∧ I12 1 17 ≤ 12000 from gc_in hI12 R_1 rfl rfl)
    have f21 := (show 0 ≤ I12 (t + 11) 1 ∧ I12 (t + 11) 1 ≤ 24 from gc_in hI12 R_t_11 rfl rfl)
    have f22 := (show (-2147483648) ≤ I12 41 0 ∧ I12 41 0 ≤ 2147483647 from gc_in hI12 R_41 rfl rfl)
    have f23 := (show (-2147483648) ≤ I12 41 1 ∧ I12 41 1 ≤ 2147483647 from gc_in hI12 R_41 rfl rfl)
    have f24 := (show (-2147483648) ≤ I12 41 2 ∧ I12 41 2 ≤ 2147483647 from gc_in hI12 R_41 rfl rfl)
    have f25 := (show (-1) ≤ I12 39 2 ∧ I12 39 2 ≤ 999999 from gc_in hI12 R_39 rfl rfl)
    have L74 : ∀ (n9 : Nat) (I26 : gr_I) (J27 : gr_J) (v3_28 : Int) (v4_28 : Int) (v5_28 : Int), (1001 - v5_28).toNat < n9 → gc_Inv ro I26 → (∀ q j : Nat, ((q = 39 ∧ j = 3) ∨ (q = 39 ∧ j = 4) ∨ (q = 23 ∧ j = 5) ∨ (q = 23 ∧ j = 6) ∨ (q = 23 ∧ j = 7) ∨ (q = 23 ∧ j = 8) ∨ (q = 1 ∧ j = 17) ∨ (q = 1 ∧ j = 18) ∨ q = 20 ∨ (q = 39 ∧ j = 6) ∨ (q = 39 ∧ j = 8) ∨ q = 40 ∨ (q = 41 ∧ j = 0) ∨ (q = 41 ∧ j = 1) ∨ (q = 41 ∧ j = 2) ∨ q = (t + 13) ∨ q = (t + 14) ∨ (q = (t + 11) ∧ j = 1)) ∨ I26 q j = I q j) → (∀ q j : Nat, ((q = 23 ∧ j = 9) ∨ q = (t + 12)) ∨ J27 q j = J q j) → gc_LT I26 → gc_TK I26 → ((0 ≤ v3_28 ∧ v3_28 ≤ 1) ∧ (0 ≤ v4_28 ∧ v4_28 ≤ 1) ∧ (0 ≤ v5_28 ∧ v5_28 ≤ 1000) ∧ (I26 23 1 = I 23 1) ∧ (I 23 5 ≤ I26 23 5) ∧ (B ≤ 1280 ∧ I26 1 17 + I26 23 1 ≤ B + I26 23 5) ∧ (I26 39 2 = (t : Int))) → gv_X (gc_E6 ws0 tb 4 (yX6_readPattern, cX6_readPattern, 6, (some .boolean)) kX6_readPattern) (gv_Q cX6_readPattern (some .boolean) sh (fun r h' => (∃ (I' : gr_I) (J' : gr_J), h' = gc_h sh I' J' A ∧ gc_Inv ro I' ∧ (∀ q j : Nat, ((q = 39 ∧ j = 3) ∨ (q = 39 ∧ j = 4) ∨ (q = 23 ∧ j = 5) ∨ (q = 23 ∧ j = 6) ∨ (q = 23 ∧ j = 7) ∨ (q = 23 ∧ j = 8) ∨ (q = 1 ∧ j = 17) ∨ (q = 1 ∧ j = 18) ∨ q = 20 ∨ (q = 39 ∧ j = 6) ∨ (q = 39 ∧ j = 8) ∨ q = 40 ∨ (q = 41 ∧ j = 0) ∨ (q = 41 ∧ j = 1) ∨ (q = 41 ∧ j = 2) ∨ q = (t + 13) ∨ q = (t + 14) ∨ (q = (t + 11) ∧ j = 1)) ∨ I' q j = I q j) ∧ (∀ q j : Nat, ((q = 23 ∧ j = 9) ∨ q = (t + 12)) ∨ J' q j = J q j) ∧ gc_LT I' ∧ gc_TK I' ∧ (∃ z : Int, r = some (.inl z) ∧ 0 ≤ z ∧ z ≤ 1 ∧ (I' 23 1 = I 23 1) ∧ (I 23 5 ≤ I' 23 5) ∧ (B ≤ 1280 ∧ I' 1 17 + I' 23 1 ≤ B + I' 23 5))))) (74, [(0, .inr (.inr (some 39))), (1, .inr (.inl v1_14)), (3, .inl v3_28), (4, .inl v4_28), (5, .inl v5_28)], [], sh, gc_h sh I26 J27 A) := by
      intro n9
      induction n9 with
      | zero => intro I26 J27 v3_28 v4_28 v5_28 hn; omega
      | succ n9 ih74 =>
        intro I26 J27 v3_28 v4_28 v5_28 hn hI26 FI26 FJ27 KLT_I26 KTK_I26 m_28
        clear e0_14 e1_14 e2_14 e3_14 t15 f16 f17 f18 f19 f20 f21 f22 f23 f24 f25
        obtain ⟨hv3_28, hv4_28, hv5_28, e0_28, e1_28, e2_28, e3_28⟩ := m_28
        have t29 := gc_TK_mo KTK_I26
        have f30 := (show 0 ≤ I26 23 1 ∧ I26 23 1 ≤ 1000 from gc_in hI26 R_23 rfl rfl)
        have f31 := (show 0 ≤ I26 23 5 ∧ I26 23 5 ≤ 1000 from gc_in hI26 R_23 rfl rfl)
        have f32 := (show 0 ≤ I26 23 6 ∧ I26 23 6 ≤ 1001 from gc_in hI26 R_23 rfl rfl)
        have f33 := (show 0 ≤ I26 23 7 ∧ I26 23 7 ≤ 125 from gc_in hI26 R_23 rfl rfl)
        have f34 := (show 0 ≤ I26 1 17 ∧ I26 1 17 ≤ 12000 from gc_in hI26 R_1 rfl rfl)
        have f35 := (show 0 ≤ I26 (t + 11) 1 ∧ I26 (t + 11) 1 ≤ 24 from gc_in hI26 R_t_11 rfl rfl)
        have f36 := (show (-2147483648) ≤ I26 41 0 ∧ I26 41 0 ≤ 2147483647 from gc_in hI26 R_41 rfl rfl)
        have f37 := (show (-2147483648) ≤ I26 41 1 ∧ I26 41 1 ≤ 2147483647 from gc_in hI26 R_41 rfl rfl)
        have f38 := (show (-2147483648) ≤ I26 41 2 ∧ I26 41 2 ≤ 2147483647 from gc_in hI26 R_41 rfl rfl)
        have f39 := (show (-1) ≤ I26 39 2 ∧ I26 39 2 ≤ 999999 from gc_in hI26 R_39 rfl rfl)
        have L112 : ∀ (I40 : gr_I) (J41 : gr_J) (s0_42 : Int), gc_Inv ro I40 → (∀ q j : Nat, ((q = 39 ∧ j = 3) ∨ (q = 39 ∧ j = 4) ∨ (q = 23 ∧ j = 5) ∨ (q = 23 ∧ j = 6) ∨ (q = 23 ∧ j = 7) ∨ (q = 23 ∧ j = 8) ∨ (q = 1 ∧ j = 17) ∨ (q = 1 ∧ j = 18) ∨ q = 20 ∨ (q = 39 ∧ j = 6) ∨ (q = 39 ∧ j = 8) ∨ q = 40 ∨ (q = 41 ∧ j = 0) ∨ (q = 41 ∧ j = 1) ∨ (q = 41 ∧ j = 2) ∨ q = (t + 13) ∨ q = (t + 14) ∨ (q = (t + 11) ∧ j = 1)) ∨ I40 q j = I q j) → (∀ q j : Nat, ((q = 23 ∧ j = 9) ∨ q = (t + 12)) ∨ J41 q j = J q j) → gc_LT I40 → gc_TK I40 → ((0 ≤ v5_28 ∧ v5_28 ≤ 999) ∧ (0 ≤ s0_42 ∧ s0_42 ≤ 1) ∧ (I40 23 1 = I 23 1) ∧ (I 23 5 ≤ I40 23 5) ∧ (B ≤ 1280 ∧ I40 1 17 + I40 23 1 ≤ B + I40 23 5) ∧ (I40 39 2 = (t : Int))) → gv_X (gc_E6 ws0 tb 4 (yX6_readPattern, cX6_readPattern, 6, (some .boolean)) kX6_readPattern) (gv_Q cX6_readPattern (some .boolean) sh (fun r h' => (∃ (I' : gr_I) (J' : gr_J), h' = gc_h sh I' J' A ∧ gc_Inv ro I' ∧ (∀ q j : Nat, ((q = 39 ∧ j = 3) ∨ (q = 39 ∧ j = 4) ∨ (q = 23 ∧ j = 5) ∨ (q = 23 ∧ j = 6) ∨ (q = 23 ∧ j = 7) ∨ (q = 23 ∧ j = 8) ∨ (q = 1 ∧ j = 17) ∨ (q = 1 ∧ j = 18) ∨ q = 20 ∨ (q = 39 ∧ j = 6) ∨ (q = 39 ∧ j = 8) ∨ q = 40 ∨ (q = 41 ∧ j = 0) ∨ (q = 41 ∧ j = 1) ∨ (q = 41 ∧ j = 2) ∨ q = (t + 13) ∨ q = (t + 14) ∨ (q = (t + 11) ∧ j = 1)) ∨ I' q j = I q j) ∧ (∀ q j : Nat, ((q = 23 ∧ j = 9) ∨ q = (t + 12)) ∨ J' q j = J q j) ∧ gc_LT I' ∧ gc_TK I' ∧ (∃ z : Int, r = some (.inl z) ∧ 0 ≤ z ∧ z ≤ 1 ∧ (I' 23 1 = I 23 1) ∧ (I 23 5 ≤ I' 23 5) ∧ (B ≤ 1280 ∧ I' 1 17 + I' 23 1 ≤ B + I' 23 5))))) (112, [(0, .inr (.inr (some 39))), (1, .inr (.inl v1_14)), (5, .inl v5_28)], [.inl s0_42], sh, gc_h sh I40 J41 A) := by
          intro I40 J41 s0_42 hI40 FI40 FJ41 KLT_I40 KTK_I40 m_42
          clear hv3_28 hv4_28 hv5_28 e0_28 e1_28 e2_28 e3_28 t29 f30 f31 f32 f33 f34 f35 f36 f37 f38 f39
          obtain ⟨hv5_28_42, hs0_42, e0_42, e1_42, e2_42, e3_42⟩ := m_42
          have t43 := gc_TK_mo KTK_I40
          have f44 := (show 0 ≤ I40 23 1 ∧ I40 23 1 ≤ 1000 from gc_in hI40 R_23 rfl rfl)
          have f45 := (show 0 ≤ I40 23 5 ∧ I40 23 5 ≤ 1000 from gc_in hI40 R_23 rfl rfl)
          have f46 := (show 0 ≤ I40 23 6 ∧ I40 23 6 ≤ 1001 from gc_in hI40 R_23 rfl rfl)
          have f47 := (show 0 ≤ I40 23 7 ∧ I40 23 7 ≤ 125 from gc_in hI40 R_23 rfl rfl)
          have f48 := (show 0 ≤ I40 1 17 ∧ I40 1 17 ≤ 12000 from gc_in hI40 R_1 rfl rfl)
          have f49 := (show 0 ≤ I40 (t + 11) 1 ∧ I40 (t + 11) 1 ≤ 24 from gc_in hI40 R_t_11 rfl rfl)
          have f50 := (show (-2147483648) ≤ I40 41 0 ∧ I40 41 0 ≤ 2147483647 from gc_in hI40 R_41 rfl rfl)
          have f51 := (show (-2147483648) ≤ I40 41 1 ∧ I40 41 1 ≤ 2147483647 from gc_in hI40 R_41 rfl rfl)
          have f52 := (show (-2147483648) ≤ I40 41 2 ∧ I40 41 2 ≤ 2147483647 from gc_in hI40 R_41 rfl rfl)
          have f53 := (show (-1) ≤ I40 39 2 ∧ I40 39 2 ≤ 999999 from gc_in hI40 R_39 rfl rfl)
          have L130 : ∀ (v3_54 : Int) (s0_54 : Int), ((0 ≤ v3_54 ∧ v3_54 ≤ 1) ∧ (0 ≤ v5_28 ∧ v5_28 ≤ 999) ∧ (0 ≤ s0_54 ∧ s0_54 ≤ 1) ∧ (s0_54 = 0 ∨ I40 23 7 = 44) ∧ (I40 23 1 = I 23 1) ∧ (I 23 5 ≤ I40 23 5) ∧ (B ≤ 1280 ∧ I40 1 17 + I40 23 1 ≤ B + I40 23 5) ∧ (I40 39 2 = (t : Int))) → gv_X (gc_E6 ws0 tb 4 (yX6_readPattern, cX6_readPattern, 6, (some .boolean)) kX6_readPattern) (gv_Q cX6_readPattern (some .boolean) sh (fun r h' => (∃ (I' : gr_I) (J' : gr_J), h' = gc_h sh I' J' A ∧ gc_Inv ro I' ∧ (∀ q j : Nat, ((q = 39 ∧ j = 3) ∨ (q = 39 ∧ j = 4) ∨ (q = 23 ∧ j = 5) ∨ (q = 23 ∧ j = 6) ∨ (q = 23 ∧ j = 7) ∨ (q = 23 ∧ j = 8) ∨ (q = 1 ∧ j = 17) ∨ (q = 1 ∧ j = 18) ∨ q = 20 ∨ (q = 39 ∧ j = 6) ∨ (q = 39 ∧ j = 8) ∨ q = 40 ∨ (q = 41 ∧ j = 0) ∨ (q = 41 ∧ j = 1) ∨ (q = 41 ∧ j = 2) ∨ q = (t + 13) ∨ q = (t + 14) ∨ (q = (t + 11) ∧ j = 1)) ∨ I' q j = I q j) ∧ (∀ q j : Nat, ((q = 23 ∧ j = 9) ∨ q = (t + 12)) ∨ J' q j = J q j) ∧ gc_LT I' ∧ gc_TK I' ∧ (∃ z : Int, r = some (.inl z) ∧ 0 ≤ z ∧ z ≤ 1 ∧ (I' 23 1 = I 23 1) ∧ (I 23 5 ≤ I' 23 5) ∧ (B ≤ 1280 ∧ I' 1 17 + I' 23 1 ≤ B + I' 23 5))))) (130, [(0, .inr (.inr (some 39))), (1, .inr (.inl v1_14)), (3, .inl v3_54), (5, .inl v5_28)], [.inl s0_54], sh, gc_h sh I40 J41 A) := by
            intro v3_54 s0_54 m_54
            obtain ⟨hv3_54, hv5_28_54, hs0_54, e0_54, e1_54, e2_54, e3_54, e4_54⟩ := m_54
            have t55 := gc_TK_mo KTK_I40
            have f56 := (show 0 ≤ I40 23 1 ∧ I40 23 1 ≤ 1000 from gc_in hI40 R_23 rfl rfl)
            have f57 := (show 0 ≤ I40 23 5 ∧ I40 23 5 ≤ 1000 from gc_in hI40 R_23 rfl rfl)
            have f58 := (show 0 ≤ I40 23 6 ∧ I40 23 6 ≤ 1001 from gc_in hI40 R_23 rfl rfl)
            have f59 := (show 0 ≤ I40 23 7 ∧ I40 23 7 ≤ 125 from gc_in hI40 R_23 rfl rfl)
            have f60 := (show 0 ≤ I40 1 17 ∧ I40 1 17 ≤ 12000 from gc_in hI40 R_1 rfl rfl)
            have f61 := (show 0 ≤ I40 (t + 11) 1 ∧ I40 (t + 11) 1 ≤ 24 from gc_in hI40 R_t_11 rfl rfl)
            have f62 := (show (-2147483648) ≤ I40 41 0 ∧ I40 41 0 ≤ 2147483647 from gc_in hI40 R_41 rfl rfl)
            have f63 := (show (-2147483648) ≤ I40 41 1 ∧ I40 41 1 ≤ 2147483647 from gc_in hI40 R_41 rfl rfl)
            have f64 := (show (-2147483648) ≤ I40 41 2 ∧ I40 41 2 ≤ 2147483647 from gc_in hI40 R_41 rfl rfl)
            have f65 := (show (-1) ≤ I40 39 2 ∧ I40 39 2 ≤ 999999 from gc_in hI40 R_39 rfl rfl)
            have L144 : ∀ (I66 : gr_I) (J67 : gr_J) (v4_68 : Int), gc_Inv ro I66 → (∀ q j : Nat, ((q = 39 ∧ j = 3) ∨ (q = 39 ∧ j = 4) ∨ (q = 23 ∧ j = 5) ∨ (q = 23 ∧ j = 6) ∨ (q = 23 ∧ j = 7) ∨ (q = 23 ∧ j = 8) ∨ (q = 1 ∧ j = 17) ∨ (q = 1 ∧ j = 18) ∨ q = 20 ∨ (q = 39 ∧ j = 6) ∨ (q = 39 ∧ j = 8) ∨ q = 40 ∨ (q = 41 ∧ j = 0) ∨ (q = 41 ∧ j = 1) ∨ (q = 41 ∧ j = 2) ∨ q = (t + 13) ∨ q = (t + 14) ∨ (q = (t + 11) ∧ j = 1)) ∨ I66 q j = I q j) → (∀ q j : Nat, ((q = 23 ∧ j = 9) ∨ q = (t + 12)) ∨ J67 q j = J q j) → gc_LT I66 → gc_TK I66 → ((0 ≤ v3_54 ∧ v3_54 ≤ 1) ∧ (0 ≤ v4_68 ∧ v4_68 ≤ 1) ∧ (0 ≤ v5_28 ∧ v5_28 ≤ 999) ∧ (I66 23 1 = I 23 1) ∧ (I 23 5 ≤ I66 23 5) ∧ (B ≤ 1280 ∧ I66 1 17 + I66 23 1 ≤ B + I66 23 5) ∧ (I66 39 2 = (t : Int))) → gv_X (gc_E6 ws0 tb 4 (yX6_readPattern, cX6_readPattern, 6, (some .boolean)) kX6_readPattern) (gv_Q cX6_readPattern (some .boolean) sh (fun r h' => (∃ (I' : gr_I) (J' : gr_J), h' = gc_h sh I' J' A ∧ gc_Inv ro I' ∧ (∀ q j : Nat, ((q = 39 ∧ j = 3) ∨ (q = 39 ∧ j = 4) ∨ (q = 23 ∧ j = 5) ∨ (q = 23 ∧ j = 6) ∨ (q = 23 ∧ j = 7) ∨ (q = 23 ∧ j = 8) ∨ (q = 1 ∧ j = 17) ∨ (q = 1 ∧ j = 18) ∨ q = 20 ∨ (q = 39 ∧ j = 6) ∨ (q = 39 ∧ j = 8) ∨ q = 40 ∨ (q = 41 ∧ j = 0) ∨ (q = 41 ∧ j = 1) ∨ (q = 41 ∧ j = 2) ∨ q = (t + 13) ∨ q = (t + 14) ∨ (q = (t + 11) ∧ j = 1)) ∨ I' q j = I q j) ∧ (∀ q j : Nat, ((q = 23 ∧ j = 9) ∨ q = (t + 12)) ∨ J' q j = J q j) ∧ gc_LT I' ∧ gc_TK I' ∧ (∃ z : Int, r = some (.inl z) ∧ 0 ≤ z ∧ z ≤ 1 ∧ (I' 23 1 = I 23 1) ∧ (I 23 5 ≤ I' 23 5) ∧ (B ≤ 1280 ∧ I' 1 17 + I' 23 1 ≤ B + I' 23 5))))) (144, [(0, .inr (.inr (some 39))), (1, .inr (.inl v1_14)), (3, .inl v3_54), (4, .inl v4_68), (5, .inl v5_28)], [], sh, gc_h sh I66 J67 A) := by
              intro I66 J67 v4_68 hI66 FI66 FJ67 KLT_I66 KTK_I66 m_68
              clear hv3_54 hv5_28_54 hs0_54 e0_54 e1_54 e2_54 e3_54 e4_54 t55 f56 f57 f58 f59 f60 f61 f62 f63 f64 f65 hv5_28_42 hs0_42 e0_42 e1_42 e2_42 e3_42 t43 f44 f45 f46 f47 f48 f49 f50 f51 f52 f53
              obtain ⟨hv3_54_68, hv4_68, hv5_28_68, e0_68, e1_68, e2_68, e3_68⟩ := m_68
              have t69 := gc_TK_mo KTK_I66
              have f70 := (show 0 ≤ I66 23 1 ∧ I66 23 1 ≤ 1000 from gc_in hI66 R_23 rfl rfl)
              have f71 := (show 0 ≤ I66 23 5 ∧ I66 23 5 ≤ 1000 from gc_in hI66 R_23 rfl rfl)
              have f72 := (show 0 ≤ I66 23 6 ∧ I66 23 6 ≤ 1001 from gc_in hI66 R_23 rfl rfl)
              have f73 := (show 0 ≤ I66 23 7 ∧ I66 23 7 ≤ 125 from gc_in hI66 R_23 rfl rfl)
              have f74 := (show 0 ≤ I66 1 17 ∧ I66 1 17 ≤ 12000 from gc_in hI66 R_1 rfl rfl)
              have f75 := (show 0 ≤ I66 (t + 11) 1 ∧ I66 (t + 11) 1 ≤ 24 from gc_in hI66 R_t_11 rfl rfl)
              have f76 := (show (-2147483648) ≤ I66 41 0 ∧ I66 41 0 ≤ 2147483647 from gc_in hI66 R_41 rfl rfl)
              have f77 := (show (-2147483648) ≤ I66 41 1 ∧ I66 41 1 ≤ 2147483647 from gc_in hI66 R_41 rfl rfl)
              have f78 := (show (-2147483648) ≤ I66 41 2 ∧ I66 41 2 ≤ 2147483647 from gc_in hI66 R_41 rfl rfl)
              have f79 := (show (-1) ≤ I66 39 2 ∧ I66 39 2 ≤ 999999 from gc_in hI66 R_39 rfl rfl)
              refine gv_run 2 true hD (pc' := 74) (lv' := [(5, .inl (v5_28 + 1)), (0, .inr (.inr (some 39))), (1, .inr (.inl v1_14)), (3, .inl v3_54), (4, .inl v4_68)]) (st' := []) (h' := gc_h sh I66 J67 A) (C := ((True ∧ True) ∧ True)) rfl ⟨⟨trivial, trivial⟩, trivial⟩ ?_
              refine gv_pick [1, 2, 3, 4, 0] rfl ?_
              exact ih74 I66 J67 v3_54 v4_68 (v5_28 + 1) (by omega) hI66 FI66 FJ67 KLT_I66 KTK_I66 (by omega)
            refine gv_run 2 true hD (pc' := 134) (lv' := [(4, .inl s0_54), (0, .inr (.inr (some 39))), (1, .inr (.inl v1_14)), (3, .inl v3_54), (5, .inl v5_28)]) (st' := [.inl s0_54]) (h' := gc_h sh I40 J41 A) (C := ((True ∧ True) ∧ True)) rfl ⟨⟨trivial, trivial⟩, trivial⟩ ?_
            refine gv_if_eq (t := 144) hD rfl rfl ⟨by omega, by omega⟩ (fun c80 => ?_) (fun c80 => ?_)
            · show gv_X _ _ (144, [(4, .inl s0_54), (0, .inr (.inr (some 39))), (1, .inr (.inl v1_14)), (3, .inl v3_54), (5, .inl v5_28)], [], sh, gc_h sh I40 J41 A)
              refine gv_pick [1, 2, 3, 0, 4] rfl ?_
              exact L144 I40 J41 s0_54 hI40 FI40 FJ41 KLT_I40 KTK_I40 (by omega)
            · show gv_X _ _ (137, [(4, .inl s0_54), (0, .inr (.inr (some 39))), (1, .inr (.inl v1_14)), (3, .inl v3_54), (5, .inl v5_28)], [], sh, gc_h sh I40 J41 A)
              refine gv_run 1 true hD (pc' := 138) (lv' := [(4, .inl s0_54), (0, .inr (.inr (some 39))), (1, .inr (.inl v1_14)), (3, .inl v3_54), (5, .inl v5_28)]) (st' := [.inr (.inr (some 39))]) (h' := gc_h sh I40 J41 A) (C := (True ∧ True)) rfl ⟨trivial, trivial⟩ ?_
              refine gv_get hD rfl rfl S_39 ⟨by decide, B_39⟩ (gc_hA S_39 rfl A_39_1) ?_
              show gv_X _ _ (141, [(4, .inl s0_54), (0, .inr (.inr (some 39))), (1, .inr (.inl v1_14)), (3, .inl v3_54), (5, .inl v5_28)], [.inr (.inr (some 23))], sh, gc_h sh I40 J41 A)
              have t82 := gc_TK_nx KTK_I40 (by omega)
              have t83 := gc_TK_st KTK_I40 (by omega)
              obtain ⟨r81, h81, E81, P81⟩ := d_X9_advance (ws0 := ws0) (tb := tb) hws htb sh ro I40 J41 A hI40 23  (gc_b23 hb)    (by omega) 
              obtain ⟨I84, J85, rfl, hI84, g81, k81, ⟨rfl, V81_0, V81_1, V81_2, V81_3, V81_4, q81⟩⟩ := P81
              have FI84 := gc_frc (W := fun q j => (q = 39 ∧ j = 3) ∨ (q = 39 ∧ j = 4) ∨ (q = 23 ∧ j = 5) ∨ (q = 23 ∧ j = 6) ∨ (q = 23 ∧ j = 7) ∨ (q = 23 ∧ j = 8) ∨ (q = 1 ∧ j = 17) ∨ (q = 1 ∧ j = 18) ∨ q = 20 ∨ (q = 39 ∧ j = 6) ∨ (q = 39 ∧ j = 8) ∨ q = 40 ∨ (q = 41 ∧ j = 0) ∨ (q = 41 ∧ j = 1) ∨ (q = 41 ∧ j = 2) ∨ q = (t + 13) ∨ q = (t + 14) ∨ (q = (t + 11) ∧ j = 1)) (V := fun q j => (q = 23 ∧ j = 5) ∨ (q = 23 ∧ j = 6) ∨ (q = 23 ∧ j = 7) ∨ (q = 23 ∧ j = 8)) FI40 (fun q j h => (h.elim (fun h => (Or.inr (Or.inr (Or.inl h)))) (fun h => (h.elim (fun h => (Or.inr (Or.inr (Or.inr (Or.inl h))))) (fun h => (h.elim (fun h => (Or.inr (Or.inr (Or.inr (Or.inr (Or.inl h)))))) (fun h => (Or.inr (Or.inr (Or.inr (Or.inr (Or.inr (Or.inl h))))))))))))) g81
              have FJ85 := gc_frc (W := fun q j => (q = 23 ∧ j = 9) ∨ q = (t + 12)) (V := fun q j => (q = 23 ∧ j = 9)) FJ41 (fun q j h => (Or.inl h)) k81
              have t86 := (g81 23 1).resolve_left (fun h => h.elim (fun h => absurd h.2 (by decide)) (fun h => h.elim (fun h => absurd h.2 (by decide)) (fun h => h.elim (fun h => absurd h.2 (by decide)) (fun h => absurd h.2 (by decide)))))
              have t87 := (g81 1 17).resolve_left (fun h => h.elim (fun h => absurd h.2 (by decide)) (fun h => h.elim (fun h => absurd h.2 (by decide)) (fun h => h.elim (fun h => absurd h.2 (by decide)) (fun h => absurd h.2 (by decide)))))
              have t88 := (g81 (t + 11) 1).resolve_left (fun h => h.elim (fun h => absurd h.2 (by decide)) (fun h => h.elim (fun h => absurd h.2 (by decide)) (fun h => h.elim (fun h => absurd h.2 (by decide)) (fun h => absurd h.2 (by decide)))))
              have t89 := (g81 41 0).resolve_left (fun h => h.elim (fun h => absurd h.2 (by decide)) (fun h => h.elim (fun h => absurd h.2 (by decide)) (fun h => h.elim (fun h => absurd h.2 (by decide)) (fun h => absurd h.2 (by decide)))))
              have t90 := (g81 41 1).resolve_left (fun h => h.elim (fun h => absurd h.2 (by decide)) (fun h => h.elim (fun h => absurd h.2 (by decide)) (fun h => h.elim (fun h => absurd h.2 (by decide)) (fun h => absurd h.2 (by decide)))))
              have t91 := (g81 41 2).resolve_left (fun h => h.elim (fun h => absurd h.2 (by decide)) (fun h => h.elim (fun h => absurd h.2 (by decide)) (fun h => h.elim (fun h => absurd h.2 (by decide)) (fun h => absurd h.2 (by decide)))))
              have t92 := (g81 39 2).resolve_left (fun h => h.elim (fun h => absurd h.2 (by decide)) (fun h => h.elim (fun h => absurd h.2 (by decide)) (fun h => h.elim (fun h => absurd h.2 (by decide)) (fun h => absurd h.2 (by decide)))))
              have f93 := (show 0 ≤ I84 23 5 ∧ I84 23 5 ≤ 1000 from gc_in hI84 R_23 rfl rfl)
              have f94 := (show 0 ≤ I84 23 6 ∧ I84 23 6 ≤ 1001 from gc_in hI84 R_23 rfl rfl)
              have f95 := (show 0 ≤ I84 23 7 ∧ I84 23 7 ≤ 125 from gc_in hI84 R_23 rfl rfl)
              have KLT_I84 : gc_LT I84 := q81.2.2
              have KTK_I84 : gc_TK I84 := And.intro V81_0 (And.intro V81_1 (And.intro V81_2 (And.intro V81_3 V81_4)))
              have t96 := gc_TK_mo KTK_I84
              clear V81_0 V81_1 V81_2 V81_3 V81_4
              refine gv_callV hD rfl (As := []) (st := []) rfl B_23 S_23 rfl (gc_lV6 hws rfl) (Nat.le_of_ble_eq_true rfl) (gz_Ev_mono (d := 2) (by decide) E81) ?_
              show gv_X _ _ (144, [(4, .inl s0_54), (0, .inr (.inr (some 39))), (1, .inr (.inl v1_14)), (3, .inl v3_54), (5, .inl v5_28)], [], sh, gc_h sh I84 J85 A)
              refine gv_pick [1, 2, 3, 0, 4] rfl ?_
              exact L144 I84 J85 s0_54 hI84 FI84 FJ85 KLT_I84 KTK_I84 (by omega)
          refine gv_run 2 true hD (pc' := 114) (lv' := [(3, .inl s0_42), (0, .inr (.inr (some 39))), (1, .inr (.inl v1_14)), (5, .inl v5_28)]) (st' := [.inr (.inr (some 39))]) (h' := gc_h sh I40 J41 A) (C := ((True ∧ True) ∧ True)) rfl ⟨⟨trivial, trivial⟩, trivial⟩ ?_
          refine gv_get hD rfl rfl S_39 ⟨by decide, B_39⟩ (gc_hA S_39 rfl A_39_1) ?_
          show gv_X _ _ (117, [(3, .inl s0_42), (0, .inr (.inr (some 39))), (1, .inr (.inl v1_14)), (5, .inl v5_28)], [.inr (.inr (some 23))], sh, gc_h sh I40 J41 A)
          have f97 := (show 0 ≤ I40 23 7 ∧ I40 23 7 ≤ 125 from gc_in hI40 R_23 rfl rfl)
          refine gv_get hD rfl rfl S_23 ⟨by decide, B_23⟩ (gc_hI S_23 rfl) ?_
          show gv_X _ _ (120, [(3, .inl s0_42), (0, .inr (.inr (some 39))), (1, .inr (.inl v1_14)), (5, .inl v5_28)], [.inl (I40 23 7)], sh, gc_h sh I40 J41 A)
          refine gv_run 1 true hD (pc' := 122) (lv' := [(3, .inl s0_42), (0, .inr (.inr (some 39))), (1, .inr (.inl v1_14)), (5, .inl v5_28)]) (st' := [.inl 44, .inl (I40 23 7)]) (h' := gc_h sh I40 J41 A) (C := (True ∧ True)) rfl ⟨trivial, trivial⟩ ?_
          refine gv_icmp_ne (t := 129) hD rfl rfl ⟨⟨by omega, by omega⟩, ⟨by omega, by omega⟩⟩ (fun c98 => ?_) (fun c98 => ?_)
          · show gv_X _ _ (129, [(3, .inl s0_42), (0, .inr (.inr (some 39))), (1, .inr (.inl v1_14)), (5, .inl v5_28)], [], sh, gc_h sh I40 J41 A)
            refine gv_run 1 true hD (pc' := 130) (lv' := [(3, .inl s0_42), (0, .inr (.inr (some 39))), (1, .inr (.inl v1_14)), (5, .inl v5_28)]) (st' := [.inl 0]) (h' := gc_h sh I40 J41 A) (C := (True ∧ True)) rfl ⟨trivial, trivial⟩ ?_
            refine gv_pick [1, 2, 0, 3] rfl ?_
            exact L130 s0_42 0 (by omega)
          · show gv_X _ _ (125, [(3, .inl s0_42), (0, .inr (.inr (some 39))), (1, .inr (.inl v1_14)), (5, .inl v5_28)], [], sh, gc_h sh I40 J41 A)
            refine gv_run 2 true hD (pc' := 130) (lv' := [(3, .inl s0_42), (0, .inr (.inr (some 39))), (1, .inr (.inl v1_14)), (5, .inl v5_28)]) (st' := [.inl 1]) (h' := gc_h sh I40 J41 A) (C := ((True ∧ True) ∧ True)) rfl ⟨⟨trivial, trivial⟩, trivial⟩ ?_
            refine gv_pick [1, 2, 0, 3] rfl ?_
            exact L130 s0_42 1 (by omega)
        have L107 : ∀ (I99 : gr_I) (J100 : gr_J) , gc_Inv ro I99 → (∀ q j : Nat, ((q = 39 ∧ j = 3) ∨ (q = 39 ∧ j = 4) ∨ (q = 23 ∧ j = 5) ∨ (q = 23 ∧ j = 6) ∨ (q = 23 ∧ j = 7) ∨ (q = 23 ∧ j = 8) ∨ (q = 1 ∧ j = 17) ∨ (q = 1 ∧ j = 18) ∨ q = 20 ∨ (q = 39 ∧ j = 6) ∨ (q = 39 ∧ j = 8) ∨ q = 40 ∨ (q = 41 ∧ j = 0) ∨ (q = 41 ∧ j = 1) ∨ (q = 41 ∧ j = 2) ∨ q = (t + 13) ∨ q = (t + 14) ∨ (q = (t + 11) ∧ j = 1)) ∨ I99 q j = I q j) → (∀ q j : Nat, ((q = 23 ∧ j = 9) ∨ q = (t + 12)) ∨ J100 q j = J q j) → gc_LT I99 → gc_TK I99 → ((0 ≤ v5_28 ∧ v5_28 ≤ 999) ∧ (I99 23 1 = I 23 1) ∧ (I 23 5 ≤ I99 23 5) ∧ (B ≤ 1280 ∧ I99 1 17 + I99 23 1 ≤ B + I99 23 5) ∧ (I99 39 2 = (t : Int))) → gv_X (gc_E6 ws0 tb 4 (yX6_readPattern, cX6_readPattern, 6, (some .boolean)) kX6_readPattern) (gv_Q cX6_readPattern (some .boolean) sh (fun r h' => (∃ (I' : gr_I) (J' : gr_J), h' = gc_h sh I' J' A ∧ gc_Inv ro I' ∧ (∀ q j : Nat, ((q = 39 ∧ j = 3) ∨ (q = 39 ∧ j = 4) ∨ (q = 23 ∧ j = 5) ∨ (q = 23 ∧ j = 6) ∨ (q = 23 ∧ j = 7) ∨ (q = 23 ∧ j = 8) ∨ (q = 1 ∧ j = 17) ∨ (q = 1 ∧ j = 18) ∨ q = 20 ∨ (q = 39 ∧ j = 6) ∨ (q = 39 ∧ j = 8) ∨ q = 40 ∨ (q = 41 ∧ j = 0) ∨ (q = 41 ∧ j = 1) ∨ (q = 41 ∧ j = 2) ∨ q = (t + 13) ∨ q = (t + 14) ∨ (q = (t + 11) ∧ j = 1)) ∨ I' q j = I q j) ∧ (∀ q j : Nat, ((q = 23 ∧ j = 9) ∨ q = (t + 12)) ∨ J' q j = J q j) ∧ gc_LT I' ∧ gc_TK I' ∧ (∃ z : Int, r = some (.inl z) ∧ 0 ≤ z ∧ z ≤ 1 ∧ (I' 23 1 = I 23 1) ∧ (I 23 5 ≤ I' 23 5) ∧ (B ≤ 1280 ∧ I' 1 17 + I' 23 1 ≤ B + I' 23 5))))) (107, [(0, .inr (.inr (some 39))), (1, .inr (.inl v1_14)), (5, .inl v5_28)], [], sh, gc_h sh I99 J100 A) := by
          intro I99 J100 hI99 FI99 FJ100 KLT_I99 KTK_I99 m_101
          clear hv3_28 hv4_28 hv5_28 e0_28 e1_28 e2_28 e3_28 t29 f30 f31 f32 f33 f34 f35 f36 f37 f38 f39
          obtain ⟨hv5_28_101, e0_101, e1_101, e2_101, e3_101⟩ := m_101
          have t102 := gc_TK_mo KTK_I99
          have f103 := (show 0 ≤ I99 23 1 ∧ I99 23 1 ≤ 1000 from gc_in hI99 R_23 rfl rfl)
          have f104 := (show 0 ≤ I99 23 5 ∧ I99 23 5 ≤ 1000 from gc_in hI99 R_23 rfl rfl)
          have f105 := (show 0 ≤ I99 23 6 ∧ I99 23 6 ≤ 1001 from gc_in hI99 R_23 rfl rfl)
          have f106 := (show 0 ≤ I99 23 7 ∧ I99 23 7 ≤ 125 from gc_in hI99 R_23 rfl rfl)
          have f107 := (show 0 ≤ I99 1 17 ∧ I99 1 17 ≤ 12000 from gc_in hI99 R_1 rfl rfl)
          have f108 := (show 0 ≤ I99 (t + 11) 1 ∧ I99 (t + 11) 1 ≤ 24 from gc_in hI99 R_t_11 rfl rfl)
          have f109 := (show (-2147483648) ≤ I99 41 0 ∧ I99 41 0 ≤ 2147483647 from gc_in hI99 R_41 rfl rfl)
          have f110 := (show (-2147483648) ≤ I99 41 1 ∧ I99 41 1 ≤ 2147483647 from gc_in hI99 R_41 rfl rfl)
          have f111 := (show (-2147483648) ≤ I99 41 2 ∧ I99 41 2 ≤ 2147483647 from gc_in hI99 R_41 rfl rfl)
          have f112 := (show (-1) ≤ I99 39 2 ∧ I99 39 2 ≤ 999999 from gc_in hI99 R_39 rfl rfl)
          refine gv_run 2 true hD (pc' := 112) (lv' := [(0, .inr (.inr (some 39))), (1, .inr (.inl v1_14)), (5, .inl v5_28)]) (st' := [.inl 1]) (h' := gc_h sh I99 J100 A) (C := ((True ∧ True) ∧ True)) rfl ⟨⟨trivial, trivial⟩, trivial⟩ ?_
          exact L112 I99 J100 1 hI99 FI99 FJ100 KLT_I99 KTK_I99 (by omega)
        have L150 : ((0 ≤ v3_28 ∧ v3_28 ≤ 1) ∧ (I26 23 1 = I 23 1) ∧ (I 23 5 ≤ I26 23 5) ∧ (B ≤ 1280 ∧ I26 1 17 + I26 23 1 ≤ B + I26 23 5) ∧ (I26 39 2 = (t : Int))) → gv_X (gc_E6 ws0 tb 4 (yX6_readPattern, cX6_readPattern, 6, (some .boolean)) kX6_readPattern) (gv_Q cX6_readPattern (some .boolean) sh (fun r h' => (∃ (I' : gr_I) (J' : gr_J), h' = gc_h sh I' J' A ∧ gc_Inv ro I' ∧ (∀ q j : Nat, ((q = 39 ∧ j = 3) ∨ (q = 39 ∧ j = 4) ∨ (q = 23 ∧ j = 5) ∨ (q = 23 ∧ j = 6) ∨ (q = 23 ∧ j = 7) ∨ (q = 23 ∧ j = 8) ∨ (q = 1 ∧ j = 17) ∨ (q = 1 ∧ j = 18) ∨ q = 20 ∨ (q = 39 ∧ j = 6) ∨ (q = 39 ∧ j = 8) ∨ q = 40 ∨ (q = 41 ∧ j = 0) ∨ (q = 41 ∧ j = 1) ∨ (q = 41 ∧ j = 2) ∨ q = (t + 13) ∨ q = (t + 14) ∨ (q = (t + 11) ∧ j = 1)) ∨ I' q j = I q j) ∧ (∀ q j : Nat, ((q = 23 ∧ j = 9) ∨ q = (t + 12)) ∨ J' q j = J q j) ∧ gc_LT I' ∧ gc_TK I' ∧ (∃ z : Int, r = some (.inl z) ∧ 0 ≤ z ∧ z ≤ 1 ∧ (I' 23 1 = I 23 1) ∧ (I 23 5 ≤ I' 23 5) ∧ (B ≤ 1280 ∧ I' 1 17 + I' 23 1 ≤ B + I' 23 5))))) (150, [(0, .inr (.inr (some 39))), (1, .inr (.inl v1_14)), (3, .inl v3_28)], [], sh, gc_h sh I26 J27 A) := by
          intro m_113
          obtain ⟨hv3_28_113, e0_113, e1_113, e2_113, e3_113⟩ := m_113
          have t114 := gc_TK_mo KTK_I26
          have f115 := (show 0 ≤ I26 23 1 ∧ I26 23 1 ≤ 1000 from gc_in hI26 R_23 rfl rfl)
          have f116 := (show 0 ≤ I26 23 5 ∧ I26 23 5 ≤ 1000 from gc_in hI26 R_23 rfl rfl)
          have f117 := (show 0 ≤ I26 23 6 ∧ I26 23 6 ≤ 1001 from gc_in hI26 R_23 rfl rfl)
          have f118 := (show 0 ≤ I26 23 7 ∧ I26 23 7 ≤ 125 from gc_in hI26 R_23 rfl rfl)
          have f119 := (show 0 ≤ I26 1 17 ∧ I26 1 17 ≤ 12000 from gc_in hI26 R_1 rfl rfl)
          have f120 := (show 0 ≤ I26 (t + 11) 1 ∧ I26 (t + 11) 1 ≤ 24 from gc_in hI26 R_t_11 rfl rfl)
          have f121 := (show (-2147483648) ≤ I26 41 0 ∧ I26 41 0 ≤ 2147483647 from gc_in hI26 R_41 rfl rfl)
          have f122 := (show (-2147483648) ≤ I26 41 1 ∧ I26 41 1 ≤ 2147483647 from gc_in hI26 R_41 rfl rfl)
          have f123 := (show (-2147483648) ≤ I26 41 2 ∧ I26 41 2 ≤ 2147483647 from gc_in hI26 R_41 rfl rfl)
          have f124 := (show (-1) ≤ I26 39 2 ∧ I26 39 2 ≤ 999999 from gc_in hI26 R_39 rfl rfl)
          have L188 : ∀ (I125 : gr_I) (J126 : gr_J) , gc_Inv ro I125 → (∀ q j : Nat, ((q = 39 ∧ j = 3) ∨ (q = 39 ∧ j = 4) ∨ (q = 23 ∧ j = 5) ∨ (q = 23 ∧ j = 6) ∨ (q = 23 ∧ j = 7) ∨ (q = 23 ∧ j = 8) ∨ (q = 1 ∧ j = 17) ∨ (q = 1 ∧ j = 18) ∨ q = 20 ∨ (q = 39 ∧ j = 6) ∨ (q = 39 ∧ j = 8) ∨ q = 40 ∨ (q = 41 ∧ j = 0) ∨ (q = 41 ∧ j = 1) ∨ (q = 41 ∧ j = 2) ∨ q = (t + 13) ∨ q = (t + 14) ∨ (q = (t + 11) ∧ j = 1)) ∨ I125 q j = I q j) → (∀ q j : Nat, ((q = 23 ∧ j = 9) ∨ q = (t + 12)) ∨ J126 q j = J q j) → gc_LT I125 → gc_TK I125 → ((I125 23 1 = I 23 1) ∧ (I 23 5 ≤ I125 23 5) ∧ (B ≤ 1280 ∧ I125 1 17 + I125 23 1 ≤ B + I125 23 5) ∧ (I125 39 2 = (t : Int))) → gv_X (gc_E6 ws0 tb 4 (yX6_readPattern, cX6_readPattern, 6, (some .boolean)) kX6_readPattern) (gv_Q cX6_readPattern (some .boolean) sh (fun r h' => (∃ (I' : gr_I) (J' : gr_J), h' = gc_h sh I' J' A ∧ gc_Inv ro I' ∧ (∀ q j : Nat, ((q = 39 ∧ j = 3) ∨ (q = 39 ∧ j = 4) ∨ (q = 23 ∧ j = 5) ∨ (q = 23 ∧ j = 6) ∨ (q = 23 ∧ j = 7) ∨ (q = 23 ∧ j = 8) ∨ (q = 1 ∧ j = 17) ∨ (q = 1 ∧ j = 18) ∨ q = 20 ∨ (q = 39 ∧ j = 6) ∨ (q = 39 ∧ j = 8) ∨ q = 40 ∨ (q = 41 ∧ j = 0) ∨ (q = 41 ∧ j = 1) ∨ (q = 41 ∧ j = 2) ∨ q = (t + 13) ∨ q = (t + 14) ∨ (q = (t + 11) ∧ j = 1)) ∨ I' q j = I q j) ∧ (∀ q j : Nat, ((q = 23 ∧ j = 9) ∨ q = (t + 12)) ∨ J' q j = J q j) ∧ gc_LT I' ∧ gc_TK I' ∧ (∃ z : Int, r = some (.inl z) ∧ 0 ≤ z ∧ z ≤ 1 ∧ (I' 23 1 = I 23 1) ∧ (I 23 5 ≤ I' 23 5) ∧ (B ≤ 1280 ∧ I' 1 17 + I' 23 1 ≤ B + I' 23 5))))) (188, [], [], sh, gc_h sh I125 J126 A) := by
            intro I125 J126 hI125 FI125 FJ126 KLT_I125 KTK_I125 m_127
            clear hv3_28_113 e0_113 e1_113 e2_113 e3_113 t114 f115 f116 f117 f118 f119 f120 f121 f122 f123 f124 hv3_28 hv4_28 hv5_28 e0_28 e1_28 e2_28 e3_28 t29 f30 f31 f32 f33 f34 f35 f36 f37 f38 f39
            obtain ⟨e0_127, e1_127, e2_127, e3_127⟩ := m_127
            have t128 := gc_TK_mo KTK_I125
            have f129 := (show 0 ≤ I125 23 1 ∧ I125 23 1 ≤ 1000 from gc_in hI125 R_23 rfl rfl)
            have f130 := (show 0 ≤ I125 23 5 ∧ I125 23 5 ≤ 1000 from gc_in hI125 R_23 rfl rfl)
            have f131 := (show 0 ≤ I125 23 6 ∧ I125 23 6 ≤ 1001 from gc_in hI125 R_23 rfl rfl)
            have f132 := (show 0 ≤ I125 23 7 ∧ I125 23 7 ≤ 125 from gc_in hI125 R_23 rfl rfl)
            have f133 := (show 0 ≤ I125 1 17 ∧ I125 1 17 ≤ 12000 from gc_in hI125 R_1 rfl rfl)
            have f134 := (show 0 ≤ I125 (t + 11) 1 ∧ I125 (t + 11) 1 ≤ 24 from gc_in hI125 R_t_11 rfl rfl)
            have f135 := (show (-2147483648) ≤ I125 41 0 ∧ I125 41 0 ≤ 2147483647 from gc_in hI125 R_41 rfl rfl)
            have f136 := (show (-2147483648) ≤ I125 41 1 ∧ I125 41 1 ≤ 2147483647 from gc_in hI125 R_41 rfl rfl)
            have f137 := (show (-2147483648) ≤ I125 41 2 ∧ I125 41 2 ≤ 2147483647 from gc_in hI125 R_41 rfl rfl)
            have f138 := (show (-1) ≤ I125 39 2 ∧ I125 39 2 ≤ 999999 from gc_in hI125 R_39 rfl rfl)
            refine gv_run 1 true hD (pc' := 189) (lv' := []) (st' := [.inl 0]) (h' := gc_h sh I125 J126 A) (C := (True ∧ True)) rfl ⟨trivial, trivial⟩ ?_
            exact gv_zret hD rfl (by omega) ⟨I125, J126, rfl, hI125, FI125, FJ126, KLT_I125, KTK_I125, ⟨_, rfl, by omega⟩⟩
          have L182 : ∀ (I139 : gr_I) (J140 : gr_J) (s1_141 : Int), gc_Inv ro I139 → (∀ q j : Nat, ((q = 39 ∧ j = 3) ∨ (q = 39 ∧ j = 4) ∨ (q = 23 ∧ j = 5) ∨ (q = 23 ∧ j = 6) ∨ (q = 23 ∧ j = 7) ∨ (q = 23 ∧ j = 8) ∨ (q = 1 ∧ j = 17) ∨ (q = 1 ∧ j = 18) ∨ q = 20 ∨ (q = 39 ∧ j = 6) ∨ (q = 39 ∧ j = 8) ∨ q = 40 ∨ (q = 41 ∧ j = 0) ∨ (q = 41 ∧ j = 1) ∨ (q = 41 ∧ j = 2) ∨ q = (t + 13) ∨ q = (t + 14) ∨ (q = (t + 11) ∧ j = 1)) ∨ I139 q j = I q j) → (∀ q j : Nat, ((q = 23 ∧ j = 9) ∨ q = (t + 12)) ∨ J140 q j = J q j) → gc_LT I139 → gc_TK I139 → ((0 ≤ s1_141 ∧ s1_141 ≤ 1) ∧ (s1_141 = 1 ∨ I139 (t + 11) 1 < 24) ∧ (I139 23 1 = I 23 1) ∧ (I 23 5 ≤ I139 23 5) ∧ (B ≤ 1280 ∧ I139 1 17 + I139 23 1 ≤ B + I139 23 5) ∧ (I139 39 2 = (t : Int))) → gv_X (gc_E6 ws0 tb 4 (yX6_readPattern, cX6_readPattern, 6, (some .boolean)) kX6_readPattern) (gv_Q cX6_readPattern (some .boolean) sh (fun r h' => (∃ (I' : gr_I) (J' : gr_J), h' = gc_h sh I' J' A ∧ gc_Inv ro I' ∧ (∀ q j : Nat, ((q = 39 ∧ j = 3) ∨ (q = 39 ∧ j = 4) ∨ (q = 23 ∧ j = 5) ∨ (q = 23 ∧ j = 6) ∨ (q = 23 ∧ j = 7) ∨ (q = 23 ∧ j = 8) ∨ (q = 1 ∧ j = 17) ∨ (q = 1 ∧ j = 18) ∨ q = 20 ∨ (q = 39 ∧ j = 6) ∨ (q = 39 ∧ j = 8) ∨ q = 40 ∨ (q = 41 ∧ j = 0) ∨ (q = 41 ∧ j = 1) ∨ (q = 41 ∧ j = 2) ∨ q = (t + 13) ∨ q = (t + 14) ∨ (q = (t + 11) ∧ j = 1)) ∨ I' q j = I q j) ∧ (∀ q j : Nat, ((q = 23 ∧ j = 9) ∨ q = (t + 12)) ∨ J' q j = J q j) ∧ gc_LT I' ∧ gc_TK I' ∧ (∃ z : Int, r = some (.inl z) ∧ 0 ≤ z ∧ z ≤ 1 ∧ (I' 23 1 = I 23 1) ∧ (I 23 5 ≤ I' 23 5) ∧ (B ≤ 1280 ∧ I' 1 17 + I' 23 1 ≤ B + I' 23 5))))) (182, [(0, .inr (.inr (some 39))), (1, .inr (.inl v1_14))], [.inl s1_141, .inr (.inr (some 39))], sh, gc_h sh I139 J140 A) := by
            intro I139 J140 s1_141 hI139 FI139 FJ140 KLT_I139 KTK_I139 m_141
            clear hv3_28_113 e0_113 e1_113 e2_113 e3_113 t114 f115 f116 f117 f118 f119 f120 f121 f122 f123 f124 hv3_28 hv4_28 hv5_28 e0_28 e1_28 e2_28 e3_28 t29 f30 f31 f32 f33 f34 f35 f36 f37 f38 f39
            obtain ⟨hs1_141, e0_141, e1_141, e2_141, e3_141, e4_141⟩ := m_141
            have t142 := gc_TK_mo KTK_I139
            have f143 := (show 0 ≤ I139 23 1 ∧ I139 23 1 ≤ 1000 from gc_in hI139 R_23 rfl rfl)
            have f144 := (show 0 ≤ I139 23 5 ∧ I139 23 5 ≤ 1000 from gc_in hI139 R_23 rfl rfl)
            have f145 := (show 0 ≤ I139 23 6 ∧ I139 23 6 ≤ 1001 from gc_in hI139 R_23 rfl rfl)
            have f146 := (show 0 ≤ I139 23 7 ∧ I139 23 7 ≤ 125 from gc_in hI139 R_23 rfl rfl)
            have f147 := (show 0 ≤ I139 1 17 ∧ I139 1 17 ≤ 12000 from gc_in hI139 R_1 rfl rfl)
            have f148 := (show 0 ≤ I139 (t + 11) 1 ∧ I139 (t + 11) 1 ≤ 24 from gc_in hI139 R_t_11 rfl rfl)
            have f149 := (show (-2147483648) ≤ I139 41 0 ∧ I139 41 0 ≤ 2147483647 from gc_in hI139 R_41 rfl rfl)
            have f150 := (show (-2147483648) ≤ I139 41 1 ∧ I139 41 1 ≤ 2147483647 from gc_in hI139 R_41 rfl rfl)
            have f151 := (show (-2147483648) ≤ I139 41 2 ∧ I139 41 2 ≤ 2147483647 from gc_in hI139 R_41 rfl rfl)
            have f152 := (show (-1) ≤ I139 39 2 ∧ I139 39 2 ≤ 999999 from gc_in hI139 R_39 rfl rfl)
            obtain ⟨r153, h153, E153, P153⟩ := d_X6_closes (ws0 := ws0) (tb := tb) hws htb sh ro I139 J140 A hI139  s1_141 hb   ⟨by omega, by omega⟩  KLT_I139 KTK_I139
            obtain ⟨I154, J155, rfl, hI154, g153, k153, KLT_I154, KTK_I154, ⟨z153, rfl, q153⟩⟩ := P153
            have FI154 := gc_frc (W := fun q j => (q = 39 ∧ j = 3) ∨ (q = 39 ∧ j = 4) ∨ (q = 23 ∧ j = 5) ∨ (q = 23 ∧ j = 6) ∨ (q = 23 ∧ j = 7) ∨ (q = 23 ∧ j = 8) ∨ (q = 1 ∧ j = 17) ∨ (q = 1 ∧ j = 18) ∨ q = 20 ∨ (q = 39 ∧ j = 6) ∨ (q = 39 ∧ j = 8) ∨ q = 40 ∨ (q = 41 ∧ j = 0) ∨ (q = 41 ∧ j = 1) ∨ (q = 41 ∧ j = 2) ∨ q = (t + 13) ∨ q = (t + 14) ∨ (q = (t + 11) ∧ j = 1)) (V := fun q j => (q = 39 ∧ j = 3) ∨ (q = 39 ∧ j = 4) ∨ (q = 23 ∧ j = 5) ∨ (q = 23 ∧ j = 6) ∨ (q = 23 ∧ j = 7) ∨ (q = 23 ∧ j = 8)) FI139 (fun q j h => (h.elim (fun h => (Or.inl h)) (fun h => (h.elim (fun h => (Or.inr (Or.inl h))) (fun h => (h.elim (fun h => (Or.inr (Or.inr (Or.inl h)))) (fun h => (h.elim (fun h => (Or.inr (Or.inr (Or.inr (Or.inl h))))) (fun h => (h.elim (fun h => (Or.inr (Or.inr (Or.inr (Or.inr (Or.inl h)))))) (fun h => (Or.inr (Or.inr (Or.inr (Or.inr (Or.inr (Or.inl h))))))))))))))))) g153
            have FJ155 := gc_frc (W := fun q j => (q = 23 ∧ j = 9) ∨ q = (t + 12)) (V := fun q j => (q = 23 ∧ j = 9)) FJ140 (fun q j h => (Or.inl h)) k153
            have t156 := (g153 23 1).resolve_left (fun h => h.elim (fun h => absurd h.2 (by decide)) (fun h => h.elim (fun h => absurd h.2 (by decide)) (fun h => h.elim (fun h => absurd h.2 (by decide)) (fun h => h.elim (fun h => absurd h.2 (by decide)) (fun h => h.elim (fun h => absurd h.2 (by decide)) (fun h => absurd h.2 (by decide)))))))
            have t157 := (g153 1 17).resolve_left (fun h => h.elim (fun h => absurd h.2 (by decide)) (fun h => h.elim (fun h => absurd h.2 (by decide)) (fun h => h.elim (fun h => absurd h.2 (by decide)) (fun h => h.elim (fun h => absurd h.2 (by decide)) (fun h => h.elim (fun h => absurd h.2 (by decide)) (fun h => absurd h.2 (by decide)))))))
            have t158 := (g153 (t + 11) 1).resolve_left (fun h => h.elim (fun h => absurd h.2 (by decide)) (fun h => h.elim (fun h => absurd h.2 (by decide)) (fun h => h.elim (fun h => absurd h.2 (by decide)) (fun h => h.elim (fun h => absurd h.2 (by decide)) (fun h => h.elim (fun h => absurd h.2 (by decide)) (fun h => absurd h.2 (by decide)))))))
            have t159 := (g153 41 0).resolve_left (fun h => h.elim (fun h => absurd h.2 (by decide)) (fun h => h.elim (fun h => absurd h.2 (by decide)) (fun h => h.elim (fun h => absurd h.2 (by decide)) (fun h => h.elim (fun h => absurd h.2 (by decide)) (fun h => h.elim (fun h => absurd h.2 (by decide)) (fun h => absurd h.2 (by decide)))))))
            have t160 := (g153 41 1).resolve_left (fun h => h.elim (fun h => absurd h.2 (by decide)) (fun h => h.elim (fun h => absurd h.2 (by decide)) (fun h => h.elim (fun h => absurd h.2 (by decide)) (fun h => h.elim (fun h => absurd h.2 (by decide)) (fun h => h.elim (fun h => absurd h.2 (by decide)) (fun h => absurd h.2 (by decide)))))))
            have t161 := (g153 41 2).resolve_left (fun h => h.elim (fun h => absurd h.2 (by decide)) (fun h => h.elim (fun h => absurd h.2 (by decide)) (fun h => h.elim (fun h => absurd h.2 (by decide)) (fun h => h.elim (fun h => absurd h.2 (by decide)) (fun h => h.elim (fun h => absurd h.2 (by decide)) (fun h => absurd h.2 (by decide)))))))
            have t162 := (g153 39 2).resolve_left (fun h => h.elim (fun h => absurd h.2 (by decide)) (fun h => h.elim (fun h => absurd h.2 (by decide)) (fun h => h.elim (fun h => absurd h.2 (by decide)) (fun h => h.elim (fun h => absurd h.2 (by decide)) (fun h => h.elim (fun h => absurd h.2 (by decide)) (fun h => absurd h.2 (by decide)))))))
            have f163 := (show 0 ≤ I154 23 5 ∧ I154 23 5 ≤ 1000 from gc_in hI154 R_23 rfl rfl)
            have f164 := (show 0 ≤ I154 23 6 ∧ I154 23 6 ≤ 1001 from gc_in hI154 R_23 rfl rfl)
            have f165 := (show 0 ≤ I154 23 7 ∧ I154 23 7 ≤ 125 from gc_in hI154 R_23 rfl rfl)
            have t166 := gc_TK_mo KTK_I154
            refine gv_callV hD rfl (As := [.inl s1_141]) (st := []) rfl B_39 S_39 rfl (gc_lV6 hws rfl) (Nat.le_of_ble_eq_true rfl) (gz_Ev_mono (d := 4) (by decide) E153) ?_
            show gv_X _ _ (185, [(0, .inr (.inr (some 39))), (1, .inr (.inl v1_14))], [.inl z153], sh, gc_h sh I154 J155 A)
            refine gv_if_ne (t := 190) hD rfl rfl ⟨by omega, by omega⟩ (fun c167 => ?_) (fun c167 => ?_)
            · show gv_X _ _ (190, [(0, .inr (.inr (some 39))), (1, .inr (.inl v1_14))], [], sh, gc_h sh I154 J155 A)
              refine gv_run 1 true hD (pc' := 191) (lv' := [(0, .inr (.inr (some 39))), (1, .inr (.inl v1_14))]) (st' := [.inr (.inr (some 39))]) (h' := gc_h sh I154 J155 A) (C := (True ∧ True)) rfl ⟨trivial, trivial⟩ ?_
              refine gv_get hD rfl rfl S_39 ⟨by decide, B_39⟩ (gc_h5 (t := t) S_39 rfl (by omega)) ?_
              show gv_X _ _ (194, [(0, .inr (.inr (some 39))), (1, .inr (.inl v1_14))], [.inr (.inr (some t))], sh, gc_h sh I154 J155 A)
              refine gv_get hD rfl rfl S_t ⟨by decide, B_t⟩ (gc_hA S_t rfl A_t_8) ?_
              show gv_X _ _ (197, [(0, .inr (.inr (some 39))), (1, .inr (.inl v1_14))], [.inr (.inr (some (t + 11)))], sh, gc_h sh I154 J155 A)
              have f168 := (show 0 ≤ I154 (t + 11) 1 ∧ I154 (t + 11) 1 ≤ 24 from gc_in hI154 R_t_11 rfl rfl)
              refine gv_get hD rfl rfl S_t_11 ⟨by decide, B_t_11⟩ (gc_hI S_t_11 rfl) ?_
              show gv_X _ _ (200, [(0, .inr (.inr (some 39))), (1, .inr (.inl v1_14))], [.inl (I154 (t + 11) 1)], sh, gc_h sh I154 J155 A)
              refine gv_run 2 true hD (pc' := 203) (lv' := [(5, .inl (I154 (t + 11) 1)), (0, .inr (.inr (some 39))), (1, .inr (.inl v1_14))]) (st' := [.inr (.inr (some 39))]) (h' := gc_h sh I154 J155 A) (C := ((True ∧ True) ∧ True)) rfl ⟨⟨trivial, trivial⟩, trivial⟩ ?_
              refine gv_get hD rfl rfl S_39 ⟨by decide, B_39⟩ (gc_h5 (t := t) S_39 rfl (by omega)) ?_
              show gv_X _ _ (206, [(5, .inl (I154 (t + 11) 1)), (0, .inr (.inr (some 39))), (1, .inr (.inl v1_14))], [.inr (.inr (some t))], sh, gc_h sh I154 J155 A)
              refine gv_get hD rfl rfl S_t ⟨by decide, B_t⟩ (gc_hA S_t rfl A_t_8) ?_
              show gv_X _ _ (209, [(5, .inl (I154 (t + 11) 1)), (0, .inr (.inr (some 39))), (1, .inr (.inl v1_14))], [.inr (.inr (some (t + 11)))], sh, gc_h sh I154 J155 A)
              refine gv_run 1 true hD (pc' := 210) (lv' := [(5, .inl (I154 (t + 11) 1)), (0, .inr (.inr (some 39))), (1, .inr (.inl v1_14))]) (st' := [.inr (.inl v1_14), .inr (.inr (some (t + 11)))]) (h' := gc_h sh I154 J155 A) (C := (True ∧ True)) rfl ⟨trivial, trivial⟩ ?_
              obtain ⟨r169, h169, E169, P169⟩ := d_X4_put (ws0 := ws0) (tb := tb) hws htb sh ro I154 J155 A hI154 (t + 11) 24 8 v1_14 h_t_11     
              obtain ⟨I170, J171, rfl, hI170, g169, k169, ⟨rfl, q169⟩⟩ := P169
              have FI170 := gc_frc (W := fun q j => (q = 39 ∧ j = 3) ∨ (q = 39 ∧ j = 4) ∨ (q = 23 ∧ j = 5) ∨ (q = 23 ∧ j = 6) ∨ (q = 23 ∧ j = 7) ∨ (q = 23 ∧ j = 8) ∨ (q = 1 ∧ j = 17) ∨ (q = 1 ∧ j = 18) ∨ q = 20 ∨ (q = 39 ∧ j = 6) ∨ (q = 39 ∧ j = 8) ∨ q = 40 ∨ (q = 41 ∧ j = 0) ∨ (q = 41 ∧ j = 1) ∨ (q = 41 ∧ j = 2) ∨ q = (t + 13) ∨ q = (t + 14) ∨ (q = (t + 11) ∧ j = 1)) (V := fun q j => (q = (t + 11) ∧ j = 1)) FI154 (fun q j h => (Or.inr (Or.inr (Or.inr (Or.inr (Or.inr (Or.inr (Or.inr (Or.inr (Or.inr (Or.inr (Or.inr (Or.inr (Or.inr (Or.inr (Or.inr (Or.inr (Or.inr h)))))))))))))))))) g169
              have FJ171 := gc_frc (W := fun q j => (q = 23 ∧ j = 9) ∨ q = (t + 12)) (V := fun q j => q = (t + 12)) FJ155 (fun q j h => (Or.inr h)) k169
              have t172 := (g169 23 1).resolve_left (fun h => absurd h.1 N_23__t_11)
              have t173 := (g169 23 5).resolve_left (fun h => absurd h.2 (by decide))
              have t174 := (g169 23 6).resolve_left (fun h => absurd h.2 (by decide))
              have t175 := (g169 23 7).resolve_left (fun h => absurd h.2 (by decide))
              have t176 := (g169 1 17).resolve_left (fun h => absurd h.2 (by decide))
              have t177 := (g169 41 0).resolve_left (fun h => absurd h.2 (by decide))
              have t178 := (g169 41 1).resolve_left (fun h => absurd h.1 N_41__t_11)
              have t179 := (g169 41 2).resolve_left (fun h => absurd h.2 (by decide))
              have t180 := (g169 39 2).resolve_left (fun h => absurd h.2 (by decide))
              have f181 := (show 0 ≤ I170 (t + 11) 1 ∧ I170 (t + 11) 1 ≤ 24 from gc_in hI170 R_t_11 rfl rfl)
              have KLT_I170 := gc_LT_fr KLT_I154 ((g169 23 5).resolve_left (fun h => absurd h.2 (by decide))) ((g169 23 6).resolve_left (fun h => absurd h.2 (by decide))) ((g169 23 7).resolve_left (fun h => absurd h.2 (by decide))) (fun k => (g169 24 k).resolve_left (fun h => absurd h.1 N_24__t_11))
              have KTK_I170 := gc_TK_fr KTK_I154 ((g169 23 1).resolve_left (fun h => absurd h.1 N_23__t_11)) ((g169 23 5).resolve_left (fun h => absurd h.2 (by decide))) ((g169 23 6).resolve_left (fun h => absurd h.2 (by decide))) ((g169 23 7).resolve_left (fun h => absurd h.2 (by decide)))
              refine gv_callV hD rfl (As := [.inr (.inl v1_14)]) (st := []) rfl B_t_11 S_t_11 rfl (gc_lV6 hws rfl) (Nat.le_of_ble_eq_true rfl) (gz_Ev_mono (d := 1) (by decide) E169) ?_
              show gv_X _ _ (213, [(5, .inl (I154 (t + 11) 1)), (0, .inr (.inr (some 39))), (1, .inr (.inl v1_14))], [], sh, gc_h sh I170 J171 A)
              refine gv_run 1 true hD (pc' := 214) (lv' := [(5, .inl (I154 (t + 11) 1)), (0, .inr (.inr (some 39))), (1, .inr (.inl v1_14))]) (st' := [.inr (.inr (some 39))]) (h' := gc_h sh I170 J171 A) (C := (True ∧ True)) rfl ⟨trivial, trivial⟩ ?_
              refine gv_get hD rfl rfl S_39 ⟨by decide, B_39⟩ (gc_h5 (t := t) S_39 rfl (by omega)) ?_
              show gv_X _ _ (217, [(5, .inl (I154 (t + 11) 1)), (0, .inr (.inr (some 39))), (1, .inr (.inl v1_14))], [.inr (.inr (some t))], sh, gc_h sh I170 J171 A)
              refine gv_get hD rfl rfl S_t ⟨by decide, B_t⟩ (gc_hA S_t rfl A_t_9) ?_
              show gv_X _ _ (220, [(5, .inl (I154 (t + 11) 1)), (0, .inr (.inr (some 39))), (1, .inr (.inl v1_14))], [.inr (.inr (some (t + 13)))], sh, gc_h sh I170 J171 A)
              refine gv_run 2 true hD (pc' := 223) (lv' := [(5, .inl (I154 (t + 11) 1)), (0, .inr (.inr (some 39))), (1, .inr (.inl v1_14))]) (st' := [.inr (.inr (some 39)), .inl (I154 (t + 11) 1), .inr (.inr (some (t + 13)))]) (h' := gc_h sh I170 J171 A) (C := ((True ∧ True) ∧ True)) rfl ⟨⟨trivial, trivial⟩, trivial⟩ ?_
              have f182 := (show 0 ≤ I170 39 8 ∧ I170 39 8 ≤ 24 from gc_in hI170 R_39 rfl rfl)
              refine gv_get hD rfl rfl S_39 ⟨by decide, B_39⟩ (gc_hI S_39 rfl) ?_
              show gv_X _ _ (226, [(5, .inl (I154 (t + 11) 1)), (0, .inr (.inr (some 39))), (1, .inr (.inl v1_14))], [.inl (I170 39 8), .inl (I154 (t + 11) 1), .inr (.inr (some (t + 13)))], sh, gc_h sh I170 J171 A)
              refine gv_iast hD rfl S_t_13 ⟨by decide, B_t_13⟩ ⟨by omega, by omega⟩ ?_
              refine gc_st hI170 S_t_13 rfl R_t_13 (lo := 0) (hi := 24) rfl rfl (by omega) (by omega) (fun I183 hI183 q184 p184 => ?_)
              have FI183 := gc_frs (W := fun q j => (q = 39 ∧ j = 3) ∨ (q = 39 ∧ j = 4) ∨ (q = 23 ∧ j = 5) ∨ (q = 23 ∧ j = 6) ∨ (q = 23 ∧ j = 7) ∨ (q = 23 ∧ j = 8) ∨ (q = 1 ∧ j = 17) ∨ (q = 1 ∧ j = 18) ∨ q = 20 ∨ (q = 39 ∧ j = 6) ∨ (q = 39 ∧ j = 8) ∨ q = 40 ∨ (q = 41 ∧ j = 0) ∨ (q = 41 ∧ j = 1) ∨ (q = 41 ∧ j = 2) ∨ q = (t + 13) ∨ q = (t + 14) ∨ (q = (t + 11) ∧ j = 1)) FI170 (Or.inr (Or.inr (Or.inr (Or.inr (Or.inr (Or.inr (Or.inr (Or.inr (Or.inr (Or.inr (Or.inr (Or.inr (Or.inr (Or.inr (Or.inr (Or.inl rfl)))))))))))))))) p184
              have t185 := p184 23 1 (fun h => absurd h.1 N_23__t_13)
              have t186 := p184 23 5 (fun h => absurd h.1 N_23__t_13)
              have t187 := p184 23 6 (fun h => absurd h.1 N_23__t_13)
              have t188 := p184 23 7 (fun h => absurd h.1 N_23__t_13)
              have t189 := p184 1 17 (fun h => absurd h.1 N_1__t_13)
              have t190 := p184 (t + 11) 1 (fun h => absurd h.1 N_t_11__t_13)
              have t191 := p184 41 0 (fun h => absurd h.1 N_41__t_13)
              have t192 := p184 41 1 (fun h => absurd h.1 N_41__t_13)
              have t193 := p184 41 2 (fun h => absurd h.1 N_41__t_13)
              have t194 := p184 39 2 (fun h => absurd h.1 N_39__t_13)
              have KLT_I183 := gc_LT_fr KLT_I170 (p184 23 5 (fun h => absurd h.1 N_23__t_13)) (p184 23 6 (fun h => absurd h.1 N_23__t_13)) (p184 23 7 (fun h => absurd h.1 N_23__t_13)) (fun k => p184 24 k (fun h => absurd h.1 N_24__t_13))
              have KTK_I183 := gc_TK_fr KTK_I170 (p184 23 1 (fun h => absurd h.1 N_23__t_13)) (p184 23 5 (fun h => absurd h.1 N_23__t_13)) (p184 23 6 (fun h => absurd h.1 N_23__t_13)) (p184 23 7 (fun h => absurd h.1 N_23__t_13))
              show gv_X _ _ (227, [(5, .inl (I154 (t + 11) 1)), (0, .inr (.inr (some 39))), (1, .inr (.inl v1_14))], [], sh, gc_h sh I183 J171 A)
              refine gv_run 1 true hD (pc' := 228) (lv' := [(5, .inl (I154 (t + 11) 1)), (0, .inr (.inr (some 39))), (1, .inr (.inl v1_14))]) (st' := [.inr (.inr (some 39))]) (h' := gc_h sh I183 J171 A) (C := (True ∧ True)) rfl ⟨trivial, trivial⟩ ?_
              refine gv_get hD rfl rfl S_39 ⟨by decide, B_39⟩ (gc_hA S_39 rfl A_39_9) ?_
              show gv_X _ _ (231, [(5, .inl (I154 (t + 11) 1)), (0, .inr (.inr (some 39))), (1, .inr (.inl v1_14))], [.inr (.inr (some 40))], sh, gc_h sh I183 J171 A)
              refine gv_run 2 true hD (pc' := 233) (lv' := [(5, .inl (I154 (t + 11) 1)), (0, .inr (.inr (some 39))), (1, .inr (.inl v1_14))]) (st' := [.inr (.inr (some 39)), .inl 0, .inr (.inr (some 40))]) (h' := gc_h sh I183 J171 A) (C := ((True ∧ True) ∧ True)) rfl ⟨⟨trivial, trivial⟩, trivial⟩ ?_
              refine gv_get hD rfl rfl S_39 ⟨by decide, B_39⟩ (gc_h5 (t := t) S_39 rfl (by omega)) ?_
              show gv_X _ _ (236, [(5, .inl (I154 (t + 11) 1)), (0, .inr (.inr (some 39))), (1, .inr (.inl v1_14))], [.inr (.inr (some t)), .inl 0, .inr (.inr (some 40))], sh, gc_h sh I183 J171 A)
              refine gv_get hD rfl rfl S_t ⟨by decide, B_t⟩ (gc_hA S_t rfl A_t_10) ?_
              show gv_X _ _ (239, [(5, .inl (I154 (t + 11) 1)), (0, .inr (.inr (some 39))), (1, .inr (.inl v1_14))], [.inr (.inr (some (t + 14))), .inl 0, .inr (.inr (some 40))], sh, gc_h sh I183 J171 A)
              refine gv_run 6 true hD (pc' := 247) (lv' := [(5, .inl (I154 (t + 11) 1)), (0, .inr (.inr (some 39))), (1, .inr (.inl v1_14))]) (st' := [.inr (.inr (some 39)), .inl (((I154 (t + 11) 1) * 24) * 3), .inr (.inr (some (t + 14))), .inl 0, .inr (.inr (some 40))]) (h' := gc_h sh I183 J171 A) (C := ((((((True ∧ True) ∧ True) ∧ True) ∧ True) ∧ True) ∧ True)) rfl ⟨⟨⟨⟨⟨⟨trivial, trivial⟩, trivial⟩, trivial⟩, trivial⟩, trivial⟩, trivial⟩ ?_
              have f195 := (show 0 ≤ I183 39 8 ∧ I183 39 8 ≤ 24 from gc_in hI183 R_39 rfl rfl)
              refine gv_get hD rfl rfl S_39 ⟨by decide, B_39⟩ (gc_hI S_39 rfl) ?_
              show gv_X _ _ (250, [(5, .inl (I154 (t + 11) 1)), (0, .inr (.inr (some 39))), (1, .inr (.inl v1_14))], [.inl (I183 39 8), .inl (((I154 (t + 11) 1) * 24) * 3), .inr (.inr (some (t + 14))), .inl 0, .inr (.inr (some 40))], sh, gc_h sh I183 J171 A)
              refine gv_run 2 true hD (pc' := 252) (lv' := [(5, .inl (I154 (t + 11) 1)), (0, .inr (.inr (some 39))), (1, .inr (.inl v1_14))]) (st' := [.inl ((I183 39 8) * 3), .inl (((I154 (t + 11) 1) * 24) * 3), .inr (.inr (some (t + 14))), .inl 0, .inr (.inr (some 40))]) (h' := gc_h sh I183 J171 A) (C := ((True ∧ True) ∧ True)) rfl ⟨⟨trivial, trivial⟩, trivial⟩ ?_
              refine gv_copy hD rfl (gc_lC6_263 hws) (Nat.le_of_ble_eq_true rfl) ⟨B_40, B_t_14⟩ S_40 S_t_14 (by decide) ⟨by decide, by decide⟩ ⟨by omega, by omega, by omega⟩ (by omega) (by omega) (fun h => absurd h (by decide)) ?_
              refine gc_cp hI183 S_40 S_t_14 (by decide) (fun j hj => gc_cprg (m := 2) hI183 R_40 R_t_14 rfl rfl (by omega)) (fun I197 hI197 p196 q196 => ?_)
              have FI197 := gc_frp (W := fun q j => (q = 39 ∧ j = 3) ∨ (q = 39 ∧ j = 4) ∨ (q = 23 ∧ j = 5) ∨ (q = 23 ∧ j = 6) ∨ (q = 23 ∧ j = 7) ∨ (q = 23 ∧ j = 8) ∨ (q = 1 ∧ j = 17) ∨ (q = 1 ∧ j = 18) ∨ q = 20 ∨ (q = 39 ∧ j = 6) ∨ (q = 39 ∧ j = 8) ∨ q = 40 ∨ (q = 41 ∧ j = 0) ∨ (q = 41 ∧ j = 1) ∨ (q = 41 ∧ j = 2) ∨ q = (t + 13) ∨ q = (t + 14) ∨ (q = (t + 11) ∧ j = 1)) (V := fun q j => q = (t + 14) ∧ Int.toNat ((((I154 (t + 11) 1) * 24) * 3)) ≤ j ∧ j < Int.toNat ((((I154 (t + 11) 1) * 24) * 3)) + Int.toNat (((I183 39 8) * 3))) FI183 (fun q j h => (Or.inr (Or.inr (Or.inr (Or.inr (Or.inr (Or.inr (Or.inr (Or.inr (Or.inr (Or.inr (Or.inr (Or.inr (Or.inr (Or.inr (Or.inr (Or.inr (Or.inl h.1)))))))))))))))))) p196
              have KLT_I197 := gc_LT_fr KLT_I183 (p196 23 5 (fun h => absurd h.1 N_23__t_14)) (p196 23 6 (fun h => absurd h.1 N_23__t_14)) (p196 23 7 (fun h => absurd h.1 N_23__t_14)) (fun k => p196 24 k (fun h => absurd h.1 N_24__t_14))
              have KTK_I197 := gc_TK_fr KTK_I183 (p196 23 1 (fun h => absurd h.1 N_23__t_14)) (p196 23 5 (fun h => absurd h.1 N_23__t_14)) (p196 23 6 (fun h => absurd h.1 N_23__t_14)) (p196 23 7 (fun h => absurd h.1 N_23__t_14))
              have t199 := p196 23 1 (fun h => absurd h.1 N_23__t_14)
              have t200 := p196 23 5 (fun h => absurd h.1 N_23__t_14)
              have t201 := p196 23 6 (fun h => absurd h.1 N_23__t_14)
              have t202 := p196 23 7 (fun h => absurd h.1 N_23__t_14)
              have t203 := p196 1 17 (fun h => absurd h.1 N_1__t_14)
              have t204 := p196 (t + 11) 1 (fun h => absurd h.1 N_t_11__t_14)
              have t205 := p196 41 0 (fun h => absurd h.1 N_41__t_14)
              have t206 := p196 41 1 (fun h => absurd h.1 N_41__t_14)
              have t207 := p196 41 2 (fun h => absurd h.1 N_41__t_14)
              have t208 := p196 39 2 (fun h => absurd h.1 N_39__t_14)
              have t209 := gc_TK_mo KTK_I197
              have f210 := (show 0 ≤ I197 23 1 ∧ I197 23 1 ≤ 1000 from gc_in hI197 R_23 rfl rfl)
              have f211 := (show 0 ≤ I197 23 5 ∧ I197 23 5 ≤ 1000 from gc_in hI197 R_23 rfl rfl)
              have f212 := (show 0 ≤ I197 23 6 ∧ I197 23 6 ≤ 1001 from gc_in hI197 R_23 rfl rfl)
              have f213 := (show 0 ≤ I197 23 7 ∧ I197 23 7 ≤ 125 from gc_in hI197 R_23 rfl rfl)
              have f214 := (show 0 ≤ I197 1 17 ∧ I197 1 17 ≤ 12000 from gc_in hI197 R_1 rfl rfl)
              have f215 := (show 0 ≤ I197 (t + 11) 1 ∧ I197 (t + 11) 1 ≤ 24 from gc_in hI197 R_t_11 rfl rfl)
              have f216 := (show (-2147483648) ≤ I197 41 0 ∧ I197 41 0 ≤ 2147483647 from gc_in hI197 R_41 rfl rfl)
              have f217 := (show (-2147483648) ≤ I197 41 1 ∧ I197 41 1 ≤ 2147483647 from gc_in hI197 R_41 rfl rfl)
              have f218 := (show (-2147483648) ≤ I197 41 2 ∧ I197 41 2 ≤ 2147483647 from gc_in hI197 R_41 rfl rfl)
              have f219 := (show (-1) ≤ I197 39 2 ∧ I197 39 2 ≤ 999999 from gc_in hI197 R_39 rfl rfl)
              show gv_X _ _ (255, [(5, .inl (I154 (t + 11) 1)), (0, .inr (.inr (some 39))), (1, .inr (.inl v1_14))], [], sh, gc_h sh I197 J171 A)
              refine gv_run 1 true hD (pc' := 256) (lv' := [(5, .inl (I154 (t + 11) 1)), (0, .inr (.inr (some 39))), (1, .inr (.inl v1_14))]) (st' := [.inl 1]) (h' := gc_h sh I197 J171 A) (C := (True ∧ True)) rfl ⟨trivial, trivial⟩ ?_
              exact gv_zret hD rfl (by omega) ⟨I197, J171, rfl, hI197, FI197, FJ171, KLT_I197, KTK_I197, ⟨_, rfl, by omega⟩⟩
            · show gv_X _ _ (188, [(0, .inr (.inr (some 39))), (1, .inr (.inl v1_14))], [], sh, gc_h sh I154 J155 A)
              refine gv_pick [] rfl ?_
              exact L188 I154 J155 hI154 FI154 FJ155 KLT_I154 KTK_I154 (by omega)
          have L177 : ∀ (I220 : gr_I) (J221 : gr_J) , gc_Inv ro I220 → (∀ q j : Nat, ((q = 39 ∧ j = 3) ∨ (q = 39 ∧ j = 4) ∨ (q = 23 ∧ j = 5) ∨ (q = 23 ∧ j = 6) ∨ (q = 23 ∧ j = 7) ∨ (q = 23 ∧ j = 8) ∨ (q = 1 ∧ j = 17) ∨ (q = 1 ∧ j = 18) ∨ q = 20 ∨ (q = 39 ∧ j = 6) ∨ (q = 39 ∧ j = 8) ∨ q = 40 ∨ (q = 41 ∧ j = 0) ∨ (q = 41 ∧ j = 1) ∨ (q = 41 ∧ j = 2) ∨ q = (t + 13) ∨ q = (t + 14) ∨ (q = (t + 11) ∧ j = 1)) ∨ I220 q j = I q j) → (∀ q j : Nat, ((q = 23 ∧ j = 9) ∨ q = (t + 12)) ∨ J221 q j = J q j) → gc_LT I220 → gc_TK I220 → ((I220 23 1 = I 23 1) ∧ (I 23 5 ≤ I220 23 5) ∧ (B ≤ 1280 ∧ I220 1 17 + I220 23 1 ≤ B + I220 23 5) ∧ (I220 39 2 = (t : Int))) → gv_X (gc_E6 ws0 tb 4 (yX6_readPattern, cX6_readPattern, 6, (some .boolean)) kX6_readPattern) (gv_Q cX6_readPattern (some .boolean) sh (fun r h' => (∃ (I' : gr_I) (J' : gr_J), h' = gc_h sh I' J' A ∧ gc_Inv ro I' ∧ (∀ q j : Nat, ((q = 39 ∧ j = 3) ∨ (q = 39 ∧ j = 4) ∨ (q = 23 ∧ j = 5) ∨ (q = 23 ∧ j = 6) ∨ (q = 23 ∧ j = 7) ∨ (q = 23 ∧ j = 8) ∨ (q = 1 ∧ j = 17) ∨ (q = 1 ∧ j = 18) ∨ q = 20 ∨ (q = 39 ∧ j = 6) ∨ (q = 39 ∧ j = 8) ∨ q = 40 ∨ (q = 41 ∧ j = 0) ∨ (q = 41 ∧ j = 1) ∨ (q = 41 ∧ j = 2) ∨ q = (t + 13) ∨ q = (t + 14) ∨ (q = (t + 11) ∧ j = 1)) ∨ I' q j = I q j) ∧ (∀ q j : Nat, ((q = 23 ∧ j = 9) ∨ q = (t + 12)) ∨ J' q j = J q j) ∧ gc_LT I' ∧ gc_TK I' ∧ (∃ z : Int, r = some (.inl z) ∧ 0 ≤ z ∧ z ≤ 1 ∧ (I' 23 1 = I 23 1) ∧ (I 23 5 ≤ I' 23 5) ∧ (B ≤ 1280 ∧ I' 1 17 + I' 23 1 ≤ B + I' 23 5))))) (177, [(0, .inr (.inr (some 39))), (1, .inr (.inl v1_14))], [.inr (.inr (some 39))], sh, gc_h sh I220 J221 A) := by
            intro I220 J221 hI220 FI220 FJ221 KLT_I220 KTK_I220 m_222
            clear hv3_28_113 e0_113 e1_113 e2_113 e3_113 t114 f115 f116 f117 f118 f119 f120 f121 f122 f123 f124 hv3_28 hv4_28 hv5_28 e0_28 e1_28 e2_28 e3_28 t29 f30 f31 f32 f33 f34 f35 f36 f37 f38 f39
            obtain ⟨e0_222, e1_222, e2_222, e3_222⟩ := m_222
            have t223 := gc_TK_mo KTK_I220
            have f224 := (show 0 ≤ I220 23 1 ∧ I220 23 1 ≤ 1000 from gc_in hI220 R_23 rfl rfl)
            have f225 := (show 0 ≤ I220 23 5 ∧ I220 23 5 ≤ 1000 from gc_in hI220 R_23 rfl rfl)
            have f226 := (show 0 ≤ I220 23 6 ∧ I220 23 6 ≤ 1001 from gc_in hI220 R_23 rfl rfl)
            have f227 := (show 0 ≤ I220 23 7 ∧ I220 23 7 ≤ 125 from gc_in hI220 R_23 rfl rfl)
            have f228 := (show 0 ≤ I220 1 17 ∧ I220 1 17 ≤ 12000 from gc_in hI220 R_1 rfl rfl)
            have f229 := (show 0 ≤ I220 (t + 11) 1 ∧ I220 (t + 11) 1 ≤ 24 from gc_in hI220 R_t_11 rfl rfl)
            have f230 := (show (-2147483648) ≤ I220 41 0 ∧ I220 41 0 ≤ 2147483647 from gc_in hI220 R_41 rfl rfl)
            have f231 := (show (-2147483648) ≤ I220 41 1 ∧ I220 41 1 ≤ 2147483647 from gc_in hI220 R_41 rfl rfl)
            have f232 := (show (-2147483648) ≤ I220 41 2 ∧ I220 41 2 ≤ 2147483647 from gc_in hI220 R_41 rfl rfl)
            have f233 := (show (-1) ≤ I220 39 2 ∧ I220 39 2 ≤ 999999 from gc_in hI220 R_39 rfl rfl)
            refine gv_run 2 true hD (pc' := 182) (lv' := [(0, .inr (.inr (some 39))), (1, .inr (.inl v1_14))]) (st' := [.inl 1, .inr (.inr (some 39))]) (h' := gc_h sh I220 J221 A) (C := ((True ∧ True) ∧ True)) rfl ⟨⟨trivial, trivial⟩, trivial⟩ ?_
            exact L182 I220 J221 1 hI220 FI220 FJ221 KLT_I220 KTK_I220 (by omega)
          refine gv_run 2 true hD (pc' := 153) (lv' := [(0, .inr (.inr (some 39))), (1, .inr (.inl v1_14)), (3, .inl v3_28)]) (st' := [.inl 125, .inr (.inr (some 39))]) (h' := gc_h sh I26 J27 A) (C := ((True ∧ True) ∧ True)) rfl ⟨⟨trivial, trivial⟩, trivial⟩ ?_
          obtain ⟨r234, h234, E234, P234⟩ := d_X6_take (ws0 := ws0) (tb := tb) hws htb sh ro I26 J27 A hI26  125 hb   ⟨by omega, by omega⟩ (by omega) KLT_I26 KTK_I26
          obtain ⟨I235, J236, rfl, hI235, g234, k234, KLT_I235, KTK_I235, ⟨z234, rfl, q234⟩⟩ := P234
          have FI235 := gc_frc (W := fun q j => (q = 39 ∧ j = 3) ∨ (q = 39 ∧ j = 4) ∨ (q = 23 ∧ j = 5) ∨ (q = 23 ∧ j = 6) ∨ (q = 23 ∧ j = 7) ∨ (q = 23 ∧ j = 8) ∨ (q = 1 ∧ j = 17) ∨ (q = 1 ∧ j = 18) ∨ q = 20 ∨ (q = 39 ∧ j = 6) ∨ (q = 39 ∧ j = 8) ∨ q = 40 ∨ (q = 41 ∧ j = 0) ∨ (q = 41 ∧ j = 1) ∨ (q = 41 ∧ j = 2) ∨ q = (t + 13) ∨ q = (t + 14) ∨ (q = (t + 11) ∧ j = 1)) (V := fun q j => (q = 39 ∧ j = 3) ∨ (q = 39 ∧ j = 4) ∨ (q = 23 ∧ j = 5) ∨ (q = 23 ∧ j = 6) ∨ (q = 23 ∧ j = 7) ∨ (q = 23 ∧ j = 8)) FI26 (fun q j h => (h.elim (fun h => (Or.inl h)) (fun h => (h.elim (fun h => (Or.inr (Or.inl h))) (fun h => (h.elim (fun h => (Or.inr (Or.inr (Or.inl h)))) (fun h => (h.elim (fun h => (Or.inr (Or.inr (Or.inr (Or.inl h))))) (fun h => (h.elim (fun h => (Or.inr (Or.inr (Or.inr (Or.inr (Or.inl h)))))) (fun h => (Or.inr (Or.inr (Or.inr (Or.inr (Or.inr (Or.inl h))))))))))))))))) g234
          have FJ236 := gc_frc (W := fun q j => (q = 23 ∧ j = 9) ∨ q = (t + 12)) (V := fun q j => (q = 23 ∧ j = 9)) FJ27 (fun q j h => (Or.inl h)) k234
          have t237 := (g234 23 1).resolve_left (fun h => h.elim (fun h => absurd h.2 (by decide)) (fun h => h.elim (fun h => absurd h.2 (by decide)) (fun h => h.elim (fun h => absurd h.2 (by decide)) (fun h => h.elim (fun h => absurd h.2 (by decide)) (fun h => h.elim (fun h => absurd h.2 (by decide)) (fun h => absurd h.2 (by decide)))))))
          have t238 := (g234 1 17).resolve_left (fun h => h.elim (fun h => absurd h.2 (by decide)) (fun h => h.elim (fun h => absurd h.2 (by decide)) (fun h => h.elim (fun h => absurd h.2 (by decide)) (fun h => h.elim (fun h => absurd h.2 (by decide)) (fun h => h.elim (fun h => absurd h.2 (by decide)) (fun h => absurd h.2 (by decide)))))))
          have t239 := (g234 (t + 11) 1).resolve_left (fun h => h.elim (fun h => absurd h.2 (by decide)) (fun h => h.elim (fun h => absurd h.2 (by decide)) (fun h => h.elim (fun h => absurd h.2 (by decide)) (fun h => h.elim (fun h => absurd h.2 (by decide)) (fun h => h.elim (fun h => absurd h.2 (by decide)) (fun h => absurd h.2 (by decide)))))))
          have t240 := (g234 41 0).resolve_left (fun h => h.elim (fun h => absurd h.2 (by decide)) (fun h => h.elim (fun h => absurd h.2 (by decide)) (fun h => h.elim (fun h => absurd h.2 (by decide)) (fun h => h.elim (fun h => absurd h.2 (by decide)) (fun h => h.elim (fun h => absurd h.2 (by decide)) (fun h => absurd h.2 (by decide)))))))
          have t241 := (g234 41 1).resolve_left (fun h => h.elim (fun h => absurd h.2 (by decide)) (fun h => h.elim (fun h => absurd h.2 (by decide)) (fun h => h.elim (fun h => absurd h.2 (by decide)) (fun h => h.elim (fun h => absurd h.2 (by decide)) (fun h => h.elim (fun h => absurd h.2 (by decide)) (fun h => absurd h.2 (by decide)))))))
          have t242 := (g234 41 2).resolve_left (fun h => h.elim (fun h => absurd h.2 (by decide)) (fun h => h.elim (fun h => absurd h.2 (by decide)) (fun h => h.elim (fun h => absurd h.2 (by decide)) (fun h => h.elim (fun h => absurd h.2 (by decide)) (fun h => h.elim (fun h => absurd h.2 (by decide)) (fun h => absurd h.2 (by decide)))))))
          have t243 := (g234 39 2).resolve_left (fun h => h.elim (fun h => absurd h.2 (by decide)) (fun h => h.elim (fun h => absurd h.2 (by decide)) (fun h => h.elim (fun h => absurd h.2 (by decide)) (fun h => h.elim (fun h => absurd h.2 (by decide)) (fun h => h.elim (fun h => absurd h.2 (by decide)) (fun h => absurd h.2 (by decide)))))))
          have f244 := (show 0 ≤ I235 23 5 ∧ I235 23 5 ≤ 1000 from gc_in hI235 R_23 rfl rfl)
          have f245 := (show 0 ≤ I235 23 6 ∧ I235 23 6 ≤ 1001 from gc_in hI235 R_23 rfl rfl)
          have f246 := (show 0 ≤ I235 23 7 ∧ I235 23 7 ≤ 125 from gc_in hI235 R_23 rfl rfl)
          have t247 := gc_TK_mo KTK_I235
          refine gv_callV hD rfl (As := [.inl 125]) (st := []) rfl B_39 S_39 rfl (gc_lV6 hws rfl) (Nat.le_of_ble_eq_true rfl) (gz_Ev_mono (d := 3) (by decide) E234) ?_
          show gv_X _ _ (156, [(0, .inr (.inr (some 39))), (1, .inr (.inl v1_14)), (3, .inl v3_28)], [.inl z234], sh, gc_h sh I235 J236 A)
          refine gv_if_eq (t := 188) hD rfl rfl ⟨by omega, by omega⟩ (fun c248 => ?_) (fun c248 => ?_)
          · show gv_X _ _ (188, [(0, .inr (.inr (some 39))), (1, .inr (.inl v1_14)), (3, .inl v3_28)], [], sh, gc_h sh I235 J236 A)
            refine gv_pick [] rfl ?_
            exact L188 I235 J236 hI235 FI235 FJ236 KLT_I235 KTK_I235 (by omega)
          · show gv_X _ _ (159, [(0, .inr (.inr (some 39))), (1, .inr (.inl v1_14)), (3, .inl v3_28)], [], sh, gc_h sh I235 J236 A)
            refine gv_run 2 true hD (pc' := 161) (lv' := [(0, .inr (.inr (some 39))), (1, .inr (.inl v1_14)), (3, .inl v3_28)]) (st' := [.inl v3_28, .inr (.inr (some 39))]) (h' := gc_h sh I235 J236 A) (C := ((True ∧ True) ∧ True)) rfl ⟨⟨trivial, trivial⟩, trivial⟩ ?_
            refine gv_if_ne (t := 177) hD rfl rfl ⟨by omega, by omega⟩ (fun c249 => ?_) (fun c249 => ?_)
            · show gv_X _ _ (177, [(0, .inr (.inr (some 39))), (1, .inr (.inl v1_14)), (3, .inl v3_28)], [.inr (.inr (some 39))], sh, gc_h sh I235 J236 A)
              refine gv_pick [0, 1] rfl ?_
              exact L177 I235 J236 hI235 FI235 FJ236 KLT_I235 KTK_I235 (by omega)
            · show gv_X _ _ (164, [(0, .inr (.inr (some 39))), (1, .inr (.inl v1_14)), (3, .inl v3_28)], [.inr (.inr (some 39))], sh, gc_h sh I235 J236 A)
              refine gv_run 1 true hD (pc' := 165) (lv' := [(0, .inr (.inr (some 39))), (1, .inr (.inl v1_14)), (3, .inl v3_28)]) (st' := [.inr (.inr (some 39)), .inr (.inr (some 39))]) (h' := gc_h sh I235 J236 A) (C := (True ∧ True)) rfl ⟨trivial, trivial⟩ ?_
              refine gv_get hD rfl rfl S_39 ⟨by decide, B_39⟩ (gc_h5 (t := t) S_39 rfl (by omega)) ?_
              show gv_X _ _ (168, [(0, .inr (.inr (some 39))), (1, .inr (.inl v1_14)), (3, .inl v3_28)], [.inr (.inr (some t)), .inr (.inr (some 39))], sh, gc_h sh I235 J236 A)
              refine gv_get hD rfl rfl S_t ⟨by decide, B_t⟩ (gc_hA S_t rfl A_t_8) ?_
              show gv_X _ _ (171, [(0, .inr (.inr (some 39))), (1, .inr (.inl v1_14)), (3, .inl v3_28)], [.inr (.inr (some (t + 11))), .inr (.inr (some 39))], sh, gc_h sh I235 J236 A)
              obtain ⟨r250, h250, E250, P250⟩ := d_X4_isFull (ws0 := ws0) (tb := tb) hws htb sh ro I235 J236 A hI235 (t + 11) 24 8  h_t_11     
              obtain ⟨rfl, ⟨z250, rfl, q250⟩⟩ := P250
              refine gv_callV hD rfl (As := []) (st := [.inr (.inr (some 39))]) rfl B_t_11 S_t_11 rfl (gc_lV6 hws rfl) (Nat.le_of_ble_eq_true rfl) (gz_Ev_mono (d := 1) (by decide) E250) ?_
              show gv_X _ _ (174, [(0, .inr (.inr (some 39))), (1, .inr (.inl v1_14)), (3, .inl v3_28)], [.inl z250, .inr (.inr (some 39))], sh, gc_h sh I235 J236 A)
              refine gv_if_eq (t := 181) hD rfl rfl ⟨by omega, by omega⟩ (fun c251 => ?_) (fun c251 => ?_)
              · show gv_X _ _ (181, [(0, .inr (.inr (some 39))), (1, .inr (.inl v1_14)), (3, .inl v3_28)], [.inr (.inr (some 39))], sh, gc_h sh I235 J236 A)
                refine gv_run 1 true hD (pc' := 182) (lv' := [(0, .inr (.inr (some 39))), (1, .inr (.inl v1_14)), (3, .inl v3_28)]) (st' := [.inl 0, .inr (.inr (some 39))]) (h' := gc_h sh I235 J236 A) (C := (True ∧ True)) rfl ⟨trivial, trivial⟩ ?_
                refine gv_pick [0, 1] rfl ?_
                exact L182 I235 J236 0 hI235 FI235 FJ236 KLT_I235 KTK_I235 (by omega)
              · show gv_X _ _ (177, [(0, .inr (.inr (some 39))), (1, .inr (.inl v1_14)), (3, .inl v3_28)], [.inr (.inr (some 39))], sh, gc_h sh I235 J236 A)
                refine gv_pick [0, 1] rfl ?_
                exact L177 I235 J236 hI235 FI235 FJ236 KLT_I235 KTK_I235 (by omega)
        refine gv_run 2 true hD (pc' := 79) (lv' := [(0, .inr (.inr (some 39))), (1, .inr (.inl v1_14)), (3, .inl v3_28), (4, .inl v4_28), (5, .inl v5_28)]) (st' := [.inl 1000, .inl v5_28]) (h' := gc_h sh I26 J27 A) (C := ((True ∧ True) ∧ True)) rfl ⟨⟨trivial, trivial⟩, trivial⟩ ?_
        refine gv_icmp_ge (t := 150) hD rfl rfl ⟨⟨by omega, by omega⟩, ⟨by omega, by omega⟩⟩ (fun c252 => ?_) (fun c252 => ?_)
        · show gv_X _ _ (150, [(0, .inr (.inr (some 39))), (1, .inr (.inl v1_14)), (3, .inl v3_28), (4, .inl v4_28), (5, .inl v5_28)], [], sh, gc_h sh I26 J27 A)
          refine gv_pick [0, 1, 2] rfl ?_
          exact L150 (by omega)
        · show gv_X _ _ (82, [(0, .inr (.inr (some 39))), (1, .inr (.inl v1_14)), (3, .inl v3_28), (4, .inl v4_28), (5, .inl v5_28)], [], sh, gc_h sh I26 J27 A)
          refine gv_run 1 true hD (pc' := 84) (lv' := [(0, .inr (.inr (some 39))), (1, .inr (.inl v1_14)), (3, .inl v3_28), (4, .inl v4_28), (5, .inl v5_28)]) (st' := [.inl v4_28]) (h' := gc_h sh I26 J27 A) (C := (True ∧ True)) rfl ⟨trivial, trivial⟩ ?_
          refine gv_if_eq (t := 150) hD rfl rfl ⟨by omega, by omega⟩ (fun c253 => ?_) (fun c253 => ?_)
          · show gv_X _ _ (150, [(0, .inr (.inr (some 39))), (1, .inr (.inl v1_14)), (3, .inl v3_28), (4, .inl v4_28), (5, .inl v5_28)], [], sh, gc_h sh I26 J27 A)
            refine gv_pick [0, 1, 2] rfl ?_
            exact L150 (by omega)
          · show gv_X _ _ (87, [(0, .inr (.inr (some 39))), (1, .inr (.inl v1_14)), (3, .inl v3_28), (4, .inl v4_28), (5, .inl v5_28)], [], sh, gc_h sh I26 J27 A)
            refine gv_run 1 true hD (pc' := 88) (lv' := [(0, .inr (.inr (some 39))), (1, .inr (.inl v1_14)), (3, .inl v3_28), (4, .inl v4_28), (5, .inl v5_28)]) (st' := [.inr (.inr (some 39))]) (h' := gc_h sh I26 J27 A) (C := (True ∧ True)) rfl ⟨trivial, trivial⟩ ?_
            obtain ⟨r254, h254, E254, P254⟩ := d_X6_readCell (ws0 := ws0) (tb := tb) hws htb sh ro I26 J27 A hI26  t B  hb  h_t G_t   (by omega) (by omega) KLT_I26 KTK_I26
            obtain ⟨I255, J256, rfl, hI255, g254, k254, KLT_I255, KTK_I255, ⟨z254, rfl, q254⟩⟩ := P254
            have FI255 := gc_frc (W := fun q j => (q = 39 ∧ j = 3) ∨ (q = 39 ∧ j = 4) ∨ (q = 23 ∧ j = 5) ∨ (q = 23 ∧ j = 6) ∨ (q = 23 ∧ j = 7) ∨ (q = 23 ∧ j = 8) ∨ (q = 1 ∧ j = 17) ∨ (q = 1 ∧ j = 18) ∨ q = 20 ∨ (q = 39 ∧ j = 6) ∨ (q = 39 ∧ j = 8) ∨ q = 40 ∨ (q = 41 ∧ j = 0) ∨ (q = 41 ∧ j = 1) ∨ (q = 41 ∧ j = 2) ∨ q = (t + 13) ∨ q = (t + 14) ∨ (q = (t + 11) ∧ j = 1)) (V := fun q j => (q = 39 ∧ j = 3) ∨ (q = 39 ∧ j = 4) ∨ (q = 23 ∧ j = 5) ∨ (q = 23 ∧ j = 6) ∨ (q = 23 ∧ j = 7) ∨ (q = 23 ∧ j = 8) ∨ (q = 1 ∧ j = 17) ∨ (q = 1 ∧ j = 18) ∨ q = 20 ∨ (q = 39 ∧ j = 6) ∨ (q = 41 ∧ j = 0) ∨ (q = 41 ∧ j = 1) ∨ (q = 41 ∧ j = 2)) FI26 (fun q j h => (h.elim (fun h => (Or.inl h)) (fun h => (h.elim (fun h => (Or.inr (Or.inl h))) (fun h => (h.elim (fun h => (Or.inr (Or.inr (Or.inl h)))) (fun h => (h.elim (fun h => (Or.inr (Or.inr (Or.inr (Or.inl h))))) (fun h => (h.elim (fun h => (Or.inr (Or.inr (Or.inr (Or.inr (Or.inl h)))))) (fun h => (h.elim (fun h => (Or.inr (Or.inr (Or.inr (Or.inr (Or.inr (Or.inl h))))))) (fun h => (h.elim (fun h => (Or.inr (Or.inr (Or.inr (Or.inr (Or.inr (Or.inr (Or.inl h)))))))) (fun h => (h.elim (fun h => (Or.inr (Or.inr (Or.inr (Or.inr (Or.inr (Or.inr (Or.inr (Or.inl h))))))))) (fun h => (h.elim (fun h => (Or.inr (Or.inr (Or.inr (Or.inr (Or.inr (Or.inr (Or.inr (Or.inr (Or.inl h)))))))))) (fun h => (h.elim (fun h => (Or.inr (Or.inr (Or.inr (Or.inr (Or.inr (Or.inr (Or.inr (Or.inr (Or.inr (Or.inl h))))))))))) (fun h => (h.elim (fun h => (Or.inr (Or.inr (Or.inr (Or.inr (Or.inr (Or.inr (Or.inr (Or.inr (Or.inr (Or.inr (Or.inr (Or.inr (Or.inl h)))))))))))))) (fun h => (h.elim (fun h => (Or.inr (Or.inr (Or.inr (Or.inr (Or.inr (Or.inr (Or.inr (Or.inr (Or.inr (Or.inr (Or.inr (Or.inr (Or.inr (Or.inl h))))))))))))))) (fun h => (Or.inr (Or.inr (Or.inr (Or.inr (Or.inr (Or.inr (Or.inr (Or.inr (Or.inr (Or.inr (Or.inr (Or.inr (Or.inr (Or.inr (Or.inl h)))))))))))))))))))))))))))))))))))))))) g254
            have FJ256 := gc_frc (W := fun q j => (q = 23 ∧ j = 9) ∨ q = (t + 12)) (V := fun q j => (q = 23 ∧ j = 9)) FJ27 (fun q j h => (Or.inl h)) k254
            have t257 := (g254 23 1).resolve_left (fun h => h.elim (fun h => absurd h.2 (by decide)) (fun h => h.elim (fun h => absurd h.2 (by decide)) (fun h => h.elim (fun h => absurd h.2 (by decide)) (fun h => h.elim (fun h => absurd h.2 (by decide)) (fun h => h.elim (fun h => absurd h.2 (by decide)) (fun h => h.elim (fun h => absurd h.2 (by decide)) (fun h => h.elim (fun h => absurd h.2 (by decide)) (fun h => h.elim (fun h => absurd h.2 (by decide)) (fun h => h.elim (fun h => absurd h (by decide)) (fun h => h.elim (fun h => absurd h.2 (by decide)) (fun h => h.elim (fun h => absurd h.2 (by decide)) (fun h => h.elim (fun h => absurd h.1 (by decide)) (fun h => absurd h.2 (by decide))))))))))))))
            have t258 := (g254 (t + 11) 1).resolve_left (fun h => h.elim (fun h => absurd h.2 (by decide)) (fun h => h.elim (fun h => absurd h.2 (by decide)) (fun h => h.elim (fun h => absurd h.2 (by decide)) (fun h => h.elim (fun h => absurd h.2 (by decide)) (fun h => h.elim (fun h => absurd h.2 (by decide)) (fun h => h.elim (fun h => absurd h.2 (by decide)) (fun h => h.elim (fun h => absurd h.2 (by decide)) (fun h => h.elim (fun h => absurd h.2 (by decide)) (fun h => h.elim (fun h => absurd h N_t_11__20) (fun h => h.elim (fun h => absurd h.2 (by decide)) (fun h => h.elim (fun h => absurd h.2 (by decide)) (fun h => h.elim (fun h => absurd h.1 N_t_11__41) (fun h => absurd h.2 (by decide))))))))))))))
            have t259 := (g254 39 2).resolve_left (fun h => h.elim (fun h => absurd h.2 (by decide)) (fun h => h.elim (fun h => absurd h.2 (by decide)) (fun h => h.elim (fun h => absurd h.2 (by decide)) (fun h => h.elim (fun h => absurd h.2 (by decide)) (fun h => h.elim (fun h => absurd h.2 (by decide)) (fun h => h.elim (fun h => absurd h.2 (by decide)) (fun h => h.elim (fun h => absurd h.2 (by decide)) (fun h => h.elim (fun h => absurd h.2 (by decide)) (fun h => h.elim (fun h => absurd h (by decide)) (fun h => h.elim (fun h => absurd h.2 (by decide)) (fun h => h.elim (fun h => absurd h.2 (by decide)) (fun h => h.elim (fun h => absurd h.2 (by decide)) (fun h => absurd h.1 (by decide))))))))))))))
            have f260 := (show 0 ≤ I255 23 5 ∧ I255 23 5 ≤ 1000 from gc_in hI255 R_23 rfl rfl)
            have f261 := (show 0 ≤ I255 23 6 ∧ I255 23 6 ≤ 1001 from gc_in hI255 R_23 rfl rfl)
            have f262 := (show 0 ≤ I255 23 7 ∧ I255 23 7 ≤ 125 from gc_in hI255 R_23 rfl rfl)
            have f263 := (show 0 ≤ I255 1 17 ∧ I255 1 17 ≤ 12000 from gc_in hI255 R_1 rfl rfl)
            have f264 := (show (-2147483648) ≤ I255 41 0 ∧ I255 41 0 ≤ 2147483647 from gc_in hI255 R_41 rfl rfl)
            have f265 := (show (-2147483648) ≤ I255 41 1 ∧ I255 41 1 ≤ 2147483647 from gc_in hI255 R_41 rfl rfl)
            have f266 := (show (-2147483648) ≤ I255 41 2 ∧ I255 41 2 ≤ 2147483647 from gc_in hI255 R_41 rfl rfl)
            have t267 := gc_TK_mo KTK_I255
            refine gv_callV hD rfl (As := []) (st := []) rfl B_39 S_39 rfl (gc_lV6 hws rfl) (Nat.le_of_ble_eq_true rfl) (gz_Ev_mono (d := 4) (by decide) E254) ?_
            show gv_X _ _ (91, [(0, .inr (.inr (some 39))), (1, .inr (.inl v1_14)), (3, .inl v3_28), (4, .inl v4_28), (5, .inl v5_28)], [.inl z254], sh, gc_h sh I255 J256 A)
            refine gv_if_ne (t := 96) hD rfl rfl ⟨by omega, by omega⟩ (fun c268 => ?_) (fun c268 => ?_)
            · show gv_X _ _ (96, [(0, .inr (.inr (some 39))), (1, .inr (.inl v1_14)), (3, .inl v3_28), (4, .inl v4_28), (5, .inl v5_28)], [], sh, gc_h sh I255 J256 A)
              refine gv_run 1 true hD (pc' := 97) (lv' := [(0, .inr (.inr (some 39))), (1, .inr (.inl v1_14)), (3, .inl v3_28), (4, .inl v4_28), (5, .inl v5_28)]) (st' := [.inl v3_28]) (h' := gc_h sh I255 J256 A) (C := (True ∧ True)) rfl ⟨trivial, trivial⟩ ?_
              refine gv_if_ne (t := 107) hD rfl rfl ⟨by omega, by omega⟩ (fun c269 => ?_) (fun c269 => ?_)
              · show gv_X _ _ (107, [(0, .inr (.inr (some 39))), (1, .inr (.inl v1_14)), (3, .inl v3_28), (4, .inl v4_28), (5, .inl v5_28)], [], sh, gc_h sh I255 J256 A)
                refine gv_pick [0, 1, 4] rfl ?_
                exact L107 I255 J256 hI255 FI255 FJ256 KLT_I255 KTK_I255 (by omega)
              · show gv_X _ _ (100, [(0, .inr (.inr (some 39))), (1, .inr (.inl v1_14)), (3, .inl v3_28), (4, .inl v4_28), (5, .inl v5_28)], [], sh, gc_h sh I255 J256 A)
                refine gv_run 1 true hD (pc' := 101) (lv' := [(0, .inr (.inr (some 39))), (1, .inr (.inl v1_14)), (3, .inl v3_28), (4, .inl v4_28), (5, .inl v5_28)]) (st' := [.inr (.inr (some 39))]) (h' := gc_h sh I255 J256 A) (C := (True ∧ True)) rfl ⟨trivial, trivial⟩ ?_
                obtain ⟨r270, h270, E270, P270⟩ := d_X6_placeCell (ws0 := ws0) (tb := tb) hws htb sh ro I255 J256 A hI255   hb    (by omega) 
                obtain ⟨I271, J272, rfl, hI271, g270, k270, ⟨z270, rfl, q270⟩⟩ := P270
                have FI271 := gc_frc (W := fun q j => (q = 39 ∧ j = 3) ∨ (q = 39 ∧ j = 4) ∨ (q = 23 ∧ j = 5) ∨ (q = 23 ∧ j = 6) ∨ (q = 23 ∧ j = 7) ∨ (q = 23 ∧ j = 8) ∨ (q = 1 ∧ j = 17) ∨ (q = 1 ∧ j = 18) ∨ q = 20 ∨ (q = 39 ∧ j = 6) ∨ (q = 39 ∧ j = 8) ∨ q = 40 ∨ (q = 41 ∧ j = 0) ∨ (q = 41 ∧ j = 1) ∨ (q = 41 ∧ j = 2) ∨ q = (t + 13) ∨ q = (t + 14) ∨ (q = (t + 11) ∧ j = 1)) (V := fun q j => (q = 39 ∧ j = 8) ∨ q = 40) FI255 (fun q j h => (h.elim (fun h => (Or.inr (Or.inr (Or.inr (Or.inr (Or.inr (Or.inr (Or.inr (Or.inr (Or.inr (Or.inr (Or.inl h)))))))))))) (fun h => (Or.inr (Or.inr (Or.inr (Or.inr (Or.inr (Or.inr (Or.inr (Or.inr (Or.inr (Or.inr (Or.inr (Or.inl h))))))))))))))) g270
                have t273 := (g270 23 1).resolve_left (fun h => h.elim (fun h => absurd h.2 (by decide)) (fun h => absurd h (by decide)))
                have t274 := (g270 23 5).resolve_left (fun h => h.elim (fun h => absurd h.2 (by decide)) (fun h => absurd h (by decide)))
                have t275 := (g270 23 6).resolve_left (fun h => h.elim (fun h => absurd h.2 (by decide)) (fun h => absurd h (by decide)))
                have t276 := (g270 23 7).resolve_left (fun h => h.elim (fun h => absurd h.2 (by decide)) (fun h => absurd h (by decide)))
                have t277 := (g270 1 17).resolve_left (fun h => h.elim (fun h => absurd h.2 (by decide)) (fun h => absurd h (by decide)))
                have t278 := (g270 (t + 11) 1).resolve_left (fun h => h.elim (fun h => absurd h.2 (by decide)) (fun h => absurd h N_t_11__40))
                have t279 := (g270 41 0).resolve_left (fun h => h.elim (fun h => absurd h.2 (by decide)) (fun h => absurd h (by decide)))
                have t280 := (g270 41 1).resolve_left (fun h => h.elim (fun h => absurd h.2 (by decide)) (fun h => absurd h (by decide)))
                have t281 := (g270 41 2).resolve_left (fun h => h.elim (fun h => absurd h.2 (by decide)) (fun h => absurd h (by decide)))
                have t282 := (g270 39 2).resolve_left (fun h => h.elim (fun h => absurd h.2 (by decide)) (fun h => absurd h (by decide)))
                obtain rfl : J256 = J272 := funext fun q => funext fun j => ((k270 q j).resolve_left id).symm
                have KLT_I271 := gc_LT_fr KLT_I255 ((g270 23 5).resolve_left (fun h => h.elim (fun h => absurd h.2 (by decide)) (fun h => absurd h (by decide)))) ((g270 23 6).resolve_left (fun h => h.elim (fun h => absurd h.2 (by decide)) (fun h => absurd h (by decide)))) ((g270 23 7).resolve_left (fun h => h.elim (fun h => absurd h.2 (by decide)) (fun h => absurd h (by decide)))) (fun k => (g270 24 k).resolve_left (fun h => h.elim (fun h => absurd h.1 (by decide)) (fun h => absurd h (by decide))))
                have KTK_I271 := gc_TK_fr KTK_I255 ((g270 23 1).resolve_left (fun h => h.elim (fun h => absurd h.2 (by decide)) (fun h => absurd h (by decide)))) ((g270 23 5).resolve_left (fun h => h.elim (fun h => absurd h.2 (by decide)) (fun h => absurd h (by decide)))) ((g270 23 6).resolve_left (fun h => h.elim (fun h => absurd h.2 (by decide)) (fun h => absurd h (by decide)))) ((g270 23 7).resolve_left (fun h => h.elim (fun h => absurd h.2 (by decide)) (fun h => absurd h (by decide))))
                refine gv_callV hD rfl (As := []) (st := []) rfl B_39 S_39 rfl (gc_lV6 hws rfl) (Nat.le_of_ble_eq_true rfl) (gz_Ev_mono (d := 2) (by decide) E270) ?_
                show gv_X _ _ (104, [(0, .inr (.inr (some 39))), (1, .inr (.inl v1_14)), (3, .inl v3_28), (4, .inl v4_28), (5, .inl v5_28)], [.inl z270], sh, gc_h sh I271 J256 A)
                refine gv_if_ne (t := 111) hD rfl rfl ⟨by omega, by omega⟩ (fun c283 => ?_) (fun c283 => ?_)
                · show gv_X _ _ (111, [(0, .inr (.inr (some 39))), (1, .inr (.inl v1_14)), (3, .inl v3_28), (4, .inl v4_28), (5, .inl v5_28)], [], sh, gc_h sh I271 J256 A)
                  refine gv_run 1 true hD (pc' := 112) (lv' := [(0, .inr (.inr (some 39))), (1, .inr (.inl v1_14)), (3, .inl v3_28), (4, .inl v4_28), (5, .inl v5_28)]) (st' := [.inl 0]) (h' := gc_h sh I271 J256 A) (C := (True ∧ True)) rfl ⟨trivial, trivial⟩ ?_
                  refine gv_pick [0, 1, 4] rfl ?_
                  exact L112 I271 J256 0 hI271 FI271 FJ256 KLT_I271 KTK_I271 (by omega)
                · show gv_X _ _ (107, [(0, .inr (.inr (some 39))), (1, .inr (.inl v1_14)), (3, .inl v3_28), (4, .inl v4_28), (5, .inl v5_28)], [], sh, gc_h sh I271 J256 A)
                  refine gv_pick [0, 1, 4] rfl ?_
                  exact L107 I271 J256 hI271 FI271 FJ256 KLT_I271 KTK_I271 (by omega)
            · show gv_X _ _ (94, [(0, .inr (.inr (some 39))), (1, .inr (.inl v1_14)), (3, .inl v3_28), (4, .inl v4_28), (5, .inl v5_28)], [], sh, gc_h sh I255 J256 A)
              refine gv_run 1 true hD (pc' := 95) (lv' := [(0, .inr (.inr (some 39))), (1, .inr (.inl v1_14)), (3, .inl v3_28), (4, .inl v4_28), (5, .inl v5_28)]) (st' := [.inl 0]) (h' := gc_h sh I255 J256 A) (C := (True ∧ True)) rfl ⟨trivial, trivial⟩ ?_
              exact gv_zret hD rfl (by omega) ⟨I255, J256, rfl, hI255, FI255, FJ256, KLT_I255, KTK_I255, ⟨_, rfl, by omega⟩⟩
    refine gv_run 2 true hD (pc' := 58) (lv' := [(0, .inr (.inr (some 39))), (1, .inr (.inl v1_14))]) (st' := [.inl 123, .inr (.inr (some 39))]) (h' := gc_h sh I12 J13 A) (C := ((True ∧ True) ∧ True)) rfl ⟨⟨trivial, trivial⟩, trivial⟩ ?_
    obtain ⟨r284, h284, E284, P284⟩ := d_X6_take (ws0 := ws0) (tb := tb) hws htb sh ro I12 J13 A hI12  123 hb   ⟨by omega, by omega⟩ (by omega) KLT_I12 KTK_I12
    obtain ⟨I285, J286, rfl, hI285, g284, k284, KLT_I285, KTK_I285, ⟨z284, rfl, q284⟩⟩ := P284
    have FI285 := gc_frc (W := fun q j => (q = 39 ∧ j = 3) ∨ (q = 39 ∧ j = 4) ∨ (q = 23 ∧ j = 5) ∨ (q = 23 ∧ j = 6) ∨ (q = 23 ∧ j = 7) ∨ (q = 23 ∧ j = 8) ∨ (q = 1 ∧ j = 17) ∨ (q = 1 ∧ j = 18) ∨ q = 20 ∨ (q = 39 ∧ j = 6) ∨ (q = 39 ∧ j = 8) ∨ q = 40 ∨ (q = 41 ∧ j = 0) ∨ (q = 41 ∧ j = 1) ∨ (q = 41 ∧ j = 2) ∨ q = (t + 13) ∨ q = (t + 14) ∨ (q = (t + 11) ∧ j = 1)) (V := fun q j => (q = 39 ∧ j = 3) ∨ (q = 39 ∧ j = 4) ∨ (q = 23 ∧ j = 5) ∨ (q = 23 ∧ j = 6) ∨ (q = 23 ∧ j = 7) ∨ (q = 23 ∧ j = 8)) FI12 (fun q j h => (h.elim (fun h => (Or.inl h)) (fun h => (h.elim (fun h => (Or.inr (Or.inl h))) (fun h => (h.elim (fun h => (Or.inr (Or.inr (Or.inl h)))) (fun h => (h.elim (fun h => (Or.inr (Or.inr (Or.inr (Or.inl h))))) (fun h => (h.elim (fun h => (Or.inr (Or.inr (Or.inr (Or.inr (Or.inl h)))))) (fun h => (Or.inr (Or.inr (Or.inr (Or.inr (Or.inr (Or.inl h))))))))))))))))) g284
    have FJ286 := gc_frc (W := fun q j => (q = 23 ∧ j = 9) ∨ q = (t + 12)) (V := fun q j => (q = 23 ∧ j = 9)) FJ13 (fun q j h => (Or.inl h)) k284
    have t287 := (g284 23 1).resolve_left (fun h => h.elim (fun h => absurd h.2 (by decide)) (fun h => h.elim (fun h => absurd h.2 (by decide)) (fun h => h.elim (fun h => absurd h.2 (by decide)) (fun h => h.elim (fun h => absurd h.2 (by decide)) (fun h => h.elim (fun h => absurd h.2 (by decide)) (fun h => absurd h.2 (by decide)))))))
    have t288 := (g284 1 17).resolve_left (fun h => h.elim (fun h => absurd h.2 (by decide)) (fun h => h.elim (fun h => absurd h.2 (by decide)) (fun h => h.elim (fun h => absurd h.2 (by decide)) (fun h => h.elim (fun h => absurd h.2 (by decide)) (fun h => h.elim (fun h => absurd h.2 (by decide)) (fun h => absurd h.2 (by decide)))))))
    have t289 := (g284 (t + 11) 1).resolve_left (fun h => h.elim (fun h => absurd h.2 (by decide)) (fun h => h.elim (fun h => absurd h.2 (by decide)) (fun h => h.elim (fun h => absurd h.2 (by decide)) (fun h => h.elim (fun h => absurd h.2 (by decide)) (fun h => h.elim (fun h => absurd h.2 (by decide)) (fun h => absurd h.2 (by decide)))))))
    have t290 := (g284 41 0).resolve_left (fun h => h.elim (fun h => absurd h.2 (by decide)) (fun h => h.elim (fun h => absurd h.2 (by decide)) (fun h => h.elim (fun h => absurd h.2 (by decide)) (fun h => h.elim (fun h => absurd h.2 (by decide)) (fun h => h.elim (fun h => absurd h.2 (by decide)) (fun h => absurd h.2 (by decide)))))))
    have t291 := (g284 41 1).resolve_left (fun h => h.elim (fun h => absurd h.2 (by decide)) (fun h => h.elim (fun h => absurd h.2 (by decide)) (fun h => h.elim (fun h => absurd h.2 (by decide)) (fun h => h.elim (fun h => absurd h.2 (by decide)) (fun h => h.elim (fun h => absurd h.2 (by decide)) (fun h => absurd h.2 (by decide)))))))
    have t292 := (g284 41 2).resolve_left (fun h => h.elim (fun h => absurd h.2 (by decide)) (fun h => h.elim (fun h => absurd h.2 (by decide)) (fun h => h.elim (fun h => absurd h.2 (by decide)) (fun h => h.elim (fun h => absurd h.2 (by decide)) (fun h => h.elim (fun h => absurd h.2 (by decide)) (fun h => absurd h.2 (by decide)))))))
    have t293 := (g284 39 2).resolve_left (fun h => h.elim (fun h => absurd h.2 (by decide)) (fun h => h.elim (fun h => absurd h.2 (by decide)) (fun h => h.elim (fun h => absurd h.2 (by decide)) (fun h => h.elim (fun h => absurd h.2 (by decide)) (fun h => h.elim (fun h => absurd h.2 (by decide)) (fun h => absurd h.2 (by decide)))))))
    have f294 := (show 0 ≤ I285 23 5 ∧ I285 23 5 ≤ 1000 from gc_in hI285 R_23 rfl rfl)
    have f295 := (show 0 ≤ I285 23 6 ∧ I285 23 6 ≤ 1001 from gc_in hI285 R_23 rfl rfl)
    have f296 := (show 0 ≤ I285 23 7 ∧ I285 23 7 ≤ 125 from gc_in hI285 R_23 rfl rfl)
    have t297 := gc_TK_mo KTK_I285
    refine gv_callV hD rfl (As := [.inl 123]) (st := []) rfl B_39 S_39 rfl (gc_lV6 hws rfl) (Nat.le_of_ble_eq_true rfl) (gz_Ev_mono (d := 3) (by decide) E284) ?_
    show gv_X _ _ (61, [(0, .inr (.inr (some 39))), (1, .inr (.inl v1_14))], [.inl z284], sh, gc_h sh I285 J286 A)
    refine gv_if_ne (t := 66) hD rfl rfl ⟨by omega, by omega⟩ (fun c298 => ?_) (fun c298 => ?_)
    · show gv_X _ _ (66, [(0, .inr (.inr (some 39))), (1, .inr (.inl v1_14))], [], sh, gc_h sh I285 J286 A)
      refine gv_run 6 true hD (pc' := 74) (lv' := [(5, .inl 0), (4, .inl 1), (3, .inl 0), (0, .inr (.inr (some 39))), (1, .inr (.inl v1_14))]) (st' := []) (h' := gc_h sh I285 J286 A) (C := ((((((True ∧ True) ∧ True) ∧ True) ∧ True) ∧ True) ∧ True)) rfl ⟨⟨⟨⟨⟨⟨trivial, trivial⟩, trivial⟩, trivial⟩, trivial⟩, trivial⟩, trivial⟩ ?_
      refine gv_pick [3, 4, 2, 1, 0] rfl ?_
      exact L74 _ I285 J286 0 1 0 (Nat.lt_succ_self _) hI285 FI285 FJ286 KLT_I285 KTK_I285 (by omega)
    · show gv_X _ _ (64, [(0, .inr (.inr (some 39))), (1, .inr (.inl v1_14))], [], sh, gc_h sh I285 J286 A)
      refine gv_run 1 true hD (pc' := 65) (lv' := [(0, .inr (.inr (some 39))), (1, .inr (.inl v1_14))]) (st' := [.inl 0]) (h' := gc_h sh I285 J286 A) (C := (True ∧ True)) rfl ⟨trivial, trivial⟩ ?_
      exact gv_zret hD rfl (by omega) ⟨I285, J286, rfl, hI285, FI285, FJ286, KLT_I285, KTK_I285, ⟨_, rfl, by omega⟩⟩
  refine gv_run 2 true hD (pc' := 2) (lv' := [(0, .inr (.inr (some 39)))]) (st' := [.inr (.inr (some 39)), .inr (.inr (some 39))]) (h' := gc_h sh I J A) (C := ((True ∧ True) ∧ True)) rfl ⟨⟨trivial, trivial⟩, trivial⟩ ?_
  refine gv_get hD rfl rfl S_39 ⟨by decide, B_39⟩ (gc_h5 (t := t) S_39 rfl (by omega)) ?_
  show gv_X _ _ (5, [(0, .inr (.inr (some 39)))], [.inr (.inr (some t)), .inr (.inr (some 39))], sh, gc_h sh I J A)
  refine gv_get hD rfl rfl S_t ⟨by decide, B_t⟩ (gc_hA S_t rfl A_t_8) ?_
  show gv_X _ _ (8, [(0, .inr (.inr (some 39)))], [.inr (.inr (some (t + 11))), .inr (.inr (some 39))], sh, gc_h sh I J A)
  obtain ⟨r299, h299, E299, P299⟩ := d_X6_needNew (ws0 := ws0) (tb := tb) hws htb sh ro I J A hI  24 8 (t + 11) hb h_t_11    
  obtain ⟨I300, J301, rfl, hI300, g299, k299, ⟨z299, rfl, q299⟩⟩ := P299
  have FI300 := gc_frc (W := fun q j => (q = 39 ∧ j = 3) ∨ (q = 39 ∧ j = 4) ∨ (q = 23 ∧ j = 5) ∨ (q = 23 ∧ j = 6) ∨ (q = 23 ∧ j = 7) ∨ (q = 23 ∧ j = 8) ∨ (q = 1 ∧ j = 17) ∨ (q = 1 ∧ j = 18) ∨ q = 20 ∨ (q = 39 ∧ j = 6) ∨ (q = 39 ∧ j = 8) ∨ q = 40 ∨ (q = 41 ∧ j = 0) ∨ (q = 41 ∧ j = 1) ∨ (q = 41 ∧ j = 2) ∨ q = (t + 13) ∨ q = (t + 14) ∨ (q = (t + 11) ∧ j = 1)) (V := fun q j => (q = 39 ∧ j = 3) ∨ (q = 39 ∧ j = 4)) FI (fun q j h => (h.elim (fun h => (Or.inl h)) (fun h => (Or.inr (Or.inl h))))) g299
  have t302 := (g299 23 1).resolve_left (fun h => h.elim (fun h => absurd h.2 (by decide)) (fun h => absurd h.2 (by decide)))
  have t303 := (g299 23 5).resolve_left (fun h => h.elim (fun h => absurd h.2 (by decide)) (fun h => absurd h.2 (by decide)))
  have t304 := (g299 23 6).resolve_left (fun h => h.elim (fun h => absurd h.2 (by decide)) (fun h => absurd h.2 (by decide)))
  have t305 := (g299 23 7).resolve_left (fun h => h.elim (fun h => absurd h.2 (by decide)) (fun h => absurd h.2 (by decide)))
  have t306 := (g299 1 17).resolve_left (fun h => h.elim (fun h => absurd h.2 (by decide)) (fun h => absurd h.2 (by decide)))
  have t307 := (g299 (t + 11) 1).resolve_left (fun h => h.elim (fun h => absurd h.2 (by decide)) (fun h => absurd h.2 (by decide)))
  have t308 := (g299 41 0).resolve_left (fun h => h.elim (fun h => absurd h.2 (by decide)) (fun h => absurd h.2 (by decide)))
  have t309 := (g299 41 1).resolve_left (fun h => h.elim (fun h => absurd h.2 (by decide)) (fun h => absurd h.2 (by decide)))
  have t310 := (g299 41 2).resolve_left (fun h => h.elim (fun h => absurd h.2 (by decide)) (fun h => absurd h.2 (by decide)))
  have t311 := (g299 39 2).resolve_left (fun h => h.elim (fun h => absurd h.2 (by decide)) (fun h => absurd h.2 (by decide)))
  obtain rfl : J = J301 := funext fun q => funext fun j => ((k299 q j).resolve_left id).symm
  have KLT_I300 := gc_LT_fr KLT_I ((g299 23 5).resolve_left (fun h => h.elim (fun h => absurd h.2 (by decide)) (fun h => absurd h.2 (by decide)))) ((g299 23 6).resolve_left (fun h => h.elim (fun h => absurd h.2 (by decide)) (fun h => absurd h.2 (by decide)))) ((g299 23 7).resolve_left (fun h => h.elim (fun h => absurd h.2 (by decide)) (fun h => absurd h.2 (by decide)))) (fun k => (g299 24 k).resolve_left (fun h => h.elim (fun h => absurd h.1 (by decide)) (fun h => absurd h.1 (by decide))))
  have KTK_I300 := gc_TK_fr KTK_I ((g299 23 1).resolve_left (fun h => h.elim (fun h => absurd h.2 (by decide)) (fun h => absurd h.2 (by decide)))) ((g299 23 5).resolve_left (fun h => h.elim (fun h => absurd h.2 (by decide)) (fun h => absurd h.2 (by decide)))) ((g299 23 6).resolve_left (fun h => h.elim (fun h => absurd h.2 (by decide)) (fun h => absurd h.2 (by decide)))) ((g299 23 7).resolve_left (fun h => h.elim (fun h => absurd h.2 (by decide)) (fun h => absurd h.2 (by decide))))
  refine gv_callV hD rfl (As := [.inr (.inr (some (t + 11)))]) (st := []) rfl B_39 S_39 rfl (gc_lV6 hws rfl) (Nat.le_of_ble_eq_true rfl) (gz_Ev_mono (d := 3) (by decide) E299) ?_
  show gv_X _ _ (11, [(0, .inr (.inr (some 39)))], [.inl z299], sh, gc_h sh I300 J A)
  refine gv_if_ne (t := 16) hD rfl rfl ⟨by omega, by omega⟩ (fun c312 => ?_) (fun c312 => ?_)
  · show gv_X _ _ (16, [(0, .inr (.inr (some 39)))], [], sh, gc_h sh I300 J A)
    refine gv_run 1 true hD (pc' := 17) (lv' := [(0, .inr (.inr (some 39)))]) (st' := [.inr (.inr (some 39))]) (h' := gc_h sh I300 J A) (C := (True ∧ True)) rfl ⟨trivial, trivial⟩ ?_
    refine gv_get hD rfl rfl S_39 ⟨by decide, B_39⟩ (gc_hA S_39 rfl A_39_1) ?_
    show gv_X _ _ (20, [(0, .inr (.inr (some 39)))], [.inr (.inr (some 23))], sh, gc_h sh I300 J A)
    refine gv_get hD rfl rfl S_23 ⟨by decide, B_23⟩ (gc_hJ S_23 rfl) ?_
    show gv_X _ _ (23, [(0, .inr (.inr (some 39)))], [.inr (.inl (J 23 9))], sh, gc_h sh I300 J A)
    refine gv_run 2 true hD (pc' := 25) (lv' := [(1, .inr (.inl (J 23 9))), (0, .inr (.inr (some 39)))]) (st' := [.inr (.inr (some 39))]) (h' := gc_h sh I300 J A) (C := ((True ∧ True) ∧ True)) rfl ⟨⟨trivial, trivial⟩, trivial⟩ ?_
    refine gv_get hD rfl rfl S_39 ⟨by decide, B_39⟩ (gc_hA S_39 rfl A_39_1) ?_
    show gv_X _ _ (28, [(1, .inr (.inl (J 23 9))), (0, .inr (.inr (some 39)))], [.inr (.inr (some 23))], sh, gc_h sh I300 J A)
    have t314 := gc_TK_nx KTK_I300 (by omega)
    have t315 := gc_TK_st KTK_I300 (by omega)
    obtain ⟨r313, h313, E313, P313⟩ := d_X9_advance (ws0 := ws0) (tb := tb) hws htb sh ro I300 J A hI300 23  (gc_b23 hb)    (by omega) 
    obtain ⟨I316, J317, rfl, hI316, g313, k313, ⟨rfl, V313_0, V313_1, V313_2, V313_3, V313_4, q313⟩⟩ := P313
    have FI316 := gc_frc (W := fun q j => (q = 39 ∧ j = 3) ∨ (q = 39 ∧ j = 4) ∨ (q = 23 ∧ j = 5) ∨ (q = 23 ∧ j = 6) ∨ (q = 23 ∧ j = 7) ∨ (q = 23 ∧ j = 8) ∨ (q = 1 ∧ j = 17) ∨ (q = 1 ∧ j = 18) ∨ q = 20 ∨ (q = 39 ∧ j = 6) ∨ (q = 39 ∧ j = 8) ∨ q = 40 ∨ (q = 41 ∧ j = 0) ∨ (q = 41 ∧ j = 1) ∨ (q = 41 ∧ j = 2) ∨ q = (t + 13) ∨ q = (t + 14) ∨ (q = (t + 11) ∧ j = 1)) (V := fun q j => (q = 23 ∧ j = 5) ∨ (q = 23 ∧ j = 6) ∨ (q = 23 ∧ j = 7) ∨ (q = 23 ∧ j = 8)) FI300 (fun q j h => (h.elim (fun h => (Or.inr (Or.inr (Or.inl h)))) (fun h => (h.elim (fun h => (Or.inr (Or.inr (Or.inr (Or.inl h))))) (fun h => (h.elim (fun h => (Or.inr (Or.inr (Or.inr (Or.inr (Or.inl h)))))) (fun h => (Or.inr (Or.inr (Or.inr (Or.inr (Or.inr (Or.inl h))))))))))))) g313
    have FJ317 := gc_frc (W := fun q j => (q = 23 ∧ j = 9) ∨ q = (t + 12)) (V := fun q j => (q = 23 ∧ j = 9)) FJ (fun q j h => (Or.inl h)) k313
    have t318 := (g313 23 1).resolve_left (fun h => h.elim (fun h => absurd h.2 (by decide)) (fun h => h.elim (fun h => absurd h.2 (by decide)) (fun h => h.elim (fun h => absurd h.2 (by decide)) (fun h => absurd h.2 (by decide)))))
    have t319 := (g313 1 17).resolve_left (fun h => h.elim (fun h => absurd h.2 (by decide)) (fun h => h.elim (fun h => absurd h.2 (by decide)) (fun h => h.elim (fun h => absurd h.2 (by decide)) (fun h => absurd h.2 (by decide)))))
    have t320 := (g313 (t + 11) 1).resolve_left (fun h => h.elim (fun h => absurd h.2 (by decide)) (fun h => h.elim (fun h => absurd h.2 (by decide)) (fun h => h.elim (fun h => absurd h.2 (by decide)) (fun h => absurd h.2 (by decide)))))
    have t321 := (g313 41 0).resolve_left (fun h => h.elim (fun h => absurd h.2 (by decide)) (fun h => h.elim (fun h => absurd h.2 (by decide)) (fun h => h.elim (fun h => absurd h.2 (by decide)) (fun h => absurd h.2 (by decide)))))
    have t322 := (g313 41 1).resolve_left (fun h => h.elim (fun h => absurd h.2 (by decide)) (fun h => h.elim (fun h => absurd h.2 (by decide)) (fun h => h.elim (fun h => absurd h.2 (by decide)) (fun h => absurd h.2 (by decide)))))
    have t323 := (g313 41 2).resolve_left (fun h => h.elim (fun h => absurd h.2 (by decide)) (fun h => h.elim (fun h => absurd h.2 (by decide)) (fun h => h.elim (fun h => absurd h.2 (by decide)) (fun h => absurd h.2 (by decide)))))
    have t324 := (g313 39 2).resolve_left (fun h => h.elim (fun h => absurd h.2 (by decide)) (fun h => h.elim (fun h => absurd h.2 (by decide)) (fun h => h.elim (fun h => absurd h.2 (by decide)) (fun h => absurd h.2 (by decide)))))
    have f325 := (show 0 ≤ I316 23 5 ∧ I316 23 5 ≤ 1000 from gc_in hI316 R_23 rfl rfl)
    have f326 := (show 0 ≤ I316 23 6 ∧ I316 23 6 ≤ 1001 from gc_in hI316 R_23 rfl rfl)
    have f327 := (show 0 ≤ I316 23 7 ∧ I316 23 7 ≤ 125 from gc_in hI316 R_23 rfl rfl)
    have KLT_I316 : gc_LT I316 := q313.2.2
    have KTK_I316 : gc_TK I316 := And.intro V313_0 (And.intro V313_1 (And.intro V313_2 (And.intro V313_3 V313_4)))
    have t328 := gc_TK_mo KTK_I316
    clear V313_0 V313_1 V313_2 V313_3 V313_4
    refine gv_callV hD rfl (As := []) (st := []) rfl B_23 S_23 rfl (gc_lV6 hws rfl) (Nat.le_of_ble_eq_true rfl) (gz_Ev_mono (d := 2) (by decide) E313) ?_
    show gv_X _ _ (31, [(1, .inr (.inl (J 23 9))), (0, .inr (.inr (some 39)))], [], sh, gc_h sh I316 J317 A)
    refine gv_run 2 true hD (pc' := 33) (lv' := [(1, .inr (.inl (J 23 9))), (0, .inr (.inr (some 39)))]) (st' := [.inl 0, .inr (.inr (some 39))]) (h' := gc_h sh I316 J317 A) (C := ((True ∧ True) ∧ True)) rfl ⟨⟨trivial, trivial⟩, trivial⟩ ?_
    refine gv_put hD rfl rfl S_39 ⟨by decide, B_39⟩ rfl trivial ?_
    refine gc_st (k := 8) hI316 S_39 rfl R_39 (lo := 0) (hi := 24) rfl rfl (by omega) (by omega) (fun I329 hI329 q330 p330 => ?_)
    have FI329 := gc_frs (W := fun q j => (q = 39 ∧ j = 3) ∨ (q = 39 ∧ j = 4) ∨ (q = 23 ∧ j = 5) ∨ (q = 23 ∧ j = 6) ∨ (q = 23 ∧ j = 7) ∨ (q = 23 ∧ j = 8) ∨ (q = 1 ∧ j = 17) ∨ (q = 1 ∧ j = 18) ∨ q = 20 ∨ (q = 39 ∧ j = 6) ∨ (q = 39 ∧ j = 8) ∨ q = 40 ∨ (q = 41 ∧ j = 0) ∨ (q = 41 ∧ j = 1) ∨ (q = 41 ∧ j = 2) ∨ q = (t + 13) ∨ q = (t + 14) ∨ (q = (t + 11) ∧ j = 1)) FI316 (Or.inr (Or.inr (Or.inr (Or.inr (Or.inr (Or.inr (Or.inr (Or.inr (Or.inr (Or.inr (Or.inl ⟨rfl, rfl⟩))))))))))) p330
    have t331 := p330 23 1 (fun h => absurd h.2 (by decide))
    have t332 := p330 23 5 (fun h => absurd h.2 (by decide))
    have t333 := p330 23 6 (fun h => absurd h.2 (by decide))
    have t334 := p330 23 7 (fun h => absurd h.2 (by decide))
    have t335 := p330 1 17 (fun h => absurd h.2 (by decide))
    have t336 := p330 (t + 11) 1 (fun h => absurd h.2 (by decide))
    have t337 := p330 41 0 (fun h => absurd h.2 (by decide))
    have t338 := p330 41 1 (fun h => absurd h.2 (by decide))
    have t339 := p330 41 2 (fun h => absurd h.2 (by decide))
    have t340 := p330 39 2 (fun h => absurd h.2 (by decide))
    have KLT_I329 := gc_LT_fr KLT_I316 (p330 23 5 (fun h => absurd h.2 (by decide))) (p330 23 6 (fun h => absurd h.2 (by decide))) (p330 23 7 (fun h => absurd h.2 (by decide))) (fun k => p330 24 k (fun h => absurd h.1 (by decide)))
    have KTK_I329 := gc_TK_fr KTK_I316 (p330 23 1 (fun h => absurd h.2 (by decide))) (p330 23 5 (fun h => absurd h.2 (by decide))) (p330 23 6 (fun h => absurd h.2 (by decide))) (p330 23 7 (fun h => absurd h.2 (by decide)))
    show gv_X _ _ (36, [(1, .inr (.inl (J 23 9))), (0, .inr (.inr (some 39)))], [], sh, gc_h sh I329 J317 A)
    refine gv_run 2 true hD (pc' := 40) (lv' := [(1, .inr (.inl (J 23 9))), (0, .inr (.inr (some 39)))]) (st' := [.inr (.inl (28518)), .inr (.inr (some 39))]) (h' := gc_h sh I329 J317 A) (C := ((True ∧ True) ∧ True)) rfl ⟨⟨trivial, trivial⟩, trivial⟩ ?_
    obtain ⟨r341, h341, E341, P341⟩ := d_X6_isWord (ws0 := ws0) (tb := tb) hws htb sh ro I329 J317 A hI329  (28518) hb     
    obtain ⟨rfl, ⟨z341, rfl, q341⟩⟩ := P341
    refine gv_callV hD rfl (As := [.inr (.inl (28518))]) (st := []) rfl B_39 S_39 rfl (gc_lV6 hws rfl) (Nat.le_of_ble_eq_true rfl) (gz_Ev_mono (d := 1) (by decide) E341) ?_
    show gv_X _ _ (43, [(1, .inr (.inl (J 23 9))), (0, .inr (.inr (some 39)))], [.inl z341], sh, gc_h sh I329 J317 A)
    refine gv_if_eq (t := 55) hD rfl rfl ⟨by omega, by omega⟩ (fun c342 => ?_) (fun c342 => ?_)
    · show gv_X _ _ (55, [(1, .inr (.inl (J 23 9))), (0, .inr (.inr (some 39)))], [], sh, gc_h sh I329 J317 A)
      refine gv_pick [1, 0] rfl ?_
      exact L55 I329 J317 (J 23 9) hI329 FI329 FJ317 KLT_I329 KTK_I329 (by omega)
    · show gv_X _ _ (46, [(1, .inr (.inl (J 23 9))), (0, .inr (.inr (some 39)))], [], sh, gc_h sh I329 J317 A)
      refine gv_run 1 true hD (pc' := 47) (lv' := [(1, .inr (.inl (J 23 9))), (0, .inr (.inr (some 39)))]) (st' := [.inr (.inr (some 39))]) (h' := gc_h sh I329 J317 A) (C := (True ∧ True)) rfl ⟨trivial, trivial⟩ ?_
      obtain ⟨r343, h343, E343, P343⟩ := d_X6_readParent (ws0 := ws0) (tb := tb) hws htb sh ro I329 J317 A hI329  t  hb  h_t G_t   (by omega) (by omega) KLT_I329 KTK_I329
      obtain ⟨I344, J345, rfl, hI344, g343, k343, KLT_I344, KTK_I344, ⟨z343, rfl, q343⟩⟩ := P343
      have FI344 := gc_frc (W := fun q j => (q = 39 ∧ j = 3) ∨ (q = 39 ∧ j = 4) ∨ (q = 23 ∧ j = 5) ∨ (q = 23 ∧ j = 6) ∨ (q = 23 ∧ j = 7) ∨ (q = 23 ∧ j = 8) ∨ (q = 1 ∧ j = 17) ∨ (q = 1 ∧ j = 18) ∨ q = 20 ∨ (q = 39 ∧ j = 6) ∨ (q = 39 ∧ j = 8) ∨ q = 40 ∨ (q = 41 ∧ j = 0) ∨ (q = 41 ∧ j = 1) ∨ (q = 41 ∧ j = 2) ∨ q = (t + 13) ∨ q = (t + 14) ∨ (q = (t + 11) ∧ j = 1)) (V := fun q j => (q = 39 ∧ j = 3) ∨ (q = 39 ∧ j = 4) ∨ (q = 23 ∧ j = 5) ∨ (q = 23 ∧ j = 6) ∨ (q = 23 ∧ j = 7) ∨ (q = 23 ∧ j = 8) ∨ (q = 39 ∧ j = 8) ∨ q = 40) FI329 (fun q j h => (h.elim (fun h => (Or.inl h)) (fun h => (h.elim (fun h => (Or.inr (Or.inl h))) (fun h => (h.elim (fun h => (Or.inr (Or.inr (Or.inl h)))) (fun h => (h.elim (fun h => (Or.inr (Or.inr (Or.inr (Or.inl h))))) (fun h => (h.elim (fun h => (Or.inr (Or.inr (Or.inr (Or.inr (Or.inl h)))))) (fun h => (h.elim (fun h => (Or.inr (Or.inr (Or.inr (Or.inr (Or.inr (Or.inl h))))))) (fun h => (h.elim (fun h => (Or.inr (Or.inr (Or.inr (Or.inr (Or.inr (Or.inr (Or.inr (Or.inr (Or.inr (Or.inr (Or.inl h)))))))))))) (fun h => (Or.inr (Or.inr (Or.inr (Or.inr (Or.inr (Or.inr (Or.inr (Or.inr (Or.inr (Or.inr (Or.inr (Or.inl h))))))))))))))))))))))))))) g343
      have FJ345 := gc_frc (W := fun q j => (q = 23 ∧ j = 9) ∨ q = (t + 12)) (V := fun q j => (q = 23 ∧ j = 9)) FJ317 (fun q j h => (Or.inl h)) k343
      have t346 := (g343 23 1).resolve_left (fun h => h.elim (fun h => absurd h.2 (by decide)) (fun h => h.elim (fun h => absurd h.2 (by decide)) (fun h => h.elim (fun h => absurd h.2 (by decide)) (fun h => h.elim (fun h => absurd h.2 (by decide)) (fun h => h.elim (fun h => absurd h.2 (by decide)) (fun h => h.elim (fun h => absurd h.2 (by decide)) (fun h => h.elim (fun h => absurd h.2 (by decide)) (fun h => absurd h (by decide)))))))))
      have t347 := (g343 1 17).resolve_left (fun h => h.elim (fun h => absurd h.2 (by decide)) (fun h => h.elim (fun h => absurd h.2 (by decide)) (fun h => h.elim (fun h => absurd h.2 (by decide)) (fun h => h.elim (fun h => absurd h.2 (by decide)) (fun h => h.elim (fun h => absurd h.2 (by decide)) (fun h => h.elim (fun h => absurd h.2 (by decide)) (fun h => h.elim (fun h => absurd h.2 (by decide)) (fun h => absurd h (by decide)))))))))
      have t348 := (g343 (t + 11) 1).resolve_left (fun h => h.elim (fun h => absurd h.2 (by decide)) (fun h => h.elim (fun h => absurd h.2 (by decide)) (fun h => h.elim (fun h => absurd h.2 (by decide)) (fun h => h.elim (fun h => absurd h.2 (by decide)) (fun h => h.elim (fun h => absurd h.2 (by decide)) (fun h => h.elim (fun h => absurd h.2 (by decide)) (fun h => h.elim (fun h => absurd h.2 (by decide)) (fun h => absurd h N_t_11__40))))))))
      have t349 := (g343 41 0).resolve_left (fun h => h.elim (fun h => absurd h.2 (by decide)) (fun h => h.elim (fun h => absurd h.2 (by decide)) (fun h => h.elim (fun h => absurd h.2 (by decide)) (fun h => h.elim (fun h => absurd h.2 (by decide)) (fun h => h.elim (fun h => absurd h.2 (by decide)) (fun h => h.elim (fun h => absurd h.2 (by decide)) (fun h => h.elim (fun h => absurd h.2 (by decide)) (fun h => absurd h (by decide)))))))))
      have t350 := (g343 41 1).resolve_left (fun h => h.elim (fun h => absurd h.2 (by decide)) (fun h => h.elim (fun h => absurd h.2 (by decide)) (fun h => h.elim (fun h => absurd h.2 (by decide)) (fun h => h.elim (fun h => absurd h.2 (by decide)) (fun h => h.elim (fun h => absurd h.2 (by decide)) (fun h => h.elim (fun h => absurd h.2 (by decide)) (fun h => h.elim (fun h => absurd h.2 (by decide)) (fun h => absurd h (by decide)))))))))
      have t351 := (g343 41 2).resolve_left (fun h => h.elim (fun h => absurd h.2 (by decide)) (fun h => h.elim (fun h => absurd h.2 (by decide)) (fun h => h.elim (fun h => absurd h.2 (by decide)) (fun h => h.elim (fun h => absurd h.2 (by decide)) (fun h => h.elim (fun h => absurd h.2 (by decide)) (fun h => h.elim (fun h => absurd h.2 (by decide)) (fun h => h.elim (fun h => absurd h.2 (by decide)) (fun h => absurd h (by decide)))))))))
      have t352 := (g343 39 2).resolve_left (fun h => h.elim (fun h => absurd h.2 (by decide)) (fun h => h.elim (fun h => absurd h.2 (by decide)) (fun h => h.elim (fun h => absurd h.2 (by decide)) (fun h => h.elim (fun h => absurd h.2 (by decide)) (fun h => h.elim (fun h => absurd h.2 (by decide)) (fun h => h.elim (fun h => absurd h.2 (by decide)) (fun h => h.elim (fun h => absurd h.2 (by decide)) (fun h => absurd h (by decide)))))))))
      have f353 := (show 0 ≤ I344 23 5 ∧ I344 23 5 ≤ 1000 from gc_in hI344 R_23 rfl rfl)
      have f354 := (show 0 ≤ I344 23 6 ∧ I344 23 6 ≤ 1001 from gc_in hI344 R_23 rfl rfl)
      have f355 := (show 0 ≤ I344 23 7 ∧ I344 23 7 ≤ 125 from gc_in hI344 R_23 rfl rfl)
      have t356 := gc_TK_mo KTK_I344
      refine gv_callV hD rfl (As := []) (st := []) rfl B_39 S_39 rfl (gc_lV6 hws rfl) (Nat.le_of_ble_eq_true rfl) (gz_Ev_mono (d := 4) (by decide) E343) ?_
      show gv_X _ _ (50, [(1, .inr (.inl (J 23 9))), (0, .inr (.inr (some 39)))], [.inl z343], sh, gc_h sh I344 J345 A)
      refine gv_if_ne (t := 55) hD rfl rfl ⟨by omega, by omega⟩ (fun c357 => ?_) (fun c357 => ?_)
      · show gv_X _ _ (55, [(1, .inr (.inl (J 23 9))), (0, .inr (.inr (some 39)))], [], sh, gc_h sh I344 J345 A)
        refine gv_pick [1, 0] rfl ?_
        exact L55 I344 J345 (J 23 9) hI344 FI344 FJ345 KLT_I344 KTK_I344 (by omega)
      · show gv_X _ _ (53, [(1, .inr (.inl (J 23 9))), (0, .inr (.inr (some 39)))], [], sh, gc_h sh I344 J345 A)
        refine gv_run 1 true hD (pc' := 54) (lv' := [(1, .inr (.inl (J 23 9))), (0, .inr (.inr (some 39)))]) (st' := [.inl 0]) (h' := gc_h sh I344 J345 A) (C := (True ∧ True)) rfl ⟨trivial, trivial⟩ ?_
        exact gv_zret hD rfl (by omega) ⟨I344, J345, rfl, hI344, FI344, FJ345, KLT_I344, KTK_I344, ⟨_, rfl, by omega⟩⟩
  · show gv_X _ _ (14, [(0, .inr (.inr (some 39)))], [], sh, gc_h sh I300 J A)
    refine gv_run 1 true hD (pc' := 15) (lv' := [(0, .inr (.inr (some 39)))]) (st' := [.inl 0]) (h' := gc_h sh I300 J A) (C := (True ∧ True)) rfl ⟨trivial, trivial⟩ ?_
    exact gv_zret hD rfl (by omega) ⟨I300, J, rfl, hI300, FI300, FJ, KLT_I300, KTK_I300, ⟨_, rfl, by omega⟩⟩
