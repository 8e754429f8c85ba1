set_option maxHeartbeats 4000000 in
set_option maxRecDepth 100000 in
theorem d_X6_readAgree {ws0 : List Cond} {tb : String → gz_T} (hws : gc_Ws ws0) (htb : gc_tbs tb) (sh : gz_Sh) (ro : Nat → Nat) (I : gr_I) (J : gr_J) (A : gc_A) (hI : gc_Inv ro I) (t : Nat) (a1 : Nat) (hb : gc_Base sh ro A) (h_a1 : gc_isLin sh ro A a1) (G_a1 : 144 ≤ a1) (h_t : gc_isTongue sh ro A t) (G_t : 144 ≤ t)  (x0 : I a1 12 ≤ 5) (x1 : I 39 2 = (t : Int)) (KLT_I : gc_LT I) (KTK_I : gc_TK I) : ∃ r h', gz_Ev ws0 tb 4 (yX6_readAgree, cX6_readAgree, 4, (some .boolean)) [.inr (.inr (some 39)), .inr (.inr (some a1))] sh (gc_h sh I J A) r sh h' 0 0 ∧ (∃ (I' : gr_I) (J' : gr_J), h' = gc_h sh I' J' A ∧ gc_Inv ro I' ∧ (∀ q j : Nat, ((q = 39 ∧ j = 3) ∨ (q = 39 ∧ j = 4) ∨ (q = 23 ∧ j = 5) ∨ (q = 23 ∧ j = 6) ∨ (q = 23 ∧ j = 7) ∨ (q = 23 ∧ j = 8) ∨ q = (a1 + 7) ∨ (q = a1 ∧ j = 12)) ∨ I' q j = I q j) ∧ (∀ q j : Nat, ((q = 23 ∧ j = 9)) ∨ J' q j = J q j) ∧ gc_LT I' ∧ gc_TK I' ∧ (∃ z : Int, r = some (.inl z) ∧ 0 ≤ z ∧ z ≤ 1 ∧ (I' 23 1 = I 23 1) ∧ (I 23 5 ≤ I' 23 5) ∧ (I' a1 12 ≤ I a1 12 + 1))) := by
  have FI : ∀ q j : Nat, ((q = 39 ∧ j = 3) ∨ (q = 39 ∧ j = 4) ∨ (q = 23 ∧ j = 5) ∨ (q = 23 ∧ j = 6) ∨ (q = 23 ∧ j = 7) ∨ (q = 23 ∧ j = 8) ∨ q = (a1 + 7) ∨ (q = a1 ∧ j = 12)) ∨ I q j = I q j := fun _ _ => Or.inr rfl
  have FJ : ∀ q j : Nat, ((q = 23 ∧ j = 9)) ∨ J q j = J q j := fun _ _ => Or.inr rfl
  have A_39_1 : A 39 1 = some 23 := gc_bA hb rfl
  have B_23 : 23 < 1000000 := by decide
  have B_39 : 39 < 1000000 := by decide
  have R_23 : ro 23 = 3 := gc_bR hb (by decide) rfl
  have R_39 : ro 39 = 42 := gc_bR hb (by decide) rfl
  have S_23 : sh[23]? = some (false, 9, 10) := gc_bS hb rfl
  have S_39 : sh[39]? = some (false, 6, 19) := gc_bS hb rfl
  obtain ⟨S_a1, R_a1, B_a1, A_a1_5, S_a1_1, R_a1_1, B_a1_1, A_a1_6, S_a1_2, R_a1_2, B_a1_2, A_a1_7, S_a1_3, R_a1_3, B_a1_3, A_a1_9, S_a1_4, R_a1_4, B_a1_4, A_a1_10, S_a1_5, R_a1_5, B_a1_5, A_a1_11, S_a1_6, R_a1_6, B_a1_6, A_a1_13, S_a1_7, R_a1_7, B_a1_7, A_a1_15, S_a1_8, R_a1_8, B_a1_8⟩ := id h_a1
  obtain ⟨S_t, R_t, B_t, A_t_0, h_t_1, A_t_1, h_t_3, A_t_2, S_t_5, R_t_5, B_t_5, A_t_3, S_t_6, R_t_6, B_t_6, A_t_4, h_t_7, A_t_5, S_t_9, R_t_9, B_t_9, A_t_7, S_t_10, R_t_10, B_t_10, A_t_8, h_t_11, A_t_9, S_t_13, R_t_13, B_t_13, A_t_10, S_t_14, R_t_14, B_t_14, A_t_12, S_t_15, R_t_15, B_t_15, A_t_14, S_t_16, R_t_16, B_t_16, A_t_15, h_t_17⟩ := id h_t
  obtain ⟨S_t_1, R_t_1, B_t_1, A_t_1_0, S_t_1_1, R_t_1_1, B_t_1_1, Q0_t_1, Q1_t_1, Q2_t_1⟩ := id h_t_1
  obtain ⟨S_t_3, R_t_3, B_t_3, A_t_3_0, S_t_3_1, R_t_3_1, B_t_3_1, Q0_t_3, Q1_t_3, Q2_t_3⟩ := id h_t_3
  obtain ⟨S_t_7, R_t_7, B_t_7, A_t_7_0, S_t_7_1, R_t_7_1, B_t_7_1, Q0_t_7, Q1_t_7, Q2_t_7⟩ := id h_t_7
  obtain ⟨S_t_11, R_t_11, B_t_11, A_t_11_0, S_t_11_1, R_t_11_1, B_t_11_1, Q0_t_11, Q1_t_11, Q2_t_11⟩ := id h_t_11
  obtain ⟨S_t_17, R_t_17, B_t_17, A_t_17_0, S_20, R_20, B_20, A_t_17_1, S_t_17_1, R_t_17_1, B_t_17_1, A_t_17_2, S_t_17_2, R_t_17_2, B_t_17_2, A_t_17_3, S_t_17_3, R_t_17_3, B_t_17_3, A_t_17_4, S_t_17_4, R_t_17_4, B_t_17_4, A_t_17_5, S_t_17_5, R_t_17_5, B_t_17_5, S_t_17_6, R_t_17_6, B_t_17_6, S_t_17_7, R_t_17_7, B_t_17_7⟩ := id h_t_17
  have N1 := gc_dj_LT h_a1 h_t
  have hD : gv_D (gc_E6 ws0 tb 3 (yX6_readAgree, cX6_readAgree, 4, (some .boolean)) kX6_readAgree) := gq_ok oX6_readAgree
  refine gc_ev6 (d := 3) (l := kX6_readAgree) (Po := fun r h' => (∃ (I' : gr_I) (J' : gr_J), h' = gc_h sh I' J' A ∧ gc_Inv ro I' ∧ (∀ q j : Nat, ((q = 39 ∧ j = 3) ∨ (q = 39 ∧ j = 4) ∨ (q = 23 ∧ j = 5) ∨ (q = 23 ∧ j = 6) ∨ (q = 23 ∧ j = 7) ∨ (q = 23 ∧ j = 8) ∨ q = (a1 + 7) ∨ (q = a1 ∧ j = 12)) ∨ I' q j = I q j) ∧ (∀ q j : Nat, ((q = 23 ∧ j = 9)) ∨ J' q j = J q j) ∧ gc_LT I' ∧ gc_TK I' ∧ (∃ z : Int, r = some (.inl z) ∧ 0 ≤ z ∧ z ≤ 1 ∧ (I' 23 1 = I 23 1) ∧ (I 23 5 ≤ I' 23 5) ∧ (I' a1 12 ≤ I a1 12 + 1)))) htb rfl (Nat.le_of_ble_eq_true rfl) ?_
  have N_23__a1_7 : ¬ (23 = (a1 + 7)) := by omega
  have N_a1__a1_7 : ¬ (a1 = (a1 + 7)) := by omega
  have N_t_1__a1_7 : ¬ ((t + 1) = (a1 + 7)) := by omega
  have N_39__a1_7 : ¬ (39 = (a1 + 7)) := by omega
  have N_24__a1_7 : ¬ (24 = (a1 + 7)) := by omega
  have N_24__a1 : ¬ (24 = a1) := by omega
  have t1 := gc_TK_mo KTK_I
  have f2 := (show 0 ≤ I 23 1 ∧ I 23 1 ≤ 1000 from gc_in hI R_23 rfl rfl)
  have f3 := (show 0 ≤ I 23 5 ∧ I 23 5 ≤ 1000 from gc_in hI R_23 rfl rfl)
  have f4 := (show 0 ≤ I 23 6 ∧ I 23 6 ≤ 1001 from gc_in hI R_23 rfl rfl)
  have f5 := (show 0 ≤ I 23 7 ∧ I 23 7 ≤ 125 from gc_in hI R_23 rfl rfl)
  have f6 := (show 0 ≤ I a1 12 ∧ I a1 12 ≤ 6 from gc_in hI R_a1 rfl rfl)
  have f7 := (show 0 ≤ I 23 8 ∧ I 23 8 ≤ 999999 from gc_in hI R_23 rfl rfl)
  have f8 := (show 0 ≤ I (t + 1) 1 ∧ I (t + 1) 1 ≤ 8 from gc_in hI R_t_1 rfl rfl)
  have f9 := (show (-1) ≤ I 39 2 ∧ I 39 2 ≤ 999999 from gc_in hI R_39 rfl rfl)
  have L9 : ∀ (n9 : Nat) (I10 : gr_I) (J11 : gr_J) (v2_12 : Int) (v3_12 : Int), (3 - v3_12).toNat < n9 → gc_Inv ro I10 → (∀ q j : Nat, ((q = 39 ∧ j = 3) ∨ (q = 39 ∧ j = 4) ∨ (q = 23 ∧ j = 5) ∨ (q = 23 ∧ j = 6) ∨ (q = 23 ∧ j = 7) ∨ (q = 23 ∧ j = 8) ∨ q = (a1 + 7) ∨ (q = a1 ∧ j = 12)) ∨ I10 q j = I q j) → (∀ q j : Nat, ((q = 23 ∧ j = 9)) ∨ J11 q j = J q j) → gc_LT I10 → gc_TK I10 → ((0 ≤ v2_12 ∧ v2_12 ≤ 15) ∧ (0 ≤ v3_12 ∧ v3_12 ≤ 2) ∧ (v2_12 = 3 * I10 a1 12) ∧ (I10 a1 12 = I a1 12) ∧ (I10 23 1 = I 23 1) ∧ (I 23 5 ≤ I10 23 5) ∧ (I10 39 2 = (t : Int))) → gv_X (gc_E6 ws0 tb 3 (yX6_readAgree, cX6_readAgree, 4, (some .boolean)) kX6_readAgree) (gv_Q cX6_readAgree (some .boolean) sh (fun r h' => (∃ (I' : gr_I) (J' : gr_J), h' = gc_h sh I' J' A ∧ gc_Inv ro I' ∧ (∀ q j : Nat, ((q = 39 ∧ j = 3) ∨ (q = 39 ∧ j = 4) ∨ (q = 23 ∧ j = 5) ∨ (q = 23 ∧ j = 6) ∨ (q = 23 ∧ j = 7) ∨ (q = 23 ∧ j = 8) ∨ q = (a1 + 7) ∨ (q = a1 ∧ j = 12)) ∨ I' q j = I q j) ∧ (∀ q j : Nat, ((q = 23 ∧ j = 9)) ∨ J' q j = J q j) ∧ gc_LT I' ∧ gc_TK I' ∧ (∃ z : Int, r = some (.inl z) ∧ 0 ≤ z ∧ z ≤ 1 ∧ (I' 23 1 = I 23 1) ∧ (I 23 5 ≤ I' 23 5) ∧ (I' a1 12 ≤ I a1 12 + 1))))) (9, [(0, .inr (.inr (some 39))), (1, .inr (.inr (some a1))), (2, .inl v2_12), (3, .inl v3_12)], [], sh, gc_h sh I10 J11 A) := by
    intro n9
    induction n9 with
    | zero => intro I10 J11 v2_12 v3_12 hn; omega
    | succ n9 ih9 =>
      intro I10 J11 v2_12 v3_12 hn hI10 FI10 FJ11 KLT_I10 KTK_I10 m_12
      obtain ⟨hv2_12, hv3_12, e0_12, e1_12, e2_12, e3_12, e4_12⟩ := m_12
      have t13 := gc_TK_mo KTK_I10
      have f14 := (show 0 ≤ I10 23 1 ∧ I10 23 1 ≤ 1000 from gc_in hI10 R_23 rfl rfl)
      have f15 := (show 0 ≤ I10 23 5 ∧ I10 23 5 ≤ 1000 from gc_in hI10 R_23 rfl rfl)
      have f16 := (show 0 ≤ I10 23 6 ∧ I10 23 6 ≤ 1001 from gc_in hI10 R_23 rfl rfl)
      have f17 := (show 0 ≤ I10 23 7 ∧ I10 23 7 ≤ 125 from gc_in hI10 R_23 rfl rfl)
      have f18 := (show 0 ≤ I10 a1 12 ∧ I10 a1 12 ≤ 6 from gc_in hI10 R_a1 rfl rfl)
      have f19 := (show 0 ≤ I10 23 8 ∧ I10 23 8 ≤ 999999 from gc_in hI10 R_23 rfl rfl)
      have f20 := (show 0 ≤ I10 (t + 1) 1 ∧ I10 (t + 1) 1 ≤ 8 from gc_in hI10 R_t_1 rfl rfl)
      have f21 := (show (-1) ≤ I10 39 2 ∧ I10 39 2 ≤ 999999 from gc_in hI10 R_39 rfl rfl)
      refine gv_run 2 true hD (pc' := 11) (lv' := [(0, .inr (.inr (some 39))), (1, .inr (.inr (some a1))), (2, .inl v2_12), (3, .inl v3_12)]) (st' := [.inl 2, .inl v3_12]) (h' := gc_h sh I10 J11 A) (C := ((True ∧ True) ∧ True)) rfl ⟨⟨trivial, trivial⟩, trivial⟩ ?_
      refine gv_icmp_ge (t := 59) hD rfl rfl ⟨⟨by omega, by omega⟩, ⟨by omega, by omega⟩⟩ (fun c22 => ?_) (fun c22 => ?_)
      · show gv_X _ _ (59, [(0, .inr (.inr (some 39))), (1, .inr (.inr (some a1))), (2, .inl v2_12), (3, .inl v3_12)], [], sh, gc_h sh I10 J11 A)
        refine gv_run 2 true hD (pc' := 61) (lv' := [(0, .inr (.inr (some 39))), (1, .inr (.inr (some a1))), (2, .inl v2_12), (3, .inl v3_12)]) (st' := [.inr (.inr (some 39)), .inr (.inr (some 39))]) (h' := gc_h sh I10 J11 A) (C := ((True ∧ True) ∧ True)) rfl ⟨⟨trivial, trivial⟩, trivial⟩ ?_
        refine gv_get hD rfl rfl S_39 ⟨by decide, B_39⟩ (gc_h5 (t := t) S_39 rfl (by omega)) ?_
        show gv_X _ _ (64, [(0, .inr (.inr (some 39))), (1, .inr (.inr (some a1))), (2, .inl v2_12), (3, .inl v3_12)], [.inr (.inr (some t)), .inr (.inr (some 39))], sh, gc_h sh I10 J11 A)
        refine gv_get hD rfl rfl S_t ⟨by decide, B_t⟩ (gc_hA S_t rfl A_t_0) ?_
        show gv_X _ _ (67, [(0, .inr (.inr (some 39))), (1, .inr (.inr (some a1))), (2, .inl v2_12), (3, .inl v3_12)], [.inr (.inr (some (t + 1))), .inr (.inr (some 39))], sh, gc_h sh I10 J11 A)
        obtain ⟨r23, h23, E23, P23⟩ := d_X6_needKnown (ws0 := ws0) (tb := tb) hws htb sh ro I10 J11 A hI10  8 6 (t + 1) hb h_t_1    
        obtain ⟨I24, J25, rfl, hI24, g23, k23, ⟨z23, rfl, q23⟩⟩ := P23
        have FI24 := gc_frc (W := fun q j => (q = 39 ∧ j = 3) ∨ (q = 39 ∧ j = 4) ∨ (q = 23 ∧ j = 5) ∨ (q = 23 ∧ j = 6) ∨ (q = 23 ∧ j = 7) ∨ (q = 23 ∧ j = 8) ∨ q = (a1 + 7) ∨ (q = a1 ∧ j = 12)) (V := fun q j => (q = 39 ∧ j = 3) ∨ (q = 39 ∧ j = 4)) FI10 (fun q j h => (h.elim (fun h => (Or.inl h)) (fun h => (Or.inr (Or.inl h))))) g23
        have t26 := (g23 23 1).resolve_left (fun h => h.elim (fun h => absurd h.2 (by decide)) (fun h => absurd h.2 (by decide)))
        have t27 := (g23 23 5).resolve_left (fun h => h.elim (fun h => absurd h.2 (by decide)) (fun h => absurd h.2 (by decide)))
        have t28 := (g23 23 6).resolve_left (fun h => h.elim (fun h => absurd h.2 (by decide)) (fun h => absurd h.2 (by decide)))
        have t29 := (g23 23 7).resolve_left (fun h => h.elim (fun h => absurd h.2 (by decide)) (fun h => absurd h.2 (by decide)))
        have t30 := (g23 a1 12).resolve_left (fun h => h.elim (fun h => absurd h.2 (by decide)) (fun h => absurd h.2 (by decide)))
        have t31 := (g23 23 8).resolve_left (fun h => h.elim (fun h => absurd h.2 (by decide)) (fun h => absurd h.2 (by decide)))
        have t32 := (g23 (t + 1) 1).resolve_left (fun h => h.elim (fun h => absurd h.2 (by decide)) (fun h => absurd h.2 (by decide)))
        have t33 := (g23 39 2).resolve_left (fun h => h.elim (fun h => absurd h.2 (by decide)) (fun h => absurd h.2 (by decide)))
        obtain rfl : J11 = J25 := funext fun q => funext fun j => ((k23 q j).resolve_left id).symm
        have KLT_I24 := gc_LT_fr KLT_I10 ((g23 23 5).resolve_left (fun h => h.elim (fun h => absurd h.2 (by decide)) (fun h => absurd h.2 (by decide)))) ((g23 23 6).resolve_left (fun h => h.elim (fun h => absurd h.2 (by decide)) (fun h => absurd h.2 (by decide)))) ((g23 23 7).resolve_left (fun h => h.elim (fun h => absurd h.2 (by decide)) (fun h => absurd h.2 (by decide)))) (fun k => (g23 24 k).resolve_left (fun h => h.elim (fun h => absurd h.1 (by decide)) (fun h => absurd h.1 (by decide))))
        have KTK_I24 := gc_TK_fr KTK_I10 ((g23 23 1).resolve_left (fun h => h.elim (fun h => absurd h.2 (by decide)) (fun h => absurd h.2 (by decide)))) ((g23 23 5).resolve_left (fun h => h.elim (fun h => absurd h.2 (by decide)) (fun h => absurd h.2 (by decide)))) ((g23 23 6).resolve_left (fun h => h.elim (fun h => absurd h.2 (by decide)) (fun h => absurd h.2 (by decide)))) ((g23 23 7).resolve_left (fun h => h.elim (fun h => absurd h.2 (by decide)) (fun h => absurd h.2 (by decide))))
        refine gv_callV hD rfl (As := [.inr (.inr (some (t + 1)))]) (st := []) rfl B_39 S_39 rfl (gc_lV6 hws rfl) (Nat.le_of_ble_eq_true rfl) (gz_Ev_mono (d := 3) (by decide) E23) ?_
        show gv_X _ _ (70, [(0, .inr (.inr (some 39))), (1, .inr (.inr (some a1))), (2, .inl v2_12), (3, .inl v3_12)], [.inl z23], sh, gc_h sh I24 J11 A)
        refine gv_if_ne (t := 75) hD rfl rfl ⟨by omega, by omega⟩ (fun c34 => ?_) (fun c34 => ?_)
        · show gv_X _ _ (75, [(0, .inr (.inr (some 39))), (1, .inr (.inr (some a1))), (2, .inl v2_12), (3, .inl v3_12)], [], sh, gc_h sh I24 J11 A)
          refine gv_run 1 true hD (pc' := 76) (lv' := [(0, .inr (.inr (some 39))), (1, .inr (.inr (some a1))), (2, .inl v2_12), (3, .inl v3_12)]) (st' := [.inr (.inr (some a1))]) (h' := gc_h sh I24 J11 A) (C := (True ∧ True)) rfl ⟨trivial, trivial⟩ ?_
          refine gv_get hD rfl rfl S_a1 ⟨by decide, B_a1⟩ (gc_hA S_a1 rfl A_a1_13) ?_
          show gv_X _ _ (79, [(0, .inr (.inr (some 39))), (1, .inr (.inr (some a1))), (2, .inl v2_12), (3, .inl v3_12)], [.inr (.inr (some (a1 + 7)))], sh, gc_h sh I24 J11 A)
          refine gv_run 4 true hD (pc' := 83) (lv' := [(0, .inr (.inr (some 39))), (1, .inr (.inr (some a1))), (2, .inl v2_12), (3, .inl v3_12)]) (st' := [.inr (.inr (some 39)), .inl (v2_12 + 2), .inr (.inr (some (a1 + 7)))]) (h' := gc_h sh I24 J11 A) (C := ((((True ∧ True) ∧ True) ∧ True) ∧ True)) rfl ⟨⟨⟨⟨trivial, trivial⟩, trivial⟩, trivial⟩, trivial⟩ ?_
          refine gv_get hD rfl rfl S_39 ⟨by decide, B_39⟩ (gc_h5 (t := t) S_39 rfl (by omega)) ?_
          show gv_X _ _ (86, [(0, .inr (.inr (some 39))), (1, .inr (.inr (some a1))), (2, .inl v2_12), (3, .inl v3_12)], [.inr (.inr (some t)), .inl (v2_12 + 2), .inr (.inr (some (a1 + 7)))], sh, gc_h sh I24 J11 A)
          refine gv_get hD rfl rfl S_t ⟨by decide, B_t⟩ (gc_hA S_t rfl A_t_0) ?_
          show gv_X _ _ (89, [(0, .inr (.inr (some 39))), (1, .inr (.inr (some a1))), (2, .inl v2_12), (3, .inl v3_12)], [.inr (.inr (some (t + 1))), .inl (v2_12 + 2), .inr (.inr (some (a1 + 7)))], sh, gc_h sh I24 J11 A)
          refine gv_run 1 true hD (pc' := 90) (lv' := [(0, .inr (.inr (some 39))), (1, .inr (.inr (some a1))), (2, .inl v2_12), (3, .inl v3_12)]) (st' := [.inr (.inr (some 39)), .inr (.inr (some (t + 1))), .inl (v2_12 + 2), .inr (.inr (some (a1 + 7)))]) (h' := gc_h sh I24 J11 A) (C := (True ∧ True)) rfl ⟨trivial, trivial⟩ ?_
          refine gv_get hD rfl rfl S_39 ⟨by decide, B_39⟩ (gc_hA S_39 rfl A_39_1) ?_
          show gv_X _ _ (93, [(0, .inr (.inr (some 39))), (1, .inr (.inr (some a1))), (2, .inl v2_12), (3, .inl v3_12)], [.inr (.inr (some 23)), .inr (.inr (some (t + 1))), .inl (v2_12 + 2), .inr (.inr (some (a1 + 7)))], sh, gc_h sh I24 J11 A)
          refine gv_get hD rfl rfl S_23 ⟨by decide, B_23⟩ (gc_hJ S_23 rfl) ?_
          show gv_X _ _ (96, [(0, .inr (.inr (some 39))), (1, .inr (.inr (some a1))), (2, .inl v2_12), (3, .inl v3_12)], [.inr (.inl (J11 23 9)), .inr (.inr (some (t + 1))), .inl (v2_12 + 2), .inr (.inr (some (a1 + 7)))], sh, gc_h sh I24 J11 A)
          obtain ⟨r35, h35, E35, P35⟩ := d_X4_find (ws0 := ws0) (tb := tb) hws htb sh ro I24 J11 A hI24 (t + 1) 8 6 (J11 23 9) h_t_1     
          obtain ⟨rfl, ⟨z35, rfl, q35⟩⟩ := P35
          refine gv_callV hD rfl (As := [.inr (.inl (J11 23 9))]) (st := [.inl (v2_12 + 2), .inr (.inr (some (a1 + 7)))]) rfl B_t_1 S_t_1 rfl (gc_lV6 hws rfl) (Nat.le_of_ble_eq_true rfl) (gz_Ev_mono (d := 1) (by decide) E35) ?_
          show gv_X _ _ (99, [(0, .inr (.inr (some 39))), (1, .inr (.inr (some a1))), (2, .inl v2_12), (3, .inl v3_12)], [.inl z35, .inl (v2_12 + 2), .inr (.inr (some (a1 + 7)))], sh, gc_h sh I24 J11 A)
          obtain ⟨r36, h36, E36, P36⟩ := d_X11_shiftOf (ws0 := ws0) (tb := tb) hws htb sh ro I24 J11 A hI24  z35    ⟨by omega, by omega⟩  
          obtain ⟨rfl, ⟨z36, rfl, q36⟩⟩ := P36
          refine gv_callS hD rfl (As := [.inl z35]) (st := [.inl (v2_12 + 2), .inr (.inr (some (a1 + 7)))]) rfl (gc_lS6 hws rfl) (Nat.le_of_ble_eq_true rfl) (gz_Ev_mono (d := 1) (by decide) E36) ?_
          show gv_X _ _ (102, [(0, .inr (.inr (some 39))), (1, .inr (.inr (some a1))), (2, .inl v2_12), (3, .inl v3_12)], [.inl z36, .inl (v2_12 + 2), .inr (.inr (some (a1 + 7)))], sh, gc_h sh I24 J11 A)
          refine gv_iast hD rfl S_a1_7 ⟨by decide, B_a1_7⟩ ⟨by omega, by omega⟩ ?_
          refine gc_st hI24 S_a1_7 rfl R_a1_7 (lo := 0) (hi := 21) (gc_lom (c := 2) rfl (by omega) rfl) (gc_him (c := 2) rfl (by omega) rfl) (by omega) (by omega) (fun I37 hI37 q38 p38 => ?_)
          have FI37 := gc_frs (W := fun q j => (q = 39 ∧ j = 3) ∨ (q = 39 ∧ j = 4) ∨ (q = 23 ∧ j = 5) ∨ (q = 23 ∧ j = 6) ∨ (q = 23 ∧ j = 7) ∨ (q = 23 ∧ j = 8) ∨ q = (a1 + 7) ∨ (q = a1 ∧ j = 12)) FI24 (Or.inr (Or.inr (Or.inr (Or.inr (Or.inr (Or.inr (Or.inl rfl))))))) p38
          have t39 := p38 23 1 (fun h => absurd h.1 N_23__a1_7)
          have t40 := p38 23 5 (fun h => absurd h.1 N_23__a1_7)
          have t41 := p38 23 6 (fun h => absurd h.1 N_23__a1_7)
          have t42 := p38 23 7 (fun h => absurd h.1 N_23__a1_7)
          have t43 := p38 a1 12 (fun h => absurd h.1 N_a1__a1_7)
          have t44 := p38 23 8 (fun h => absurd h.1 N_23__a1_7)
          have t45 := p38 (t + 1) 1 (fun h => absurd h.1 N_t_1__a1_7)
          have t46 := p38 39 2 (fun h => absurd h.1 N_39__a1_7)
          have KLT_I37 := gc_LT_fr KLT_I24 (p38 23 5 (fun h => absurd h.1 N_23__a1_7)) (p38 23 6 (fun h => absurd h.1 N_23__a1_7)) (p38 23 7 (fun h => absurd h.1 N_23__a1_7)) (fun k => p38 24 k (fun h => absurd h.1 N_24__a1_7))
          have KTK_I37 := gc_TK_fr KTK_I24 (p38 23 1 (fun h => absurd h.1 N_23__a1_7)) (p38 23 5 (fun h => absurd h.1 N_23__a1_7)) (p38 23 6 (fun h => absurd h.1 N_23__a1_7)) (p38 23 7 (fun h => absurd h.1 N_23__a1_7))
          show gv_X _ _ (103, [(0, .inr (.inr (some 39))), (1, .inr (.inr (some a1))), (2, .inl v2_12), (3, .inl v3_12)], [], sh, gc_h sh I37 J11 A)
          refine gv_run 1 true hD (pc' := 104) (lv' := [(0, .inr (.inr (some 39))), (1, .inr (.inr (some a1))), (2, .inl v2_12), (3, .inl v3_12)]) (st' := [.inr (.inr (some 39))]) (h' := gc_h sh I37 J11 A) (C := (True ∧ True)) rfl ⟨trivial, trivial⟩ ?_
          refine gv_get hD rfl rfl S_39 ⟨by decide, B_39⟩ (gc_hA S_39 rfl A_39_1) ?_
          show gv_X _ _ (107, [(0, .inr (.inr (some 39))), (1, .inr (.inr (some a1))), (2, .inl v2_12), (3, .inl v3_12)], [.inr (.inr (some 23))], sh, gc_h sh I37 J11 A)
          have t48 := gc_TK_nx KTK_I37 (by omega)
          obtain ⟨r47, h47, E47, P47⟩ := d_X9_advance (ws0 := ws0) (tb := tb) hws htb sh ro I37 J11 A hI37 23  (gc_b23 hb)    (by omega) 
          obtain ⟨I49, J50, rfl, hI49, g47, k47, ⟨rfl, V47_0, V47_1, V47_2, V47_3, V47_4, q47⟩⟩ := P47
          have FI49 := gc_frc (W := fun q j => (q = 39 ∧ j = 3) ∨ (q = 39 ∧ j = 4) ∨ (q = 23 ∧ j = 5) ∨ (q = 23 ∧ j = 6) ∨ (q = 23 ∧ j = 7) ∨ (q = 23 ∧ j = 8) ∨ q = (a1 + 7) ∨ (q = a1 ∧ j = 12)) (V := fun q j => (q = 23 ∧ j = 5) ∨ (q = 23 ∧ j = 6) ∨ (q = 23 ∧ j = 7) ∨ (q = 23 ∧ j = 8)) FI37 (fun q j h => (h.elim (fun h => (Or.inr (Or.inr (Or.inl h)))) (fun h => (h.elim (fun h => (Or.inr (Or.inr (Or.inr (Or.inl h))))) (fun h => (h.elim (fun h => (Or.inr (Or.inr (Or.inr (Or.inr (Or.inl h)))))) (fun h => (Or.inr (Or.inr (Or.inr (Or.inr (Or.inr (Or.inl h))))))))))))) g47
          have FJ50 := gc_frc (W := fun q j => (q = 23 ∧ j = 9)) (V := fun q j => (q = 23 ∧ j = 9)) FJ11 (fun q j h => h) k47
          have t51 := (g47 23 1).resolve_left (fun h => h.elim (fun h => absurd h.2 (by decide)) (fun h => h.elim (fun h => absurd h.2 (by decide)) (fun h => h.elim (fun h => absurd h.2 (by decide)) (fun h => absurd h.2 (by decide)))))
          have t52 := (g47 a1 12).resolve_left (fun h => h.elim (fun h => absurd h.2 (by decide)) (fun h => h.elim (fun h => absurd h.2 (by decide)) (fun h => h.elim (fun h => absurd h.2 (by decide)) (fun h => absurd h.2 (by decide)))))
          have t53 := (g47 (t + 1) 1).resolve_left (fun h => h.elim (fun h => absurd h.2 (by decide)) (fun h => h.elim (fun h => absurd h.2 (by decide)) (fun h => h.elim (fun h => absurd h.2 (by decide)) (fun h => absurd h.2 (by decide)))))
          have t54 := (g47 39 2).resolve_left (fun h => h.elim (fun h => absurd h.2 (by decide)) (fun h => h.elim (fun h => absurd h.2 (by decide)) (fun h => h.elim (fun h => absurd h.2 (by decide)) (fun h => absurd h.2 (by decide)))))
          have f55 := (show 0 ≤ I49 23 5 ∧ I49 23 5 ≤ 1000 from gc_in hI49 R_23 rfl rfl)
          have f56 := (show 0 ≤ I49 23 6 ∧ I49 23 6 ≤ 1001 from gc_in hI49 R_23 rfl rfl)
          have f57 := (show 0 ≤ I49 23 7 ∧ I49 23 7 ≤ 125 from gc_in hI49 R_23 rfl rfl)
          have f58 := (show 0 ≤ I49 23 8 ∧ I49 23 8 ≤ 999999 from gc_in hI49 R_23 rfl rfl)
          have KLT_I49 : gc_LT I49 := q47.2.2
          have KTK_I49 : gc_TK I49 := And.intro V47_0 (And.intro V47_1 (And.intro V47_2 (And.intro V47_3 V47_4)))
          have t59 := gc_TK_mo KTK_I49
          clear V47_0 V47_1 V47_2 V47_3 V47_4
          refine gv_callV hD rfl (As := []) (st := []) rfl B_23 S_23 rfl (gc_lV6 hws rfl) (Nat.le_of_ble_eq_true rfl) (gz_Ev_mono (d := 2) (by decide) E47) ?_
          show gv_X _ _ (110, [(0, .inr (.inr (some 39))), (1, .inr (.inr (some a1))), (2, .inl v2_12), (3, .inl v3_12)], [], sh, gc_h sh I49 J50 A)
          refine gv_run 2 true hD (pc' := 112) (lv' := [(0, .inr (.inr (some 39))), (1, .inr (.inr (some a1))), (2, .inl v2_12), (3, .inl v3_12)]) (st' := [.inr (.inr (some a1)), .inr (.inr (some a1))]) (h' := gc_h sh I49 J50 A) (C := ((True ∧ True) ∧ True)) rfl ⟨⟨trivial, trivial⟩, trivial⟩ ?_
          have f60 := (show 0 ≤ I49 a1 12 ∧ I49 a1 12 ≤ 6 from gc_in hI49 R_a1 rfl rfl)
          refine gv_get hD rfl rfl S_a1 ⟨by decide, B_a1⟩ (gc_hI S_a1 rfl) ?_
          show gv_X _ _ (115, [(0, .inr (.inr (some 39))), (1, .inr (.inr (some a1))), (2, .inl v2_12), (3, .inl v3_12)], [.inl (I49 a1 12), .inr (.inr (some a1))], sh, gc_h sh I49 J50 A)
          refine gv_run 2 true hD (pc' := 117) (lv' := [(0, .inr (.inr (some 39))), (1, .inr (.inr (some a1))), (2, .inl v2_12), (3, .inl v3_12)]) (st' := [.inl ((I49 a1 12) + 1), .inr (.inr (some a1))]) (h' := gc_h sh I49 J50 A) (C := ((True ∧ True) ∧ True)) rfl ⟨⟨trivial, trivial⟩, trivial⟩ ?_
          refine gv_put hD rfl rfl S_a1 ⟨by decide, B_a1⟩ rfl trivial ?_
          refine gc_st (k := 12) hI49 S_a1 rfl R_a1 (lo := 0) (hi := 6) rfl rfl (by omega) (by omega) (fun I61 hI61 q62 p62 => ?_)
          have FI61 := gc_frs (W := fun q j => (q = 39 ∧ j = 3) ∨ (q = 39 ∧ j = 4) ∨ (q = 23 ∧ j = 5) ∨ (q = 23 ∧ j = 6) ∨ (q = 23 ∧ j = 7) ∨ (q = 23 ∧ j = 8) ∨ q = (a1 + 7) ∨ (q = a1 ∧ j = 12)) FI49 (Or.inr (Or.inr (Or.inr (Or.inr (Or.inr (Or.inr (Or.inr ⟨rfl, rfl⟩))))))) p62
          have t63 := p62 23 1 (fun h => absurd h.2 (by decide))
          have t64 := p62 23 5 (fun h => absurd h.2 (by decide))
          have t65 := p62 23 6 (fun h => absurd h.2 (by decide))
          have t66 := p62 23 7 (fun h => absurd h.2 (by decide))
          have t67 := p62 23 8 (fun h => absurd h.2 (by decide))
          have t68 := p62 (t + 1) 1 (fun h => absurd h.2 (by decide))
          have t69 := p62 39 2 (fun h => absurd h.2 (by decide))
          have f70 := (show 0 ≤ I61 a1 12 ∧ I61 a1 12 ≤ 6 from gc_in hI61 R_a1 rfl rfl)
          have KLT_I61 := gc_LT_fr KLT_I49 (p62 23 5 (fun h => absurd h.2 (by decide))) (p62 23 6 (fun h => absurd h.2 (by decide))) (p62 23 7 (fun h => absurd h.2 (by decide))) (fun k => p62 24 k (fun h => absurd h.1 N_24__a1))
          have KTK_I61 := gc_TK_fr KTK_I49 (p62 23 1 (fun h => absurd h.2 (by decide))) (p62 23 5 (fun h => absurd h.2 (by decide))) (p62 23 6 (fun h => absurd h.2 (by decide))) (p62 23 7 (fun h => absurd h.2 (by decide)))
          show gv_X _ _ (120, [(0, .inr (.inr (some 39))), (1, .inr (.inr (some a1))), (2, .inl v2_12), (3, .inl v3_12)], [], sh, gc_h sh I61 J50 A)
          refine gv_run 1 true hD (pc' := 121) (lv' := [(0, .inr (.inr (some 39))), (1, .inr (.inr (some a1))), (2, .inl v2_12), (3, .inl v3_12)]) (st' := [.inl 1]) (h' := gc_h sh I61 J50 A) (C := (True ∧ True)) rfl ⟨trivial, trivial⟩ ?_
          exact gv_zret hD rfl (by omega) ⟨I61, J50, rfl, hI61, FI61, FJ50, KLT_I61, KTK_I61, ⟨_, rfl, by omega⟩⟩
        · show gv_X _ _ (73, [(0, .inr (.inr (some 39))), (1, .inr (.inr (some a1))), (2, .inl v2_12), (3, .inl v3_12)], [], sh, gc_h sh I24 J11 A)
          refine gv_run 1 true hD (pc' := 74) (lv' := [(0, .inr (.inr (some 39))), (1, .inr (.inr (some a1))), (2, .inl v2_12), (3, .inl v3_12)]) (st' := [.inl 0]) (h' := gc_h sh I24 J11 A) (C := (True ∧ True)) rfl ⟨trivial, trivial⟩ ?_
          exact gv_zret hD rfl (by omega) ⟨I24, J11, rfl, hI24, FI24, FJ11, KLT_I24, KTK_I24, ⟨_, rfl, by omega⟩⟩
      · show gv_X _ _ (14, [(0, .inr (.inr (some 39))), (1, .inr (.inr (some a1))), (2, .inl v2_12), (3, .inl v3_12)], [], sh, gc_h sh I10 J11 A)
        refine gv_run 2 true hD (pc' := 16) (lv' := [(0, .inr (.inr (some 39))), (1, .inr (.inr (some a1))), (2, .inl v2_12), (3, .inl v3_12)]) (st' := [.inr (.inr (some a1)), .inr (.inr (some 39))]) (h' := gc_h sh I10 J11 A) (C := ((True ∧ True) ∧ True)) rfl ⟨⟨trivial, trivial⟩, trivial⟩ ?_
        obtain ⟨r71, h71, E71, P71⟩ := d_X6_needArgument (ws0 := ws0) (tb := tb) hws htb sh ro I10 J11 A hI10  a1 hb h_a1 G_a1    
        obtain ⟨I72, J73, rfl, hI72, g71, k71, ⟨z71, rfl, q71⟩⟩ := P71
        have FI72 := gc_frc (W := fun q j => (q = 39 ∧ j = 3) ∨ (q = 39 ∧ j = 4) ∨ (q = 23 ∧ j = 5) ∨ (q = 23 ∧ j = 6) ∨ (q = 23 ∧ j = 7) ∨ (q = 23 ∧ j = 8) ∨ q = (a1 + 7) ∨ (q = a1 ∧ j = 12)) (V := fun q j => (q = 39 ∧ j = 3) ∨ (q = 39 ∧ j = 4)) FI10 (fun q j h => (h.elim (fun h => (Or.inl h)) (fun h => (Or.inr (Or.inl h))))) g71
        have t74 := (g71 23 1).resolve_left (fun h => h.elim (fun h => absurd h.2 (by decide)) (fun h => absurd h.2 (by decide)))
        have t75 := (g71 23 5).resolve_left (fun h => h.elim (fun h => absurd h.2 (by decide)) (fun h => absurd h.2 (by decide)))
        have t76 := (g71 23 6).resolve_left (fun h => h.elim (fun h => absurd h.2 (by decide)) (fun h => absurd h.2 (by decide)))
        have t77 := (g71 23 7).resolve_left (fun h => h.elim (fun h => absurd h.2 (by decide)) (fun h => absurd h.2 (by decide)))
        have t78 := (g71 a1 12).resolve_left (fun h => h.elim (fun h => absurd h.2 (by decide)) (fun h => absurd h.2 (by decide)))
        have t79 := (g71 23 8).resolve_left (fun h => h.elim (fun h => absurd h.2 (by decide)) (fun h => absurd h.2 (by decide)))
        have t80 := (g71 (t + 1) 1).resolve_left (fun h => h.elim (fun h => absurd h.2 (by decide)) (fun h => absurd h.2 (by decide)))
        have t81 := (g71 39 2).resolve_left (fun h => h.elim (fun h => absurd h.2 (by decide)) (fun h => absurd h.2 (by decide)))
        obtain rfl : J11 = J73 := funext fun q => funext fun j => ((k71 q j).resolve_left id).symm
        have KLT_I72 := gc_LT_fr KLT_I10 ((g71 23 5).resolve_left (fun h => h.elim (fun h => absurd h.2 (by decide)) (fun h => absurd h.2 (by decide)))) ((g71 23 6).resolve_left (fun h => h.elim (fun h => absurd h.2 (by decide)) (fun h => absurd h.2 (by decide)))) ((g71 23 7).resolve_left (fun h => h.elim (fun h => absurd h.2 (by decide)) (fun h => absurd h.2 (by decide)))) (fun k => (g71 24 k).resolve_left (fun h => h.elim (fun h => absurd h.1 (by decide)) (fun h => absurd h.1 (by decide))))
        have KTK_I72 := gc_TK_fr KTK_I10 ((g71 23 1).resolve_left (fun h => h.elim (fun h => absurd h.2 (by decide)) (fun h => absurd h.2 (by decide)))) ((g71 23 5).resolve_left (fun h => h.elim (fun h => absurd h.2 (by decide)) (fun h => absurd h.2 (by decide)))) ((g71 23 6).resolve_left (fun h => h.elim (fun h => absurd h.2 (by decide)) (fun h => absurd h.2 (by decide)))) ((g71 23 7).resolve_left (fun h => h.elim (fun h => absurd h.2 (by decide)) (fun h => absurd h.2 (by decide))))
        refine gv_callV hD rfl (As := [.inr (.inr (some a1))]) (st := []) rfl B_39 S_39 rfl (gc_lV6 hws rfl) (Nat.le_of_ble_eq_true rfl) (gz_Ev_mono (d := 3) (by decide) E71) ?_
        show gv_X _ _ (19, [(0, .inr (.inr (some 39))), (1, .inr (.inr (some a1))), (2, .inl v2_12), (3, .inl v3_12)], [.inl z71], sh, gc_h sh I72 J11 A)
        refine gv_if_ne (t := 24) hD rfl rfl ⟨by omega, by omega⟩ (fun c82 => ?_) (fun c82 => ?_)
        · show gv_X _ _ (24, [(0, .inr (.inr (some 39))), (1, .inr (.inr (some a1))), (2, .inl v2_12), (3, .inl v3_12)], [], sh, gc_h sh I72 J11 A)
          refine gv_run 1 true hD (pc' := 25) (lv' := [(0, .inr (.inr (some 39))), (1, .inr (.inr (some a1))), (2, .inl v2_12), (3, .inl v3_12)]) (st' := [.inr (.inr (some a1))]) (h' := gc_h sh I72 J11 A) (C := (True ∧ True)) rfl ⟨trivial, trivial⟩ ?_
          refine gv_get hD rfl rfl S_a1 ⟨by decide, B_a1⟩ (gc_hA S_a1 rfl A_a1_13) ?_
          show gv_X _ _ (28, [(0, .inr (.inr (some 39))), (1, .inr (.inr (some a1))), (2, .inl v2_12), (3, .inl v3_12)], [.inr (.inr (some (a1 + 7)))], sh, gc_h sh I72 J11 A)
          refine gv_run 4 true hD (pc' := 32) (lv' := [(0, .inr (.inr (some 39))), (1, .inr (.inr (some a1))), (2, .inl v2_12), (3, .inl v3_12)]) (st' := [.inr (.inr (some a1)), .inl (v2_12 + v3_12), .inr (.inr (some (a1 + 7)))]) (h' := gc_h sh I72 J11 A) (C := ((((True ∧ True) ∧ True) ∧ True) ∧ True)) rfl ⟨⟨⟨⟨trivial, trivial⟩, trivial⟩, trivial⟩, trivial⟩ ?_
          refine gv_get hD rfl rfl S_a1 ⟨by decide, B_a1⟩ (gc_hA S_a1 rfl A_a1_11) ?_
          show gv_X _ _ (35, [(0, .inr (.inr (some 39))), (1, .inr (.inr (some a1))), (2, .inl v2_12), (3, .inl v3_12)], [.inr (.inr (some (a1 + 6))), .inl (v2_12 + v3_12), .inr (.inr (some (a1 + 7)))], sh, gc_h sh I72 J11 A)
          refine gv_run 1 true hD (pc' := 36) (lv' := [(0, .inr (.inr (some 39))), (1, .inr (.inr (some a1))), (2, .inl v2_12), (3, .inl v3_12)]) (st' := [.inr (.inr (some 39)), .inr (.inr (some (a1 + 6))), .inl (v2_12 + v3_12), .inr (.inr (some (a1 + 7)))]) (h' := gc_h sh I72 J11 A) (C := (True ∧ True)) rfl ⟨trivial, trivial⟩ ?_
          refine gv_get hD rfl rfl S_39 ⟨by decide, B_39⟩ (gc_hA S_39 rfl A_39_1) ?_
          show gv_X _ _ (39, [(0, .inr (.inr (some 39))), (1, .inr (.inr (some a1))), (2, .inl v2_12), (3, .inl v3_12)], [.inr (.inr (some 23)), .inr (.inr (some (a1 + 6))), .inl (v2_12 + v3_12), .inr (.inr (some (a1 + 7)))], sh, gc_h sh I72 J11 A)
          have f83 := (show 0 ≤ I72 23 8 ∧ I72 23 8 ≤ 999999 from gc_in hI72 R_23 rfl rfl)
          refine gv_get hD rfl rfl S_23 ⟨by decide, B_23⟩ (gc_hI S_23 rfl) ?_
          show gv_X _ _ (42, [(0, .inr (.inr (some 39))), (1, .inr (.inr (some a1))), (2, .inl v2_12), (3, .inl v3_12)], [.inl (I72 23 8), .inr (.inr (some (a1 + 6))), .inl (v2_12 + v3_12), .inr (.inr (some (a1 + 7)))], sh, gc_h sh I72 J11 A)
          refine gv_run 2 true hD (pc' := 44) (lv' := [(0, .inr (.inr (some 39))), (1, .inr (.inr (some a1))), (2, .inl v2_12), (3, .inl v3_12)]) (st' := [.inl ((I72 23 8) - 1), .inr (.inr (some (a1 + 6))), .inl (v2_12 + v3_12), .inr (.inr (some (a1 + 7)))]) (h' := gc_h sh I72 J11 A) (C := ((True ∧ True) ∧ True)) rfl ⟨⟨trivial, trivial⟩, trivial⟩ ?_
          have f84 := (show (-1) ≤ I72 (a1 + 6) (Int.toNat (((I72 23 8) - 1))) ∧ I72 (a1 + 6) (Int.toNat (((I72 23 8) - 1))) ≤ 3 from gc_in hI72 R_a1_6 rfl rfl)
          refine gv_iald hD rfl S_a1_6 rfl ⟨by decide, B_a1_6⟩ ⟨by omega, by omega⟩ (gc_iI S_a1_6 rfl) ?_
          show gv_X _ _ (45, [(0, .inr (.inr (some 39))), (1, .inr (.inr (some a1))), (2, .inl v2_12), (3, .inl v3_12)], [.inl (I72 (a1 + 6) (Int.toNat (((I72 23 8) - 1)))), .inl (v2_12 + v3_12), .inr (.inr (some (a1 + 7)))], sh, gc_h sh I72 J11 A)
          refine gv_iast hD rfl S_a1_7 ⟨by decide, B_a1_7⟩ ⟨by omega, by omega⟩ ?_
          refine gc_st hI72 S_a1_7 rfl R_a1_7 (lo := 0) (hi := 3) ((show (Int.toNat (v2_12 + v3_12)) % 3 = 0 ∨ (Int.toNat (v2_12 + v3_12)) % 3 = 1 from by omega).elim (fun h => gc_lom rfl h rfl) (fun h => gc_lom rfl h rfl)) ((show (Int.toNat (v2_12 + v3_12)) % 3 = 0 ∨ (Int.toNat (v2_12 + v3_12)) % 3 = 1 from by omega).elim (fun h => gc_him rfl h rfl) (fun h => gc_him rfl h rfl)) (by omega) (by omega) (fun I85 hI85 q86 p86 => ?_)
          have FI85 := gc_frs (W := fun q j => (q = 39 ∧ j = 3) ∨ (q = 39 ∧ j = 4) ∨ (q = 23 ∧ j = 5) ∨ (q = 23 ∧ j = 6) ∨ (q = 23 ∧ j = 7) ∨ (q = 23 ∧ j = 8) ∨ q = (a1 + 7) ∨ (q = a1 ∧ j = 12)) FI72 (Or.inr (Or.inr (Or.inr (Or.inr (Or.inr (Or.inr (Or.inl rfl))))))) p86
          have t87 := p86 23 1 (fun h => absurd h.1 N_23__a1_7)
          have t88 := p86 23 5 (fun h => absurd h.1 N_23__a1_7)
          have t89 := p86 23 6 (fun h => absurd h.1 N_23__a1_7)
          have t90 := p86 23 7 (fun h => absurd h.1 N_23__a1_7)
          have t91 := p86 a1 12 (fun h => absurd h.1 N_a1__a1_7)
          have t92 := p86 23 8 (fun h => absurd h.1 N_23__a1_7)
          have t93 := p86 (t + 1) 1 (fun h => absurd h.1 N_t_1__a1_7)
          have t94 := p86 39 2 (fun h => absurd h.1 N_39__a1_7)
          have KLT_I85 := gc_LT_fr KLT_I72 (p86 23 5 (fun h => absurd h.1 N_23__a1_7)) (p86 23 6 (fun h => absurd h.1 N_23__a1_7)) (p86 23 7 (fun h => absurd h.1 N_23__a1_7)) (fun k => p86 24 k (fun h => absurd h.1 N_24__a1_7))
          have KTK_I85 := gc_TK_fr KTK_I72 (p86 23 1 (fun h => absurd h.1 N_23__a1_7)) (p86 23 5 (fun h => absurd h.1 N_23__a1_7)) (p86 23 6 (fun h => absurd h.1 N_23__a1_7)) (p86 23 7 (fun h => absurd h.1 N_23__a1_7))
          show gv_X _ _ (46, [(0, .inr (.inr (some 39))), (1, .inr (.inr (some a1))), (2, .inl v2_12), (3, .inl v3_12)], [], sh, gc_h sh I85 J11 A)
          refine gv_run 1 true hD (pc' := 47) (lv' := [(0, .inr (.inr (some 39))), (1, .inr (.inr (some a1))), (2, .inl v2_12), (3, .inl v3_12)]) (st' := [.inr (.inr (some 39))]) (h' := gc_h sh I85 J11 A) (C := (True ∧ True)) rfl ⟨trivial, trivial⟩ ?_
          refine gv_get hD rfl rfl S_39 ⟨by decide, B_39⟩ (gc_hA S_39 rfl A_39_1) ?_
          show gv_X _ _ (50, [(0, .inr (.inr (some 39))), (1, .inr (.inr (some a1))), (2, .inl v2_12), (3, .inl v3_12)], [.inr (.inr (some 23))], sh, gc_h sh I85 J11 A)
          have t96 := gc_TK_nx KTK_I85 (by omega)
          obtain ⟨r95, h95, E95, P95⟩ := d_X9_advance (ws0 := ws0) (tb := tb) hws htb sh ro I85 J11 A hI85 23  (gc_b23 hb)    (by omega) 
          obtain ⟨I97, J98, rfl, hI97, g95, k95, ⟨rfl, V95_0, V95_1, V95_2, V95_3, V95_4, q95⟩⟩ := P95
          have FI97 := gc_frc (W := fun q j => (q = 39 ∧ j = 3) ∨ (q = 39 ∧ j = 4) ∨ (q = 23 ∧ j = 5) ∨ (q = 23 ∧ j = 6) ∨ (q = 23 ∧ j = 7) ∨ (q = 23 ∧ j = 8) ∨ q = (a1 + 7) ∨ (q = a1 ∧ j = 12)) (V := fun q j => (q = 23 ∧ j = 5) ∨ (q = 23 ∧ j = 6) ∨ (q = 23 ∧ j = 7) ∨ (q = 23 ∧ j = 8)) FI85 (fun q j h => (h.elim (fun h => (Or.inr (Or.inr (Or.inl h)))) (fun h => (h.elim (fun h => (Or.inr (Or.inr (Or.inr (Or.inl h))))) (fun h => (h.elim (fun h => (Or.inr (Or.inr (Or.inr (Or.inr (Or.inl h)))))) (fun h => (Or.inr (Or.inr (Or.inr (Or.inr (Or.inr (Or.inl h))))))))))))) g95
          have FJ98 := gc_frc (W := fun q j => (q = 23 ∧ j = 9)) (V := fun q j => (q = 23 ∧ j = 9)) FJ11 (fun q j h => h) k95
          have t99 := (g95 23 1).resolve_left (fun h => h.elim (fun h => absurd h.2 (by decide)) (fun h => h.elim (fun h => absurd h.2 (by decide)) (fun h => h.elim (fun h => absurd h.2 (by decide)) (fun h => absurd h.2 (by decide)))))
          have t100 := (g95 a1 12).resolve_left (fun h => h.elim (fun h => absurd h.2 (by decide)) (fun h => h.elim (fun h => absurd h.2 (by decide)) (fun h => h.elim (fun h => absurd h.2 (by decide)) (fun h => absurd h.2 (by decide)))))
          have t101 := (g95 (t + 1) 1).resolve_left (fun h => h.elim (fun h => absurd h.2 (by decide)) (fun h => h.elim (fun h => absurd h.2 (by decide)) (fun h => h.elim (fun h => absurd h.2 (by decide)) (fun h => absurd h.2 (by decide)))))
          have t102 := (g95 39 2).resolve_left (fun h => h.elim (fun h => absurd h.2 (by decide)) (fun h => h.elim (fun h => absurd h.2 (by decide)) (fun h => h.elim (fun h => absurd h.2 (by decide)) (fun h => absurd h.2 (by decide)))))
          have f103 := (show 0 ≤ I97 23 5 ∧ I97 23 5 ≤ 1000 from gc_in hI97 R_23 rfl rfl)
          have f104 := (show 0 ≤ I97 23 6 ∧ I97 23 6 ≤ 1001 from gc_in hI97 R_23 rfl rfl)
          have f105 := (show 0 ≤ I97 23 7 ∧ I97 23 7 ≤ 125 from gc_in hI97 R_23 rfl rfl)
          have f106 := (show 0 ≤ I97 23 8 ∧ I97 23 8 ≤ 999999 from gc_in hI97 R_23 rfl rfl)
          have KLT_I97 : gc_LT I97 := q95.2.2
          have KTK_I97 : gc_TK I97 := And.intro V95_0 (And.intro V95_1 (And.intro V95_2 (And.intro V95_3 V95_4)))
          have t107 := gc_TK_mo KTK_I97
          clear V95_0 V95_1 V95_2 V95_3 V95_4
          refine gv_callV hD rfl (As := []) (st := []) rfl B_23 S_23 rfl (gc_lV6 hws rfl) (Nat.le_of_ble_eq_true rfl) (gz_Ev_mono (d := 2) (by decide) E95) ?_
          show gv_X _ _ (53, [(0, .inr (.inr (some 39))), (1, .inr (.inr (some a1))), (2, .inl v2_12), (3, .inl v3_12)], [], sh, gc_h sh I97 J98 A)
          refine gv_run 2 true hD (pc' := 9) (lv' := [(3, .inl (v3_12 + 1)), (0, .inr (.inr (some 39))), (1, .inr (.inr (some a1))), (2, .inl v2_12)]) (st' := []) (h' := gc_h sh I97 J98 A) (C := ((True ∧ True) ∧ True)) rfl ⟨⟨trivial, trivial⟩, trivial⟩ ?_
          refine gv_pick [1, 2, 3, 0] rfl ?_
          exact ih9 I97 J98 v2_12 (v3_12 + 1) (by omega) hI97 FI97 FJ98 KLT_I97 KTK_I97 (by omega)
        · show gv_X _ _ (22, [(0, .inr (.inr (some 39))), (1, .inr (.inr (some a1))), (2, .inl v2_12), (3, .inl v3_12)], [], sh, gc_h sh I72 J11 A)
          refine gv_run 1 true hD (pc' := 23) (lv' := [(0, .inr (.inr (some 39))), (1, .inr (.inr (some a1))), (2, .inl v2_12), (3, .inl v3_12)]) (st' := [.inl 0]) (h' := gc_h sh I72 J11 A) (C := (True ∧ True)) rfl ⟨trivial, trivial⟩ ?_
          exact gv_zret hD rfl (by omega) ⟨I72, J11, rfl, hI72, FI72, FJ11, KLT_I72, KTK_I72, ⟨_, rfl, by omega⟩⟩
  refine gv_run 2 true hD (pc' := 2) (lv' := [(0, .inr (.inr (some 39))), (1, .inr (.inr (some a1)))]) (st' := [.inr (.inr (some a1)), .inl 3]) (h' := gc_h sh I J A) (C := ((True ∧ True) ∧ True)) rfl ⟨⟨trivial, trivial⟩, trivial⟩ ?_
  have f108 := (show 0 ≤ I a1 12 ∧ I a1 12 ≤ 6 from gc_in hI R_a1 rfl rfl)
  refine gv_get hD rfl rfl S_a1 ⟨by decide, B_a1⟩ (gc_hI S_a1 rfl) ?_
  show gv_X _ _ (5, [(0, .inr (.inr (some 39))), (1, .inr (.inr (some a1)))], [.inl (I a1 12), .inl 3], sh, gc_h sh I J A)
  refine gv_run 4 true hD (pc' := 9) (lv' := [(3, .inl 0), (2, .inl (3 * (I a1 12))), (0, .inr (.inr (some 39))), (1, .inr (.inr (some a1)))]) (st' := []) (h' := gc_h sh I J A) (C := ((((True ∧ True) ∧ True) ∧ True) ∧ True)) rfl ⟨⟨⟨⟨trivial, trivial⟩, trivial⟩, trivial⟩, trivial⟩ ?_
  refine gv_pick [2, 3, 1, 0] rfl ?_
  exact L9 _ I J ((3 * (I a1 12))) 0 (Nat.lt_succ_self _) hI FI FJ KLT_I KTK_I (by omega)
