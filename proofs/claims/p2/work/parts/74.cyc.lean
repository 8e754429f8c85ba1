set_option maxHeartbeats 4000000 in
set_option maxRecDepth 100000 in
theorem d_X6_readGive {ws0 : List Cond} {tb : String → gz_T} (hws : gc_Ws ws0) (htb : gc_tbs tb) (sh : gz_Sh) (ro : Nat → Nat) (I : gr_I) (J : gr_J) (A : gc_A) (hI : gc_Inv ro I) (t : Nat) (a1 : Nat) (hb : gc_Base sh ro A) (h_a1 : gc_isLin sh ro A a1) (G_a1 : 144 ≤ a1) (h_t : gc_isTongue sh ro A t) (G_t : 144 ≤ t)  (x0 : I a1 14 ≤ 5) (x1 : I 39 2 = (t : Int)) (KLT_I : gc_LT I) (KTK_I : gc_TK I) : ∃ r h', gz_Ev ws0 tb 4 (yX6_readGive, cX6_readGive, 4, (some .boolean)) [.inr (.inr (some 39)), .inr (.inr (some a1))] sh (gc_h sh I J A) r sh h' 0 0 ∧ (∃ (I' : gr_I) (J' : gr_J), h' = gc_h sh I' J' A ∧ gc_Inv ro I' ∧ (∀ q j : Nat, ((q = 39 ∧ j = 3) ∨ (q = 39 ∧ j = 4) ∨ (q = 23 ∧ j = 5) ∨ (q = 23 ∧ j = 6) ∨ (q = 23 ∧ j = 7) ∨ (q = 23 ∧ j = 8) ∨ q = (a1 + 8) ∨ (q = a1 ∧ j = 14)) ∨ I' q j = I q j) ∧ (∀ q j : Nat, ((q = 23 ∧ j = 9)) ∨ J' q j = J q j) ∧ gc_LT I' ∧ gc_TK I' ∧ (∃ z : Int, r = some (.inl z) ∧ 0 ≤ z ∧ z ≤ 1 ∧ (I' 23 1 = I 23 1) ∧ (I 23 5 ≤ I' 23 5) ∧ (I' a1 14 ≤ I a1 14 + 1))) := by
  have FI : ∀ q j : Nat, ((q = 39 ∧ j = 3) ∨ (q = 39 ∧ j = 4) ∨ (q = 23 ∧ j = 5) ∨ (q = 23 ∧ j = 6) ∨ (q = 23 ∧ j = 7) ∨ (q = 23 ∧ j = 8) ∨ q = (a1 + 8) ∨ (q = a1 ∧ j = 14)) ∨ I q j = I q j := fun _ _ => Or.inr rfl
  have FJ : ∀ q j : Nat, ((q = 23 ∧ j = 9)) ∨ J q j = J q j := fun _ _ => Or.inr rfl
  have A_39_1 : A 39 1 = some 23 := gc_bA hb rfl
  have B_23 : 23 < 1000000 := by decide
  have B_39 : 39 < 1000000 := by decide
  have R_23 : ro 23 = 3 := gc_bR hb (by decide) rfl
  have R_39 : ro 39 = 42 := gc_bR hb (by decide) rfl
  have S_23 : sh[23]? = some (false, 9, 10) := gc_bS hb rfl
  have S_39 : sh[39]? = some (false, 6, 19) := gc_bS hb rfl
  obtain ⟨S_a1, R_a1, B_a1, A_a1_5, S_a1_1, R_a1_1, B_a1_1, A_a1_6, S_a1_2, R_a1_2, B_a1_2, A_a1_7, S_a1_3, R_a1_3, B_a1_3, A_a1_9, S_a1_4, R_a1_4, B_a1_4, A_a1_10, S_a1_5, R_a1_5, B_a1_5, A_a1_11, S_a1_6, R_a1_6, B_a1_6, A_a1_13, S_a1_7, R_a1_7, B_a1_7, A_a1_15, S_a1_8, R_a1_8, B_a1_8⟩ := id h_a1
  obtain ⟨S_t, R_t, B_t, A_t_0, h_t_1, A_t_1, h_t_3, A_t_2, S_t_5, R_t_5, B_t_5, A_t_3, S_t_6, R_t_6, B_t_6, A_t_4, h_t_7, A_t_5, S_t_9, R_t_9, B_t_9, A_t_7, S_t_10, R_t_10, B_t_10, A_t_8, h_t_11, A_t_9, S_t_13, R_t_13, B_t_13, A_t_10, S_t_14, R_t_14, B_t_14, A_t_12, S_t_15, R_t_15, B_t_15, A_t_14, S_t_16, R_t_16, B_t_16, A_t_15, h_t_17⟩ := id h_t
  obtain ⟨S_t_1, R_t_1, B_t_1, A_t_1_0, S_t_1_1, R_t_1_1, B_t_1_1, Q0_t_1, Q1_t_1, Q2_t_1⟩ := id h_t_1
  obtain ⟨S_t_3, R_t_3, B_t_3, A_t_3_0, S_t_3_1, R_t_3_1, B_t_3_1, Q0_t_3, Q1_t_3, Q2_t_3⟩ := id h_t_3
  obtain ⟨S_t_7, R_t_7, B_t_7, A_t_7_0, S_t_7_1, R_t_7_1, B_t_7_1, Q0_t_7, Q1_t_7, Q2_t_7⟩ := id h_t_7
  obtain ⟨S_t_11, R_t_11, B_t_11, A_t_11_0, S_t_11_1, R_t_11_1, B_t_11_1, Q0_t_11, Q1_t_11, Q2_t_11⟩ := id h_t_11
  obtain ⟨S_t_17, R_t_17, B_t_17, A_t_17_0, S_20, R_20, B_20, A_t_17_1, S_t_17_1, R_t_17_1, B_t_17_1, A_t_17_2, S_t_17_2, R_t_17_2, B_t_17_2, A_t_17_3, S_t_17_3, R_t_17_3, B_t_17_3, A_t_17_4, S_t_17_4, R_t_17_4, B_t_17_4, A_t_17_5, S_t_17_5, R_t_17_5, B_t_17_5, S_t_17_6, R_t_17_6, B_t_17_6, S_t_17_7, R_t_17_7, B_t_17_7⟩ := id h_t_17
  have N1 := gc_dj_LT h_a1 h_t
  have hD : gv_D (gc_E6 ws0 tb 3 (yX6_readGive, cX6_readGive, 4, (some .boolean)) kX6_readGive) := gq_ok oX6_readGive
  refine gc_ev6 (d := 3) (l := kX6_readGive) (Po := fun r h' => (∃ (I' : gr_I) (J' : gr_J), h' = gc_h sh I' J' A ∧ gc_Inv ro I' ∧ (∀ q j : Nat, ((q = 39 ∧ j = 3) ∨ (q = 39 ∧ j = 4) ∨ (q = 23 ∧ j = 5) ∨ (q = 23 ∧ j = 6) ∨ (q = 23 ∧ j = 7) ∨ (q = 23 ∧ j = 8) ∨ q = (a1 + 8) ∨ (q = a1 ∧ j = 14)) ∨ I' q j = I q j) ∧ (∀ q j : Nat, ((q = 23 ∧ j = 9)) ∨ J' q j = J q j) ∧ gc_LT I' ∧ gc_TK I' ∧ (∃ z : Int, r = some (.inl z) ∧ 0 ≤ z ∧ z ≤ 1 ∧ (I' 23 1 = I 23 1) ∧ (I 23 5 ≤ I' 23 5) ∧ (I' a1 14 ≤ I a1 14 + 1)))) htb rfl (Nat.le_of_ble_eq_true rfl) ?_
  have N_24__a1 : ¬ (24 = a1) := by omega
  have N_23__a1_8 : ¬ (23 = (a1 + 8)) := by omega
  have N_a1__a1_8 : ¬ (a1 = (a1 + 8)) := by omega
  have N_t_1__a1_8 : ¬ ((t + 1) = (a1 + 8)) := by omega
  have N_t_3__a1_8 : ¬ ((t + 3) = (a1 + 8)) := by omega
  have N_39__a1_8 : ¬ (39 = (a1 + 8)) := by omega
  have N_24__a1_8 : ¬ (24 = (a1 + 8)) := by omega
  have t1 := gc_TK_mo KTK_I
  have f2 := (show 0 ≤ I 23 1 ∧ I 23 1 ≤ 1000 from gc_in hI R_23 rfl rfl)
  have f3 := (show 0 ≤ I 23 5 ∧ I 23 5 ≤ 1000 from gc_in hI R_23 rfl rfl)
  have f4 := (show 0 ≤ I 23 6 ∧ I 23 6 ≤ 1001 from gc_in hI R_23 rfl rfl)
  have f5 := (show 0 ≤ I 23 7 ∧ I 23 7 ≤ 125 from gc_in hI R_23 rfl rfl)
  have f6 := (show 0 ≤ I a1 14 ∧ I a1 14 ≤ 6 from gc_in hI R_a1 rfl rfl)
  have f7 := (show 0 ≤ I 23 8 ∧ I 23 8 ≤ 999999 from gc_in hI R_23 rfl rfl)
  have f8 := (show 0 ≤ I (t + 1) 1 ∧ I (t + 1) 1 ≤ 8 from gc_in hI R_t_1 rfl rfl)
  have f9 := (show 0 ≤ I (t + 3) 1 ∧ I (t + 3) 1 ≤ 48 from gc_in hI R_t_3 rfl rfl)
  have f10 := (show (-1) ≤ I 39 2 ∧ I 39 2 ≤ 999999 from gc_in hI R_39 rfl rfl)
  have L180 : ∀ (I11 : gr_I) (J12 : gr_J) , gc_Inv ro I11 → (∀ q j : Nat, ((q = 39 ∧ j = 3) ∨ (q = 39 ∧ j = 4) ∨ (q = 23 ∧ j = 5) ∨ (q = 23 ∧ j = 6) ∨ (q = 23 ∧ j = 7) ∨ (q = 23 ∧ j = 8) ∨ q = (a1 + 8) ∨ (q = a1 ∧ j = 14)) ∨ I11 q j = I q j) → (∀ q j : Nat, ((q = 23 ∧ j = 9)) ∨ J12 q j = J q j) → gc_LT I11 → gc_TK I11 → ((I11 a1 14 = I a1 14) ∧ (I11 23 7 = 1) ∧ (I11 23 1 = I 23 1) ∧ (I 23 5 ≤ I11 23 5) ∧ (I11 39 2 = (t : Int))) → gv_X (gc_E6 ws0 tb 3 (yX6_readGive, cX6_readGive, 4, (some .boolean)) kX6_readGive) (gv_Q cX6_readGive (some .boolean) sh (fun r h' => (∃ (I' : gr_I) (J' : gr_J), h' = gc_h sh I' J' A ∧ gc_Inv ro I' ∧ (∀ q j : Nat, ((q = 39 ∧ j = 3) ∨ (q = 39 ∧ j = 4) ∨ (q = 23 ∧ j = 5) ∨ (q = 23 ∧ j = 6) ∨ (q = 23 ∧ j = 7) ∨ (q = 23 ∧ j = 8) ∨ q = (a1 + 8) ∨ (q = a1 ∧ j = 14)) ∨ I' q j = I q j) ∧ (∀ q j : Nat, ((q = 23 ∧ j = 9)) ∨ J' q j = J q j) ∧ gc_LT I' ∧ gc_TK I' ∧ (∃ z : Int, r = some (.inl z) ∧ 0 ≤ z ∧ z ≤ 1 ∧ (I' 23 1 = I 23 1) ∧ (I 23 5 ≤ I' 23 5) ∧ (I' a1 14 ≤ I a1 14 + 1))))) (180, [(0, .inr (.inr (some 39))), (1, .inr (.inr (some a1)))], [], sh, gc_h sh I11 J12 A) := by
    intro I11 J12 hI11 FI11 FJ12 KLT_I11 KTK_I11 m_13
    obtain ⟨e0_13, e1_13, e2_13, e3_13, e4_13⟩ := m_13
    have t14 := gc_TK_mo KTK_I11
    have f15 := (show 0 ≤ I11 23 1 ∧ I11 23 1 ≤ 1000 from gc_in hI11 R_23 rfl rfl)
    have f16 := (show 0 ≤ I11 23 5 ∧ I11 23 5 ≤ 1000 from gc_in hI11 R_23 rfl rfl)
    have f17 := (show 0 ≤ I11 23 6 ∧ I11 23 6 ≤ 1001 from gc_in hI11 R_23 rfl rfl)
    have f18 := (show 0 ≤ I11 23 7 ∧ I11 23 7 ≤ 125 from gc_in hI11 R_23 rfl rfl)
    have f19 := (show 0 ≤ I11 a1 14 ∧ I11 a1 14 ≤ 6 from gc_in hI11 R_a1 rfl rfl)
    have f20 := (show 0 ≤ I11 23 8 ∧ I11 23 8 ≤ 999999 from gc_in hI11 R_23 rfl rfl)
    have f21 := (show 0 ≤ I11 (t + 1) 1 ∧ I11 (t + 1) 1 ≤ 8 from gc_in hI11 R_t_1 rfl rfl)
    have f22 := (show 0 ≤ I11 (t + 3) 1 ∧ I11 (t + 3) 1 ≤ 48 from gc_in hI11 R_t_3 rfl rfl)
    have f23 := (show (-1) ≤ I11 39 2 ∧ I11 39 2 ≤ 999999 from gc_in hI11 R_39 rfl rfl)
    refine gv_run 1 true hD (pc' := 181) (lv' := [(0, .inr (.inr (some 39))), (1, .inr (.inr (some a1)))]) (st' := [.inr (.inr (some 39))]) (h' := gc_h sh I11 J12 A) (C := (True ∧ True)) rfl ⟨trivial, trivial⟩ ?_
    refine gv_get hD rfl rfl S_39 ⟨by decide, B_39⟩ (gc_hA S_39 rfl A_39_1) ?_
    show gv_X _ _ (184, [(0, .inr (.inr (some 39))), (1, .inr (.inr (some a1)))], [.inr (.inr (some 23))], sh, gc_h sh I11 J12 A)
    have t25 := gc_TK_nx KTK_I11 (by omega)
    obtain ⟨r24, h24, E24, P24⟩ := d_X9_advance (ws0 := ws0) (tb := tb) hws htb sh ro I11 J12 A hI11 23  (gc_b23 hb)    (by omega) 
    obtain ⟨I26, J27, rfl, hI26, g24, k24, ⟨rfl, V24_0, V24_1, V24_2, V24_3, V24_4, q24⟩⟩ := P24
    have FI26 := gc_frc (W := fun q j => (q = 39 ∧ j = 3) ∨ (q = 39 ∧ j = 4) ∨ (q = 23 ∧ j = 5) ∨ (q = 23 ∧ j = 6) ∨ (q = 23 ∧ j = 7) ∨ (q = 23 ∧ j = 8) ∨ q = (a1 + 8) ∨ (q = a1 ∧ j = 14)) (V := fun q j => (q = 23 ∧ j = 5) ∨ (q = 23 ∧ j = 6) ∨ (q = 23 ∧ j = 7) ∨ (q = 23 ∧ j = 8)) FI11 (fun q j h => (h.elim (fun h => (Or.inr (Or.inr (Or.inl h)))) (fun h => (h.elim (fun h => (Or.inr (Or.inr (Or.inr (Or.inl h))))) (fun h => (h.elim (fun h => (Or.inr (Or.inr (Or.inr (Or.inr (Or.inl h)))))) (fun h => (Or.inr (Or.inr (Or.inr (Or.inr (Or.inr (Or.inl h))))))))))))) g24
    have FJ27 := gc_frc (W := fun q j => (q = 23 ∧ j = 9)) (V := fun q j => (q = 23 ∧ j = 9)) FJ12 (fun q j h => h) k24
    have t28 := (g24 23 1).resolve_left (fun h => h.elim (fun h => absurd h.2 (by decide)) (fun h => h.elim (fun h => absurd h.2 (by decide)) (fun h => h.elim (fun h => absurd h.2 (by decide)) (fun h => absurd h.2 (by decide)))))
    have t29 := (g24 a1 14).resolve_left (fun h => h.elim (fun h => absurd h.2 (by decide)) (fun h => h.elim (fun h => absurd h.2 (by decide)) (fun h => h.elim (fun h => absurd h.2 (by decide)) (fun h => absurd h.2 (by decide)))))
    have t30 := (g24 (t + 1) 1).resolve_left (fun h => h.elim (fun h => absurd h.2 (by decide)) (fun h => h.elim (fun h => absurd h.2 (by decide)) (fun h => h.elim (fun h => absurd h.2 (by decide)) (fun h => absurd h.2 (by decide)))))
    have t31 := (g24 (t + 3) 1).resolve_left (fun h => h.elim (fun h => absurd h.2 (by decide)) (fun h => h.elim (fun h => absurd h.2 (by decide)) (fun h => h.elim (fun h => absurd h.2 (by decide)) (fun h => absurd h.2 (by decide)))))
    have t32 := (g24 39 2).resolve_left (fun h => h.elim (fun h => absurd h.2 (by decide)) (fun h => h.elim (fun h => absurd h.2 (by decide)) (fun h => h.elim (fun h => absurd h.2 (by decide)) (fun h => absurd h.2 (by decide)))))
    have f33 := (show 0 ≤ I26 23 5 ∧ I26 23 5 ≤ 1000 from gc_in hI26 R_23 rfl rfl)
    have f34 := (show 0 ≤ I26 23 6 ∧ I26 23 6 ≤ 1001 from gc_in hI26 R_23 rfl rfl)
    have f35 := (show 0 ≤ I26 23 7 ∧ I26 23 7 ≤ 125 from gc_in hI26 R_23 rfl rfl)
    have f36 := (show 0 ≤ I26 23 8 ∧ I26 23 8 ≤ 999999 from gc_in hI26 R_23 rfl rfl)
    have KLT_I26 : gc_LT I26 := q24.2.2
    have KTK_I26 : gc_TK I26 := And.intro V24_0 (And.intro V24_1 (And.intro V24_2 (And.intro V24_3 V24_4)))
    have t37 := gc_TK_mo KTK_I26
    clear V24_0 V24_1 V24_2 V24_3 V24_4
    refine gv_callV hD rfl (As := []) (st := []) rfl B_23 S_23 rfl (gc_lV6 hws rfl) (Nat.le_of_ble_eq_true rfl) (gz_Ev_mono (d := 2) (by decide) E24) ?_
    show gv_X _ _ (187, [(0, .inr (.inr (some 39))), (1, .inr (.inr (some a1)))], [], sh, gc_h sh I26 J27 A)
    refine gv_run 2 true hD (pc' := 189) (lv' := [(0, .inr (.inr (some 39))), (1, .inr (.inr (some a1)))]) (st' := [.inr (.inr (some a1)), .inr (.inr (some a1))]) (h' := gc_h sh I26 J27 A) (C := ((True ∧ True) ∧ True)) rfl ⟨⟨trivial, trivial⟩, trivial⟩ ?_
    have f38 := (show 0 ≤ I26 a1 14 ∧ I26 a1 14 ≤ 6 from gc_in hI26 R_a1 rfl rfl)
    refine gv_get hD rfl rfl S_a1 ⟨by decide, B_a1⟩ (gc_hI S_a1 rfl) ?_
    show gv_X _ _ (192, [(0, .inr (.inr (some 39))), (1, .inr (.inr (some a1)))], [.inl (I26 a1 14), .inr (.inr (some a1))], sh, gc_h sh I26 J27 A)
    refine gv_run 2 true hD (pc' := 194) (lv' := [(0, .inr (.inr (some 39))), (1, .inr (.inr (some a1)))]) (st' := [.inl ((I26 a1 14) + 1), .inr (.inr (some a1))]) (h' := gc_h sh I26 J27 A) (C := ((True ∧ True) ∧ True)) rfl ⟨⟨trivial, trivial⟩, trivial⟩ ?_
    refine gv_put hD rfl rfl S_a1 ⟨by decide, B_a1⟩ rfl trivial ?_
    refine gc_st (k := 14) hI26 S_a1 rfl R_a1 (lo := 0) (hi := 6) rfl rfl (by omega) (by omega) (fun I39 hI39 q40 p40 => ?_)
    have FI39 := gc_frs (W := fun q j => (q = 39 ∧ j = 3) ∨ (q = 39 ∧ j = 4) ∨ (q = 23 ∧ j = 5) ∨ (q = 23 ∧ j = 6) ∨ (q = 23 ∧ j = 7) ∨ (q = 23 ∧ j = 8) ∨ q = (a1 + 8) ∨ (q = a1 ∧ j = 14)) FI26 (Or.inr (Or.inr (Or.inr (Or.inr (Or.inr (Or.inr (Or.inr ⟨rfl, rfl⟩))))))) p40
    have t41 := p40 23 1 (fun h => absurd h.2 (by decide))
    have t42 := p40 23 5 (fun h => absurd h.2 (by decide))
    have t43 := p40 23 6 (fun h => absurd h.2 (by decide))
    have t44 := p40 23 7 (fun h => absurd h.2 (by decide))
    have t45 := p40 23 8 (fun h => absurd h.2 (by decide))
    have t46 := p40 (t + 1) 1 (fun h => absurd h.2 (by decide))
    have t47 := p40 (t + 3) 1 (fun h => absurd h.2 (by decide))
    have t48 := p40 39 2 (fun h => absurd h.2 (by decide))
    have f49 := (show 0 ≤ I39 a1 14 ∧ I39 a1 14 ≤ 6 from gc_in hI39 R_a1 rfl rfl)
    have KLT_I39 := gc_LT_fr KLT_I26 (p40 23 5 (fun h => absurd h.2 (by decide))) (p40 23 6 (fun h => absurd h.2 (by decide))) (p40 23 7 (fun h => absurd h.2 (by decide))) (fun k => p40 24 k (fun h => absurd h.1 N_24__a1))
    have KTK_I39 := gc_TK_fr KTK_I26 (p40 23 1 (fun h => absurd h.2 (by decide))) (p40 23 5 (fun h => absurd h.2 (by decide))) (p40 23 6 (fun h => absurd h.2 (by decide))) (p40 23 7 (fun h => absurd h.2 (by decide)))
    show gv_X _ _ (197, [(0, .inr (.inr (some 39))), (1, .inr (.inr (some a1)))], [], sh, gc_h sh I39 J27 A)
    refine gv_run 1 true hD (pc' := 198) (lv' := [(0, .inr (.inr (some 39))), (1, .inr (.inr (some a1)))]) (st' := [.inl 1]) (h' := gc_h sh I39 J27 A) (C := (True ∧ True)) rfl ⟨trivial, trivial⟩ ?_
    exact gv_zret hD rfl (by omega) ⟨I39, J27, rfl, hI39, FI39, FJ27, KLT_I39, KTK_I39, ⟨_, rfl, by omega⟩⟩
  refine gv_run 2 true hD (pc' := 2) (lv' := [(0, .inr (.inr (some 39))), (1, .inr (.inr (some a1)))]) (st' := [.inr (.inr (some a1)), .inl 3]) (h' := gc_h sh I J A) (C := ((True ∧ True) ∧ True)) rfl ⟨⟨trivial, trivial⟩, trivial⟩ ?_
  have f50 := (show 0 ≤ I a1 14 ∧ I a1 14 ≤ 6 from gc_in hI R_a1 rfl rfl)
  refine gv_get hD rfl rfl S_a1 ⟨by decide, B_a1⟩ (gc_hI S_a1 rfl) ?_
  show gv_X _ _ (5, [(0, .inr (.inr (some 39))), (1, .inr (.inr (some a1)))], [.inl (I a1 14), .inl 3], sh, gc_h sh I J A)
  refine gv_run 3 true hD (pc' := 8) (lv' := [(2, .inl (3 * (I a1 14))), (0, .inr (.inr (some 39))), (1, .inr (.inr (some a1)))]) (st' := [.inr (.inr (some 39))]) (h' := gc_h sh I J A) (C := (((True ∧ True) ∧ True) ∧ True)) rfl ⟨⟨⟨trivial, trivial⟩, trivial⟩, trivial⟩ ?_
  refine gv_get hD rfl rfl S_39 ⟨by decide, B_39⟩ (gc_hA S_39 rfl A_39_1) ?_
  show gv_X _ _ (11, [(2, .inl (3 * (I a1 14))), (0, .inr (.inr (some 39))), (1, .inr (.inr (some a1)))], [.inr (.inr (some 23))], sh, gc_h sh I J A)
  have f51 := (show 0 ≤ I 23 7 ∧ I 23 7 ≤ 125 from gc_in hI R_23 rfl rfl)
  refine gv_get hD rfl rfl S_23 ⟨by decide, B_23⟩ (gc_hI S_23 rfl) ?_
  show gv_X _ _ (14, [(2, .inl (3 * (I a1 14))), (0, .inr (.inr (some 39))), (1, .inr (.inr (some a1)))], [.inl (I 23 7)], sh, gc_h sh I J A)
  refine gv_run 1 true hD (pc' := 15) (lv' := [(2, .inl (3 * (I a1 14))), (0, .inr (.inr (some 39))), (1, .inr (.inr (some a1)))]) (st' := [.inl 2, .inl (I 23 7)]) (h' := gc_h sh I J A) (C := (True ∧ True)) rfl ⟨trivial, trivial⟩ ?_
  refine gv_icmp_ne (t := 102) hD rfl rfl ⟨⟨by omega, by omega⟩, ⟨by omega, by omega⟩⟩ (fun c52 => ?_) (fun c52 => ?_)
  · show gv_X _ _ (102, [(2, .inl (3 * (I a1 14))), (0, .inr (.inr (some 39))), (1, .inr (.inr (some a1)))], [], sh, gc_h sh I J A)
    refine gv_run 2 true hD (pc' := 104) (lv' := [(2, .inl (3 * (I a1 14))), (0, .inr (.inr (some 39))), (1, .inr (.inr (some a1)))]) (st' := [.inr (.inr (some 39)), .inr (.inr (some 39))]) (h' := gc_h sh I J A) (C := ((True ∧ True) ∧ True)) rfl ⟨⟨trivial, trivial⟩, trivial⟩ ?_
    refine gv_get hD rfl rfl S_39 ⟨by decide, B_39⟩ (gc_h5 (t := t) S_39 rfl (by omega)) ?_
    show gv_X _ _ (107, [(2, .inl (3 * (I a1 14))), (0, .inr (.inr (some 39))), (1, .inr (.inr (some a1)))], [.inr (.inr (some t)), .inr (.inr (some 39))], sh, gc_h sh I J A)
    refine gv_get hD rfl rfl S_t ⟨by decide, B_t⟩ (gc_hA S_t rfl A_t_1) ?_
    show gv_X _ _ (110, [(2, .inl (3 * (I a1 14))), (0, .inr (.inr (some 39))), (1, .inr (.inr (some a1)))], [.inr (.inr (some (t + 3))), .inr (.inr (some 39))], sh, gc_h sh I J A)
    obtain ⟨r53, h53, E53, P53⟩ := d_X6_needKnown (ws0 := ws0) (tb := tb) hws htb sh ro I J A hI  48 10 (t + 3) hb h_t_3    
    obtain ⟨I54, J55, rfl, hI54, g53, k53, ⟨z53, rfl, q53⟩⟩ := P53
    have FI54 := gc_frc (W := fun q j => (q = 39 ∧ j = 3) ∨ (q = 39 ∧ j = 4) ∨ (q = 23 ∧ j = 5) ∨ (q = 23 ∧ j = 6) ∨ (q = 23 ∧ j = 7) ∨ (q = 23 ∧ j = 8) ∨ q = (a1 + 8) ∨ (q = a1 ∧ j = 14)) (V := fun q j => (q = 39 ∧ j = 3) ∨ (q = 39 ∧ j = 4)) FI (fun q j h => (h.elim (fun h => (Or.inl h)) (fun h => (Or.inr (Or.inl h))))) g53
    have t56 := (g53 23 1).resolve_left (fun h => h.elim (fun h => absurd h.2 (by decide)) (fun h => absurd h.2 (by decide)))
    have t57 := (g53 23 5).resolve_left (fun h => h.elim (fun h => absurd h.2 (by decide)) (fun h => absurd h.2 (by decide)))
    have t58 := (g53 23 6).resolve_left (fun h => h.elim (fun h => absurd h.2 (by decide)) (fun h => absurd h.2 (by decide)))
    have t59 := (g53 23 7).resolve_left (fun h => h.elim (fun h => absurd h.2 (by decide)) (fun h => absurd h.2 (by decide)))
    have t60 := (g53 a1 14).resolve_left (fun h => h.elim (fun h => absurd h.2 (by decide)) (fun h => absurd h.2 (by decide)))
    have t61 := (g53 23 8).resolve_left (fun h => h.elim (fun h => absurd h.2 (by decide)) (fun h => absurd h.2 (by decide)))
    have t62 := (g53 (t + 1) 1).resolve_left (fun h => h.elim (fun h => absurd h.2 (by decide)) (fun h => absurd h.2 (by decide)))
    have t63 := (g53 (t + 3) 1).resolve_left (fun h => h.elim (fun h => absurd h.2 (by decide)) (fun h => absurd h.2 (by decide)))
    have t64 := (g53 39 2).resolve_left (fun h => h.elim (fun h => absurd h.2 (by decide)) (fun h => absurd h.2 (by decide)))
    obtain rfl : J = J55 := funext fun q => funext fun j => ((k53 q j).resolve_left id).symm
    have KLT_I54 := gc_LT_fr KLT_I ((g53 23 5).resolve_left (fun h => h.elim (fun h => absurd h.2 (by decide)) (fun h => absurd h.2 (by decide)))) ((g53 23 6).resolve_left (fun h => h.elim (fun h => absurd h.2 (by decide)) (fun h => absurd h.2 (by decide)))) ((g53 23 7).resolve_left (fun h => h.elim (fun h => absurd h.2 (by decide)) (fun h => absurd h.2 (by decide)))) (fun k => (g53 24 k).resolve_left (fun h => h.elim (fun h => absurd h.1 (by decide)) (fun h => absurd h.1 (by decide))))
    have KTK_I54 := gc_TK_fr KTK_I ((g53 23 1).resolve_left (fun h => h.elim (fun h => absurd h.2 (by decide)) (fun h => absurd h.2 (by decide)))) ((g53 23 5).resolve_left (fun h => h.elim (fun h => absurd h.2 (by decide)) (fun h => absurd h.2 (by decide)))) ((g53 23 6).resolve_left (fun h => h.elim (fun h => absurd h.2 (by decide)) (fun h => absurd h.2 (by decide)))) ((g53 23 7).resolve_left (fun h => h.elim (fun h => absurd h.2 (by decide)) (fun h => absurd h.2 (by decide))))
    refine gv_callV hD rfl (As := [.inr (.inr (some (t + 3)))]) (st := []) rfl B_39 S_39 rfl (gc_lV6 hws rfl) (Nat.le_of_ble_eq_true rfl) (gz_Ev_mono (d := 3) (by decide) E53) ?_
    show gv_X _ _ (113, [(2, .inl (3 * (I a1 14))), (0, .inr (.inr (some 39))), (1, .inr (.inr (some a1)))], [.inl z53], sh, gc_h sh I54 J A)
    refine gv_if_ne (t := 118) hD rfl rfl ⟨by omega, by omega⟩ (fun c65 => ?_) (fun c65 => ?_)
    · show gv_X _ _ (118, [(2, .inl (3 * (I a1 14))), (0, .inr (.inr (some 39))), (1, .inr (.inr (some a1)))], [], sh, gc_h sh I54 J A)
      refine gv_run 1 true hD (pc' := 119) (lv' := [(2, .inl (3 * (I a1 14))), (0, .inr (.inr (some 39))), (1, .inr (.inr (some a1)))]) (st' := [.inr (.inr (some 39))]) (h' := gc_h sh I54 J A) (C := (True ∧ True)) rfl ⟨trivial, trivial⟩ ?_
      refine gv_get hD rfl rfl S_39 ⟨by decide, B_39⟩ (gc_h5 (t := t) S_39 rfl (by omega)) ?_
      show gv_X _ _ (122, [(2, .inl (3 * (I a1 14))), (0, .inr (.inr (some 39))), (1, .inr (.inr (some a1)))], [.inr (.inr (some t))], sh, gc_h sh I54 J A)
      refine gv_get hD rfl rfl S_t ⟨by decide, B_t⟩ (gc_hA S_t rfl A_t_1) ?_
      show gv_X _ _ (125, [(2, .inl (3 * (I a1 14))), (0, .inr (.inr (some 39))), (1, .inr (.inr (some a1)))], [.inr (.inr (some (t + 3)))], sh, gc_h sh I54 J A)
      refine gv_run 1 true hD (pc' := 126) (lv' := [(2, .inl (3 * (I a1 14))), (0, .inr (.inr (some 39))), (1, .inr (.inr (some a1)))]) (st' := [.inr (.inr (some 39)), .inr (.inr (some (t + 3)))]) (h' := gc_h sh I54 J A) (C := (True ∧ True)) rfl ⟨trivial, trivial⟩ ?_
      refine gv_get hD rfl rfl S_39 ⟨by decide, B_39⟩ (gc_hA S_39 rfl A_39_1) ?_
      show gv_X _ _ (129, [(2, .inl (3 * (I a1 14))), (0, .inr (.inr (some 39))), (1, .inr (.inr (some a1)))], [.inr (.inr (some 23)), .inr (.inr (some (t + 3)))], sh, gc_h sh I54 J A)
      refine gv_get hD rfl rfl S_23 ⟨by decide, B_23⟩ (gc_hJ S_23 rfl) ?_
      show gv_X _ _ (132, [(2, .inl (3 * (I a1 14))), (0, .inr (.inr (some 39))), (1, .inr (.inr (some a1)))], [.inr (.inl (J 23 9)), .inr (.inr (some (t + 3)))], sh, gc_h sh I54 J A)
      obtain ⟨r66, h66, E66, P66⟩ := d_X4_find (ws0 := ws0) (tb := tb) hws htb sh ro I54 J A hI54 (t + 3) 48 10 (J 23 9) h_t_3     
      obtain ⟨rfl, ⟨z66, rfl, q66⟩⟩ := P66
      refine gv_callV hD rfl (As := [.inr (.inl (J 23 9))]) (st := []) rfl B_t_3 S_t_3 rfl (gc_lV6 hws rfl) (Nat.le_of_ble_eq_true rfl) (gz_Ev_mono (d := 1) (by decide) E66) ?_
      show gv_X _ _ (135, [(2, .inl (3 * (I a1 14))), (0, .inr (.inr (some 39))), (1, .inr (.inr (some a1)))], [.inl z66], sh, gc_h sh I54 J A)
      refine gv_run 2 true hD (pc' := 137) (lv' := [(3, .inl z66), (2, .inl (3 * (I a1 14))), (0, .inr (.inr (some 39))), (1, .inr (.inr (some a1)))]) (st' := [.inr (.inr (some a1))]) (h' := gc_h sh I54 J A) (C := ((True ∧ True) ∧ True)) rfl ⟨⟨trivial, trivial⟩, trivial⟩ ?_
      refine gv_get hD rfl rfl S_a1 ⟨by decide, B_a1⟩ (gc_hA S_a1 rfl A_a1_15) ?_
      show gv_X _ _ (140, [(3, .inl z66), (2, .inl (3 * (I a1 14))), (0, .inr (.inr (some 39))), (1, .inr (.inr (some a1)))], [.inr (.inr (some (a1 + 8)))], sh, gc_h sh I54 J A)
      refine gv_run 2 true hD (pc' := 142) (lv' := [(3, .inl z66), (2, .inl (3 * (I a1 14))), (0, .inr (.inr (some 39))), (1, .inr (.inr (some a1)))]) (st' := [.inl (-1), .inl (3 * (I a1 14)), .inr (.inr (some (a1 + 8)))]) (h' := gc_h sh I54 J A) (C := ((True ∧ True) ∧ True)) rfl ⟨⟨trivial, trivial⟩, trivial⟩ ?_
      refine gv_iast hD rfl S_a1_8 ⟨by decide, B_a1_8⟩ ⟨by omega, by omega⟩ ?_
      refine gc_st hI54 S_a1_8 rfl R_a1_8 (lo := (-1)) (hi := 3) (gc_lom (c := 0) rfl (by omega) rfl) (gc_him (c := 0) rfl (by omega) rfl) (by omega) (by omega) (fun I67 hI67 q68 p68 => ?_)
      have FI67 := gc_frs (W := fun q j => (q = 39 ∧ j = 3) ∨ (q = 39 ∧ j = 4) ∨ (q = 23 ∧ j = 5) ∨ (q = 23 ∧ j = 6) ∨ (q = 23 ∧ j = 7) ∨ (q = 23 ∧ j = 8) ∨ q = (a1 + 8) ∨ (q = a1 ∧ j = 14)) FI54 (Or.inr (Or.inr (Or.inr (Or.inr (Or.inr (Or.inr (Or.inl rfl))))))) p68
      have t69 := p68 23 1 (fun h => absurd h.1 N_23__a1_8)
      have t70 := p68 23 5 (fun h => absurd h.1 N_23__a1_8)
      have t71 := p68 23 6 (fun h => absurd h.1 N_23__a1_8)
      have t72 := p68 23 7 (fun h => absurd h.1 N_23__a1_8)
      have t73 := p68 a1 14 (fun h => absurd h.1 N_a1__a1_8)
      have t74 := p68 23 8 (fun h => absurd h.1 N_23__a1_8)
      have t75 := p68 (t + 1) 1 (fun h => absurd h.1 N_t_1__a1_8)
      have t76 := p68 (t + 3) 1 (fun h => absurd h.1 N_t_3__a1_8)
      have t77 := p68 39 2 (fun h => absurd h.1 N_39__a1_8)
      have KLT_I67 := gc_LT_fr KLT_I54 (p68 23 5 (fun h => absurd h.1 N_23__a1_8)) (p68 23 6 (fun h => absurd h.1 N_23__a1_8)) (p68 23 7 (fun h => absurd h.1 N_23__a1_8)) (fun k => p68 24 k (fun h => absurd h.1 N_24__a1_8))
      have KTK_I67 := gc_TK_fr KTK_I54 (p68 23 1 (fun h => absurd h.1 N_23__a1_8)) (p68 23 5 (fun h => absurd h.1 N_23__a1_8)) (p68 23 6 (fun h => absurd h.1 N_23__a1_8)) (p68 23 7 (fun h => absurd h.1 N_23__a1_8))
      show gv_X _ _ (143, [(3, .inl z66), (2, .inl (3 * (I a1 14))), (0, .inr (.inr (some 39))), (1, .inr (.inr (some a1)))], [], sh, gc_h sh I67 J A)
      refine gv_run 1 true hD (pc' := 144) (lv' := [(3, .inl z66), (2, .inl (3 * (I a1 14))), (0, .inr (.inr (some 39))), (1, .inr (.inr (some a1)))]) (st' := [.inr (.inr (some a1))]) (h' := gc_h sh I67 J A) (C := (True ∧ True)) rfl ⟨trivial, trivial⟩ ?_
      refine gv_get hD rfl rfl S_a1 ⟨by decide, B_a1⟩ (gc_hA S_a1 rfl A_a1_15) ?_
      show gv_X _ _ (147, [(3, .inl z66), (2, .inl (3 * (I a1 14))), (0, .inr (.inr (some 39))), (1, .inr (.inr (some a1)))], [.inr (.inr (some (a1 + 8)))], sh, gc_h sh I67 J A)
      refine gv_run 4 true hD (pc' := 151) (lv' := [(3, .inl z66), (2, .inl (3 * (I a1 14))), (0, .inr (.inr (some 39))), (1, .inr (.inr (some a1)))]) (st' := [.inr (.inr (some 39)), .inl ((3 * (I a1 14)) + 1), .inr (.inr (some (a1 + 8)))]) (h' := gc_h sh I67 J A) (C := ((((True ∧ True) ∧ True) ∧ True) ∧ True)) rfl ⟨⟨⟨⟨trivial, trivial⟩, trivial⟩, trivial⟩, trivial⟩ ?_
      refine gv_get hD rfl rfl S_39 ⟨by decide, B_39⟩ (gc_h5 (t := t) S_39 rfl (by omega)) ?_
      show gv_X _ _ (154, [(3, .inl z66), (2, .inl (3 * (I a1 14))), (0, .inr (.inr (some 39))), (1, .inr (.inr (some a1)))], [.inr (.inr (some t)), .inl ((3 * (I a1 14)) + 1), .inr (.inr (some (a1 + 8)))], sh, gc_h sh I67 J A)
      refine gv_get hD rfl rfl S_t ⟨by decide, B_t⟩ (gc_hA S_t rfl A_t_2) ?_
      show gv_X _ _ (157, [(3, .inl z66), (2, .inl (3 * (I a1 14))), (0, .inr (.inr (some 39))), (1, .inr (.inr (some a1)))], [.inr (.inr (some (t + 5))), .inl ((3 * (I a1 14)) + 1), .inr (.inr (some (a1 + 8)))], sh, gc_h sh I67 J A)
      refine gv_run 1 true hD (pc' := 158) (lv' := [(3, .inl z66), (2, .inl (3 * (I a1 14))), (0, .inr (.inr (some 39))), (1, .inr (.inr (some a1)))]) (st' := [.inl z66, .inr (.inr (some (t + 5))), .inl ((3 * (I a1 14)) + 1), .inr (.inr (some (a1 + 8)))]) (h' := gc_h sh I67 J A) (C := (True ∧ True)) rfl ⟨trivial, trivial⟩ ?_
      have f78 := (show 0 ≤ I67 (t + 5) (Int.toNat z66) ∧ I67 (t + 5) (Int.toNat z66) ≤ 7 from gc_in hI67 R_t_5 rfl rfl)
      refine gv_iald hD rfl S_t_5 rfl ⟨by decide, B_t_5⟩ ⟨by omega, by omega⟩ (gc_iI S_t_5 rfl) ?_
      show gv_X _ _ (159, [(3, .inl z66), (2, .inl (3 * (I a1 14))), (0, .inr (.inr (some 39))), (1, .inr (.inr (some a1)))], [.inl (I67 (t + 5) (Int.toNat z66)), .inl ((3 * (I a1 14)) + 1), .inr (.inr (some (a1 + 8)))], sh, gc_h sh I67 J A)
      obtain ⟨r79, h79, E79, P79⟩ := d_X11_shiftOf (ws0 := ws0) (tb := tb) hws htb sh ro I67 J A hI67  ((I67 (t + 5) (Int.toNat z66)))    ⟨by omega, by omega⟩  
      obtain ⟨rfl, ⟨z79, rfl, q79⟩⟩ := P79
      refine gv_callS hD rfl (As := [.inl (I67 (t + 5) (Int.toNat z66))]) (st := [.inl ((3 * (I a1 14)) + 1), .inr (.inr (some (a1 + 8)))]) rfl (gc_lS6 hws rfl) (Nat.le_of_ble_eq_true rfl) (gz_Ev_mono (d := 1) (by decide) E79) ?_
      show gv_X _ _ (162, [(3, .inl z66), (2, .inl (3 * (I a1 14))), (0, .inr (.inr (some 39))), (1, .inr (.inr (some a1)))], [.inl z79, .inl ((3 * (I a1 14)) + 1), .inr (.inr (some (a1 + 8)))], sh, gc_h sh I67 J A)
      refine gv_iast hD rfl S_a1_8 ⟨by decide, B_a1_8⟩ ⟨by omega, by omega⟩ ?_
      refine gc_st hI67 S_a1_8 rfl R_a1_8 (lo := 0) (hi := 21) (gc_lom (c := 1) rfl (by omega) rfl) (gc_him (c := 1) rfl (by omega) rfl) (by omega) (by omega) (fun I80 hI80 q81 p81 => ?_)
      have FI80 := gc_frs (W := fun q j => (q = 39 ∧ j = 3) ∨ (q = 39 ∧ j = 4) ∨ (q = 23 ∧ j = 5) ∨ (q = 23 ∧ j = 6) ∨ (q = 23 ∧ j = 7) ∨ (q = 23 ∧ j = 8) ∨ q = (a1 + 8) ∨ (q = a1 ∧ j = 14)) FI67 (Or.inr (Or.inr (Or.inr (Or.inr (Or.inr (Or.inr (Or.inl rfl))))))) p81
      have t82 := p81 23 1 (fun h => absurd h.1 N_23__a1_8)
      have t83 := p81 23 5 (fun h => absurd h.1 N_23__a1_8)
      have t84 := p81 23 6 (fun h => absurd h.1 N_23__a1_8)
      have t85 := p81 23 7 (fun h => absurd h.1 N_23__a1_8)
      have t86 := p81 a1 14 (fun h => absurd h.1 N_a1__a1_8)
      have t87 := p81 23 8 (fun h => absurd h.1 N_23__a1_8)
      have t88 := p81 (t + 1) 1 (fun h => absurd h.1 N_t_1__a1_8)
      have t89 := p81 (t + 3) 1 (fun h => absurd h.1 N_t_3__a1_8)
      have t90 := p81 39 2 (fun h => absurd h.1 N_39__a1_8)
      have KLT_I80 := gc_LT_fr KLT_I67 (p81 23 5 (fun h => absurd h.1 N_23__a1_8)) (p81 23 6 (fun h => absurd h.1 N_23__a1_8)) (p81 23 7 (fun h => absurd h.1 N_23__a1_8)) (fun k => p81 24 k (fun h => absurd h.1 N_24__a1_8))
      have KTK_I80 := gc_TK_fr KTK_I67 (p81 23 1 (fun h => absurd h.1 N_23__a1_8)) (p81 23 5 (fun h => absurd h.1 N_23__a1_8)) (p81 23 6 (fun h => absurd h.1 N_23__a1_8)) (p81 23 7 (fun h => absurd h.1 N_23__a1_8))
      show gv_X _ _ (163, [(3, .inl z66), (2, .inl (3 * (I a1 14))), (0, .inr (.inr (some 39))), (1, .inr (.inr (some a1)))], [], sh, gc_h sh I80 J A)
      refine gv_run 1 true hD (pc' := 164) (lv' := [(3, .inl z66), (2, .inl (3 * (I a1 14))), (0, .inr (.inr (some 39))), (1, .inr (.inr (some a1)))]) (st' := [.inr (.inr (some a1))]) (h' := gc_h sh I80 J A) (C := (True ∧ True)) rfl ⟨trivial, trivial⟩ ?_
      refine gv_get hD rfl rfl S_a1 ⟨by decide, B_a1⟩ (gc_hA S_a1 rfl A_a1_15) ?_
      show gv_X _ _ (167, [(3, .inl z66), (2, .inl (3 * (I a1 14))), (0, .inr (.inr (some 39))), (1, .inr (.inr (some a1)))], [.inr (.inr (some (a1 + 8)))], sh, gc_h sh I80 J A)
      refine gv_run 4 true hD (pc' := 171) (lv' := [(3, .inl z66), (2, .inl (3 * (I a1 14))), (0, .inr (.inr (some 39))), (1, .inr (.inr (some a1)))]) (st' := [.inr (.inr (some 39)), .inl ((3 * (I a1 14)) + 2), .inr (.inr (some (a1 + 8)))]) (h' := gc_h sh I80 J A) (C := ((((True ∧ True) ∧ True) ∧ True) ∧ True)) rfl ⟨⟨⟨⟨trivial, trivial⟩, trivial⟩, trivial⟩, trivial⟩ ?_
      refine gv_get hD rfl rfl S_39 ⟨by decide, B_39⟩ (gc_h5 (t := t) S_39 rfl (by omega)) ?_
      show gv_X _ _ (174, [(3, .inl z66), (2, .inl (3 * (I a1 14))), (0, .inr (.inr (some 39))), (1, .inr (.inr (some a1)))], [.inr (.inr (some t)), .inl ((3 * (I a1 14)) + 2), .inr (.inr (some (a1 + 8)))], sh, gc_h sh I80 J A)
      refine gv_get hD rfl rfl S_t ⟨by decide, B_t⟩ (gc_hA S_t rfl A_t_3) ?_
      show gv_X _ _ (177, [(3, .inl z66), (2, .inl (3 * (I a1 14))), (0, .inr (.inr (some 39))), (1, .inr (.inr (some a1)))], [.inr (.inr (some (t + 6))), .inl ((3 * (I a1 14)) + 2), .inr (.inr (some (a1 + 8)))], sh, gc_h sh I80 J A)
      refine gv_run 1 true hD (pc' := 178) (lv' := [(3, .inl z66), (2, .inl (3 * (I a1 14))), (0, .inr (.inr (some 39))), (1, .inr (.inr (some a1)))]) (st' := [.inl z66, .inr (.inr (some (t + 6))), .inl ((3 * (I a1 14)) + 2), .inr (.inr (some (a1 + 8)))]) (h' := gc_h sh I80 J A) (C := (True ∧ True)) rfl ⟨trivial, trivial⟩ ?_
      have f91 := (show 0 ≤ I80 (t + 6) (Int.toNat z66) ∧ I80 (t + 6) (Int.toNat z66) ≤ 6 from gc_in hI80 R_t_6 rfl rfl)
      refine gv_iald hD rfl S_t_6 rfl ⟨by decide, B_t_6⟩ ⟨by omega, by omega⟩ (gc_iI S_t_6 rfl) ?_
      show gv_X _ _ (179, [(3, .inl z66), (2, .inl (3 * (I a1 14))), (0, .inr (.inr (some 39))), (1, .inr (.inr (some a1)))], [.inl (I80 (t + 6) (Int.toNat z66)), .inl ((3 * (I a1 14)) + 2), .inr (.inr (some (a1 + 8)))], sh, gc_h sh I80 J A)
      refine gv_iast hD rfl S_a1_8 ⟨by decide, B_a1_8⟩ ⟨by omega, by omega⟩ ?_
      refine gc_st hI80 S_a1_8 rfl R_a1_8 (lo := 0) (hi := 7) (gc_lom (c := 2) rfl (by omega) rfl) (gc_him (c := 2) rfl (by omega) rfl) (by omega) (by omega) (fun I92 hI92 q93 p93 => ?_)
      have FI92 := gc_frs (W := fun q j => (q = 39 ∧ j = 3) ∨ (q = 39 ∧ j = 4) ∨ (q = 23 ∧ j = 5) ∨ (q = 23 ∧ j = 6) ∨ (q = 23 ∧ j = 7) ∨ (q = 23 ∧ j = 8) ∨ q = (a1 + 8) ∨ (q = a1 ∧ j = 14)) FI80 (Or.inr (Or.inr (Or.inr (Or.inr (Or.inr (Or.inr (Or.inl rfl))))))) p93
      have t94 := p93 23 1 (fun h => absurd h.1 N_23__a1_8)
      have t95 := p93 23 5 (fun h => absurd h.1 N_23__a1_8)
      have t96 := p93 23 6 (fun h => absurd h.1 N_23__a1_8)
      have t97 := p93 23 7 (fun h => absurd h.1 N_23__a1_8)
      have t98 := p93 a1 14 (fun h => absurd h.1 N_a1__a1_8)
      have t99 := p93 23 8 (fun h => absurd h.1 N_23__a1_8)
      have t100 := p93 (t + 1) 1 (fun h => absurd h.1 N_t_1__a1_8)
      have t101 := p93 (t + 3) 1 (fun h => absurd h.1 N_t_3__a1_8)
      have t102 := p93 39 2 (fun h => absurd h.1 N_39__a1_8)
      have KLT_I92 := gc_LT_fr KLT_I80 (p93 23 5 (fun h => absurd h.1 N_23__a1_8)) (p93 23 6 (fun h => absurd h.1 N_23__a1_8)) (p93 23 7 (fun h => absurd h.1 N_23__a1_8)) (fun k => p93 24 k (fun h => absurd h.1 N_24__a1_8))
      have KTK_I92 := gc_TK_fr KTK_I80 (p93 23 1 (fun h => absurd h.1 N_23__a1_8)) (p93 23 5 (fun h => absurd h.1 N_23__a1_8)) (p93 23 6 (fun h => absurd h.1 N_23__a1_8)) (p93 23 7 (fun h => absurd h.1 N_23__a1_8))
      show gv_X _ _ (180, [(3, .inl z66), (2, .inl (3 * (I a1 14))), (0, .inr (.inr (some 39))), (1, .inr (.inr (some a1)))], [], sh, gc_h sh I92 J A)
      refine gv_pick [2, 3] rfl ?_
      exact L180 I92 J hI92 FI92 FJ KLT_I92 KTK_I92 (by omega)
    · show gv_X _ _ (116, [(2, .inl (3 * (I a1 14))), (0, .inr (.inr (some 39))), (1, .inr (.inr (some a1)))], [], sh, gc_h sh I54 J A)
      refine gv_run 1 true hD (pc' := 117) (lv' := [(2, .inl (3 * (I a1 14))), (0, .inr (.inr (some 39))), (1, .inr (.inr (some a1)))]) (st' := [.inl 0]) (h' := gc_h sh I54 J A) (C := (True ∧ True)) rfl ⟨trivial, trivial⟩ ?_
      exact gv_zret hD rfl (by omega) ⟨I54, J, rfl, hI54, FI54, FJ, KLT_I54, KTK_I54, ⟨_, rfl, by omega⟩⟩
  · show gv_X _ _ (18, [(2, .inl (3 * (I a1 14))), (0, .inr (.inr (some 39))), (1, .inr (.inr (some a1)))], [], sh, gc_h sh I J A)
    refine gv_run 2 true hD (pc' := 20) (lv' := [(2, .inl (3 * (I a1 14))), (0, .inr (.inr (some 39))), (1, .inr (.inr (some a1)))]) (st' := [.inr (.inr (some a1)), .inr (.inr (some 39))]) (h' := gc_h sh I J A) (C := ((True ∧ True) ∧ True)) rfl ⟨⟨trivial, trivial⟩, trivial⟩ ?_
    obtain ⟨r103, h103, E103, P103⟩ := d_X6_needArgument (ws0 := ws0) (tb := tb) hws htb sh ro I J A hI  a1 hb h_a1 G_a1    
    obtain ⟨I104, J105, rfl, hI104, g103, k103, ⟨z103, rfl, q103⟩⟩ := P103
    have FI104 := gc_frc (W := fun q j => (q = 39 ∧ j = 3) ∨ (q = 39 ∧ j = 4) ∨ (q = 23 ∧ j = 5) ∨ (q = 23 ∧ j = 6) ∨ (q = 23 ∧ j = 7) ∨ (q = 23 ∧ j = 8) ∨ q = (a1 + 8) ∨ (q = a1 ∧ j = 14)) (V := fun q j => (q = 39 ∧ j = 3) ∨ (q = 39 ∧ j = 4)) FI (fun q j h => (h.elim (fun h => (Or.inl h)) (fun h => (Or.inr (Or.inl h))))) g103
    have t106 := (g103 23 1).resolve_left (fun h => h.elim (fun h => absurd h.2 (by decide)) (fun h => absurd h.2 (by decide)))
    have t107 := (g103 23 5).resolve_left (fun h => h.elim (fun h => absurd h.2 (by decide)) (fun h => absurd h.2 (by decide)))
    have t108 := (g103 23 6).resolve_left (fun h => h.elim (fun h => absurd h.2 (by decide)) (fun h => absurd h.2 (by decide)))
    have t109 := (g103 23 7).resolve_left (fun h => h.elim (fun h => absurd h.2 (by decide)) (fun h => absurd h.2 (by decide)))
    have t110 := (g103 a1 14).resolve_left (fun h => h.elim (fun h => absurd h.2 (by decide)) (fun h => absurd h.2 (by decide)))
    have t111 := (g103 23 8).resolve_left (fun h => h.elim (fun h => absurd h.2 (by decide)) (fun h => absurd h.2 (by decide)))
    have t112 := (g103 (t + 1) 1).resolve_left (fun h => h.elim (fun h => absurd h.2 (by decide)) (fun h => absurd h.2 (by decide)))
    have t113 := (g103 (t + 3) 1).resolve_left (fun h => h.elim (fun h => absurd h.2 (by decide)) (fun h => absurd h.2 (by decide)))
    have t114 := (g103 39 2).resolve_left (fun h => h.elim (fun h => absurd h.2 (by decide)) (fun h => absurd h.2 (by decide)))
    obtain rfl : J = J105 := funext fun q => funext fun j => ((k103 q j).resolve_left id).symm
    have KLT_I104 := gc_LT_fr KLT_I ((g103 23 5).resolve_left (fun h => h.elim (fun h => absurd h.2 (by decide)) (fun h => absurd h.2 (by decide)))) ((g103 23 6).resolve_left (fun h => h.elim (fun h => absurd h.2 (by decide)) (fun h => absurd h.2 (by decide)))) ((g103 23 7).resolve_left (fun h => h.elim (fun h => absurd h.2 (by decide)) (fun h => absurd h.2 (by decide)))) (fun k => (g103 24 k).resolve_left (fun h => h.elim (fun h => absurd h.1 (by decide)) (fun h => absurd h.1 (by decide))))
    have KTK_I104 := gc_TK_fr KTK_I ((g103 23 1).resolve_left (fun h => h.elim (fun h => absurd h.2 (by decide)) (fun h => absurd h.2 (by decide)))) ((g103 23 5).resolve_left (fun h => h.elim (fun h => absurd h.2 (by decide)) (fun h => absurd h.2 (by decide)))) ((g103 23 6).resolve_left (fun h => h.elim (fun h => absurd h.2 (by decide)) (fun h => absurd h.2 (by decide)))) ((g103 23 7).resolve_left (fun h => h.elim (fun h => absurd h.2 (by decide)) (fun h => absurd h.2 (by decide))))
    refine gv_callV hD rfl (As := [.inr (.inr (some a1))]) (st := []) rfl B_39 S_39 rfl (gc_lV6 hws rfl) (Nat.le_of_ble_eq_true rfl) (gz_Ev_mono (d := 3) (by decide) E103) ?_
    show gv_X _ _ (23, [(2, .inl (3 * (I a1 14))), (0, .inr (.inr (some 39))), (1, .inr (.inr (some a1)))], [.inl z103], sh, gc_h sh I104 J A)
    refine gv_if_ne (t := 28) hD rfl rfl ⟨by omega, by omega⟩ (fun c115 => ?_) (fun c115 => ?_)
    · show gv_X _ _ (28, [(2, .inl (3 * (I a1 14))), (0, .inr (.inr (some 39))), (1, .inr (.inr (some a1)))], [], sh, gc_h sh I104 J A)
      refine gv_run 1 true hD (pc' := 29) (lv' := [(2, .inl (3 * (I a1 14))), (0, .inr (.inr (some 39))), (1, .inr (.inr (some a1)))]) (st' := [.inr (.inr (some a1))]) (h' := gc_h sh I104 J A) (C := (True ∧ True)) rfl ⟨trivial, trivial⟩ ?_
      refine gv_get hD rfl rfl S_a1 ⟨by decide, B_a1⟩ (gc_hA S_a1 rfl A_a1_15) ?_
      show gv_X _ _ (32, [(2, .inl (3 * (I a1 14))), (0, .inr (.inr (some 39))), (1, .inr (.inr (some a1)))], [.inr (.inr (some (a1 + 8)))], sh, gc_h sh I104 J A)
      refine gv_run 2 true hD (pc' := 34) (lv' := [(2, .inl (3 * (I a1 14))), (0, .inr (.inr (some 39))), (1, .inr (.inr (some a1)))]) (st' := [.inr (.inr (some a1)), .inl (3 * (I a1 14)), .inr (.inr (some (a1 + 8)))]) (h' := gc_h sh I104 J A) (C := ((True ∧ True) ∧ True)) rfl ⟨⟨trivial, trivial⟩, trivial⟩ ?_
      refine gv_get hD rfl rfl S_a1 ⟨by decide, B_a1⟩ (gc_hA S_a1 rfl A_a1_11) ?_
      show gv_X _ _ (37, [(2, .inl (3 * (I a1 14))), (0, .inr (.inr (some 39))), (1, .inr (.inr (some a1)))], [.inr (.inr (some (a1 + 6))), .inl (3 * (I a1 14)), .inr (.inr (some (a1 + 8)))], sh, gc_h sh I104 J A)
      refine gv_run 1 true hD (pc' := 38) (lv' := [(2, .inl (3 * (I a1 14))), (0, .inr (.inr (some 39))), (1, .inr (.inr (some a1)))]) (st' := [.inr (.inr (some 39)), .inr (.inr (some (a1 + 6))), .inl (3 * (I a1 14)), .inr (.inr (some (a1 + 8)))]) (h' := gc_h sh I104 J A) (C := (True ∧ True)) rfl ⟨trivial, trivial⟩ ?_
      refine gv_get hD rfl rfl S_39 ⟨by decide, B_39⟩ (gc_hA S_39 rfl A_39_1) ?_
      show gv_X _ _ (41, [(2, .inl (3 * (I a1 14))), (0, .inr (.inr (some 39))), (1, .inr (.inr (some a1)))], [.inr (.inr (some 23)), .inr (.inr (some (a1 + 6))), .inl (3 * (I a1 14)), .inr (.inr (some (a1 + 8)))], sh, gc_h sh I104 J A)
      have f116 := (show 0 ≤ I104 23 8 ∧ I104 23 8 ≤ 999999 from gc_in hI104 R_23 rfl rfl)
      refine gv_get hD rfl rfl S_23 ⟨by decide, B_23⟩ (gc_hI S_23 rfl) ?_
      show gv_X _ _ (44, [(2, .inl (3 * (I a1 14))), (0, .inr (.inr (some 39))), (1, .inr (.inr (some a1)))], [.inl (I104 23 8), .inr (.inr (some (a1 + 6))), .inl (3 * (I a1 14)), .inr (.inr (some (a1 + 8)))], sh, gc_h sh I104 J A)
      refine gv_run 2 true hD (pc' := 46) (lv' := [(2, .inl (3 * (I a1 14))), (0, .inr (.inr (some 39))), (1, .inr (.inr (some a1)))]) (st' := [.inl ((I104 23 8) - 1), .inr (.inr (some (a1 + 6))), .inl (3 * (I a1 14)), .inr (.inr (some (a1 + 8)))]) (h' := gc_h sh I104 J A) (C := ((True ∧ True) ∧ True)) rfl ⟨⟨trivial, trivial⟩, trivial⟩ ?_
      have f117 := (show (-1) ≤ I104 (a1 + 6) (Int.toNat (((I104 23 8) - 1))) ∧ I104 (a1 + 6) (Int.toNat (((I104 23 8) - 1))) ≤ 3 from gc_in hI104 R_a1_6 rfl rfl)
      refine gv_iald hD rfl S_a1_6 rfl ⟨by decide, B_a1_6⟩ ⟨by omega, by omega⟩ (gc_iI S_a1_6 rfl) ?_
      show gv_X _ _ (47, [(2, .inl (3 * (I a1 14))), (0, .inr (.inr (some 39))), (1, .inr (.inr (some a1)))], [.inl (I104 (a1 + 6) (Int.toNat (((I104 23 8) - 1)))), .inl (3 * (I a1 14)), .inr (.inr (some (a1 + 8)))], sh, gc_h sh I104 J A)
      refine gv_iast hD rfl S_a1_8 ⟨by decide, B_a1_8⟩ ⟨by omega, by omega⟩ ?_
      refine gc_st hI104 S_a1_8 rfl R_a1_8 (lo := (-1)) (hi := 3) (gc_lom (c := 0) rfl (by omega) rfl) (gc_him (c := 0) rfl (by omega) rfl) (by omega) (by omega) (fun I118 hI118 q119 p119 => ?_)
      have FI118 := gc_frs (W := fun q j => (q = 39 ∧ j = 3) ∨ (q = 39 ∧ j = 4) ∨ (q = 23 ∧ j = 5) ∨ (q = 23 ∧ j = 6) ∨ (q = 23 ∧ j = 7) ∨ (q = 23 ∧ j = 8) ∨ q = (a1 + 8) ∨ (q = a1 ∧ j = 14)) FI104 (Or.inr (Or.inr (Or.inr (Or.inr (Or.inr (Or.inr (Or.inl rfl))))))) p119
      have t120 := p119 23 1 (fun h => absurd h.1 N_23__a1_8)
      have t121 := p119 23 5 (fun h => absurd h.1 N_23__a1_8)
      have t122 := p119 23 6 (fun h => absurd h.1 N_23__a1_8)
      have t123 := p119 23 7 (fun h => absurd h.1 N_23__a1_8)
      have t124 := p119 a1 14 (fun h => absurd h.1 N_a1__a1_8)
      have t125 := p119 23 8 (fun h => absurd h.1 N_23__a1_8)
      have t126 := p119 (t + 1) 1 (fun h => absurd h.1 N_t_1__a1_8)
      have t127 := p119 (t + 3) 1 (fun h => absurd h.1 N_t_3__a1_8)
      have t128 := p119 39 2 (fun h => absurd h.1 N_39__a1_8)
      have KLT_I118 := gc_LT_fr KLT_I104 (p119 23 5 (fun h => absurd h.1 N_23__a1_8)) (p119 23 6 (fun h => absurd h.1 N_23__a1_8)) (p119 23 7 (fun h => absurd h.1 N_23__a1_8)) (fun k => p119 24 k (fun h => absurd h.1 N_24__a1_8))
      have KTK_I118 := gc_TK_fr KTK_I104 (p119 23 1 (fun h => absurd h.1 N_23__a1_8)) (p119 23 5 (fun h => absurd h.1 N_23__a1_8)) (p119 23 6 (fun h => absurd h.1 N_23__a1_8)) (p119 23 7 (fun h => absurd h.1 N_23__a1_8))
      show gv_X _ _ (48, [(2, .inl (3 * (I a1 14))), (0, .inr (.inr (some 39))), (1, .inr (.inr (some a1)))], [], sh, gc_h sh I118 J A)
      refine gv_run 1 true hD (pc' := 49) (lv' := [(2, .inl (3 * (I a1 14))), (0, .inr (.inr (some 39))), (1, .inr (.inr (some a1)))]) (st' := [.inr (.inr (some 39))]) (h' := gc_h sh I118 J A) (C := (True ∧ True)) rfl ⟨trivial, trivial⟩ ?_
      refine gv_get hD rfl rfl S_39 ⟨by decide, B_39⟩ (gc_hA S_39 rfl A_39_1) ?_
      show gv_X _ _ (52, [(2, .inl (3 * (I a1 14))), (0, .inr (.inr (some 39))), (1, .inr (.inr (some a1)))], [.inr (.inr (some 23))], sh, gc_h sh I118 J A)
      have t130 := gc_TK_nx KTK_I118 (by omega)
      obtain ⟨r129, h129, E129, P129⟩ := d_X9_advance (ws0 := ws0) (tb := tb) hws htb sh ro I118 J A hI118 23  (gc_b23 hb)    (by omega) 
      obtain ⟨I131, J132, rfl, hI131, g129, k129, ⟨rfl, V129_0, V129_1, V129_2, V129_3, V129_4, q129⟩⟩ := P129
      have FI131 := gc_frc (W := fun q j => (q = 39 ∧ j = 3) ∨ (q = 39 ∧ j = 4) ∨ (q = 23 ∧ j = 5) ∨ (q = 23 ∧ j = 6) ∨ (q = 23 ∧ j = 7) ∨ (q = 23 ∧ j = 8) ∨ q = (a1 + 8) ∨ (q = a1 ∧ j = 14)) (V := fun q j => (q = 23 ∧ j = 5) ∨ (q = 23 ∧ j = 6) ∨ (q = 23 ∧ j = 7) ∨ (q = 23 ∧ j = 8)) FI118 (fun q j h => (h.elim (fun h => (Or.inr (Or.inr (Or.inl h)))) (fun h => (h.elim (fun h => (Or.inr (Or.inr (Or.inr (Or.inl h))))) (fun h => (h.elim (fun h => (Or.inr (Or.inr (Or.inr (Or.inr (Or.inl h)))))) (fun h => (Or.inr (Or.inr (Or.inr (Or.inr (Or.inr (Or.inl h))))))))))))) g129
      have FJ132 := gc_frc (W := fun q j => (q = 23 ∧ j = 9)) (V := fun q j => (q = 23 ∧ j = 9)) FJ (fun q j h => h) k129
      have t133 := (g129 23 1).resolve_left (fun h => h.elim (fun h => absurd h.2 (by decide)) (fun h => h.elim (fun h => absurd h.2 (by decide)) (fun h => h.elim (fun h => absurd h.2 (by decide)) (fun h => absurd h.2 (by decide)))))
      have t134 := (g129 a1 14).resolve_left (fun h => h.elim (fun h => absurd h.2 (by decide)) (fun h => h.elim (fun h => absurd h.2 (by decide)) (fun h => h.elim (fun h => absurd h.2 (by decide)) (fun h => absurd h.2 (by decide)))))
      have t135 := (g129 (t + 1) 1).resolve_left (fun h => h.elim (fun h => absurd h.2 (by decide)) (fun h => h.elim (fun h => absurd h.2 (by decide)) (fun h => h.elim (fun h => absurd h.2 (by decide)) (fun h => absurd h.2 (by decide)))))
      have t136 := (g129 (t + 3) 1).resolve_left (fun h => h.elim (fun h => absurd h.2 (by decide)) (fun h => h.elim (fun h => absurd h.2 (by decide)) (fun h => h.elim (fun h => absurd h.2 (by decide)) (fun h => absurd h.2 (by decide)))))
      have t137 := (g129 39 2).resolve_left (fun h => h.elim (fun h => absurd h.2 (by decide)) (fun h => h.elim (fun h => absurd h.2 (by decide)) (fun h => h.elim (fun h => absurd h.2 (by decide)) (fun h => absurd h.2 (by decide)))))
      have f138 := (show 0 ≤ I131 23 5 ∧ I131 23 5 ≤ 1000 from gc_in hI131 R_23 rfl rfl)
      have f139 := (show 0 ≤ I131 23 6 ∧ I131 23 6 ≤ 1001 from gc_in hI131 R_23 rfl rfl)
      have f140 := (show 0 ≤ I131 23 7 ∧ I131 23 7 ≤ 125 from gc_in hI131 R_23 rfl rfl)
      have f141 := (show 0 ≤ I131 23 8 ∧ I131 23 8 ≤ 999999 from gc_in hI131 R_23 rfl rfl)
      have KLT_I131 : gc_LT I131 := q129.2.2
      have KTK_I131 : gc_TK I131 := And.intro V129_0 (And.intro V129_1 (And.intro V129_2 (And.intro V129_3 V129_4)))
      have t142 := gc_TK_mo KTK_I131
      clear V129_0 V129_1 V129_2 V129_3 V129_4
      refine gv_callV hD rfl (As := []) (st := []) rfl B_23 S_23 rfl (gc_lV6 hws rfl) (Nat.le_of_ble_eq_true rfl) (gz_Ev_mono (d := 2) (by decide) E129) ?_
      show gv_X _ _ (55, [(2, .inl (3 * (I a1 14))), (0, .inr (.inr (some 39))), (1, .inr (.inr (some a1)))], [], sh, gc_h sh I131 J132 A)
      refine gv_run 2 true hD (pc' := 57) (lv' := [(2, .inl (3 * (I a1 14))), (0, .inr (.inr (some 39))), (1, .inr (.inr (some a1)))]) (st' := [.inr (.inr (some 39)), .inr (.inr (some 39))]) (h' := gc_h sh I131 J132 A) (C := ((True ∧ True) ∧ True)) rfl ⟨⟨trivial, trivial⟩, trivial⟩ ?_
      refine gv_get hD rfl rfl S_39 ⟨by decide, B_39⟩ (gc_h5 (t := t) S_39 rfl (by omega)) ?_
      show gv_X _ _ (60, [(2, .inl (3 * (I a1 14))), (0, .inr (.inr (some 39))), (1, .inr (.inr (some a1)))], [.inr (.inr (some t)), .inr (.inr (some 39))], sh, gc_h sh I131 J132 A)
      refine gv_get hD rfl rfl S_t ⟨by decide, B_t⟩ (gc_hA S_t rfl A_t_0) ?_
      show gv_X _ _ (63, [(2, .inl (3 * (I a1 14))), (0, .inr (.inr (some 39))), (1, .inr (.inr (some a1)))], [.inr (.inr (some (t + 1))), .inr (.inr (some 39))], sh, gc_h sh I131 J132 A)
      obtain ⟨r143, h143, E143, P143⟩ := d_X6_needKnown (ws0 := ws0) (tb := tb) hws htb sh ro I131 J132 A hI131  8 6 (t + 1) hb h_t_1    
      obtain ⟨I144, J145, rfl, hI144, g143, k143, ⟨z143, rfl, q143⟩⟩ := P143
      have FI144 := gc_frc (W := fun q j => (q = 39 ∧ j = 3) ∨ (q = 39 ∧ j = 4) ∨ (q = 23 ∧ j = 5) ∨ (q = 23 ∧ j = 6) ∨ (q = 23 ∧ j = 7) ∨ (q = 23 ∧ j = 8) ∨ q = (a1 + 8) ∨ (q = a1 ∧ j = 14)) (V := fun q j => (q = 39 ∧ j = 3) ∨ (q = 39 ∧ j = 4)) FI131 (fun q j h => (h.elim (fun h => (Or.inl h)) (fun h => (Or.inr (Or.inl h))))) g143
      have t146 := (g143 23 1).resolve_left (fun h => h.elim (fun h => absurd h.2 (by decide)) (fun h => absurd h.2 (by decide)))
      have t147 := (g143 23 5).resolve_left (fun h => h.elim (fun h => absurd h.2 (by decide)) (fun h => absurd h.2 (by decide)))
      have t148 := (g143 23 6).resolve_left (fun h => h.elim (fun h => absurd h.2 (by decide)) (fun h => absurd h.2 (by decide)))
      have t149 := (g143 23 7).resolve_left (fun h => h.elim (fun h => absurd h.2 (by decide)) (fun h => absurd h.2 (by decide)))
      have t150 := (g143 a1 14).resolve_left (fun h => h.elim (fun h => absurd h.2 (by decide)) (fun h => absurd h.2 (by decide)))
      have t151 := (g143 23 8).resolve_left (fun h => h.elim (fun h => absurd h.2 (by decide)) (fun h => absurd h.2 (by decide)))
      have t152 := (g143 (t + 1) 1).resolve_left (fun h => h.elim (fun h => absurd h.2 (by decide)) (fun h => absurd h.2 (by decide)))
      have t153 := (g143 (t + 3) 1).resolve_left (fun h => h.elim (fun h => absurd h.2 (by decide)) (fun h => absurd h.2 (by decide)))
      have t154 := (g143 39 2).resolve_left (fun h => h.elim (fun h => absurd h.2 (by decide)) (fun h => absurd h.2 (by decide)))
      obtain rfl : J132 = J145 := funext fun q => funext fun j => ((k143 q j).resolve_left id).symm
      have KLT_I144 := gc_LT_fr KLT_I131 ((g143 23 5).resolve_left (fun h => h.elim (fun h => absurd h.2 (by decide)) (fun h => absurd h.2 (by decide)))) ((g143 23 6).resolve_left (fun h => h.elim (fun h => absurd h.2 (by decide)) (fun h => absurd h.2 (by decide)))) ((g143 23 7).resolve_left (fun h => h.elim (fun h => absurd h.2 (by decide)) (fun h => absurd h.2 (by decide)))) (fun k => (g143 24 k).resolve_left (fun h => h.elim (fun h => absurd h.1 (by decide)) (fun h => absurd h.1 (by decide))))
      have KTK_I144 := gc_TK_fr KTK_I131 ((g143 23 1).resolve_left (fun h => h.elim (fun h => absurd h.2 (by decide)) (fun h => absurd h.2 (by decide)))) ((g143 23 5).resolve_left (fun h => h.elim (fun h => absurd h.2 (by decide)) (fun h => absurd h.2 (by decide)))) ((g143 23 6).resolve_left (fun h => h.elim (fun h => absurd h.2 (by decide)) (fun h => absurd h.2 (by decide)))) ((g143 23 7).resolve_left (fun h => h.elim (fun h => absurd h.2 (by decide)) (fun h => absurd h.2 (by decide))))
      refine gv_callV hD rfl (As := [.inr (.inr (some (t + 1)))]) (st := []) rfl B_39 S_39 rfl (gc_lV6 hws rfl) (Nat.le_of_ble_eq_true rfl) (gz_Ev_mono (d := 3) (by decide) E143) ?_
      show gv_X _ _ (66, [(2, .inl (3 * (I a1 14))), (0, .inr (.inr (some 39))), (1, .inr (.inr (some a1)))], [.inl z143], sh, gc_h sh I144 J132 A)
      refine gv_if_ne (t := 71) hD rfl rfl ⟨by omega, by omega⟩ (fun c155 => ?_) (fun c155 => ?_)
      · show gv_X _ _ (71, [(2, .inl (3 * (I a1 14))), (0, .inr (.inr (some 39))), (1, .inr (.inr (some a1)))], [], sh, gc_h sh I144 J132 A)
        refine gv_run 1 true hD (pc' := 72) (lv' := [(2, .inl (3 * (I a1 14))), (0, .inr (.inr (some 39))), (1, .inr (.inr (some a1)))]) (st' := [.inr (.inr (some a1))]) (h' := gc_h sh I144 J132 A) (C := (True ∧ True)) rfl ⟨trivial, trivial⟩ ?_
        refine gv_get hD rfl rfl S_a1 ⟨by decide, B_a1⟩ (gc_hA S_a1 rfl A_a1_15) ?_
        show gv_X _ _ (75, [(2, .inl (3 * (I a1 14))), (0, .inr (.inr (some 39))), (1, .inr (.inr (some a1)))], [.inr (.inr (some (a1 + 8)))], sh, gc_h sh I144 J132 A)
        refine gv_run 4 true hD (pc' := 79) (lv' := [(2, .inl (3 * (I a1 14))), (0, .inr (.inr (some 39))), (1, .inr (.inr (some a1)))]) (st' := [.inr (.inr (some 39)), .inl ((3 * (I a1 14)) + 1), .inr (.inr (some (a1 + 8)))]) (h' := gc_h sh I144 J132 A) (C := ((((True ∧ True) ∧ True) ∧ True) ∧ True)) rfl ⟨⟨⟨⟨trivial, trivial⟩, trivial⟩, trivial⟩, trivial⟩ ?_
        refine gv_get hD rfl rfl S_39 ⟨by decide, B_39⟩ (gc_h5 (t := t) S_39 rfl (by omega)) ?_
        show gv_X _ _ (82, [(2, .inl (3 * (I a1 14))), (0, .inr (.inr (some 39))), (1, .inr (.inr (some a1)))], [.inr (.inr (some t)), .inl ((3 * (I a1 14)) + 1), .inr (.inr (some (a1 + 8)))], sh, gc_h sh I144 J132 A)
        refine gv_get hD rfl rfl S_t ⟨by decide, B_t⟩ (gc_hA S_t rfl A_t_0) ?_
        show gv_X _ _ (85, [(2, .inl (3 * (I a1 14))), (0, .inr (.inr (some 39))), (1, .inr (.inr (some a1)))], [.inr (.inr (some (t + 1))), .inl ((3 * (I a1 14)) + 1), .inr (.inr (some (a1 + 8)))], sh, gc_h sh I144 J132 A)
        refine gv_run 1 true hD (pc' := 86) (lv' := [(2, .inl (3 * (I a1 14))), (0, .inr (.inr (some 39))), (1, .inr (.inr (some a1)))]) (st' := [.inr (.inr (some 39)), .inr (.inr (some (t + 1))), .inl ((3 * (I a1 14)) + 1), .inr (.inr (some (a1 + 8)))]) (h' := gc_h sh I144 J132 A) (C := (True ∧ True)) rfl ⟨trivial, trivial⟩ ?_
        refine gv_get hD rfl rfl S_39 ⟨by decide, B_39⟩ (gc_hA S_39 rfl A_39_1) ?_
        show gv_X _ _ (89, [(2, .inl (3 * (I a1 14))), (0, .inr (.inr (some 39))), (1, .inr (.inr (some a1)))], [.inr (.inr (some 23)), .inr (.inr (some (t + 1))), .inl ((3 * (I a1 14)) + 1), .inr (.inr (some (a1 + 8)))], sh, gc_h sh I144 J132 A)
        refine gv_get hD rfl rfl S_23 ⟨by decide, B_23⟩ (gc_hJ S_23 rfl) ?_
        show gv_X _ _ (92, [(2, .inl (3 * (I a1 14))), (0, .inr (.inr (some 39))), (1, .inr (.inr (some a1)))], [.inr (.inl (J132 23 9)), .inr (.inr (some (t + 1))), .inl ((3 * (I a1 14)) + 1), .inr (.inr (some (a1 + 8)))], sh, gc_h sh I144 J132 A)
        obtain ⟨r156, h156, E156, P156⟩ := d_X4_find (ws0 := ws0) (tb := tb) hws htb sh ro I144 J132 A hI144 (t + 1) 8 6 (J132 23 9) h_t_1     
        obtain ⟨rfl, ⟨z156, rfl, q156⟩⟩ := P156
        refine gv_callV hD rfl (As := [.inr (.inl (J132 23 9))]) (st := [.inl ((3 * (I a1 14)) + 1), .inr (.inr (some (a1 + 8)))]) rfl B_t_1 S_t_1 rfl (gc_lV6 hws rfl) (Nat.le_of_ble_eq_true rfl) (gz_Ev_mono (d := 1) (by decide) E156) ?_
        show gv_X _ _ (95, [(2, .inl (3 * (I a1 14))), (0, .inr (.inr (some 39))), (1, .inr (.inr (some a1)))], [.inl z156, .inl ((3 * (I a1 14)) + 1), .inr (.inr (some (a1 + 8)))], sh, gc_h sh I144 J132 A)
        obtain ⟨r157, h157, E157, P157⟩ := d_X11_shiftOf (ws0 := ws0) (tb := tb) hws htb sh ro I144 J132 A hI144  z156    ⟨by omega, by omega⟩  
        obtain ⟨rfl, ⟨z157, rfl, q157⟩⟩ := P157
        refine gv_callS hD rfl (As := [.inl z156]) (st := [.inl ((3 * (I a1 14)) + 1), .inr (.inr (some (a1 + 8)))]) rfl (gc_lS6 hws rfl) (Nat.le_of_ble_eq_true rfl) (gz_Ev_mono (d := 1) (by decide) E157) ?_
        show gv_X _ _ (98, [(2, .inl (3 * (I a1 14))), (0, .inr (.inr (some 39))), (1, .inr (.inr (some a1)))], [.inl z157, .inl ((3 * (I a1 14)) + 1), .inr (.inr (some (a1 + 8)))], sh, gc_h sh I144 J132 A)
        refine gv_iast hD rfl S_a1_8 ⟨by decide, B_a1_8⟩ ⟨by omega, by omega⟩ ?_
        refine gc_st hI144 S_a1_8 rfl R_a1_8 (lo := 0) (hi := 21) (gc_lom (c := 1) rfl (by omega) rfl) (gc_him (c := 1) rfl (by omega) rfl) (by omega) (by omega) (fun I158 hI158 q159 p159 => ?_)
        have FI158 := gc_frs (W := fun q j => (q = 39 ∧ j = 3) ∨ (q = 39 ∧ j = 4) ∨ (q = 23 ∧ j = 5) ∨ (q = 23 ∧ j = 6) ∨ (q = 23 ∧ j = 7) ∨ (q = 23 ∧ j = 8) ∨ q = (a1 + 8) ∨ (q = a1 ∧ j = 14)) FI144 (Or.inr (Or.inr (Or.inr (Or.inr (Or.inr (Or.inr (Or.inl rfl))))))) p159
        have t160 := p159 23 1 (fun h => absurd h.1 N_23__a1_8)
        have t161 := p159 23 5 (fun h => absurd h.1 N_23__a1_8)
        have t162 := p159 23 6 (fun h => absurd h.1 N_23__a1_8)
        have t163 := p159 23 7 (fun h => absurd h.1 N_23__a1_8)
        have t164 := p159 a1 14 (fun h => absurd h.1 N_a1__a1_8)
        have t165 := p159 23 8 (fun h => absurd h.1 N_23__a1_8)
        have t166 := p159 (t + 1) 1 (fun h => absurd h.1 N_t_1__a1_8)
        have t167 := p159 (t + 3) 1 (fun h => absurd h.1 N_t_3__a1_8)
        have t168 := p159 39 2 (fun h => absurd h.1 N_39__a1_8)
        have KLT_I158 := gc_LT_fr KLT_I144 (p159 23 5 (fun h => absurd h.1 N_23__a1_8)) (p159 23 6 (fun h => absurd h.1 N_23__a1_8)) (p159 23 7 (fun h => absurd h.1 N_23__a1_8)) (fun k => p159 24 k (fun h => absurd h.1 N_24__a1_8))
        have KTK_I158 := gc_TK_fr KTK_I144 (p159 23 1 (fun h => absurd h.1 N_23__a1_8)) (p159 23 5 (fun h => absurd h.1 N_23__a1_8)) (p159 23 6 (fun h => absurd h.1 N_23__a1_8)) (p159 23 7 (fun h => absurd h.1 N_23__a1_8))
        show gv_X _ _ (99, [(2, .inl (3 * (I a1 14))), (0, .inr (.inr (some 39))), (1, .inr (.inr (some a1)))], [], sh, gc_h sh I158 J132 A)
        refine gv_run 1 true hD (pc' := 180) (lv' := [(2, .inl (3 * (I a1 14))), (0, .inr (.inr (some 39))), (1, .inr (.inr (some a1)))]) (st' := []) (h' := gc_h sh I158 J132 A) (C := (True ∧ True)) rfl ⟨trivial, trivial⟩ ?_
        refine gv_pick [1, 2] rfl ?_
        exact L180 I158 J132 hI158 FI158 FJ132 KLT_I158 KTK_I158 (by omega)
      · show gv_X _ _ (69, [(2, .inl (3 * (I a1 14))), (0, .inr (.inr (some 39))), (1, .inr (.inr (some a1)))], [], sh, gc_h sh I144 J132 A)
        refine gv_run 1 true hD (pc' := 70) (lv' := [(2, .inl (3 * (I a1 14))), (0, .inr (.inr (some 39))), (1, .inr (.inr (some a1)))]) (st' := [.inl 0]) (h' := gc_h sh I144 J132 A) (C := (True ∧ True)) rfl ⟨trivial, trivial⟩ ?_
        exact gv_zret hD rfl (by omega) ⟨I144, J132, rfl, hI144, FI144, FJ132, KLT_I144, KTK_I144, ⟨_, rfl, by omega⟩⟩
    · show gv_X _ _ (26, [(2, .inl (3 * (I a1 14))), (0, .inr (.inr (some 39))), (1, .inr (.inr (some a1)))], [], sh, gc_h sh I104 J A)
      refine gv_run 1 true hD (pc' := 27) (lv' := [(2, .inl (3 * (I a1 14))), (0, .inr (.inr (some 39))), (1, .inr (.inr (some a1)))]) (st' := [.inl 0]) (h' := gc_h sh I104 J A) (C := (True ∧ True)) rfl ⟨trivial, trivial⟩ ?_
      exact gv_zret hD rfl (by omega) ⟨I104, J, rfl, hI104, FI104, FJ, KLT_I104, KTK_I104, ⟨_, rfl, by omega⟩⟩
