set_option maxHeartbeats 8000000 in
set_option maxRecDepth 100000 in
theorem d_X6_readAtom_p {ws0 : List Cond} {tb : String → gz_T} (hws : gc_Ws ws0) (htb : gc_tbs tb) (sh : gz_Sh) (ro : Nat → Nat) (A : gc_A) (b : Int) (β : Int → Int) (η : Int) (nf9 : Int)  (hb : gc_Base sh ro A) (nr : Nat) (ihR : ∀ (I : gr_I) (J : gr_J) (hI : gc_Inv ro I) (a1 : Int) (a2 : Int) (p9 : Int) (m9 : Int) (ha1 : 0 ≤ a1 ∧ a1 ≤ 95) (ha2 : 1 ≤ a2 ∧ a2 ≤ 41) (x0 : I 39 12 ≤ I 23 5) (x1 : I 39 15 ≤ a2 - 1) (x2 : b ≤ -3 - I 12 (Int.toNat a1)) (x3 : b ≤ -3) (x4 : gc_AT β η p9 23 I J) (x5 : 0 ≤ p9) (x6 : nf9 = I 12 (Int.toNat a1)) (x7 : 4 * (1002 - gs_A β η p9) ≤ m9) (KLT_I : gc_LT I) (KTK_I : gc_TK I) (KTO_I : gc_TO b I) (_ : (42 - a2).toNat < nr), ∃ r h', gz_Ev ws0 tb (6 + 2 * nr) (yX6_readTerm, cX6_readTerm, 7, (some .boolean)) [.inr (.inr (some 39)), .inl a1, .inl a2] sh (gc_h sh I J A) r sh h' 0 0 ∧ (∃ (I' : gr_I) (J' : gr_J), h' = gc_h sh I' J' A ∧ gc_Inv ro I' ∧ (∀ q j : Nat, ((q = 39 ∧ j = 3) ∨ (q = 39 ∧ j = 4) ∨ (q = 23 ∧ j = 5) ∨ (q = 23 ∧ j = 6) ∨ (q = 23 ∧ j = 7) ∨ (q = 23 ∧ j = 8) ∨ (q = 39 ∧ j = 12) ∨ (q = 39 ∧ j = 15) ∨ q = 43) ∨ I' q j = I q j) ∧ (∀ q j : Nat, ((q = 23 ∧ j = 9) ∨ q = 44 ∨ q = 45) ∨ J' q j = J q j) ∧ gc_LT I' ∧ gc_TK I' ∧ gc_TO b I' ∧ (∃ z : Int, r = some (.inl z) ∧ 0 ≤ z ∧ z ≤ 1 ∧ (I' 23 1 = I 23 1) ∧ (I 23 5 ≤ I' 23 5) ∧ (I' 39 12 ≤ I' 23 5) ∧ (z = 0 ∨ I' 39 15 = I 39 15) ∧ (I 39 12 ≤ I' 39 12) ∧ (gc_TE z I I') ∧ (gs_TQc β η (gs_tm β η nf9 m9 0 a2 p9) z I I' J')))) (I : gr_I) (J : gr_J) (hI : gc_Inv ro I) (a1 : Int) (a2 : Int) (p9 : Int) (m9 : Int) (ha1 : 0 ≤ a1 ∧ a1 ≤ 95) (ha2 : 1 ≤ a2 ∧ a2 ≤ 40) (x0 : I 39 12 ≤ I 23 5) (x1 : I 39 15 ≤ a2 - 1) (x2 : b ≤ -3 - I 12 (Int.toNat a1)) (x3 : b ≤ -3) (x4 : I 23 7 = 40 ∨ I 23 7 = 1 ∨ I 23 7 = 2) (x5 : gc_AT β η p9 23 I J) (x6 : 0 ≤ p9) (x7 : nf9 = I 12 (Int.toNat a1)) (x8 : 4 * (1002 - gs_A β η p9) - 1 ≤ m9) (KLT_I : gc_LT I) (KTK_I : gc_TK I) (KTO_I : gc_TO b I) (hnr : (41 - a2).toNat < nr) : ∃ r h', gz_Ev ws0 tb (6 + 2 * nr + 1) (yX6_readAtom, cX6_readAtom, 4, (some .boolean)) [.inr (.inr (some 39)), .inl a1, .inl a2] sh (gc_h sh I J A) r sh h' 0 0 ∧ (∃ (I' : gr_I) (J' : gr_J), h' = gc_h sh I' J' A ∧ gc_Inv ro I' ∧ (∀ q j : Nat, ((q = 39 ∧ j = 3) ∨ (q = 39 ∧ j = 4) ∨ (q = 23 ∧ j = 5) ∨ (q = 23 ∧ j = 6) ∨ (q = 23 ∧ j = 7) ∨ (q = 23 ∧ j = 8) ∨ (q = 39 ∧ j = 12) ∨ (q = 39 ∧ j = 15) ∨ q = 43) ∨ I' q j = I q j) ∧ (∀ q j : Nat, ((q = 23 ∧ j = 9) ∨ q = 44 ∨ q = 45) ∨ J' q j = J q j) ∧ gc_LT I' ∧ gc_TK I' ∧ gc_TO b I' ∧ (∃ z : Int, r = some (.inl z) ∧ 0 ≤ z ∧ z ≤ 1 ∧ (I' 23 1 = I 23 1) ∧ (I 23 5 ≤ I' 23 5) ∧ (I' 39 12 ≤ I' 23 5) ∧ (z = 0 ∨ I' 39 15 = I 39 15) ∧ (I 39 12 ≤ I' 39 12) ∧ (gc_TE z I I') ∧ (z = 0 ∨ I 23 5 < I' 23 5) ∧ (gs_TQc β η (gs_tm β η nf9 m9 1 a2 p9) z I I' J'))) := by
  have FI : ∀ q j : Nat, ((q = 39 ∧ j = 3) ∨ (q = 39 ∧ j = 4) ∨ (q = 23 ∧ j = 5) ∨ (q = 23 ∧ j = 6) ∨ (q = 23 ∧ j = 7) ∨ (q = 23 ∧ j = 8) ∨ (q = 39 ∧ j = 12) ∨ (q = 39 ∧ j = 15) ∨ q = 43) ∨ I q j = I q j := fun _ _ => Or.inr rfl
  have FJ : ∀ q j : Nat, ((q = 23 ∧ j = 9) ∨ q = 44 ∨ q = 45) ∨ J q j = J q j := fun _ _ => Or.inr rfl
  have A_1_7 : A 1 7 = some 12 := gc_bA_1_7 hb
  have A_39_0 : A 39 0 = some 1 := gc_bA_39_0 hb
  have A_39_1 : A 39 1 = some 23 := gc_bA_39_1 hb
  have A_39_16 : A 39 16 = some 45 := gc_bA_39_16 hb
  have B_1 : 1 < 1000000 := by decide
  have B_12 : 12 < 1000000 := by decide
  have B_23 : 23 < 1000000 := by decide
  have B_39 : 39 < 1000000 := by decide
  have B_45 : 45 < 1000000 := by decide
  have R_12 : ro 12 = 26 := gc_bR_12 hb
  have R_23 : ro 23 = 3 := gc_bR_23 hb
  have R_39 : ro 39 = 42 := gc_bR_39 hb
  have S_1 : sh[1]? = some (false, 8, 21) := gc_bS_1 hb
  have S_12 : sh[12]? = some (true, 1, 96) := gc_bS_12 hb
  have S_23 : sh[23]? = some (false, 9, 10) := gc_bS_23 hb
  have S_39 : sh[39]? = some (false, 6, 19) := gc_bS_39 hb
  have S_45 : sh[45]? = some (true, 2, 41) := gc_bS_45 hb
  have hD : gv_D (gc_E6 ws0 tb (6 + 2 * nr) (yX6_readAtom, cX6_readAtom, 4, (some .boolean)) kX6_readAtom) := gq_of oX6_readAtom
  refine gc_ev6 (d := (6 + 2 * nr)) (l := kX6_readAtom) (Po := fun r h' => (∃ (I' : gr_I) (J' : gr_J), h' = gc_h sh I' J' A ∧ gc_Inv ro I' ∧ (∀ q j : Nat, ((q = 39 ∧ j = 3) ∨ (q = 39 ∧ j = 4) ∨ (q = 23 ∧ j = 5) ∨ (q = 23 ∧ j = 6) ∨ (q = 23 ∧ j = 7) ∨ (q = 23 ∧ j = 8) ∨ (q = 39 ∧ j = 12) ∨ (q = 39 ∧ j = 15) ∨ q = 43) ∨ I' q j = I q j) ∧ (∀ q j : Nat, ((q = 23 ∧ j = 9) ∨ q = 44 ∨ q = 45) ∨ J' q j = J q j) ∧ gc_LT I' ∧ gc_TK I' ∧ gc_TO b I' ∧ (∃ z : Int, r = some (.inl z) ∧ 0 ≤ z ∧ z ≤ 1 ∧ (I' 23 1 = I 23 1) ∧ (I 23 5 ≤ I' 23 5) ∧ (I' 39 12 ≤ I' 23 5) ∧ (z = 0 ∨ I' 39 15 = I 39 15) ∧ (I 39 12 ≤ I' 39 12) ∧ (gc_TE z I I') ∧ (z = 0 ∨ I 23 5 < I' 23 5) ∧ (gs_TQc β η (gs_tm β η nf9 m9 1 a2 p9) z I I' J')))) htb rfl (Nat.le_of_ble_eq_true rfl) ?_
  have t1 := gc_TK_mo KTK_I
  have f2 := (gc_b_3_1 hI R_23)
  have f3 := (gc_b_3_5 hI R_23)
  have f4 := (gc_b_3_6 hI R_23)
  have f5 := (gc_b_3_7 hI R_23)
  have f6 := (gc_b_42_12 hI R_39)
  have f7 := (gc_b_42_15 hI R_39)
  have f8 := (gc_b_3_8 hI R_23)
  have tAT := gc_AT_l x5
  have L201 : ∀ (I9 : gr_I) (J10 : gr_J) (p_11 : Int), gc_Inv ro I9 → (∀ q j : Nat, ((q = 39 ∧ j = 3) ∨ (q = 39 ∧ j = 4) ∨ (q = 23 ∧ j = 5) ∨ (q = 23 ∧ j = 6) ∨ (q = 23 ∧ j = 7) ∨ (q = 23 ∧ j = 8) ∨ (q = 39 ∧ j = 12) ∨ (q = 39 ∧ j = 15) ∨ q = 43) ∨ I9 q j = I q j) → (∀ q j : Nat, ((q = 23 ∧ j = 9) ∨ q = 44 ∨ q = 45) ∨ J10 q j = J q j) → gc_LT I9 → gc_TK I9 → gc_TO b I9 → ((I 39 12 ≤ I9 39 12) ∧ (b ≤ -3 - I9 12 (Int.toNat a1)) ∧ (I9 39 15 = I 39 15) ∧ (I9 39 12 ≤ I9 23 5 + 1) ∧ (I9 23 7 = 1 ∨ I9 23 7 = 2) ∧ (0 ≤ p_11) ∧ (I9 39 12 = I 39 12 + 1) ∧ (I9 23 1 = I 23 1) ∧ (I 23 5 ≤ I9 23 5)) → (gc_TD I I9) → ((gs_tm β η nf9 m9 1 a2 p9) = (gs_X β η p_11, 1)) → (gc_AT β η p_11 23 I9 J10) → gv_X (gc_E6 ws0 tb (6 + 2 * nr) (yX6_readAtom, cX6_readAtom, 4, (some .boolean)) kX6_readAtom) (gv_Q cX6_readAtom (some .boolean) sh (fun r h' => (∃ (I' : gr_I) (J' : gr_J), h' = gc_h sh I' J' A ∧ gc_Inv ro I' ∧ (∀ q j : Nat, ((q = 39 ∧ j = 3) ∨ (q = 39 ∧ j = 4) ∨ (q = 23 ∧ j = 5) ∨ (q = 23 ∧ j = 6) ∨ (q = 23 ∧ j = 7) ∨ (q = 23 ∧ j = 8) ∨ (q = 39 ∧ j = 12) ∨ (q = 39 ∧ j = 15) ∨ q = 43) ∨ I' q j = I q j) ∧ (∀ q j : Nat, ((q = 23 ∧ j = 9) ∨ q = 44 ∨ q = 45) ∨ J' q j = J q j) ∧ gc_LT I' ∧ gc_TK I' ∧ gc_TO b I' ∧ (∃ z : Int, r = some (.inl z) ∧ 0 ≤ z ∧ z ≤ 1 ∧ (I' 23 1 = I 23 1) ∧ (I 23 5 ≤ I' 23 5) ∧ (I' 39 12 ≤ I' 23 5) ∧ (z = 0 ∨ I' 39 15 = I 39 15) ∧ (I 39 12 ≤ I' 39 12) ∧ (gc_TE z I I') ∧ (z = 0 ∨ I 23 5 < I' 23 5) ∧ (gs_TQc β η (gs_tm β η nf9 m9 1 a2 p9) z I I' J'))))) (201, [(0, .inr (.inr (some 39)))], [], sh, gc_h sh I9 J10 A) := by
    intro I9 J10 p_11 hI9 FI9 FJ10 KLT_I9 KTK_I9 KTO_I9 m_11 e0_11 e6_11 e7_11
    obtain ⟨e1_11, e2_11, e3_11, e4_11, e5_11, e8_11, e9_11, e10_11, e11_11⟩ := m_11
    have t12 := gc_TK_mo KTK_I9
    have f13 := (gc_b_3_1 hI9 R_23)
    have f14 := (gc_b_3_5 hI9 R_23)
    have f15 := (gc_b_3_6 hI9 R_23)
    have f16 := (gc_b_3_7 hI9 R_23)
    have f17 := (gc_b_42_12 hI9 R_39)
    have f18 := (gc_b_42_15 hI9 R_39)
    have f19 := (gc_b_3_8 hI9 R_23)
    have t20 := gc_AT_l e7_11
    refine gv_run 1 true hD (pc' := 202) (lv' := [(0, .inr (.inr (some 39)))]) (st' := [.inr (.inr (some 39))]) (h' := gc_h sh I9 J10 A) (C := (True ∧ True)) rfl ⟨trivial, trivial⟩ ?_
    refine gv_get hD rfl rfl S_39 ⟨by decide, B_39⟩ (gc_hA S_39 rfl A_39_1) ?_
    show gv_X _ _ (205, [(0, .inr (.inr (some 39)))], [.inr (.inr (some 23))], sh, gc_h sh I9 J10 A)
    have t22 := gc_TK_nx KTK_I9 (by exact gz_m 0 (by omega))
    have t23 := gc_TK_st KTK_I9 (by exact gz_m 1 (by omega))
    obtain ⟨r21, h21, E21, P21⟩ := d_X9_advance_p (ws0 := ws0) (tb := tb) hws htb sh ro I9 J10 A hI9 23 β η  (gc_b23 hb)    (by exact gz_m 2 (by omega)) e7_11.1.1 e7_11.1.2 
    obtain ⟨I24, J25, rfl, hI24, g21, k21, ⟨rfl, V21_0, V21_1, V21_2, V21_3, V21_4, q21⟩⟩ := P21
    have FI24 := gc_frc (W := fun q j => (q = 39 ∧ j = 3) ∨ (q = 39 ∧ j = 4) ∨ (q = 23 ∧ j = 5) ∨ (q = 23 ∧ j = 6) ∨ (q = 23 ∧ j = 7) ∨ (q = 23 ∧ j = 8) ∨ (q = 39 ∧ j = 12) ∨ (q = 39 ∧ j = 15) ∨ q = 43) (V := fun q j => (q = 23 ∧ j = 5) ∨ (q = 23 ∧ j = 6) ∨ (q = 23 ∧ j = 7) ∨ (q = 23 ∧ j = 8)) FI9 (fun q j h => (h.elim (fun h => (Or.inr (Or.inr (Or.inl h)))) (fun h => (h.elim (fun h => (Or.inr (Or.inr (Or.inr (Or.inl h))))) (fun h => (h.elim (fun h => (Or.inr (Or.inr (Or.inr (Or.inr (Or.inl h)))))) (fun h => (Or.inr (Or.inr (Or.inr (Or.inr (Or.inr (Or.inl h))))))))))))) g21
    have FJ25 := gc_frc (W := fun q j => (q = 23 ∧ j = 9) ∨ q = 44 ∨ q = 45) (V := fun q j => (q = 23 ∧ j = 9)) FJ10 (fun q j h => (Or.inl h)) k21
    have t26 := (g21 23 1).resolve_left (fun h => h.elim (fun h => absurd h.2 (by first | exact gz_ne rfl | decide)) (fun h => h.elim (fun h => absurd h.2 (by first | exact gz_ne rfl | decide)) (fun h => h.elim (fun h => absurd h.2 (by first | exact gz_ne rfl | decide)) (fun h => absurd h.2 (by first | exact gz_ne rfl | decide)))))
    have t27 := (g21 39 12).resolve_left (fun h => h.elim (fun h => absurd h.2 (by first | exact gz_ne rfl | decide)) (fun h => h.elim (fun h => absurd h.2 (by first | exact gz_ne rfl | decide)) (fun h => h.elim (fun h => absurd h.2 (by first | exact gz_ne rfl | decide)) (fun h => absurd h.2 (by first | exact gz_ne rfl | decide)))))
    have t28 := (g21 39 15).resolve_left (fun h => h.elim (fun h => absurd h.2 (by first | exact gz_ne rfl | decide)) (fun h => h.elim (fun h => absurd h.2 (by first | exact gz_ne rfl | decide)) (fun h => h.elim (fun h => absurd h.2 (by first | exact gz_ne rfl | decide)) (fun h => absurd h.2 (by first | exact gz_ne rfl | decide)))))
    have t29 := (g21 12 (Int.toNat a1)).resolve_left (fun h => h.elim (fun h => absurd h.1 (by first | exact gz_ne rfl | decide)) (fun h => h.elim (fun h => absurd h.1 (by first | exact gz_ne rfl | decide)) (fun h => h.elim (fun h => absurd h.1 (by first | exact gz_ne rfl | decide)) (fun h => absurd h.1 (by first | exact gz_ne rfl | decide)))))
    have f30 := (gc_b_3_5 hI24 R_23)
    have f31 := (gc_b_3_6 hI24 R_23)
    have f32 := (gc_b_3_7 hI24 R_23)
    have f33 := (gc_b_3_8 hI24 R_23)
    have KLT_I24 : gc_LT I24 := q21.2.2.1
    have KTO_I24 := gc_TO_fr KTO_I9 ((g21 39 12).resolve_left (fun h => h.elim (fun h => absurd h.2 (by first | exact gz_ne rfl | decide)) (fun h => h.elim (fun h => absurd h.2 (by first | exact gz_ne rfl | decide)) (fun h => h.elim (fun h => absurd h.2 (by first | exact gz_ne rfl | decide)) (fun h => absurd h.2 (by first | exact gz_ne rfl | decide)))))) (fun k => (g21 43 k).resolve_left (fun h => h.elim (fun h => absurd h.1 (by first | exact gz_ne rfl | decide)) (fun h => h.elim (fun h => absurd h.1 (by first | exact gz_ne rfl | decide)) (fun h => h.elim (fun h => absurd h.1 (by first | exact gz_ne rfl | decide)) (fun h => absurd h.1 (by first | exact gz_ne rfl | decide))))))
    have KTK_I24 : gc_TK I24 := And.intro V21_0 (And.intro V21_1 (And.intro V21_2 (And.intro V21_3 V21_4)))
    have t34 := gc_TK_mo KTK_I24
    clear V21_0 V21_1 V21_2 V21_3 V21_4
    have A35 := gc_AT_nx e7_11 q21.2.2.2
    have t36 := gc_AT_l A35
    refine gv_callV hD rfl (As := []) (st := []) rfl B_23 S_23 rfl (gc_lV6 hws rfl) (Nat.le_of_ble_eq_true rfl) (gz_Ev_mono (d := 2) (by exact gz_m 3 (by omega)) E21) ?_
    show gv_X _ _ (208, [(0, .inr (.inr (some 39)))], [], sh, gc_h sh I24 J25 A)
    refine gv_run 1 true hD (pc' := 209) (lv' := [(0, .inr (.inr (some 39)))]) (st' := [.inl 1]) (h' := gc_h sh I24 J25 A) (C := (True ∧ True)) rfl ⟨trivial, trivial⟩ ?_
    exact gv_zret hD rfl (by exact gz_m 4 (by omega)) ⟨I24, J25, rfl, hI24, FI24, FJ25, KLT_I24, KTK_I24, KTO_I24, ⟨_, rfl, by exact gz_m 5 (by omega), by exact gz_m 6 (by omega), by exact gz_m 7 (by omega), by exact gz_m 8 (by omega), by exact gz_m 9 (by omega), by exact gz_m 10 (by omega), by exact gz_m 11 (by omega), (Or.inr (gc_TD_fr e0_11 rfl (fun _ => rfl) (by exact gz_m 12 (by omega)) (fun k => ((g21 43 k).resolve_left (fun h => h.elim (fun h => absurd h.1 (by first | exact gz_ne rfl | decide)) (fun h => h.elim (fun h => absurd h.1 (by first | exact gz_ne rfl | decide)) (fun h => h.elim (fun h => absurd h.1 (by first | exact gz_ne rfl | decide)) (fun h => absurd h.1 (by first | exact gz_ne rfl | decide))))))))), by exact gz_m 13 (by omega), (gs_TQc_y e6_11 (by exact gz_m 14 (by omega)) (by exact gz_m 15 (by omega)) A35 (by exact gz_m 16 (by omega)))⟩⟩
  have L125 : ∀ (n9 : Nat) (v3_37 : Int), (42 - v3_37).toNat < n9 → ((0 ≤ v3_37 ∧ v3_37 ≤ 41) ∧ (I 39 12 ≤ I 23 5) ∧ (I 39 12 ≤ I 39 12) ∧ (b ≤ -3 - I 12 (Int.toNat a1)) ∧ (I 39 15 = I 39 15) ∧ (I 23 7 = 1) ∧ (v3_37 ≤ I 39 15) ∧ (I 23 1 = I 23 1) ∧ (I 23 5 ≤ I 23 5)) → gv_X (gc_E6 ws0 tb (6 + 2 * nr) (yX6_readAtom, cX6_readAtom, 4, (some .boolean)) kX6_readAtom) (gv_Q cX6_readAtom (some .boolean) sh (fun r h' => (∃ (I' : gr_I) (J' : gr_J), h' = gc_h sh I' J' A ∧ gc_Inv ro I' ∧ (∀ q j : Nat, ((q = 39 ∧ j = 3) ∨ (q = 39 ∧ j = 4) ∨ (q = 23 ∧ j = 5) ∨ (q = 23 ∧ j = 6) ∨ (q = 23 ∧ j = 7) ∨ (q = 23 ∧ j = 8) ∨ (q = 39 ∧ j = 12) ∨ (q = 39 ∧ j = 15) ∨ q = 43) ∨ I' q j = I q j) ∧ (∀ q j : Nat, ((q = 23 ∧ j = 9) ∨ q = 44 ∨ q = 45) ∨ J' q j = J q j) ∧ gc_LT I' ∧ gc_TK I' ∧ gc_TO b I' ∧ (∃ z : Int, r = some (.inl z) ∧ 0 ≤ z ∧ z ≤ 1 ∧ (I' 23 1 = I 23 1) ∧ (I 23 5 ≤ I' 23 5) ∧ (I' 39 12 ≤ I' 23 5) ∧ (z = 0 ∨ I' 39 15 = I 39 15) ∧ (I 39 12 ≤ I' 39 12) ∧ (gc_TE z I I') ∧ (z = 0 ∨ I 23 5 < I' 23 5) ∧ (gs_TQc β η (gs_tm β η nf9 m9 1 a2 p9) z I I' J'))))) (125, [(0, .inr (.inr (some 39))), (3, .inl v3_37)], [], sh, gc_h sh I J A) := by
    intro n9
    induction n9 with
    | zero => intro v3_37 hn; exact gz_m 17 (by omega)
    | succ n9 ih125 =>
      intro v3_37 hn m_37
      obtain ⟨hv3_37, e0_37, e1_37, e2_37, e3_37, e4_37, e5_37, e6_37, e7_37⟩ := m_37
      have t38 := gc_TK_mo KTK_I
      have f39 := (gc_b_3_1 hI R_23)
      have f40 := (gc_b_3_5 hI R_23)
      have f41 := (gc_b_3_6 hI R_23)
      have f42 := (gc_b_3_7 hI R_23)
      have f43 := (gc_b_42_12 hI R_39)
      have f44 := (gc_b_42_15 hI R_39)
      have f45 := (gc_b_3_8 hI R_23)
      have L163 : ((0 ≤ v3_37 ∧ v3_37 ≤ 41) ∧ (I 39 12 ≤ I 23 5) ∧ (I 39 12 ≤ I 39 12) ∧ (b ≤ -3 - I 12 (Int.toNat a1)) ∧ (I 39 15 = I 39 15) ∧ (I 23 7 = 1) ∧ (v3_37 ≤ I 39 15) ∧ (I 23 1 = I 23 1) ∧ (I 23 5 ≤ I 23 5)) → gv_X (gc_E6 ws0 tb (6 + 2 * nr) (yX6_readAtom, cX6_readAtom, 4, (some .boolean)) kX6_readAtom) (gv_Q cX6_readAtom (some .boolean) sh (fun r h' => (∃ (I' : gr_I) (J' : gr_J), h' = gc_h sh I' J' A ∧ gc_Inv ro I' ∧ (∀ q j : Nat, ((q = 39 ∧ j = 3) ∨ (q = 39 ∧ j = 4) ∨ (q = 23 ∧ j = 5) ∨ (q = 23 ∧ j = 6) ∨ (q = 23 ∧ j = 7) ∨ (q = 23 ∧ j = 8) ∨ (q = 39 ∧ j = 12) ∨ (q = 39 ∧ j = 15) ∨ q = 43) ∨ I' q j = I q j) ∧ (∀ q j : Nat, ((q = 23 ∧ j = 9) ∨ q = 44 ∨ q = 45) ∨ J' q j = J q j) ∧ gc_LT I' ∧ gc_TK I' ∧ gc_TO b I' ∧ (∃ z : Int, r = some (.inl z) ∧ 0 ≤ z ∧ z ≤ 1 ∧ (I' 23 1 = I 23 1) ∧ (I 23 5 ≤ I' 23 5) ∧ (I' 39 12 ≤ I' 23 5) ∧ (z = 0 ∨ I' 39 15 = I 39 15) ∧ (I 39 12 ≤ I' 39 12) ∧ (gc_TE z I I') ∧ (z = 0 ∨ I 23 5 < I' 23 5) ∧ (gs_TQc β η (gs_tm β η nf9 m9 1 a2 p9) z I I' J'))))) (163, [(0, .inr (.inr (some 39))), (3, .inl v3_37)], [], sh, gc_h sh I J A) := by
        intro m_46
        obtain ⟨hv3_37_46, e0_46, e1_46, e2_46, e3_46, e4_46, e5_46, e6_46, e7_46⟩ := m_46
        have t47 := gc_TK_mo KTK_I
        have f48 := (gc_b_3_1 hI R_23)
        have f49 := (gc_b_3_5 hI R_23)
        have f50 := (gc_b_3_6 hI R_23)
        have f51 := (gc_b_3_7 hI R_23)
        have f52 := (gc_b_42_12 hI R_39)
        have f53 := (gc_b_42_15 hI R_39)
        have f54 := (gc_b_3_8 hI R_23)
        refine gv_run 2 true hD (pc' := 165) (lv' := [(0, .inr (.inr (some 39))), (3, .inl v3_37)]) (st' := [.inr (.inr (some 39)), .inl v3_37]) (h' := gc_h sh I J A) (C := ((True ∧ True) ∧ True)) rfl ⟨⟨trivial, trivial⟩, trivial⟩ ?_
        have f55 := (gc_b_42_15 hI R_39)
        refine gv_get hD rfl rfl S_39 ⟨by decide, B_39⟩ (gc_hI S_39 rfl) ?_
        show gv_X _ _ (168, [(0, .inr (.inr (some 39))), (3, .inl v3_37)], [.inl (I 39 15), .inl v3_37], sh, gc_h sh I J A)
        refine gv_icmp_ge (t := 184) hD rfl rfl ⟨⟨by exact gz_m 18 (by omega), by exact gz_m 19 (by omega)⟩, ⟨by exact gz_m 20 (by omega), by exact gz_m 21 (by omega)⟩⟩ (fun c56 => ?_) (fun c56 => ?_)
        · show gv_X _ _ (184, [(0, .inr (.inr (some 39))), (3, .inl v3_37)], [], sh, gc_h sh I J A)
          refine gv_run 2 true hD (pc' := 186) (lv' := [(0, .inr (.inr (some 39))), (3, .inl v3_37)]) (st' := [.inr (.inr (some 39)), .inr (.inr (some 39))]) (h' := gc_h sh I J A) (C := ((True ∧ True) ∧ True)) rfl ⟨⟨trivial, trivial⟩, trivial⟩ ?_
          have f57 := (gc_b_42_12 hI R_39)
          refine gv_get hD rfl rfl S_39 ⟨by decide, B_39⟩ (gc_hI S_39 rfl) ?_
          show gv_X _ _ (189, [(0, .inr (.inr (some 39))), (3, .inl v3_37)], [.inl (I 39 12), .inr (.inr (some 39))], sh, gc_h sh I J A)
          refine gv_run 2 true hD (pc' := 192) (lv' := [(0, .inr (.inr (some 39))), (3, .inl v3_37)]) (st' := [.inr (.inr (some 39)), .inl (-3), .inl (I 39 12), .inr (.inr (some 39))]) (h' := gc_h sh I J A) (C := ((True ∧ True) ∧ True)) rfl ⟨⟨trivial, trivial⟩, trivial⟩ ?_
          refine gv_get hD rfl rfl S_39 ⟨by decide, B_39⟩ (gc_hA S_39 rfl A_39_1) ?_
          show gv_X _ _ (195, [(0, .inr (.inr (some 39))), (3, .inl v3_37)], [.inr (.inr (some 23)), .inl (-3), .inl (I 39 12), .inr (.inr (some 39))], sh, gc_h sh I J A)
          refine gv_get hD rfl rfl S_23 ⟨by decide, B_23⟩ (gc_hJ S_23 rfl) ?_
          show gv_X _ _ (198, [(0, .inr (.inr (some 39))), (3, .inl v3_37)], [.inr (.inl (J 23 9)), .inl (-3), .inl (I 39 12), .inr (.inr (some 39))], sh, gc_h sh I J A)
          obtain ⟨r58, h58, E58, P58⟩ := d_X6_putNode (ws0 := ws0) (tb := tb) hws htb sh ro I J A hI  b (I 39 12) (-3) (J 23 9) hb   ⟨by exact gz_m 22 (by omega), by exact gz_m 23 (by omega)⟩ ⟨by exact gz_m 24 (by omega), by exact gz_m 25 (by omega)⟩ (by exact gz_m 26 (by omega)) (by exact gz_m 27 (by omega)) (by exact gz_m 28 (by omega)) KTO_I
          obtain ⟨I59, J60, rfl, hI59, g58, k58, KTO_I59, ⟨rfl, q58⟩⟩ := P58
          have FI59 := gc_frc (W := fun q j => (q = 39 ∧ j = 3) ∨ (q = 39 ∧ j = 4) ∨ (q = 23 ∧ j = 5) ∨ (q = 23 ∧ j = 6) ∨ (q = 23 ∧ j = 7) ∨ (q = 23 ∧ j = 8) ∨ (q = 39 ∧ j = 12) ∨ (q = 39 ∧ j = 15) ∨ q = 43) (V := fun q j => (q = 39 ∧ j = 12) ∨ q = 43) FI (fun q j h => (h.elim (fun h => (Or.inr (Or.inr (Or.inr (Or.inr (Or.inr (Or.inr (Or.inl h)))))))) (fun h => (Or.inr (Or.inr (Or.inr (Or.inr (Or.inr (Or.inr (Or.inr (Or.inr h))))))))))) g58
          have FJ60 := gc_frc (W := fun q j => (q = 23 ∧ j = 9) ∨ q = 44 ∨ q = 45) (V := fun q j => q = 44) FJ (fun q j h => (Or.inr (Or.inl h))) k58
          have t61 := (g58 23 1).resolve_left (fun h => h.elim (fun h => absurd h.2 (by first | exact gz_ne rfl | decide)) (fun h => absurd h (by first | exact gz_ne rfl | decide)))
          have t62 := (g58 23 5).resolve_left (fun h => h.elim (fun h => absurd h.2 (by first | exact gz_ne rfl | decide)) (fun h => absurd h (by first | exact gz_ne rfl | decide)))
          have t63 := (g58 23 6).resolve_left (fun h => h.elim (fun h => absurd h.2 (by first | exact gz_ne rfl | decide)) (fun h => absurd h (by first | exact gz_ne rfl | decide)))
          have t64 := (g58 23 7).resolve_left (fun h => h.elim (fun h => absurd h.2 (by first | exact gz_ne rfl | decide)) (fun h => absurd h (by first | exact gz_ne rfl | decide)))
          have t65 := (g58 39 15).resolve_left (fun h => h.elim (fun h => absurd h.2 (by first | exact gz_ne rfl | decide)) (fun h => absurd h (by first | exact gz_ne rfl | decide)))
          have t66 := (g58 23 8).resolve_left (fun h => h.elim (fun h => absurd h.2 (by first | exact gz_ne rfl | decide)) (fun h => absurd h (by first | exact gz_ne rfl | decide)))
          have t67 := (g58 12 (Int.toNat a1)).resolve_left (fun h => h.elim (fun h => absurd h.1 (by first | exact gz_ne rfl | decide)) (fun h => absurd h (by first | exact gz_ne rfl | decide)))
          have f68 := (gc_b_42_12 hI59 R_39)
          have KLT_I59 := gc_LT_fr KLT_I ((g58 23 5).resolve_left (fun h => h.elim (fun h => absurd h.2 (by first | exact gz_ne rfl | decide)) (fun h => absurd h (by first | exact gz_ne rfl | decide)))) ((g58 23 6).resolve_left (fun h => h.elim (fun h => absurd h.2 (by first | exact gz_ne rfl | decide)) (fun h => absurd h (by first | exact gz_ne rfl | decide)))) ((g58 23 7).resolve_left (fun h => h.elim (fun h => absurd h.2 (by first | exact gz_ne rfl | decide)) (fun h => absurd h (by first | exact gz_ne rfl | decide)))) (fun k => (g58 24 k).resolve_left (fun h => h.elim (fun h => absurd h.1 (by first | exact gz_ne rfl | decide)) (fun h => absurd h (by first | exact gz_ne rfl | decide))))
          have KTK_I59 := gc_TK_fr KTK_I ((g58 23 1).resolve_left (fun h => h.elim (fun h => absurd h.2 (by first | exact gz_ne rfl | decide)) (fun h => absurd h (by first | exact gz_ne rfl | decide)))) ((g58 23 5).resolve_left (fun h => h.elim (fun h => absurd h.2 (by first | exact gz_ne rfl | decide)) (fun h => absurd h (by first | exact gz_ne rfl | decide)))) ((g58 23 6).resolve_left (fun h => h.elim (fun h => absurd h.2 (by first | exact gz_ne rfl | decide)) (fun h => absurd h (by first | exact gz_ne rfl | decide)))) ((g58 23 7).resolve_left (fun h => h.elim (fun h => absurd h.2 (by first | exact gz_ne rfl | decide)) (fun h => absurd h (by first | exact gz_ne rfl | decide))))
          have A69 := gc_AT_I x5 ((g58 23 1).resolve_left (fun h => h.elim (fun h => absurd h.2 (by first | exact gz_ne rfl | decide)) (fun h => absurd h (by first | exact gz_ne rfl | decide)))) ((g58 23 5).resolve_left (fun h => h.elim (fun h => absurd h.2 (by first | exact gz_ne rfl | decide)) (fun h => absurd h (by first | exact gz_ne rfl | decide)))) ((g58 23 6).resolve_left (fun h => h.elim (fun h => absurd h.2 (by first | exact gz_ne rfl | decide)) (fun h => absurd h (by first | exact gz_ne rfl | decide)))) ((g58 23 7).resolve_left (fun h => h.elim (fun h => absurd h.2 (by first | exact gz_ne rfl | decide)) (fun h => absurd h (by first | exact gz_ne rfl | decide)))) ((g58 23 8).resolve_left (fun h => h.elim (fun h => absurd h.2 (by first | exact gz_ne rfl | decide)) (fun h => absurd h (by first | exact gz_ne rfl | decide)))) (fun k => (g58 24 k).resolve_left (fun h => h.elim (fun h => absurd h.1 (by first | exact gz_ne rfl | decide)) (fun h => absurd h (by first | exact gz_ne rfl | decide))))
          have A70 := gc_AT_J A69 ((k58 23 9).resolve_left (fun h => absurd h (by first | exact gz_ne rfl | decide)))
          have t71 := gc_AT_l A70
          refine gv_callV hD rfl (As := [.inl (I 39 12), .inl (-3), .inr (.inl (J 23 9))]) (st := []) rfl B_39 S_39 rfl (gc_lV6 hws rfl) (Nat.le_of_ble_eq_true rfl) (gz_Ev_mono (d := 1) (by exact gz_m 29 (by omega)) E58) ?_
          show gv_X _ _ (201, [(0, .inr (.inr (some 39))), (3, .inl v3_37)], [], sh, gc_h sh I59 J60 A)
          refine gv_pick [0] rfl ?_
          exact L201 I59 J60 p9 hI59 FI59 FJ60 KLT_I59 KTK_I59 KTO_I59 (by exact gz_m 30 (by omega)) (gc_TD_one q58.2 (by exact gz_m 31 (by omega)) (by exact gz_m 32 (by omega)) (by exact gz_m 33 (by omega)) (by exact gz_m 34 (by omega))) (gs_at_n (by exact gz_m 35 (by omega)) (by exact gz_m 36 (by omega))) A70
        · show gv_X _ _ (171, [(0, .inr (.inr (some 39))), (3, .inl v3_37)], [], sh, gc_h sh I J A)
          refine gv_run 2 true hD (pc' := 173) (lv' := [(0, .inr (.inr (some 39))), (3, .inl v3_37)]) (st' := [.inr (.inr (some 39)), .inr (.inr (some 39))]) (h' := gc_h sh I J A) (C := ((True ∧ True) ∧ True)) rfl ⟨⟨trivial, trivial⟩, trivial⟩ ?_
          have f72 := (gc_b_42_12 hI R_39)
          refine gv_get hD rfl rfl S_39 ⟨by decide, B_39⟩ (gc_hI S_39 rfl) ?_
          show gv_X _ _ (176, [(0, .inr (.inr (some 39))), (3, .inl v3_37)], [.inl (I 39 12), .inr (.inr (some 39))], sh, gc_h sh I J A)
          refine gv_run 2 true hD (pc' := 178) (lv' := [(0, .inr (.inr (some 39))), (3, .inl v3_37)]) (st' := [.inr (.inl (Int64.ofNat 0)), .inl v3_37, .inl (I 39 12), .inr (.inr (some 39))]) (h' := gc_h sh I J A) (C := ((True ∧ True) ∧ True)) rfl ⟨⟨trivial, trivial⟩, trivial⟩ ?_
          obtain ⟨r73, h73, E73, P73⟩ := d_X6_putNode (ws0 := ws0) (tb := tb) hws htb sh ro I J A hI  b (I 39 12) v3_37 (Int64.ofNat 0) hb   ⟨by exact gz_m 37 (by omega), by exact gz_m 38 (by omega)⟩ ⟨by exact gz_m 39 (by omega), by exact gz_m 40 (by omega)⟩ (by exact gz_m 41 (by omega)) (by exact gz_m 42 (by omega)) (by exact gz_m 43 (by omega)) KTO_I
          obtain ⟨I74, J75, rfl, hI74, g73, k73, KTO_I74, ⟨rfl, q73⟩⟩ := P73
          have FI74 := gc_frc (W := fun q j => (q = 39 ∧ j = 3) ∨ (q = 39 ∧ j = 4) ∨ (q = 23 ∧ j = 5) ∨ (q = 23 ∧ j = 6) ∨ (q = 23 ∧ j = 7) ∨ (q = 23 ∧ j = 8) ∨ (q = 39 ∧ j = 12) ∨ (q = 39 ∧ j = 15) ∨ q = 43) (V := fun q j => (q = 39 ∧ j = 12) ∨ q = 43) FI (fun q j h => (h.elim (fun h => (Or.inr (Or.inr (Or.inr (Or.inr (Or.inr (Or.inr (Or.inl h)))))))) (fun h => (Or.inr (Or.inr (Or.inr (Or.inr (Or.inr (Or.inr (Or.inr (Or.inr h))))))))))) g73
          have FJ75 := gc_frc (W := fun q j => (q = 23 ∧ j = 9) ∨ q = 44 ∨ q = 45) (V := fun q j => q = 44) FJ (fun q j h => (Or.inr (Or.inl h))) k73
          have t76 := (g73 23 1).resolve_left (fun h => h.elim (fun h => absurd h.2 (by first | exact gz_ne rfl | decide)) (fun h => absurd h (by first | exact gz_ne rfl | decide)))
          have t77 := (g73 23 5).resolve_left (fun h => h.elim (fun h => absurd h.2 (by first | exact gz_ne rfl | decide)) (fun h => absurd h (by first | exact gz_ne rfl | decide)))
          have t78 := (g73 23 6).resolve_left (fun h => h.elim (fun h => absurd h.2 (by first | exact gz_ne rfl | decide)) (fun h => absurd h (by first | exact gz_ne rfl | decide)))
          have t79 := (g73 23 7).resolve_left (fun h => h.elim (fun h => absurd h.2 (by first | exact gz_ne rfl | decide)) (fun h => absurd h (by first | exact gz_ne rfl | decide)))
          have t80 := (g73 39 15).resolve_left (fun h => h.elim (fun h => absurd h.2 (by first | exact gz_ne rfl | decide)) (fun h => absurd h (by first | exact gz_ne rfl | decide)))
          have t81 := (g73 23 8).resolve_left (fun h => h.elim (fun h => absurd h.2 (by first | exact gz_ne rfl | decide)) (fun h => absurd h (by first | exact gz_ne rfl | decide)))
          have t82 := (g73 12 (Int.toNat a1)).resolve_left (fun h => h.elim (fun h => absurd h.1 (by first | exact gz_ne rfl | decide)) (fun h => absurd h (by first | exact gz_ne rfl | decide)))
          have f83 := (gc_b_42_12 hI74 R_39)
          have KLT_I74 := gc_LT_fr KLT_I ((g73 23 5).resolve_left (fun h => h.elim (fun h => absurd h.2 (by first | exact gz_ne rfl | decide)) (fun h => absurd h (by first | exact gz_ne rfl | decide)))) ((g73 23 6).resolve_left (fun h => h.elim (fun h => absurd h.2 (by first | exact gz_ne rfl | decide)) (fun h => absurd h (by first | exact gz_ne rfl | decide)))) ((g73 23 7).resolve_left (fun h => h.elim (fun h => absurd h.2 (by first | exact gz_ne rfl | decide)) (fun h => absurd h (by first | exact gz_ne rfl | decide)))) (fun k => (g73 24 k).resolve_left (fun h => h.elim (fun h => absurd h.1 (by first | exact gz_ne rfl | decide)) (fun h => absurd h (by first | exact gz_ne rfl | decide))))
          have KTK_I74 := gc_TK_fr KTK_I ((g73 23 1).resolve_left (fun h => h.elim (fun h => absurd h.2 (by first | exact gz_ne rfl | decide)) (fun h => absurd h (by first | exact gz_ne rfl | decide)))) ((g73 23 5).resolve_left (fun h => h.elim (fun h => absurd h.2 (by first | exact gz_ne rfl | decide)) (fun h => absurd h (by first | exact gz_ne rfl | decide)))) ((g73 23 6).resolve_left (fun h => h.elim (fun h => absurd h.2 (by first | exact gz_ne rfl | decide)) (fun h => absurd h (by first | exact gz_ne rfl | decide)))) ((g73 23 7).resolve_left (fun h => h.elim (fun h => absurd h.2 (by first | exact gz_ne rfl | decide)) (fun h => absurd h (by first | exact gz_ne rfl | decide))))
          have A84 := gc_AT_I x5 ((g73 23 1).resolve_left (fun h => h.elim (fun h => absurd h.2 (by first | exact gz_ne rfl | decide)) (fun h => absurd h (by first | exact gz_ne rfl | decide)))) ((g73 23 5).resolve_left (fun h => h.elim (fun h => absurd h.2 (by first | exact gz_ne rfl | decide)) (fun h => absurd h (by first | exact gz_ne rfl | decide)))) ((g73 23 6).resolve_left (fun h => h.elim (fun h => absurd h.2 (by first | exact gz_ne rfl | decide)) (fun h => absurd h (by first | exact gz_ne rfl | decide)))) ((g73 23 7).resolve_left (fun h => h.elim (fun h => absurd h.2 (by first | exact gz_ne rfl | decide)) (fun h => absurd h (by first | exact gz_ne rfl | decide)))) ((g73 23 8).resolve_left (fun h => h.elim (fun h => absurd h.2 (by first | exact gz_ne rfl | decide)) (fun h => absurd h (by first | exact gz_ne rfl | decide)))) (fun k => (g73 24 k).resolve_left (fun h => h.elim (fun h => absurd h.1 (by first | exact gz_ne rfl | decide)) (fun h => absurd h (by first | exact gz_ne rfl | decide))))
          have A85 := gc_AT_J A84 ((k73 23 9).resolve_left (fun h => absurd h (by first | exact gz_ne rfl | decide)))
          have t86 := gc_AT_l A85
          refine gv_callV hD rfl (As := [.inl (I 39 12), .inl v3_37, .inr (.inl (Int64.ofNat 0))]) (st := []) rfl B_39 S_39 rfl (gc_lV6 hws rfl) (Nat.le_of_ble_eq_true rfl) (gz_Ev_mono (d := 1) (by exact gz_m 44 (by omega)) E73) ?_
          show gv_X _ _ (181, [(0, .inr (.inr (some 39))), (3, .inl v3_37)], [], sh, gc_h sh I74 J75 A)
          refine gv_run 1 true hD (pc' := 201) (lv' := [(0, .inr (.inr (some 39))), (3, .inl v3_37)]) (st' := []) (h' := gc_h sh I74 J75 A) (C := (True ∧ True)) rfl ⟨trivial, trivial⟩ ?_
          refine gv_pick [0] rfl ?_
          exact L201 I74 J75 p9 hI74 FI74 FJ75 KLT_I74 KTK_I74 KTO_I74 (by exact gz_m 45 (by omega)) (gc_TD_one q73.2 (by exact gz_m 46 (by omega)) (by exact gz_m 47 (by omega)) (by exact gz_m 48 (by omega)) (by exact gz_m 49 (by omega))) (gs_at_n (by exact gz_m 50 (by omega)) (by exact gz_m 51 (by omega))) A85
      refine gv_run 2 true hD (pc' := 127) (lv' := [(0, .inr (.inr (some 39))), (3, .inl v3_37)]) (st' := [.inr (.inr (some 39)), .inl v3_37]) (h' := gc_h sh I J A) (C := ((True ∧ True) ∧ True)) rfl ⟨⟨trivial, trivial⟩, trivial⟩ ?_
      have f87 := (gc_b_42_15 hI R_39)
      refine gv_get hD rfl rfl S_39 ⟨by decide, B_39⟩ (gc_hI S_39 rfl) ?_
      show gv_X _ _ (130, [(0, .inr (.inr (some 39))), (3, .inl v3_37)], [.inl (I 39 15), .inl v3_37], sh, gc_h sh I J A)
      refine gv_icmp_ge (t := 163) hD rfl rfl ⟨⟨by exact gz_m 52 (by omega), by exact gz_m 53 (by omega)⟩, ⟨by exact gz_m 54 (by omega), by exact gz_m 55 (by omega)⟩⟩ (fun c88 => ?_) (fun c88 => ?_)
      · show gv_X _ _ (163, [(0, .inr (.inr (some 39))), (3, .inl v3_37)], [], sh, gc_h sh I J A)
        exact L163 (by exact gz_m 56 (by omega))
      · show gv_X _ _ (133, [(0, .inr (.inr (some 39))), (3, .inl v3_37)], [], sh, gc_h sh I J A)
        refine gv_run 1 true hD (pc' := 134) (lv' := [(0, .inr (.inr (some 39))), (3, .inl v3_37)]) (st' := [.inr (.inr (some 39))]) (h' := gc_h sh I J A) (C := (True ∧ True)) rfl ⟨trivial, trivial⟩ ?_
        refine gv_get hD rfl rfl S_39 ⟨by decide, B_39⟩ (gc_hA S_39 rfl A_39_16) ?_
        show gv_X _ _ (137, [(0, .inr (.inr (some 39))), (3, .inl v3_37)], [.inr (.inr (some 45))], sh, gc_h sh I J A)
        refine gv_run 1 true hD (pc' := 138) (lv' := [(0, .inr (.inr (some 39))), (3, .inl v3_37)]) (st' := [.inr (.inr (some 39)), .inr (.inr (some 45))]) (h' := gc_h sh I J A) (C := (True ∧ True)) rfl ⟨trivial, trivial⟩ ?_
        have f89 := (gc_b_42_15 hI R_39)
        refine gv_get hD rfl rfl S_39 ⟨by decide, B_39⟩ (gc_hI S_39 rfl) ?_
        show gv_X _ _ (141, [(0, .inr (.inr (some 39))), (3, .inl v3_37)], [.inl (I 39 15), .inr (.inr (some 45))], sh, gc_h sh I J A)
        refine gv_run 4 true hD (pc' := 145) (lv' := [(0, .inr (.inr (some 39))), (3, .inl v3_37)]) (st' := [.inl (((I 39 15) - 1) - v3_37), .inr (.inr (some 45))]) (h' := gc_h sh I J A) (C := ((((True ∧ True) ∧ True) ∧ True) ∧ True)) rfl ⟨⟨⟨⟨trivial, trivial⟩, trivial⟩, trivial⟩, trivial⟩ ?_
        refine gv_lald hD rfl S_45 rfl ⟨by decide, B_45⟩ ⟨by exact gz_m 57 (by omega), by exact gz_m 58 (by omega)⟩ (gc_jJ S_45 rfl) ?_
        show gv_X _ _ (146, [(0, .inr (.inr (some 39))), (3, .inl v3_37)], [.inr (.inl (J 45 (Int.toNat ((((I 39 15) - 1) - v3_37)))))], sh, gc_h sh I J A)
        refine gv_run 1 true hD (pc' := 147) (lv' := [(0, .inr (.inr (some 39))), (3, .inl v3_37)]) (st' := [.inr (.inr (some 39)), .inr (.inl (J 45 (Int.toNat ((((I 39 15) - 1) - v3_37)))))]) (h' := gc_h sh I J A) (C := (True ∧ True)) rfl ⟨trivial, trivial⟩ ?_
        refine gv_get hD rfl rfl S_39 ⟨by decide, B_39⟩ (gc_hA S_39 rfl A_39_1) ?_
        show gv_X _ _ (150, [(0, .inr (.inr (some 39))), (3, .inl v3_37)], [.inr (.inr (some 23)), .inr (.inl (J 45 (Int.toNat ((((I 39 15) - 1) - v3_37)))))], sh, gc_h sh I J A)
        refine gv_get hD rfl rfl S_23 ⟨by decide, B_23⟩ (gc_hJ S_23 rfl) ?_
        show gv_X _ _ (153, [(0, .inr (.inr (some 39))), (3, .inl v3_37)], [.inr (.inl (J 23 9)), .inr (.inl (J 45 (Int.toNat ((((I 39 15) - 1) - v3_37)))))], sh, gc_h sh I J A)
        have f90 := gw_cmp ((J 45 (Int.toNat ((((I 39 15) - 1) - v3_37))))) ((J 23 9))
        refine gv_run 1 true hD (pc' := 154) (lv' := [(0, .inr (.inr (some 39))), (3, .inl v3_37)]) (st' := [.inl ((lg_cmp ((J 45 (Int.toNat ((((I 39 15) - 1) - v3_37))))) ((J 23 9))).toInt)]) (h' := gc_h sh I J A) (C := (True ∧ True)) rfl ⟨trivial, trivial⟩ ?_
        refine gv_if_eq (t := 163) hD rfl rfl ⟨by exact gz_m 59 (by omega), by exact gz_m 60 (by omega)⟩ (fun c91 => ?_) (fun c91 => ?_)
        · show gv_X _ _ (163, [(0, .inr (.inr (some 39))), (3, .inl v3_37)], [], sh, gc_h sh I J A)
          have j91 := gs_cmp0 (a := (J 45 (Int.toNat ((((I 39 15) - 1) - v3_37))))) (b := (J 23 9)) (by exact gz_m 61 (by omega))
          exact L163 (by exact gz_m 62 (by omega))
        · show gv_X _ _ (157, [(0, .inr (.inr (some 39))), (3, .inl v3_37)], [], sh, gc_h sh I J A)
          have j91 := gs_cmpn (a := (J 45 (Int.toNat ((((I 39 15) - 1) - v3_37))))) (b := (J 23 9)) (by exact gz_m 63 (by omega))
          refine gv_run 2 true hD (pc' := 125) (lv' := [(3, .inl (v3_37 + 1)), (0, .inr (.inr (some 39)))]) (st' := []) (h' := gc_h sh I J A) (C := ((True ∧ True) ∧ True)) rfl ⟨⟨trivial, trivial⟩, trivial⟩ ?_
          refine gv_pick [1, 0] rfl ?_
          exact ih125 (v3_37 + 1) (by exact gz_m 64 (by omega)) (by exact gz_m 65 (by omega))
  refine gv_run 1 true hD (pc' := 1) (lv' := [(0, .inr (.inr (some 39))), (1, .inl a1), (2, .inl a2)]) (st' := [.inr (.inr (some 39))]) (h' := gc_h sh I J A) (C := (True ∧ True)) rfl ⟨trivial, trivial⟩ ?_
  refine gv_get hD rfl rfl S_39 ⟨by decide, B_39⟩ (gc_hA S_39 rfl A_39_1) ?_
  show gv_X _ _ (4, [(0, .inr (.inr (some 39))), (1, .inl a1), (2, .inl a2)], [.inr (.inr (some 23))], sh, gc_h sh I J A)
  have f92 := (gc_b_3_7 hI R_23)
  refine gv_get hD rfl rfl S_23 ⟨by decide, B_23⟩ (gc_hI S_23 rfl) ?_
  show gv_X _ _ (7, [(0, .inr (.inr (some 39))), (1, .inl a1), (2, .inl a2)], [.inl (I 23 7)], sh, gc_h sh I J A)
  refine gv_run 1 true hD (pc' := 9) (lv' := [(0, .inr (.inr (some 39))), (1, .inl a1), (2, .inl a2)]) (st' := [.inl 40, .inl (I 23 7)]) (h' := gc_h sh I J A) (C := (True ∧ True)) rfl ⟨trivial, trivial⟩ ?_
  refine gv_icmp_ne (t := 45) hD rfl rfl ⟨⟨by exact gz_m 66 (by omega), by exact gz_m 67 (by omega)⟩, ⟨by exact gz_m 68 (by omega), by exact gz_m 69 (by omega)⟩⟩ (fun c93 => ?_) (fun c93 => ?_)
  · show gv_X _ _ (45, [(0, .inr (.inr (some 39))), (1, .inl a1), (2, .inl a2)], [], sh, gc_h sh I J A)
    refine gv_run 1 true hD (pc' := 46) (lv' := [(0, .inr (.inr (some 39))), (1, .inl a1), (2, .inl a2)]) (st' := [.inr (.inr (some 39))]) (h' := gc_h sh I J A) (C := (True ∧ True)) rfl ⟨trivial, trivial⟩ ?_
    refine gv_get hD rfl rfl S_39 ⟨by decide, B_39⟩ (gc_hA S_39 rfl A_39_1) ?_
    show gv_X _ _ (49, [(0, .inr (.inr (some 39))), (1, .inl a1), (2, .inl a2)], [.inr (.inr (some 23))], sh, gc_h sh I J A)
    have f94 := (gc_b_3_7 hI R_23)
    refine gv_get hD rfl rfl S_23 ⟨by decide, B_23⟩ (gc_hI S_23 rfl) ?_
    show gv_X _ _ (52, [(0, .inr (.inr (some 39))), (1, .inl a1), (2, .inl a2)], [.inl (I 23 7)], sh, gc_h sh I J A)
    refine gv_run 1 true hD (pc' := 53) (lv' := [(0, .inr (.inr (some 39))), (1, .inl a1), (2, .inl a2)]) (st' := [.inl 2, .inl (I 23 7)]) (h' := gc_h sh I J A) (C := (True ∧ True)) rfl ⟨trivial, trivial⟩ ?_
    refine gv_icmp_ne (t := 123) hD rfl rfl ⟨⟨by exact gz_m 70 (by omega), by exact gz_m 71 (by omega)⟩, ⟨by exact gz_m 72 (by omega), by exact gz_m 73 (by omega)⟩⟩ (fun c95 => ?_) (fun c95 => ?_)
    · show gv_X _ _ (123, [(0, .inr (.inr (some 39))), (1, .inl a1), (2, .inl a2)], [], sh, gc_h sh I J A)
      refine gv_run 2 true hD (pc' := 125) (lv' := [(3, .inl 0), (0, .inr (.inr (some 39))), (1, .inl a1), (2, .inl a2)]) (st' := []) (h' := gc_h sh I J A) (C := ((True ∧ True) ∧ True)) rfl ⟨⟨trivial, trivial⟩, trivial⟩ ?_
      refine gv_pick [1, 0] rfl ?_
      exact L125 _ 0 (Nat.lt_succ_self _) (by exact gz_m 74 (by omega))
    · show gv_X _ _ (56, [(0, .inr (.inr (some 39))), (1, .inl a1), (2, .inl a2)], [], sh, gc_h sh I J A)
      refine gv_run 1 true hD (pc' := 57) (lv' := [(0, .inr (.inr (some 39))), (1, .inl a1), (2, .inl a2)]) (st' := [.inr (.inr (some 39))]) (h' := gc_h sh I J A) (C := (True ∧ True)) rfl ⟨trivial, trivial⟩ ?_
      refine gv_get hD rfl rfl S_39 ⟨by decide, B_39⟩ (gc_hA S_39 rfl A_39_1) ?_
      show gv_X _ _ (60, [(0, .inr (.inr (some 39))), (1, .inl a1), (2, .inl a2)], [.inr (.inr (some 23))], sh, gc_h sh I J A)
      have f96 := (gc_b_3_8 hI R_23)
      refine gv_get hD rfl rfl S_23 ⟨by decide, B_23⟩ (gc_hI S_23 rfl) ?_
      show gv_X _ _ (63, [(0, .inr (.inr (some 39))), (1, .inl a1), (2, .inl a2)], [.inl (I 23 8)], sh, gc_h sh I J A)
      have t97 := (gc_AT_v x5 (by exact gz_m 75 (by omega)))
      refine gv_run 1 true hD (pc' := 64) (lv' := [(0, .inr (.inr (some 39))), (1, .inl a1), (2, .inl a2)]) (st' := [.inl 1, .inl (I 23 8)]) (h' := gc_h sh I J A) (C := (True ∧ True)) rfl ⟨trivial, trivial⟩ ?_
      refine gv_icmp_lt (t := 86) hD rfl rfl ⟨⟨by exact gz_m 76 (by omega), by exact gz_m 77 (by omega)⟩, ⟨by exact gz_m 78 (by omega), by exact gz_m 79 (by omega)⟩⟩ (fun c98 => ?_) (fun c98 => ?_)
      · show gv_X _ _ (86, [(0, .inr (.inr (some 39))), (1, .inl a1), (2, .inl a2)], [], sh, gc_h sh I J A)
        refine gv_run 3 true hD (pc' := 89) (lv' := [(0, .inr (.inr (some 39))), (1, .inl a1), (2, .inl a2)]) (st' := [.inr (.inr (some 39)), .inl 5, .inr (.inr (some 39))]) (h' := gc_h sh I J A) (C := (((True ∧ True) ∧ True) ∧ True)) rfl ⟨⟨⟨trivial, trivial⟩, trivial⟩, trivial⟩ ?_
        refine gv_get hD rfl rfl S_39 ⟨by decide, B_39⟩ (gc_hA S_39 rfl A_39_1) ?_
        show gv_X _ _ (92, [(0, .inr (.inr (some 39))), (1, .inl a1), (2, .inl a2)], [.inr (.inr (some 23)), .inl 5, .inr (.inr (some 39))], sh, gc_h sh I J A)
        have f99 := (gc_b_3_5 hI R_23)
        refine gv_get hD rfl rfl S_23 ⟨by decide, B_23⟩ (gc_hI S_23 rfl) ?_
        show gv_X _ _ (95, [(0, .inr (.inr (some 39))), (1, .inl a1), (2, .inl a2)], [.inl (I 23 5), .inl 5, .inr (.inr (some 39))], sh, gc_h sh I J A)
        obtain ⟨r100, h100, E100, P100⟩ := d_X6_wrong_p (ws0 := ws0) (tb := tb) hws htb sh ro I J A hI  5 (I 23 5) hb   ⟨by exact gz_m 80 (by omega), by exact gz_m 81 (by omega)⟩ ⟨by exact gz_m 82 (by omega), by exact gz_m 83 (by omega)⟩  
        obtain ⟨I101, J102, rfl, hI101, g100, k100, ⟨z100, rfl, q100⟩⟩ := P100
        have FI101 := gc_frc (W := fun q j => (q = 39 ∧ j = 3) ∨ (q = 39 ∧ j = 4) ∨ (q = 23 ∧ j = 5) ∨ (q = 23 ∧ j = 6) ∨ (q = 23 ∧ j = 7) ∨ (q = 23 ∧ j = 8) ∨ (q = 39 ∧ j = 12) ∨ (q = 39 ∧ j = 15) ∨ q = 43) (V := fun q j => (q = 39 ∧ j = 3) ∨ (q = 39 ∧ j = 4)) FI (fun q j h => (h.elim (fun h => (Or.inl h)) (fun h => (Or.inr (Or.inl h))))) g100
        have t103 := (g100 23 1).resolve_left (fun h => h.elim (fun h => absurd h.2 (by first | exact gz_ne rfl | decide)) (fun h => absurd h.2 (by first | exact gz_ne rfl | decide)))
        have t104 := (g100 23 5).resolve_left (fun h => h.elim (fun h => absurd h.2 (by first | exact gz_ne rfl | decide)) (fun h => absurd h.2 (by first | exact gz_ne rfl | decide)))
        have t105 := (g100 23 6).resolve_left (fun h => h.elim (fun h => absurd h.2 (by first | exact gz_ne rfl | decide)) (fun h => absurd h.2 (by first | exact gz_ne rfl | decide)))
        have t106 := (g100 23 7).resolve_left (fun h => h.elim (fun h => absurd h.2 (by first | exact gz_ne rfl | decide)) (fun h => absurd h.2 (by first | exact gz_ne rfl | decide)))
        have t107 := (g100 39 12).resolve_left (fun h => h.elim (fun h => absurd h.2 (by first | exact gz_ne rfl | decide)) (fun h => absurd h.2 (by first | exact gz_ne rfl | decide)))
        have t108 := (g100 39 15).resolve_left (fun h => h.elim (fun h => absurd h.2 (by first | exact gz_ne rfl | decide)) (fun h => absurd h.2 (by first | exact gz_ne rfl | decide)))
        have t109 := (g100 23 8).resolve_left (fun h => h.elim (fun h => absurd h.2 (by first | exact gz_ne rfl | decide)) (fun h => absurd h.2 (by first | exact gz_ne rfl | decide)))
        have t110 := (g100 12 (Int.toNat a1)).resolve_left (fun h => h.elim (fun h => absurd h.1 (by first | exact gz_ne rfl | decide)) (fun h => absurd h.1 (by first | exact gz_ne rfl | decide)))
        obtain rfl : J = J102 := funext fun q => funext fun j => ((k100 q j).resolve_left id).symm
        have KLT_I101 := gc_LT_fr KLT_I ((g100 23 5).resolve_left (fun h => h.elim (fun h => absurd h.2 (by first | exact gz_ne rfl | decide)) (fun h => absurd h.2 (by first | exact gz_ne rfl | decide)))) ((g100 23 6).resolve_left (fun h => h.elim (fun h => absurd h.2 (by first | exact gz_ne rfl | decide)) (fun h => absurd h.2 (by first | exact gz_ne rfl | decide)))) ((g100 23 7).resolve_left (fun h => h.elim (fun h => absurd h.2 (by first | exact gz_ne rfl | decide)) (fun h => absurd h.2 (by first | exact gz_ne rfl | decide)))) (fun k => (g100 24 k).resolve_left (fun h => h.elim (fun h => absurd h.1 (by first | exact gz_ne rfl | decide)) (fun h => absurd h.1 (by first | exact gz_ne rfl | decide))))
        have KTK_I101 := gc_TK_fr KTK_I ((g100 23 1).resolve_left (fun h => h.elim (fun h => absurd h.2 (by first | exact gz_ne rfl | decide)) (fun h => absurd h.2 (by first | exact gz_ne rfl | decide)))) ((g100 23 5).resolve_left (fun h => h.elim (fun h => absurd h.2 (by first | exact gz_ne rfl | decide)) (fun h => absurd h.2 (by first | exact gz_ne rfl | decide)))) ((g100 23 6).resolve_left (fun h => h.elim (fun h => absurd h.2 (by first | exact gz_ne rfl | decide)) (fun h => absurd h.2 (by first | exact gz_ne rfl | decide)))) ((g100 23 7).resolve_left (fun h => h.elim (fun h => absurd h.2 (by first | exact gz_ne rfl | decide)) (fun h => absurd h.2 (by first | exact gz_ne rfl | decide))))
        have KTO_I101 := gc_TO_fr KTO_I ((g100 39 12).resolve_left (fun h => h.elim (fun h => absurd h.2 (by first | exact gz_ne rfl | decide)) (fun h => absurd h.2 (by first | exact gz_ne rfl | decide)))) (fun k => (g100 43 k).resolve_left (fun h => h.elim (fun h => absurd h.1 (by first | exact gz_ne rfl | decide)) (fun h => absurd h.1 (by first | exact gz_ne rfl | decide))))
        have A111 := gc_AT_I x5 ((g100 23 1).resolve_left (fun h => h.elim (fun h => absurd h.2 (by first | exact gz_ne rfl | decide)) (fun h => absurd h.2 (by first | exact gz_ne rfl | decide)))) ((g100 23 5).resolve_left (fun h => h.elim (fun h => absurd h.2 (by first | exact gz_ne rfl | decide)) (fun h => absurd h.2 (by first | exact gz_ne rfl | decide)))) ((g100 23 6).resolve_left (fun h => h.elim (fun h => absurd h.2 (by first | exact gz_ne rfl | decide)) (fun h => absurd h.2 (by first | exact gz_ne rfl | decide)))) ((g100 23 7).resolve_left (fun h => h.elim (fun h => absurd h.2 (by first | exact gz_ne rfl | decide)) (fun h => absurd h.2 (by first | exact gz_ne rfl | decide)))) ((g100 23 8).resolve_left (fun h => h.elim (fun h => absurd h.2 (by first | exact gz_ne rfl | decide)) (fun h => absurd h.2 (by first | exact gz_ne rfl | decide)))) (fun k => (g100 24 k).resolve_left (fun h => h.elim (fun h => absurd h.1 (by first | exact gz_ne rfl | decide)) (fun h => absurd h.1 (by first | exact gz_ne rfl | decide))))
        have t112 := gc_AT_l A111
        refine gv_callV hD rfl (As := [.inl 5, .inl (I 23 5)]) (st := []) rfl B_39 S_39 rfl (gc_lV6 hws rfl) (Nat.le_of_ble_eq_true rfl) (gz_Ev_mono (d := 1) (by exact gz_m 84 (by omega)) E100) ?_
        show gv_X _ _ (98, [(0, .inr (.inr (some 39))), (1, .inl a1), (2, .inl a2)], [.inl z100], sh, gc_h sh I101 J A)
        exact gv_zret hD rfl (by exact gz_m 85 (by omega)) ⟨I101, J, rfl, hI101, FI101, FJ, KLT_I101, KTK_I101, KTO_I101, ⟨_, rfl, by exact gz_m 86 (by omega), by exact gz_m 87 (by omega), by exact gz_m 88 (by omega), by exact gz_m 89 (by omega), by exact gz_m 90 (by omega), by exact gz_m 91 (by omega), by exact gz_m 92 (by omega), (Or.inl (by exact gz_m 93 (by omega))), by exact gz_m 94 (by omega), (gs_TQc_n (gs_at_b (by exact gz_m 95 (by omega)) (by exact gz_m 96 (by omega)) (by exact gz_m 97 (by omega))) (by exact gz_m 98 (by omega)) (by exact gz_m 99 (by omega)) (by exact gz_m 100 (by omega)))⟩⟩
      · show gv_X _ _ (67, [(0, .inr (.inr (some 39))), (1, .inl a1), (2, .inl a2)], [], sh, gc_h sh I J A)
        refine gv_run 1 true hD (pc' := 68) (lv' := [(0, .inr (.inr (some 39))), (1, .inl a1), (2, .inl a2)]) (st' := [.inr (.inr (some 39))]) (h' := gc_h sh I J A) (C := (True ∧ True)) rfl ⟨trivial, trivial⟩ ?_
        refine gv_get hD rfl rfl S_39 ⟨by decide, B_39⟩ (gc_hA S_39 rfl A_39_1) ?_
        show gv_X _ _ (71, [(0, .inr (.inr (some 39))), (1, .inl a1), (2, .inl a2)], [.inr (.inr (some 23))], sh, gc_h sh I J A)
        have f113 := (gc_b_3_8 hI R_23)
        refine gv_get hD rfl rfl S_23 ⟨by decide, B_23⟩ (gc_hI S_23 rfl) ?_
        show gv_X _ _ (74, [(0, .inr (.inr (some 39))), (1, .inl a1), (2, .inl a2)], [.inl (I 23 8)], sh, gc_h sh I J A)
        refine gv_run 1 true hD (pc' := 75) (lv' := [(0, .inr (.inr (some 39))), (1, .inl a1), (2, .inl a2)]) (st' := [.inr (.inr (some 39)), .inl (I 23 8)]) (h' := gc_h sh I J A) (C := (True ∧ True)) rfl ⟨trivial, trivial⟩ ?_
        refine gv_get hD rfl rfl S_39 ⟨by decide, B_39⟩ (gc_hA S_39 rfl A_39_0) ?_
        show gv_X _ _ (78, [(0, .inr (.inr (some 39))), (1, .inl a1), (2, .inl a2)], [.inr (.inr (some 1)), .inl (I 23 8)], sh, gc_h sh I J A)
        refine gv_get hD rfl rfl S_1 ⟨by decide, B_1⟩ (gc_hA S_1 rfl A_1_7) ?_
        show gv_X _ _ (81, [(0, .inr (.inr (some 39))), (1, .inl a1), (2, .inl a2)], [.inr (.inr (some 12)), .inl (I 23 8)], sh, gc_h sh I J A)
        refine gv_run 1 true hD (pc' := 82) (lv' := [(0, .inr (.inr (some 39))), (1, .inl a1), (2, .inl a2)]) (st' := [.inl a1, .inr (.inr (some 12)), .inl (I 23 8)]) (h' := gc_h sh I J A) (C := (True ∧ True)) rfl ⟨trivial, trivial⟩ ?_
        have f114 := (gc_b_26 hI R_12 (Int.toNat a1))
        refine gv_iald hD rfl S_12 rfl ⟨by decide, B_12⟩ ⟨by exact gz_m 101 (by omega), by exact gz_m 102 (by omega)⟩ (gc_iI S_12 rfl) ?_
        show gv_X _ _ (83, [(0, .inr (.inr (some 39))), (1, .inl a1), (2, .inl a2)], [.inl (I 12 (Int.toNat a1)), .inl (I 23 8)], sh, gc_h sh I J A)
        refine gv_icmp_le (t := 99) hD rfl rfl ⟨⟨by exact gz_m 103 (by omega), by exact gz_m 104 (by omega)⟩, ⟨by exact gz_m 105 (by omega), by exact gz_m 106 (by omega)⟩⟩ (fun c115 => ?_) (fun c115 => ?_)
        · show gv_X _ _ (99, [(0, .inr (.inr (some 39))), (1, .inl a1), (2, .inl a2)], [], sh, gc_h sh I J A)
          refine gv_run 2 true hD (pc' := 101) (lv' := [(0, .inr (.inr (some 39))), (1, .inl a1), (2, .inl a2)]) (st' := [.inr (.inr (some 39)), .inr (.inr (some 39))]) (h' := gc_h sh I J A) (C := ((True ∧ True) ∧ True)) rfl ⟨⟨trivial, trivial⟩, trivial⟩ ?_
          have f116 := (gc_b_42_12 hI R_39)
          refine gv_get hD rfl rfl S_39 ⟨by decide, B_39⟩ (gc_hI S_39 rfl) ?_
          show gv_X _ _ (104, [(0, .inr (.inr (some 39))), (1, .inl a1), (2, .inl a2)], [.inl (I 39 12), .inr (.inr (some 39))], sh, gc_h sh I J A)
          refine gv_run 2 true hD (pc' := 107) (lv' := [(0, .inr (.inr (some 39))), (1, .inl a1), (2, .inl a2)]) (st' := [.inr (.inr (some 39)), .inl (-4), .inl (I 39 12), .inr (.inr (some 39))]) (h' := gc_h sh I J A) (C := ((True ∧ True) ∧ True)) rfl ⟨⟨trivial, trivial⟩, trivial⟩ ?_
          refine gv_get hD rfl rfl S_39 ⟨by decide, B_39⟩ (gc_hA S_39 rfl A_39_1) ?_
          show gv_X _ _ (110, [(0, .inr (.inr (some 39))), (1, .inl a1), (2, .inl a2)], [.inr (.inr (some 23)), .inl (-4), .inl (I 39 12), .inr (.inr (some 39))], sh, gc_h sh I J A)
          have f117 := (gc_b_3_8 hI R_23)
          refine gv_get hD rfl rfl S_23 ⟨by decide, B_23⟩ (gc_hI S_23 rfl) ?_
          show gv_X _ _ (113, [(0, .inr (.inr (some 39))), (1, .inl a1), (2, .inl a2)], [.inl (I 23 8), .inl (-4), .inl (I 39 12), .inr (.inr (some 39))], sh, gc_h sh I J A)
          refine gv_run 4 true hD (pc' := 117) (lv' := [(0, .inr (.inr (some 39))), (1, .inl a1), (2, .inl a2)]) (st' := [.inr (.inl (Int64.ofNat 0)), .inl (((-4) - (I 23 8)) + 1), .inl (I 39 12), .inr (.inr (some 39))]) (h' := gc_h sh I J A) (C := ((((True ∧ True) ∧ True) ∧ True) ∧ True)) rfl ⟨⟨⟨⟨trivial, trivial⟩, trivial⟩, trivial⟩, trivial⟩ ?_
          obtain ⟨r118, h118, E118, P118⟩ := d_X6_putNode (ws0 := ws0) (tb := tb) hws htb sh ro I J A hI  b (I 39 12) ((((-4) - (I 23 8)) + 1)) (Int64.ofNat 0) hb   ⟨by exact gz_m 107 (by omega), by exact gz_m 108 (by omega)⟩ ⟨by exact gz_m 109 (by omega), by exact gz_m 110 (by omega)⟩ (by exact gz_m 111 (by omega)) (by exact gz_m 112 (by omega)) (by exact gz_m 113 (by omega)) KTO_I
          obtain ⟨I119, J120, rfl, hI119, g118, k118, KTO_I119, ⟨rfl, q118⟩⟩ := P118
          have FI119 := gc_frc (W := fun q j => (q = 39 ∧ j = 3) ∨ (q = 39 ∧ j = 4) ∨ (q = 23 ∧ j = 5) ∨ (q = 23 ∧ j = 6) ∨ (q = 23 ∧ j = 7) ∨ (q = 23 ∧ j = 8) ∨ (q = 39 ∧ j = 12) ∨ (q = 39 ∧ j = 15) ∨ q = 43) (V := fun q j => (q = 39 ∧ j = 12) ∨ q = 43) FI (fun q j h => (h.elim (fun h => (Or.inr (Or.inr (Or.inr (Or.inr (Or.inr (Or.inr (Or.inl h)))))))) (fun h => (Or.inr (Or.inr (Or.inr (Or.inr (Or.inr (Or.inr (Or.inr (Or.inr h))))))))))) g118
          have FJ120 := gc_frc (W := fun q j => (q = 23 ∧ j = 9) ∨ q = 44 ∨ q = 45) (V := fun q j => q = 44) FJ (fun q j h => (Or.inr (Or.inl h))) k118
          have t121 := (g118 23 1).resolve_left (fun h => h.elim (fun h => absurd h.2 (by first | exact gz_ne rfl | decide)) (fun h => absurd h (by first | exact gz_ne rfl | decide)))
          have t122 := (g118 23 5).resolve_left (fun h => h.elim (fun h => absurd h.2 (by first | exact gz_ne rfl | decide)) (fun h => absurd h (by first | exact gz_ne rfl | decide)))
          have t123 := (g118 23 6).resolve_left (fun h => h.elim (fun h => absurd h.2 (by first | exact gz_ne rfl | decide)) (fun h => absurd h (by first | exact gz_ne rfl | decide)))
          have t124 := (g118 23 7).resolve_left (fun h => h.elim (fun h => absurd h.2 (by first | exact gz_ne rfl | decide)) (fun h => absurd h (by first | exact gz_ne rfl | decide)))
          have t125 := (g118 39 15).resolve_left (fun h => h.elim (fun h => absurd h.2 (by first | exact gz_ne rfl | decide)) (fun h => absurd h (by first | exact gz_ne rfl | decide)))
          have t126 := (g118 23 8).resolve_left (fun h => h.elim (fun h => absurd h.2 (by first | exact gz_ne rfl | decide)) (fun h => absurd h (by first | exact gz_ne rfl | decide)))
          have t127 := (g118 12 (Int.toNat a1)).resolve_left (fun h => h.elim (fun h => absurd h.1 (by first | exact gz_ne rfl | decide)) (fun h => absurd h (by first | exact gz_ne rfl | decide)))
          have f128 := (gc_b_42_12 hI119 R_39)
          have KLT_I119 := gc_LT_fr KLT_I ((g118 23 5).resolve_left (fun h => h.elim (fun h => absurd h.2 (by first | exact gz_ne rfl | decide)) (fun h => absurd h (by first | exact gz_ne rfl | decide)))) ((g118 23 6).resolve_left (fun h => h.elim (fun h => absurd h.2 (by first | exact gz_ne rfl | decide)) (fun h => absurd h (by first | exact gz_ne rfl | decide)))) ((g118 23 7).resolve_left (fun h => h.elim (fun h => absurd h.2 (by first | exact gz_ne rfl | decide)) (fun h => absurd h (by first | exact gz_ne rfl | decide)))) (fun k => (g118 24 k).resolve_left (fun h => h.elim (fun h => absurd h.1 (by first | exact gz_ne rfl | decide)) (fun h => absurd h (by first | exact gz_ne rfl | decide))))
          have KTK_I119 := gc_TK_fr KTK_I ((g118 23 1).resolve_left (fun h => h.elim (fun h => absurd h.2 (by first | exact gz_ne rfl | decide)) (fun h => absurd h (by first | exact gz_ne rfl | decide)))) ((g118 23 5).resolve_left (fun h => h.elim (fun h => absurd h.2 (by first | exact gz_ne rfl | decide)) (fun h => absurd h (by first | exact gz_ne rfl | decide)))) ((g118 23 6).resolve_left (fun h => h.elim (fun h => absurd h.2 (by first | exact gz_ne rfl | decide)) (fun h => absurd h (by first | exact gz_ne rfl | decide)))) ((g118 23 7).resolve_left (fun h => h.elim (fun h => absurd h.2 (by first | exact gz_ne rfl | decide)) (fun h => absurd h (by first | exact gz_ne rfl | decide))))
          have A129 := gc_AT_I x5 ((g118 23 1).resolve_left (fun h => h.elim (fun h => absurd h.2 (by first | exact gz_ne rfl | decide)) (fun h => absurd h (by first | exact gz_ne rfl | decide)))) ((g118 23 5).resolve_left (fun h => h.elim (fun h => absurd h.2 (by first | exact gz_ne rfl | decide)) (fun h => absurd h (by first | exact gz_ne rfl | decide)))) ((g118 23 6).resolve_left (fun h => h.elim (fun h => absurd h.2 (by first | exact gz_ne rfl | decide)) (fun h => absurd h (by first | exact gz_ne rfl | decide)))) ((g118 23 7).resolve_left (fun h => h.elim (fun h => absurd h.2 (by first | exact gz_ne rfl | decide)) (fun h => absurd h (by first | exact gz_ne rfl | decide)))) ((g118 23 8).resolve_left (fun h => h.elim (fun h => absurd h.2 (by first | exact gz_ne rfl | decide)) (fun h => absurd h (by first | exact gz_ne rfl | decide)))) (fun k => (g118 24 k).resolve_left (fun h => h.elim (fun h => absurd h.1 (by first | exact gz_ne rfl | decide)) (fun h => absurd h (by first | exact gz_ne rfl | decide))))
          have A130 := gc_AT_J A129 ((k118 23 9).resolve_left (fun h => absurd h (by first | exact gz_ne rfl | decide)))
          have t131 := gc_AT_l A130
          refine gv_callV hD rfl (As := [.inl (I 39 12), .inl (((-4) - (I 23 8)) + 1), .inr (.inl (Int64.ofNat 0))]) (st := []) rfl B_39 S_39 rfl (gc_lV6 hws rfl) (Nat.le_of_ble_eq_true rfl) (gz_Ev_mono (d := 1) (by exact gz_m 114 (by omega)) E118) ?_
          show gv_X _ _ (120, [(0, .inr (.inr (some 39))), (1, .inl a1), (2, .inl a2)], [], sh, gc_h sh I119 J120 A)
          refine gv_run 1 true hD (pc' := 201) (lv' := [(0, .inr (.inr (some 39))), (1, .inl a1), (2, .inl a2)]) (st' := []) (h' := gc_h sh I119 J120 A) (C := (True ∧ True)) rfl ⟨trivial, trivial⟩ ?_
          refine gv_pick [0] rfl ?_
          exact L201 I119 J120 p9 hI119 FI119 FJ120 KLT_I119 KTK_I119 KTO_I119 (by exact gz_m 115 (by omega)) (gc_TD_one q118.2 (by exact gz_m 116 (by omega)) (by exact gz_m 117 (by omega)) (by exact gz_m 118 (by omega)) (by exact gz_m 119 (by omega))) (gs_at_u (by exact gz_m 120 (by omega)) (by exact gz_m 121 (by omega)) (by exact gz_m 122 (by omega))) A130
        · show gv_X _ _ (86, [(0, .inr (.inr (some 39))), (1, .inl a1), (2, .inl a2)], [], sh, gc_h sh I J A)
          refine gv_run 3 true hD (pc' := 89) (lv' := [(0, .inr (.inr (some 39))), (1, .inl a1), (2, .inl a2)]) (st' := [.inr (.inr (some 39)), .inl 5, .inr (.inr (some 39))]) (h' := gc_h sh I J A) (C := (((True ∧ True) ∧ True) ∧ True)) rfl ⟨⟨⟨trivial, trivial⟩, trivial⟩, trivial⟩ ?_
          refine gv_get hD rfl rfl S_39 ⟨by decide, B_39⟩ (gc_hA S_39 rfl A_39_1) ?_
          show gv_X _ _ (92, [(0, .inr (.inr (some 39))), (1, .inl a1), (2, .inl a2)], [.inr (.inr (some 23)), .inl 5, .inr (.inr (some 39))], sh, gc_h sh I J A)
          have f132 := (gc_b_3_5 hI R_23)
          refine gv_get hD rfl rfl S_23 ⟨by decide, B_23⟩ (gc_hI S_23 rfl) ?_
          show gv_X _ _ (95, [(0, .inr (.inr (some 39))), (1, .inl a1), (2, .inl a2)], [.inl (I 23 5), .inl 5, .inr (.inr (some 39))], sh, gc_h sh I J A)
          obtain ⟨r133, h133, E133, P133⟩ := d_X6_wrong_p (ws0 := ws0) (tb := tb) hws htb sh ro I J A hI  5 (I 23 5) hb   ⟨by exact gz_m 123 (by omega), by exact gz_m 124 (by omega)⟩ ⟨by exact gz_m 125 (by omega), by exact gz_m 126 (by omega)⟩  
          obtain ⟨I134, J135, rfl, hI134, g133, k133, ⟨z133, rfl, q133⟩⟩ := P133
          have FI134 := gc_frc (W := fun q j => (q = 39 ∧ j = 3) ∨ (q = 39 ∧ j = 4) ∨ (q = 23 ∧ j = 5) ∨ (q = 23 ∧ j = 6) ∨ (q = 23 ∧ j = 7) ∨ (q = 23 ∧ j = 8) ∨ (q = 39 ∧ j = 12) ∨ (q = 39 ∧ j = 15) ∨ q = 43) (V := fun q j => (q = 39 ∧ j = 3) ∨ (q = 39 ∧ j = 4)) FI (fun q j h => (h.elim (fun h => (Or.inl h)) (fun h => (Or.inr (Or.inl h))))) g133
          have t136 := (g133 23 1).resolve_left (fun h => h.elim (fun h => absurd h.2 (by first | exact gz_ne rfl | decide)) (fun h => absurd h.2 (by first | exact gz_ne rfl | decide)))
          have t137 := (g133 23 5).resolve_left (fun h => h.elim (fun h => absurd h.2 (by first | exact gz_ne rfl | decide)) (fun h => absurd h.2 (by first | exact gz_ne rfl | decide)))
          have t138 := (g133 23 6).resolve_left (fun h => h.elim (fun h => absurd h.2 (by first | exact gz_ne rfl | decide)) (fun h => absurd h.2 (by first | exact gz_ne rfl | decide)))
          have t139 := (g133 23 7).resolve_left (fun h => h.elim (fun h => absurd h.2 (by first | exact gz_ne rfl | decide)) (fun h => absurd h.2 (by first | exact gz_ne rfl | decide)))
          have t140 := (g133 39 12).resolve_left (fun h => h.elim (fun h => absurd h.2 (by first | exact gz_ne rfl | decide)) (fun h => absurd h.2 (by first | exact gz_ne rfl | decide)))
          have t141 := (g133 39 15).resolve_left (fun h => h.elim (fun h => absurd h.2 (by first | exact gz_ne rfl | decide)) (fun h => absurd h.2 (by first | exact gz_ne rfl | decide)))
          have t142 := (g133 23 8).resolve_left (fun h => h.elim (fun h => absurd h.2 (by first | exact gz_ne rfl | decide)) (fun h => absurd h.2 (by first | exact gz_ne rfl | decide)))
          have t143 := (g133 12 (Int.toNat a1)).resolve_left (fun h => h.elim (fun h => absurd h.1 (by first | exact gz_ne rfl | decide)) (fun h => absurd h.1 (by first | exact gz_ne rfl | decide)))
          obtain rfl : J = J135 := funext fun q => funext fun j => ((k133 q j).resolve_left id).symm
          have KLT_I134 := gc_LT_fr KLT_I ((g133 23 5).resolve_left (fun h => h.elim (fun h => absurd h.2 (by first | exact gz_ne rfl | decide)) (fun h => absurd h.2 (by first | exact gz_ne rfl | decide)))) ((g133 23 6).resolve_left (fun h => h.elim (fun h => absurd h.2 (by first | exact gz_ne rfl | decide)) (fun h => absurd h.2 (by first | exact gz_ne rfl | decide)))) ((g133 23 7).resolve_left (fun h => h.elim (fun h => absurd h.2 (by first | exact gz_ne rfl | decide)) (fun h => absurd h.2 (by first | exact gz_ne rfl | decide)))) (fun k => (g133 24 k).resolve_left (fun h => h.elim (fun h => absurd h.1 (by first | exact gz_ne rfl | decide)) (fun h => absurd h.1 (by first | exact gz_ne rfl | decide))))
          have KTK_I134 := gc_TK_fr KTK_I ((g133 23 1).resolve_left (fun h => h.elim (fun h => absurd h.2 (by first | exact gz_ne rfl | decide)) (fun h => absurd h.2 (by first | exact gz_ne rfl | decide)))) ((g133 23 5).resolve_left (fun h => h.elim (fun h => absurd h.2 (by first | exact gz_ne rfl | decide)) (fun h => absurd h.2 (by first | exact gz_ne rfl | decide)))) ((g133 23 6).resolve_left (fun h => h.elim (fun h => absurd h.2 (by first | exact gz_ne rfl | decide)) (fun h => absurd h.2 (by first | exact gz_ne rfl | decide)))) ((g133 23 7).resolve_left (fun h => h.elim (fun h => absurd h.2 (by first | exact gz_ne rfl | decide)) (fun h => absurd h.2 (by first | exact gz_ne rfl | decide))))
          have KTO_I134 := gc_TO_fr KTO_I ((g133 39 12).resolve_left (fun h => h.elim (fun h => absurd h.2 (by first | exact gz_ne rfl | decide)) (fun h => absurd h.2 (by first | exact gz_ne rfl | decide)))) (fun k => (g133 43 k).resolve_left (fun h => h.elim (fun h => absurd h.1 (by first | exact gz_ne rfl | decide)) (fun h => absurd h.1 (by first | exact gz_ne rfl | decide))))
          have A144 := gc_AT_I x5 ((g133 23 1).resolve_left (fun h => h.elim (fun h => absurd h.2 (by first | exact gz_ne rfl | decide)) (fun h => absurd h.2 (by first | exact gz_ne rfl | decide)))) ((g133 23 5).resolve_left (fun h => h.elim (fun h => absurd h.2 (by first | exact gz_ne rfl | decide)) (fun h => absurd h.2 (by first | exact gz_ne rfl | decide)))) ((g133 23 6).resolve_left (fun h => h.elim (fun h => absurd h.2 (by first | exact gz_ne rfl | decide)) (fun h => absurd h.2 (by first | exact gz_ne rfl | decide)))) ((g133 23 7).resolve_left (fun h => h.elim (fun h => absurd h.2 (by first | exact gz_ne rfl | decide)) (fun h => absurd h.2 (by first | exact gz_ne rfl | decide)))) ((g133 23 8).resolve_left (fun h => h.elim (fun h => absurd h.2 (by first | exact gz_ne rfl | decide)) (fun h => absurd h.2 (by first | exact gz_ne rfl | decide)))) (fun k => (g133 24 k).resolve_left (fun h => h.elim (fun h => absurd h.1 (by first | exact gz_ne rfl | decide)) (fun h => absurd h.1 (by first | exact gz_ne rfl | decide))))
          have t145 := gc_AT_l A144
          refine gv_callV hD rfl (As := [.inl 5, .inl (I 23 5)]) (st := []) rfl B_39 S_39 rfl (gc_lV6 hws rfl) (Nat.le_of_ble_eq_true rfl) (gz_Ev_mono (d := 1) (by exact gz_m 127 (by omega)) E133) ?_
          show gv_X _ _ (98, [(0, .inr (.inr (some 39))), (1, .inl a1), (2, .inl a2)], [.inl z133], sh, gc_h sh I134 J A)
          exact gv_zret hD rfl (by exact gz_m 128 (by omega)) ⟨I134, J, rfl, hI134, FI134, FJ, KLT_I134, KTK_I134, KTO_I134, ⟨_, rfl, by exact gz_m 129 (by omega), by exact gz_m 130 (by omega), by exact gz_m 131 (by omega), by exact gz_m 132 (by omega), by exact gz_m 133 (by omega), by exact gz_m 134 (by omega), by exact gz_m 135 (by omega), (Or.inl (by exact gz_m 136 (by omega))), by exact gz_m 137 (by omega), (gs_TQc_n (gs_at_b (by exact gz_m 138 (by omega)) (by exact gz_m 139 (by omega)) (by exact gz_m 140 (by omega))) (by exact gz_m 141 (by omega)) (by exact gz_m 142 (by omega)) (by exact gz_m 143 (by omega)))⟩⟩
  · show gv_X _ _ (12, [(0, .inr (.inr (some 39))), (1, .inl a1), (2, .inl a2)], [], sh, gc_h sh I J A)
    refine gv_run 1 true hD (pc' := 13) (lv' := [(0, .inr (.inr (some 39))), (1, .inl a1), (2, .inl a2)]) (st' := [.inr (.inr (some 39))]) (h' := gc_h sh I J A) (C := (True ∧ True)) rfl ⟨trivial, trivial⟩ ?_
    refine gv_get hD rfl rfl S_39 ⟨by decide, B_39⟩ (gc_hA S_39 rfl A_39_1) ?_
    show gv_X _ _ (16, [(0, .inr (.inr (some 39))), (1, .inl a1), (2, .inl a2)], [.inr (.inr (some 23))], sh, gc_h sh I J A)
    have t147 := gc_TK_nx KTK_I (by exact gz_m 144 (by omega))
    have t148 := gc_TK_st KTK_I (by exact gz_m 145 (by omega))
    obtain ⟨r146, h146, E146, P146⟩ := d_X9_advance_p (ws0 := ws0) (tb := tb) hws htb sh ro I J A hI 23 β η  (gc_b23 hb)    (by exact gz_m 146 (by omega)) x5.1.1 x5.1.2 
    obtain ⟨I149, J150, rfl, hI149, g146, k146, ⟨rfl, V146_0, V146_1, V146_2, V146_3, V146_4, q146⟩⟩ := P146
    have FI149 := gc_frc (W := fun q j => (q = 39 ∧ j = 3) ∨ (q = 39 ∧ j = 4) ∨ (q = 23 ∧ j = 5) ∨ (q = 23 ∧ j = 6) ∨ (q = 23 ∧ j = 7) ∨ (q = 23 ∧ j = 8) ∨ (q = 39 ∧ j = 12) ∨ (q = 39 ∧ j = 15) ∨ q = 43) (V := fun q j => (q = 23 ∧ j = 5) ∨ (q = 23 ∧ j = 6) ∨ (q = 23 ∧ j = 7) ∨ (q = 23 ∧ j = 8)) FI (fun q j h => (h.elim (fun h => (Or.inr (Or.inr (Or.inl h)))) (fun h => (h.elim (fun h => (Or.inr (Or.inr (Or.inr (Or.inl h))))) (fun h => (h.elim (fun h => (Or.inr (Or.inr (Or.inr (Or.inr (Or.inl h)))))) (fun h => (Or.inr (Or.inr (Or.inr (Or.inr (Or.inr (Or.inl h))))))))))))) g146
    have FJ150 := gc_frc (W := fun q j => (q = 23 ∧ j = 9) ∨ q = 44 ∨ q = 45) (V := fun q j => (q = 23 ∧ j = 9)) FJ (fun q j h => (Or.inl h)) k146
    have t151 := (g146 23 1).resolve_left (fun h => h.elim (fun h => absurd h.2 (by first | exact gz_ne rfl | decide)) (fun h => h.elim (fun h => absurd h.2 (by first | exact gz_ne rfl | decide)) (fun h => h.elim (fun h => absurd h.2 (by first | exact gz_ne rfl | decide)) (fun h => absurd h.2 (by first | exact gz_ne rfl | decide)))))
    have t152 := (g146 39 12).resolve_left (fun h => h.elim (fun h => absurd h.2 (by first | exact gz_ne rfl | decide)) (fun h => h.elim (fun h => absurd h.2 (by first | exact gz_ne rfl | decide)) (fun h => h.elim (fun h => absurd h.2 (by first | exact gz_ne rfl | decide)) (fun h => absurd h.2 (by first | exact gz_ne rfl | decide)))))
    have t153 := (g146 39 15).resolve_left (fun h => h.elim (fun h => absurd h.2 (by first | exact gz_ne rfl | decide)) (fun h => h.elim (fun h => absurd h.2 (by first | exact gz_ne rfl | decide)) (fun h => h.elim (fun h => absurd h.2 (by first | exact gz_ne rfl | decide)) (fun h => absurd h.2 (by first | exact gz_ne rfl | decide)))))
    have t154 := (g146 12 (Int.toNat a1)).resolve_left (fun h => h.elim (fun h => absurd h.1 (by first | exact gz_ne rfl | decide)) (fun h => h.elim (fun h => absurd h.1 (by first | exact gz_ne rfl | decide)) (fun h => h.elim (fun h => absurd h.1 (by first | exact gz_ne rfl | decide)) (fun h => absurd h.1 (by first | exact gz_ne rfl | decide)))))
    have f155 := (gc_b_3_5 hI149 R_23)
    have f156 := (gc_b_3_6 hI149 R_23)
    have f157 := (gc_b_3_7 hI149 R_23)
    have f158 := (gc_b_3_8 hI149 R_23)
    have KLT_I149 : gc_LT I149 := q146.2.2.1
    have KTO_I149 := gc_TO_fr KTO_I ((g146 39 12).resolve_left (fun h => h.elim (fun h => absurd h.2 (by first | exact gz_ne rfl | decide)) (fun h => h.elim (fun h => absurd h.2 (by first | exact gz_ne rfl | decide)) (fun h => h.elim (fun h => absurd h.2 (by first | exact gz_ne rfl | decide)) (fun h => absurd h.2 (by first | exact gz_ne rfl | decide)))))) (fun k => (g146 43 k).resolve_left (fun h => h.elim (fun h => absurd h.1 (by first | exact gz_ne rfl | decide)) (fun h => h.elim (fun h => absurd h.1 (by first | exact gz_ne rfl | decide)) (fun h => h.elim (fun h => absurd h.1 (by first | exact gz_ne rfl | decide)) (fun h => absurd h.1 (by first | exact gz_ne rfl | decide))))))
    have KTK_I149 : gc_TK I149 := And.intro V146_0 (And.intro V146_1 (And.intro V146_2 (And.intro V146_3 V146_4)))
    have t159 := gc_TK_mo KTK_I149
    clear V146_0 V146_1 V146_2 V146_3 V146_4
    have A160 := gc_AT_nx x5 q146.2.2.2
    have t161 := gc_AT_l A160
    refine gv_callV hD rfl (As := []) (st := []) rfl B_23 S_23 rfl (gc_lV6 hws rfl) (Nat.le_of_ble_eq_true rfl) (gz_Ev_mono (d := 2) (by exact gz_m 147 (by omega)) E146) ?_
    show gv_X _ _ (19, [(0, .inr (.inr (some 39))), (1, .inl a1), (2, .inl a2)], [], sh, gc_h sh I149 J150 A)
    refine gv_run 5 true hD (pc' := 24) (lv' := [(0, .inr (.inr (some 39))), (1, .inl a1), (2, .inl a2)]) (st' := [.inl (a2 + 1), .inl a1, .inr (.inr (some 39))]) (h' := gc_h sh I149 J150 A) (C := (((((True ∧ True) ∧ True) ∧ True) ∧ True) ∧ True)) rfl ⟨⟨⟨⟨⟨trivial, trivial⟩, trivial⟩, trivial⟩, trivial⟩, trivial⟩ ?_
    obtain ⟨r162, h162, E162, P162⟩ := ihR I149 J150 hI149 a1 (a2 + 1) (gs_X β η p9) (m9 - 1) ⟨by exact gz_m 148 (by omega), by exact gz_m 149 (by omega)⟩ ⟨by exact gz_m 150 (by omega), by exact gz_m 151 (by omega)⟩ (by exact gz_m 152 (by omega)) (by exact gz_m 153 (by omega)) (by exact gz_m 154 (by omega)) (by exact gz_m 155 (by omega)) A160 (by exact gz_m 156 (by omega)) (by exact gz_m 157 (by omega)) (by exact gz_m 158 (by omega)) KLT_I149 KTK_I149 KTO_I149 (by exact gz_m 159 (by omega))
    obtain ⟨I163, J164, rfl, hI163, g162, k162, KLT_I163, KTK_I163, KTO_I163, ⟨z162, rfl, q162⟩⟩ := P162
    have FI163 := gc_frc (W := fun q j => (q = 39 ∧ j = 3) ∨ (q = 39 ∧ j = 4) ∨ (q = 23 ∧ j = 5) ∨ (q = 23 ∧ j = 6) ∨ (q = 23 ∧ j = 7) ∨ (q = 23 ∧ j = 8) ∨ (q = 39 ∧ j = 12) ∨ (q = 39 ∧ j = 15) ∨ q = 43) (V := fun q j => (q = 39 ∧ j = 3) ∨ (q = 39 ∧ j = 4) ∨ (q = 23 ∧ j = 5) ∨ (q = 23 ∧ j = 6) ∨ (q = 23 ∧ j = 7) ∨ (q = 23 ∧ j = 8) ∨ (q = 39 ∧ j = 12) ∨ (q = 39 ∧ j = 15) ∨ q = 43) FI149 (fun q j h => (h.elim (fun h => (Or.inl h)) (fun h => (h.elim (fun h => (Or.inr (Or.inl h))) (fun h => (h.elim (fun h => (Or.inr (Or.inr (Or.inl h)))) (fun h => (h.elim (fun h => (Or.inr (Or.inr (Or.inr (Or.inl h))))) (fun h => (h.elim (fun h => (Or.inr (Or.inr (Or.inr (Or.inr (Or.inl h)))))) (fun h => (h.elim (fun h => (Or.inr (Or.inr (Or.inr (Or.inr (Or.inr (Or.inl h))))))) (fun h => (h.elim (fun h => (Or.inr (Or.inr (Or.inr (Or.inr (Or.inr (Or.inr (Or.inl h)))))))) (fun h => (h.elim (fun h => (Or.inr (Or.inr (Or.inr (Or.inr (Or.inr (Or.inr (Or.inr (Or.inl h))))))))) (fun h => (Or.inr (Or.inr (Or.inr (Or.inr (Or.inr (Or.inr (Or.inr (Or.inr h))))))))))))))))))))))))) g162
    have FJ164 := gc_frc (W := fun q j => (q = 23 ∧ j = 9) ∨ q = 44 ∨ q = 45) (V := fun q j => (q = 23 ∧ j = 9) ∨ q = 44 ∨ q = 45) FJ150 (fun q j h => (h.elim (fun h => (Or.inl h)) (fun h => (h.elim (fun h => (Or.inr (Or.inl h))) (fun h => (Or.inr (Or.inr h))))))) k162
    have t165 := (g162 23 1).resolve_left (fun h => h.elim (fun h => absurd h.2 (by first | exact gz_ne rfl | decide)) (fun h => h.elim (fun h => absurd h.2 (by first | exact gz_ne rfl | decide)) (fun h => h.elim (fun h => absurd h.2 (by first | exact gz_ne rfl | decide)) (fun h => h.elim (fun h => absurd h.2 (by first | exact gz_ne rfl | decide)) (fun h => h.elim (fun h => absurd h.2 (by first | exact gz_ne rfl | decide)) (fun h => h.elim (fun h => absurd h.2 (by first | exact gz_ne rfl | decide)) (fun h => h.elim (fun h => absurd h.2 (by first | exact gz_ne rfl | decide)) (fun h => h.elim (fun h => absurd h.2 (by first | exact gz_ne rfl | decide)) (fun h => absurd h (by first | exact gz_ne rfl | decide))))))))))
    have t166 := (g162 12 (Int.toNat a1)).resolve_left (fun h => h.elim (fun h => absurd h.1 (by first | exact gz_ne rfl | decide)) (fun h => h.elim (fun h => absurd h.1 (by first | exact gz_ne rfl | decide)) (fun h => h.elim (fun h => absurd h.1 (by first | exact gz_ne rfl | decide)) (fun h => h.elim (fun h => absurd h.1 (by first | exact gz_ne rfl | decide)) (fun h => h.elim (fun h => absurd h.1 (by first | exact gz_ne rfl | decide)) (fun h => h.elim (fun h => absurd h.1 (by first | exact gz_ne rfl | decide)) (fun h => h.elim (fun h => absurd h.1 (by first | exact gz_ne rfl | decide)) (fun h => h.elim (fun h => absurd h.1 (by first | exact gz_ne rfl | decide)) (fun h => absurd h (by first | exact gz_ne rfl | decide))))))))))
    have f167 := (gc_b_3_5 hI163 R_23)
    have f168 := (gc_b_3_6 hI163 R_23)
    have f169 := (gc_b_3_7 hI163 R_23)
    have f170 := (gc_b_42_12 hI163 R_39)
    have f171 := (gc_b_42_15 hI163 R_39)
    have f172 := (gc_b_3_8 hI163 R_23)
    have t173 := gc_TK_mo KTK_I163
    refine gv_callV hD rfl (As := [.inl a1, .inl (a2 + 1)]) (st := []) rfl B_39 S_39 rfl (gc_lV6 hws rfl) (Nat.le_of_ble_eq_true rfl) (gz_Ev_mono (d := (6 + 2 * nr)) (Nat.le_refl _) E162) ?_
    show gv_X _ _ (27, [(0, .inr (.inr (some 39))), (1, .inl a1), (2, .inl a2)], [.inl z162], sh, gc_h sh I163 J164 A)
    refine gv_if_eq (t := 43) hD rfl rfl ⟨by exact gz_m 160 (by omega), by exact gz_m 161 (by omega)⟩ (fun c174 => ?_) (fun c174 => ?_)
    · show gv_X _ _ (43, [(0, .inr (.inr (some 39))), (1, .inl a1), (2, .inl a2)], [], sh, gc_h sh I163 J164 A)
      obtain ⟨u175, U175⟩ := gs_TQc_0 q162.2.2.2.2.2.2.2.2 (by exact gz_m 162 (by omega))
      refine gv_run 1 true hD (pc' := 44) (lv' := [(0, .inr (.inr (some 39))), (1, .inl a1), (2, .inl a2)]) (st' := [.inl 0]) (h' := gc_h sh I163 J164 A) (C := (True ∧ True)) rfl ⟨trivial, trivial⟩ ?_
      exact gv_zret hD rfl (by exact gz_m 163 (by omega)) ⟨I163, J164, rfl, hI163, FI163, FJ164, KLT_I163, KTK_I163, KTO_I163, ⟨_, rfl, by exact gz_m 164 (by omega), by exact gz_m 165 (by omega), by exact gz_m 166 (by omega), by exact gz_m 167 (by omega), by exact gz_m 168 (by omega), by exact gz_m 169 (by omega), by exact gz_m 170 (by omega), (Or.inl (by exact gz_m 171 (by omega))), by exact gz_m 172 (by omega), (gs_TQc_n (gs_at_x (by exact gz_m 173 (by omega)) (by exact gz_m 174 (by omega)) (by exact gz_m 175 (by omega))) (by exact gz_m 176 (by omega)) (by exact gz_m 177 (by omega)) (by exact gz_m 178 (by omega)))⟩⟩
    · show gv_X _ _ (30, [(0, .inr (.inr (some 39))), (1, .inl a1), (2, .inl a2)], [], sh, gc_h sh I163 J164 A)
      obtain ⟨u176, A176, U176⟩ := gs_TQc_1 q162.2.2.2.2.2.2.2.2 (by exact gz_m 179 (by omega))
      have t177 := gc_AT_l A176
      refine gv_run 2 true hD (pc' := 33) (lv' := [(0, .inr (.inr (some 39))), (1, .inl a1), (2, .inl a2)]) (st' := [.inl 41, .inr (.inr (some 39))]) (h' := gc_h sh I163 J164 A) (C := ((True ∧ True) ∧ True)) rfl ⟨⟨trivial, trivial⟩, trivial⟩ ?_
      obtain ⟨r178, h178, E178, P178⟩ := d_X6_take_p (ws0 := ws0) (tb := tb) hws htb sh ro I163 J164 A hI163  β η ((gs_tm β η nf9 (m9 - 1) 0 (a2 + 1) (gs_X β η p9)).1) 41 hb   ⟨by exact gz_m 180 (by omega), by exact gz_m 181 (by omega)⟩ (by exact gz_m 182 (by omega)) A176 (by exact gz_m 183 (by omega)) KLT_I163 KTK_I163
      obtain ⟨I179, J180, rfl, hI179, g178, k178, KLT_I179, KTK_I179, ⟨z178, rfl, q178⟩⟩ := P178
      have FI179 := gc_frc (W := fun q j => (q = 39 ∧ j = 3) ∨ (q = 39 ∧ j = 4) ∨ (q = 23 ∧ j = 5) ∨ (q = 23 ∧ j = 6) ∨ (q = 23 ∧ j = 7) ∨ (q = 23 ∧ j = 8) ∨ (q = 39 ∧ j = 12) ∨ (q = 39 ∧ j = 15) ∨ q = 43) (V := fun q j => (q = 39 ∧ j = 3) ∨ (q = 39 ∧ j = 4) ∨ (q = 23 ∧ j = 5) ∨ (q = 23 ∧ j = 6) ∨ (q = 23 ∧ j = 7) ∨ (q = 23 ∧ j = 8)) FI163 (fun q j h => (h.elim (fun h => (Or.inl h)) (fun h => (h.elim (fun h => (Or.inr (Or.inl h))) (fun h => (h.elim (fun h => (Or.inr (Or.inr (Or.inl h)))) (fun h => (h.elim (fun h => (Or.inr (Or.inr (Or.inr (Or.inl h))))) (fun h => (h.elim (fun h => (Or.inr (Or.inr (Or.inr (Or.inr (Or.inl h)))))) (fun h => (Or.inr (Or.inr (Or.inr (Or.inr (Or.inr (Or.inl h))))))))))))))))) g178
      have FJ180 := gc_frc (W := fun q j => (q = 23 ∧ j = 9) ∨ q = 44 ∨ q = 45) (V := fun q j => (q = 23 ∧ j = 9)) FJ164 (fun q j h => (Or.inl h)) k178
      have t181 := (g178 23 1).resolve_left (fun h => h.elim (fun h => absurd h.2 (by first | exact gz_ne rfl | decide)) (fun h => h.elim (fun h => absurd h.2 (by first | exact gz_ne rfl | decide)) (fun h => h.elim (fun h => absurd h.2 (by first | exact gz_ne rfl | decide)) (fun h => h.elim (fun h => absurd h.2 (by first | exact gz_ne rfl | decide)) (fun h => h.elim (fun h => absurd h.2 (by first | exact gz_ne rfl | decide)) (fun h => absurd h.2 (by first | exact gz_ne rfl | decide)))))))
      have t182 := (g178 39 12).resolve_left (fun h => h.elim (fun h => absurd h.2 (by first | exact gz_ne rfl | decide)) (fun h => h.elim (fun h => absurd h.2 (by first | exact gz_ne rfl | decide)) (fun h => h.elim (fun h => absurd h.2 (by first | exact gz_ne rfl | decide)) (fun h => h.elim (fun h => absurd h.2 (by first | exact gz_ne rfl | decide)) (fun h => h.elim (fun h => absurd h.2 (by first | exact gz_ne rfl | decide)) (fun h => absurd h.2 (by first | exact gz_ne rfl | decide)))))))
      have t183 := (g178 39 15).resolve_left (fun h => h.elim (fun h => absurd h.2 (by first | exact gz_ne rfl | decide)) (fun h => h.elim (fun h => absurd h.2 (by first | exact gz_ne rfl | decide)) (fun h => h.elim (fun h => absurd h.2 (by first | exact gz_ne rfl | decide)) (fun h => h.elim (fun h => absurd h.2 (by first | exact gz_ne rfl | decide)) (fun h => h.elim (fun h => absurd h.2 (by first | exact gz_ne rfl | decide)) (fun h => absurd h.2 (by first | exact gz_ne rfl | decide)))))))
      have t184 := (g178 12 (Int.toNat a1)).resolve_left (fun h => h.elim (fun h => absurd h.1 (by first | exact gz_ne rfl | decide)) (fun h => h.elim (fun h => absurd h.1 (by first | exact gz_ne rfl | decide)) (fun h => h.elim (fun h => absurd h.1 (by first | exact gz_ne rfl | decide)) (fun h => h.elim (fun h => absurd h.1 (by first | exact gz_ne rfl | decide)) (fun h => h.elim (fun h => absurd h.1 (by first | exact gz_ne rfl | decide)) (fun h => absurd h.1 (by first | exact gz_ne rfl | decide)))))))
      have f185 := (gc_b_3_5 hI179 R_23)
      have f186 := (gc_b_3_6 hI179 R_23)
      have f187 := (gc_b_3_7 hI179 R_23)
      have f188 := (gc_b_3_8 hI179 R_23)
      have t189 := gc_TK_mo KTK_I179
      have KTO_I179 := gc_TO_fr KTO_I163 ((g178 39 12).resolve_left (fun h => h.elim (fun h => absurd h.2 (by first | exact gz_ne rfl | decide)) (fun h => h.elim (fun h => absurd h.2 (by first | exact gz_ne rfl | decide)) (fun h => h.elim (fun h => absurd h.2 (by first | exact gz_ne rfl | decide)) (fun h => h.elim (fun h => absurd h.2 (by first | exact gz_ne rfl | decide)) (fun h => h.elim (fun h => absurd h.2 (by first | exact gz_ne rfl | decide)) (fun h => absurd h.2 (by first | exact gz_ne rfl | decide)))))))) (fun k => (g178 43 k).resolve_left (fun h => h.elim (fun h => absurd h.1 (by first | exact gz_ne rfl | decide)) (fun h => h.elim (fun h => absurd h.1 (by first | exact gz_ne rfl | decide)) (fun h => h.elim (fun h => absurd h.1 (by first | exact gz_ne rfl | decide)) (fun h => h.elim (fun h => absurd h.1 (by first | exact gz_ne rfl | decide)) (fun h => h.elim (fun h => absurd h.1 (by first | exact gz_ne rfl | decide)) (fun h => absurd h.1 (by first | exact gz_ne rfl | decide))))))))
      refine gv_callV hD rfl (As := [.inl 41]) (st := []) rfl B_39 S_39 rfl (gc_lV6 hws rfl) (Nat.le_of_ble_eq_true rfl) (gz_Ev_mono (d := 3) (by exact gz_m 184 (by omega)) E178) ?_
      show gv_X _ _ (36, [(0, .inr (.inr (some 39))), (1, .inl a1), (2, .inl a2)], [.inl z178], sh, gc_h sh I179 J180 A)
      refine gv_if_eq (t := 43) hD rfl rfl ⟨by exact gz_m 185 (by omega), by exact gz_m 186 (by omega)⟩ (fun c190 => ?_) (fun c190 => ?_)
      · show gv_X _ _ (43, [(0, .inr (.inr (some 39))), (1, .inl a1), (2, .inl a2)], [], sh, gc_h sh I179 J180 A)
        obtain ⟨u191, u191_⟩ := gs_or0 q178.2.2.2.2.2 (by exact gz_m 187 (by omega))
        refine gv_run 1 true hD (pc' := 44) (lv' := [(0, .inr (.inr (some 39))), (1, .inl a1), (2, .inl a2)]) (st' := [.inl 0]) (h' := gc_h sh I179 J180 A) (C := (True ∧ True)) rfl ⟨trivial, trivial⟩ ?_
        exact gv_zret hD rfl (by exact gz_m 188 (by omega)) ⟨I179, J180, rfl, hI179, FI179, FJ180, KLT_I179, KTK_I179, KTO_I179, ⟨_, rfl, by exact gz_m 189 (by omega), by exact gz_m 190 (by omega), by exact gz_m 191 (by omega), by exact gz_m 192 (by omega), by exact gz_m 193 (by omega), by exact gz_m 194 (by omega), by exact gz_m 195 (by omega), (Or.inl (by exact gz_m 196 (by omega))), by exact gz_m 197 (by omega), (gs_TQc_n (gs_at_y (by exact gz_m 198 (by omega)) (by exact gz_m 199 (by omega)) (by exact gz_m 200 (by omega))) (by exact gz_m 201 (by omega)) (by exact gz_m 202 (by omega)) (by exact gz_m 203 (by omega)))⟩⟩
      · show gv_X _ _ (39, [(0, .inr (.inr (some 39))), (1, .inl a1), (2, .inl a2)], [], sh, gc_h sh I179 J180 A)
        obtain ⟨u192, A192⟩ := gs_or1 q178.2.2.2.2.2 (by exact gz_m 204 (by omega))
        have t193 := gc_AT_l A192
        refine gv_run 2 true hD (pc' := 44) (lv' := [(0, .inr (.inr (some 39))), (1, .inl a1), (2, .inl a2)]) (st' := [.inl 1]) (h' := gc_h sh I179 J180 A) (C := ((True ∧ True) ∧ True)) rfl ⟨⟨trivial, trivial⟩, trivial⟩ ?_
        exact gv_zret hD rfl (by exact gz_m 205 (by omega)) ⟨I179, J180, rfl, hI179, FI179, FJ180, KLT_I179, KTK_I179, KTO_I179, ⟨_, rfl, by exact gz_m 206 (by omega), by exact gz_m 207 (by omega), by exact gz_m 208 (by omega), by exact gz_m 209 (by omega), by exact gz_m 210 (by omega), by exact gz_m 211 (by omega), by exact gz_m 212 (by omega), (Or.inr (gc_TD_fr (q162.2.2.2.2.2.2.2.1.resolve_left (by exact gz_m 213 (by omega))) (by exact gz_m 214 (by omega)) (fun k => (((g146 43 k).resolve_left (fun h => h.elim (fun h => absurd h.1 (by first | exact gz_ne rfl | decide)) (fun h => h.elim (fun h => absurd h.1 (by first | exact gz_ne rfl | decide)) (fun h => h.elim (fun h => absurd h.1 (by first | exact gz_ne rfl | decide)) (fun h => absurd h.1 (by first | exact gz_ne rfl | decide))))))).symm) (by exact gz_m 215 (by omega)) (fun k => ((g178 43 k).resolve_left (fun h => h.elim (fun h => absurd h.1 (by first | exact gz_ne rfl | decide)) (fun h => h.elim (fun h => absurd h.1 (by first | exact gz_ne rfl | decide)) (fun h => h.elim (fun h => absurd h.1 (by first | exact gz_ne rfl | decide)) (fun h => h.elim (fun h => absurd h.1 (by first | exact gz_ne rfl | decide)) (fun h => h.elim (fun h => absurd h.1 (by first | exact gz_ne rfl | decide)) (fun h => absurd h.1 (by first | exact gz_ne rfl | decide))))))))))), by exact gz_m 216 (by omega), (gs_TQc_y (gs_at_y (by exact gz_m 217 (by omega)) (by exact gz_m 218 (by omega)) (by exact gz_m 219 (by omega))) (by exact gz_m 220 (by omega)) (by exact gz_m 221 (by omega)) A192 (by exact gz_m 222 (by omega)))⟩⟩
