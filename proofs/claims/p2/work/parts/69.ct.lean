set_option maxHeartbeats 4000000 in
set_option maxRecDepth 100000 in
theorem d_X6_readSound {ws0 : List Cond} {tb : String → gz_T} (hws : gc_Ws ws0) (htb : gc_tbs tb) (sh : gz_Sh) (ro : Nat → Nat) (I : gr_I) (J : gr_J) (A : gc_A) (hI : gc_Inv ro I) (t : Nat) (B : Int)  (hb : gc_Base sh ro A) (h_t : gc_isTongue sh ro A t) (G_t : 144 ≤ t)  (x0 : B ≤ 1280 ∧ I 1 17 + I 23 1 ≤ B + I 23 5) (x1 : I 39 2 = (t : Int)) (KLT_I : gc_LT I) (KTK_I : gc_TK I) (KSC_I : gc_sc (t + 10) I) : ∃ r h', gz_Ev ws0 tb 6 (yX6_readSound, cX6_readSound, 1, (some .boolean)) [.inr (.inr (some 39))] sh (gc_h sh I J A) r sh h' 0 0 ∧ (∃ (I' : gr_I) (J' : gr_J), h' = gc_h sh I' J' A ∧ gc_Inv ro I' ∧ (∀ q j : Nat, ((q = 39 ∧ j = 3) ∨ (q = 39 ∧ j = 4) ∨ (q = 23 ∧ j = 5) ∨ (q = 23 ∧ j = 6) ∨ (q = 23 ∧ j = 7) ∨ (q = 23 ∧ j = 8) ∨ (q = 1 ∧ j = 17) ∨ (q = 1 ∧ j = 18) ∨ q = 20 ∨ q = 41 ∨ q = (t + 10) ∨ (q = t ∧ j = 6)) ∨ I' q j = I q j) ∧ (∀ q j : Nat, ((q = 23 ∧ j = 9)) ∨ J' q j = J q j) ∧ gc_LT I' ∧ gc_TK I' ∧ gc_sc (t + 10) I' ∧ (∃ z : Int, r = some (.inl z) ∧ 0 ≤ z ∧ z ≤ 1 ∧ (I' 23 1 = I 23 1) ∧ (I 23 5 ≤ I' 23 5) ∧ (B ≤ 1280 ∧ I' 1 17 + I' 23 1 ≤ B + I' 23 5))) := by
  have FI : ∀ q j : Nat, ((q = 39 ∧ j = 3) ∨ (q = 39 ∧ j = 4) ∨ (q = 23 ∧ j = 5) ∨ (q = 23 ∧ j = 6) ∨ (q = 23 ∧ j = 7) ∨ (q = 23 ∧ j = 8) ∨ (q = 1 ∧ j = 17) ∨ (q = 1 ∧ j = 18) ∨ q = 20 ∨ q = 41 ∨ q = (t + 10) ∨ (q = t ∧ j = 6)) ∨ I q j = I q j := fun _ _ => Or.inr rfl
  have FJ : ∀ q j : Nat, ((q = 23 ∧ j = 9)) ∨ J q j = J q j := fun _ _ => Or.inr rfl
  have A_39_1 : A 39 1 = some 23 := gc_bA hb rfl
  have A_39_10 : A 39 10 = some 41 := gc_bA hb rfl
  have B_23 : 23 < 1000000 := by decide
  have B_39 : 39 < 1000000 := by decide
  have B_41 : 41 < 1000000 := by decide
  have R_1 : ro 1 = 22 := gc_bR hb (by decide) rfl
  have R_23 : ro 23 = 3 := gc_bR hb (by decide) rfl
  have R_39 : ro 39 = 42 := gc_bR hb (by decide) rfl
  have R_41 : ro 41 = 0 := gc_bR hb (by decide) rfl
  have S_23 : sh[23]? = some (false, 9, 10) := gc_bS hb rfl
  have S_39 : sh[39]? = some (false, 6, 19) := gc_bS hb rfl
  have S_41 : sh[41]? = some (true, 1, 25) := gc_bS hb rfl
  obtain ⟨S_t, R_t, B_t, A_t_0, h_t_1, A_t_1, h_t_3, A_t_2, S_t_5, R_t_5, B_t_5, A_t_3, S_t_6, R_t_6, B_t_6, A_t_4, h_t_7, A_t_5, S_t_9, R_t_9, B_t_9, A_t_7, S_t_10, R_t_10, B_t_10, A_t_8, h_t_11, A_t_9, S_t_13, R_t_13, B_t_13, A_t_10, S_t_14, R_t_14, B_t_14, A_t_12, S_t_15, R_t_15, B_t_15, A_t_14, S_t_16, R_t_16, B_t_16, A_t_15, h_t_17⟩ := id h_t
  obtain ⟨S_t_1, R_t_1, B_t_1, A_t_1_0, S_t_1_1, R_t_1_1, B_t_1_1, Q0_t_1, Q1_t_1, Q2_t_1⟩ := id h_t_1
  obtain ⟨S_t_3, R_t_3, B_t_3, A_t_3_0, S_t_3_1, R_t_3_1, B_t_3_1, Q0_t_3, Q1_t_3, Q2_t_3⟩ := id h_t_3
  obtain ⟨S_t_7, R_t_7, B_t_7, A_t_7_0, S_t_7_1, R_t_7_1, B_t_7_1, Q0_t_7, Q1_t_7, Q2_t_7⟩ := id h_t_7
  obtain ⟨S_t_11, R_t_11, B_t_11, A_t_11_0, S_t_11_1, R_t_11_1, B_t_11_1, Q0_t_11, Q1_t_11, Q2_t_11⟩ := id h_t_11
  obtain ⟨S_t_17, R_t_17, B_t_17, A_t_17_0, S_20, R_20, B_20, A_t_17_1, S_t_17_1, R_t_17_1, B_t_17_1, A_t_17_2, S_t_17_2, R_t_17_2, B_t_17_2, A_t_17_3, S_t_17_3, R_t_17_3, B_t_17_3, A_t_17_4, S_t_17_4, R_t_17_4, B_t_17_4, A_t_17_5, S_t_17_5, R_t_17_5, B_t_17_5, S_t_17_6, R_t_17_6, B_t_17_6, S_t_17_7, R_t_17_7, B_t_17_7⟩ := id h_t_17
  have hD : gv_D (gc_E6 ws0 tb 5 (yX6_readSound, cX6_readSound, 1, (some .boolean)) kX6_readSound) := gq_ok oX6_readSound
  refine gc_ev6 (d := 5) (l := kX6_readSound) (Po := fun r h' => (∃ (I' : gr_I) (J' : gr_J), h' = gc_h sh I' J' A ∧ gc_Inv ro I' ∧ (∀ q j : Nat, ((q = 39 ∧ j = 3) ∨ (q = 39 ∧ j = 4) ∨ (q = 23 ∧ j = 5) ∨ (q = 23 ∧ j = 6) ∨ (q = 23 ∧ j = 7) ∨ (q = 23 ∧ j = 8) ∨ (q = 1 ∧ j = 17) ∨ (q = 1 ∧ j = 18) ∨ q = 20 ∨ q = 41 ∨ q = (t + 10) ∨ (q = t ∧ j = 6)) ∨ I' q j = I q j) ∧ (∀ q j : Nat, ((q = 23 ∧ j = 9)) ∨ J' q j = J q j) ∧ gc_LT I' ∧ gc_TK I' ∧ gc_sc (t + 10) I' ∧ (∃ z : Int, r = some (.inl z) ∧ 0 ≤ z ∧ z ≤ 1 ∧ (I' 23 1 = I 23 1) ∧ (I 23 5 ≤ I' 23 5) ∧ (B ≤ 1280 ∧ I' 1 17 + I' 23 1 ≤ B + I' 23 5)))) htb rfl (Nat.le_of_ble_eq_true rfl) ?_
  have N_t_10__39 : ¬ ((t + 10) = 39) := by omega
  have N_t__23 : ¬ (t = 23) := by omega
  have N_t_10__23 : ¬ ((t + 10) = 23) := by omega
  have N_23__t_10 : ¬ (23 = (t + 10)) := by omega
  have N_24__t_10 : ¬ (24 = (t + 10)) := by omega
  have N_41__t_10 : ¬ (41 = (t + 10)) := by omega
  have N_1__t_10 : ¬ (1 = (t + 10)) := by omega
  have N_t__t_10 : ¬ (t = (t + 10)) := by omega
  have N_39__t_10 : ¬ (39 = (t + 10)) := by omega
  have N_23__t : ¬ (23 = t) := by omega
  have N_24__t : ¬ (24 = t) := by omega
  have N_t_10__t : ¬ ((t + 10) = t) := by omega
  have N_41__t : ¬ (41 = t) := by omega
  have N_t__20 : ¬ (t = 20) := by omega
  have N_t__41 : ¬ (t = 41) := by omega
  have N_t_10__1 : ¬ ((t + 10) = 1) := by omega
  have N_t_10__20 : ¬ ((t + 10) = 20) := by omega
  have N_t_10__41 : ¬ ((t + 10) = 41) := by omega
  have t1 := gc_TK_mo KTK_I
  have f2 := (show 0 ≤ I 23 1 ∧ I 23 1 ≤ 1000 from gc_in hI R_23 rfl rfl)
  have f3 := (show 0 ≤ I 23 5 ∧ I 23 5 ≤ 1000 from gc_in hI R_23 rfl rfl)
  have f4 := (show 0 ≤ I 23 6 ∧ I 23 6 ≤ 1001 from gc_in hI R_23 rfl rfl)
  have f5 := (show 0 ≤ I 23 7 ∧ I 23 7 ≤ 125 from gc_in hI R_23 rfl rfl)
  have f6 := (show 0 ≤ I 1 17 ∧ I 1 17 ≤ 12000 from gc_in hI R_1 rfl rfl)
  have f7 := (show 0 ≤ I t 6 ∧ I t 6 ≤ 24 from gc_in hI R_t rfl rfl)
  have f8 := (show (-1) ≤ I 39 2 ∧ I 39 2 ≤ 999999 from gc_in hI R_39 rfl rfl)
  have L29 : ∀ (I9 : gr_I) (J10 : gr_J) , gc_Inv ro I9 → (∀ q j : Nat, ((q = 39 ∧ j = 3) ∨ (q = 39 ∧ j = 4) ∨ (q = 23 ∧ j = 5) ∨ (q = 23 ∧ j = 6) ∨ (q = 23 ∧ j = 7) ∨ (q = 23 ∧ j = 8) ∨ (q = 1 ∧ j = 17) ∨ (q = 1 ∧ j = 18) ∨ q = 20 ∨ q = 41 ∨ q = (t + 10) ∨ (q = t ∧ j = 6)) ∨ I9 q j = I q j) → (∀ q j : Nat, ((q = 23 ∧ j = 9)) ∨ J10 q j = J q j) → gc_LT I9 → gc_TK I9 → gc_sc (t + 10) I9 → gc_row 41 25 gc_fS I9 → gc_RC I9 → ((I9 23 1 = I 23 1) ∧ (I 23 5 ≤ I9 23 5) ∧ (B ≤ 1280 ∧ I9 1 17 + I9 23 1 ≤ B + I9 23 5) ∧ (I9 39 2 = (t : Int))) → gv_X (gc_E6 ws0 tb 5 (yX6_readSound, cX6_readSound, 1, (some .boolean)) kX6_readSound) (gv_Q cX6_readSound (some .boolean) sh (fun r h' => (∃ (I' : gr_I) (J' : gr_J), h' = gc_h sh I' J' A ∧ gc_Inv ro I' ∧ (∀ q j : Nat, ((q = 39 ∧ j = 3) ∨ (q = 39 ∧ j = 4) ∨ (q = 23 ∧ j = 5) ∨ (q = 23 ∧ j = 6) ∨ (q = 23 ∧ j = 7) ∨ (q = 23 ∧ j = 8) ∨ (q = 1 ∧ j = 17) ∨ (q = 1 ∧ j = 18) ∨ q = 20 ∨ q = 41 ∨ q = (t + 10) ∨ (q = t ∧ j = 6)) ∨ I' q j = I q j) ∧ (∀ q j : Nat, ((q = 23 ∧ j = 9)) ∨ J' q j = J q j) ∧ gc_LT I' ∧ gc_TK I' ∧ gc_sc (t + 10) I' ∧ (∃ z : Int, r = some (.inl z) ∧ 0 ≤ z ∧ z ≤ 1 ∧ (I' 23 1 = I 23 1) ∧ (I 23 5 ≤ I' 23 5) ∧ (B ≤ 1280 ∧ I' 1 17 + I' 23 1 ≤ B + I' 23 5))))) (29, [(0, .inr (.inr (some 39)))], [], sh, gc_h sh I9 J10 A) := by
    intro I9 J10 hI9 FI9 FJ10 KLT_I9 KTK_I9 KSC_I9 KRS_I9 KRC_I9 m_11
    obtain ⟨e0_11, e1_11, e2_11, e3_11⟩ := m_11
    have t12 := gc_TK_mo KTK_I9
    have f13 := (show 0 ≤ I9 23 1 ∧ I9 23 1 ≤ 1000 from gc_in hI9 R_23 rfl rfl)
    have f14 := (show 0 ≤ I9 23 5 ∧ I9 23 5 ≤ 1000 from gc_in hI9 R_23 rfl rfl)
    have f15 := (show 0 ≤ I9 23 6 ∧ I9 23 6 ≤ 1001 from gc_in hI9 R_23 rfl rfl)
    have f16 := (show 0 ≤ I9 23 7 ∧ I9 23 7 ≤ 125 from gc_in hI9 R_23 rfl rfl)
    have f17 := (show 0 ≤ I9 1 17 ∧ I9 1 17 ≤ 12000 from gc_in hI9 R_1 rfl rfl)
    have f18 := (show 0 ≤ I9 t 6 ∧ I9 t 6 ≤ 24 from gc_in hI9 R_t rfl rfl)
    have f19 := (show (-1) ≤ I9 39 2 ∧ I9 39 2 ≤ 999999 from gc_in hI9 R_39 rfl rfl)
    have L62 : ((I9 23 1 = I 23 1) ∧ (I 23 5 ≤ I9 23 5) ∧ (B ≤ 1280 ∧ I9 1 17 + I9 23 1 ≤ B + I9 23 5) ∧ (I9 39 2 = (t : Int))) → gv_X (gc_E6 ws0 tb 5 (yX6_readSound, cX6_readSound, 1, (some .boolean)) kX6_readSound) (gv_Q cX6_readSound (some .boolean) sh (fun r h' => (∃ (I' : gr_I) (J' : gr_J), h' = gc_h sh I' J' A ∧ gc_Inv ro I' ∧ (∀ q j : Nat, ((q = 39 ∧ j = 3) ∨ (q = 39 ∧ j = 4) ∨ (q = 23 ∧ j = 5) ∨ (q = 23 ∧ j = 6) ∨ (q = 23 ∧ j = 7) ∨ (q = 23 ∧ j = 8) ∨ (q = 1 ∧ j = 17) ∨ (q = 1 ∧ j = 18) ∨ q = 20 ∨ q = 41 ∨ q = (t + 10) ∨ (q = t ∧ j = 6)) ∨ I' q j = I q j) ∧ (∀ q j : Nat, ((q = 23 ∧ j = 9)) ∨ J' q j = J q j) ∧ gc_LT I' ∧ gc_TK I' ∧ gc_sc (t + 10) I' ∧ (∃ z : Int, r = some (.inl z) ∧ 0 ≤ z ∧ z ≤ 1 ∧ (I' 23 1 = I 23 1) ∧ (I 23 5 ≤ I' 23 5) ∧ (B ≤ 1280 ∧ I' 1 17 + I' 23 1 ≤ B + I' 23 5))))) (62, [(0, .inr (.inr (some 39)))], [], sh, gc_h sh I9 J10 A) := by
      intro m_20
      obtain ⟨e0_20, e1_20, e2_20, e3_20⟩ := m_20
      have t21 := gc_TK_mo KTK_I9
      have f22 := (show 0 ≤ I9 23 1 ∧ I9 23 1 ≤ 1000 from gc_in hI9 R_23 rfl rfl)
      have f23 := (show 0 ≤ I9 23 5 ∧ I9 23 5 ≤ 1000 from gc_in hI9 R_23 rfl rfl)
      have f24 := (show 0 ≤ I9 23 6 ∧ I9 23 6 ≤ 1001 from gc_in hI9 R_23 rfl rfl)
      have f25 := (show 0 ≤ I9 23 7 ∧ I9 23 7 ≤ 125 from gc_in hI9 R_23 rfl rfl)
      have f26 := (show 0 ≤ I9 1 17 ∧ I9 1 17 ≤ 12000 from gc_in hI9 R_1 rfl rfl)
      have f27 := (show 0 ≤ I9 t 6 ∧ I9 t 6 ≤ 24 from gc_in hI9 R_t rfl rfl)
      have f28 := (show (-1) ≤ I9 39 2 ∧ I9 39 2 ≤ 999999 from gc_in hI9 R_39 rfl rfl)
      refine gv_run 3 true hD (pc' := 65) (lv' := [(0, .inr (.inr (some 39)))]) (st' := [.inr (.inr (some 39)), .inl 5, .inr (.inr (some 39))]) (h' := gc_h sh I9 J10 A) (C := (((True ∧ True) ∧ True) ∧ True)) rfl ⟨⟨⟨trivial, trivial⟩, trivial⟩, trivial⟩ ?_
      refine gv_get hD rfl rfl S_39 ⟨by decide, B_39⟩ (gc_hA S_39 rfl A_39_1) ?_
      show gv_X _ _ (68, [(0, .inr (.inr (some 39)))], [.inr (.inr (some 23)), .inl 5, .inr (.inr (some 39))], sh, gc_h sh I9 J10 A)
      have f29 := (show 0 ≤ I9 23 5 ∧ I9 23 5 ≤ 1000 from gc_in hI9 R_23 rfl rfl)
      refine gv_get hD rfl rfl S_23 ⟨by decide, B_23⟩ (gc_hI S_23 rfl) ?_
      show gv_X _ _ (71, [(0, .inr (.inr (some 39)))], [.inl (I9 23 5), .inl 5, .inr (.inr (some 39))], sh, gc_h sh I9 J10 A)
      obtain ⟨r30, h30, E30, P30⟩ := d_X6_wrong (ws0 := ws0) (tb := tb) hws htb sh ro I9 J10 A hI9  5 (I9 23 5) hb   ⟨by omega, by omega⟩ ⟨by omega, by omega⟩  
      obtain ⟨I31, J32, rfl, hI31, g30, k30, ⟨z30, rfl, q30⟩⟩ := P30
      have FI31 := gc_frc (W := fun q j => (q = 39 ∧ j = 3) ∨ (q = 39 ∧ j = 4) ∨ (q = 23 ∧ j = 5) ∨ (q = 23 ∧ j = 6) ∨ (q = 23 ∧ j = 7) ∨ (q = 23 ∧ j = 8) ∨ (q = 1 ∧ j = 17) ∨ (q = 1 ∧ j = 18) ∨ q = 20 ∨ q = 41 ∨ q = (t + 10) ∨ (q = t ∧ j = 6)) (V := fun q j => (q = 39 ∧ j = 3) ∨ (q = 39 ∧ j = 4)) FI9 (fun q j h => (h.elim (fun h => (Or.inl h)) (fun h => (Or.inr (Or.inl h))))) g30
      have t33 := (g30 23 1).resolve_left (fun h => h.elim (fun h => absurd h.2 (by decide)) (fun h => absurd h.2 (by decide)))
      have t34 := (g30 23 5).resolve_left (fun h => h.elim (fun h => absurd h.2 (by decide)) (fun h => absurd h.2 (by decide)))
      have t35 := (g30 23 6).resolve_left (fun h => h.elim (fun h => absurd h.2 (by decide)) (fun h => absurd h.2 (by decide)))
      have t36 := (g30 23 7).resolve_left (fun h => h.elim (fun h => absurd h.2 (by decide)) (fun h => absurd h.2 (by decide)))
      have t37 := (g30 1 17).resolve_left (fun h => h.elim (fun h => absurd h.2 (by decide)) (fun h => absurd h.2 (by decide)))
      have t38 := (g30 t 6).resolve_left (fun h => h.elim (fun h => absurd h.2 (by decide)) (fun h => absurd h.2 (by decide)))
      have t39 := (g30 39 2).resolve_left (fun h => h.elim (fun h => absurd h.2 (by decide)) (fun h => absurd h.2 (by decide)))
      obtain rfl : J10 = J32 := funext fun q => funext fun j => ((k30 q j).resolve_left id).symm
      have KLT_I31 := gc_LT_fr KLT_I9 ((g30 23 5).resolve_left (fun h => h.elim (fun h => absurd h.2 (by decide)) (fun h => absurd h.2 (by decide)))) ((g30 23 6).resolve_left (fun h => h.elim (fun h => absurd h.2 (by decide)) (fun h => absurd h.2 (by decide)))) ((g30 23 7).resolve_left (fun h => h.elim (fun h => absurd h.2 (by decide)) (fun h => absurd h.2 (by decide)))) (fun k => (g30 24 k).resolve_left (fun h => h.elim (fun h => absurd h.1 (by decide)) (fun h => absurd h.1 (by decide))))
      have KTK_I31 := gc_TK_fr KTK_I9 ((g30 23 1).resolve_left (fun h => h.elim (fun h => absurd h.2 (by decide)) (fun h => absurd h.2 (by decide)))) ((g30 23 5).resolve_left (fun h => h.elim (fun h => absurd h.2 (by decide)) (fun h => absurd h.2 (by decide)))) ((g30 23 6).resolve_left (fun h => h.elim (fun h => absurd h.2 (by decide)) (fun h => absurd h.2 (by decide)))) ((g30 23 7).resolve_left (fun h => h.elim (fun h => absurd h.2 (by decide)) (fun h => absurd h.2 (by decide))))
      have KSC_I31 := gc_sc_fr KSC_I9 (fun k => (g30 (t + 10) k).resolve_left (fun h => h.elim (fun h => absurd h.1 N_t_10__39) (fun h => absurd h.1 N_t_10__39)))
      have KRS_I31 := gc_row_fr KRS_I9 (fun k => (g30 41 k).resolve_left (fun h => h.elim (fun h => absurd h.1 (by decide)) (fun h => absurd h.1 (by decide))))
      have KRC_I31 := gc_RC_fr KRC_I9 (fun k => (g30 41 k).resolve_left (fun h => h.elim (fun h => absurd h.1 (by decide)) (fun h => absurd h.1 (by decide))))
      refine gv_callV hD rfl (As := [.inl 5, .inl (I9 23 5)]) (st := []) rfl B_39 S_39 rfl (gc_lV6 hws rfl) (Nat.le_of_ble_eq_true rfl) (gz_Ev_mono (d := 1) (by decide) E30) ?_
      show gv_X _ _ (74, [(0, .inr (.inr (some 39)))], [.inl z30], sh, gc_h sh I31 J10 A)
      exact gv_zret hD rfl (by omega) ⟨I31, J10, rfl, hI31, FI31, FJ10, KLT_I31, KTK_I31, KSC_I31, ⟨_, rfl, by omega⟩⟩
    have L75 : ((I9 23 1 = I 23 1) ∧ (I 23 5 ≤ I9 23 5) ∧ (B ≤ 1280 ∧ I9 1 17 + I9 23 1 ≤ B + I9 23 5) ∧ (I9 39 2 = (t : Int))) → gv_X (gc_E6 ws0 tb 5 (yX6_readSound, cX6_readSound, 1, (some .boolean)) kX6_readSound) (gv_Q cX6_readSound (some .boolean) sh (fun r h' => (∃ (I' : gr_I) (J' : gr_J), h' = gc_h sh I' J' A ∧ gc_Inv ro I' ∧ (∀ q j : Nat, ((q = 39 ∧ j = 3) ∨ (q = 39 ∧ j = 4) ∨ (q = 23 ∧ j = 5) ∨ (q = 23 ∧ j = 6) ∨ (q = 23 ∧ j = 7) ∨ (q = 23 ∧ j = 8) ∨ (q = 1 ∧ j = 17) ∨ (q = 1 ∧ j = 18) ∨ q = 20 ∨ q = 41 ∨ q = (t + 10) ∨ (q = t ∧ j = 6)) ∨ I' q j = I q j) ∧ (∀ q j : Nat, ((q = 23 ∧ j = 9)) ∨ J' q j = J q j) ∧ gc_LT I' ∧ gc_TK I' ∧ gc_sc (t + 10) I' ∧ (∃ z : Int, r = some (.inl z) ∧ 0 ≤ z ∧ z ≤ 1 ∧ (I' 23 1 = I 23 1) ∧ (I 23 5 ≤ I' 23 5) ∧ (B ≤ 1280 ∧ I' 1 17 + I' 23 1 ≤ B + I' 23 5))))) (75, [(0, .inr (.inr (some 39)))], [], sh, gc_h sh I9 J10 A) := by
      intro m_40
      obtain ⟨e0_40, e1_40, e2_40, e3_40⟩ := m_40
      have t41 := gc_TK_mo KTK_I9
      have f42 := (show 0 ≤ I9 23 1 ∧ I9 23 1 ≤ 1000 from gc_in hI9 R_23 rfl rfl)
      have f43 := (show 0 ≤ I9 23 5 ∧ I9 23 5 ≤ 1000 from gc_in hI9 R_23 rfl rfl)
      have f44 := (show 0 ≤ I9 23 6 ∧ I9 23 6 ≤ 1001 from gc_in hI9 R_23 rfl rfl)
      have f45 := (show 0 ≤ I9 23 7 ∧ I9 23 7 ≤ 125 from gc_in hI9 R_23 rfl rfl)
      have f46 := (show 0 ≤ I9 1 17 ∧ I9 1 17 ≤ 12000 from gc_in hI9 R_1 rfl rfl)
      have f47 := (show 0 ≤ I9 t 6 ∧ I9 t 6 ≤ 24 from gc_in hI9 R_t rfl rfl)
      have f48 := (show (-1) ≤ I9 39 2 ∧ I9 39 2 ≤ 999999 from gc_in hI9 R_39 rfl rfl)
      have L100 : ∀ (I49 : gr_I) (J50 : gr_J) , gc_Inv ro I49 → (∀ q j : Nat, ((q = 39 ∧ j = 3) ∨ (q = 39 ∧ j = 4) ∨ (q = 23 ∧ j = 5) ∨ (q = 23 ∧ j = 6) ∨ (q = 23 ∧ j = 7) ∨ (q = 23 ∧ j = 8) ∨ (q = 1 ∧ j = 17) ∨ (q = 1 ∧ j = 18) ∨ q = 20 ∨ q = 41 ∨ q = (t + 10) ∨ (q = t ∧ j = 6)) ∨ I49 q j = I q j) → (∀ q j : Nat, ((q = 23 ∧ j = 9)) ∨ J50 q j = J q j) → gc_LT I49 → gc_TK I49 → gc_sc (t + 10) I49 → ((I49 23 1 = I 23 1) ∧ (I 23 5 ≤ I49 23 5) ∧ (B ≤ 1280 ∧ I49 1 17 + I49 23 1 ≤ B + I49 23 5) ∧ (I49 39 2 = (t : Int))) → gv_X (gc_E6 ws0 tb 5 (yX6_readSound, cX6_readSound, 1, (some .boolean)) kX6_readSound) (gv_Q cX6_readSound (some .boolean) sh (fun r h' => (∃ (I' : gr_I) (J' : gr_J), h' = gc_h sh I' J' A ∧ gc_Inv ro I' ∧ (∀ q j : Nat, ((q = 39 ∧ j = 3) ∨ (q = 39 ∧ j = 4) ∨ (q = 23 ∧ j = 5) ∨ (q = 23 ∧ j = 6) ∨ (q = 23 ∧ j = 7) ∨ (q = 23 ∧ j = 8) ∨ (q = 1 ∧ j = 17) ∨ (q = 1 ∧ j = 18) ∨ q = 20 ∨ q = 41 ∨ q = (t + 10) ∨ (q = t ∧ j = 6)) ∨ I' q j = I q j) ∧ (∀ q j : Nat, ((q = 23 ∧ j = 9)) ∨ J' q j = J q j) ∧ gc_LT I' ∧ gc_TK I' ∧ gc_sc (t + 10) I' ∧ (∃ z : Int, r = some (.inl z) ∧ 0 ≤ z ∧ z ≤ 1 ∧ (I' 23 1 = I 23 1) ∧ (I 23 5 ≤ I' 23 5) ∧ (B ≤ 1280 ∧ I' 1 17 + I' 23 1 ≤ B + I' 23 5))))) (100, [], [], sh, gc_h sh I49 J50 A) := by
        intro I49 J50 hI49 FI49 FJ50 KLT_I49 KTK_I49 KSC_I49 m_51
        clear e0_40 e1_40 e2_40 e3_40 t41 f42 f43 f44 f45 f46 f47 f48 e0_11 e1_11 e2_11 e3_11 t12 f13 f14 f15 f16 f17 f18 f19
        obtain ⟨e0_51, e1_51, e2_51, e3_51⟩ := m_51
        have t52 := gc_TK_mo KTK_I49
        have f53 := (show 0 ≤ I49 23 1 ∧ I49 23 1 ≤ 1000 from gc_in hI49 R_23 rfl rfl)
        have f54 := (show 0 ≤ I49 23 5 ∧ I49 23 5 ≤ 1000 from gc_in hI49 R_23 rfl rfl)
        have f55 := (show 0 ≤ I49 23 6 ∧ I49 23 6 ≤ 1001 from gc_in hI49 R_23 rfl rfl)
        have f56 := (show 0 ≤ I49 23 7 ∧ I49 23 7 ≤ 125 from gc_in hI49 R_23 rfl rfl)
        have f57 := (show 0 ≤ I49 1 17 ∧ I49 1 17 ≤ 12000 from gc_in hI49 R_1 rfl rfl)
        have f58 := (show 0 ≤ I49 t 6 ∧ I49 t 6 ≤ 24 from gc_in hI49 R_t rfl rfl)
        have f59 := (show (-1) ≤ I49 39 2 ∧ I49 39 2 ≤ 999999 from gc_in hI49 R_39 rfl rfl)
        refine gv_run 1 true hD (pc' := 101) (lv' := []) (st' := [.inl 0]) (h' := gc_h sh I49 J50 A) (C := (True ∧ True)) rfl ⟨trivial, trivial⟩ ?_
        exact gv_zret hD rfl (by omega) ⟨I49, J50, rfl, hI49, FI49, FJ50, KLT_I49, KTK_I49, KSC_I49, ⟨_, rfl, by omega⟩⟩
      have L181 : ∀ (I60 : gr_I) (J61 : gr_J) , gc_Inv ro I60 → (∀ q j : Nat, ((q = 39 ∧ j = 3) ∨ (q = 39 ∧ j = 4) ∨ (q = 23 ∧ j = 5) ∨ (q = 23 ∧ j = 6) ∨ (q = 23 ∧ j = 7) ∨ (q = 23 ∧ j = 8) ∨ (q = 1 ∧ j = 17) ∨ (q = 1 ∧ j = 18) ∨ q = 20 ∨ q = 41 ∨ q = (t + 10) ∨ (q = t ∧ j = 6)) ∨ I60 q j = I q j) → (∀ q j : Nat, ((q = 23 ∧ j = 9)) ∨ J61 q j = J q j) → gc_LT I60 → gc_TK I60 → gc_sc (t + 10) I60 → ((I60 23 1 = I 23 1) ∧ (I 23 5 ≤ I60 23 5) ∧ (B ≤ 1280 ∧ I60 1 17 + I60 23 1 ≤ B + I60 23 5) ∧ (I60 39 2 = (t : Int))) → gv_X (gc_E6 ws0 tb 5 (yX6_readSound, cX6_readSound, 1, (some .boolean)) kX6_readSound) (gv_Q cX6_readSound (some .boolean) sh (fun r h' => (∃ (I' : gr_I) (J' : gr_J), h' = gc_h sh I' J' A ∧ gc_Inv ro I' ∧ (∀ q j : Nat, ((q = 39 ∧ j = 3) ∨ (q = 39 ∧ j = 4) ∨ (q = 23 ∧ j = 5) ∨ (q = 23 ∧ j = 6) ∨ (q = 23 ∧ j = 7) ∨ (q = 23 ∧ j = 8) ∨ (q = 1 ∧ j = 17) ∨ (q = 1 ∧ j = 18) ∨ q = 20 ∨ q = 41 ∨ q = (t + 10) ∨ (q = t ∧ j = 6)) ∨ I' q j = I q j) ∧ (∀ q j : Nat, ((q = 23 ∧ j = 9)) ∨ J' q j = J q j) ∧ gc_LT I' ∧ gc_TK I' ∧ gc_sc (t + 10) I' ∧ (∃ z : Int, r = some (.inl z) ∧ 0 ≤ z ∧ z ≤ 1 ∧ (I' 23 1 = I 23 1) ∧ (I 23 5 ≤ I' 23 5) ∧ (B ≤ 1280 ∧ I' 1 17 + I' 23 1 ≤ B + I' 23 5))))) (181, [], [], sh, gc_h sh I60 J61 A) := by
        intro I60 J61 hI60 FI60 FJ61 KLT_I60 KTK_I60 KSC_I60 m_62
        clear e0_40 e1_40 e2_40 e3_40 t41 f42 f43 f44 f45 f46 f47 f48 e0_11 e1_11 e2_11 e3_11 t12 f13 f14 f15 f16 f17 f18 f19
        obtain ⟨e0_62, e1_62, e2_62, e3_62⟩ := m_62
        have t63 := gc_TK_mo KTK_I60
        have f64 := (show 0 ≤ I60 23 1 ∧ I60 23 1 ≤ 1000 from gc_in hI60 R_23 rfl rfl)
        have f65 := (show 0 ≤ I60 23 5 ∧ I60 23 5 ≤ 1000 from gc_in hI60 R_23 rfl rfl)
        have f66 := (show 0 ≤ I60 23 6 ∧ I60 23 6 ≤ 1001 from gc_in hI60 R_23 rfl rfl)
        have f67 := (show 0 ≤ I60 23 7 ∧ I60 23 7 ≤ 125 from gc_in hI60 R_23 rfl rfl)
        have f68 := (show 0 ≤ I60 1 17 ∧ I60 1 17 ≤ 12000 from gc_in hI60 R_1 rfl rfl)
        have f69 := (show 0 ≤ I60 t 6 ∧ I60 t 6 ≤ 24 from gc_in hI60 R_t rfl rfl)
        have f70 := (show (-1) ≤ I60 39 2 ∧ I60 39 2 ≤ 999999 from gc_in hI60 R_39 rfl rfl)
        refine gv_run 1 true hD (pc' := 182) (lv' := []) (st' := [.inl 0]) (h' := gc_h sh I60 J61 A) (C := (True ∧ True)) rfl ⟨trivial, trivial⟩ ?_
        exact gv_zret hD rfl (by omega) ⟨I60, J61, rfl, hI60, FI60, FJ61, KLT_I60, KTK_I60, KSC_I60, ⟨_, rfl, by omega⟩⟩
      have L183 : ∀ (I71 : gr_I) (J72 : gr_J) , gc_Inv ro I71 → (∀ q j : Nat, ((q = 39 ∧ j = 3) ∨ (q = 39 ∧ j = 4) ∨ (q = 23 ∧ j = 5) ∨ (q = 23 ∧ j = 6) ∨ (q = 23 ∧ j = 7) ∨ (q = 23 ∧ j = 8) ∨ (q = 1 ∧ j = 17) ∨ (q = 1 ∧ j = 18) ∨ q = 20 ∨ q = 41 ∨ q = (t + 10) ∨ (q = t ∧ j = 6)) ∨ I71 q j = I q j) → (∀ q j : Nat, ((q = 23 ∧ j = 9)) ∨ J72 q j = J q j) → gc_LT I71 → gc_TK I71 → gc_sc (t + 10) I71 → gc_row 41 25 gc_fS I71 → gc_RC I71 → ((I71 23 1 = I 23 1) ∧ (I 23 5 ≤ I71 23 5) ∧ (B ≤ 1280 ∧ I71 1 17 + I71 23 1 ≤ B + I71 23 5) ∧ (I71 39 2 = (t : Int))) → gv_X (gc_E6 ws0 tb 5 (yX6_readSound, cX6_readSound, 1, (some .boolean)) kX6_readSound) (gv_Q cX6_readSound (some .boolean) sh (fun r h' => (∃ (I' : gr_I) (J' : gr_J), h' = gc_h sh I' J' A ∧ gc_Inv ro I' ∧ (∀ q j : Nat, ((q = 39 ∧ j = 3) ∨ (q = 39 ∧ j = 4) ∨ (q = 23 ∧ j = 5) ∨ (q = 23 ∧ j = 6) ∨ (q = 23 ∧ j = 7) ∨ (q = 23 ∧ j = 8) ∨ (q = 1 ∧ j = 17) ∨ (q = 1 ∧ j = 18) ∨ q = 20 ∨ q = 41 ∨ q = (t + 10) ∨ (q = t ∧ j = 6)) ∨ I' q j = I q j) ∧ (∀ q j : Nat, ((q = 23 ∧ j = 9)) ∨ J' q j = J q j) ∧ gc_LT I' ∧ gc_TK I' ∧ gc_sc (t + 10) I' ∧ (∃ z : Int, r = some (.inl z) ∧ 0 ≤ z ∧ z ≤ 1 ∧ (I' 23 1 = I 23 1) ∧ (I 23 5 ≤ I' 23 5) ∧ (B ≤ 1280 ∧ I' 1 17 + I' 23 1 ≤ B + I' 23 5))))) (183, [(0, .inr (.inr (some 39)))], [], sh, gc_h sh I71 J72 A) := by
        intro I71 J72 hI71 FI71 FJ72 KLT_I71 KTK_I71 KSC_I71 KRS_I71 KRC_I71 m_73
        clear e0_40 e1_40 e2_40 e3_40 t41 f42 f43 f44 f45 f46 f47 f48 e0_11 e1_11 e2_11 e3_11 t12 f13 f14 f15 f16 f17 f18 f19
        obtain ⟨e0_73, e1_73, e2_73, e3_73⟩ := m_73
        have t74 := gc_TK_mo KTK_I71
        have f75 := (show 0 ≤ I71 23 1 ∧ I71 23 1 ≤ 1000 from gc_in hI71 R_23 rfl rfl)
        have f76 := (show 0 ≤ I71 23 5 ∧ I71 23 5 ≤ 1000 from gc_in hI71 R_23 rfl rfl)
        have f77 := (show 0 ≤ I71 23 6 ∧ I71 23 6 ≤ 1001 from gc_in hI71 R_23 rfl rfl)
        have f78 := (show 0 ≤ I71 23 7 ∧ I71 23 7 ≤ 125 from gc_in hI71 R_23 rfl rfl)
        have f79 := (show 0 ≤ I71 1 17 ∧ I71 1 17 ≤ 12000 from gc_in hI71 R_1 rfl rfl)
        have f80 := (show 0 ≤ I71 t 6 ∧ I71 t 6 ≤ 24 from gc_in hI71 R_t rfl rfl)
        have f81 := (show (-1) ≤ I71 39 2 ∧ I71 39 2 ≤ 999999 from gc_in hI71 R_39 rfl rfl)
        have L201 : ∀ (s1_82 : Int), ((0 ≤ s1_82 ∧ s1_82 ≤ 1) ∧ (s1_82 = 1 ∨ I71 t 6 < 24) ∧ (I71 23 1 = I 23 1) ∧ (I 23 5 ≤ I71 23 5) ∧ (B ≤ 1280 ∧ I71 1 17 + I71 23 1 ≤ B + I71 23 5) ∧ (I71 39 2 = (t : Int))) → gv_X (gc_E6 ws0 tb 5 (yX6_readSound, cX6_readSound, 1, (some .boolean)) kX6_readSound) (gv_Q cX6_readSound (some .boolean) sh (fun r h' => (∃ (I' : gr_I) (J' : gr_J), h' = gc_h sh I' J' A ∧ gc_Inv ro I' ∧ (∀ q j : Nat, ((q = 39 ∧ j = 3) ∨ (q = 39 ∧ j = 4) ∨ (q = 23 ∧ j = 5) ∨ (q = 23 ∧ j = 6) ∨ (q = 23 ∧ j = 7) ∨ (q = 23 ∧ j = 8) ∨ (q = 1 ∧ j = 17) ∨ (q = 1 ∧ j = 18) ∨ q = 20 ∨ q = 41 ∨ q = (t + 10) ∨ (q = t ∧ j = 6)) ∨ I' q j = I q j) ∧ (∀ q j : Nat, ((q = 23 ∧ j = 9)) ∨ J' q j = J q j) ∧ gc_LT I' ∧ gc_TK I' ∧ gc_sc (t + 10) I' ∧ (∃ z : Int, r = some (.inl z) ∧ 0 ≤ z ∧ z ≤ 1 ∧ (I' 23 1 = I 23 1) ∧ (I 23 5 ≤ I' 23 5) ∧ (B ≤ 1280 ∧ I' 1 17 + I' 23 1 ≤ B + I' 23 5))))) (201, [(0, .inr (.inr (some 39)))], [.inl s1_82, .inr (.inr (some 39))], sh, gc_h sh I71 J72 A) := by
          intro s1_82 m_82
          obtain ⟨hs1_82, e0_82, e1_82, e2_82, e3_82, e4_82⟩ := m_82
          have t83 := gc_TK_mo KTK_I71
          have f84 := (show 0 ≤ I71 23 1 ∧ I71 23 1 ≤ 1000 from gc_in hI71 R_23 rfl rfl)
          have f85 := (show 0 ≤ I71 23 5 ∧ I71 23 5 ≤ 1000 from gc_in hI71 R_23 rfl rfl)
          have f86 := (show 0 ≤ I71 23 6 ∧ I71 23 6 ≤ 1001 from gc_in hI71 R_23 rfl rfl)
          have f87 := (show 0 ≤ I71 23 7 ∧ I71 23 7 ≤ 125 from gc_in hI71 R_23 rfl rfl)
          have f88 := (show 0 ≤ I71 1 17 ∧ I71 1 17 ≤ 12000 from gc_in hI71 R_1 rfl rfl)
          have f89 := (show 0 ≤ I71 t 6 ∧ I71 t 6 ≤ 24 from gc_in hI71 R_t rfl rfl)
          have f90 := (show (-1) ≤ I71 39 2 ∧ I71 39 2 ≤ 999999 from gc_in hI71 R_39 rfl rfl)
          obtain ⟨r91, h91, E91, P91⟩ := d_X6_closes (ws0 := ws0) (tb := tb) hws htb sh ro I71 J72 A hI71  s1_82 hb   ⟨by omega, by omega⟩  KLT_I71 KTK_I71
          obtain ⟨I92, J93, rfl, hI92, g91, k91, KLT_I92, KTK_I92, ⟨z91, rfl, q91⟩⟩ := P91
          have FI92 := gc_frc (W := fun q j => (q = 39 ∧ j = 3) ∨ (q = 39 ∧ j = 4) ∨ (q = 23 ∧ j = 5) ∨ (q = 23 ∧ j = 6) ∨ (q = 23 ∧ j = 7) ∨ (q = 23 ∧ j = 8) ∨ (q = 1 ∧ j = 17) ∨ (q = 1 ∧ j = 18) ∨ q = 20 ∨ q = 41 ∨ q = (t + 10) ∨ (q = t ∧ j = 6)) (V := fun q j => (q = 39 ∧ j = 3) ∨ (q = 39 ∧ j = 4) ∨ (q = 23 ∧ j = 5) ∨ (q = 23 ∧ j = 6) ∨ (q = 23 ∧ j = 7) ∨ (q = 23 ∧ j = 8)) FI71 (fun q j h => (h.elim (fun h => (Or.inl h)) (fun h => (h.elim (fun h => (Or.inr (Or.inl h))) (fun h => (h.elim (fun h => (Or.inr (Or.inr (Or.inl h)))) (fun h => (h.elim (fun h => (Or.inr (Or.inr (Or.inr (Or.inl h))))) (fun h => (h.elim (fun h => (Or.inr (Or.inr (Or.inr (Or.inr (Or.inl h)))))) (fun h => (Or.inr (Or.inr (Or.inr (Or.inr (Or.inr (Or.inl h))))))))))))))))) g91
          have FJ93 := gc_frc (W := fun q j => (q = 23 ∧ j = 9)) (V := fun q j => (q = 23 ∧ j = 9)) FJ72 (fun q j h => h) k91
          have t94 := (g91 23 1).resolve_left (fun h => h.elim (fun h => absurd h.2 (by decide)) (fun h => h.elim (fun h => absurd h.2 (by decide)) (fun h => h.elim (fun h => absurd h.2 (by decide)) (fun h => h.elim (fun h => absurd h.2 (by decide)) (fun h => h.elim (fun h => absurd h.2 (by decide)) (fun h => absurd h.2 (by decide)))))))
          have t95 := (g91 1 17).resolve_left (fun h => h.elim (fun h => absurd h.2 (by decide)) (fun h => h.elim (fun h => absurd h.2 (by decide)) (fun h => h.elim (fun h => absurd h.2 (by decide)) (fun h => h.elim (fun h => absurd h.2 (by decide)) (fun h => h.elim (fun h => absurd h.2 (by decide)) (fun h => absurd h.2 (by decide)))))))
          have t96 := (g91 t 6).resolve_left (fun h => h.elim (fun h => absurd h.2 (by decide)) (fun h => h.elim (fun h => absurd h.2 (by decide)) (fun h => h.elim (fun h => absurd h.2 (by decide)) (fun h => h.elim (fun h => absurd h.1 N_t__23) (fun h => h.elim (fun h => absurd h.2 (by decide)) (fun h => absurd h.2 (by decide)))))))
          have t97 := (g91 39 2).resolve_left (fun h => h.elim (fun h => absurd h.2 (by decide)) (fun h => h.elim (fun h => absurd h.2 (by decide)) (fun h => h.elim (fun h => absurd h.2 (by decide)) (fun h => h.elim (fun h => absurd h.2 (by decide)) (fun h => h.elim (fun h => absurd h.2 (by decide)) (fun h => absurd h.2 (by decide)))))))
          have f98 := (show 0 ≤ I92 23 5 ∧ I92 23 5 ≤ 1000 from gc_in hI92 R_23 rfl rfl)
          have f99 := (show 0 ≤ I92 23 6 ∧ I92 23 6 ≤ 1001 from gc_in hI92 R_23 rfl rfl)
          have f100 := (show 0 ≤ I92 23 7 ∧ I92 23 7 ≤ 125 from gc_in hI92 R_23 rfl rfl)
          have t101 := gc_TK_mo KTK_I92
          have KSC_I92 := gc_sc_fr KSC_I71 (fun k => (g91 (t + 10) k).resolve_left (fun h => h.elim (fun h => absurd h.1 N_t_10__39) (fun h => h.elim (fun h => absurd h.1 N_t_10__39) (fun h => h.elim (fun h => absurd h.1 N_t_10__23) (fun h => h.elim (fun h => absurd h.1 N_t_10__23) (fun h => h.elim (fun h => absurd h.1 N_t_10__23) (fun h => absurd h.1 N_t_10__23)))))))
          have KRS_I92 := gc_row_fr KRS_I71 (fun k => (g91 41 k).resolve_left (fun h => h.elim (fun h => absurd h.1 (by decide)) (fun h => h.elim (fun h => absurd h.1 (by decide)) (fun h => h.elim (fun h => absurd h.1 (by decide)) (fun h => h.elim (fun h => absurd h.1 (by decide)) (fun h => h.elim (fun h => absurd h.1 (by decide)) (fun h => absurd h.1 (by decide))))))))
          have KRC_I92 := gc_RC_fr KRC_I71 (fun k => (g91 41 k).resolve_left (fun h => h.elim (fun h => absurd h.1 (by decide)) (fun h => h.elim (fun h => absurd h.1 (by decide)) (fun h => h.elim (fun h => absurd h.1 (by decide)) (fun h => h.elim (fun h => absurd h.1 (by decide)) (fun h => h.elim (fun h => absurd h.1 (by decide)) (fun h => absurd h.1 (by decide))))))))
          refine gv_callV hD rfl (As := [.inl s1_82]) (st := []) rfl B_39 S_39 rfl (gc_lV6 hws rfl) (Nat.le_of_ble_eq_true rfl) (gz_Ev_mono (d := 4) (by decide) E91) ?_
          show gv_X _ _ (204, [(0, .inr (.inr (some 39)))], [.inl z91], sh, gc_h sh I92 J93 A)
          refine gv_if_ne (t := 209) hD rfl rfl ⟨by omega, by omega⟩ (fun c102 => ?_) (fun c102 => ?_)
          · show gv_X _ _ (209, [(0, .inr (.inr (some 39)))], [], sh, gc_h sh I92 J93 A)
            refine gv_run 1 true hD (pc' := 210) (lv' := [(0, .inr (.inr (some 39)))]) (st' := [.inr (.inr (some 39))]) (h' := gc_h sh I92 J93 A) (C := (True ∧ True)) rfl ⟨trivial, trivial⟩ ?_
            refine gv_get hD rfl rfl S_39 ⟨by decide, B_39⟩ (gc_hA S_39 rfl A_39_10) ?_
            show gv_X _ _ (213, [(0, .inr (.inr (some 39)))], [.inr (.inr (some 41))], sh, gc_h sh I92 J93 A)
            refine gv_run 2 true hD (pc' := 215) (lv' := [(0, .inr (.inr (some 39)))]) (st' := [.inr (.inr (some 39)), .inl 0, .inr (.inr (some 41))]) (h' := gc_h sh I92 J93 A) (C := ((True ∧ True) ∧ True)) rfl ⟨⟨trivial, trivial⟩, trivial⟩ ?_
            refine gv_get hD rfl rfl S_39 ⟨by decide, B_39⟩ (gc_h5 (t := t) S_39 rfl (by omega)) ?_
            show gv_X _ _ (218, [(0, .inr (.inr (some 39)))], [.inr (.inr (some t)), .inl 0, .inr (.inr (some 41))], sh, gc_h sh I92 J93 A)
            refine gv_get hD rfl rfl S_t ⟨by decide, B_t⟩ (gc_hA S_t rfl A_t_7) ?_
            show gv_X _ _ (221, [(0, .inr (.inr (some 39)))], [.inr (.inr (some (t + 10))), .inl 0, .inr (.inr (some 41))], sh, gc_h sh I92 J93 A)
            refine gv_run 1 true hD (pc' := 222) (lv' := [(0, .inr (.inr (some 39)))]) (st' := [.inr (.inr (some 39)), .inr (.inr (some (t + 10))), .inl 0, .inr (.inr (some 41))]) (h' := gc_h sh I92 J93 A) (C := (True ∧ True)) rfl ⟨trivial, trivial⟩ ?_
            refine gv_get hD rfl rfl S_39 ⟨by decide, B_39⟩ (gc_h5 (t := t) S_39 rfl (by omega)) ?_
            show gv_X _ _ (225, [(0, .inr (.inr (some 39)))], [.inr (.inr (some t)), .inr (.inr (some (t + 10))), .inl 0, .inr (.inr (some 41))], sh, gc_h sh I92 J93 A)
            have f103 := (show 0 ≤ I92 t 6 ∧ I92 t 6 ≤ 24 from gc_in hI92 R_t rfl rfl)
            refine gv_get hD rfl rfl S_t ⟨by decide, B_t⟩ (gc_hI S_t rfl) ?_
            show gv_X _ _ (228, [(0, .inr (.inr (some 39)))], [.inl (I92 t 6), .inr (.inr (some (t + 10))), .inl 0, .inr (.inr (some 41))], sh, gc_h sh I92 J93 A)
            refine gv_run 3 true hD (pc' := 233) (lv' := [(0, .inr (.inr (some 39)))]) (st' := [.inl 25, .inl ((I92 t 6) * 25), .inr (.inr (some (t + 10))), .inl 0, .inr (.inr (some 41))]) (h' := gc_h sh I92 J93 A) (C := (((True ∧ True) ∧ True) ∧ True)) rfl ⟨⟨⟨trivial, trivial⟩, trivial⟩, trivial⟩ ?_
            refine gv_copy hD rfl (gc_lC6_263 hws) (Nat.le_of_ble_eq_true rfl) ⟨B_41, B_t_10⟩ S_41 S_t_10 (by decide) ⟨by decide, by decide⟩ ⟨by omega, by omega, by omega⟩ (by omega) (by omega) (fun h => absurd h (by decide)) ?_
            refine gc_cp hI92 S_41 S_t_10 (by decide) (fun j hj => gc_RS_cp KRS_I92 R_t_10 (by omega) (by decide) hj) (fun I105 hI105 p104 q104 => ?_)
            have FI105 := gc_frp (W := fun q j => (q = 39 ∧ j = 3) ∨ (q = 39 ∧ j = 4) ∨ (q = 23 ∧ j = 5) ∨ (q = 23 ∧ j = 6) ∨ (q = 23 ∧ j = 7) ∨ (q = 23 ∧ j = 8) ∨ (q = 1 ∧ j = 17) ∨ (q = 1 ∧ j = 18) ∨ q = 20 ∨ q = 41 ∨ q = (t + 10) ∨ (q = t ∧ j = 6)) (V := fun q j => q = (t + 10) ∧ Int.toNat (((I92 t 6) * 25)) ≤ j ∧ j < Int.toNat (((I92 t 6) * 25)) + Int.toNat 25) FI92 (fun q j h => (Or.inr (Or.inr (Or.inr (Or.inr (Or.inr (Or.inr (Or.inr (Or.inr (Or.inr (Or.inr (Or.inl h.1)))))))))))) p104
            have KLT_I105 := gc_LT_fr KLT_I92 (p104 23 5 (fun h => absurd h.1 N_23__t_10)) (p104 23 6 (fun h => absurd h.1 N_23__t_10)) (p104 23 7 (fun h => absurd h.1 N_23__t_10)) (fun k => p104 24 k (fun h => absurd h.1 N_24__t_10))
            have KTK_I105 := gc_TK_fr KTK_I92 (p104 23 1 (fun h => absurd h.1 N_23__t_10)) (p104 23 5 (fun h => absurd h.1 N_23__t_10)) (p104 23 6 (fun h => absurd h.1 N_23__t_10)) (p104 23 7 (fun h => absurd h.1 N_23__t_10))
            have KRS_I105 := gc_row_fr KRS_I92 (fun k => p104 41 k (fun h => absurd h.1 N_41__t_10))
            have KRC_I105 := gc_RC_fr KRC_I92 (fun k => p104 41 k (fun h => absurd h.1 N_41__t_10))
            have KSC_I105 : gc_sc (t + 10) I105 := gc_sc_cp KSC_I92 KRC_I92 p104 q104 (by omega) (by decide) (by decide)
            have t107 := p104 23 1 (fun h => absurd h.1 N_23__t_10)
            have t108 := p104 23 5 (fun h => absurd h.1 N_23__t_10)
            have t109 := p104 23 6 (fun h => absurd h.1 N_23__t_10)
            have t110 := p104 23 7 (fun h => absurd h.1 N_23__t_10)
            have t111 := p104 1 17 (fun h => absurd h.1 N_1__t_10)
            have t112 := p104 t 6 (fun h => absurd h.1 N_t__t_10)
            have t113 := p104 39 2 (fun h => absurd h.1 N_39__t_10)
            have t114 := gc_TK_mo KTK_I105
            have f115 := (show 0 ≤ I105 23 1 ∧ I105 23 1 ≤ 1000 from gc_in hI105 R_23 rfl rfl)
            have f116 := (show 0 ≤ I105 23 5 ∧ I105 23 5 ≤ 1000 from gc_in hI105 R_23 rfl rfl)
            have f117 := (show 0 ≤ I105 23 6 ∧ I105 23 6 ≤ 1001 from gc_in hI105 R_23 rfl rfl)
            have f118 := (show 0 ≤ I105 23 7 ∧ I105 23 7 ≤ 125 from gc_in hI105 R_23 rfl rfl)
            have f119 := (show 0 ≤ I105 1 17 ∧ I105 1 17 ≤ 12000 from gc_in hI105 R_1 rfl rfl)
            have f120 := (show 0 ≤ I105 t 6 ∧ I105 t 6 ≤ 24 from gc_in hI105 R_t rfl rfl)
            have f121 := (show (-1) ≤ I105 39 2 ∧ I105 39 2 ≤ 999999 from gc_in hI105 R_39 rfl rfl)
            show gv_X _ _ (236, [(0, .inr (.inr (some 39)))], [], sh, gc_h sh I105 J93 A)
            refine gv_run 1 true hD (pc' := 237) (lv' := [(0, .inr (.inr (some 39)))]) (st' := [.inr (.inr (some 39))]) (h' := gc_h sh I105 J93 A) (C := (True ∧ True)) rfl ⟨trivial, trivial⟩ ?_
            refine gv_get hD rfl rfl S_39 ⟨by decide, B_39⟩ (gc_h5 (t := t) S_39 rfl (by omega)) ?_
            show gv_X _ _ (240, [(0, .inr (.inr (some 39)))], [.inr (.inr (some t))], sh, gc_h sh I105 J93 A)
            refine gv_run 1 true hD (pc' := 241) (lv' := [(0, .inr (.inr (some 39)))]) (st' := [.inr (.inr (some t)), .inr (.inr (some t))]) (h' := gc_h sh I105 J93 A) (C := (True ∧ True)) rfl ⟨trivial, trivial⟩ ?_
            have f122 := (show 0 ≤ I105 t 6 ∧ I105 t 6 ≤ 24 from gc_in hI105 R_t rfl rfl)
            refine gv_get hD rfl rfl S_t ⟨by decide, B_t⟩ (gc_hI S_t rfl) ?_
            show gv_X _ _ (244, [(0, .inr (.inr (some 39)))], [.inl (I105 t 6), .inr (.inr (some t))], sh, gc_h sh I105 J93 A)
            refine gv_run 2 true hD (pc' := 246) (lv' := [(0, .inr (.inr (some 39)))]) (st' := [.inl ((I105 t 6) + 1), .inr (.inr (some t))]) (h' := gc_h sh I105 J93 A) (C := ((True ∧ True) ∧ True)) rfl ⟨⟨trivial, trivial⟩, trivial⟩ ?_
            refine gv_put hD rfl rfl S_t ⟨by decide, B_t⟩ rfl trivial ?_
            refine gc_st (k := 6) hI105 S_t rfl R_t (lo := 0) (hi := 24) rfl rfl (by omega) (by omega) (fun I123 hI123 q124 p124 => ?_)
            have FI123 := gc_frs (W := fun q j => (q = 39 ∧ j = 3) ∨ (q = 39 ∧ j = 4) ∨ (q = 23 ∧ j = 5) ∨ (q = 23 ∧ j = 6) ∨ (q = 23 ∧ j = 7) ∨ (q = 23 ∧ j = 8) ∨ (q = 1 ∧ j = 17) ∨ (q = 1 ∧ j = 18) ∨ q = 20 ∨ q = 41 ∨ q = (t + 10) ∨ (q = t ∧ j = 6)) FI105 (Or.inr (Or.inr (Or.inr (Or.inr (Or.inr (Or.inr (Or.inr (Or.inr (Or.inr (Or.inr (Or.inr ⟨rfl, rfl⟩))))))))))) p124
            have t125 := p124 23 1 (fun h => absurd h.2 (by decide))
            have t126 := p124 23 5 (fun h => absurd h.2 (by decide))
            have t127 := p124 23 6 (fun h => absurd h.1 N_23__t)
            have t128 := p124 23 7 (fun h => absurd h.2 (by decide))
            have t129 := p124 1 17 (fun h => absurd h.2 (by decide))
            have t130 := p124 39 2 (fun h => absurd h.2 (by decide))
            have f131 := (show 0 ≤ I123 t 6 ∧ I123 t 6 ≤ 24 from gc_in hI123 R_t rfl rfl)
            have KLT_I123 := gc_LT_fr KLT_I105 (p124 23 5 (fun h => absurd h.2 (by decide))) (p124 23 6 (fun h => absurd h.1 N_23__t)) (p124 23 7 (fun h => absurd h.2 (by decide))) (fun k => p124 24 k (fun h => absurd h.1 N_24__t))
            have KTK_I123 := gc_TK_fr KTK_I105 (p124 23 1 (fun h => absurd h.2 (by decide))) (p124 23 5 (fun h => absurd h.2 (by decide))) (p124 23 6 (fun h => absurd h.1 N_23__t)) (p124 23 7 (fun h => absurd h.2 (by decide)))
            have KSC_I123 := gc_sc_fr KSC_I105 (fun k => p124 (t + 10) k (fun h => absurd h.1 N_t_10__t))
            have KRS_I123 := gc_row_fr KRS_I105 (fun k => p124 41 k (fun h => absurd h.1 N_41__t))
            have KRC_I123 := gc_RC_fr KRC_I105 (fun k => p124 41 k (fun h => absurd h.1 N_41__t))
            show gv_X _ _ (249, [(0, .inr (.inr (some 39)))], [], sh, gc_h sh I123 J93 A)
            refine gv_run 1 true hD (pc' := 250) (lv' := [(0, .inr (.inr (some 39)))]) (st' := [.inl 1]) (h' := gc_h sh I123 J93 A) (C := (True ∧ True)) rfl ⟨trivial, trivial⟩ ?_
            exact gv_zret hD rfl (by omega) ⟨I123, J93, rfl, hI123, FI123, FJ93, KLT_I123, KTK_I123, KSC_I123, ⟨_, rfl, by omega⟩⟩
          · show gv_X _ _ (207, [(0, .inr (.inr (some 39)))], [], sh, gc_h sh I92 J93 A)
            refine gv_run 1 true hD (pc' := 208) (lv' := [(0, .inr (.inr (some 39)))]) (st' := [.inl 0]) (h' := gc_h sh I92 J93 A) (C := (True ∧ True)) rfl ⟨trivial, trivial⟩ ?_
            exact gv_zret hD rfl (by omega) ⟨I92, J93, rfl, hI92, FI92, FJ93, KLT_I92, KTK_I92, KSC_I92, ⟨_, rfl, by omega⟩⟩
        refine gv_run 2 true hD (pc' := 185) (lv' := [(0, .inr (.inr (some 39)))]) (st' := [.inr (.inr (some 39)), .inr (.inr (some 39))]) (h' := gc_h sh I71 J72 A) (C := ((True ∧ True) ∧ True)) rfl ⟨⟨trivial, trivial⟩, trivial⟩ ?_
        refine gv_get hD rfl rfl S_39 ⟨by decide, B_39⟩ (gc_h5 (t := t) S_39 rfl (by omega)) ?_
        show gv_X _ _ (188, [(0, .inr (.inr (some 39)))], [.inr (.inr (some t)), .inr (.inr (some 39))], sh, gc_h sh I71 J72 A)
        have f132 := (show 0 ≤ I71 t 6 ∧ I71 t 6 ≤ 24 from gc_in hI71 R_t rfl rfl)
        refine gv_get hD rfl rfl S_t ⟨by decide, B_t⟩ (gc_hI S_t rfl) ?_
        show gv_X _ _ (191, [(0, .inr (.inr (some 39)))], [.inl (I71 t 6), .inr (.inr (some 39))], sh, gc_h sh I71 J72 A)
        refine gv_run 1 true hD (pc' := 193) (lv' := [(0, .inr (.inr (some 39)))]) (st' := [.inl 24, .inl (I71 t 6), .inr (.inr (some 39))]) (h' := gc_h sh I71 J72 A) (C := (True ∧ True)) rfl ⟨trivial, trivial⟩ ?_
        refine gv_icmp_lt (t := 200) hD rfl rfl ⟨⟨by omega, by omega⟩, ⟨by omega, by omega⟩⟩ (fun c133 => ?_) (fun c133 => ?_)
        · show gv_X _ _ (200, [(0, .inr (.inr (some 39)))], [.inr (.inr (some 39))], sh, gc_h sh I71 J72 A)
          refine gv_run 1 true hD (pc' := 201) (lv' := [(0, .inr (.inr (some 39)))]) (st' := [.inl 0, .inr (.inr (some 39))]) (h' := gc_h sh I71 J72 A) (C := (True ∧ True)) rfl ⟨trivial, trivial⟩ ?_
          exact L201 0 (by omega)
        · show gv_X _ _ (196, [(0, .inr (.inr (some 39)))], [.inr (.inr (some 39))], sh, gc_h sh I71 J72 A)
          refine gv_run 2 true hD (pc' := 201) (lv' := [(0, .inr (.inr (some 39)))]) (st' := [.inl 1, .inr (.inr (some 39))]) (h' := gc_h sh I71 J72 A) (C := ((True ∧ True) ∧ True)) rfl ⟨⟨trivial, trivial⟩, trivial⟩ ?_
          exact L201 1 (by omega)
      refine gv_run 2 true hD (pc' := 77) (lv' := [(0, .inr (.inr (some 39)))]) (st' := [.inl 0, .inr (.inr (some 39))]) (h' := gc_h sh I9 J10 A) (C := ((True ∧ True) ∧ True)) rfl ⟨⟨trivial, trivial⟩, trivial⟩ ?_
      obtain ⟨r134, h134, E134, P134⟩ := d_X6_readContext (ws0 := ws0) (tb := tb) hws htb sh ro I9 J10 A hI9  t B 0 hb  h_t G_t  ⟨by omega, by omega⟩ (by omega) (by omega) (by omega) KLT_I9 KTK_I9 KRS_I9 KRC_I9
      obtain ⟨I135, J136, rfl, hI135, g134, k134, KLT_I135, KTK_I135, KRS_I135, KRC_I135, ⟨z134, rfl, q134⟩⟩ := P134
      have FI135 := gc_frc (W := fun q j => (q = 39 ∧ j = 3) ∨ (q = 39 ∧ j = 4) ∨ (q = 23 ∧ j = 5) ∨ (q = 23 ∧ j = 6) ∨ (q = 23 ∧ j = 7) ∨ (q = 23 ∧ j = 8) ∨ (q = 1 ∧ j = 17) ∨ (q = 1 ∧ j = 18) ∨ q = 20 ∨ q = 41 ∨ q = (t + 10) ∨ (q = t ∧ j = 6)) (V := fun q j => (q = 39 ∧ j = 3) ∨ (q = 39 ∧ j = 4) ∨ (q = 23 ∧ j = 5) ∨ (q = 23 ∧ j = 6) ∨ (q = 23 ∧ j = 7) ∨ (q = 23 ∧ j = 8) ∨ (q = 1 ∧ j = 17) ∨ (q = 1 ∧ j = 18) ∨ q = 20 ∨ (q = 41 ∧ j = (Int.toNat 0)) ∨ (q = 41 ∧ j = (Int.toNat (0 + 1))) ∨ (q = 41 ∧ j = (Int.toNat (0 + 2)))) FI9 (fun q j h => (h.elim (fun h => (Or.inl h)) (fun h => (h.elim (fun h => (Or.inr (Or.inl h))) (fun h => (h.elim (fun h => (Or.inr (Or.inr (Or.inl h)))) (fun h => (h.elim (fun h => (Or.inr (Or.inr (Or.inr (Or.inl h))))) (fun h => (h.elim (fun h => (Or.inr (Or.inr (Or.inr (Or.inr (Or.inl h)))))) (fun h => (h.elim (fun h => (Or.inr (Or.inr (Or.inr (Or.inr (Or.inr (Or.inl h))))))) (fun h => (h.elim (fun h => (Or.inr (Or.inr (Or.inr (Or.inr (Or.inr (Or.inr (Or.inl h)))))))) (fun h => (h.elim (fun h => (Or.inr (Or.inr (Or.inr (Or.inr (Or.inr (Or.inr (Or.inr (Or.inl h))))))))) (fun h => (h.elim (fun h => (Or.inr (Or.inr (Or.inr (Or.inr (Or.inr (Or.inr (Or.inr (Or.inr (Or.inl h)))))))))) (fun h => (h.elim (fun h => (Or.inr (Or.inr (Or.inr (Or.inr (Or.inr (Or.inr (Or.inr (Or.inr (Or.inr (Or.inl h.1))))))))))) (fun h => (h.elim (fun h => (Or.inr (Or.inr (Or.inr (Or.inr (Or.inr (Or.inr (Or.inr (Or.inr (Or.inr (Or.inl h.1))))))))))) (fun h => (Or.inr (Or.inr (Or.inr (Or.inr (Or.inr (Or.inr (Or.inr (Or.inr (Or.inr (Or.inl h.1))))))))))))))))))))))))))))))))) g134
      have FJ136 := gc_frc (W := fun q j => (q = 23 ∧ j = 9)) (V := fun q j => (q = 23 ∧ j = 9)) FJ10 (fun q j h => h) k134
      have t137 := (g134 23 1).resolve_left (fun h => h.elim (fun h => absurd h.2 (by decide)) (fun h => h.elim (fun h => absurd h.2 (by decide)) (fun h => h.elim (fun h => absurd h.2 (by decide)) (fun h => h.elim (fun h => absurd h.2 (by decide)) (fun h => h.elim (fun h => absurd h.2 (by decide)) (fun h => h.elim (fun h => absurd h.2 (by decide)) (fun h => h.elim (fun h => absurd h.2 (by decide)) (fun h => h.elim (fun h => absurd h.2 (by decide)) (fun h => h.elim (fun h => absurd h (by decide)) (fun h => h.elim (fun h => absurd h.1 (by decide)) (fun h => h.elim (fun h => absurd h.1 (by decide)) (fun h => absurd h.1 (by decide)))))))))))))
      have t138 := (g134 t 6).resolve_left (fun h => h.elim (fun h => absurd h.2 (by decide)) (fun h => h.elim (fun h => absurd h.2 (by decide)) (fun h => h.elim (fun h => absurd h.2 (by decide)) (fun h => h.elim (fun h => absurd h.1 N_t__23) (fun h => h.elim (fun h => absurd h.2 (by decide)) (fun h => h.elim (fun h => absurd h.2 (by decide)) (fun h => h.elim (fun h => absurd h.2 (by decide)) (fun h => h.elim (fun h => absurd h.2 (by decide)) (fun h => h.elim (fun h => absurd h N_t__20) (fun h => h.elim (fun h => absurd h.1 N_t__41) (fun h => h.elim (fun h => absurd h.1 N_t__41) (fun h => absurd h.1 N_t__41))))))))))))
      have t139 := (g134 39 2).resolve_left (fun h => h.elim (fun h => absurd h.2 (by decide)) (fun h => h.elim (fun h => absurd h.2 (by decide)) (fun h => h.elim (fun h => absurd h.2 (by decide)) (fun h => h.elim (fun h => absurd h.2 (by decide)) (fun h => h.elim (fun h => absurd h.2 (by decide)) (fun h => h.elim (fun h => absurd h.2 (by decide)) (fun h => h.elim (fun h => absurd h.2 (by decide)) (fun h => h.elim (fun h => absurd h.2 (by decide)) (fun h => h.elim (fun h => absurd h (by decide)) (fun h => h.elim (fun h => absurd h.1 (by decide)) (fun h => h.elim (fun h => absurd h.1 (by decide)) (fun h => absurd h.1 (by decide)))))))))))))
      have f140 := (show 0 ≤ I135 23 5 ∧ I135 23 5 ≤ 1000 from gc_in hI135 R_23 rfl rfl)
      have f141 := (show 0 ≤ I135 23 6 ∧ I135 23 6 ≤ 1001 from gc_in hI135 R_23 rfl rfl)
      have f142 := (show 0 ≤ I135 23 7 ∧ I135 23 7 ≤ 125 from gc_in hI135 R_23 rfl rfl)
      have f143 := (show 0 ≤ I135 1 17 ∧ I135 1 17 ≤ 12000 from gc_in hI135 R_1 rfl rfl)
      have t144 := gc_TK_mo KTK_I135
      have KSC_I135 := gc_sc_fr KSC_I9 (fun k => (g134 (t + 10) k).resolve_left (fun h => h.elim (fun h => absurd h.1 N_t_10__39) (fun h => h.elim (fun h => absurd h.1 N_t_10__39) (fun h => h.elim (fun h => absurd h.1 N_t_10__23) (fun h => h.elim (fun h => absurd h.1 N_t_10__23) (fun h => h.elim (fun h => absurd h.1 N_t_10__23) (fun h => h.elim (fun h => absurd h.1 N_t_10__23) (fun h => h.elim (fun h => absurd h.1 N_t_10__1) (fun h => h.elim (fun h => absurd h.1 N_t_10__1) (fun h => h.elim (fun h => absurd h N_t_10__20) (fun h => h.elim (fun h => absurd h.1 N_t_10__41) (fun h => h.elim (fun h => absurd h.1 N_t_10__41) (fun h => absurd h.1 N_t_10__41)))))))))))))
      refine gv_callV hD rfl (As := [.inl 0]) (st := []) rfl B_39 S_39 rfl (gc_lV6 hws rfl) (Nat.le_of_ble_eq_true rfl) (gz_Ev_mono (d := 4) (by decide) E134) ?_
      show gv_X _ _ (80, [(0, .inr (.inr (some 39)))], [.inl z134], sh, gc_h sh I135 J136 A)
      refine gv_if_eq (t := 100) hD rfl rfl ⟨by omega, by omega⟩ (fun c145 => ?_) (fun c145 => ?_)
      · show gv_X _ _ (100, [(0, .inr (.inr (some 39)))], [], sh, gc_h sh I135 J136 A)
        refine gv_pick [] rfl ?_
        exact L100 I135 J136 hI135 FI135 FJ136 KLT_I135 KTK_I135 KSC_I135 (by omega)
      · show gv_X _ _ (83, [(0, .inr (.inr (some 39)))], [], sh, gc_h sh I135 J136 A)
        refine gv_run 2 true hD (pc' := 86) (lv' := [(0, .inr (.inr (some 39)))]) (st' := [.inl 62, .inr (.inr (some 39))]) (h' := gc_h sh I135 J136 A) (C := ((True ∧ True) ∧ True)) rfl ⟨⟨trivial, trivial⟩, trivial⟩ ?_
        obtain ⟨r146, h146, E146, P146⟩ := d_X6_take (ws0 := ws0) (tb := tb) hws htb sh ro I135 J136 A hI135  62 hb   ⟨by omega, by omega⟩ (by omega) KLT_I135 KTK_I135
        obtain ⟨I147, J148, rfl, hI147, g146, k146, KLT_I147, KTK_I147, ⟨z146, rfl, q146⟩⟩ := P146
        have FI147 := gc_frc (W := fun q j => (q = 39 ∧ j = 3) ∨ (q = 39 ∧ j = 4) ∨ (q = 23 ∧ j = 5) ∨ (q = 23 ∧ j = 6) ∨ (q = 23 ∧ j = 7) ∨ (q = 23 ∧ j = 8) ∨ (q = 1 ∧ j = 17) ∨ (q = 1 ∧ j = 18) ∨ q = 20 ∨ q = 41 ∨ q = (t + 10) ∨ (q = t ∧ j = 6)) (V := fun q j => (q = 39 ∧ j = 3) ∨ (q = 39 ∧ j = 4) ∨ (q = 23 ∧ j = 5) ∨ (q = 23 ∧ j = 6) ∨ (q = 23 ∧ j = 7) ∨ (q = 23 ∧ j = 8)) FI135 (fun q j h => (h.elim (fun h => (Or.inl h)) (fun h => (h.elim (fun h => (Or.inr (Or.inl h))) (fun h => (h.elim (fun h => (Or.inr (Or.inr (Or.inl h)))) (fun h => (h.elim (fun h => (Or.inr (Or.inr (Or.inr (Or.inl h))))) (fun h => (h.elim (fun h => (Or.inr (Or.inr (Or.inr (Or.inr (Or.inl h)))))) (fun h => (Or.inr (Or.inr (Or.inr (Or.inr (Or.inr (Or.inl h))))))))))))))))) g146
        have FJ148 := gc_frc (W := fun q j => (q = 23 ∧ j = 9)) (V := fun q j => (q = 23 ∧ j = 9)) FJ136 (fun q j h => h) k146
        have t149 := (g146 23 1).resolve_left (fun h => h.elim (fun h => absurd h.2 (by decide)) (fun h => h.elim (fun h => absurd h.2 (by decide)) (fun h => h.elim (fun h => absurd h.2 (by decide)) (fun h => h.elim (fun h => absurd h.2 (by decide)) (fun h => h.elim (fun h => absurd h.2 (by decide)) (fun h => absurd h.2 (by decide)))))))
        have t150 := (g146 1 17).resolve_left (fun h => h.elim (fun h => absurd h.2 (by decide)) (fun h => h.elim (fun h => absurd h.2 (by decide)) (fun h => h.elim (fun h => absurd h.2 (by decide)) (fun h => h.elim (fun h => absurd h.2 (by decide)) (fun h => h.elim (fun h => absurd h.2 (by decide)) (fun h => absurd h.2 (by decide)))))))
        have t151 := (g146 t 6).resolve_left (fun h => h.elim (fun h => absurd h.2 (by decide)) (fun h => h.elim (fun h => absurd h.2 (by decide)) (fun h => h.elim (fun h => absurd h.2 (by decide)) (fun h => h.elim (fun h => absurd h.1 N_t__23) (fun h => h.elim (fun h => absurd h.2 (by decide)) (fun h => absurd h.2 (by decide)))))))
        have t152 := (g146 39 2).resolve_left (fun h => h.elim (fun h => absurd h.2 (by decide)) (fun h => h.elim (fun h => absurd h.2 (by decide)) (fun h => h.elim (fun h => absurd h.2 (by decide)) (fun h => h.elim (fun h => absurd h.2 (by decide)) (fun h => h.elim (fun h => absurd h.2 (by decide)) (fun h => absurd h.2 (by decide)))))))
        have f153 := (show 0 ≤ I147 23 5 ∧ I147 23 5 ≤ 1000 from gc_in hI147 R_23 rfl rfl)
        have f154 := (show 0 ≤ I147 23 6 ∧ I147 23 6 ≤ 1001 from gc_in hI147 R_23 rfl rfl)
        have f155 := (show 0 ≤ I147 23 7 ∧ I147 23 7 ≤ 125 from gc_in hI147 R_23 rfl rfl)
        have t156 := gc_TK_mo KTK_I147
        have KSC_I147 := gc_sc_fr KSC_I135 (fun k => (g146 (t + 10) k).resolve_left (fun h => h.elim (fun h => absurd h.1 N_t_10__39) (fun h => h.elim (fun h => absurd h.1 N_t_10__39) (fun h => h.elim (fun h => absurd h.1 N_t_10__23) (fun h => h.elim (fun h => absurd h.1 N_t_10__23) (fun h => h.elim (fun h => absurd h.1 N_t_10__23) (fun h => absurd h.1 N_t_10__23)))))))
        have KRS_I147 := gc_row_fr KRS_I135 (fun k => (g146 41 k).resolve_left (fun h => h.elim (fun h => absurd h.1 (by decide)) (fun h => h.elim (fun h => absurd h.1 (by decide)) (fun h => h.elim (fun h => absurd h.1 (by decide)) (fun h => h.elim (fun h => absurd h.1 (by decide)) (fun h => h.elim (fun h => absurd h.1 (by decide)) (fun h => absurd h.1 (by decide))))))))
        have KRC_I147 := gc_RC_fr KRC_I135 (fun k => (g146 41 k).resolve_left (fun h => h.elim (fun h => absurd h.1 (by decide)) (fun h => h.elim (fun h => absurd h.1 (by decide)) (fun h => h.elim (fun h => absurd h.1 (by decide)) (fun h => h.elim (fun h => absurd h.1 (by decide)) (fun h => h.elim (fun h => absurd h.1 (by decide)) (fun h => absurd h.1 (by decide))))))))
        refine gv_callV hD rfl (As := [.inl 62]) (st := []) rfl B_39 S_39 rfl (gc_lV6 hws rfl) (Nat.le_of_ble_eq_true rfl) (gz_Ev_mono (d := 3) (by decide) E146) ?_
        show gv_X _ _ (89, [(0, .inr (.inr (some 39)))], [.inl z146], sh, gc_h sh I147 J148 A)
        refine gv_if_eq (t := 100) hD rfl rfl ⟨by omega, by omega⟩ (fun c157 => ?_) (fun c157 => ?_)
        · show gv_X _ _ (100, [(0, .inr (.inr (some 39)))], [], sh, gc_h sh I147 J148 A)
          refine gv_pick [] rfl ?_
          exact L100 I147 J148 hI147 FI147 FJ148 KLT_I147 KTK_I147 KSC_I147 (by omega)
        · show gv_X _ _ (92, [(0, .inr (.inr (some 39)))], [], sh, gc_h sh I147 J148 A)
          refine gv_run 2 true hD (pc' := 94) (lv' := [(0, .inr (.inr (some 39)))]) (st' := [.inl 3, .inr (.inr (some 39))]) (h' := gc_h sh I147 J148 A) (C := ((True ∧ True) ∧ True)) rfl ⟨⟨trivial, trivial⟩, trivial⟩ ?_
          obtain ⟨r158, h158, E158, P158⟩ := d_X6_need (ws0 := ws0) (tb := tb) hws htb sh ro I147 J148 A hI147  3 hb   ⟨by omega, by omega⟩  
          obtain ⟨I159, J160, rfl, hI159, g158, k158, ⟨z158, rfl, q158⟩⟩ := P158
          have FI159 := gc_frc (W := fun q j => (q = 39 ∧ j = 3) ∨ (q = 39 ∧ j = 4) ∨ (q = 23 ∧ j = 5) ∨ (q = 23 ∧ j = 6) ∨ (q = 23 ∧ j = 7) ∨ (q = 23 ∧ j = 8) ∨ (q = 1 ∧ j = 17) ∨ (q = 1 ∧ j = 18) ∨ q = 20 ∨ q = 41 ∨ q = (t + 10) ∨ (q = t ∧ j = 6)) (V := fun q j => (q = 39 ∧ j = 3) ∨ (q = 39 ∧ j = 4)) FI147 (fun q j h => (h.elim (fun h => (Or.inl h)) (fun h => (Or.inr (Or.inl h))))) g158
          have t161 := (g158 23 1).resolve_left (fun h => h.elim (fun h => absurd h.2 (by decide)) (fun h => absurd h.2 (by decide)))
          have t162 := (g158 23 5).resolve_left (fun h => h.elim (fun h => absurd h.2 (by decide)) (fun h => absurd h.2 (by decide)))
          have t163 := (g158 23 6).resolve_left (fun h => h.elim (fun h => absurd h.2 (by decide)) (fun h => absurd h.2 (by decide)))
          have t164 := (g158 23 7).resolve_left (fun h => h.elim (fun h => absurd h.2 (by decide)) (fun h => absurd h.2 (by decide)))
          have t165 := (g158 1 17).resolve_left (fun h => h.elim (fun h => absurd h.2 (by decide)) (fun h => absurd h.2 (by decide)))
          have t166 := (g158 t 6).resolve_left (fun h => h.elim (fun h => absurd h.2 (by decide)) (fun h => absurd h.2 (by decide)))
          have t167 := (g158 39 2).resolve_left (fun h => h.elim (fun h => absurd h.2 (by decide)) (fun h => absurd h.2 (by decide)))
          obtain rfl : J148 = J160 := funext fun q => funext fun j => ((k158 q j).resolve_left id).symm
          have KLT_I159 := gc_LT_fr KLT_I147 ((g158 23 5).resolve_left (fun h => h.elim (fun h => absurd h.2 (by decide)) (fun h => absurd h.2 (by decide)))) ((g158 23 6).resolve_left (fun h => h.elim (fun h => absurd h.2 (by decide)) (fun h => absurd h.2 (by decide)))) ((g158 23 7).resolve_left (fun h => h.elim (fun h => absurd h.2 (by decide)) (fun h => absurd h.2 (by decide)))) (fun k => (g158 24 k).resolve_left (fun h => h.elim (fun h => absurd h.1 (by decide)) (fun h => absurd h.1 (by decide))))
          have KTK_I159 := gc_TK_fr KTK_I147 ((g158 23 1).resolve_left (fun h => h.elim (fun h => absurd h.2 (by decide)) (fun h => absurd h.2 (by decide)))) ((g158 23 5).resolve_left (fun h => h.elim (fun h => absurd h.2 (by decide)) (fun h => absurd h.2 (by decide)))) ((g158 23 6).resolve_left (fun h => h.elim (fun h => absurd h.2 (by decide)) (fun h => absurd h.2 (by decide)))) ((g158 23 7).resolve_left (fun h => h.elim (fun h => absurd h.2 (by decide)) (fun h => absurd h.2 (by decide))))
          have KSC_I159 := gc_sc_fr KSC_I147 (fun k => (g158 (t + 10) k).resolve_left (fun h => h.elim (fun h => absurd h.1 N_t_10__39) (fun h => absurd h.1 N_t_10__39)))
          have KRS_I159 := gc_row_fr KRS_I147 (fun k => (g158 41 k).resolve_left (fun h => h.elim (fun h => absurd h.1 (by decide)) (fun h => absurd h.1 (by decide))))
          have KRC_I159 := gc_RC_fr KRC_I147 (fun k => (g158 41 k).resolve_left (fun h => h.elim (fun h => absurd h.1 (by decide)) (fun h => absurd h.1 (by decide))))
          refine gv_callV hD rfl (As := [.inl 3]) (st := []) rfl B_39 S_39 rfl (gc_lV6 hws rfl) (Nat.le_of_ble_eq_true rfl) (gz_Ev_mono (d := 2) (by decide) E158) ?_
          show gv_X _ _ (97, [(0, .inr (.inr (some 39)))], [.inl z158], sh, gc_h sh I159 J148 A)
          refine gv_if_ne (t := 102) hD rfl rfl ⟨by omega, by omega⟩ (fun c168 => ?_) (fun c168 => ?_)
          · show gv_X _ _ (102, [(0, .inr (.inr (some 39)))], [], sh, gc_h sh I159 J148 A)
            refine gv_run 1 true hD (pc' := 103) (lv' := [(0, .inr (.inr (some 39)))]) (st' := [.inr (.inr (some 39))]) (h' := gc_h sh I159 J148 A) (C := (True ∧ True)) rfl ⟨trivial, trivial⟩ ?_
            refine gv_get hD rfl rfl S_39 ⟨by decide, B_39⟩ (gc_hA S_39 rfl A_39_10) ?_
            show gv_X _ _ (106, [(0, .inr (.inr (some 39)))], [.inr (.inr (some 41))], sh, gc_h sh I159 J148 A)
            refine gv_run 2 true hD (pc' := 108) (lv' := [(0, .inr (.inr (some 39)))]) (st' := [.inr (.inr (some 39)), .inl 3, .inr (.inr (some 41))]) (h' := gc_h sh I159 J148 A) (C := ((True ∧ True) ∧ True)) rfl ⟨⟨trivial, trivial⟩, trivial⟩ ?_
            obtain ⟨r169, h169, E169, P169⟩ := d_X6_keepLetters (ws0 := ws0) (tb := tb) hws htb sh ro I159 J148 A hI159   hb    (by omega) KLT_I159 KTK_I159
            obtain ⟨I170, J171, rfl, hI170, g169, k169, KLT_I170, KTK_I170, ⟨z169, rfl, q169⟩⟩ := P169
            have FI170 := gc_frc (W := fun q j => (q = 39 ∧ j = 3) ∨ (q = 39 ∧ j = 4) ∨ (q = 23 ∧ j = 5) ∨ (q = 23 ∧ j = 6) ∨ (q = 23 ∧ j = 7) ∨ (q = 23 ∧ j = 8) ∨ (q = 1 ∧ j = 17) ∨ (q = 1 ∧ j = 18) ∨ q = 20 ∨ q = 41 ∨ q = (t + 10) ∨ (q = t ∧ j = 6)) (V := fun q j => (q = 1 ∧ j = 17) ∨ (q = 1 ∧ j = 18) ∨ q = 20) FI159 (fun q j h => (h.elim (fun h => (Or.inr (Or.inr (Or.inr (Or.inr (Or.inr (Or.inr (Or.inl h)))))))) (fun h => (h.elim (fun h => (Or.inr (Or.inr (Or.inr (Or.inr (Or.inr (Or.inr (Or.inr (Or.inl h))))))))) (fun h => (Or.inr (Or.inr (Or.inr (Or.inr (Or.inr (Or.inr (Or.inr (Or.inr (Or.inl h)))))))))))))) g169
            have t172 := (g169 23 1).resolve_left (fun h => h.elim (fun h => absurd h.2 (by decide)) (fun h => h.elim (fun h => absurd h.2 (by decide)) (fun h => absurd h (by decide))))
            have t173 := (g169 23 5).resolve_left (fun h => h.elim (fun h => absurd h.2 (by decide)) (fun h => h.elim (fun h => absurd h.2 (by decide)) (fun h => absurd h (by decide))))
            have t174 := (g169 23 6).resolve_left (fun h => h.elim (fun h => absurd h.2 (by decide)) (fun h => h.elim (fun h => absurd h.2 (by decide)) (fun h => absurd h (by decide))))
            have t175 := (g169 23 7).resolve_left (fun h => h.elim (fun h => absurd h.2 (by decide)) (fun h => h.elim (fun h => absurd h.2 (by decide)) (fun h => absurd h (by decide))))
            have t176 := (g169 t 6).resolve_left (fun h => h.elim (fun h => absurd h.2 (by decide)) (fun h => h.elim (fun h => absurd h.2 (by decide)) (fun h => absurd h N_t__20)))
            have t177 := (g169 39 2).resolve_left (fun h => h.elim (fun h => absurd h.2 (by decide)) (fun h => h.elim (fun h => absurd h.2 (by decide)) (fun h => absurd h (by decide))))
            have f178 := (show 0 ≤ I170 1 17 ∧ I170 1 17 ≤ 12000 from gc_in hI170 R_1 rfl rfl)
            obtain rfl : J148 = J171 := funext fun q => funext fun j => ((k169 q j).resolve_left id).symm
            have KSC_I170 := gc_sc_fr KSC_I159 (fun k => (g169 (t + 10) k).resolve_left (fun h => h.elim (fun h => absurd h.1 N_t_10__1) (fun h => h.elim (fun h => absurd h.1 N_t_10__1) (fun h => absurd h N_t_10__20))))
            have KRS_I170 := gc_row_fr KRS_I159 (fun k => (g169 41 k).resolve_left (fun h => h.elim (fun h => absurd h.1 (by decide)) (fun h => h.elim (fun h => absurd h.1 (by decide)) (fun h => absurd h (by decide)))))
            have KRC_I170 := gc_RC_fr KRC_I159 (fun k => (g169 41 k).resolve_left (fun h => h.elim (fun h => absurd h.1 (by decide)) (fun h => h.elim (fun h => absurd h.1 (by decide)) (fun h => absurd h (by decide)))))
            refine gv_callV hD rfl (As := []) (st := [.inl 3, .inr (.inr (some 41))]) rfl B_39 S_39 rfl (gc_lV6 hws rfl) (Nat.le_of_ble_eq_true rfl) (gz_Ev_mono (d := 2) (by decide) E169) ?_
            show gv_X _ _ (111, [(0, .inr (.inr (some 39)))], [.inl z169, .inl 3, .inr (.inr (some 41))], sh, gc_h sh I170 J148 A)
            refine gv_iast hD rfl S_41 ⟨by decide, B_41⟩ ⟨by omega, by omega⟩ ?_
            refine gc_st (k := 3) hI170 S_41 rfl R_41 (lo := (-2147483648)) (hi := 2147483647) rfl rfl (by omega) (by omega) (fun I179 hI179 q180 p180 => ?_)
            have FI179 := gc_frs (W := fun q j => (q = 39 ∧ j = 3) ∨ (q = 39 ∧ j = 4) ∨ (q = 23 ∧ j = 5) ∨ (q = 23 ∧ j = 6) ∨ (q = 23 ∧ j = 7) ∨ (q = 23 ∧ j = 8) ∨ (q = 1 ∧ j = 17) ∨ (q = 1 ∧ j = 18) ∨ q = 20 ∨ q = 41 ∨ q = (t + 10) ∨ (q = t ∧ j = 6)) FI170 (Or.inr (Or.inr (Or.inr (Or.inr (Or.inr (Or.inr (Or.inr (Or.inr (Or.inr (Or.inl rfl)))))))))) p180
            have t181 := p180 23 1 (fun h => absurd h.2 (by decide))
            have t182 := p180 23 5 (fun h => absurd h.2 (by decide))
            have t183 := p180 23 6 (fun h => absurd h.2 (by decide))
            have t184 := p180 23 7 (fun h => absurd h.2 (by decide))
            have t185 := p180 1 17 (fun h => absurd h.2 (by decide))
            have t186 := p180 t 6 (fun h => absurd h.2 (by decide))
            have t187 := p180 39 2 (fun h => absurd h.2 (by decide))
            have KLT_I179 := gc_LT_fr KLT_I170 (p180 23 5 (fun h => absurd h.2 (by decide))) (p180 23 6 (fun h => absurd h.2 (by decide))) (p180 23 7 (fun h => absurd h.2 (by decide))) (fun k => p180 24 k (fun h => absurd h.1 (by decide)))
            have KTK_I179 := gc_TK_fr KTK_I170 (p180 23 1 (fun h => absurd h.2 (by decide))) (p180 23 5 (fun h => absurd h.2 (by decide))) (p180 23 6 (fun h => absurd h.2 (by decide))) (p180 23 7 (fun h => absurd h.2 (by decide)))
            have KSC_I179 := gc_sc_fr KSC_I170 (fun k => p180 (t + 10) k (fun h => absurd h.1 N_t_10__41))
            have KRS_I179 := gc_row_st KRS_I170 p180 q180 (by unfold gc_fS; omega)
            have KRC_I179 : gc_RC I179 := gc_RC_st KRC_I170 p180 (by omega)
            show gv_X _ _ (112, [(0, .inr (.inr (some 39)))], [], sh, gc_h sh I179 J148 A)
            refine gv_run 1 true hD (pc' := 113) (lv' := [(0, .inr (.inr (some 39)))]) (st' := [.inr (.inr (some 39))]) (h' := gc_h sh I179 J148 A) (C := (True ∧ True)) rfl ⟨trivial, trivial⟩ ?_
            refine gv_get hD rfl rfl S_39 ⟨by decide, B_39⟩ (gc_hA S_39 rfl A_39_10) ?_
            show gv_X _ _ (116, [(0, .inr (.inr (some 39)))], [.inr (.inr (some 41))], sh, gc_h sh I179 J148 A)
            refine gv_run 2 true hD (pc' := 118) (lv' := [(0, .inr (.inr (some 39)))]) (st' := [.inr (.inr (some 39)), .inl 4, .inr (.inr (some 41))]) (h' := gc_h sh I179 J148 A) (C := ((True ∧ True) ∧ True)) rfl ⟨⟨trivial, trivial⟩, trivial⟩ ?_
            refine gv_get hD rfl rfl S_39 ⟨by decide, B_39⟩ (gc_hA S_39 rfl A_39_1) ?_
            show gv_X _ _ (121, [(0, .inr (.inr (some 39)))], [.inr (.inr (some 23)), .inl 4, .inr (.inr (some 41))], sh, gc_h sh I179 J148 A)
            have t189 := gc_TK_l3 KTK_I179 (by omega)
            obtain ⟨r188, h188, E188, P188⟩ := d_X9_lettersSize (ws0 := ws0) (tb := tb) hws htb sh ro I179 J148 A hI179 23  (gc_b23 hb)     
            obtain ⟨rfl, ⟨z188, rfl, q188⟩⟩ := P188
            refine gv_callV hD rfl (As := []) (st := [.inl 4, .inr (.inr (some 41))]) rfl B_23 S_23 rfl (gc_lV6 hws rfl) (Nat.le_of_ble_eq_true rfl) (gz_Ev_mono (d := 1) (by decide) E188) ?_
            show gv_X _ _ (124, [(0, .inr (.inr (some 39)))], [.inl z188, .inl 4, .inr (.inr (some 41))], sh, gc_h sh I179 J148 A)
            refine gv_iast hD rfl S_41 ⟨by decide, B_41⟩ ⟨by omega, by omega⟩ ?_
            refine gc_st (k := 4) hI179 S_41 rfl R_41 (lo := (-2147483648)) (hi := 2147483647) rfl rfl (by omega) (by omega) (fun I190 hI190 q191 p191 => ?_)
            have FI190 := gc_frs (W := fun q j => (q = 39 ∧ j = 3) ∨ (q = 39 ∧ j = 4) ∨ (q = 23 ∧ j = 5) ∨ (q = 23 ∧ j = 6) ∨ (q = 23 ∧ j = 7) ∨ (q = 23 ∧ j = 8) ∨ (q = 1 ∧ j = 17) ∨ (q = 1 ∧ j = 18) ∨ q = 20 ∨ q = 41 ∨ q = (t + 10) ∨ (q = t ∧ j = 6)) FI179 (Or.inr (Or.inr (Or.inr (Or.inr (Or.inr (Or.inr (Or.inr (Or.inr (Or.inr (Or.inl rfl)))))))))) p191
            have t192 := p191 23 1 (fun h => absurd h.2 (by decide))
            have t193 := p191 23 5 (fun h => absurd h.2 (by decide))
            have t194 := p191 23 6 (fun h => absurd h.2 (by decide))
            have t195 := p191 23 7 (fun h => absurd h.2 (by decide))
            have t196 := p191 1 17 (fun h => absurd h.2 (by decide))
            have t197 := p191 t 6 (fun h => absurd h.2 (by decide))
            have t198 := p191 39 2 (fun h => absurd h.2 (by decide))
            have KLT_I190 := gc_LT_fr KLT_I179 (p191 23 5 (fun h => absurd h.2 (by decide))) (p191 23 6 (fun h => absurd h.2 (by decide))) (p191 23 7 (fun h => absurd h.2 (by decide))) (fun k => p191 24 k (fun h => absurd h.1 (by decide)))
            have KTK_I190 := gc_TK_fr KTK_I179 (p191 23 1 (fun h => absurd h.2 (by decide))) (p191 23 5 (fun h => absurd h.2 (by decide))) (p191 23 6 (fun h => absurd h.2 (by decide))) (p191 23 7 (fun h => absurd h.2 (by decide)))
            have KSC_I190 := gc_sc_fr KSC_I179 (fun k => p191 (t + 10) k (fun h => absurd h.1 N_t_10__41))
            have KRS_I190 := gc_row_st KRS_I179 p191 q191 (by unfold gc_fS; omega)
            have KRC_I190 : gc_RC I190 := gc_RC_st KRC_I179 p191 (by omega)
            show gv_X _ _ (125, [(0, .inr (.inr (some 39)))], [], sh, gc_h sh I190 J148 A)
            refine gv_run 1 true hD (pc' := 126) (lv' := [(0, .inr (.inr (some 39)))]) (st' := [.inr (.inr (some 39))]) (h' := gc_h sh I190 J148 A) (C := (True ∧ True)) rfl ⟨trivial, trivial⟩ ?_
            refine gv_get hD rfl rfl S_39 ⟨by decide, B_39⟩ (gc_hA S_39 rfl A_39_1) ?_
            show gv_X _ _ (129, [(0, .inr (.inr (some 39)))], [.inr (.inr (some 23))], sh, gc_h sh I190 J148 A)
            have t200 := gc_TK_nx KTK_I190 (by omega)
            have t201 := gc_TK_st KTK_I190 (by omega)
            obtain ⟨r199, h199, E199, P199⟩ := d_X9_advance (ws0 := ws0) (tb := tb) hws htb sh ro I190 J148 A hI190 23  (gc_b23 hb)    (by omega) 
            obtain ⟨I202, J203, rfl, hI202, g199, k199, ⟨rfl, V199_0, V199_1, V199_2, V199_3, V199_4, q199⟩⟩ := P199
            have FI202 := gc_frc (W := fun q j => (q = 39 ∧ j = 3) ∨ (q = 39 ∧ j = 4) ∨ (q = 23 ∧ j = 5) ∨ (q = 23 ∧ j = 6) ∨ (q = 23 ∧ j = 7) ∨ (q = 23 ∧ j = 8) ∨ (q = 1 ∧ j = 17) ∨ (q = 1 ∧ j = 18) ∨ q = 20 ∨ q = 41 ∨ q = (t + 10) ∨ (q = t ∧ j = 6)) (V := fun q j => (q = 23 ∧ j = 5) ∨ (q = 23 ∧ j = 6) ∨ (q = 23 ∧ j = 7) ∨ (q = 23 ∧ j = 8)) FI190 (fun q j h => (h.elim (fun h => (Or.inr (Or.inr (Or.inl h)))) (fun h => (h.elim (fun h => (Or.inr (Or.inr (Or.inr (Or.inl h))))) (fun h => (h.elim (fun h => (Or.inr (Or.inr (Or.inr (Or.inr (Or.inl h)))))) (fun h => (Or.inr (Or.inr (Or.inr (Or.inr (Or.inr (Or.inl h))))))))))))) g199
            have FJ203 := gc_frc (W := fun q j => (q = 23 ∧ j = 9)) (V := fun q j => (q = 23 ∧ j = 9)) FJ148 (fun q j h => h) k199
            have t204 := (g199 23 1).resolve_left (fun h => h.elim (fun h => absurd h.2 (by decide)) (fun h => h.elim (fun h => absurd h.2 (by decide)) (fun h => h.elim (fun h => absurd h.2 (by decide)) (fun h => absurd h.2 (by decide)))))
            have t205 := (g199 1 17).resolve_left (fun h => h.elim (fun h => absurd h.2 (by decide)) (fun h => h.elim (fun h => absurd h.2 (by decide)) (fun h => h.elim (fun h => absurd h.2 (by decide)) (fun h => absurd h.2 (by decide)))))
            have t206 := (g199 t 6).resolve_left (fun h => h.elim (fun h => absurd h.2 (by decide)) (fun h => h.elim (fun h => absurd h.1 N_t__23) (fun h => h.elim (fun h => absurd h.2 (by decide)) (fun h => absurd h.2 (by decide)))))
            have t207 := (g199 39 2).resolve_left (fun h => h.elim (fun h => absurd h.2 (by decide)) (fun h => h.elim (fun h => absurd h.2 (by decide)) (fun h => h.elim (fun h => absurd h.2 (by decide)) (fun h => absurd h.2 (by decide)))))
            have f208 := (show 0 ≤ I202 23 5 ∧ I202 23 5 ≤ 1000 from gc_in hI202 R_23 rfl rfl)
            have f209 := (show 0 ≤ I202 23 6 ∧ I202 23 6 ≤ 1001 from gc_in hI202 R_23 rfl rfl)
            have f210 := (show 0 ≤ I202 23 7 ∧ I202 23 7 ≤ 125 from gc_in hI202 R_23 rfl rfl)
            have KLT_I202 : gc_LT I202 := q199.2.2
            have KSC_I202 := gc_sc_fr KSC_I190 (fun k => (g199 (t + 10) k).resolve_left (fun h => h.elim (fun h => absurd h.1 N_t_10__23) (fun h => h.elim (fun h => absurd h.1 N_t_10__23) (fun h => h.elim (fun h => absurd h.1 N_t_10__23) (fun h => absurd h.1 N_t_10__23)))))
            have KRS_I202 := gc_row_fr KRS_I190 (fun k => (g199 41 k).resolve_left (fun h => h.elim (fun h => absurd h.1 (by decide)) (fun h => h.elim (fun h => absurd h.1 (by decide)) (fun h => h.elim (fun h => absurd h.1 (by decide)) (fun h => absurd h.1 (by decide))))))
            have KRC_I202 := gc_RC_fr KRC_I190 (fun k => (g199 41 k).resolve_left (fun h => h.elim (fun h => absurd h.1 (by decide)) (fun h => h.elim (fun h => absurd h.1 (by decide)) (fun h => h.elim (fun h => absurd h.1 (by decide)) (fun h => absurd h.1 (by decide))))))
            have KTK_I202 : gc_TK I202 := And.intro V199_0 (And.intro V199_1 (And.intro V199_2 (And.intro V199_3 V199_4)))
            have t211 := gc_TK_mo KTK_I202
            clear V199_0 V199_1 V199_2 V199_3 V199_4
            refine gv_callV hD rfl (As := []) (st := []) rfl B_23 S_23 rfl (gc_lV6 hws rfl) (Nat.le_of_ble_eq_true rfl) (gz_Ev_mono (d := 2) (by decide) E199) ?_
            show gv_X _ _ (132, [(0, .inr (.inr (some 39)))], [], sh, gc_h sh I202 J203 A)
            refine gv_run 1 true hD (pc' := 133) (lv' := [(0, .inr (.inr (some 39)))]) (st' := [.inr (.inr (some 39))]) (h' := gc_h sh I202 J203 A) (C := (True ∧ True)) rfl ⟨trivial, trivial⟩ ?_
            refine gv_get hD rfl rfl S_39 ⟨by decide, B_39⟩ (gc_hA S_39 rfl A_39_1) ?_
            show gv_X _ _ (136, [(0, .inr (.inr (some 39)))], [.inr (.inr (some 23))], sh, gc_h sh I202 J203 A)
            have f212 := (show 0 ≤ I202 23 7 ∧ I202 23 7 ≤ 125 from gc_in hI202 R_23 rfl rfl)
            refine gv_get hD rfl rfl S_23 ⟨by decide, B_23⟩ (gc_hI S_23 rfl) ?_
            show gv_X _ _ (139, [(0, .inr (.inr (some 39)))], [.inl (I202 23 7)], sh, gc_h sh I202 J203 A)
            refine gv_run 1 true hD (pc' := 141) (lv' := [(0, .inr (.inr (some 39)))]) (st' := [.inl 47, .inl (I202 23 7)]) (h' := gc_h sh I202 J203 A) (C := (True ∧ True)) rfl ⟨trivial, trivial⟩ ?_
            refine gv_icmp_ne (t := 183) hD rfl rfl ⟨⟨by omega, by omega⟩, ⟨by omega, by omega⟩⟩ (fun c213 => ?_) (fun c213 => ?_)
            · show gv_X _ _ (183, [(0, .inr (.inr (some 39)))], [], sh, gc_h sh I202 J203 A)
              exact L183 I202 J203 hI202 FI202 FJ203 KLT_I202 KTK_I202 KSC_I202 KRS_I202 KRC_I202 (by omega)
            · show gv_X _ _ (144, [(0, .inr (.inr (some 39)))], [], sh, gc_h sh I202 J203 A)
              refine gv_run 1 true hD (pc' := 145) (lv' := [(0, .inr (.inr (some 39)))]) (st' := [.inr (.inr (some 39))]) (h' := gc_h sh I202 J203 A) (C := (True ∧ True)) rfl ⟨trivial, trivial⟩ ?_
              refine gv_get hD rfl rfl S_39 ⟨by decide, B_39⟩ (gc_hA S_39 rfl A_39_1) ?_
              show gv_X _ _ (148, [(0, .inr (.inr (some 39)))], [.inr (.inr (some 23))], sh, gc_h sh I202 J203 A)
              have t215 := gc_TK_nx KTK_I202 (by omega)
              have t216 := gc_TK_st KTK_I202 (by omega)
              obtain ⟨r214, h214, E214, P214⟩ := d_X9_advance (ws0 := ws0) (tb := tb) hws htb sh ro I202 J203 A hI202 23  (gc_b23 hb)    (by omega) 
              obtain ⟨I217, J218, rfl, hI217, g214, k214, ⟨rfl, V214_0, V214_1, V214_2, V214_3, V214_4, q214⟩⟩ := P214
              have FI217 := gc_frc (W := fun q j => (q = 39 ∧ j = 3) ∨ (q = 39 ∧ j = 4) ∨ (q = 23 ∧ j = 5) ∨ (q = 23 ∧ j = 6) ∨ (q = 23 ∧ j = 7) ∨ (q = 23 ∧ j = 8) ∨ (q = 1 ∧ j = 17) ∨ (q = 1 ∧ j = 18) ∨ q = 20 ∨ q = 41 ∨ q = (t + 10) ∨ (q = t ∧ j = 6)) (V := fun q j => (q = 23 ∧ j = 5) ∨ (q = 23 ∧ j = 6) ∨ (q = 23 ∧ j = 7) ∨ (q = 23 ∧ j = 8)) FI202 (fun q j h => (h.elim (fun h => (Or.inr (Or.inr (Or.inl h)))) (fun h => (h.elim (fun h => (Or.inr (Or.inr (Or.inr (Or.inl h))))) (fun h => (h.elim (fun h => (Or.inr (Or.inr (Or.inr (Or.inr (Or.inl h)))))) (fun h => (Or.inr (Or.inr (Or.inr (Or.inr (Or.inr (Or.inl h))))))))))))) g214
              have FJ218 := gc_frc (W := fun q j => (q = 23 ∧ j = 9)) (V := fun q j => (q = 23 ∧ j = 9)) FJ203 (fun q j h => h) k214
              have t219 := (g214 23 1).resolve_left (fun h => h.elim (fun h => absurd h.2 (by decide)) (fun h => h.elim (fun h => absurd h.2 (by decide)) (fun h => h.elim (fun h => absurd h.2 (by decide)) (fun h => absurd h.2 (by decide)))))
              have t220 := (g214 1 17).resolve_left (fun h => h.elim (fun h => absurd h.2 (by decide)) (fun h => h.elim (fun h => absurd h.2 (by decide)) (fun h => h.elim (fun h => absurd h.2 (by decide)) (fun h => absurd h.2 (by decide)))))
              have t221 := (g214 t 6).resolve_left (fun h => h.elim (fun h => absurd h.2 (by decide)) (fun h => h.elim (fun h => absurd h.1 N_t__23) (fun h => h.elim (fun h => absurd h.2 (by decide)) (fun h => absurd h.2 (by decide)))))
              have t222 := (g214 39 2).resolve_left (fun h => h.elim (fun h => absurd h.2 (by decide)) (fun h => h.elim (fun h => absurd h.2 (by decide)) (fun h => h.elim (fun h => absurd h.2 (by decide)) (fun h => absurd h.2 (by decide)))))
              have f223 := (show 0 ≤ I217 23 5 ∧ I217 23 5 ≤ 1000 from gc_in hI217 R_23 rfl rfl)
              have f224 := (show 0 ≤ I217 23 6 ∧ I217 23 6 ≤ 1001 from gc_in hI217 R_23 rfl rfl)
              have f225 := (show 0 ≤ I217 23 7 ∧ I217 23 7 ≤ 125 from gc_in hI217 R_23 rfl rfl)
              have KLT_I217 : gc_LT I217 := q214.2.2
              have KSC_I217 := gc_sc_fr KSC_I202 (fun k => (g214 (t + 10) k).resolve_left (fun h => h.elim (fun h => absurd h.1 N_t_10__23) (fun h => h.elim (fun h => absurd h.1 N_t_10__23) (fun h => h.elim (fun h => absurd h.1 N_t_10__23) (fun h => absurd h.1 N_t_10__23)))))
              have KRS_I217 := gc_row_fr KRS_I202 (fun k => (g214 41 k).resolve_left (fun h => h.elim (fun h => absurd h.1 (by decide)) (fun h => h.elim (fun h => absurd h.1 (by decide)) (fun h => h.elim (fun h => absurd h.1 (by decide)) (fun h => absurd h.1 (by decide))))))
              have KRC_I217 := gc_RC_fr KRC_I202 (fun k => (g214 41 k).resolve_left (fun h => h.elim (fun h => absurd h.1 (by decide)) (fun h => h.elim (fun h => absurd h.1 (by decide)) (fun h => h.elim (fun h => absurd h.1 (by decide)) (fun h => absurd h.1 (by decide))))))
              have KTK_I217 : gc_TK I217 := And.intro V214_0 (And.intro V214_1 (And.intro V214_2 (And.intro V214_3 V214_4)))
              have t226 := gc_TK_mo KTK_I217
              clear V214_0 V214_1 V214_2 V214_3 V214_4
              refine gv_callV hD rfl (As := []) (st := []) rfl B_23 S_23 rfl (gc_lV6 hws rfl) (Nat.le_of_ble_eq_true rfl) (gz_Ev_mono (d := 2) (by decide) E214) ?_
              show gv_X _ _ (151, [(0, .inr (.inr (some 39)))], [], sh, gc_h sh I217 J218 A)
              refine gv_run 3 true hD (pc' := 155) (lv' := [(0, .inr (.inr (some 39)))]) (st' := [.inl 7, .inl 5, .inr (.inr (some 39))]) (h' := gc_h sh I217 J218 A) (C := (((True ∧ True) ∧ True) ∧ True)) rfl ⟨⟨⟨trivial, trivial⟩, trivial⟩, trivial⟩ ?_
              obtain ⟨r227, h227, E227, P227⟩ := d_X6_readSide (ws0 := ws0) (tb := tb) hws htb sh ro I217 J218 A hI217  t B 5 7 hb  h_t G_t  ⟨by omega, by omega⟩ ⟨by omega, by omega⟩ (by omega) (by omega) (by omega) KLT_I217 KTK_I217 KRS_I217 KRC_I217
              obtain ⟨I228, J229, rfl, hI228, g227, k227, KLT_I228, KTK_I228, KRS_I228, KRC_I228, ⟨z227, rfl, q227⟩⟩ := P227
              have FI228 := gc_frc (W := fun q j => (q = 39 ∧ j = 3) ∨ (q = 39 ∧ j = 4) ∨ (q = 23 ∧ j = 5) ∨ (q = 23 ∧ j = 6) ∨ (q = 23 ∧ j = 7) ∨ (q = 23 ∧ j = 8) ∨ (q = 1 ∧ j = 17) ∨ (q = 1 ∧ j = 18) ∨ q = 20 ∨ q = 41 ∨ q = (t + 10) ∨ (q = t ∧ j = 6)) (V := fun q j => (q = 39 ∧ j = 3) ∨ (q = 39 ∧ j = 4) ∨ (q = 23 ∧ j = 5) ∨ (q = 23 ∧ j = 6) ∨ (q = 23 ∧ j = 7) ∨ (q = 23 ∧ j = 8) ∨ (q = 1 ∧ j = 17) ∨ (q = 1 ∧ j = 18) ∨ q = 20 ∨ q = 41) FI217 (fun q j h => (h.elim (fun h => (Or.inl h)) (fun h => (h.elim (fun h => (Or.inr (Or.inl h))) (fun h => (h.elim (fun h => (Or.inr (Or.inr (Or.inl h)))) (fun h => (h.elim (fun h => (Or.inr (Or.inr (Or.inr (Or.inl h))))) (fun h => (h.elim (fun h => (Or.inr (Or.inr (Or.inr (Or.inr (Or.inl h)))))) (fun h => (h.elim (fun h => (Or.inr (Or.inr (Or.inr (Or.inr (Or.inr (Or.inl h))))))) (fun h => (h.elim (fun h => (Or.inr (Or.inr (Or.inr (Or.inr (Or.inr (Or.inr (Or.inl h)))))))) (fun h => (h.elim (fun h => (Or.inr (Or.inr (Or.inr (Or.inr (Or.inr (Or.inr (Or.inr (Or.inl h))))))))) (fun h => (h.elim (fun h => (Or.inr (Or.inr (Or.inr (Or.inr (Or.inr (Or.inr (Or.inr (Or.inr (Or.inl h)))))))))) (fun h => (Or.inr (Or.inr (Or.inr (Or.inr (Or.inr (Or.inr (Or.inr (Or.inr (Or.inr (Or.inl h))))))))))))))))))))))))))))) g227
              have FJ229 := gc_frc (W := fun q j => (q = 23 ∧ j = 9)) (V := fun q j => (q = 23 ∧ j = 9)) FJ218 (fun q j h => h) k227
              have t230 := (g227 23 1).resolve_left (fun h => h.elim (fun h => absurd h.2 (by decide)) (fun h => h.elim (fun h => absurd h.2 (by decide)) (fun h => h.elim (fun h => absurd h.2 (by decide)) (fun h => h.elim (fun h => absurd h.2 (by decide)) (fun h => h.elim (fun h => absurd h.2 (by decide)) (fun h => h.elim (fun h => absurd h.2 (by decide)) (fun h => h.elim (fun h => absurd h.2 (by decide)) (fun h => h.elim (fun h => absurd h.2 (by decide)) (fun h => h.elim (fun h => absurd h (by decide)) (fun h => absurd h (by decide)))))))))))
              have t231 := (g227 t 6).resolve_left (fun h => h.elim (fun h => absurd h.2 (by decide)) (fun h => h.elim (fun h => absurd h.2 (by decide)) (fun h => h.elim (fun h => absurd h.2 (by decide)) (fun h => h.elim (fun h => absurd h.1 N_t__23) (fun h => h.elim (fun h => absurd h.2 (by decide)) (fun h => h.elim (fun h => absurd h.2 (by decide)) (fun h => h.elim (fun h => absurd h.2 (by decide)) (fun h => h.elim (fun h => absurd h.2 (by decide)) (fun h => h.elim (fun h => absurd h N_t__20) (fun h => absurd h N_t__41))))))))))
              have t232 := (g227 39 2).resolve_left (fun h => h.elim (fun h => absurd h.2 (by decide)) (fun h => h.elim (fun h => absurd h.2 (by decide)) (fun h => h.elim (fun h => absurd h.2 (by decide)) (fun h => h.elim (fun h => absurd h.2 (by decide)) (fun h => h.elim (fun h => absurd h.2 (by decide)) (fun h => h.elim (fun h => absurd h.2 (by decide)) (fun h => h.elim (fun h => absurd h.2 (by decide)) (fun h => h.elim (fun h => absurd h.2 (by decide)) (fun h => h.elim (fun h => absurd h (by decide)) (fun h => absurd h (by decide)))))))))))
              have f233 := (show 0 ≤ I228 23 5 ∧ I228 23 5 ≤ 1000 from gc_in hI228 R_23 rfl rfl)
              have f234 := (show 0 ≤ I228 23 6 ∧ I228 23 6 ≤ 1001 from gc_in hI228 R_23 rfl rfl)
              have f235 := (show 0 ≤ I228 23 7 ∧ I228 23 7 ≤ 125 from gc_in hI228 R_23 rfl rfl)
              have f236 := (show 0 ≤ I228 1 17 ∧ I228 1 17 ≤ 12000 from gc_in hI228 R_1 rfl rfl)
              have t237 := gc_TK_mo KTK_I228
              have KSC_I228 := gc_sc_fr KSC_I217 (fun k => (g227 (t + 10) k).resolve_left (fun h => h.elim (fun h => absurd h.1 N_t_10__39) (fun h => h.elim (fun h => absurd h.1 N_t_10__39) (fun h => h.elim (fun h => absurd h.1 N_t_10__23) (fun h => h.elim (fun h => absurd h.1 N_t_10__23) (fun h => h.elim (fun h => absurd h.1 N_t_10__23) (fun h => h.elim (fun h => absurd h.1 N_t_10__23) (fun h => h.elim (fun h => absurd h.1 N_t_10__1) (fun h => h.elim (fun h => absurd h.1 N_t_10__1) (fun h => h.elim (fun h => absurd h N_t_10__20) (fun h => absurd h N_t_10__41)))))))))))
              refine gv_callV hD rfl (As := [.inl 5, .inl 7]) (st := []) rfl B_39 S_39 rfl (gc_lV6 hws rfl) (Nat.le_of_ble_eq_true rfl) (gz_Ev_mono (d := 5) (by decide) E227) ?_
              show gv_X _ _ (158, [(0, .inr (.inr (some 39)))], [.inl z227], sh, gc_h sh I228 J229 A)
              refine gv_if_eq (t := 181) hD rfl rfl ⟨by omega, by omega⟩ (fun c238 => ?_) (fun c238 => ?_)
              · show gv_X _ _ (181, [(0, .inr (.inr (some 39)))], [], sh, gc_h sh I228 J229 A)
                refine gv_pick [] rfl ?_
                exact L181 I228 J229 hI228 FI228 FJ229 KLT_I228 KTK_I228 KSC_I228 (by omega)
              · show gv_X _ _ (161, [(0, .inr (.inr (some 39)))], [], sh, gc_h sh I228 J229 A)
                refine gv_run 2 true hD (pc' := 164) (lv' := [(0, .inr (.inr (some 39)))]) (st' := [.inl 95, .inr (.inr (some 39))]) (h' := gc_h sh I228 J229 A) (C := ((True ∧ True) ∧ True)) rfl ⟨⟨trivial, trivial⟩, trivial⟩ ?_
                obtain ⟨r239, h239, E239, P239⟩ := d_X6_take (ws0 := ws0) (tb := tb) hws htb sh ro I228 J229 A hI228  95 hb   ⟨by omega, by omega⟩ (by omega) KLT_I228 KTK_I228
                obtain ⟨I240, J241, rfl, hI240, g239, k239, KLT_I240, KTK_I240, ⟨z239, rfl, q239⟩⟩ := P239
                have FI240 := gc_frc (W := fun q j => (q = 39 ∧ j = 3) ∨ (q = 39 ∧ j = 4) ∨ (q = 23 ∧ j = 5) ∨ (q = 23 ∧ j = 6) ∨ (q = 23 ∧ j = 7) ∨ (q = 23 ∧ j = 8) ∨ (q = 1 ∧ j = 17) ∨ (q = 1 ∧ j = 18) ∨ q = 20 ∨ q = 41 ∨ q = (t + 10) ∨ (q = t ∧ j = 6)) (V := fun q j => (q = 39 ∧ j = 3) ∨ (q = 39 ∧ j = 4) ∨ (q = 23 ∧ j = 5) ∨ (q = 23 ∧ j = 6) ∨ (q = 23 ∧ j = 7) ∨ (q = 23 ∧ j = 8)) FI228 (fun q j h => (h.elim (fun h => (Or.inl h)) (fun h => (h.elim (fun h => (Or.inr (Or.inl h))) (fun h => (h.elim (fun h => (Or.inr (Or.inr (Or.inl h)))) (fun h => (h.elim (fun h => (Or.inr (Or.inr (Or.inr (Or.inl h))))) (fun h => (h.elim (fun h => (Or.inr (Or.inr (Or.inr (Or.inr (Or.inl h)))))) (fun h => (Or.inr (Or.inr (Or.inr (Or.inr (Or.inr (Or.inl h))))))))))))))))) g239
                have FJ241 := gc_frc (W := fun q j => (q = 23 ∧ j = 9)) (V := fun q j => (q = 23 ∧ j = 9)) FJ229 (fun q j h => h) k239
                have t242 := (g239 23 1).resolve_left (fun h => h.elim (fun h => absurd h.2 (by decide)) (fun h => h.elim (fun h => absurd h.2 (by decide)) (fun h => h.elim (fun h => absurd h.2 (by decide)) (fun h => h.elim (fun h => absurd h.2 (by decide)) (fun h => h.elim (fun h => absurd h.2 (by decide)) (fun h => absurd h.2 (by decide)))))))
                have t243 := (g239 1 17).resolve_left (fun h => h.elim (fun h => absurd h.2 (by decide)) (fun h => h.elim (fun h => absurd h.2 (by decide)) (fun h => h.elim (fun h => absurd h.2 (by decide)) (fun h => h.elim (fun h => absurd h.2 (by decide)) (fun h => h.elim (fun h => absurd h.2 (by decide)) (fun h => absurd h.2 (by decide)))))))
                have t244 := (g239 t 6).resolve_left (fun h => h.elim (fun h => absurd h.2 (by decide)) (fun h => h.elim (fun h => absurd h.2 (by decide)) (fun h => h.elim (fun h => absurd h.2 (by decide)) (fun h => h.elim (fun h => absurd h.1 N_t__23) (fun h => h.elim (fun h => absurd h.2 (by decide)) (fun h => absurd h.2 (by decide)))))))
                have t245 := (g239 39 2).resolve_left (fun h => h.elim (fun h => absurd h.2 (by decide)) (fun h => h.elim (fun h => absurd h.2 (by decide)) (fun h => h.elim (fun h => absurd h.2 (by decide)) (fun h => h.elim (fun h => absurd h.2 (by decide)) (fun h => h.elim (fun h => absurd h.2 (by decide)) (fun h => absurd h.2 (by decide)))))))
                have f246 := (show 0 ≤ I240 23 5 ∧ I240 23 5 ≤ 1000 from gc_in hI240 R_23 rfl rfl)
                have f247 := (show 0 ≤ I240 23 6 ∧ I240 23 6 ≤ 1001 from gc_in hI240 R_23 rfl rfl)
                have f248 := (show 0 ≤ I240 23 7 ∧ I240 23 7 ≤ 125 from gc_in hI240 R_23 rfl rfl)
                have t249 := gc_TK_mo KTK_I240
                have KSC_I240 := gc_sc_fr KSC_I228 (fun k => (g239 (t + 10) k).resolve_left (fun h => h.elim (fun h => absurd h.1 N_t_10__39) (fun h => h.elim (fun h => absurd h.1 N_t_10__39) (fun h => h.elim (fun h => absurd h.1 N_t_10__23) (fun h => h.elim (fun h => absurd h.1 N_t_10__23) (fun h => h.elim (fun h => absurd h.1 N_t_10__23) (fun h => absurd h.1 N_t_10__23)))))))
                have KRS_I240 := gc_row_fr KRS_I228 (fun k => (g239 41 k).resolve_left (fun h => h.elim (fun h => absurd h.1 (by decide)) (fun h => h.elim (fun h => absurd h.1 (by decide)) (fun h => h.elim (fun h => absurd h.1 (by decide)) (fun h => h.elim (fun h => absurd h.1 (by decide)) (fun h => h.elim (fun h => absurd h.1 (by decide)) (fun h => absurd h.1 (by decide))))))))
                have KRC_I240 := gc_RC_fr KRC_I228 (fun k => (g239 41 k).resolve_left (fun h => h.elim (fun h => absurd h.1 (by decide)) (fun h => h.elim (fun h => absurd h.1 (by decide)) (fun h => h.elim (fun h => absurd h.1 (by decide)) (fun h => h.elim (fun h => absurd h.1 (by decide)) (fun h => h.elim (fun h => absurd h.1 (by decide)) (fun h => absurd h.1 (by decide))))))))
                refine gv_callV hD rfl (As := [.inl 95]) (st := []) rfl B_39 S_39 rfl (gc_lV6 hws rfl) (Nat.le_of_ble_eq_true rfl) (gz_Ev_mono (d := 3) (by decide) E239) ?_
                show gv_X _ _ (167, [(0, .inr (.inr (some 39)))], [.inl z239], sh, gc_h sh I240 J241 A)
                refine gv_if_eq (t := 181) hD rfl rfl ⟨by omega, by omega⟩ (fun c250 => ?_) (fun c250 => ?_)
                · show gv_X _ _ (181, [(0, .inr (.inr (some 39)))], [], sh, gc_h sh I240 J241 A)
                  refine gv_pick [] rfl ?_
                  exact L181 I240 J241 hI240 FI240 FJ241 KLT_I240 KTK_I240 KSC_I240 (by omega)
                · show gv_X _ _ (170, [(0, .inr (.inr (some 39)))], [], sh, gc_h sh I240 J241 A)
                  refine gv_run 3 true hD (pc' := 175) (lv' := [(0, .inr (.inr (some 39)))]) (st' := [.inl 16, .inl 6, .inr (.inr (some 39))]) (h' := gc_h sh I240 J241 A) (C := (((True ∧ True) ∧ True) ∧ True)) rfl ⟨⟨⟨trivial, trivial⟩, trivial⟩, trivial⟩ ?_
                  obtain ⟨r251, h251, E251, P251⟩ := d_X6_readSide (ws0 := ws0) (tb := tb) hws htb sh ro I240 J241 A hI240  t B 6 16 hb  h_t G_t  ⟨by omega, by omega⟩ ⟨by omega, by omega⟩ (by omega) (by omega) (by omega) KLT_I240 KTK_I240 KRS_I240 KRC_I240
                  obtain ⟨I252, J253, rfl, hI252, g251, k251, KLT_I252, KTK_I252, KRS_I252, KRC_I252, ⟨z251, rfl, q251⟩⟩ := P251
                  have FI252 := gc_frc (W := fun q j => (q = 39 ∧ j = 3) ∨ (q = 39 ∧ j = 4) ∨ (q = 23 ∧ j = 5) ∨ (q = 23 ∧ j = 6) ∨ (q = 23 ∧ j = 7) ∨ (q = 23 ∧ j = 8) ∨ (q = 1 ∧ j = 17) ∨ (q = 1 ∧ j = 18) ∨ q = 20 ∨ q = 41 ∨ q = (t + 10) ∨ (q = t ∧ j = 6)) (V := fun q j => (q = 39 ∧ j = 3) ∨ (q = 39 ∧ j = 4) ∨ (q = 23 ∧ j = 5) ∨ (q = 23 ∧ j = 6) ∨ (q = 23 ∧ j = 7) ∨ (q = 23 ∧ j = 8) ∨ (q = 1 ∧ j = 17) ∨ (q = 1 ∧ j = 18) ∨ q = 20 ∨ q = 41) FI240 (fun q j h => (h.elim (fun h => (Or.inl h)) (fun h => (h.elim (fun h => (Or.inr (Or.inl h))) (fun h => (h.elim (fun h => (Or.inr (Or.inr (Or.inl h)))) (fun h => (h.elim (fun h => (Or.inr (Or.inr (Or.inr (Or.inl h))))) (fun h => (h.elim (fun h => (Or.inr (Or.inr (Or.inr (Or.inr (Or.inl h)))))) (fun h => (h.elim (fun h => (Or.inr (Or.inr (Or.inr (Or.inr (Or.inr (Or.inl h))))))) (fun h => (h.elim (fun h => (Or.inr (Or.inr (Or.inr (Or.inr (Or.inr (Or.inr (Or.inl h)))))))) (fun h => (h.elim (fun h => (Or.inr (Or.inr (Or.inr (Or.inr (Or.inr (Or.inr (Or.inr (Or.inl h))))))))) (fun h => (h.elim (fun h => (Or.inr (Or.inr (Or.inr (Or.inr (Or.inr (Or.inr (Or.inr (Or.inr (Or.inl h)))))))))) (fun h => (Or.inr (Or.inr (Or.inr (Or.inr (Or.inr (Or.inr (Or.inr (Or.inr (Or.inr (Or.inl h))))))))))))))))))))))))))))) g251
                  have FJ253 := gc_frc (W := fun q j => (q = 23 ∧ j = 9)) (V := fun q j => (q = 23 ∧ j = 9)) FJ241 (fun q j h => h) k251
                  have t254 := (g251 23 1).resolve_left (fun h => h.elim (fun h => absurd h.2 (by decide)) (fun h => h.elim (fun h => absurd h.2 (by decide)) (fun h => h.elim (fun h => absurd h.2 (by decide)) (fun h => h.elim (fun h => absurd h.2 (by decide)) (fun h => h.elim (fun h => absurd h.2 (by decide)) (fun h => h.elim (fun h => absurd h.2 (by decide)) (fun h => h.elim (fun h => absurd h.2 (by decide)) (fun h => h.elim (fun h => absurd h.2 (by decide)) (fun h => h.elim (fun h => absurd h (by decide)) (fun h => absurd h (by decide)))))))))))
                  have t255 := (g251 t 6).resolve_left (fun h => h.elim (fun h => absurd h.2 (by decide)) (fun h => h.elim (fun h => absurd h.2 (by decide)) (fun h => h.elim (fun h => absurd h.2 (by decide)) (fun h => h.elim (fun h => absurd h.1 N_t__23) (fun h => h.elim (fun h => absurd h.2 (by decide)) (fun h => h.elim (fun h => absurd h.2 (by decide)) (fun h => h.elim (fun h => absurd h.2 (by decide)) (fun h => h.elim (fun h => absurd h.2 (by decide)) (fun h => h.elim (fun h => absurd h N_t__20) (fun h => absurd h N_t__41))))))))))
                  have t256 := (g251 39 2).resolve_left (fun h => h.elim (fun h => absurd h.2 (by decide)) (fun h => h.elim (fun h => absurd h.2 (by decide)) (fun h => h.elim (fun h => absurd h.2 (by decide)) (fun h => h.elim (fun h => absurd h.2 (by decide)) (fun h => h.elim (fun h => absurd h.2 (by decide)) (fun h => h.elim (fun h => absurd h.2 (by decide)) (fun h => h.elim (fun h => absurd h.2 (by decide)) (fun h => h.elim (fun h => absurd h.2 (by decide)) (fun h => h.elim (fun h => absurd h (by decide)) (fun h => absurd h (by decide)))))))))))
                  have f257 := (show 0 ≤ I252 23 5 ∧ I252 23 5 ≤ 1000 from gc_in hI252 R_23 rfl rfl)
                  have f258 := (show 0 ≤ I252 23 6 ∧ I252 23 6 ≤ 1001 from gc_in hI252 R_23 rfl rfl)
                  have f259 := (show 0 ≤ I252 23 7 ∧ I252 23 7 ≤ 125 from gc_in hI252 R_23 rfl rfl)
                  have f260 := (show 0 ≤ I252 1 17 ∧ I252 1 17 ≤ 12000 from gc_in hI252 R_1 rfl rfl)
                  have t261 := gc_TK_mo KTK_I252
                  have KSC_I252 := gc_sc_fr KSC_I240 (fun k => (g251 (t + 10) k).resolve_left (fun h => h.elim (fun h => absurd h.1 N_t_10__39) (fun h => h.elim (fun h => absurd h.1 N_t_10__39) (fun h => h.elim (fun h => absurd h.1 N_t_10__23) (fun h => h.elim (fun h => absurd h.1 N_t_10__23) (fun h => h.elim (fun h => absurd h.1 N_t_10__23) (fun h => h.elim (fun h => absurd h.1 N_t_10__23) (fun h => h.elim (fun h => absurd h.1 N_t_10__1) (fun h => h.elim (fun h => absurd h.1 N_t_10__1) (fun h => h.elim (fun h => absurd h N_t_10__20) (fun h => absurd h N_t_10__41)))))))))))
                  refine gv_callV hD rfl (As := [.inl 6, .inl 16]) (st := []) rfl B_39 S_39 rfl (gc_lV6 hws rfl) (Nat.le_of_ble_eq_true rfl) (gz_Ev_mono (d := 5) (by decide) E251) ?_
                  show gv_X _ _ (178, [(0, .inr (.inr (some 39)))], [.inl z251], sh, gc_h sh I252 J253 A)
                  refine gv_if_ne (t := 183) hD rfl rfl ⟨by omega, by omega⟩ (fun c262 => ?_) (fun c262 => ?_)
                  · show gv_X _ _ (183, [(0, .inr (.inr (some 39)))], [], sh, gc_h sh I252 J253 A)
                    exact L183 I252 J253 hI252 FI252 FJ253 KLT_I252 KTK_I252 KSC_I252 KRS_I252 KRC_I252 (by omega)
                  · show gv_X _ _ (181, [(0, .inr (.inr (some 39)))], [], sh, gc_h sh I252 J253 A)
                    refine gv_pick [] rfl ?_
                    exact L181 I252 J253 hI252 FI252 FJ253 KLT_I252 KTK_I252 KSC_I252 (by omega)
          · show gv_X _ _ (100, [(0, .inr (.inr (some 39)))], [], sh, gc_h sh I159 J148 A)
            refine gv_pick [] rfl ?_
            exact L100 I159 J148 hI159 FI159 FJ148 KLT_I159 KTK_I159 KSC_I159 (by omega)
    refine gv_run 1 true hD (pc' := 30) (lv' := [(0, .inr (.inr (some 39)))]) (st' := [.inr (.inr (some 39))]) (h' := gc_h sh I9 J10 A) (C := (True ∧ True)) rfl ⟨trivial, trivial⟩ ?_
    refine gv_get hD rfl rfl S_39 ⟨by decide, B_39⟩ (gc_hA S_39 rfl A_39_1) ?_
    show gv_X _ _ (33, [(0, .inr (.inr (some 39)))], [.inr (.inr (some 23))], sh, gc_h sh I9 J10 A)
    have f263 := (show 0 ≤ I9 23 7 ∧ I9 23 7 ≤ 125 from gc_in hI9 R_23 rfl rfl)
    refine gv_get hD rfl rfl S_23 ⟨by decide, B_23⟩ (gc_hI S_23 rfl) ?_
    show gv_X _ _ (36, [(0, .inr (.inr (some 39)))], [.inl (I9 23 7)], sh, gc_h sh I9 J10 A)
    refine gv_run 1 true hD (pc' := 37) (lv' := [(0, .inr (.inr (some 39)))]) (st' := [.inl 3, .inl (I9 23 7)]) (h' := gc_h sh I9 J10 A) (C := (True ∧ True)) rfl ⟨trivial, trivial⟩ ?_
    refine gv_icmp_ne (t := 75) hD rfl rfl ⟨⟨by omega, by omega⟩, ⟨by omega, by omega⟩⟩ (fun c264 => ?_) (fun c264 => ?_)
    · show gv_X _ _ (75, [(0, .inr (.inr (some 39)))], [], sh, gc_h sh I9 J10 A)
      exact L75 (by omega)
    · show gv_X _ _ (40, [(0, .inr (.inr (some 39)))], [], sh, gc_h sh I9 J10 A)
      refine gv_run 1 true hD (pc' := 41) (lv' := [(0, .inr (.inr (some 39)))]) (st' := [.inr (.inr (some 39))]) (h' := gc_h sh I9 J10 A) (C := (True ∧ True)) rfl ⟨trivial, trivial⟩ ?_
      refine gv_get hD rfl rfl S_39 ⟨by decide, B_39⟩ (gc_hA S_39 rfl A_39_1) ?_
      show gv_X _ _ (44, [(0, .inr (.inr (some 39)))], [.inr (.inr (some 23))], sh, gc_h sh I9 J10 A)
      have t266 := gc_TK_l3 KTK_I9 (by omega)
      obtain ⟨r265, h265, E265, P265⟩ := d_X9_lettersSize (ws0 := ws0) (tb := tb) hws htb sh ro I9 J10 A hI9 23  (gc_b23 hb)     
      obtain ⟨rfl, ⟨z265, rfl, q265⟩⟩ := P265
      refine gv_callV hD rfl (As := []) (st := []) rfl B_23 S_23 rfl (gc_lV6 hws rfl) (Nat.le_of_ble_eq_true rfl) (gz_Ev_mono (d := 1) (by decide) E265) ?_
      show gv_X _ _ (47, [(0, .inr (.inr (some 39)))], [.inl z265], sh, gc_h sh I9 J10 A)
      refine gv_run 1 true hD (pc' := 48) (lv' := [(0, .inr (.inr (some 39)))]) (st' := [.inl 1, .inl z265]) (h' := gc_h sh I9 J10 A) (C := (True ∧ True)) rfl ⟨trivial, trivial⟩ ?_
      refine gv_icmp_lt (t := 62) hD rfl rfl ⟨⟨by omega, by omega⟩, ⟨by omega, by omega⟩⟩ (fun c267 => ?_) (fun c267 => ?_)
      · show gv_X _ _ (62, [(0, .inr (.inr (some 39)))], [], sh, gc_h sh I9 J10 A)
        exact L62 (by omega)
      · show gv_X _ _ (51, [(0, .inr (.inr (some 39)))], [], sh, gc_h sh I9 J10 A)
        refine gv_run 1 true hD (pc' := 52) (lv' := [(0, .inr (.inr (some 39)))]) (st' := [.inr (.inr (some 39))]) (h' := gc_h sh I9 J10 A) (C := (True ∧ True)) rfl ⟨trivial, trivial⟩ ?_
        refine gv_get hD rfl rfl S_39 ⟨by decide, B_39⟩ (gc_hA S_39 rfl A_39_1) ?_
        show gv_X _ _ (55, [(0, .inr (.inr (some 39)))], [.inr (.inr (some 23))], sh, gc_h sh I9 J10 A)
        have t269 := gc_TK_l3 KTK_I9 (by omega)
        obtain ⟨r268, h268, E268, P268⟩ := d_X9_lettersSize (ws0 := ws0) (tb := tb) hws htb sh ro I9 J10 A hI9 23  (gc_b23 hb)     
        obtain ⟨rfl, ⟨z268, rfl, q268⟩⟩ := P268
        refine gv_callV hD rfl (As := []) (st := []) rfl B_23 S_23 rfl (gc_lV6 hws rfl) (Nat.le_of_ble_eq_true rfl) (gz_Ev_mono (d := 1) (by decide) E268) ?_
        show gv_X _ _ (58, [(0, .inr (.inr (some 39)))], [.inl z268], sh, gc_h sh I9 J10 A)
        refine gv_run 1 true hD (pc' := 59) (lv' := [(0, .inr (.inr (some 39)))]) (st' := [.inl 3, .inl z268]) (h' := gc_h sh I9 J10 A) (C := (True ∧ True)) rfl ⟨trivial, trivial⟩ ?_
        refine gv_icmp_le (t := 75) hD rfl rfl ⟨⟨by omega, by omega⟩, ⟨by omega, by omega⟩⟩ (fun c270 => ?_) (fun c270 => ?_)
        · show gv_X _ _ (75, [(0, .inr (.inr (some 39)))], [], sh, gc_h sh I9 J10 A)
          exact L75 (by omega)
        · show gv_X _ _ (62, [(0, .inr (.inr (some 39)))], [], sh, gc_h sh I9 J10 A)
          exact L62 (by omega)
  refine gv_run 1 true hD (pc' := 1) (lv' := [(0, .inr (.inr (some 39)))]) (st' := [.inr (.inr (some 39))]) (h' := gc_h sh I J A) (C := (True ∧ True)) rfl ⟨trivial, trivial⟩ ?_
  refine gv_get hD rfl rfl S_39 ⟨by decide, B_39⟩ (gc_hA S_39 rfl A_39_10) ?_
  show gv_X _ _ (4, [(0, .inr (.inr (some 39)))], [.inr (.inr (some 41))], sh, gc_h sh I J A)
  refine gv_run 1 true hD (pc' := 5) (lv' := [(0, .inr (.inr (some 39)))]) (st' := [.inl 0, .inr (.inr (some 41))]) (h' := gc_h sh I J A) (C := (True ∧ True)) rfl ⟨trivial, trivial⟩ ?_
  obtain ⟨I272, E271, hI272, g271, q271⟩ := gj_fill (ws0 := ws0) (tb := tb) sh ro I J A hI 41 25 0 S_41 B_41 (by decide) ⟨by omega, by omega⟩ (fun k => by rw [R_41]; exact ⟨by show (-2147483648) ≤ _; omega, by show _ ≤ 2147483647; omega⟩)
  refine gv_callS hD rfl (As := [.inr (.inr (some 41)), .inl 0]) (st := []) rfl (gc_lS6 hws rfl) (Nat.le_of_ble_eq_true rfl) (gz_Ev_mono (d := 1) (by decide) E271) ?_
  have FI272 := gc_frc (W := fun q j => (q = 39 ∧ j = 3) ∨ (q = 39 ∧ j = 4) ∨ (q = 23 ∧ j = 5) ∨ (q = 23 ∧ j = 6) ∨ (q = 23 ∧ j = 7) ∨ (q = 23 ∧ j = 8) ∨ (q = 1 ∧ j = 17) ∨ (q = 1 ∧ j = 18) ∨ q = 20 ∨ q = 41 ∨ q = (t + 10) ∨ (q = t ∧ j = 6)) (V := fun q j => q = 41) FI (fun q j h => (Or.inr (Or.inr (Or.inr (Or.inr (Or.inr (Or.inr (Or.inr (Or.inr (Or.inr (Or.inl h))))))))))) g271
  have KLT_I272 := gc_LT_fr KLT_I ((g271 23 5).resolve_left (fun h => absurd h (by decide))) ((g271 23 6).resolve_left (fun h => absurd h (by decide))) ((g271 23 7).resolve_left (fun h => absurd h (by decide))) (fun k => (g271 24 k).resolve_left (fun h => absurd h (by decide)))
  have KTK_I272 := gc_TK_fr KTK_I ((g271 23 1).resolve_left (fun h => absurd h (by decide))) ((g271 23 5).resolve_left (fun h => absurd h (by decide))) ((g271 23 6).resolve_left (fun h => absurd h (by decide))) ((g271 23 7).resolve_left (fun h => absurd h (by decide)))
  have KSC_I272 := gc_sc_fr KSC_I (fun k => (g271 (t + 10) k).resolve_left (fun h => absurd h N_t_10__41))
  have KRS_I272 : gc_row 41 25 gc_fS I272 := gc_row_fill q271 (fun j => by unfold gc_fS; omega)
  have KRC_I272 : gc_RC I272 := gc_RC_fill q271
  have t274 := (g271 23 1).resolve_left (fun h => absurd h (by decide))
  have t275 := (g271 23 5).resolve_left (fun h => absurd h (by decide))
  have t276 := (g271 23 6).resolve_left (fun h => absurd h (by decide))
  have t277 := (g271 23 7).resolve_left (fun h => absurd h (by decide))
  have t278 := (g271 1 17).resolve_left (fun h => absurd h (by decide))
  have t279 := (g271 t 6).resolve_left (fun h => absurd h N_t__41)
  have t280 := (g271 39 2).resolve_left (fun h => absurd h (by decide))
  have t281 := gc_TK_mo KTK_I272
  have f282 := (show 0 ≤ I272 23 1 ∧ I272 23 1 ≤ 1000 from gc_in hI272 R_23 rfl rfl)
  have f283 := (show 0 ≤ I272 23 5 ∧ I272 23 5 ≤ 1000 from gc_in hI272 R_23 rfl rfl)
  have f284 := (show 0 ≤ I272 23 6 ∧ I272 23 6 ≤ 1001 from gc_in hI272 R_23 rfl rfl)
  have f285 := (show 0 ≤ I272 23 7 ∧ I272 23 7 ≤ 125 from gc_in hI272 R_23 rfl rfl)
  have f286 := (show 0 ≤ I272 1 17 ∧ I272 1 17 ≤ 12000 from gc_in hI272 R_1 rfl rfl)
  have f287 := (show 0 ≤ I272 t 6 ∧ I272 t 6 ≤ 24 from gc_in hI272 R_t rfl rfl)
  have f288 := (show (-1) ≤ I272 39 2 ∧ I272 39 2 ≤ 999999 from gc_in hI272 R_39 rfl rfl)
  show gv_X _ _ (8, [(0, .inr (.inr (some 39)))], [], sh, gc_h sh I272 J A)
  refine gv_run 1 true hD (pc' := 9) (lv' := [(0, .inr (.inr (some 39)))]) (st' := [.inr (.inr (some 39))]) (h' := gc_h sh I272 J A) (C := (True ∧ True)) rfl ⟨trivial, trivial⟩ ?_
  refine gv_get hD rfl rfl S_39 ⟨by decide, B_39⟩ (gc_hA S_39 rfl A_39_1) ?_
  show gv_X _ _ (12, [(0, .inr (.inr (some 39)))], [.inr (.inr (some 23))], sh, gc_h sh I272 J A)
  have f289 := (show 0 ≤ I272 23 7 ∧ I272 23 7 ≤ 125 from gc_in hI272 R_23 rfl rfl)
  refine gv_get hD rfl rfl S_23 ⟨by decide, B_23⟩ (gc_hI S_23 rfl) ?_
  show gv_X _ _ (15, [(0, .inr (.inr (some 39)))], [.inl (I272 23 7)], sh, gc_h sh I272 J A)
  refine gv_run 1 true hD (pc' := 16) (lv' := [(0, .inr (.inr (some 39)))]) (st' := [.inl 1, .inl (I272 23 7)]) (h' := gc_h sh I272 J A) (C := (True ∧ True)) rfl ⟨trivial, trivial⟩ ?_
  refine gv_icmp_eq (t := 29) hD rfl rfl ⟨⟨by omega, by omega⟩, ⟨by omega, by omega⟩⟩ (fun c290 => ?_) (fun c290 => ?_)
  · show gv_X _ _ (29, [(0, .inr (.inr (some 39)))], [], sh, gc_h sh I272 J A)
    exact L29 I272 J hI272 FI272 FJ KLT_I272 KTK_I272 KSC_I272 KRS_I272 KRC_I272 (by omega)
  · show gv_X _ _ (19, [(0, .inr (.inr (some 39)))], [], sh, gc_h sh I272 J A)
    refine gv_run 2 true hD (pc' := 21) (lv' := [(0, .inr (.inr (some 39)))]) (st' := [.inl 3, .inr (.inr (some 39))]) (h' := gc_h sh I272 J A) (C := ((True ∧ True) ∧ True)) rfl ⟨⟨trivial, trivial⟩, trivial⟩ ?_
    obtain ⟨r291, h291, E291, P291⟩ := d_X6_need (ws0 := ws0) (tb := tb) hws htb sh ro I272 J A hI272  3 hb   ⟨by omega, by omega⟩  
    obtain ⟨I292, J293, rfl, hI292, g291, k291, ⟨z291, rfl, q291⟩⟩ := P291
    have FI292 := gc_frc (W := fun q j => (q = 39 ∧ j = 3) ∨ (q = 39 ∧ j = 4) ∨ (q = 23 ∧ j = 5) ∨ (q = 23 ∧ j = 6) ∨ (q = 23 ∧ j = 7) ∨ (q = 23 ∧ j = 8) ∨ (q = 1 ∧ j = 17) ∨ (q = 1 ∧ j = 18) ∨ q = 20 ∨ q = 41 ∨ q = (t + 10) ∨ (q = t ∧ j = 6)) (V := fun q j => (q = 39 ∧ j = 3) ∨ (q = 39 ∧ j = 4)) FI272 (fun q j h => (h.elim (fun h => (Or.inl h)) (fun h => (Or.inr (Or.inl h))))) g291
    have t294 := (g291 23 1).resolve_left (fun h => h.elim (fun h => absurd h.2 (by decide)) (fun h => absurd h.2 (by decide)))
    have t295 := (g291 23 5).resolve_left (fun h => h.elim (fun h => absurd h.2 (by decide)) (fun h => absurd h.2 (by decide)))
    have t296 := (g291 23 6).resolve_left (fun h => h.elim (fun h => absurd h.2 (by decide)) (fun h => absurd h.2 (by decide)))
    have t297 := (g291 23 7).resolve_left (fun h => h.elim (fun h => absurd h.2 (by decide)) (fun h => absurd h.2 (by decide)))
    have t298 := (g291 1 17).resolve_left (fun h => h.elim (fun h => absurd h.2 (by decide)) (fun h => absurd h.2 (by decide)))
    have t299 := (g291 t 6).resolve_left (fun h => h.elim (fun h => absurd h.2 (by decide)) (fun h => absurd h.2 (by decide)))
    have t300 := (g291 39 2).resolve_left (fun h => h.elim (fun h => absurd h.2 (by decide)) (fun h => absurd h.2 (by decide)))
    obtain rfl : J = J293 := funext fun q => funext fun j => ((k291 q j).resolve_left id).symm
    have KLT_I292 := gc_LT_fr KLT_I272 ((g291 23 5).resolve_left (fun h => h.elim (fun h => absurd h.2 (by decide)) (fun h => absurd h.2 (by decide)))) ((g291 23 6).resolve_left (fun h => h.elim (fun h => absurd h.2 (by decide)) (fun h => absurd h.2 (by decide)))) ((g291 23 7).resolve_left (fun h => h.elim (fun h => absurd h.2 (by decide)) (fun h => absurd h.2 (by decide)))) (fun k => (g291 24 k).resolve_left (fun h => h.elim (fun h => absurd h.1 (by decide)) (fun h => absurd h.1 (by decide))))
    have KTK_I292 := gc_TK_fr KTK_I272 ((g291 23 1).resolve_left (fun h => h.elim (fun h => absurd h.2 (by decide)) (fun h => absurd h.2 (by decide)))) ((g291 23 5).resolve_left (fun h => h.elim (fun h => absurd h.2 (by decide)) (fun h => absurd h.2 (by decide)))) ((g291 23 6).resolve_left (fun h => h.elim (fun h => absurd h.2 (by decide)) (fun h => absurd h.2 (by decide)))) ((g291 23 7).resolve_left (fun h => h.elim (fun h => absurd h.2 (by decide)) (fun h => absurd h.2 (by decide))))
    have KSC_I292 := gc_sc_fr KSC_I272 (fun k => (g291 (t + 10) k).resolve_left (fun h => h.elim (fun h => absurd h.1 N_t_10__39) (fun h => absurd h.1 N_t_10__39)))
    have KRS_I292 := gc_row_fr KRS_I272 (fun k => (g291 41 k).resolve_left (fun h => h.elim (fun h => absurd h.1 (by decide)) (fun h => absurd h.1 (by decide))))
    have KRC_I292 := gc_RC_fr KRC_I272 (fun k => (g291 41 k).resolve_left (fun h => h.elim (fun h => absurd h.1 (by decide)) (fun h => absurd h.1 (by decide))))
    refine gv_callV hD rfl (As := [.inl 3]) (st := []) rfl B_39 S_39 rfl (gc_lV6 hws rfl) (Nat.le_of_ble_eq_true rfl) (gz_Ev_mono (d := 2) (by decide) E291) ?_
    show gv_X _ _ (24, [(0, .inr (.inr (some 39)))], [.inl z291], sh, gc_h sh I292 J A)
    refine gv_if_ne (t := 29) hD rfl rfl ⟨by omega, by omega⟩ (fun c301 => ?_) (fun c301 => ?_)
    · show gv_X _ _ (29, [(0, .inr (.inr (some 39)))], [], sh, gc_h sh I292 J A)
      exact L29 I292 J hI292 FI292 FJ KLT_I292 KTK_I292 KSC_I292 KRS_I292 KRC_I292 (by omega)
    · show gv_X _ _ (27, [(0, .inr (.inr (some 39)))], [], sh, gc_h sh I292 J A)
      refine gv_run 1 true hD (pc' := 28) (lv' := [(0, .inr (.inr (some 39)))]) (st' := [.inl 0]) (h' := gc_h sh I292 J A) (C := (True ∧ True)) rfl ⟨trivial, trivial⟩ ?_
      exact gv_zret hD rfl (by omega) ⟨I292, J, rfl, hI292, FI292, FJ, KLT_I292, KTK_I292, KSC_I292, ⟨_, rfl, by omega⟩⟩
