set_option maxHeartbeats 4000000 in
set_option maxRecDepth 100000 in
theorem d_X6_keepLetters {ws0 : List Cond} {tb : String → gz_T} (hws : gc_Ws ws0) (htb : gc_tbs tb) (sh : gz_Sh) (ro : Nat → Nat) (I : gr_I) (J : gr_J) (A : gc_A) (hI : gc_Inv ro I)  (hb : gc_Base sh ro A)  (x0 : I 23 7 = 3) (KLT_I : gc_LT I) (KTK_I : gc_TK I) : ∃ r h', gz_Ev ws0 tb 2 (yX6_keepLetters, cX6_keepLetters, 4, (some .int)) [.inr (.inr (some 39))] sh (gc_h sh I J A) r sh h' 0 0 ∧ (∃ (I' : gr_I) (J' : gr_J), h' = gc_h sh I' J' A ∧ gc_Inv ro I' ∧ (∀ q j : Nat, ((q = 1 ∧ j = 17) ∨ (q = 1 ∧ j = 18) ∨ q = 20) ∨ I' q j = I q j) ∧ (∀ q j : Nat, (False) ∨ J' q j = J q j) ∧ gc_LT I' ∧ gc_TK I' ∧ (∃ z : Int, r = some (.inl z) ∧ 0 ≤ z ∧ z ≤ 12000 ∧ (z = I 1 17) ∧ (I 1 17 ≤ I' 1 17) ∧ (I' 1 17 ≤ I 1 17 + I 23 6 - I 23 5 - 2))) := by
  have FI : ∀ q j : Nat, ((q = 1 ∧ j = 17) ∨ (q = 1 ∧ j = 18) ∨ q = 20) ∨ I q j = I q j := fun _ _ => Or.inr rfl
  have FJ : ∀ q j : Nat, (False) ∨ J q j = J q j := fun _ _ => Or.inr rfl
  have A_23_0 : A 23 0 = some 24 := gc_bA hb rfl
  have A_39_0 : A 39 0 = some 1 := gc_bA hb rfl
  have A_39_1 : A 39 1 = some 23 := gc_bA hb rfl
  have B_1 : 1 < 1000000 := by decide
  have B_23 : 23 < 1000000 := by decide
  have B_24 : 24 < 1000000 := by decide
  have B_39 : 39 < 1000000 := by decide
  have R_1 : ro 1 = 22 := gc_bR hb (by decide) rfl
  have R_23 : ro 23 = 3 := gc_bR hb (by decide) rfl
  have R_24 : ro 24 = 1 := gc_bR hb (by decide) rfl
  have S_1 : sh[1]? = some (false, 8, 21) := gc_bS hb rfl
  have S_23 : sh[23]? = some (false, 9, 10) := gc_bS hb rfl
  have S_24 : sh[24]? = some (true, 0, 1000) := gc_bS hb rfl
  have S_39 : sh[39]? = some (false, 6, 19) := gc_bS hb rfl
  have hD : gv_D (gc_E6 ws0 tb 1 (yX6_keepLetters, cX6_keepLetters, 4, (some .int)) kX6_keepLetters) := gq_ok oX6_keepLetters
  refine gc_ev6 (d := 1) (l := kX6_keepLetters) (Po := fun r h' => (∃ (I' : gr_I) (J' : gr_J), h' = gc_h sh I' J' A ∧ gc_Inv ro I' ∧ (∀ q j : Nat, ((q = 1 ∧ j = 17) ∨ (q = 1 ∧ j = 18) ∨ q = 20) ∨ I' q j = I q j) ∧ (∀ q j : Nat, (False) ∨ J' q j = J q j) ∧ gc_LT I' ∧ gc_TK I' ∧ (∃ z : Int, r = some (.inl z) ∧ 0 ≤ z ∧ z ≤ 12000 ∧ (z = I 1 17) ∧ (I 1 17 ≤ I' 1 17) ∧ (I' 1 17 ≤ I 1 17 + I 23 6 - I 23 5 - 2)))) htb rfl (Nat.le_of_ble_eq_true rfl) ?_
  have t1 := gc_TK_mo KTK_I
  have f2 := (show 0 ≤ I 23 1 ∧ I 23 1 ≤ 1000 from gc_in hI R_23 rfl rfl)
  have f3 := (show 0 ≤ I 23 5 ∧ I 23 5 ≤ 1000 from gc_in hI R_23 rfl rfl)
  have f4 := (show 0 ≤ I 23 6 ∧ I 23 6 ≤ 1001 from gc_in hI R_23 rfl rfl)
  have f5 := (show 0 ≤ I 23 7 ∧ I 23 7 ≤ 125 from gc_in hI R_23 rfl rfl)
  have f6 := (show 0 ≤ I 1 17 ∧ I 1 17 ≤ 12000 from gc_in hI R_1 rfl rfl)
  have L18 : ∀ (n9 : Nat) (I7 : gr_I) (J8 : gr_J) (v1_9 : Int) (v2_9 : Int) (v3_9 : Int), (14 - v3_9).toNat < n9 → gc_Inv ro I7 → (∀ q j : Nat, ((q = 1 ∧ j = 17) ∨ (q = 1 ∧ j = 18) ∨ q = 20) ∨ I7 q j = I q j) → (∀ q j : Nat, (False) ∨ J8 q j = J q j) → gc_LT I7 → gc_TK I7 → ((0 ≤ v1_9 ∧ v1_9 ≤ 12000) ∧ (0 ≤ v2_9 ∧ v2_9 ≤ 12) ∧ (1 ≤ v3_9 ∧ v3_9 ≤ 13) ∧ (v3_9 ≤ v2_9 + 1) ∧ (v2_9 = I 23 6 - I 23 5 - 2) ∧ (v1_9 = I 1 17) ∧ (I7 23 5 = I 23 5) ∧ (I7 23 6 = I 23 6) ∧ (I7 23 7 = 3) ∧ (I7 23 1 = I 23 1) ∧ (I 1 17 ≤ I7 1 17) ∧ (I7 1 17 ≤ I 1 17 + v3_9 - 1)) → gv_X (gc_E6 ws0 tb 1 (yX6_keepLetters, cX6_keepLetters, 4, (some .int)) kX6_keepLetters) (gv_Q cX6_keepLetters (some .int) sh (fun r h' => (∃ (I' : gr_I) (J' : gr_J), h' = gc_h sh I' J' A ∧ gc_Inv ro I' ∧ (∀ q j : Nat, ((q = 1 ∧ j = 17) ∨ (q = 1 ∧ j = 18) ∨ q = 20) ∨ I' q j = I q j) ∧ (∀ q j : Nat, (False) ∨ J' q j = J q j) ∧ gc_LT I' ∧ gc_TK I' ∧ (∃ z : Int, r = some (.inl z) ∧ 0 ≤ z ∧ z ≤ 12000 ∧ (z = I 1 17) ∧ (I 1 17 ≤ I' 1 17) ∧ (I' 1 17 ≤ I 1 17 + I 23 6 - I 23 5 - 2))))) (18, [(0, .inr (.inr (some 39))), (1, .inl v1_9), (2, .inl v2_9), (3, .inl v3_9)], [], sh, gc_h sh I7 J8 A) := by
    intro n9
    induction n9 with
    | zero => intro I7 J8 v1_9 v2_9 v3_9 hn; omega
    | succ n9 ih18 =>
      intro I7 J8 v1_9 v2_9 v3_9 hn hI7 FI7 FJ8 KLT_I7 KTK_I7 m_9
      obtain ⟨hv1_9, hv2_9, hv3_9, e0_9, e1_9, e2_9, e3_9, e4_9, e5_9, e6_9, e7_9, e8_9⟩ := m_9
      have t10 := gc_TK_mo KTK_I7
      have f11 := (show 0 ≤ I7 23 1 ∧ I7 23 1 ≤ 1000 from gc_in hI7 R_23 rfl rfl)
      have f12 := (show 0 ≤ I7 23 5 ∧ I7 23 5 ≤ 1000 from gc_in hI7 R_23 rfl rfl)
      have f13 := (show 0 ≤ I7 23 6 ∧ I7 23 6 ≤ 1001 from gc_in hI7 R_23 rfl rfl)
      have f14 := (show 0 ≤ I7 23 7 ∧ I7 23 7 ≤ 125 from gc_in hI7 R_23 rfl rfl)
      have f15 := (show 0 ≤ I7 1 17 ∧ I7 1 17 ≤ 12000 from gc_in hI7 R_1 rfl rfl)
      refine gv_run 2 true hD (pc' := 20) (lv' := [(0, .inr (.inr (some 39))), (1, .inl v1_9), (2, .inl v2_9), (3, .inl v3_9)]) (st' := [.inl v2_9, .inl v3_9]) (h' := gc_h sh I7 J8 A) (C := ((True ∧ True) ∧ True)) rfl ⟨⟨trivial, trivial⟩, trivial⟩ ?_
      refine gv_icmp_gt (t := 53) hD rfl rfl ⟨⟨by omega, by omega⟩, ⟨by omega, by omega⟩⟩ (fun c16 => ?_) (fun c16 => ?_)
      · show gv_X _ _ (53, [(0, .inr (.inr (some 39))), (1, .inl v1_9), (2, .inl v2_9), (3, .inl v3_9)], [], sh, gc_h sh I7 J8 A)
        refine gv_run 1 true hD (pc' := 54) (lv' := [(0, .inr (.inr (some 39))), (1, .inl v1_9), (2, .inl v2_9), (3, .inl v3_9)]) (st' := [.inl v1_9]) (h' := gc_h sh I7 J8 A) (C := (True ∧ True)) rfl ⟨trivial, trivial⟩ ?_
        exact gv_iret hD rfl ⟨I7, J8, rfl, hI7, FI7, FJ8, KLT_I7, KTK_I7, ⟨_, rfl, by omega⟩⟩
      · show gv_X _ _ (23, [(0, .inr (.inr (some 39))), (1, .inl v1_9), (2, .inl v2_9), (3, .inl v3_9)], [], sh, gc_h sh I7 J8 A)
        refine gv_run 1 true hD (pc' := 24) (lv' := [(0, .inr (.inr (some 39))), (1, .inl v1_9), (2, .inl v2_9), (3, .inl v3_9)]) (st' := [.inr (.inr (some 39))]) (h' := gc_h sh I7 J8 A) (C := (True ∧ True)) rfl ⟨trivial, trivial⟩ ?_
        refine gv_get hD rfl rfl S_39 ⟨by decide, B_39⟩ (gc_hA S_39 rfl A_39_0) ?_
        show gv_X _ _ (27, [(0, .inr (.inr (some 39))), (1, .inl v1_9), (2, .inl v2_9), (3, .inl v3_9)], [.inr (.inr (some 1))], sh, gc_h sh I7 J8 A)
        refine gv_run 1 true hD (pc' := 28) (lv' := [(0, .inr (.inr (some 39))), (1, .inl v1_9), (2, .inl v2_9), (3, .inl v3_9)]) (st' := [.inr (.inr (some 39)), .inr (.inr (some 1))]) (h' := gc_h sh I7 J8 A) (C := (True ∧ True)) rfl ⟨trivial, trivial⟩ ?_
        refine gv_get hD rfl rfl S_39 ⟨by decide, B_39⟩ (gc_hA S_39 rfl A_39_1) ?_
        show gv_X _ _ (31, [(0, .inr (.inr (some 39))), (1, .inl v1_9), (2, .inl v2_9), (3, .inl v3_9)], [.inr (.inr (some 23)), .inr (.inr (some 1))], sh, gc_h sh I7 J8 A)
        refine gv_get hD rfl rfl S_23 ⟨by decide, B_23⟩ (gc_hA S_23 rfl A_23_0) ?_
        show gv_X _ _ (34, [(0, .inr (.inr (some 39))), (1, .inl v1_9), (2, .inl v2_9), (3, .inl v3_9)], [.inr (.inr (some 24)), .inr (.inr (some 1))], sh, gc_h sh I7 J8 A)
        refine gv_run 1 true hD (pc' := 35) (lv' := [(0, .inr (.inr (some 39))), (1, .inl v1_9), (2, .inl v2_9), (3, .inl v3_9)]) (st' := [.inr (.inr (some 39)), .inr (.inr (some 24)), .inr (.inr (some 1))]) (h' := gc_h sh I7 J8 A) (C := (True ∧ True)) rfl ⟨trivial, trivial⟩ ?_
        refine gv_get hD rfl rfl S_39 ⟨by decide, B_39⟩ (gc_hA S_39 rfl A_39_1) ?_
        show gv_X _ _ (38, [(0, .inr (.inr (some 39))), (1, .inl v1_9), (2, .inl v2_9), (3, .inl v3_9)], [.inr (.inr (some 23)), .inr (.inr (some 24)), .inr (.inr (some 1))], sh, gc_h sh I7 J8 A)
        have f17 := (show 0 ≤ I7 23 5 ∧ I7 23 5 ≤ 1000 from gc_in hI7 R_23 rfl rfl)
        refine gv_get hD rfl rfl S_23 ⟨by decide, B_23⟩ (gc_hI S_23 rfl) ?_
        show gv_X _ _ (41, [(0, .inr (.inr (some 39))), (1, .inl v1_9), (2, .inl v2_9), (3, .inl v3_9)], [.inl (I7 23 5), .inr (.inr (some 24)), .inr (.inr (some 1))], sh, gc_h sh I7 J8 A)
        refine gv_run 2 true hD (pc' := 43) (lv' := [(0, .inr (.inr (some 39))), (1, .inl v1_9), (2, .inl v2_9), (3, .inl v3_9)]) (st' := [.inl ((I7 23 5) + v3_9), .inr (.inr (some 24)), .inr (.inr (some 1))]) (h' := gc_h sh I7 J8 A) (C := ((True ∧ True) ∧ True)) rfl ⟨⟨trivial, trivial⟩, trivial⟩ ?_
        have t18 := gc_TK_l3 KTK_I7 (by omega)
        have t19 := gc_TK_nx KTK_I7 (by omega)
        have t20 := KLT_I7 (by omega) (I7 23 5 + v3_9) (by omega) (by omega)
        have f21 := (show (-128) ≤ I7 24 (Int.toNat (((I7 23 5) + v3_9))) ∧ I7 24 (Int.toNat (((I7 23 5) + v3_9))) ≤ 127 from gc_in hI7 R_24 rfl rfl)
        refine gv_bald hD rfl S_24 (Or.inl rfl) ⟨by decide, B_24⟩ ⟨by omega, by omega⟩ (gc_iI S_24 rfl) ?_
        show gv_X _ _ (44, [(0, .inr (.inr (some 39))), (1, .inl v1_9), (2, .inl v2_9), (3, .inl v3_9)], [.inl (I7 24 (Int.toNat (((I7 23 5) + v3_9)))), .inr (.inr (some 1))], sh, gc_h sh I7 J8 A)
        obtain ⟨r22, h22, E22, P22⟩ := d_X8_keepByte (ws0 := ws0) (tb := tb) hws htb sh ro I7 J8 A hI7  ((I7 24 (Int.toNat (((I7 23 5) + v3_9))))) hb   ⟨by omega, by omega⟩  
        obtain ⟨I23, J24, rfl, hI23, g22, k22, ⟨rfl, q22⟩⟩ := P22
        have FI23 := gc_frc (W := fun q j => (q = 1 ∧ j = 17) ∨ (q = 1 ∧ j = 18) ∨ q = 20) (V := fun q j => (q = 1 ∧ j = 17) ∨ (q = 1 ∧ j = 18) ∨ q = 20) FI7 (fun q j h => (h.elim (fun h => (Or.inl h)) (fun h => (h.elim (fun h => (Or.inr (Or.inl h))) (fun h => (Or.inr (Or.inr h))))))) g22
        have t25 := (g22 23 1).resolve_left (fun h => h.elim (fun h => absurd h.2 (by decide)) (fun h => h.elim (fun h => absurd h.2 (by decide)) (fun h => absurd h (by decide))))
        have t26 := (g22 23 5).resolve_left (fun h => h.elim (fun h => absurd h.2 (by decide)) (fun h => h.elim (fun h => absurd h.2 (by decide)) (fun h => absurd h (by decide))))
        have t27 := (g22 23 6).resolve_left (fun h => h.elim (fun h => absurd h.2 (by decide)) (fun h => h.elim (fun h => absurd h.2 (by decide)) (fun h => absurd h (by decide))))
        have t28 := (g22 23 7).resolve_left (fun h => h.elim (fun h => absurd h.2 (by decide)) (fun h => h.elim (fun h => absurd h.2 (by decide)) (fun h => absurd h (by decide))))
        have f29 := (show 0 ≤ I23 1 17 ∧ I23 1 17 ≤ 12000 from gc_in hI23 R_1 rfl rfl)
        obtain rfl : J8 = J24 := funext fun q => funext fun j => ((k22 q j).resolve_left id).symm
        have KLT_I23 := gc_LT_fr KLT_I7 ((g22 23 5).resolve_left (fun h => h.elim (fun h => absurd h.2 (by decide)) (fun h => h.elim (fun h => absurd h.2 (by decide)) (fun h => absurd h (by decide))))) ((g22 23 6).resolve_left (fun h => h.elim (fun h => absurd h.2 (by decide)) (fun h => h.elim (fun h => absurd h.2 (by decide)) (fun h => absurd h (by decide))))) ((g22 23 7).resolve_left (fun h => h.elim (fun h => absurd h.2 (by decide)) (fun h => h.elim (fun h => absurd h.2 (by decide)) (fun h => absurd h (by decide))))) (fun k => (g22 24 k).resolve_left (fun h => h.elim (fun h => absurd h.1 (by decide)) (fun h => h.elim (fun h => absurd h.1 (by decide)) (fun h => absurd h (by decide)))))
        have KTK_I23 := gc_TK_fr KTK_I7 ((g22 23 1).resolve_left (fun h => h.elim (fun h => absurd h.2 (by decide)) (fun h => h.elim (fun h => absurd h.2 (by decide)) (fun h => absurd h (by decide))))) ((g22 23 5).resolve_left (fun h => h.elim (fun h => absurd h.2 (by decide)) (fun h => h.elim (fun h => absurd h.2 (by decide)) (fun h => absurd h (by decide))))) ((g22 23 6).resolve_left (fun h => h.elim (fun h => absurd h.2 (by decide)) (fun h => h.elim (fun h => absurd h.2 (by decide)) (fun h => absurd h (by decide))))) ((g22 23 7).resolve_left (fun h => h.elim (fun h => absurd h.2 (by decide)) (fun h => h.elim (fun h => absurd h.2 (by decide)) (fun h => absurd h (by decide)))))
        refine gv_callV hD rfl (As := [.inl (I7 24 (Int.toNat (((I7 23 5) + v3_9))))]) (st := []) rfl B_1 S_1 rfl (gc_lV6 hws rfl) (Nat.le_of_ble_eq_true rfl) (gz_Ev_mono (d := 1) (by decide) E22) ?_
        show gv_X _ _ (47, [(0, .inr (.inr (some 39))), (1, .inl v1_9), (2, .inl v2_9), (3, .inl v3_9)], [], sh, gc_h sh I23 J8 A)
        refine gv_run 2 true hD (pc' := 18) (lv' := [(3, .inl (v3_9 + 1)), (0, .inr (.inr (some 39))), (1, .inl v1_9), (2, .inl v2_9)]) (st' := []) (h' := gc_h sh I23 J8 A) (C := ((True ∧ True) ∧ True)) rfl ⟨⟨trivial, trivial⟩, trivial⟩ ?_
        refine gv_pick [1, 2, 3, 0] rfl ?_
        exact ih18 I23 J8 v1_9 v2_9 (v3_9 + 1) (by omega) hI23 FI23 FJ8 KLT_I23 KTK_I23 (by omega)
  refine gv_run 1 true hD (pc' := 1) (lv' := [(0, .inr (.inr (some 39)))]) (st' := [.inr (.inr (some 39))]) (h' := gc_h sh I J A) (C := (True ∧ True)) rfl ⟨trivial, trivial⟩ ?_
  refine gv_get hD rfl rfl S_39 ⟨by decide, B_39⟩ (gc_hA S_39 rfl A_39_0) ?_
  show gv_X _ _ (4, [(0, .inr (.inr (some 39)))], [.inr (.inr (some 1))], sh, gc_h sh I J A)
  have f30 := (show 0 ≤ I 1 17 ∧ I 1 17 ≤ 12000 from gc_in hI R_1 rfl rfl)
  refine gv_get hD rfl rfl S_1 ⟨by decide, B_1⟩ (gc_hI S_1 rfl) ?_
  show gv_X _ _ (7, [(0, .inr (.inr (some 39)))], [.inl (I 1 17)], sh, gc_h sh I J A)
  refine gv_run 2 true hD (pc' := 9) (lv' := [(1, .inl (I 1 17)), (0, .inr (.inr (some 39)))]) (st' := [.inr (.inr (some 39))]) (h' := gc_h sh I J A) (C := ((True ∧ True) ∧ True)) rfl ⟨⟨trivial, trivial⟩, trivial⟩ ?_
  refine gv_get hD rfl rfl S_39 ⟨by decide, B_39⟩ (gc_hA S_39 rfl A_39_1) ?_
  show gv_X _ _ (12, [(1, .inl (I 1 17)), (0, .inr (.inr (some 39)))], [.inr (.inr (some 23))], sh, gc_h sh I J A)
  have t32 := gc_TK_l3 KTK_I (by omega)
  obtain ⟨r31, h31, E31, P31⟩ := d_X9_lettersSize (ws0 := ws0) (tb := tb) hws htb sh ro I J A hI 23  (gc_b23 hb)     
  obtain ⟨rfl, ⟨z31, rfl, q31⟩⟩ := P31
  refine gv_callV hD rfl (As := []) (st := []) rfl B_23 S_23 rfl (gc_lV6 hws rfl) (Nat.le_of_ble_eq_true rfl) (gz_Ev_mono (d := 1) (by decide) E31) ?_
  show gv_X _ _ (15, [(1, .inl (I 1 17)), (0, .inr (.inr (some 39)))], [.inl z31], sh, gc_h sh I J A)
  refine gv_run 3 true hD (pc' := 18) (lv' := [(3, .inl 1), (2, .inl z31), (1, .inl (I 1 17)), (0, .inr (.inr (some 39)))]) (st' := []) (h' := gc_h sh I J A) (C := (((True ∧ True) ∧ True) ∧ True)) rfl ⟨⟨⟨trivial, trivial⟩, trivial⟩, trivial⟩ ?_
  refine gv_pick [3, 2, 1, 0] rfl ?_
  exact L18 _ I J (I 1 17) z31 1 (Nat.lt_succ_self _) hI FI FJ KLT_I KTK_I (by omega)
