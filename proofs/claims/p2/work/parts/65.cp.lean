set_option maxHeartbeats 4000000 in
set_option maxRecDepth 100000 in
theorem d_X6_keepLetters {ws0 : List Cond} {tb : String → gz_T} (hws : gc_Ws ws0) (htb : gc_tbs tb) (sh : gz_Sh) (ro : Nat → Nat) (I : gr_I) (J : gr_J) (A : gc_A) (hI : gc_Inv ro I)  (hb : gc_Base sh ro A)  (x0 : I 23 5 ≤ I 23 6) (x1 : I 23 7 = 5 ∨ I 23 6 ≤ I 23 1) (x2 : I 23 5 ≤ I 23 1) (x3 : I 23 7 = 4 ∨ (I 23 5 < I 23 6 ∧ I 23 5 < I 23 1)) (x4 : I 23 7 = 3 → 2 ≤ I 23 6 - I 23 5 ∧ I 23 6 - I 23 5 ≤ 14) (x5 : I 23 7 = 3) (KLT_I : gc_LT I) : ∃ r h', gz_Ev ws0 tb 2 (yX6_keepLetters, cX6_keepLetters, 4, (some .int)) [.inr (.inr (some 39))] sh (gc_h sh I J A) r sh h' 0 0 ∧ (∃ (I' : gr_I) (J' : gr_J), h' = gc_h sh I' J' A ∧ gc_Inv ro I' ∧ (∀ q j : Nat, ((q = 1 ∧ j = 17) ∨ (q = 1 ∧ j = 18) ∨ q = 20) ∨ I' q j = I q j) ∧ (∀ q j : Nat, (False) ∨ J' q j = J q j) ∧ gc_LT I' ∧ (∃ z : Int, r = some (.inl z) ∧ 0 ≤ z ∧ z ≤ 12000 ∧ (z = I 1 17) ∧ (I 1 17 ≤ I' 1 17) ∧ (I' 1 17 ≤ I 1 17 + I 23 6 - I 23 5 - 2))) := by
  have FI : ∀ q j : Nat, ((q = 1 ∧ j = 17) ∨ (q = 1 ∧ j = 18) ∨ q = 20) ∨ I q j = I q j := fun _ _ => Or.inr rfl
  have FJ : ∀ q j : Nat, (False) ∨ J q j = J q j := fun _ _ => Or.inr rfl
  have A_23_0 : A 23 0 = some 24 := gc_bA hb rfl
  have A_39_0 : A 39 0 = some 1 := gc_bA hb rfl
  have A_39_1 : A 39 1 = some 23 := gc_bA hb rfl
  have B_1 : 1 < 1000000 := by decide
  have B_23 : 23 < 1000000 := by decide
  have B_24 : 24 < 1000000 := by decide
  have B_39 : 39 < 1000000 := by decide
  have R_1 : ro 1 = 22 := gc_bR hb (by decide) rfl
  have R_23 : ro 23 = 3 := gc_bR hb (by decide) rfl
  have R_24 : ro 24 = 1 := gc_bR hb (by decide) rfl
  have S_1 : sh[1]? = some (false, 8, 21) := gc_bS hb rfl
  have S_23 : sh[23]? = some (false, 9, 10) := gc_bS hb rfl
  have S_24 : sh[24]? = some (true, 0, 1000) := gc_bS hb rfl
  have S_39 : sh[39]? = some (false, 6, 19) := gc_bS hb rfl
  have hD : gv_D (gc_E6 ws0 tb 1 (yX6_keepLetters, cX6_keepLetters, 4, (some .int)) kX6_keepLetters) := gq_ok oX6_keepLetters
  refine gc_ev6 (d := 1) (l := kX6_keepLetters) (Po := fun r h' => (∃ (I' : gr_I) (J' : gr_J), h' = gc_h sh I' J' A ∧ gc_Inv ro I' ∧ (∀ q j : Nat, ((q = 1 ∧ j = 17) ∨ (q = 1 ∧ j = 18) ∨ q = 20) ∨ I' q j = I q j) ∧ (∀ q j : Nat, (False) ∨ J' q j = J q j) ∧ gc_LT I' ∧ (∃ z : Int, r = some (.inl z) ∧ 0 ≤ z ∧ z ≤ 12000 ∧ (z = I 1 17) ∧ (I 1 17 ≤ I' 1 17) ∧ (I' 1 17 ≤ I 1 17 + I 23 6 - I 23 5 - 2)))) htb rfl (Nat.le_of_ble_eq_true rfl) ?_
  have f1 := (show 0 ≤ I 23 1 ∧ I 23 1 ≤ 1000 from gc_in hI R_23 rfl rfl)
  have f2 := (show 0 ≤ I 23 5 ∧ I 23 5 ≤ 1000 from gc_in hI R_23 rfl rfl)
  have f3 := (show 0 ≤ I 23 6 ∧ I 23 6 ≤ 1001 from gc_in hI R_23 rfl rfl)
  have f4 := (show 0 ≤ I 23 7 ∧ I 23 7 ≤ 125 from gc_in hI R_23 rfl rfl)
  have f5 := (show 0 ≤ I 1 17 ∧ I 1 17 ≤ 12000 from gc_in hI R_1 rfl rfl)
  have L18 : ∀ (n9 : Nat) (I6 : gr_I) (J7 : gr_J) (v1_8 : Int) (v2_8 : Int) (v3_8 : Int), (14 - v3_8).toNat < n9 → gc_Inv ro I6 → (∀ q j : Nat, ((q = 1 ∧ j = 17) ∨ (q = 1 ∧ j = 18) ∨ q = 20) ∨ I6 q j = I q j) → (∀ q j : Nat, (False) ∨ J7 q j = J q j) → gc_LT I6 → ((0 ≤ v1_8 ∧ v1_8 ≤ 12000) ∧ (0 ≤ v2_8 ∧ v2_8 ≤ 12) ∧ (1 ≤ v3_8 ∧ v3_8 ≤ 13) ∧ (v3_8 ≤ v2_8 + 1) ∧ (v2_8 = I 23 6 - I 23 5 - 2) ∧ (v1_8 = I 1 17) ∧ (I6 23 5 = I 23 5) ∧ (I6 23 6 = I 23 6) ∧ (I6 23 7 = 3) ∧ (I6 23 1 = I 23 1) ∧ (I 1 17 ≤ I6 1 17) ∧ (I6 1 17 ≤ I 1 17 + v3_8 - 1)) → gv_X (gc_E6 ws0 tb 1 (yX6_keepLetters, cX6_keepLetters, 4, (some .int)) kX6_keepLetters) (gv_Q cX6_keepLetters (some .int) sh (fun r h' => (∃ (I' : gr_I) (J' : gr_J), h' = gc_h sh I' J' A ∧ gc_Inv ro I' ∧ (∀ q j : Nat, ((q = 1 ∧ j = 17) ∨ (q = 1 ∧ j = 18) ∨ q = 20) ∨ I' q j = I q j) ∧ (∀ q j : Nat, (False) ∨ J' q j = J q j) ∧ gc_LT I' ∧ (∃ z : Int, r = some (.inl z) ∧ 0 ≤ z ∧ z ≤ 12000 ∧ (z = I 1 17) ∧ (I 1 17 ≤ I' 1 17) ∧ (I' 1 17 ≤ I 1 17 + I 23 6 - I 23 5 - 2))))) (18, [(0, .inr (.inr (some 39))), (1, .inl v1_8), (2, .inl v2_8), (3, .inl v3_8)], [], sh, gc_h sh I6 J7 A) := by
    intro n9
    induction n9 with
    | zero => intro I6 J7 v1_8 v2_8 v3_8 hn; omega
    | succ n9 ih18 =>
      intro I6 J7 v1_8 v2_8 v3_8 hn hI6 FI6 FJ7 KLT_I6 m_8
      obtain ⟨hv1_8, hv2_8, hv3_8, e0_8, e1_8, e2_8, e3_8, e4_8, e5_8, e6_8, e7_8, e8_8⟩ := m_8
      have f9 := (show 0 ≤ I6 23 1 ∧ I6 23 1 ≤ 1000 from gc_in hI6 R_23 rfl rfl)
      have f10 := (show 0 ≤ I6 23 5 ∧ I6 23 5 ≤ 1000 from gc_in hI6 R_23 rfl rfl)
      have f11 := (show 0 ≤ I6 23 6 ∧ I6 23 6 ≤ 1001 from gc_in hI6 R_23 rfl rfl)
      have f12 := (show 0 ≤ I6 23 7 ∧ I6 23 7 ≤ 125 from gc_in hI6 R_23 rfl rfl)
      have f13 := (show 0 ≤ I6 1 17 ∧ I6 1 17 ≤ 12000 from gc_in hI6 R_1 rfl rfl)
      refine gv_run 2 true hD (pc' := 20) (lv' := [(0, .inr (.inr (some 39))), (1, .inl v1_8), (2, .inl v2_8), (3, .inl v3_8)]) (st' := [.inl v2_8, .inl v3_8]) (h' := gc_h sh I6 J7 A) (C := ((True ∧ True) ∧ True)) rfl ⟨⟨trivial, trivial⟩, trivial⟩ ?_
      refine gv_icmp_gt (t := 53) hD rfl rfl ⟨⟨by omega, by omega⟩, ⟨by omega, by omega⟩⟩ (fun c14 => ?_) (fun c14 => ?_)
      · show gv_X _ _ (53, [(0, .inr (.inr (some 39))), (1, .inl v1_8), (2, .inl v2_8), (3, .inl v3_8)], [], sh, gc_h sh I6 J7 A)
        refine gv_run 1 true hD (pc' := 54) (lv' := [(0, .inr (.inr (some 39))), (1, .inl v1_8), (2, .inl v2_8), (3, .inl v3_8)]) (st' := [.inl v1_8]) (h' := gc_h sh I6 J7 A) (C := (True ∧ True)) rfl ⟨trivial, trivial⟩ ?_
        exact gv_iret hD rfl ⟨I6, J7, rfl, hI6, FI6, FJ7, KLT_I6, ⟨_, rfl, by omega⟩⟩
      · show gv_X _ _ (23, [(0, .inr (.inr (some 39))), (1, .inl v1_8), (2, .inl v2_8), (3, .inl v3_8)], [], sh, gc_h sh I6 J7 A)
        refine gv_run 1 true hD (pc' := 24) (lv' := [(0, .inr (.inr (some 39))), (1, .inl v1_8), (2, .inl v2_8), (3, .inl v3_8)]) (st' := [.inr (.inr (some 39))]) (h' := gc_h sh I6 J7 A) (C := (True ∧ True)) rfl ⟨trivial, trivial⟩ ?_
        refine gv_get hD rfl rfl S_39 ⟨by decide, B_39⟩ (gc_hA S_39 rfl A_39_0) ?_
        show gv_X _ _ (27, [(0, .inr (.inr (some 39))), (1, .inl v1_8), (2, .inl v2_8), (3, .inl v3_8)], [.inr (.inr (some 1))], sh, gc_h sh I6 J7 A)
        refine gv_run 1 true hD (pc' := 28) (lv' := [(0, .inr (.inr (some 39))), (1, .inl v1_8), (2, .inl v2_8), (3, .inl v3_8)]) (st' := [.inr (.inr (some 39)), .inr (.inr (some 1))]) (h' := gc_h sh I6 J7 A) (C := (True ∧ True)) rfl ⟨trivial, trivial⟩ ?_
        refine gv_get hD rfl rfl S_39 ⟨by decide, B_39⟩ (gc_hA S_39 rfl A_39_1) ?_
        show gv_X _ _ (31, [(0, .inr (.inr (some 39))), (1, .inl v1_8), (2, .inl v2_8), (3, .inl v3_8)], [.inr (.inr (some 23)), .inr (.inr (some 1))], sh, gc_h sh I6 J7 A)
        refine gv_get hD rfl rfl S_23 ⟨by decide, B_23⟩ (gc_hA S_23 rfl A_23_0) ?_
        show gv_X _ _ (34, [(0, .inr (.inr (some 39))), (1, .inl v1_8), (2, .inl v2_8), (3, .inl v3_8)], [.inr (.inr (some 24)), .inr (.inr (some 1))], sh, gc_h sh I6 J7 A)
        refine gv_run 1 true hD (pc' := 35) (lv' := [(0, .inr (.inr (some 39))), (1, .inl v1_8), (2, .inl v2_8), (3, .inl v3_8)]) (st' := [.inr (.inr (some 39)), .inr (.inr (some 24)), .inr (.inr (some 1))]) (h' := gc_h sh I6 J7 A) (C := (True ∧ True)) rfl ⟨trivial, trivial⟩ ?_
        refine gv_get hD rfl rfl S_39 ⟨by decide, B_39⟩ (gc_hA S_39 rfl A_39_1) ?_
        show gv_X _ _ (38, [(0, .inr (.inr (some 39))), (1, .inl v1_8), (2, .inl v2_8), (3, .inl v3_8)], [.inr (.inr (some 23)), .inr (.inr (some 24)), .inr (.inr (some 1))], sh, gc_h sh I6 J7 A)
        have f15 := (show 0 ≤ I6 23 5 ∧ I6 23 5 ≤ 1000 from gc_in hI6 R_23 rfl rfl)
        refine gv_get hD rfl rfl S_23 ⟨by decide, B_23⟩ (gc_hI S_23 rfl) ?_
        show gv_X _ _ (41, [(0, .inr (.inr (some 39))), (1, .inl v1_8), (2, .inl v2_8), (3, .inl v3_8)], [.inl (I6 23 5), .inr (.inr (some 24)), .inr (.inr (some 1))], sh, gc_h sh I6 J7 A)
        refine gv_run 2 true hD (pc' := 43) (lv' := [(0, .inr (.inr (some 39))), (1, .inl v1_8), (2, .inl v2_8), (3, .inl v3_8)]) (st' := [.inl ((I6 23 5) + v3_8), .inr (.inr (some 24)), .inr (.inr (some 1))]) (h' := gc_h sh I6 J7 A) (C := ((True ∧ True) ∧ True)) rfl ⟨⟨trivial, trivial⟩, trivial⟩ ?_
        have t16 := KLT_I6 (by omega) (I6 23 5 + v3_8) (by omega) (by omega)
        have f17 := (show (-128) ≤ I6 24 (Int.toNat (((I6 23 5) + v3_8))) ∧ I6 24 (Int.toNat (((I6 23 5) + v3_8))) ≤ 127 from gc_in hI6 R_24 rfl rfl)
        refine gv_bald hD rfl S_24 (Or.inl rfl) ⟨by decide, B_24⟩ ⟨by omega, by omega⟩ (gc_iI S_24 rfl) ?_
        show gv_X _ _ (44, [(0, .inr (.inr (some 39))), (1, .inl v1_8), (2, .inl v2_8), (3, .inl v3_8)], [.inl (I6 24 (Int.toNat (((I6 23 5) + v3_8)))), .inr (.inr (some 1))], sh, gc_h sh I6 J7 A)
        obtain ⟨r18, h18, E18, P18⟩ := d_X8_keepByte (ws0 := ws0) (tb := tb) hws htb sh ro I6 J7 A hI6  ((I6 24 (Int.toNat (((I6 23 5) + v3_8))))) hb   ⟨by omega, by omega⟩  
        obtain ⟨I19, J20, rfl, hI19, g18, k18, ⟨rfl, q18⟩⟩ := P18
        have FI19 := gc_frc (W := fun q j => (q = 1 ∧ j = 17) ∨ (q = 1 ∧ j = 18) ∨ q = 20) (V := fun q j => (q = 1 ∧ j = 17) ∨ (q = 1 ∧ j = 18) ∨ q = 20) FI6 (fun q j h => (h.elim (fun h => (Or.inl h)) (fun h => (h.elim (fun h => (Or.inr (Or.inl h))) (fun h => (Or.inr (Or.inr h))))))) g18
        have t21 := (g18 23 1).resolve_left (by omega)
        have t22 := (g18 23 5).resolve_left (by omega)
        have t23 := (g18 23 6).resolve_left (by omega)
        have t24 := (g18 23 7).resolve_left (by omega)
        have f25 := (show 0 ≤ I19 23 1 ∧ I19 23 1 ≤ 1000 from gc_in hI19 R_23 rfl rfl)
        have f26 := (show 0 ≤ I19 23 5 ∧ I19 23 5 ≤ 1000 from gc_in hI19 R_23 rfl rfl)
        have f27 := (show 0 ≤ I19 23 6 ∧ I19 23 6 ≤ 1001 from gc_in hI19 R_23 rfl rfl)
        have f28 := (show 0 ≤ I19 23 7 ∧ I19 23 7 ≤ 125 from gc_in hI19 R_23 rfl rfl)
        have f29 := (show 0 ≤ I19 1 17 ∧ I19 1 17 ≤ 12000 from gc_in hI19 R_1 rfl rfl)
        obtain rfl : J7 = J20 := funext fun q => funext fun j => ((k18 q j).resolve_left id).symm
        have KLT_I19 := gc_LT_fr KLT_I6 ((g18 23 5).resolve_left (by omega)) ((g18 23 6).resolve_left (by omega)) ((g18 23 7).resolve_left (by omega)) (fun k => (g18 24 k).resolve_left (by omega))
        refine gv_callV hD rfl (As := [.inl (I6 24 (Int.toNat (((I6 23 5) + v3_8))))]) (st := []) rfl B_1 S_1 rfl (gc_lV6 hws rfl) (Nat.le_of_ble_eq_true rfl) (gz_Ev_mono (d := 1) (by decide) E18) ?_
        show gv_X _ _ (47, [(0, .inr (.inr (some 39))), (1, .inl v1_8), (2, .inl v2_8), (3, .inl v3_8)], [], sh, gc_h sh I19 J7 A)
        refine gv_run 2 true hD (pc' := 18) (lv' := [(3, .inl (v3_8 + 1)), (0, .inr (.inr (some 39))), (1, .inl v1_8), (2, .inl v2_8)]) (st' := []) (h' := gc_h sh I19 J7 A) (C := ((True ∧ True) ∧ True)) rfl ⟨⟨trivial, trivial⟩, trivial⟩ ?_
        refine gv_pick [1, 2, 3, 0] rfl ?_
        exact ih18 I19 J7 v1_8 v2_8 (v3_8 + 1) (by omega) hI19 FI19 FJ7 KLT_I19 (by omega)
  refine gv_run 1 true hD (pc' := 1) (lv' := [(0, .inr (.inr (some 39)))]) (st' := [.inr (.inr (some 39))]) (h' := gc_h sh I J A) (C := (True ∧ True)) rfl ⟨trivial, trivial⟩ ?_
  refine gv_get hD rfl rfl S_39 ⟨by decide, B_39⟩ (gc_hA S_39 rfl A_39_0) ?_
  show gv_X _ _ (4, [(0, .inr (.inr (some 39)))], [.inr (.inr (some 1))], sh, gc_h sh I J A)
  have f30 := (show 0 ≤ I 1 17 ∧ I 1 17 ≤ 12000 from gc_in hI R_1 rfl rfl)
  refine gv_get hD rfl rfl S_1 ⟨by decide, B_1⟩ (gc_hI S_1 rfl) ?_
  show gv_X _ _ (7, [(0, .inr (.inr (some 39)))], [.inl (I 1 17)], sh, gc_h sh I J A)
  refine gv_run 2 true hD (pc' := 9) (lv' := [(1, .inl (I 1 17)), (0, .inr (.inr (some 39)))]) (st' := [.inr (.inr (some 39))]) (h' := gc_h sh I J A) (C := ((True ∧ True) ∧ True)) rfl ⟨⟨trivial, trivial⟩, trivial⟩ ?_
  refine gv_get hD rfl rfl S_39 ⟨by decide, B_39⟩ (gc_hA S_39 rfl A_39_1) ?_
  show gv_X _ _ (12, [(1, .inl (I 1 17)), (0, .inr (.inr (some 39)))], [.inr (.inr (some 23))], sh, gc_h sh I J A)
  obtain ⟨r31, h31, E31, P31⟩ := d_X9_lettersSize (ws0 := ws0) (tb := tb) hws htb sh ro I J A hI 23  (gc_b23 hb)     
  obtain ⟨rfl, ⟨z31, rfl, q31⟩⟩ := P31
  refine gv_callV hD rfl (As := []) (st := []) rfl B_23 S_23 rfl (gc_lV6 hws rfl) (Nat.le_of_ble_eq_true rfl) (gz_Ev_mono (d := 1) (by decide) E31) ?_
  show gv_X _ _ (15, [(1, .inl (I 1 17)), (0, .inr (.inr (some 39)))], [.inl z31], sh, gc_h sh I J A)
  refine gv_run 3 true hD (pc' := 18) (lv' := [(3, .inl 1), (2, .inl z31), (1, .inl (I 1 17)), (0, .inr (.inr (some 39)))]) (st' := []) (h' := gc_h sh I J A) (C := (((True ∧ True) ∧ True) ∧ True)) rfl ⟨⟨⟨trivial, trivial⟩, trivial⟩, trivial⟩ ?_
  refine gv_pick [3, 2, 1, 0] rfl ?_
  exact L18 _ I J (I 1 17) z31 1 (Nat.lt_succ_self _) hI FI FJ KLT_I (by omega)
