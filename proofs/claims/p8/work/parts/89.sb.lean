set_option maxHeartbeats 8000000 in
set_option maxRecDepth 100000 in
theorem d_X1_kindsOf {ws0 : List Cond} {tb : String → gz_T} (hws : gc_Ws ws0) (htb : gc_tbs tb) (sh : gz_Sh) (ro : Nat → Nat) (I : gr_I) (J : gr_J) (A : gc_A) (hI : gc_Inv ro I) (a1 : Nat) (a2 : Int) (hb : gc_Base sh ro A) (h_a1 : gc_isTongue sh ro A a1) (G_a1 : 144 ≤ a1) (ha2 : 0 ≤ a2 ∧ a2 ≤ 23) (x0 : gc_SP 106 I) (x1 : a2 < I 106 4) : ∃ r h', gz_Ev ws0 tb 3 (yX1_kindsOf, cX1_kindsOf, 6, (some .int)) [.inr (.inr (some 100)), .inr (.inr (some a1)), .inl a2] sh (gc_h sh I J A) r sh h' 0 0 ∧ (∃ (I' : gr_I) (J' : gr_J), h' = gc_h sh I' J' A ∧ gc_Inv ro I' ∧ (∀ q j : Nat, (q = (a1 + 22)) ∨ I' q j = I q j) ∧ (∀ q j : Nat, (False) ∨ J' q j = J q j) ∧ (∃ z : Int, r = some (.inl z) ∧ (-2147483648) ≤ z ∧ z ≤ 2147483647)) := by
  have FI : ∀ q j : Nat, (q = (a1 + 22)) ∨ I q j = I q j := fun _ _ => Or.inr rfl
  have FJ : ∀ q j : Nat, (False) ∨ J q j = J q j := fun _ _ => Or.inr rfl
  have A_1_6 : A 1 6 = some 11 := gc_bA hb rfl
  have A_100_0 : A 100 0 = some 1 := gc_bA hb rfl
  have A_100_12 : A 100 12 = some 106 := gc_bA hb rfl
  have A_106_0 : A 106 0 = some 107 := gc_bA hb rfl
  have A_106_2 : A 106 2 = some 108 := gc_bA hb rfl
  have A_106_3 : A 106 3 = some 109 := gc_bA hb rfl
  have B_1 : 1 < 1000000 := by decide
  have B_100 : 100 < 1000000 := by decide
  have B_106 : 106 < 1000000 := by decide
  have B_107 : 107 < 1000000 := by decide
  have B_108 : 108 < 1000000 := by decide
  have B_109 : 109 < 1000000 := by decide
  have B_11 : 11 < 1000000 := by decide
  have R_107 : ro 107 = 1 := gc_bR hb (by decide) rfl
  have R_108 : ro 108 = 4 := gc_bR hb (by decide) rfl
  have R_109 : ro 109 = 5 := gc_bR hb (by decide) rfl
  have R_11 : ro 11 = 25 := gc_bR hb (by decide) rfl
  have S_1 : sh[1]? = some (false, 8, 21) := gc_bS hb rfl
  have S_100 : sh[100]? = some (false, 1, 19) := gc_bS hb rfl
  have S_106 : sh[106]? = some (false, 9, 10) := gc_bS hb rfl
  have S_107 : sh[107]? = some (true, 0, 1000) := gc_bS hb rfl
  have S_108 : sh[108]? = some (true, 1, 24) := gc_bS hb rfl
  have S_109 : sh[109]? = some (true, 1, 24) := gc_bS hb rfl
  have S_11 : sh[11]? = some (true, 1, 96) := gc_bS hb rfl
  obtain ⟨S_a1, R_a1, B_a1, A_a1_0, h_a1_1, A_a1_1, h_a1_3, A_a1_2, S_a1_5, R_a1_5, B_a1_5, A_a1_3, S_a1_6, R_a1_6, B_a1_6, A_a1_4, h_a1_7, A_a1_5, S_a1_9, R_a1_9, B_a1_9, A_a1_7, S_a1_10, R_a1_10, B_a1_10, A_a1_8, h_a1_11, A_a1_9, S_a1_13, R_a1_13, B_a1_13, A_a1_10, S_a1_14, R_a1_14, B_a1_14, A_a1_12, S_a1_15, R_a1_15, B_a1_15, A_a1_14, S_a1_16, R_a1_16, B_a1_16, A_a1_15, h_a1_17⟩ := id h_a1
  obtain ⟨S_a1_1, R_a1_1, B_a1_1, A_a1_1_0, S_a1_1_1, R_a1_1_1, B_a1_1_1, Q0_a1_1, Q1_a1_1, Q2_a1_1⟩ := id h_a1_1
  obtain ⟨S_a1_3, R_a1_3, B_a1_3, A_a1_3_0, S_a1_3_1, R_a1_3_1, B_a1_3_1, Q0_a1_3, Q1_a1_3, Q2_a1_3⟩ := id h_a1_3
  obtain ⟨S_a1_7, R_a1_7, B_a1_7, A_a1_7_0, S_a1_7_1, R_a1_7_1, B_a1_7_1, Q0_a1_7, Q1_a1_7, Q2_a1_7⟩ := id h_a1_7
  obtain ⟨S_a1_11, R_a1_11, B_a1_11, A_a1_11_0, S_a1_11_1, R_a1_11_1, B_a1_11_1, Q0_a1_11, Q1_a1_11, Q2_a1_11⟩ := id h_a1_11
  obtain ⟨S_a1_17, R_a1_17, B_a1_17, A_a1_17_0, S_20, R_20, B_20, A_a1_17_1, S_a1_17_1, R_a1_17_1, B_a1_17_1, A_a1_17_2, S_a1_17_2, R_a1_17_2, B_a1_17_2, A_a1_17_3, S_a1_17_3, R_a1_17_3, B_a1_17_3, A_a1_17_4, S_a1_17_4, R_a1_17_4, B_a1_17_4, A_a1_17_5, S_a1_17_5, R_a1_17_5, B_a1_17_5, S_a1_17_6, R_a1_17_6, B_a1_17_6, S_a1_17_7, R_a1_17_7, B_a1_17_7⟩ := id h_a1_17
  have hD : gv_D (gc_E1 ws0 tb 2 (yX1_kindsOf, cX1_kindsOf, 6, (some .int)) kX1_kindsOf) := gq_of oX1_kindsOf
  refine gc_ev1 (d := 2) (l := kX1_kindsOf) (Po := fun r h' => (∃ (I' : gr_I) (J' : gr_J), h' = gc_h sh I' J' A ∧ gc_Inv ro I' ∧ (∀ q j : Nat, (q = (a1 + 22)) ∨ I' q j = I q j) ∧ (∀ q j : Nat, (False) ∨ J' q j = J q j) ∧ (∃ z : Int, r = some (.inl z) ∧ (-2147483648) ≤ z ∧ z ≤ 2147483647))) htb rfl (Nat.le_of_ble_eq_true rfl) ?_
  have L39 : ∀ (n9 : Nat) (I1 : gr_I) (J2 : gr_J) (v3_3 : Int) (v4_3 : Int) (v5_3 : Int), (1537 - v5_3).toNat < n9 → gc_Inv ro I1 → (∀ q j : Nat, (q = (a1 + 22)) ∨ I1 q j = I q j) → (∀ q j : Nat, (False) ∨ J2 q j = J q j) → (((-2147483648) ≤ v3_3 ∧ v3_3 ≤ 2147483647) ∧ (0 ≤ v4_3 ∧ v4_3 ≤ 1536) ∧ (0 ≤ v5_3 ∧ v5_3 ≤ 1536) ∧ (v5_3 ≤ v4_3)) → gv_X (gc_E1 ws0 tb 2 (yX1_kindsOf, cX1_kindsOf, 6, (some .int)) kX1_kindsOf) (gv_Q cX1_kindsOf (some .int) sh (fun r h' => (∃ (I' : gr_I) (J' : gr_J), h' = gc_h sh I' J' A ∧ gc_Inv ro I' ∧ (∀ q j : Nat, (q = (a1 + 22)) ∨ I' q j = I q j) ∧ (∀ q j : Nat, (False) ∨ J' q j = J q j) ∧ (∃ z : Int, r = some (.inl z) ∧ (-2147483648) ≤ z ∧ z ≤ 2147483647)))) (39, [(0, .inr (.inr (some 100))), (1, .inr (.inr (some a1))), (3, .inl v3_3), (4, .inl v4_3), (5, .inl v5_3)], [], sh, gc_h sh I1 J2 A) := by
    intro n9
    induction n9 with
    | zero => intro I1 J2 v3_3 v4_3 v5_3 hn; exact gz_m 0 (by omega)
    | succ n9 ih39 =>
      intro I1 J2 v3_3 v4_3 v5_3 hn hI1 FI1 FJ2 m_3
      obtain ⟨hv3_3, hv4_3, hv5_3, e0_3⟩ := m_3
      refine gv_run 2 true hD (pc' := 43) (lv' := [(0, .inr (.inr (some 100))), (1, .inr (.inr (some a1))), (3, .inl v3_3), (4, .inl v4_3), (5, .inl v5_3)]) (st' := [.inl v4_3, .inl v5_3]) (h' := gc_h sh I1 J2 A) (C := ((True ∧ True) ∧ True)) rfl ⟨⟨trivial, trivial⟩, trivial⟩ ?_
      refine gv_icmp_ge (t := 82) hD rfl rfl ⟨⟨by exact gz_m 1 (by omega), by exact gz_m 2 (by omega)⟩, ⟨by exact gz_m 3 (by omega), by exact gz_m 4 (by omega)⟩⟩ (fun c4 => ?_) (fun c4 => ?_)
      · show gv_X _ _ (82, [(0, .inr (.inr (some 100))), (1, .inr (.inr (some a1))), (3, .inl v3_3), (4, .inl v4_3), (5, .inl v5_3)], [], sh, gc_h sh I1 J2 A)
        refine gv_run 1 true hD (pc' := 83) (lv' := [(0, .inr (.inr (some 100))), (1, .inr (.inr (some a1))), (3, .inl v3_3), (4, .inl v4_3), (5, .inl v5_3)]) (st' := [.inl v3_3]) (h' := gc_h sh I1 J2 A) (C := (True ∧ True)) rfl ⟨trivial, trivial⟩ ?_
        exact gv_iret hD rfl ⟨I1, J2, rfl, hI1, FI1, FJ2, ⟨_, rfl, by exact gz_m 5 (by omega)⟩⟩
      · show gv_X _ _ (46, [(0, .inr (.inr (some 100))), (1, .inr (.inr (some a1))), (3, .inl v3_3), (4, .inl v4_3), (5, .inl v5_3)], [], sh, gc_h sh I1 J2 A)
        refine gv_run 3 true hD (pc' := 49) (lv' := [(0, .inr (.inr (some 100))), (1, .inr (.inr (some a1))), (3, .inl v3_3), (4, .inl v4_3), (5, .inl v5_3)]) (st' := [.inr (.inr (some 100)), .inl 1, .inl v3_3]) (h' := gc_h sh I1 J2 A) (C := (((True ∧ True) ∧ True) ∧ True)) rfl ⟨⟨⟨trivial, trivial⟩, trivial⟩, trivial⟩ ?_
        refine gv_get hD rfl rfl S_100 ⟨by decide, B_100⟩ (gc_hA S_100 rfl A_100_0) ?_
        show gv_X _ _ (52, [(0, .inr (.inr (some 100))), (1, .inr (.inr (some a1))), (3, .inl v3_3), (4, .inl v4_3), (5, .inl v5_3)], [.inr (.inr (some 1)), .inl 1, .inl v3_3], sh, gc_h sh I1 J2 A)
        refine gv_get hD rfl rfl S_1 ⟨by decide, B_1⟩ (gc_hA S_1 rfl A_1_6) ?_
        show gv_X _ _ (55, [(0, .inr (.inr (some 100))), (1, .inr (.inr (some a1))), (3, .inl v3_3), (4, .inl v4_3), (5, .inl v5_3)], [.inr (.inr (some 11)), .inl 1, .inl v3_3], sh, gc_h sh I1 J2 A)
        refine gv_run 2 true hD (pc' := 57) (lv' := [(0, .inr (.inr (some 100))), (1, .inr (.inr (some a1))), (3, .inl v3_3), (4, .inl v4_3), (5, .inl v5_3)]) (st' := [.inr (.inr (some a1)), .inr (.inr (some a1)), .inr (.inr (some 11)), .inl 1, .inl v3_3]) (h' := gc_h sh I1 J2 A) (C := ((True ∧ True) ∧ True)) rfl ⟨⟨trivial, trivial⟩, trivial⟩ ?_
        refine gv_get hD rfl rfl S_a1 ⟨by decide, B_a1⟩ (gc_hA S_a1 rfl A_a1_15) ?_
        show gv_X _ _ (60, [(0, .inr (.inr (some 100))), (1, .inr (.inr (some a1))), (3, .inl v3_3), (4, .inl v4_3), (5, .inl v5_3)], [.inr (.inr (some (a1 + 17))), .inr (.inr (some a1)), .inr (.inr (some 11)), .inl 1, .inl v3_3], sh, gc_h sh I1 J2 A)
        refine gv_get hD rfl rfl S_a1_17 ⟨by decide, B_a1_17⟩ (gc_hA S_a1_17 rfl A_a1_17_5) ?_
        show gv_X _ _ (63, [(0, .inr (.inr (some 100))), (1, .inr (.inr (some a1))), (3, .inl v3_3), (4, .inl v4_3), (5, .inl v5_3)], [.inr (.inr (some ((a1 + 17) + 5))), .inr (.inr (some a1)), .inr (.inr (some 11)), .inl 1, .inl v3_3], sh, gc_h sh I1 J2 A)
        refine gv_run 1 true hD (pc' := 65) (lv' := [(0, .inr (.inr (some 100))), (1, .inr (.inr (some a1))), (3, .inl v3_3), (4, .inl v4_3), (5, .inl v5_3)]) (st' := [.inl v5_3, .inr (.inr (some ((a1 + 17) + 5))), .inr (.inr (some a1)), .inr (.inr (some 11)), .inl 1, .inl v3_3]) (h' := gc_h sh I1 J2 A) (C := (True ∧ True)) rfl ⟨trivial, trivial⟩ ?_
        have f5 := (show 0 ≤ I1 ((a1 + 17) + 5) (Int.toNat v5_3) ∧ I1 ((a1 + 17) + 5) (Int.toNat v5_3) ≤ 1535 from gc_in hI1 R_a1_17_5 rfl rfl)
        refine gv_iald hD rfl S_a1_17_5 rfl ⟨by decide, B_a1_17_5⟩ ⟨by exact gz_m 6 (by omega), by exact gz_m 7 (by omega)⟩ (gc_iI S_a1_17_5 rfl) ?_
        show gv_X _ _ (66, [(0, .inr (.inr (some 100))), (1, .inr (.inr (some a1))), (3, .inl v3_3), (4, .inl v4_3), (5, .inl v5_3)], [.inl (I1 ((a1 + 17) + 5) (Int.toNat v5_3)), .inr (.inr (some a1)), .inr (.inr (some 11)), .inl 1, .inl v3_3], sh, gc_h sh I1 J2 A)
        have f6 := gw_div (x := ((I1 ((a1 + 17) + 5) (Int.toNat v5_3)))) (y := 24) ⟨by exact gz_m 8 (by omega), by exact gz_m 9 (by omega)⟩ ⟨by exact gz_m 10 (by omega), by exact gz_m 11 (by omega)⟩
        refine gv_run 2 true hD (pc' := 69) (lv' := [(0, .inr (.inr (some 100))), (1, .inr (.inr (some a1))), (3, .inl v3_3), (4, .inl v4_3), (5, .inl v5_3)]) (st' := [.inl ((Int32.ofInt ((I1 ((a1 + 17) + 5) (Int.toNat v5_3))) / Int32.ofInt 24).toInt), .inr (.inr (some a1)), .inr (.inr (some 11)), .inl 1, .inl v3_3]) (h' := gc_h sh I1 J2 A) (C := ((True ∧ True) ∧ (gz_R 24 ∧ ¬ 24 = 0))) rfl ⟨⟨trivial, trivial⟩, ⟨⟨by exact gz_m 12 (by omega), by exact gz_m 13 (by omega)⟩, by exact gz_m 14 (by omega)⟩⟩ ?_
        obtain ⟨r7, h7, E7, P7⟩ := d_X11_wordFun (ws0 := ws0) (tb := tb) hws htb sh ro I1 J2 A hI1 a1 (((Int32.ofInt ((I1 ((a1 + 17) + 5) (Int.toNat v5_3))) / Int32.ofInt 24).toInt)) h_a1   ⟨by exact gz_m 15 (by omega), by exact gz_m 16 (by omega)⟩  
        obtain ⟨rfl, ⟨z7, rfl, q7⟩⟩ := P7
        refine gv_callV hD rfl (As := [.inl ((Int32.ofInt ((I1 ((a1 + 17) + 5) (Int.toNat v5_3))) / Int32.ofInt 24).toInt)]) (st := [.inr (.inr (some 11)), .inl 1, .inl v3_3]) rfl B_a1 S_a1 rfl (gc_lV1 hws rfl) (Nat.le_of_ble_eq_true rfl) (gz_Ev_mono (d := 1) (by decide) E7) ?_
        show gv_X _ _ (72, [(0, .inr (.inr (some 100))), (1, .inr (.inr (some a1))), (3, .inl v3_3), (4, .inl v4_3), (5, .inl v5_3)], [.inl z7, .inr (.inr (some 11)), .inl 1, .inl v3_3], sh, gc_h sh I1 J2 A)
        have f8 := (show 0 ≤ I1 11 (Int.toNat z7) ∧ I1 11 (Int.toNat z7) ≤ 31 from gc_in hI1 R_11 rfl rfl)
        refine gv_iald hD rfl S_11 rfl ⟨by decide, B_11⟩ ⟨by exact gz_m 17 (by omega), by exact gz_m 18 (by omega)⟩ (gc_iI S_11 rfl) ?_
        show gv_X _ _ (73, [(0, .inr (.inr (some 100))), (1, .inr (.inr (some a1))), (3, .inl v3_3), (4, .inl v4_3), (5, .inl v5_3)], [.inl (I1 11 (Int.toNat z7)), .inl 1, .inl v3_3], sh, gc_h sh I1 J2 A)
        have f9 := gw_any (Int32.ofInt 1 <<< (Int32.ofInt ((I1 11 (Int.toNat z7))) &&& 31))
        have f10 := gw_any ((Int32.ofInt v3_3 ||| Int32.ofInt (((Int32.ofInt 1 <<< (Int32.ofInt ((I1 11 (Int.toNat z7))) &&& 31)).toInt))))
        refine gv_run 5 true hD (pc' := 39) (lv' := [(5, .inl (v5_3 + 1)), (3, .inl ((Int32.ofInt v3_3 ||| Int32.ofInt (((Int32.ofInt 1 <<< (Int32.ofInt ((I1 11 (Int.toNat z7))) &&& 31)).toInt))).toInt)), (0, .inr (.inr (some 100))), (1, .inr (.inr (some a1))), (4, .inl v4_3)]) (st' := []) (h' := gc_h sh I1 J2 A) (C := (((((True ∧ True) ∧ True) ∧ True) ∧ True) ∧ True)) rfl ⟨⟨⟨⟨⟨trivial, trivial⟩, trivial⟩, trivial⟩, trivial⟩, trivial⟩ ?_
        refine gv_pick [2, 3, 1, 4, 0] rfl ?_
        exact ih39 I1 J2 (((Int32.ofInt v3_3 ||| Int32.ofInt (((Int32.ofInt 1 <<< (Int32.ofInt ((I1 11 (Int.toNat z7))) &&& 31)).toInt))).toInt)) v4_3 (v5_3 + 1) (by exact gz_m 19 (by omega)) hI1 FI1 FJ2 (by exact gz_m 20 (by omega))
  refine gv_run 3 true hD (pc' := 3) (lv' := [(3, .inl 0), (0, .inr (.inr (some 100))), (1, .inr (.inr (some a1))), (2, .inl a2)]) (st' := [.inr (.inr (some a1))]) (h' := gc_h sh I J A) (C := (((True ∧ True) ∧ True) ∧ True)) rfl ⟨⟨⟨trivial, trivial⟩, trivial⟩, trivial⟩ ?_
  refine gv_get hD rfl rfl S_a1 ⟨by decide, B_a1⟩ (gc_hA S_a1 rfl A_a1_15) ?_
  show gv_X _ _ (6, [(3, .inl 0), (0, .inr (.inr (some 100))), (1, .inr (.inr (some a1))), (2, .inl a2)], [.inr (.inr (some (a1 + 17)))], sh, gc_h sh I J A)
  refine gv_run 1 true hD (pc' := 7) (lv' := [(3, .inl 0), (0, .inr (.inr (some 100))), (1, .inr (.inr (some a1))), (2, .inl a2)]) (st' := [.inr (.inr (some 100)), .inr (.inr (some (a1 + 17)))]) (h' := gc_h sh I J A) (C := (True ∧ True)) rfl ⟨trivial, trivial⟩ ?_
  refine gv_get hD rfl rfl S_100 ⟨by decide, B_100⟩ (gc_hA S_100 rfl A_100_12) ?_
  show gv_X _ _ (10, [(3, .inl 0), (0, .inr (.inr (some 100))), (1, .inr (.inr (some a1))), (2, .inl a2)], [.inr (.inr (some 106)), .inr (.inr (some (a1 + 17)))], sh, gc_h sh I J A)
  refine gv_get hD rfl rfl S_106 ⟨by decide, B_106⟩ (gc_hA S_106 rfl A_106_0) ?_
  show gv_X _ _ (13, [(3, .inl 0), (0, .inr (.inr (some 100))), (1, .inr (.inr (some a1))), (2, .inl a2)], [.inr (.inr (some 107)), .inr (.inr (some (a1 + 17)))], sh, gc_h sh I J A)
  refine gv_run 1 true hD (pc' := 14) (lv' := [(3, .inl 0), (0, .inr (.inr (some 100))), (1, .inr (.inr (some a1))), (2, .inl a2)]) (st' := [.inr (.inr (some 100)), .inr (.inr (some 107)), .inr (.inr (some (a1 + 17)))]) (h' := gc_h sh I J A) (C := (True ∧ True)) rfl ⟨trivial, trivial⟩ ?_
  refine gv_get hD rfl rfl S_100 ⟨by decide, B_100⟩ (gc_hA S_100 rfl A_100_12) ?_
  show gv_X _ _ (17, [(3, .inl 0), (0, .inr (.inr (some 100))), (1, .inr (.inr (some a1))), (2, .inl a2)], [.inr (.inr (some 106)), .inr (.inr (some 107)), .inr (.inr (some (a1 + 17)))], sh, gc_h sh I J A)
  refine gv_get hD rfl rfl S_106 ⟨by decide, B_106⟩ (gc_hA S_106 rfl A_106_2) ?_
  show gv_X _ _ (20, [(3, .inl 0), (0, .inr (.inr (some 100))), (1, .inr (.inr (some a1))), (2, .inl a2)], [.inr (.inr (some 108)), .inr (.inr (some 107)), .inr (.inr (some (a1 + 17)))], sh, gc_h sh I J A)
  refine gv_run 1 true hD (pc' := 21) (lv' := [(3, .inl 0), (0, .inr (.inr (some 100))), (1, .inr (.inr (some a1))), (2, .inl a2)]) (st' := [.inl a2, .inr (.inr (some 108)), .inr (.inr (some 107)), .inr (.inr (some (a1 + 17)))]) (h' := gc_h sh I J A) (C := (True ∧ True)) rfl ⟨trivial, trivial⟩ ?_
  have f11 := (show 0 ≤ I 108 (Int.toNat a2) ∧ I 108 (Int.toNat a2) ≤ 1000 from gc_in hI R_108 rfl rfl)
  refine gv_iald hD rfl S_108 rfl ⟨by decide, B_108⟩ ⟨by exact gz_m 21 (by omega), by exact gz_m 22 (by omega)⟩ (gc_iI S_108 rfl) ?_
  show gv_X _ _ (22, [(3, .inl 0), (0, .inr (.inr (some 100))), (1, .inr (.inr (some a1))), (2, .inl a2)], [.inl (I 108 (Int.toNat a2)), .inr (.inr (some 107)), .inr (.inr (some (a1 + 17)))], sh, gc_h sh I J A)
  refine gv_run 1 true hD (pc' := 23) (lv' := [(3, .inl 0), (0, .inr (.inr (some 100))), (1, .inr (.inr (some a1))), (2, .inl a2)]) (st' := [.inr (.inr (some 100)), .inl (I 108 (Int.toNat a2)), .inr (.inr (some 107)), .inr (.inr (some (a1 + 17)))]) (h' := gc_h sh I J A) (C := (True ∧ True)) rfl ⟨trivial, trivial⟩ ?_
  refine gv_get hD rfl rfl S_100 ⟨by decide, B_100⟩ (gc_hA S_100 rfl A_100_12) ?_
  show gv_X _ _ (26, [(3, .inl 0), (0, .inr (.inr (some 100))), (1, .inr (.inr (some a1))), (2, .inl a2)], [.inr (.inr (some 106)), .inl (I 108 (Int.toNat a2)), .inr (.inr (some 107)), .inr (.inr (some (a1 + 17)))], sh, gc_h sh I J A)
  refine gv_get hD rfl rfl S_106 ⟨by decide, B_106⟩ (gc_hA S_106 rfl A_106_3) ?_
  show gv_X _ _ (29, [(3, .inl 0), (0, .inr (.inr (some 100))), (1, .inr (.inr (some a1))), (2, .inl a2)], [.inr (.inr (some 109)), .inl (I 108 (Int.toNat a2)), .inr (.inr (some 107)), .inr (.inr (some (a1 + 17)))], sh, gc_h sh I J A)
  refine gv_run 1 true hD (pc' := 30) (lv' := [(3, .inl 0), (0, .inr (.inr (some 100))), (1, .inr (.inr (some a1))), (2, .inl a2)]) (st' := [.inl a2, .inr (.inr (some 109)), .inl (I 108 (Int.toNat a2)), .inr (.inr (some 107)), .inr (.inr (some (a1 + 17)))]) (h' := gc_h sh I J A) (C := (True ∧ True)) rfl ⟨trivial, trivial⟩ ?_
  have f12 := (show 0 ≤ I 109 (Int.toNat a2) ∧ I 109 (Int.toNat a2) ≤ 24 from gc_in hI R_109 rfl rfl)
  refine gv_iald hD rfl S_109 rfl ⟨by decide, B_109⟩ ⟨by exact gz_m 23 (by omega), by exact gz_m 24 (by omega)⟩ (gc_iI S_109 rfl) ?_
  show gv_X _ _ (31, [(3, .inl 0), (0, .inr (.inr (some 100))), (1, .inr (.inr (some a1))), (2, .inl a2)], [.inl (I 109 (Int.toNat a2)), .inl (I 108 (Int.toNat a2)), .inr (.inr (some 107)), .inr (.inr (some (a1 + 17)))], sh, gc_h sh I J A)
  have t13 := x0 (Int.toNat a2) (by exact gz_m 25 (by omega))
  obtain ⟨r14, h14, E14, P14⟩ := d_X2_findSame (ws0 := ws0) (tb := tb) hws htb sh ro I J A hI (a1 + 17) 1000 107 ((I 108 (Int.toNat a2))) ((I 109 (Int.toNat a2))) h_a1_17 S_107 R_107 B_107 (by decide)  ⟨by exact gz_m 26 (by omega), by exact gz_m 27 (by omega)⟩ ⟨by exact gz_m 28 (by omega), by exact gz_m 29 (by omega)⟩ (by exact gz_m 30 (by omega)) 
  obtain ⟨I15, J16, rfl, hI15, g14, k14, ⟨z14, rfl, q14⟩⟩ := P14
  have FI15 := gc_frc (W := fun q j => q = (a1 + 22)) (V := fun q j => q = (a1 + 22)) FI (fun q j h => h) g14
  obtain rfl : J = J16 := funext fun q => funext fun j => ((k14 q j).resolve_left id).symm
  refine gv_callV hD rfl (As := [.inr (.inr (some 107)), .inl (I 108 (Int.toNat a2)), .inl (I 109 (Int.toNat a2))]) (st := []) rfl B_a1_17 S_a1_17 rfl (gc_lV1 hws rfl) (Nat.le_of_ble_eq_true rfl) (gz_Ev_mono (d := 2) (by decide) E14) ?_
  show gv_X _ _ (34, [(3, .inl 0), (0, .inr (.inr (some 100))), (1, .inr (.inr (some a1))), (2, .inl a2)], [.inl z14], sh, gc_h sh I15 J A)
  refine gv_run 3 true hD (pc' := 39) (lv' := [(5, .inl 0), (4, .inl z14), (3, .inl 0), (0, .inr (.inr (some 100))), (1, .inr (.inr (some a1))), (2, .inl a2)]) (st' := []) (h' := gc_h sh I15 J A) (C := (((True ∧ True) ∧ True) ∧ True)) rfl ⟨⟨⟨trivial, trivial⟩, trivial⟩, trivial⟩ ?_
  refine gv_pick [3, 4, 2, 1, 0] rfl ?_
  exact L39 _ I15 J 0 z14 0 (Nat.lt_succ_self _) hI15 FI15 FJ (by exact gz_m 31 (by omega))
set_option maxHeartbeats 8000000 in
set_option maxRecDepth 100000 in
theorem d_X1_fitsAt {ws0 : List Cond} {tb : String → gz_T} (hws : gc_Ws ws0) (htb : gc_tbs tb) (sh : gz_Sh) (ro : Nat → Nat) (I : gr_I) (J : gr_J) (A : gc_A) (hI : gc_Inv ro I) (a1 : Int) (a2 : Int) (a3 : Nat) (hb : gc_Base sh ro A) (h_a3 : gc_isText sh ro A a3) (ha1 : 0 ≤ a1 ∧ a1 ≤ 7) (ha2 : 0 ≤ a2 ∧ a2 ≤ 23) (x0 : gc_SP 106 I) (x1 : a2 < I 106 4) (x2 : I 113 (Int.toNat (3 * a1)) = 3 → I 113 (Int.toNat ((3 * a1) + 1)) + I 113 (Int.toNat ((3 * a1) + 2)) ≤ 1000) : ∃ r h', gz_Ev ws0 tb 1 (yX1_fitsAt, cX1_fitsAt, 7, (some .boolean)) [.inr (.inr (some 100)), .inl a1, .inl a2, .inr (.inr (some a3))] sh (gc_h sh I J A) r sh h' 0 0 ∧ (h' = gc_h sh I J A ∧ (∃ z : Int, r = some (.inl z) ∧ 0 ≤ z ∧ z ≤ 1)) := by
  have A_100_12 : A 100 12 = some 106 := gc_bA hb rfl
  have A_100_13 : A 100 13 = some 110 := gc_bA hb rfl
  have A_100_18 : A 100 18 = some 113 := gc_bA hb rfl
  have A_106_0 : A 106 0 = some 107 := gc_bA hb rfl
  have A_106_2 : A 106 2 = some 108 := gc_bA hb rfl
  have A_106_3 : A 106 3 = some 109 := gc_bA hb rfl
  have B_100 : 100 < 1000000 := by decide
  have B_106 : 106 < 1000000 := by decide
  have B_107 : 107 < 1000000 := by decide
  have B_108 : 108 < 1000000 := by decide
  have B_109 : 109 < 1000000 := by decide
  have B_110 : 110 < 1000000 := by decide
  have B_113 : 113 < 1000000 := by decide
  have R_107 : ro 107 = 1 := gc_bR hb (by decide) rfl
  have R_108 : ro 108 = 4 := gc_bR hb (by decide) rfl
  have R_109 : ro 109 = 5 := gc_bR hb (by decide) rfl
  have R_110 : ro 110 = 0 := gc_bR hb (by decide) rfl
  have R_113 : ro 113 = 71 := gc_bR hb (by decide) rfl
  have S_100 : sh[100]? = some (false, 1, 19) := gc_bS hb rfl
  have S_106 : sh[106]? = some (false, 9, 10) := gc_bS hb rfl
  have S_107 : sh[107]? = some (true, 0, 1000) := gc_bS hb rfl
  have S_108 : sh[108]? = some (true, 1, 24) := gc_bS hb rfl
  have S_109 : sh[109]? = some (true, 1, 24) := gc_bS hb rfl
  have S_110 : sh[110]? = some (true, 1, 24) := gc_bS hb rfl
  have S_113 : sh[113]? = some (true, 1, 24) := gc_bS hb rfl
  obtain ⟨S_a3, R_a3, B_a3, A_a3_0, S_a3_1, R_a3_1, B_a3_1, A_a3_2, S_a3_2, R_a3_2, B_a3_2, A_a3_3, S_a3_3, R_a3_3, B_a3_3⟩ := id h_a3
  have hD : gv_D (gc_E1 ws0 tb 0 (yX1_fitsAt, cX1_fitsAt, 7, (some .boolean)) kX1_fitsAt) := gq_of oX1_fitsAt
  refine gc_ev1 (d := 0) (l := kX1_fitsAt) (Po := fun r h' => (h' = gc_h sh I J A ∧ (∃ z : Int, r = some (.inl z) ∧ 0 ≤ z ∧ z ≤ 1))) htb rfl (Nat.le_of_ble_eq_true rfl) ?_
  have L48 : ∀ (s0_1 : Int), ((0 ≤ s0_1 ∧ s0_1 ≤ 1)) → gv_X (gc_E1 ws0 tb 0 (yX1_fitsAt, cX1_fitsAt, 7, (some .boolean)) kX1_fitsAt) (gv_Q cX1_fitsAt (some .boolean) sh (fun r h' => (h' = gc_h sh I J A ∧ (∃ z : Int, r = some (.inl z) ∧ 0 ≤ z ∧ z ≤ 1)))) (48, [], [.inl s0_1], sh, gc_h sh I J A) := by
    intro s0_1 m_1
    have hs0_1 := m_1
    exact gv_zret hD rfl (by exact gz_m 0 (by omega)) ⟨rfl, ⟨_, rfl, by exact gz_m 1 (by omega)⟩⟩
  have L84 : ∀ (n9 : Nat) (v5_2 : Int) (v6_2 : Int), (25 - v6_2).toNat < n9 → ((0 ≤ a2 ∧ a2 ≤ 23) ∧ (0 ≤ v5_2 ∧ v5_2 ≤ 1001) ∧ (0 ≤ v6_2 ∧ v6_2 ≤ 24) ∧ (v5_2 + I 109 (Int.toNat a2) ≤ 1000)) → gv_X (gc_E1 ws0 tb 0 (yX1_fitsAt, cX1_fitsAt, 7, (some .boolean)) kX1_fitsAt) (gv_Q cX1_fitsAt (some .boolean) sh (fun r h' => (h' = gc_h sh I J A ∧ (∃ z : Int, r = some (.inl z) ∧ 0 ≤ z ∧ z ≤ 1)))) (84, [(0, .inr (.inr (some 100))), (2, .inl a2), (3, .inr (.inr (some a3))), (5, .inl v5_2), (6, .inl v6_2)], [], sh, gc_h sh I J A) := by
    intro n9
    induction n9 with
    | zero => intro v5_2 v6_2 hn; exact gz_m 2 (by omega)
    | succ n9 ih84 =>
      intro v5_2 v6_2 hn m_2
      obtain ⟨ha2_2, hv5_2, hv6_2, e0_2⟩ := m_2
      have t3 := (show I 108 (Int.toNat a2) + I 109 (Int.toNat a2) ≤ 1000 from x0 (Int.toNat a2) (by exact gz_m 3 (by omega)))
      refine gv_run 2 true hD (pc' := 87) (lv' := [(0, .inr (.inr (some 100))), (2, .inl a2), (3, .inr (.inr (some a3))), (5, .inl v5_2), (6, .inl v6_2)]) (st' := [.inr (.inr (some 100)), .inl v6_2]) (h' := gc_h sh I J A) (C := ((True ∧ True) ∧ True)) rfl ⟨⟨trivial, trivial⟩, trivial⟩ ?_
      refine gv_get hD rfl rfl S_100 ⟨by decide, B_100⟩ (gc_hA S_100 rfl A_100_12) ?_
      show gv_X _ _ (90, [(0, .inr (.inr (some 100))), (2, .inl a2), (3, .inr (.inr (some a3))), (5, .inl v5_2), (6, .inl v6_2)], [.inr (.inr (some 106)), .inl v6_2], sh, gc_h sh I J A)
      refine gv_get hD rfl rfl S_106 ⟨by decide, B_106⟩ (gc_hA S_106 rfl A_106_3) ?_
      show gv_X _ _ (93, [(0, .inr (.inr (some 100))), (2, .inl a2), (3, .inr (.inr (some a3))), (5, .inl v5_2), (6, .inl v6_2)], [.inr (.inr (some 109)), .inl v6_2], sh, gc_h sh I J A)
      refine gv_run 1 true hD (pc' := 94) (lv' := [(0, .inr (.inr (some 100))), (2, .inl a2), (3, .inr (.inr (some a3))), (5, .inl v5_2), (6, .inl v6_2)]) (st' := [.inl a2, .inr (.inr (some 109)), .inl v6_2]) (h' := gc_h sh I J A) (C := (True ∧ True)) rfl ⟨trivial, trivial⟩ ?_
      have f4 := (show 0 ≤ I 109 (Int.toNat a2) ∧ I 109 (Int.toNat a2) ≤ 24 from gc_in hI R_109 rfl rfl)
      refine gv_iald hD rfl S_109 rfl ⟨by decide, B_109⟩ ⟨by exact gz_m 4 (by omega), by exact gz_m 5 (by omega)⟩ (gc_iI S_109 rfl) ?_
      show gv_X _ _ (95, [(0, .inr (.inr (some 100))), (2, .inl a2), (3, .inr (.inr (some a3))), (5, .inl v5_2), (6, .inl v6_2)], [.inl (I 109 (Int.toNat a2)), .inl v6_2], sh, gc_h sh I J A)
      refine gv_icmp_ge (t := 139) hD rfl rfl ⟨⟨by exact gz_m 6 (by omega), by exact gz_m 7 (by omega)⟩, ⟨by exact gz_m 8 (by omega), by exact gz_m 9 (by omega)⟩⟩ (fun c5 => ?_) (fun c5 => ?_)
      · show gv_X _ _ (139, [(0, .inr (.inr (some 100))), (2, .inl a2), (3, .inr (.inr (some a3))), (5, .inl v5_2), (6, .inl v6_2)], [], sh, gc_h sh I J A)
        refine gv_run 1 true hD (pc' := 140) (lv' := [(0, .inr (.inr (some 100))), (2, .inl a2), (3, .inr (.inr (some a3))), (5, .inl v5_2), (6, .inl v6_2)]) (st' := [.inl 1]) (h' := gc_h sh I J A) (C := (True ∧ True)) rfl ⟨trivial, trivial⟩ ?_
        exact gv_zret hD rfl (by exact gz_m 10 (by omega)) ⟨rfl, ⟨_, rfl, by exact gz_m 11 (by omega)⟩⟩
      · show gv_X _ _ (98, [(0, .inr (.inr (some 100))), (2, .inl a2), (3, .inr (.inr (some a3))), (5, .inl v5_2), (6, .inl v6_2)], [], sh, gc_h sh I J A)
        refine gv_run 1 true hD (pc' := 99) (lv' := [(0, .inr (.inr (some 100))), (2, .inl a2), (3, .inr (.inr (some a3))), (5, .inl v5_2), (6, .inl v6_2)]) (st' := [.inr (.inr (some 100))]) (h' := gc_h sh I J A) (C := (True ∧ True)) rfl ⟨trivial, trivial⟩ ?_
        refine gv_get hD rfl rfl S_100 ⟨by decide, B_100⟩ (gc_hA S_100 rfl A_100_12) ?_
        show gv_X _ _ (102, [(0, .inr (.inr (some 100))), (2, .inl a2), (3, .inr (.inr (some a3))), (5, .inl v5_2), (6, .inl v6_2)], [.inr (.inr (some 106))], sh, gc_h sh I J A)
        refine gv_get hD rfl rfl S_106 ⟨by decide, B_106⟩ (gc_hA S_106 rfl A_106_0) ?_
        show gv_X _ _ (105, [(0, .inr (.inr (some 100))), (2, .inl a2), (3, .inr (.inr (some a3))), (5, .inl v5_2), (6, .inl v6_2)], [.inr (.inr (some 107))], sh, gc_h sh I J A)
        refine gv_run 1 true hD (pc' := 106) (lv' := [(0, .inr (.inr (some 100))), (2, .inl a2), (3, .inr (.inr (some a3))), (5, .inl v5_2), (6, .inl v6_2)]) (st' := [.inr (.inr (some 100)), .inr (.inr (some 107))]) (h' := gc_h sh I J A) (C := (True ∧ True)) rfl ⟨trivial, trivial⟩ ?_
        refine gv_get hD rfl rfl S_100 ⟨by decide, B_100⟩ (gc_hA S_100 rfl A_100_12) ?_
        show gv_X _ _ (109, [(0, .inr (.inr (some 100))), (2, .inl a2), (3, .inr (.inr (some a3))), (5, .inl v5_2), (6, .inl v6_2)], [.inr (.inr (some 106)), .inr (.inr (some 107))], sh, gc_h sh I J A)
        refine gv_get hD rfl rfl S_106 ⟨by decide, B_106⟩ (gc_hA S_106 rfl A_106_2) ?_
        show gv_X _ _ (112, [(0, .inr (.inr (some 100))), (2, .inl a2), (3, .inr (.inr (some a3))), (5, .inl v5_2), (6, .inl v6_2)], [.inr (.inr (some 108)), .inr (.inr (some 107))], sh, gc_h sh I J A)
        refine gv_run 1 true hD (pc' := 113) (lv' := [(0, .inr (.inr (some 100))), (2, .inl a2), (3, .inr (.inr (some a3))), (5, .inl v5_2), (6, .inl v6_2)]) (st' := [.inl a2, .inr (.inr (some 108)), .inr (.inr (some 107))]) (h' := gc_h sh I J A) (C := (True ∧ True)) rfl ⟨trivial, trivial⟩ ?_
        have f6 := (show 0 ≤ I 108 (Int.toNat a2) ∧ I 108 (Int.toNat a2) ≤ 1000 from gc_in hI R_108 rfl rfl)
        refine gv_iald hD rfl S_108 rfl ⟨by decide, B_108⟩ ⟨by exact gz_m 12 (by omega), by exact gz_m 13 (by omega)⟩ (gc_iI S_108 rfl) ?_
        show gv_X _ _ (114, [(0, .inr (.inr (some 100))), (2, .inl a2), (3, .inr (.inr (some a3))), (5, .inl v5_2), (6, .inl v6_2)], [.inl (I 108 (Int.toNat a2)), .inr (.inr (some 107))], sh, gc_h sh I J A)
        refine gv_run 2 true hD (pc' := 117) (lv' := [(0, .inr (.inr (some 100))), (2, .inl a2), (3, .inr (.inr (some a3))), (5, .inl v5_2), (6, .inl v6_2)]) (st' := [.inl ((I 108 (Int.toNat a2)) + v6_2), .inr (.inr (some 107))]) (h' := gc_h sh I J A) (C := ((True ∧ True) ∧ True)) rfl ⟨⟨trivial, trivial⟩, trivial⟩ ?_
        have f7 := (show (-128) ≤ I 107 (Int.toNat (((I 108 (Int.toNat a2)) + v6_2))) ∧ I 107 (Int.toNat (((I 108 (Int.toNat a2)) + v6_2))) ≤ 127 from gc_in hI R_107 rfl rfl)
        refine gv_bald hD rfl S_107 (Or.inl rfl) ⟨by decide, B_107⟩ ⟨by exact gz_m 14 (by omega), by exact gz_m 15 (by omega)⟩ (gc_iI S_107 rfl) ?_
        show gv_X _ _ (118, [(0, .inr (.inr (some 100))), (2, .inl a2), (3, .inr (.inr (some a3))), (5, .inl v5_2), (6, .inl v6_2)], [.inl (I 107 (Int.toNat (((I 108 (Int.toNat a2)) + v6_2))))], sh, gc_h sh I J A)
        refine gv_run 1 true hD (pc' := 119) (lv' := [(0, .inr (.inr (some 100))), (2, .inl a2), (3, .inr (.inr (some a3))), (5, .inl v5_2), (6, .inl v6_2)]) (st' := [.inr (.inr (some a3)), .inl (I 107 (Int.toNat (((I 108 (Int.toNat a2)) + v6_2))))]) (h' := gc_h sh I J A) (C := (True ∧ True)) rfl ⟨trivial, trivial⟩ ?_
        refine gv_get hD rfl rfl S_a3 ⟨by decide, B_a3⟩ (gc_hA S_a3 rfl A_a3_0) ?_
        show gv_X _ _ (122, [(0, .inr (.inr (some 100))), (2, .inl a2), (3, .inr (.inr (some a3))), (5, .inl v5_2), (6, .inl v6_2)], [.inr (.inr (some (a3 + 1))), .inl (I 107 (Int.toNat (((I 108 (Int.toNat a2)) + v6_2))))], sh, gc_h sh I J A)
        refine gv_run 3 true hD (pc' := 127) (lv' := [(0, .inr (.inr (some 100))), (2, .inl a2), (3, .inr (.inr (some a3))), (5, .inl v5_2), (6, .inl v6_2)]) (st' := [.inl (v5_2 + v6_2), .inr (.inr (some (a3 + 1))), .inl (I 107 (Int.toNat (((I 108 (Int.toNat a2)) + v6_2))))]) (h' := gc_h sh I J A) (C := (((True ∧ True) ∧ True) ∧ True)) rfl ⟨⟨⟨trivial, trivial⟩, trivial⟩, trivial⟩ ?_
        have f8 := (show (-128) ≤ I (a3 + 1) (Int.toNat (v5_2 + v6_2)) ∧ I (a3 + 1) (Int.toNat (v5_2 + v6_2)) ≤ 127 from gc_in hI R_a3_1 rfl rfl)
        refine gv_bald hD rfl S_a3_1 (Or.inl rfl) ⟨by decide, B_a3_1⟩ ⟨by exact gz_m 16 (by omega), by exact gz_m 17 (by omega)⟩ (gc_iI S_a3_1 rfl) ?_
        show gv_X _ _ (128, [(0, .inr (.inr (some 100))), (2, .inl a2), (3, .inr (.inr (some a3))), (5, .inl v5_2), (6, .inl v6_2)], [.inl (I (a3 + 1) (Int.toNat (v5_2 + v6_2))), .inl (I 107 (Int.toNat (((I 108 (Int.toNat a2)) + v6_2))))], sh, gc_h sh I J A)
        refine gv_icmp_eq (t := 133) hD rfl rfl ⟨⟨by exact gz_m 18 (by omega), by exact gz_m 19 (by omega)⟩, ⟨by exact gz_m 20 (by omega), by exact gz_m 21 (by omega)⟩⟩ (fun c9 => ?_) (fun c9 => ?_)
        · show gv_X _ _ (133, [(0, .inr (.inr (some 100))), (2, .inl a2), (3, .inr (.inr (some a3))), (5, .inl v5_2), (6, .inl v6_2)], [], sh, gc_h sh I J A)
          refine gv_run 2 true hD (pc' := 84) (lv' := [(6, .inl (v6_2 + 1)), (0, .inr (.inr (some 100))), (2, .inl a2), (3, .inr (.inr (some a3))), (5, .inl v5_2)]) (st' := []) (h' := gc_h sh I J A) (C := ((True ∧ True) ∧ True)) rfl ⟨⟨trivial, trivial⟩, trivial⟩ ?_
          refine gv_pick [1, 2, 3, 4, 0] rfl ?_
          exact ih84 v5_2 (v6_2 + 1) (by exact gz_m 22 (by omega)) (by exact gz_m 23 (by omega))
        · show gv_X _ _ (131, [(0, .inr (.inr (some 100))), (2, .inl a2), (3, .inr (.inr (some a3))), (5, .inl v5_2), (6, .inl v6_2)], [], sh, gc_h sh I J A)
          refine gv_run 1 true hD (pc' := 132) (lv' := [(0, .inr (.inr (some 100))), (2, .inl a2), (3, .inr (.inr (some a3))), (5, .inl v5_2), (6, .inl v6_2)]) (st' := [.inl 0]) (h' := gc_h sh I J A) (C := (True ∧ True)) rfl ⟨trivial, trivial⟩ ?_
          exact gv_zret hD rfl (by exact gz_m 24 (by omega)) ⟨rfl, ⟨_, rfl, by exact gz_m 25 (by omega)⟩⟩
  refine gv_run 1 true hD (pc' := 1) (lv' := [(0, .inr (.inr (some 100))), (1, .inl a1), (2, .inl a2), (3, .inr (.inr (some a3)))]) (st' := [.inr (.inr (some 100))]) (h' := gc_h sh I J A) (C := (True ∧ True)) rfl ⟨trivial, trivial⟩ ?_
  refine gv_get hD rfl rfl S_100 ⟨by decide, B_100⟩ (gc_hA S_100 rfl A_100_18) ?_
  show gv_X _ _ (4, [(0, .inr (.inr (some 100))), (1, .inl a1), (2, .inl a2), (3, .inr (.inr (some a3)))], [.inr (.inr (some 113))], sh, gc_h sh I J A)
  refine gv_run 3 true hD (pc' := 7) (lv' := [(0, .inr (.inr (some 100))), (1, .inl a1), (2, .inl a2), (3, .inr (.inr (some a3)))]) (st' := [.inl (3 * a1), .inr (.inr (some 113))]) (h' := gc_h sh I J A) (C := (((True ∧ True) ∧ True) ∧ True)) rfl ⟨⟨⟨trivial, trivial⟩, trivial⟩, trivial⟩ ?_
  have f10 := (show 0 ≤ I 113 (Int.toNat (3 * a1)) ∧ I 113 (Int.toNat (3 * a1)) ≤ 125 from gc_inm (c := 0) hI R_113 rfl rfl (by exact gz_m 26 (by omega)) rfl rfl)
  refine gv_iald hD rfl S_113 rfl ⟨by decide, B_113⟩ ⟨by exact gz_m 27 (by omega), by exact gz_m 28 (by omega)⟩ (gc_iI S_113 rfl) ?_
  show gv_X _ _ (8, [(0, .inr (.inr (some 100))), (1, .inl a1), (2, .inl a2), (3, .inr (.inr (some a3)))], [.inl (I 113 (Int.toNat (3 * a1)))], sh, gc_h sh I J A)
  refine gv_run 2 true hD (pc' := 11) (lv' := [(4, .inl (I 113 (Int.toNat (3 * a1)))), (0, .inr (.inr (some 100))), (1, .inl a1), (2, .inl a2), (3, .inr (.inr (some a3)))]) (st' := [.inr (.inr (some 100))]) (h' := gc_h sh I J A) (C := ((True ∧ True) ∧ True)) rfl ⟨⟨trivial, trivial⟩, trivial⟩ ?_
  refine gv_get hD rfl rfl S_100 ⟨by decide, B_100⟩ (gc_hA S_100 rfl A_100_18) ?_
  show gv_X _ _ (14, [(4, .inl (I 113 (Int.toNat (3 * a1)))), (0, .inr (.inr (some 100))), (1, .inl a1), (2, .inl a2), (3, .inr (.inr (some a3)))], [.inr (.inr (some 113))], sh, gc_h sh I J A)
  refine gv_run 5 true hD (pc' := 19) (lv' := [(4, .inl (I 113 (Int.toNat (3 * a1)))), (0, .inr (.inr (some 100))), (1, .inl a1), (2, .inl a2), (3, .inr (.inr (some a3)))]) (st' := [.inl ((3 * a1) + 1), .inr (.inr (some 113))]) (h' := gc_h sh I J A) (C := (((((True ∧ True) ∧ True) ∧ True) ∧ True) ∧ True)) rfl ⟨⟨⟨⟨⟨trivial, trivial⟩, trivial⟩, trivial⟩, trivial⟩, trivial⟩ ?_
  have f11 := (show 0 ≤ I 113 (Int.toNat (((3 * a1) + 1))) ∧ I 113 (Int.toNat (((3 * a1) + 1))) ≤ 1001 from gc_inm (c := 1) hI R_113 rfl rfl (by exact gz_m 29 (by omega)) rfl rfl)
  refine gv_iald hD rfl S_113 rfl ⟨by decide, B_113⟩ ⟨by exact gz_m 30 (by omega), by exact gz_m 31 (by omega)⟩ (gc_iI S_113 rfl) ?_
  show gv_X _ _ (20, [(4, .inl (I 113 (Int.toNat (3 * a1)))), (0, .inr (.inr (some 100))), (1, .inl a1), (2, .inl a2), (3, .inr (.inr (some a3)))], [.inl (I 113 (Int.toNat (((3 * a1) + 1))))], sh, gc_h sh I J A)
  refine gv_run 3 true hD (pc' := 25) (lv' := [(5, .inl (I 113 (Int.toNat (((3 * a1) + 1))))), (4, .inl (I 113 (Int.toNat (3 * a1)))), (0, .inr (.inr (some 100))), (1, .inl a1), (2, .inl a2), (3, .inr (.inr (some a3)))]) (st' := [.inl 1, .inl (I 113 (Int.toNat (3 * a1)))]) (h' := gc_h sh I J A) (C := (((True ∧ True) ∧ True) ∧ True)) rfl ⟨⟨⟨trivial, trivial⟩, trivial⟩, trivial⟩ ?_
  refine gv_icmp_ne (t := 49) hD rfl rfl ⟨⟨by exact gz_m 32 (by omega), by exact gz_m 33 (by omega)⟩, ⟨by exact gz_m 34 (by omega), by exact gz_m 35 (by omega)⟩⟩ (fun c12 => ?_) (fun c12 => ?_)
  · show gv_X _ _ (49, [(5, .inl (I 113 (Int.toNat (((3 * a1) + 1))))), (4, .inl (I 113 (Int.toNat (3 * a1)))), (0, .inr (.inr (some 100))), (1, .inl a1), (2, .inl a2), (3, .inr (.inr (some a3)))], [], sh, gc_h sh I J A)
    refine gv_run 2 true hD (pc' := 52) (lv' := [(5, .inl (I 113 (Int.toNat (((3 * a1) + 1))))), (4, .inl (I 113 (Int.toNat (3 * a1)))), (0, .inr (.inr (some 100))), (1, .inl a1), (2, .inl a2), (3, .inr (.inr (some a3)))]) (st' := [.inl 3, .inl (I 113 (Int.toNat (3 * a1)))]) (h' := gc_h sh I J A) (C := ((True ∧ True) ∧ True)) rfl ⟨⟨trivial, trivial⟩, trivial⟩ ?_
    refine gv_icmp_eq (t := 57) hD rfl rfl ⟨⟨by exact gz_m 36 (by omega), by exact gz_m 37 (by omega)⟩, ⟨by exact gz_m 38 (by omega), by exact gz_m 39 (by omega)⟩⟩ (fun c13 => ?_) (fun c13 => ?_)
    · show gv_X _ _ (57, [(5, .inl (I 113 (Int.toNat (((3 * a1) + 1))))), (4, .inl (I 113 (Int.toNat (3 * a1)))), (0, .inr (.inr (some 100))), (1, .inl a1), (2, .inl a2), (3, .inr (.inr (some a3)))], [], sh, gc_h sh I J A)
      refine gv_run 1 true hD (pc' := 58) (lv' := [(5, .inl (I 113 (Int.toNat (((3 * a1) + 1))))), (4, .inl (I 113 (Int.toNat (3 * a1)))), (0, .inr (.inr (some 100))), (1, .inl a1), (2, .inl a2), (3, .inr (.inr (some a3)))]) (st' := [.inr (.inr (some 100))]) (h' := gc_h sh I J A) (C := (True ∧ True)) rfl ⟨trivial, trivial⟩ ?_
      refine gv_get hD rfl rfl S_100 ⟨by decide, B_100⟩ (gc_hA S_100 rfl A_100_12) ?_
      show gv_X _ _ (61, [(5, .inl (I 113 (Int.toNat (((3 * a1) + 1))))), (4, .inl (I 113 (Int.toNat (3 * a1)))), (0, .inr (.inr (some 100))), (1, .inl a1), (2, .inl a2), (3, .inr (.inr (some a3)))], [.inr (.inr (some 106))], sh, gc_h sh I J A)
      refine gv_get hD rfl rfl S_106 ⟨by decide, B_106⟩ (gc_hA S_106 rfl A_106_3) ?_
      show gv_X _ _ (64, [(5, .inl (I 113 (Int.toNat (((3 * a1) + 1))))), (4, .inl (I 113 (Int.toNat (3 * a1)))), (0, .inr (.inr (some 100))), (1, .inl a1), (2, .inl a2), (3, .inr (.inr (some a3)))], [.inr (.inr (some 109))], sh, gc_h sh I J A)
      refine gv_run 1 true hD (pc' := 65) (lv' := [(5, .inl (I 113 (Int.toNat (((3 * a1) + 1))))), (4, .inl (I 113 (Int.toNat (3 * a1)))), (0, .inr (.inr (some 100))), (1, .inl a1), (2, .inl a2), (3, .inr (.inr (some a3)))]) (st' := [.inl a2, .inr (.inr (some 109))]) (h' := gc_h sh I J A) (C := (True ∧ True)) rfl ⟨trivial, trivial⟩ ?_
      have f14 := (show 0 ≤ I 109 (Int.toNat a2) ∧ I 109 (Int.toNat a2) ≤ 24 from gc_in hI R_109 rfl rfl)
      refine gv_iald hD rfl S_109 rfl ⟨by decide, B_109⟩ ⟨by exact gz_m 40 (by omega), by exact gz_m 41 (by omega)⟩ (gc_iI S_109 rfl) ?_
      show gv_X _ _ (66, [(5, .inl (I 113 (Int.toNat (((3 * a1) + 1))))), (4, .inl (I 113 (Int.toNat (3 * a1)))), (0, .inr (.inr (some 100))), (1, .inl a1), (2, .inl a2), (3, .inr (.inr (some a3)))], [.inl (I 109 (Int.toNat a2))], sh, gc_h sh I J A)
      refine gv_run 1 true hD (pc' := 67) (lv' := [(5, .inl (I 113 (Int.toNat (((3 * a1) + 1))))), (4, .inl (I 113 (Int.toNat (3 * a1)))), (0, .inr (.inr (some 100))), (1, .inl a1), (2, .inl a2), (3, .inr (.inr (some a3)))]) (st' := [.inr (.inr (some 100)), .inl (I 109 (Int.toNat a2))]) (h' := gc_h sh I J A) (C := (True ∧ True)) rfl ⟨trivial, trivial⟩ ?_
      refine gv_get hD rfl rfl S_100 ⟨by decide, B_100⟩ (gc_hA S_100 rfl A_100_18) ?_
      show gv_X _ _ (70, [(5, .inl (I 113 (Int.toNat (((3 * a1) + 1))))), (4, .inl (I 113 (Int.toNat (3 * a1)))), (0, .inr (.inr (some 100))), (1, .inl a1), (2, .inl a2), (3, .inr (.inr (some a3)))], [.inr (.inr (some 113)), .inl (I 109 (Int.toNat a2))], sh, gc_h sh I J A)
      refine gv_run 5 true hD (pc' := 75) (lv' := [(5, .inl (I 113 (Int.toNat (((3 * a1) + 1))))), (4, .inl (I 113 (Int.toNat (3 * a1)))), (0, .inr (.inr (some 100))), (1, .inl a1), (2, .inl a2), (3, .inr (.inr (some a3)))]) (st' := [.inl ((3 * a1) + 2), .inr (.inr (some 113)), .inl (I 109 (Int.toNat a2))]) (h' := gc_h sh I J A) (C := (((((True ∧ True) ∧ True) ∧ True) ∧ True) ∧ True)) rfl ⟨⟨⟨⟨⟨trivial, trivial⟩, trivial⟩, trivial⟩, trivial⟩, trivial⟩ ?_
      have f15 := (show (-2147483648) ≤ I 113 (Int.toNat (((3 * a1) + 2))) ∧ I 113 (Int.toNat (((3 * a1) + 2))) ≤ 2147483647 from gc_inm (c := 2) hI R_113 rfl rfl (by exact gz_m 42 (by omega)) rfl rfl)
      refine gv_iald hD rfl S_113 rfl ⟨by decide, B_113⟩ ⟨by exact gz_m 43 (by omega), by exact gz_m 44 (by omega)⟩ (gc_iI S_113 rfl) ?_
      show gv_X _ _ (76, [(5, .inl (I 113 (Int.toNat (((3 * a1) + 1))))), (4, .inl (I 113 (Int.toNat (3 * a1)))), (0, .inr (.inr (some 100))), (1, .inl a1), (2, .inl a2), (3, .inr (.inr (some a3)))], [.inl (I 113 (Int.toNat (((3 * a1) + 2)))), .inl (I 109 (Int.toNat a2))], sh, gc_h sh I J A)
      refine gv_icmp_eq (t := 81) hD rfl rfl ⟨⟨by exact gz_m 45 (by omega), by exact gz_m 46 (by omega)⟩, ⟨by exact gz_m 47 (by omega), by exact gz_m 48 (by omega)⟩⟩ (fun c16 => ?_) (fun c16 => ?_)
      · show gv_X _ _ (81, [(5, .inl (I 113 (Int.toNat (((3 * a1) + 1))))), (4, .inl (I 113 (Int.toNat (3 * a1)))), (0, .inr (.inr (some 100))), (1, .inl a1), (2, .inl a2), (3, .inr (.inr (some a3)))], [], sh, gc_h sh I J A)
        refine gv_run 2 true hD (pc' := 84) (lv' := [(6, .inl 0), (5, .inl (I 113 (Int.toNat (((3 * a1) + 1))))), (4, .inl (I 113 (Int.toNat (3 * a1)))), (0, .inr (.inr (some 100))), (1, .inl a1), (2, .inl a2), (3, .inr (.inr (some a3)))]) (st' := []) (h' := gc_h sh I J A) (C := ((True ∧ True) ∧ True)) rfl ⟨⟨trivial, trivial⟩, trivial⟩ ?_
        refine gv_pick [3, 5, 6, 1, 0] rfl ?_
        exact L84 _ ((I 113 (Int.toNat (((3 * a1) + 1))))) 0 (Nat.lt_succ_self _) (by exact gz_m 49 (by omega))
      · show gv_X _ _ (79, [(5, .inl (I 113 (Int.toNat (((3 * a1) + 1))))), (4, .inl (I 113 (Int.toNat (3 * a1)))), (0, .inr (.inr (some 100))), (1, .inl a1), (2, .inl a2), (3, .inr (.inr (some a3)))], [], sh, gc_h sh I J A)
        refine gv_run 1 true hD (pc' := 80) (lv' := [(5, .inl (I 113 (Int.toNat (((3 * a1) + 1))))), (4, .inl (I 113 (Int.toNat (3 * a1)))), (0, .inr (.inr (some 100))), (1, .inl a1), (2, .inl a2), (3, .inr (.inr (some a3)))]) (st' := [.inl 0]) (h' := gc_h sh I J A) (C := (True ∧ True)) rfl ⟨trivial, trivial⟩ ?_
        exact gv_zret hD rfl (by exact gz_m 50 (by omega)) ⟨rfl, ⟨_, rfl, by exact gz_m 51 (by omega)⟩⟩
    · show gv_X _ _ (55, [(5, .inl (I 113 (Int.toNat (((3 * a1) + 1))))), (4, .inl (I 113 (Int.toNat (3 * a1)))), (0, .inr (.inr (some 100))), (1, .inl a1), (2, .inl a2), (3, .inr (.inr (some a3)))], [], sh, gc_h sh I J A)
      refine gv_run 1 true hD (pc' := 56) (lv' := [(5, .inl (I 113 (Int.toNat (((3 * a1) + 1))))), (4, .inl (I 113 (Int.toNat (3 * a1)))), (0, .inr (.inr (some 100))), (1, .inl a1), (2, .inl a2), (3, .inr (.inr (some a3)))]) (st' := [.inl 1]) (h' := gc_h sh I J A) (C := (True ∧ True)) rfl ⟨trivial, trivial⟩ ?_
      exact gv_zret hD rfl (by exact gz_m 52 (by omega)) ⟨rfl, ⟨_, rfl, by exact gz_m 53 (by omega)⟩⟩
  · show gv_X _ _ (28, [(5, .inl (I 113 (Int.toNat (((3 * a1) + 1))))), (4, .inl (I 113 (Int.toNat (3 * a1)))), (0, .inr (.inr (some 100))), (1, .inl a1), (2, .inl a2), (3, .inr (.inr (some a3)))], [], sh, gc_h sh I J A)
    refine gv_run 1 true hD (pc' := 29) (lv' := [(5, .inl (I 113 (Int.toNat (((3 * a1) + 1))))), (4, .inl (I 113 (Int.toNat (3 * a1)))), (0, .inr (.inr (some 100))), (1, .inl a1), (2, .inl a2), (3, .inr (.inr (some a3)))]) (st' := [.inr (.inr (some 100))]) (h' := gc_h sh I J A) (C := (True ∧ True)) rfl ⟨trivial, trivial⟩ ?_
    refine gv_get hD rfl rfl S_100 ⟨by decide, B_100⟩ (gc_hA S_100 rfl A_100_13) ?_
    show gv_X _ _ (32, [(5, .inl (I 113 (Int.toNat (((3 * a1) + 1))))), (4, .inl (I 113 (Int.toNat (3 * a1)))), (0, .inr (.inr (some 100))), (1, .inl a1), (2, .inl a2), (3, .inr (.inr (some a3)))], [.inr (.inr (some 110))], sh, gc_h sh I J A)
    refine gv_run 1 true hD (pc' := 33) (lv' := [(5, .inl (I 113 (Int.toNat (((3 * a1) + 1))))), (4, .inl (I 113 (Int.toNat (3 * a1)))), (0, .inr (.inr (some 100))), (1, .inl a1), (2, .inl a2), (3, .inr (.inr (some a3)))]) (st' := [.inl a2, .inr (.inr (some 110))]) (h' := gc_h sh I J A) (C := (True ∧ True)) rfl ⟨trivial, trivial⟩ ?_
    have f17 := (show (-2147483648) ≤ I 110 (Int.toNat a2) ∧ I 110 (Int.toNat a2) ≤ 2147483647 from gc_in hI R_110 rfl rfl)
    refine gv_iald hD rfl S_110 rfl ⟨by decide, B_110⟩ ⟨by exact gz_m 54 (by omega), by exact gz_m 55 (by omega)⟩ (gc_iI S_110 rfl) ?_
    show gv_X _ _ (34, [(5, .inl (I 113 (Int.toNat (((3 * a1) + 1))))), (4, .inl (I 113 (Int.toNat (3 * a1)))), (0, .inr (.inr (some 100))), (1, .inl a1), (2, .inl a2), (3, .inr (.inr (some a3)))], [.inl (I 110 (Int.toNat a2))], sh, gc_h sh I J A)
    have f18 := gw_any (Int32.ofInt ((I 110 (Int.toNat a2))) >>> (Int32.ofInt ((I 113 (Int.toNat (((3 * a1) + 1))))) &&& 31))
    have f19 := gw_and (x := (((Int32.ofInt ((I 110 (Int.toNat a2))) >>> (Int32.ofInt ((I 113 (Int.toNat (((3 * a1) + 1))))) &&& 31)).toInt))) (y := 1) ⟨by exact gz_m 56 (by omega), by exact gz_m 57 (by omega)⟩
    refine gv_run 5 true hD (pc' := 40) (lv' := [(5, .inl (I 113 (Int.toNat (((3 * a1) + 1))))), (4, .inl (I 113 (Int.toNat (3 * a1)))), (0, .inr (.inr (some 100))), (1, .inl a1), (2, .inl a2), (3, .inr (.inr (some a3)))]) (st' := [.inl 1, .inl ((Int32.ofInt (((Int32.ofInt ((I 110 (Int.toNat a2))) >>> (Int32.ofInt ((I 113 (Int.toNat (((3 * a1) + 1))))) &&& 31)).toInt)) &&& Int32.ofInt 1).toInt)]) (h' := gc_h sh I J A) (C := (((((True ∧ True) ∧ True) ∧ True) ∧ True) ∧ True)) rfl ⟨⟨⟨⟨⟨trivial, trivial⟩, trivial⟩, trivial⟩, trivial⟩, trivial⟩ ?_
    refine gv_icmp_ne (t := 47) hD rfl rfl ⟨⟨by exact gz_m 58 (by omega), by exact gz_m 59 (by omega)⟩, ⟨by exact gz_m 60 (by omega), by exact gz_m 61 (by omega)⟩⟩ (fun c20 => ?_) (fun c20 => ?_)
    · show gv_X _ _ (47, [(5, .inl (I 113 (Int.toNat (((3 * a1) + 1))))), (4, .inl (I 113 (Int.toNat (3 * a1)))), (0, .inr (.inr (some 100))), (1, .inl a1), (2, .inl a2), (3, .inr (.inr (some a3)))], [], sh, gc_h sh I J A)
      refine gv_run 1 true hD (pc' := 48) (lv' := [(5, .inl (I 113 (Int.toNat (((3 * a1) + 1))))), (4, .inl (I 113 (Int.toNat (3 * a1)))), (0, .inr (.inr (some 100))), (1, .inl a1), (2, .inl a2), (3, .inr (.inr (some a3)))]) (st' := [.inl 0]) (h' := gc_h sh I J A) (C := (True ∧ True)) rfl ⟨trivial, trivial⟩ ?_
      refine gv_pick [] rfl ?_
      exact L48 0 (by exact gz_m 62 (by omega))
    · show gv_X _ _ (43, [(5, .inl (I 113 (Int.toNat (((3 * a1) + 1))))), (4, .inl (I 113 (Int.toNat (3 * a1)))), (0, .inr (.inr (some 100))), (1, .inl a1), (2, .inl a2), (3, .inr (.inr (some a3)))], [], sh, gc_h sh I J A)
      refine gv_run 2 true hD (pc' := 48) (lv' := [(5, .inl (I 113 (Int.toNat (((3 * a1) + 1))))), (4, .inl (I 113 (Int.toNat (3 * a1)))), (0, .inr (.inr (some 100))), (1, .inl a1), (2, .inl a2), (3, .inr (.inr (some a3)))]) (st' := [.inl 1]) (h' := gc_h sh I J A) (C := ((True ∧ True) ∧ True)) rfl ⟨⟨trivial, trivial⟩, trivial⟩ ?_
      refine gv_pick [] rfl ?_
      exact L48 1 (by exact gz_m 63 (by omega))
