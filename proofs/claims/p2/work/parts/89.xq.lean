set_option maxHeartbeats 4000000 in
set_option maxRecDepth 100000 in
theorem d_X12_writeChange {ws0 : List Cond} {tb : String → gz_T} (hws : gc_Ws ws0) (htb : gc_tbs tb) (sh : gz_Sh) (ro : Nat → Nat) (I : gr_I) (J : gr_J) (A : gc_A) (hI : gc_Inv ro I) (a1 : Nat) (a2 : Int) (hb : gc_Base sh ro A) (h_a1 : gc_isTongue sh ro A a1) (G_a1 : 144 ≤ a1) (ha2 : (-2147483648) ≤ a2 ∧ a2 ≤ 2147483647)  : ∃ r h', gz_Ev ws0 tb 5 (yX12_writeChange, cX12_writeChange, 6, none) [.inr (.inr (some 0)), .inr (.inr (some a1)), .inl a2] sh (gc_h sh I J A) r sh h' 0 0 ∧ (∃ (I' : gr_I) (J' : gr_J), h' = gc_h sh I' J' A ∧ gc_Inv ro I' ∧ (∀ q j : Nat, ((q = 35 ∧ j = 1) ∨ q = 36) ∨ I' q j = I q j) ∧ (∀ q j : Nat, (False) ∨ J' q j = J q j) ∧ r = none) := by
  have FI : ∀ q j : Nat, ((q = 35 ∧ j = 1) ∨ q = 36) ∨ I q j = I q j := fun _ _ => Or.inr rfl
  have FJ : ∀ q j : Nat, (False) ∨ J q j = J q j := fun _ _ => Or.inr rfl
  have A_0_3 : A 0 3 = some 31 := gc_bA hb rfl
  have A_0_4 : A 0 4 = some 35 := gc_bA hb rfl
  have B_0 : 0 < 1000000 := by decide
  have B_31 : 31 < 1000000 := by decide
  have B_35 : 35 < 1000000 := by decide
  have R_31 : ro 31 = 3 := gc_bR hb (by decide) rfl
  have R_35 : ro 35 = 3 := gc_bR hb (by decide) rfl
  have S_0 : sh[0]? = some (false, 12, 17) := gc_bS hb rfl
  have S_31 : sh[31]? = some (false, 9, 10) := gc_bS hb rfl
  have S_35 : sh[35]? = some (false, 9, 10) := gc_bS hb rfl
  obtain ⟨S_a1, R_a1, B_a1, A_a1_0, h_a1_1, A_a1_1, h_a1_3, A_a1_2, S_a1_5, R_a1_5, B_a1_5, A_a1_3, S_a1_6, R_a1_6, B_a1_6, A_a1_4, h_a1_7, A_a1_5, S_a1_9, R_a1_9, B_a1_9, A_a1_7, S_a1_10, R_a1_10, B_a1_10, A_a1_8, h_a1_11, A_a1_9, S_a1_13, R_a1_13, B_a1_13, A_a1_10, S_a1_14, R_a1_14, B_a1_14, A_a1_12, S_a1_15, R_a1_15, B_a1_15, A_a1_14, S_a1_16, R_a1_16, B_a1_16, A_a1_15, h_a1_17⟩ := id h_a1
  obtain ⟨S_a1_1, R_a1_1, B_a1_1, A_a1_1_0, S_a1_1_1, R_a1_1_1, B_a1_1_1, Q0_a1_1, Q1_a1_1, Q2_a1_1⟩ := id h_a1_1
  obtain ⟨S_a1_3, R_a1_3, B_a1_3, A_a1_3_0, S_a1_3_1, R_a1_3_1, B_a1_3_1, Q0_a1_3, Q1_a1_3, Q2_a1_3⟩ := id h_a1_3
  obtain ⟨S_a1_7, R_a1_7, B_a1_7, A_a1_7_0, S_a1_7_1, R_a1_7_1, B_a1_7_1, Q0_a1_7, Q1_a1_7, Q2_a1_7⟩ := id h_a1_7
  obtain ⟨S_a1_11, R_a1_11, B_a1_11, A_a1_11_0, S_a1_11_1, R_a1_11_1, B_a1_11_1, Q0_a1_11, Q1_a1_11, Q2_a1_11⟩ := id h_a1_11
  obtain ⟨S_a1_17, R_a1_17, B_a1_17, A_a1_17_0, S_20, R_20, B_20, A_a1_17_1, S_a1_17_1, R_a1_17_1, B_a1_17_1, A_a1_17_2, S_a1_17_2, R_a1_17_2, B_a1_17_2, A_a1_17_3, S_a1_17_3, R_a1_17_3, B_a1_17_3, A_a1_17_4, S_a1_17_4, R_a1_17_4, B_a1_17_4, A_a1_17_5, S_a1_17_5, R_a1_17_5, B_a1_17_5, S_a1_17_6, R_a1_17_6, B_a1_17_6, S_a1_17_7, R_a1_17_7, B_a1_17_7⟩ := id h_a1_17
  have hD : gv_D (gc_E12 ws0 tb 4 (yX12_writeChange, cX12_writeChange, 6, none) kX12_writeChange) := gq_ok oX12_writeChange
  refine gc_ev12 (d := 4) (l := kX12_writeChange) (Po := fun r h' => (∃ (I' : gr_I) (J' : gr_J), h' = gc_h sh I' J' A ∧ gc_Inv ro I' ∧ (∀ q j : Nat, ((q = 35 ∧ j = 1) ∨ q = 36) ∨ I' q j = I q j) ∧ (∀ q j : Nat, (False) ∨ J' q j = J q j) ∧ r = none)) htb rfl (Nat.le_of_ble_eq_true rfl) ?_
  have L121 : ∀ (I1 : gr_I) (J2 : gr_J) (v3_3 : Int) (v4_3 : Int), gc_Inv ro I1 → (∀ q j : Nat, ((q = 35 ∧ j = 1) ∨ q = 36) ∨ I1 q j = I q j) → (∀ q j : Nat, (False) ∨ J2 q j = J q j) → (((-2147483648) ≤ v3_3 ∧ v3_3 ≤ 2147483647) ∧ (0 ≤ v4_3 ∧ v4_3 ≤ 31)) → gv_X (gc_E12 ws0 tb 4 (yX12_writeChange, cX12_writeChange, 6, none) kX12_writeChange) (gv_Q cX12_writeChange none sh (fun r h' => (∃ (I' : gr_I) (J' : gr_J), h' = gc_h sh I' J' A ∧ gc_Inv ro I' ∧ (∀ q j : Nat, ((q = 35 ∧ j = 1) ∨ q = 36) ∨ I' q j = I q j) ∧ (∀ q j : Nat, (False) ∨ J' q j = J q j) ∧ r = none))) (121, [(0, .inr (.inr (some 0))), (3, .inl v3_3), (4, .inl v4_3)], [], sh, gc_h sh I1 J2 A) := by
    intro I1 J2 v3_3 v4_3 hI1 FI1 FJ2 m_3
    obtain ⟨hv3_3, hv4_3⟩ := m_3
    have L145 : ∀ (s2_4 : Int), ((1 ≤ s2_4 ∧ s2_4 ≤ 33)) → gv_X (gc_E12 ws0 tb 4 (yX12_writeChange, cX12_writeChange, 6, none) kX12_writeChange) (gv_Q cX12_writeChange none sh (fun r h' => (∃ (I' : gr_I) (J' : gr_J), h' = gc_h sh I' J' A ∧ gc_Inv ro I' ∧ (∀ q j : Nat, ((q = 35 ∧ j = 1) ∨ q = 36) ∨ I' q j = I q j) ∧ (∀ q j : Nat, (False) ∨ J' q j = J q j) ∧ r = none))) (145, [(0, .inr (.inr (some 0)))], [.inl s2_4, .inr (.inr (some 31)), .inr (.inr (some 35))], sh, gc_h sh I1 J2 A) := by
      intro s2_4 m_4
      have hs2_4 := m_4
      refine gv_run 1 true hD (pc' := 146) (lv' := [(0, .inr (.inr (some 0)))]) (st' := [.inr (.inr (some 0)), .inl s2_4, .inr (.inr (some 31)), .inr (.inr (some 35))]) (h' := gc_h sh I1 J2 A) (C := (True ∧ True)) rfl ⟨trivial, trivial⟩ ?_
      refine gv_get hD rfl rfl S_0 ⟨by decide, B_0⟩ (gc_hA S_0 rfl A_0_3) ?_
      show gv_X _ _ (149, [(0, .inr (.inr (some 0)))], [.inr (.inr (some 31)), .inl s2_4, .inr (.inr (some 31)), .inr (.inr (some 35))], sh, gc_h sh I1 J2 A)
      have f5 := (show 0 ≤ I1 31 4 ∧ I1 31 4 ≤ 24 from gc_in hI1 R_31 rfl rfl)
      refine gv_get hD rfl rfl S_31 ⟨by decide, B_31⟩ (gc_hI S_31 rfl) ?_
      show gv_X _ _ (152, [(0, .inr (.inr (some 0)))], [.inl (I1 31 4), .inl s2_4, .inr (.inr (some 31)), .inr (.inr (some 35))], sh, gc_h sh I1 J2 A)
      obtain ⟨r6, h6, E6, P6⟩ := d_X9_putWordsBetween (ws0 := ws0) (tb := tb) hws htb sh ro I1 J2 A hI1 35 31 s2_4 (I1 31 4) (gc_b35 hb) (gc_b31 hb)  ⟨by omega, by omega⟩ ⟨by omega, by omega⟩  
      obtain ⟨I7, J8, rfl, hI7, g6, k6, rfl⟩ := P6
      have FI7 := gc_frc (W := fun q j => (q = 35 ∧ j = 1) ∨ q = 36) (V := fun q j => (q = 35 ∧ j = 1) ∨ q = 36) FI1 (fun q j h => (h.elim (fun h => (Or.inl h)) (fun h => (Or.inr h)))) g6
      obtain rfl : J2 = J8 := funext fun q => funext fun j => ((k6 q j).resolve_left id).symm
      refine gv_callV hD rfl (As := [.inr (.inr (some 31)), .inl s2_4, .inl (I1 31 4)]) (st := []) rfl B_35 S_35 rfl (gc_lV12 hws rfl) (Nat.le_of_ble_eq_true rfl) (gz_Ev_mono (d := 4) (by decide) E6) ?_
      show gv_X _ _ (155, [(0, .inr (.inr (some 0)))], [], sh, gc_h sh I7 J2 A)
      exact gv_vret hD rfl ⟨I7, J2, rfl, hI7, FI7, FJ2, rfl⟩
    refine gv_run 1 true hD (pc' := 122) (lv' := [(0, .inr (.inr (some 0))), (3, .inl v3_3), (4, .inl v4_3)]) (st' := [.inr (.inr (some 0))]) (h' := gc_h sh I1 J2 A) (C := (True ∧ True)) rfl ⟨trivial, trivial⟩ ?_
    refine gv_get hD rfl rfl S_0 ⟨by decide, B_0⟩ (gc_hA S_0 rfl A_0_4) ?_
    show gv_X _ _ (125, [(0, .inr (.inr (some 0))), (3, .inl v3_3), (4, .inl v4_3)], [.inr (.inr (some 35))], sh, gc_h sh I1 J2 A)
    refine gv_run 1 true hD (pc' := 126) (lv' := [(0, .inr (.inr (some 0))), (3, .inl v3_3), (4, .inl v4_3)]) (st' := [.inr (.inr (some 0)), .inr (.inr (some 35))]) (h' := gc_h sh I1 J2 A) (C := (True ∧ True)) rfl ⟨trivial, trivial⟩ ?_
    refine gv_get hD rfl rfl S_0 ⟨by decide, B_0⟩ (gc_hA S_0 rfl A_0_3) ?_
    show gv_X _ _ (129, [(0, .inr (.inr (some 0))), (3, .inl v3_3), (4, .inl v4_3)], [.inr (.inr (some 31)), .inr (.inr (some 35))], sh, gc_h sh I1 J2 A)
    refine gv_run 2 true hD (pc' := 131) (lv' := [(0, .inr (.inr (some 0))), (3, .inl v3_3), (4, .inl v4_3)]) (st' := [.inl 2, .inl v3_3, .inr (.inr (some 31)), .inr (.inr (some 35))]) (h' := gc_h sh I1 J2 A) (C := ((True ∧ True) ∧ True)) rfl ⟨⟨trivial, trivial⟩, trivial⟩ ?_
    refine gv_icmp_ne (t := 141) hD rfl rfl ⟨⟨by omega, by omega⟩, ⟨by omega, by omega⟩⟩ (fun c9 => ?_) (fun c9 => ?_)
    · show gv_X _ _ (141, [(0, .inr (.inr (some 0))), (3, .inl v3_3), (4, .inl v4_3)], [.inr (.inr (some 31)), .inr (.inr (some 35))], sh, gc_h sh I1 J2 A)
      refine gv_run 3 true hD (pc' := 145) (lv' := [(0, .inr (.inr (some 0))), (3, .inl v3_3), (4, .inl v4_3)]) (st' := [.inl (v4_3 + 1), .inr (.inr (some 31)), .inr (.inr (some 35))]) (h' := gc_h sh I1 J2 A) (C := (((True ∧ True) ∧ True) ∧ True)) rfl ⟨⟨⟨trivial, trivial⟩, trivial⟩, trivial⟩ ?_
      refine gv_pick [0] rfl ?_
      exact L145 (v4_3 + 1) (by omega)
    · show gv_X _ _ (134, [(0, .inr (.inr (some 0))), (3, .inl v3_3), (4, .inl v4_3)], [.inr (.inr (some 31)), .inr (.inr (some 35))], sh, gc_h sh I1 J2 A)
      refine gv_run 4 true hD (pc' := 145) (lv' := [(0, .inr (.inr (some 0))), (3, .inl v3_3), (4, .inl v4_3)]) (st' := [.inl (v4_3 + 2), .inr (.inr (some 31)), .inr (.inr (some 35))]) (h' := gc_h sh I1 J2 A) (C := ((((True ∧ True) ∧ True) ∧ True) ∧ True)) rfl ⟨⟨⟨⟨trivial, trivial⟩, trivial⟩, trivial⟩, trivial⟩ ?_
      refine gv_pick [0] rfl ?_
      exact L145 (v4_3 + 2) (by omega)
  have f10 := gw_any (Int32.ofInt a2 >>> (Int32.ofInt 16 &&& 31))
  have f11 := gw_any (Int32.ofInt a2 >>> (Int32.ofInt 11 &&& 31))
  refine gv_run 7 true hD (pc' := 9) (lv' := [(3, .inl ((Int32.ofInt a2 >>> (Int32.ofInt 16 &&& 31)).toInt)), (0, .inr (.inr (some 0))), (1, .inr (.inr (some a1))), (2, .inl a2)]) (st' := [.inl ((Int32.ofInt a2 >>> (Int32.ofInt 11 &&& 31)).toInt)]) (h' := gc_h sh I J A) (C := (((((((True ∧ True) ∧ True) ∧ True) ∧ True) ∧ True) ∧ True) ∧ True)) rfl ⟨⟨⟨⟨⟨⟨⟨trivial, trivial⟩, trivial⟩, trivial⟩, trivial⟩, trivial⟩, trivial⟩, trivial⟩ ?_
  have f12 := gw_and (x := (((Int32.ofInt a2 >>> (Int32.ofInt 11 &&& 31)).toInt))) (y := 31) ⟨by omega, by omega⟩
  have f13 := gw_and (x := a2) (y := 2047) ⟨by omega, by omega⟩
  refine gv_run 7 true hD (pc' := 21) (lv' := [(5, .inl ((Int32.ofInt a2 &&& Int32.ofInt 2047).toInt)), (4, .inl ((Int32.ofInt (((Int32.ofInt a2 >>> (Int32.ofInt 11 &&& 31)).toInt)) &&& Int32.ofInt 31).toInt)), (3, .inl ((Int32.ofInt a2 >>> (Int32.ofInt 16 &&& 31)).toInt)), (0, .inr (.inr (some 0))), (1, .inr (.inr (some a1))), (2, .inl a2)]) (st' := []) (h' := gc_h sh I J A) (C := (((((((True ∧ True) ∧ True) ∧ True) ∧ True) ∧ True) ∧ True) ∧ True)) rfl ⟨⟨⟨⟨⟨⟨⟨trivial, trivial⟩, trivial⟩, trivial⟩, trivial⟩, trivial⟩, trivial⟩, trivial⟩ ?_
  refine gv_run 1 true hD (pc' := 22) (lv' := [(5, .inl ((Int32.ofInt a2 &&& Int32.ofInt 2047).toInt)), (4, .inl ((Int32.ofInt (((Int32.ofInt a2 >>> (Int32.ofInt 11 &&& 31)).toInt)) &&& Int32.ofInt 31).toInt)), (3, .inl ((Int32.ofInt a2 >>> (Int32.ofInt 16 &&& 31)).toInt)), (0, .inr (.inr (some 0))), (1, .inr (.inr (some a1))), (2, .inl a2)]) (st' := [.inr (.inr (some 0))]) (h' := gc_h sh I J A) (C := (True ∧ True)) rfl ⟨trivial, trivial⟩ ?_
  refine gv_get hD rfl rfl S_0 ⟨by decide, B_0⟩ (gc_hA S_0 rfl A_0_4) ?_
  show gv_X _ _ (25, [(5, .inl ((Int32.ofInt a2 &&& Int32.ofInt 2047).toInt)), (4, .inl ((Int32.ofInt (((Int32.ofInt a2 >>> (Int32.ofInt 11 &&& 31)).toInt)) &&& Int32.ofInt 31).toInt)), (3, .inl ((Int32.ofInt a2 >>> (Int32.ofInt 16 &&& 31)).toInt)), (0, .inr (.inr (some 0))), (1, .inr (.inr (some a1))), (2, .inl a2)], [.inr (.inr (some 35))], sh, gc_h sh I J A)
  refine gv_run 1 true hD (pc' := 26) (lv' := [(5, .inl ((Int32.ofInt a2 &&& Int32.ofInt 2047).toInt)), (4, .inl ((Int32.ofInt (((Int32.ofInt a2 >>> (Int32.ofInt 11 &&& 31)).toInt)) &&& Int32.ofInt 31).toInt)), (3, .inl ((Int32.ofInt a2 >>> (Int32.ofInt 16 &&& 31)).toInt)), (0, .inr (.inr (some 0))), (1, .inr (.inr (some a1))), (2, .inl a2)]) (st' := [.inl 0, .inr (.inr (some 35))]) (h' := gc_h sh I J A) (C := (True ∧ True)) rfl ⟨trivial, trivial⟩ ?_
  refine gv_put hD rfl rfl S_35 ⟨by decide, B_35⟩ rfl trivial ?_
  refine gc_st (k := 1) hI S_35 rfl R_35 (lo := 0) (hi := 1000) rfl rfl (by omega) (by omega) (fun I14 hI14 q15 p15 => ?_)
  have FI14 := gc_frs (W := fun q j => (q = 35 ∧ j = 1) ∨ q = 36) FI (Or.inl ⟨rfl, rfl⟩) p15
  show gv_X _ _ (29, [(5, .inl ((Int32.ofInt a2 &&& Int32.ofInt 2047).toInt)), (4, .inl ((Int32.ofInt (((Int32.ofInt a2 >>> (Int32.ofInt 11 &&& 31)).toInt)) &&& Int32.ofInt 31).toInt)), (3, .inl ((Int32.ofInt a2 >>> (Int32.ofInt 16 &&& 31)).toInt)), (0, .inr (.inr (some 0))), (1, .inr (.inr (some a1))), (2, .inl a2)], [], sh, gc_h sh I14 J A)
  refine gv_run 1 true hD (pc' := 30) (lv' := [(5, .inl ((Int32.ofInt a2 &&& Int32.ofInt 2047).toInt)), (4, .inl ((Int32.ofInt (((Int32.ofInt a2 >>> (Int32.ofInt 11 &&& 31)).toInt)) &&& Int32.ofInt 31).toInt)), (3, .inl ((Int32.ofInt a2 >>> (Int32.ofInt 16 &&& 31)).toInt)), (0, .inr (.inr (some 0))), (1, .inr (.inr (some a1))), (2, .inl a2)]) (st' := [.inr (.inr (some 0))]) (h' := gc_h sh I14 J A) (C := (True ∧ True)) rfl ⟨trivial, trivial⟩ ?_
  refine gv_get hD rfl rfl S_0 ⟨by decide, B_0⟩ (gc_hA S_0 rfl A_0_4) ?_
  show gv_X _ _ (33, [(5, .inl ((Int32.ofInt a2 &&& Int32.ofInt 2047).toInt)), (4, .inl ((Int32.ofInt (((Int32.ofInt a2 >>> (Int32.ofInt 11 &&& 31)).toInt)) &&& Int32.ofInt 31).toInt)), (3, .inl ((Int32.ofInt a2 >>> (Int32.ofInt 16 &&& 31)).toInt)), (0, .inr (.inr (some 0))), (1, .inr (.inr (some a1))), (2, .inl a2)], [.inr (.inr (some 35))], sh, gc_h sh I14 J A)
  refine gv_run 1 true hD (pc' := 34) (lv' := [(5, .inl ((Int32.ofInt a2 &&& Int32.ofInt 2047).toInt)), (4, .inl ((Int32.ofInt (((Int32.ofInt a2 >>> (Int32.ofInt 11 &&& 31)).toInt)) &&& Int32.ofInt 31).toInt)), (3, .inl ((Int32.ofInt a2 >>> (Int32.ofInt 16 &&& 31)).toInt)), (0, .inr (.inr (some 0))), (1, .inr (.inr (some a1))), (2, .inl a2)]) (st' := [.inr (.inr (some 0)), .inr (.inr (some 35))]) (h' := gc_h sh I14 J A) (C := (True ∧ True)) rfl ⟨trivial, trivial⟩ ?_
  refine gv_get hD rfl rfl S_0 ⟨by decide, B_0⟩ (gc_hA S_0 rfl A_0_3) ?_
  show gv_X _ _ (37, [(5, .inl ((Int32.ofInt a2 &&& Int32.ofInt 2047).toInt)), (4, .inl ((Int32.ofInt (((Int32.ofInt a2 >>> (Int32.ofInt 11 &&& 31)).toInt)) &&& Int32.ofInt 31).toInt)), (3, .inl ((Int32.ofInt a2 >>> (Int32.ofInt 16 &&& 31)).toInt)), (0, .inr (.inr (some 0))), (1, .inr (.inr (some a1))), (2, .inl a2)], [.inr (.inr (some 31)), .inr (.inr (some 35))], sh, gc_h sh I14 J A)
  refine gv_run 2 true hD (pc' := 40) (lv' := [(5, .inl ((Int32.ofInt a2 &&& Int32.ofInt 2047).toInt)), (4, .inl ((Int32.ofInt (((Int32.ofInt a2 >>> (Int32.ofInt 11 &&& 31)).toInt)) &&& Int32.ofInt 31).toInt)), (3, .inl ((Int32.ofInt a2 >>> (Int32.ofInt 16 &&& 31)).toInt)), (0, .inr (.inr (some 0))), (1, .inr (.inr (some a1))), (2, .inl a2)]) (st' := [.inl ((Int32.ofInt (((Int32.ofInt a2 >>> (Int32.ofInt 11 &&& 31)).toInt)) &&& Int32.ofInt 31).toInt), .inl 0, .inr (.inr (some 31)), .inr (.inr (some 35))]) (h' := gc_h sh I14 J A) (C := ((True ∧ True) ∧ True)) rfl ⟨⟨trivial, trivial⟩, trivial⟩ ?_
  obtain ⟨r16, h16, E16, P16⟩ := d_X9_putWordsBetween (ws0 := ws0) (tb := tb) hws htb sh ro I14 J A hI14 35 31 0 (((Int32.ofInt (((Int32.ofInt a2 >>> (Int32.ofInt 11 &&& 31)).toInt)) &&& Int32.ofInt 31).toInt)) (gc_b35 hb) (gc_b31 hb)  ⟨by omega, by omega⟩ ⟨by omega, by omega⟩  
  obtain ⟨I17, J18, rfl, hI17, g16, k16, rfl⟩ := P16
  have FI17 := gc_frc (W := fun q j => (q = 35 ∧ j = 1) ∨ q = 36) (V := fun q j => (q = 35 ∧ j = 1) ∨ q = 36) FI14 (fun q j h => (h.elim (fun h => (Or.inl h)) (fun h => (Or.inr h)))) g16
  obtain rfl : J = J18 := funext fun q => funext fun j => ((k16 q j).resolve_left id).symm
  refine gv_callV hD rfl (As := [.inr (.inr (some 31)), .inl 0, .inl ((Int32.ofInt (((Int32.ofInt a2 >>> (Int32.ofInt 11 &&& 31)).toInt)) &&& Int32.ofInt 31).toInt)]) (st := []) rfl B_35 S_35 rfl (gc_lV12 hws rfl) (Nat.le_of_ble_eq_true rfl) (gz_Ev_mono (d := 4) (by decide) E16) ?_
  show gv_X _ _ (43, [(5, .inl ((Int32.ofInt a2 &&& Int32.ofInt 2047).toInt)), (4, .inl ((Int32.ofInt (((Int32.ofInt a2 >>> (Int32.ofInt 11 &&& 31)).toInt)) &&& Int32.ofInt 31).toInt)), (3, .inl ((Int32.ofInt a2 >>> (Int32.ofInt 16 &&& 31)).toInt)), (0, .inr (.inr (some 0))), (1, .inr (.inr (some a1))), (2, .inl a2)], [], sh, gc_h sh I17 J A)
  refine gv_run 2 true hD (pc' := 45) (lv' := [(5, .inl ((Int32.ofInt a2 &&& Int32.ofInt 2047).toInt)), (4, .inl ((Int32.ofInt (((Int32.ofInt a2 >>> (Int32.ofInt 11 &&& 31)).toInt)) &&& Int32.ofInt 31).toInt)), (3, .inl ((Int32.ofInt a2 >>> (Int32.ofInt 16 &&& 31)).toInt)), (0, .inr (.inr (some 0))), (1, .inr (.inr (some a1))), (2, .inl a2)]) (st' := [.inl 1, .inl ((Int32.ofInt a2 >>> (Int32.ofInt 16 &&& 31)).toInt)]) (h' := gc_h sh I17 J A) (C := ((True ∧ True) ∧ True)) rfl ⟨⟨trivial, trivial⟩, trivial⟩ ?_
  refine gv_icmp_ne (t := 80) hD rfl rfl ⟨⟨by omega, by omega⟩, ⟨by omega, by omega⟩⟩ (fun c19 => ?_) (fun c19 => ?_)
  · show gv_X _ _ (80, [(5, .inl ((Int32.ofInt a2 &&& Int32.ofInt 2047).toInt)), (4, .inl ((Int32.ofInt (((Int32.ofInt a2 >>> (Int32.ofInt 11 &&& 31)).toInt)) &&& Int32.ofInt 31).toInt)), (3, .inl ((Int32.ofInt a2 >>> (Int32.ofInt 16 &&& 31)).toInt)), (0, .inr (.inr (some 0))), (1, .inr (.inr (some a1))), (2, .inl a2)], [], sh, gc_h sh I17 J A)
    refine gv_run 2 true hD (pc' := 82) (lv' := [(5, .inl ((Int32.ofInt a2 &&& Int32.ofInt 2047).toInt)), (4, .inl ((Int32.ofInt (((Int32.ofInt a2 >>> (Int32.ofInt 11 &&& 31)).toInt)) &&& Int32.ofInt 31).toInt)), (3, .inl ((Int32.ofInt a2 >>> (Int32.ofInt 16 &&& 31)).toInt)), (0, .inr (.inr (some 0))), (1, .inr (.inr (some a1))), (2, .inl a2)]) (st' := [.inl 2, .inl ((Int32.ofInt a2 >>> (Int32.ofInt 16 &&& 31)).toInt)]) (h' := gc_h sh I17 J A) (C := ((True ∧ True) ∧ True)) rfl ⟨⟨trivial, trivial⟩, trivial⟩ ?_
    refine gv_icmp_ne (t := 121) hD rfl rfl ⟨⟨by omega, by omega⟩, ⟨by omega, by omega⟩⟩ (fun c20 => ?_) (fun c20 => ?_)
    · show gv_X _ _ (121, [(5, .inl ((Int32.ofInt a2 &&& Int32.ofInt 2047).toInt)), (4, .inl ((Int32.ofInt (((Int32.ofInt a2 >>> (Int32.ofInt 11 &&& 31)).toInt)) &&& Int32.ofInt 31).toInt)), (3, .inl ((Int32.ofInt a2 >>> (Int32.ofInt 16 &&& 31)).toInt)), (0, .inr (.inr (some 0))), (1, .inr (.inr (some a1))), (2, .inl a2)], [], sh, gc_h sh I17 J A)
      refine gv_pick [3, 2, 1] rfl ?_
      exact L121 I17 J (((Int32.ofInt a2 >>> (Int32.ofInt 16 &&& 31)).toInt)) (((Int32.ofInt (((Int32.ofInt a2 >>> (Int32.ofInt 11 &&& 31)).toInt)) &&& Int32.ofInt 31).toInt)) hI17 FI17 FJ (by omega)
    · show gv_X _ _ (85, [(5, .inl ((Int32.ofInt a2 &&& Int32.ofInt 2047).toInt)), (4, .inl ((Int32.ofInt (((Int32.ofInt a2 >>> (Int32.ofInt 11 &&& 31)).toInt)) &&& Int32.ofInt 31).toInt)), (3, .inl ((Int32.ofInt a2 >>> (Int32.ofInt 16 &&& 31)).toInt)), (0, .inr (.inr (some 0))), (1, .inr (.inr (some a1))), (2, .inl a2)], [], sh, gc_h sh I17 J A)
      refine gv_run 1 true hD (pc' := 86) (lv' := [(5, .inl ((Int32.ofInt a2 &&& Int32.ofInt 2047).toInt)), (4, .inl ((Int32.ofInt (((Int32.ofInt a2 >>> (Int32.ofInt 11 &&& 31)).toInt)) &&& Int32.ofInt 31).toInt)), (3, .inl ((Int32.ofInt a2 >>> (Int32.ofInt 16 &&& 31)).toInt)), (0, .inr (.inr (some 0))), (1, .inr (.inr (some a1))), (2, .inl a2)]) (st' := [.inr (.inr (some 0))]) (h' := gc_h sh I17 J A) (C := (True ∧ True)) rfl ⟨trivial, trivial⟩ ?_
      refine gv_get hD rfl rfl S_0 ⟨by decide, B_0⟩ (gc_hA S_0 rfl A_0_4) ?_
      show gv_X _ _ (89, [(5, .inl ((Int32.ofInt a2 &&& Int32.ofInt 2047).toInt)), (4, .inl ((Int32.ofInt (((Int32.ofInt a2 >>> (Int32.ofInt 11 &&& 31)).toInt)) &&& Int32.ofInt 31).toInt)), (3, .inl ((Int32.ofInt a2 >>> (Int32.ofInt 16 &&& 31)).toInt)), (0, .inr (.inr (some 0))), (1, .inr (.inr (some a1))), (2, .inl a2)], [.inr (.inr (some 35))], sh, gc_h sh I17 J A)
      refine gv_run 1 true hD (pc' := 90) (lv' := [(5, .inl ((Int32.ofInt a2 &&& Int32.ofInt 2047).toInt)), (4, .inl ((Int32.ofInt (((Int32.ofInt a2 >>> (Int32.ofInt 11 &&& 31)).toInt)) &&& Int32.ofInt 31).toInt)), (3, .inl ((Int32.ofInt a2 >>> (Int32.ofInt 16 &&& 31)).toInt)), (0, .inr (.inr (some 0))), (1, .inr (.inr (some a1))), (2, .inl a2)]) (st' := [.inr (.inr (some 0)), .inr (.inr (some 35))]) (h' := gc_h sh I17 J A) (C := (True ∧ True)) rfl ⟨trivial, trivial⟩ ?_
      refine gv_get hD rfl rfl S_0 ⟨by decide, B_0⟩ (gc_hA S_0 rfl A_0_3) ?_
      show gv_X _ _ (93, [(5, .inl ((Int32.ofInt a2 &&& Int32.ofInt 2047).toInt)), (4, .inl ((Int32.ofInt (((Int32.ofInt a2 >>> (Int32.ofInt 11 &&& 31)).toInt)) &&& Int32.ofInt 31).toInt)), (3, .inl ((Int32.ofInt a2 >>> (Int32.ofInt 16 &&& 31)).toInt)), (0, .inr (.inr (some 0))), (1, .inr (.inr (some a1))), (2, .inl a2)], [.inr (.inr (some 31)), .inr (.inr (some 35))], sh, gc_h sh I17 J A)
      refine gv_run 6 true hD (pc' := 101) (lv' := [(5, .inl ((Int32.ofInt a2 &&& Int32.ofInt 2047).toInt)), (4, .inl ((Int32.ofInt (((Int32.ofInt a2 >>> (Int32.ofInt 11 &&& 31)).toInt)) &&& Int32.ofInt 31).toInt)), (3, .inl ((Int32.ofInt a2 >>> (Int32.ofInt 16 &&& 31)).toInt)), (0, .inr (.inr (some 0))), (1, .inr (.inr (some a1))), (2, .inl a2)]) (st' := [.inl (((Int32.ofInt (((Int32.ofInt a2 >>> (Int32.ofInt 11 &&& 31)).toInt)) &&& Int32.ofInt 31).toInt) + 2), .inl (((Int32.ofInt (((Int32.ofInt a2 >>> (Int32.ofInt 11 &&& 31)).toInt)) &&& Int32.ofInt 31).toInt) + 1), .inr (.inr (some 31)), .inr (.inr (some 35))]) (h' := gc_h sh I17 J A) (C := ((((((True ∧ True) ∧ True) ∧ True) ∧ True) ∧ True) ∧ True)) rfl ⟨⟨⟨⟨⟨⟨trivial, trivial⟩, trivial⟩, trivial⟩, trivial⟩, trivial⟩, trivial⟩ ?_
      obtain ⟨r21, h21, E21, P21⟩ := d_X9_putWordsBetween (ws0 := ws0) (tb := tb) hws htb sh ro I17 J A hI17 35 31 ((((Int32.ofInt (((Int32.ofInt a2 >>> (Int32.ofInt 11 &&& 31)).toInt)) &&& Int32.ofInt 31).toInt) + 1)) ((((Int32.ofInt (((Int32.ofInt a2 >>> (Int32.ofInt 11 &&& 31)).toInt)) &&& Int32.ofInt 31).toInt) + 2)) (gc_b35 hb) (gc_b31 hb)  ⟨by omega, by omega⟩ ⟨by omega, by omega⟩  
      obtain ⟨I22, J23, rfl, hI22, g21, k21, rfl⟩ := P21
      have FI22 := gc_frc (W := fun q j => (q = 35 ∧ j = 1) ∨ q = 36) (V := fun q j => (q = 35 ∧ j = 1) ∨ q = 36) FI17 (fun q j h => (h.elim (fun h => (Or.inl h)) (fun h => (Or.inr h)))) g21
      obtain rfl : J = J23 := funext fun q => funext fun j => ((k21 q j).resolve_left id).symm
      refine gv_callV hD rfl (As := [.inr (.inr (some 31)), .inl (((Int32.ofInt (((Int32.ofInt a2 >>> (Int32.ofInt 11 &&& 31)).toInt)) &&& Int32.ofInt 31).toInt) + 1), .inl (((Int32.ofInt (((Int32.ofInt a2 >>> (Int32.ofInt 11 &&& 31)).toInt)) &&& Int32.ofInt 31).toInt) + 2)]) (st := []) rfl B_35 S_35 rfl (gc_lV12 hws rfl) (Nat.le_of_ble_eq_true rfl) (gz_Ev_mono (d := 4) (by decide) E21) ?_
      show gv_X _ _ (104, [(5, .inl ((Int32.ofInt a2 &&& Int32.ofInt 2047).toInt)), (4, .inl ((Int32.ofInt (((Int32.ofInt a2 >>> (Int32.ofInt 11 &&& 31)).toInt)) &&& Int32.ofInt 31).toInt)), (3, .inl ((Int32.ofInt a2 >>> (Int32.ofInt 16 &&& 31)).toInt)), (0, .inr (.inr (some 0))), (1, .inr (.inr (some a1))), (2, .inl a2)], [], sh, gc_h sh I22 J A)
      refine gv_run 1 true hD (pc' := 105) (lv' := [(5, .inl ((Int32.ofInt a2 &&& Int32.ofInt 2047).toInt)), (4, .inl ((Int32.ofInt (((Int32.ofInt a2 >>> (Int32.ofInt 11 &&& 31)).toInt)) &&& Int32.ofInt 31).toInt)), (3, .inl ((Int32.ofInt a2 >>> (Int32.ofInt 16 &&& 31)).toInt)), (0, .inr (.inr (some 0))), (1, .inr (.inr (some a1))), (2, .inl a2)]) (st' := [.inr (.inr (some 0))]) (h' := gc_h sh I22 J A) (C := (True ∧ True)) rfl ⟨trivial, trivial⟩ ?_
      refine gv_get hD rfl rfl S_0 ⟨by decide, B_0⟩ (gc_hA S_0 rfl A_0_4) ?_
      show gv_X _ _ (108, [(5, .inl ((Int32.ofInt a2 &&& Int32.ofInt 2047).toInt)), (4, .inl ((Int32.ofInt (((Int32.ofInt a2 >>> (Int32.ofInt 11 &&& 31)).toInt)) &&& Int32.ofInt 31).toInt)), (3, .inl ((Int32.ofInt a2 >>> (Int32.ofInt 16 &&& 31)).toInt)), (0, .inr (.inr (some 0))), (1, .inr (.inr (some a1))), (2, .inl a2)], [.inr (.inr (some 35))], sh, gc_h sh I22 J A)
      refine gv_run 1 true hD (pc' := 109) (lv' := [(5, .inl ((Int32.ofInt a2 &&& Int32.ofInt 2047).toInt)), (4, .inl ((Int32.ofInt (((Int32.ofInt a2 >>> (Int32.ofInt 11 &&& 31)).toInt)) &&& Int32.ofInt 31).toInt)), (3, .inl ((Int32.ofInt a2 >>> (Int32.ofInt 16 &&& 31)).toInt)), (0, .inr (.inr (some 0))), (1, .inr (.inr (some a1))), (2, .inl a2)]) (st' := [.inr (.inr (some 0)), .inr (.inr (some 35))]) (h' := gc_h sh I22 J A) (C := (True ∧ True)) rfl ⟨trivial, trivial⟩ ?_
      refine gv_get hD rfl rfl S_0 ⟨by decide, B_0⟩ (gc_hA S_0 rfl A_0_3) ?_
      show gv_X _ _ (112, [(5, .inl ((Int32.ofInt a2 &&& Int32.ofInt 2047).toInt)), (4, .inl ((Int32.ofInt (((Int32.ofInt a2 >>> (Int32.ofInt 11 &&& 31)).toInt)) &&& Int32.ofInt 31).toInt)), (3, .inl ((Int32.ofInt a2 >>> (Int32.ofInt 16 &&& 31)).toInt)), (0, .inr (.inr (some 0))), (1, .inr (.inr (some a1))), (2, .inl a2)], [.inr (.inr (some 31)), .inr (.inr (some 35))], sh, gc_h sh I22 J A)
      refine gv_run 4 true hD (pc' := 118) (lv' := [(5, .inl ((Int32.ofInt a2 &&& Int32.ofInt 2047).toInt)), (4, .inl ((Int32.ofInt (((Int32.ofInt a2 >>> (Int32.ofInt 11 &&& 31)).toInt)) &&& Int32.ofInt 31).toInt)), (3, .inl ((Int32.ofInt a2 >>> (Int32.ofInt 16 &&& 31)).toInt)), (0, .inr (.inr (some 0))), (1, .inr (.inr (some a1))), (2, .inl a2)]) (st' := [.inl (((Int32.ofInt (((Int32.ofInt a2 >>> (Int32.ofInt 11 &&& 31)).toInt)) &&& Int32.ofInt 31).toInt) + 1), .inl ((Int32.ofInt (((Int32.ofInt a2 >>> (Int32.ofInt 11 &&& 31)).toInt)) &&& Int32.ofInt 31).toInt), .inr (.inr (some 31)), .inr (.inr (some 35))]) (h' := gc_h sh I22 J A) (C := ((((True ∧ True) ∧ True) ∧ True) ∧ True)) rfl ⟨⟨⟨⟨trivial, trivial⟩, trivial⟩, trivial⟩, trivial⟩ ?_
      obtain ⟨r24, h24, E24, P24⟩ := d_X9_putWordsBetween (ws0 := ws0) (tb := tb) hws htb sh ro I22 J A hI22 35 31 (((Int32.ofInt (((Int32.ofInt a2 >>> (Int32.ofInt 11 &&& 31)).toInt)) &&& Int32.ofInt 31).toInt)) ((((Int32.ofInt (((Int32.ofInt a2 >>> (Int32.ofInt 11 &&& 31)).toInt)) &&& Int32.ofInt 31).toInt) + 1)) (gc_b35 hb) (gc_b31 hb)  ⟨by omega, by omega⟩ ⟨by omega, by omega⟩  
      obtain ⟨I25, J26, rfl, hI25, g24, k24, rfl⟩ := P24
      have FI25 := gc_frc (W := fun q j => (q = 35 ∧ j = 1) ∨ q = 36) (V := fun q j => (q = 35 ∧ j = 1) ∨ q = 36) FI22 (fun q j h => (h.elim (fun h => (Or.inl h)) (fun h => (Or.inr h)))) g24
      obtain rfl : J = J26 := funext fun q => funext fun j => ((k24 q j).resolve_left id).symm
      refine gv_callV hD rfl (As := [.inr (.inr (some 31)), .inl ((Int32.ofInt (((Int32.ofInt a2 >>> (Int32.ofInt 11 &&& 31)).toInt)) &&& Int32.ofInt 31).toInt), .inl (((Int32.ofInt (((Int32.ofInt a2 >>> (Int32.ofInt 11 &&& 31)).toInt)) &&& Int32.ofInt 31).toInt) + 1)]) (st := []) rfl B_35 S_35 rfl (gc_lV12 hws rfl) (Nat.le_of_ble_eq_true rfl) (gz_Ev_mono (d := 4) (by decide) E24) ?_
      show gv_X _ _ (121, [(5, .inl ((Int32.ofInt a2 &&& Int32.ofInt 2047).toInt)), (4, .inl ((Int32.ofInt (((Int32.ofInt a2 >>> (Int32.ofInt 11 &&& 31)).toInt)) &&& Int32.ofInt 31).toInt)), (3, .inl ((Int32.ofInt a2 >>> (Int32.ofInt 16 &&& 31)).toInt)), (0, .inr (.inr (some 0))), (1, .inr (.inr (some a1))), (2, .inl a2)], [], sh, gc_h sh I25 J A)
      refine gv_pick [3, 2, 1] rfl ?_
      exact L121 I25 J (((Int32.ofInt a2 >>> (Int32.ofInt 16 &&& 31)).toInt)) (((Int32.ofInt (((Int32.ofInt a2 >>> (Int32.ofInt 11 &&& 31)).toInt)) &&& Int32.ofInt 31).toInt)) hI25 FI25 FJ (by omega)
  · show gv_X _ _ (48, [(5, .inl ((Int32.ofInt a2 &&& Int32.ofInt 2047).toInt)), (4, .inl ((Int32.ofInt (((Int32.ofInt a2 >>> (Int32.ofInt 11 &&& 31)).toInt)) &&& Int32.ofInt 31).toInt)), (3, .inl ((Int32.ofInt a2 >>> (Int32.ofInt 16 &&& 31)).toInt)), (0, .inr (.inr (some 0))), (1, .inr (.inr (some a1))), (2, .inl a2)], [], sh, gc_h sh I17 J A)
    refine gv_run 1 true hD (pc' := 49) (lv' := [(5, .inl ((Int32.ofInt a2 &&& Int32.ofInt 2047).toInt)), (4, .inl ((Int32.ofInt (((Int32.ofInt a2 >>> (Int32.ofInt 11 &&& 31)).toInt)) &&& Int32.ofInt 31).toInt)), (3, .inl ((Int32.ofInt a2 >>> (Int32.ofInt 16 &&& 31)).toInt)), (0, .inr (.inr (some 0))), (1, .inr (.inr (some a1))), (2, .inl a2)]) (st' := [.inr (.inr (some 0))]) (h' := gc_h sh I17 J A) (C := (True ∧ True)) rfl ⟨trivial, trivial⟩ ?_
    refine gv_get hD rfl rfl S_0 ⟨by decide, B_0⟩ (gc_hA S_0 rfl A_0_4) ?_
    show gv_X _ _ (52, [(5, .inl ((Int32.ofInt a2 &&& Int32.ofInt 2047).toInt)), (4, .inl ((Int32.ofInt (((Int32.ofInt a2 >>> (Int32.ofInt 11 &&& 31)).toInt)) &&& Int32.ofInt 31).toInt)), (3, .inl ((Int32.ofInt a2 >>> (Int32.ofInt 16 &&& 31)).toInt)), (0, .inr (.inr (some 0))), (1, .inr (.inr (some a1))), (2, .inl a2)], [.inr (.inr (some 35))], sh, gc_h sh I17 J A)
    refine gv_run 1 true hD (pc' := 53) (lv' := [(5, .inl ((Int32.ofInt a2 &&& Int32.ofInt 2047).toInt)), (4, .inl ((Int32.ofInt (((Int32.ofInt a2 >>> (Int32.ofInt 11 &&& 31)).toInt)) &&& Int32.ofInt 31).toInt)), (3, .inl ((Int32.ofInt a2 >>> (Int32.ofInt 16 &&& 31)).toInt)), (0, .inr (.inr (some 0))), (1, .inr (.inr (some a1))), (2, .inl a2)]) (st' := [.inr (.inr (some a1)), .inr (.inr (some 35))]) (h' := gc_h sh I17 J A) (C := (True ∧ True)) rfl ⟨trivial, trivial⟩ ?_
    refine gv_get hD rfl rfl S_a1 ⟨by decide, B_a1⟩ (gc_hA S_a1 rfl A_a1_15) ?_
    show gv_X _ _ (56, [(5, .inl ((Int32.ofInt a2 &&& Int32.ofInt 2047).toInt)), (4, .inl ((Int32.ofInt (((Int32.ofInt a2 >>> (Int32.ofInt 11 &&& 31)).toInt)) &&& Int32.ofInt 31).toInt)), (3, .inl ((Int32.ofInt a2 >>> (Int32.ofInt 16 &&& 31)).toInt)), (0, .inr (.inr (some 0))), (1, .inr (.inr (some a1))), (2, .inl a2)], [.inr (.inr (some (a1 + 17))), .inr (.inr (some 35))], sh, gc_h sh I17 J A)
    refine gv_get hD rfl rfl S_a1_17 ⟨by decide, B_a1_17⟩ (gc_hA S_a1_17 rfl A_a1_17_1) ?_
    show gv_X _ _ (59, [(5, .inl ((Int32.ofInt a2 &&& Int32.ofInt 2047).toInt)), (4, .inl ((Int32.ofInt (((Int32.ofInt a2 >>> (Int32.ofInt 11 &&& 31)).toInt)) &&& Int32.ofInt 31).toInt)), (3, .inl ((Int32.ofInt a2 >>> (Int32.ofInt 16 &&& 31)).toInt)), (0, .inr (.inr (some 0))), (1, .inr (.inr (some a1))), (2, .inl a2)], [.inr (.inr (some ((a1 + 17) + 1))), .inr (.inr (some 35))], sh, gc_h sh I17 J A)
    refine gv_run 4 true hD (pc' := 65) (lv' := [(5, .inl ((Int32.ofInt a2 &&& Int32.ofInt 2047).toInt)), (4, .inl ((Int32.ofInt (((Int32.ofInt a2 >>> (Int32.ofInt 11 &&& 31)).toInt)) &&& Int32.ofInt 31).toInt)), (3, .inl ((Int32.ofInt a2 >>> (Int32.ofInt 16 &&& 31)).toInt)), (0, .inr (.inr (some 0))), (1, .inr (.inr (some a1))), (2, .inl a2)]) (st' := [.inr (.inr (some a1)), .inl (((Int32.ofInt a2 &&& Int32.ofInt 2047).toInt) * 24), .inr (.inr (some ((a1 + 17) + 1))), .inr (.inr (some 35))]) (h' := gc_h sh I17 J A) (C := ((((True ∧ True) ∧ True) ∧ True) ∧ True)) rfl ⟨⟨⟨⟨trivial, trivial⟩, trivial⟩, trivial⟩, trivial⟩ ?_
    refine gv_get hD rfl rfl S_a1 ⟨by decide, B_a1⟩ (gc_hA S_a1 rfl A_a1_15) ?_
    show gv_X _ _ (68, [(5, .inl ((Int32.ofInt a2 &&& Int32.ofInt 2047).toInt)), (4, .inl ((Int32.ofInt (((Int32.ofInt a2 >>> (Int32.ofInt 11 &&& 31)).toInt)) &&& Int32.ofInt 31).toInt)), (3, .inl ((Int32.ofInt a2 >>> (Int32.ofInt 16 &&& 31)).toInt)), (0, .inr (.inr (some 0))), (1, .inr (.inr (some a1))), (2, .inl a2)], [.inr (.inr (some (a1 + 17))), .inl (((Int32.ofInt a2 &&& Int32.ofInt 2047).toInt) * 24), .inr (.inr (some ((a1 + 17) + 1))), .inr (.inr (some 35))], sh, gc_h sh I17 J A)
    refine gv_get hD rfl rfl S_a1_17 ⟨by decide, B_a1_17⟩ (gc_hA S_a1_17 rfl A_a1_17_2) ?_
    show gv_X _ _ (71, [(5, .inl ((Int32.ofInt a2 &&& Int32.ofInt 2047).toInt)), (4, .inl ((Int32.ofInt (((Int32.ofInt a2 >>> (Int32.ofInt 11 &&& 31)).toInt)) &&& Int32.ofInt 31).toInt)), (3, .inl ((Int32.ofInt a2 >>> (Int32.ofInt 16 &&& 31)).toInt)), (0, .inr (.inr (some 0))), (1, .inr (.inr (some a1))), (2, .inl a2)], [.inr (.inr (some ((a1 + 17) + 2))), .inl (((Int32.ofInt a2 &&& Int32.ofInt 2047).toInt) * 24), .inr (.inr (some ((a1 + 17) + 1))), .inr (.inr (some 35))], sh, gc_h sh I17 J A)
    refine gv_run 1 true hD (pc' := 73) (lv' := [(5, .inl ((Int32.ofInt a2 &&& Int32.ofInt 2047).toInt)), (4, .inl ((Int32.ofInt (((Int32.ofInt a2 >>> (Int32.ofInt 11 &&& 31)).toInt)) &&& Int32.ofInt 31).toInt)), (3, .inl ((Int32.ofInt a2 >>> (Int32.ofInt 16 &&& 31)).toInt)), (0, .inr (.inr (some 0))), (1, .inr (.inr (some a1))), (2, .inl a2)]) (st' := [.inl ((Int32.ofInt a2 &&& Int32.ofInt 2047).toInt), .inr (.inr (some ((a1 + 17) + 2))), .inl (((Int32.ofInt a2 &&& Int32.ofInt 2047).toInt) * 24), .inr (.inr (some ((a1 + 17) + 1))), .inr (.inr (some 35))]) (h' := gc_h sh I17 J A) (C := (True ∧ True)) rfl ⟨trivial, trivial⟩ ?_
    have f27 := (show (-1) ≤ I17 ((a1 + 17) + 2) (Int.toNat (((Int32.ofInt a2 &&& Int32.ofInt 2047).toInt))) ∧ I17 ((a1 + 17) + 2) (Int.toNat (((Int32.ofInt a2 &&& Int32.ofInt 2047).toInt))) ≤ 24 from gc_in hI17 R_a1_17_2 rfl rfl)
    refine gv_iald hD rfl S_a1_17_2 rfl ⟨by decide, B_a1_17_2⟩ ⟨by omega, by omega⟩ (gc_iI S_a1_17_2 rfl) ?_
    show gv_X _ _ (74, [(5, .inl ((Int32.ofInt a2 &&& Int32.ofInt 2047).toInt)), (4, .inl ((Int32.ofInt (((Int32.ofInt a2 >>> (Int32.ofInt 11 &&& 31)).toInt)) &&& Int32.ofInt 31).toInt)), (3, .inl ((Int32.ofInt a2 >>> (Int32.ofInt 16 &&& 31)).toInt)), (0, .inr (.inr (some 0))), (1, .inr (.inr (some a1))), (2, .inl a2)], [.inl (I17 ((a1 + 17) + 2) (Int.toNat (((Int32.ofInt a2 &&& Int32.ofInt 2047).toInt)))), .inl (((Int32.ofInt a2 &&& Int32.ofInt 2047).toInt) * 24), .inr (.inr (some ((a1 + 17) + 1))), .inr (.inr (some 35))], sh, gc_h sh I17 J A)
    obtain ⟨r28, h28, E28, P28⟩ := d_X9_putSpaced (ws0 := ws0) (tb := tb) hws htb sh ro I17 J A hI17 35 36864 (((a1 + 17) + 1)) ((((Int32.ofInt a2 &&& Int32.ofInt 2047).toInt) * 24)) ((I17 ((a1 + 17) + 2) (Int.toNat (((Int32.ofInt a2 &&& Int32.ofInt 2047).toInt))))) (gc_b35 hb) S_a1_17_1 R_a1_17_1 B_a1_17_1 (by decide)  ⟨by omega, by omega⟩ ⟨by omega, by omega⟩  
    obtain ⟨I29, J30, rfl, hI29, g28, k28, rfl⟩ := P28
    have FI29 := gc_frc (W := fun q j => (q = 35 ∧ j = 1) ∨ q = 36) (V := fun q j => (q = 35 ∧ j = 1) ∨ q = 36) FI17 (fun q j h => (h.elim (fun h => (Or.inl h)) (fun h => (Or.inr h)))) g28
    obtain rfl : J = J30 := funext fun q => funext fun j => ((k28 q j).resolve_left id).symm
    refine gv_callV hD rfl (As := [.inr (.inr (some ((a1 + 17) + 1))), .inl (((Int32.ofInt a2 &&& Int32.ofInt 2047).toInt) * 24), .inl (I17 ((a1 + 17) + 2) (Int.toNat (((Int32.ofInt a2 &&& Int32.ofInt 2047).toInt))))]) (st := []) rfl B_35 S_35 rfl (gc_lV12 hws rfl) (Nat.le_of_ble_eq_true rfl) (gz_Ev_mono (d := 3) (by decide) E28) ?_
    show gv_X _ _ (77, [(5, .inl ((Int32.ofInt a2 &&& Int32.ofInt 2047).toInt)), (4, .inl ((Int32.ofInt (((Int32.ofInt a2 >>> (Int32.ofInt 11 &&& 31)).toInt)) &&& Int32.ofInt 31).toInt)), (3, .inl ((Int32.ofInt a2 >>> (Int32.ofInt 16 &&& 31)).toInt)), (0, .inr (.inr (some 0))), (1, .inr (.inr (some a1))), (2, .inl a2)], [], sh, gc_h sh I29 J A)
    refine gv_run 1 true hD (pc' := 121) (lv' := [(5, .inl ((Int32.ofInt a2 &&& Int32.ofInt 2047).toInt)), (4, .inl ((Int32.ofInt (((Int32.ofInt a2 >>> (Int32.ofInt 11 &&& 31)).toInt)) &&& Int32.ofInt 31).toInt)), (3, .inl ((Int32.ofInt a2 >>> (Int32.ofInt 16 &&& 31)).toInt)), (0, .inr (.inr (some 0))), (1, .inr (.inr (some a1))), (2, .inl a2)]) (st' := []) (h' := gc_h sh I29 J A) (C := (True ∧ True)) rfl ⟨trivial, trivial⟩ ?_
    refine gv_pick [3, 2, 1] rfl ?_
    exact L121 I29 J (((Int32.ofInt a2 >>> (Int32.ofInt 16 &&& 31)).toInt)) (((Int32.ofInt (((Int32.ofInt a2 >>> (Int32.ofInt 11 &&& 31)).toInt)) &&& Int32.ofInt 31).toInt)) hI29 FI29 FJ (by omega)
set_option maxHeartbeats 4000000 in
set_option maxRecDepth 100000 in
theorem d_X12_listChanges {ws0 : List Cond} {tb : String → gz_T} (hws : gc_Ws ws0) (htb : gc_tbs tb) (sh : gz_Sh) (ro : Nat → Nat) (I : gr_I) (J : gr_J) (A : gc_A) (hI : gc_Inv ro I) (a1 : Nat) (hb : gc_Base sh ro A) (h_a1 : gc_isTongue sh ro A a1) (G_a1 : 144 ≤ a1)  (x0 : gc_SP 31 I) : ∃ r h', gz_Ev ws0 tb 3 (yX12_listChanges, cX12_listChanges, 11, (some .int)) [.inr (.inr (some 0)), .inr (.inr (some a1))] sh (gc_h sh I J A) r sh h' 0 0 ∧ (∃ (I' : gr_I) (J' : gr_J), h' = gc_h sh I' J' A ∧ gc_Inv ro I' ∧ (∀ q j : Nat, (q = 143 ∨ q = (a1 + 22)) ∨ I' q j = I q j) ∧ (∀ q j : Nat, (False) ∨ J' q j = J q j) ∧ (∃ z : Int, r = some (.inl z) ∧ 0 ≤ z ∧ z ≤ 1000)) := by
  have FI : ∀ q j : Nat, (q = 143 ∨ q = (a1 + 22)) ∨ I q j = I q j := fun _ _ => Or.inr rfl
  have FJ : ∀ q j : Nat, (False) ∨ J q j = J q j := fun _ _ => Or.inr rfl
  have A_0_16 : A 0 16 = some 143 := gc_bA hb rfl
  have A_0_3 : A 0 3 = some 31 := gc_bA hb rfl
  have A_31_0 : A 31 0 = some 32 := gc_bA hb rfl
  have A_31_2 : A 31 2 = some 33 := gc_bA hb rfl
  have A_31_3 : A 31 3 = some 34 := gc_bA hb rfl
  have B_0 : 0 < 1000000 := by decide
  have B_143 : 143 < 1000000 := by decide
  have B_31 : 31 < 1000000 := by decide
  have B_32 : 32 < 1000000 := by decide
  have B_33 : 33 < 1000000 := by decide
  have B_34 : 34 < 1000000 := by decide
  have R_143 : ro 143 = 0 := gc_bR hb (by decide) rfl
  have R_31 : ro 31 = 3 := gc_bR hb (by decide) rfl
  have R_32 : ro 32 = 1 := gc_bR hb (by decide) rfl
  have R_33 : ro 33 = 4 := gc_bR hb (by decide) rfl
  have R_34 : ro 34 = 5 := gc_bR hb (by decide) rfl
  have S_0 : sh[0]? = some (false, 12, 17) := gc_bS hb rfl
  have S_143 : sh[143]? = some (true, 1, 1000) := gc_bS hb rfl
  have S_31 : sh[31]? = some (false, 9, 10) := gc_bS hb rfl
  have S_32 : sh[32]? = some (true, 0, 1000) := gc_bS hb rfl
  have S_33 : sh[33]? = some (true, 1, 24) := gc_bS hb rfl
  have S_34 : sh[34]? = some (true, 1, 24) := gc_bS hb rfl
  obtain ⟨S_a1, R_a1, B_a1, A_a1_0, h_a1_1, A_a1_1, h_a1_3, A_a1_2, S_a1_5, R_a1_5, B_a1_5, A_a1_3, S_a1_6, R_a1_6, B_a1_6, A_a1_4, h_a1_7, A_a1_5, S_a1_9, R_a1_9, B_a1_9, A_a1_7, S_a1_10, R_a1_10, B_a1_10, A_a1_8, h_a1_11, A_a1_9, S_a1_13, R_a1_13, B_a1_13, A_a1_10, S_a1_14, R_a1_14, B_a1_14, A_a1_12, S_a1_15, R_a1_15, B_a1_15, A_a1_14, S_a1_16, R_a1_16, B_a1_16, A_a1_15, h_a1_17⟩ := id h_a1
  obtain ⟨S_a1_1, R_a1_1, B_a1_1, A_a1_1_0, S_a1_1_1, R_a1_1_1, B_a1_1_1, Q0_a1_1, Q1_a1_1, Q2_a1_1⟩ := id h_a1_1
  obtain ⟨S_a1_3, R_a1_3, B_a1_3, A_a1_3_0, S_a1_3_1, R_a1_3_1, B_a1_3_1, Q0_a1_3, Q1_a1_3, Q2_a1_3⟩ := id h_a1_3
  obtain ⟨S_a1_7, R_a1_7, B_a1_7, A_a1_7_0, S_a1_7_1, R_a1_7_1, B_a1_7_1, Q0_a1_7, Q1_a1_7, Q2_a1_7⟩ := id h_a1_7
  obtain ⟨S_a1_11, R_a1_11, B_a1_11, A_a1_11_0, S_a1_11_1, R_a1_11_1, B_a1_11_1, Q0_a1_11, Q1_a1_11, Q2_a1_11⟩ := id h_a1_11
  obtain ⟨S_a1_17, R_a1_17, B_a1_17, A_a1_17_0, S_20, R_20, B_20, A_a1_17_1, S_a1_17_1, R_a1_17_1, B_a1_17_1, A_a1_17_2, S_a1_17_2, R_a1_17_2, B_a1_17_2, A_a1_17_3, S_a1_17_3, R_a1_17_3, B_a1_17_3, A_a1_17_4, S_a1_17_4, R_a1_17_4, B_a1_17_4, A_a1_17_5, S_a1_17_5, R_a1_17_5, B_a1_17_5, S_a1_17_6, R_a1_17_6, B_a1_17_6, S_a1_17_7, R_a1_17_7, B_a1_17_7⟩ := id h_a1_17
  have hD : gv_D (gc_E12 ws0 tb 2 (yX12_listChanges, cX12_listChanges, 11, (some .int)) kX12_listChanges) := gq_ok oX12_listChanges
  refine gc_ev12 (d := 2) (l := kX12_listChanges) (Po := fun r h' => (∃ (I' : gr_I) (J' : gr_J), h' = gc_h sh I' J' A ∧ gc_Inv ro I' ∧ (∀ q j : Nat, (q = 143 ∨ q = (a1 + 22)) ∨ I' q j = I q j) ∧ (∀ q j : Nat, (False) ∨ J' q j = J q j) ∧ (∃ z : Int, r = some (.inl z) ∧ 0 ≤ z ∧ z ≤ 1000))) htb rfl (Nat.le_of_ble_eq_true rfl) ?_
  have N_31__a1_22 : ¬ (31 = (a1 + 22)) := by omega
  have f1 := (show 0 ≤ I 31 4 ∧ I 31 4 ≤ 24 from gc_in hI R_31 rfl rfl)
  have L4 : ∀ (n9 : Nat) (I2 : gr_I) (J3 : gr_J) (v2_4 : Int) (v3_4 : Int), (25 - v3_4).toNat < n9 → gc_Inv ro I2 → (∀ q j : Nat, (q = 143 ∨ q = (a1 + 22)) ∨ I2 q j = I q j) → (∀ q j : Nat, (False) ∨ J3 q j = J q j) → ((0 ≤ v2_4 ∧ v2_4 ≤ 1000) ∧ (0 ≤ v3_4 ∧ v3_4 ≤ 24)) → gv_X (gc_E12 ws0 tb 2 (yX12_listChanges, cX12_listChanges, 11, (some .int)) kX12_listChanges) (gv_Q cX12_listChanges (some .int) sh (fun r h' => (∃ (I' : gr_I) (J' : gr_J), h' = gc_h sh I' J' A ∧ gc_Inv ro I' ∧ (∀ q j : Nat, (q = 143 ∨ q = (a1 + 22)) ∨ I' q j = I q j) ∧ (∀ q j : Nat, (False) ∨ J' q j = J q j) ∧ (∃ z : Int, r = some (.inl z) ∧ 0 ≤ z ∧ z ≤ 1000)))) (4, [(0, .inr (.inr (some 0))), (1, .inr (.inr (some a1))), (2, .inl v2_4), (3, .inl v3_4)], [], sh, gc_h sh I2 J3 A) := by
    intro n9
    induction n9 with
    | zero => intro I2 J3 v2_4 v3_4 hn; omega
    | succ n9 ih4 =>
      intro I2 J3 v2_4 v3_4 hn hI2 FI2 FJ3 m_4
      obtain ⟨hv2_4, hv3_4⟩ := m_4
      have f5 := (show 0 ≤ I2 31 4 ∧ I2 31 4 ≤ 24 from gc_in hI2 R_31 rfl rfl)
      have L60 : ∀ (n9 : Nat) (I6 : gr_I) (J7 : gr_J) (v2_8 : Int) (v4_8 : Int) (v5_8 : Int) (v6_8 : Int) (v7_8 : Int), (1537 - v7_8).toNat < n9 → gc_Inv ro I6 → (∀ q j : Nat, (q = 143 ∨ q = (a1 + 22)) ∨ I6 q j = I q j) → (∀ q j : Nat, (False) ∨ J7 q j = J q j) → ((0 ≤ v2_8 ∧ v2_8 ≤ 1000) ∧ (0 ≤ v3_4 ∧ v3_4 ≤ 23) ∧ (0 ≤ v4_8 ∧ v4_8 ≤ 1000) ∧ (0 ≤ v5_8 ∧ v5_8 ≤ 24) ∧ (0 ≤ v6_8 ∧ v6_8 ≤ 1536) ∧ (0 ≤ v7_8 ∧ v7_8 ≤ 1536)) → gv_X (gc_E12 ws0 tb 2 (yX12_listChanges, cX12_listChanges, 11, (some .int)) kX12_listChanges) (gv_Q cX12_listChanges (some .int) sh (fun r h' => (∃ (I' : gr_I) (J' : gr_J), h' = gc_h sh I' J' A ∧ gc_Inv ro I' ∧ (∀ q j : Nat, (q = 143 ∨ q = (a1 + 22)) ∨ I' q j = I q j) ∧ (∀ q j : Nat, (False) ∨ J' q j = J q j) ∧ (∃ z : Int, r = some (.inl z) ∧ 0 ≤ z ∧ z ≤ 1000)))) (60, [(0, .inr (.inr (some 0))), (1, .inr (.inr (some a1))), (2, .inl v2_8), (3, .inl v3_4), (4, .inl v4_8), (5, .inl v5_8), (6, .inl v6_8), (7, .inl v7_8)], [], sh, gc_h sh I6 J7 A) := by
        intro n9
        induction n9 with
        | zero => intro I6 J7 v2_8 v4_8 v5_8 v6_8 v7_8 hn; omega
        | succ n9 ih60 =>
          intro I6 J7 v2_8 v4_8 v5_8 v6_8 v7_8 hn hI6 FI6 FJ7 m_8
          clear hv2_4 hv3_4 f5
          obtain ⟨hv2_8, hv3_4_8, hv4_8, hv5_8, hv6_8, hv7_8⟩ := m_8
          have f9 := (show 0 ≤ I6 31 4 ∧ I6 31 4 ≤ 24 from gc_in hI6 R_31 rfl rfl)
          have L103 : ∀ (n9 : Nat) (I10 : gr_I) (J11 : gr_J) (v2_12 : Int) (v9_12 : Int) (v10_12 : Int), (1537 - v10_12).toNat < n9 → gc_Inv ro I10 → (∀ q j : Nat, (q = 143 ∨ q = (a1 + 22)) ∨ I10 q j = I q j) → (∀ q j : Nat, (False) ∨ J11 q j = J q j) → ((0 ≤ v2_12 ∧ v2_12 ≤ 1000) ∧ (0 ≤ v3_4 ∧ v3_4 ≤ 23) ∧ (0 ≤ v4_8 ∧ v4_8 ≤ 1000) ∧ (0 ≤ v5_8 ∧ v5_8 ≤ 24) ∧ (1 ≤ v6_8 ∧ v6_8 ≤ 1536) ∧ (0 ≤ v7_8 ∧ v7_8 ≤ 1535) ∧ (0 ≤ v9_12 ∧ v9_12 ≤ 1536) ∧ (0 ≤ v10_12 ∧ v10_12 ≤ 1536)) → gv_X (gc_E12 ws0 tb 2 (yX12_listChanges, cX12_listChanges, 11, (some .int)) kX12_listChanges) (gv_Q cX12_listChanges (some .int) sh (fun r h' => (∃ (I' : gr_I) (J' : gr_J), h' = gc_h sh I' J' A ∧ gc_Inv ro I' ∧ (∀ q j : Nat, (q = 143 ∨ q = (a1 + 22)) ∨ I' q j = I q j) ∧ (∀ q j : Nat, (False) ∨ J' q j = J q j) ∧ (∃ z : Int, r = some (.inl z) ∧ 0 ≤ z ∧ z ≤ 1000)))) (103, [(0, .inr (.inr (some 0))), (1, .inr (.inr (some a1))), (2, .inl v2_12), (3, .inl v3_4), (4, .inl v4_8), (5, .inl v5_8), (6, .inl v6_8), (7, .inl v7_8), (9, .inl v9_12), (10, .inl v10_12)], [], sh, gc_h sh I10 J11 A) := by
            intro n9
            induction n9 with
            | zero => intro I10 J11 v2_12 v9_12 v10_12 hn; omega
            | succ n9 ih103 =>
              intro I10 J11 v2_12 v9_12 v10_12 hn hI10 FI10 FJ11 m_12
              clear hv2_8 hv3_4_8 hv4_8 hv5_8 hv6_8 hv7_8 f9
              obtain ⟨hv2_12, hv3_4_12, hv4_8_12, hv5_8_12, hv6_8_12, hv7_8_12, hv9_12, hv10_12⟩ := m_12
              have f13 := (show 0 ≤ I10 31 4 ∧ I10 31 4 ≤ 24 from gc_in hI10 R_31 rfl rfl)
              have L173 : ∀ (I14 : gr_I) (J15 : gr_J) (v2_16 : Int), gc_Inv ro I14 → (∀ q j : Nat, (q = 143 ∨ q = (a1 + 22)) ∨ I14 q j = I q j) → (∀ q j : Nat, (False) ∨ J15 q j = J q j) → ((0 ≤ v2_16 ∧ v2_16 ≤ 1000) ∧ (0 ≤ v3_4 ∧ v3_4 ≤ 23) ∧ (0 ≤ v4_8 ∧ v4_8 ≤ 1000) ∧ (0 ≤ v5_8 ∧ v5_8 ≤ 24) ∧ (1 ≤ v6_8 ∧ v6_8 ≤ 1536) ∧ (0 ≤ v7_8 ∧ v7_8 ≤ 1535) ∧ (1 ≤ v9_12 ∧ v9_12 ≤ 1536) ∧ (0 ≤ v10_12 ∧ v10_12 ≤ 1535)) → gv_X (gc_E12 ws0 tb 2 (yX12_listChanges, cX12_listChanges, 11, (some .int)) kX12_listChanges) (gv_Q cX12_listChanges (some .int) sh (fun r h' => (∃ (I' : gr_I) (J' : gr_J), h' = gc_h sh I' J' A ∧ gc_Inv ro I' ∧ (∀ q j : Nat, (q = 143 ∨ q = (a1 + 22)) ∨ I' q j = I q j) ∧ (∀ q j : Nat, (False) ∨ J' q j = J q j) ∧ (∃ z : Int, r = some (.inl z) ∧ 0 ≤ z ∧ z ≤ 1000)))) (173, [(0, .inr (.inr (some 0))), (1, .inr (.inr (some a1))), (2, .inl v2_16), (3, .inl v3_4), (4, .inl v4_8), (5, .inl v5_8), (6, .inl v6_8), (7, .inl v7_8), (9, .inl v9_12), (10, .inl v10_12)], [], sh, gc_h sh I14 J15 A) := by
                intro I14 J15 v2_16 hI14 FI14 FJ15 m_16
                clear hv2_12 hv3_4_12 hv4_8_12 hv5_8_12 hv6_8_12 hv7_8_12 hv9_12 hv10_12 f13
                obtain ⟨hv2_16, hv3_4_16, hv4_8_16, hv5_8_16, hv6_8_16, hv7_8_16, hv9_12_16, hv10_12_16⟩ := m_16
                have f17 := (show 0 ≤ I14 31 4 ∧ I14 31 4 ≤ 24 from gc_in hI14 R_31 rfl rfl)
                refine gv_run 2 true hD (pc' := 103) (lv' := [(10, .inl (v10_12 + 1)), (0, .inr (.inr (some 0))), (1, .inr (.inr (some a1))), (2, .inl v2_16), (3, .inl v3_4), (4, .inl v4_8), (5, .inl v5_8), (6, .inl v6_8), (7, .inl v7_8), (9, .inl v9_12)]) (st' := []) (h' := gc_h sh I14 J15 A) (C := ((True ∧ True) ∧ True)) rfl ⟨⟨trivial, trivial⟩, trivial⟩ ?_
                refine gv_pick [1, 2, 3, 4, 5, 6, 7, 8, 9, 0] rfl ?_
                exact ih103 I14 J15 v2_16 v9_12 (v10_12 + 1) (by omega) hI14 FI14 FJ15 (by omega)
              have L179 : ((0 ≤ v2_12 ∧ v2_12 ≤ 1000) ∧ (0 ≤ v3_4 ∧ v3_4 ≤ 23) ∧ (0 ≤ v4_8 ∧ v4_8 ≤ 1000) ∧ (0 ≤ v5_8 ∧ v5_8 ≤ 24) ∧ (1 ≤ v6_8 ∧ v6_8 ≤ 1536) ∧ (0 ≤ v7_8 ∧ v7_8 ≤ 1535)) → gv_X (gc_E12 ws0 tb 2 (yX12_listChanges, cX12_listChanges, 11, (some .int)) kX12_listChanges) (gv_Q cX12_listChanges (some .int) sh (fun r h' => (∃ (I' : gr_I) (J' : gr_J), h' = gc_h sh I' J' A ∧ gc_Inv ro I' ∧ (∀ q j : Nat, (q = 143 ∨ q = (a1 + 22)) ∨ I' q j = I q j) ∧ (∀ q j : Nat, (False) ∨ J' q j = J q j) ∧ (∃ z : Int, r = some (.inl z) ∧ 0 ≤ z ∧ z ≤ 1000)))) (179, [(0, .inr (.inr (some 0))), (1, .inr (.inr (some a1))), (2, .inl v2_12), (3, .inl v3_4), (4, .inl v4_8), (5, .inl v5_8), (6, .inl v6_8), (7, .inl v7_8)], [], sh, gc_h sh I10 J11 A) := by
                intro m_18
                obtain ⟨hv2_12_18, hv3_4_18, hv4_8_18, hv5_8_18, hv6_8_18, hv7_8_18⟩ := m_18
                have f19 := (show 0 ≤ I10 31 4 ∧ I10 31 4 ≤ 24 from gc_in hI10 R_31 rfl rfl)
                refine gv_run 2 true hD (pc' := 60) (lv' := [(7, .inl (v7_8 + 1)), (0, .inr (.inr (some 0))), (1, .inr (.inr (some a1))), (2, .inl v2_12), (3, .inl v3_4), (4, .inl v4_8), (5, .inl v5_8), (6, .inl v6_8)]) (st' := []) (h' := gc_h sh I10 J11 A) (C := ((True ∧ True) ∧ True)) rfl ⟨⟨trivial, trivial⟩, trivial⟩ ?_
                refine gv_pick [1, 2, 3, 4, 5, 6, 7, 0] rfl ?_
                exact ih60 I10 J11 v2_12 v4_8 v5_8 v6_8 (v7_8 + 1) (by omega) hI10 FI10 FJ11 (by omega)
              refine gv_run 2 true hD (pc' := 107) (lv' := [(0, .inr (.inr (some 0))), (1, .inr (.inr (some a1))), (2, .inl v2_12), (3, .inl v3_4), (4, .inl v4_8), (5, .inl v5_8), (6, .inl v6_8), (7, .inl v7_8), (9, .inl v9_12), (10, .inl v10_12)]) (st' := [.inl v9_12, .inl v10_12]) (h' := gc_h sh I10 J11 A) (C := ((True ∧ True) ∧ True)) rfl ⟨⟨trivial, trivial⟩, trivial⟩ ?_
              refine gv_icmp_ge (t := 179) hD rfl rfl ⟨⟨by omega, by omega⟩, ⟨by omega, by omega⟩⟩ (fun c20 => ?_) (fun c20 => ?_)
              · show gv_X _ _ (179, [(0, .inr (.inr (some 0))), (1, .inr (.inr (some a1))), (2, .inl v2_12), (3, .inl v3_4), (4, .inl v4_8), (5, .inl v5_8), (6, .inl v6_8), (7, .inl v7_8), (9, .inl v9_12), (10, .inl v10_12)], [], sh, gc_h sh I10 J11 A)
                refine gv_pick [0, 1, 2, 3, 4, 5, 6, 7] rfl ?_
                exact L179 (by omega)
              · show gv_X _ _ (110, [(0, .inr (.inr (some 0))), (1, .inr (.inr (some a1))), (2, .inl v2_12), (3, .inl v3_4), (4, .inl v4_8), (5, .inl v5_8), (6, .inl v6_8), (7, .inl v7_8), (9, .inl v9_12), (10, .inl v10_12)], [], sh, gc_h sh I10 J11 A)
                refine gv_run 2 true hD (pc' := 114) (lv' := [(0, .inr (.inr (some 0))), (1, .inr (.inr (some a1))), (2, .inl v2_12), (3, .inl v3_4), (4, .inl v4_8), (5, .inl v5_8), (6, .inl v6_8), (7, .inl v7_8), (9, .inl v9_12), (10, .inl v10_12)]) (st' := [.inl 1000, .inl v2_12]) (h' := gc_h sh I10 J11 A) (C := ((True ∧ True) ∧ True)) rfl ⟨⟨trivial, trivial⟩, trivial⟩ ?_
                refine gv_icmp_ge (t := 179) hD rfl rfl ⟨⟨by omega, by omega⟩, ⟨by omega, by omega⟩⟩ (fun c21 => ?_) (fun c21 => ?_)
                · show gv_X _ _ (179, [(0, .inr (.inr (some 0))), (1, .inr (.inr (some a1))), (2, .inl v2_12), (3, .inl v3_4), (4, .inl v4_8), (5, .inl v5_8), (6, .inl v6_8), (7, .inl v7_8), (9, .inl v9_12), (10, .inl v10_12)], [], sh, gc_h sh I10 J11 A)
                  refine gv_pick [0, 1, 2, 3, 4, 5, 6, 7] rfl ?_
                  exact L179 (by omega)
                · show gv_X _ _ (117, [(0, .inr (.inr (some 0))), (1, .inr (.inr (some a1))), (2, .inl v2_12), (3, .inl v3_4), (4, .inl v4_8), (5, .inl v5_8), (6, .inl v6_8), (7, .inl v7_8), (9, .inl v9_12), (10, .inl v10_12)], [], sh, gc_h sh I10 J11 A)
                  refine gv_run 1 true hD (pc' := 118) (lv' := [(0, .inr (.inr (some 0))), (1, .inr (.inr (some a1))), (2, .inl v2_12), (3, .inl v3_4), (4, .inl v4_8), (5, .inl v5_8), (6, .inl v6_8), (7, .inl v7_8), (9, .inl v9_12), (10, .inl v10_12)]) (st' := [.inr (.inr (some a1))]) (h' := gc_h sh I10 J11 A) (C := (True ∧ True)) rfl ⟨trivial, trivial⟩ ?_
                  refine gv_get hD rfl rfl S_a1 ⟨by decide, B_a1⟩ (gc_hA S_a1 rfl A_a1_15) ?_
                  show gv_X _ _ (121, [(0, .inr (.inr (some 0))), (1, .inr (.inr (some a1))), (2, .inl v2_12), (3, .inl v3_4), (4, .inl v4_8), (5, .inl v5_8), (6, .inl v6_8), (7, .inl v7_8), (9, .inl v9_12), (10, .inl v10_12)], [.inr (.inr (some (a1 + 17)))], sh, gc_h sh I10 J11 A)
                  refine gv_get hD rfl rfl S_a1_17 ⟨by decide, B_a1_17⟩ (gc_hA S_a1_17 rfl A_a1_17_2) ?_
                  show gv_X _ _ (124, [(0, .inr (.inr (some 0))), (1, .inr (.inr (some a1))), (2, .inl v2_12), (3, .inl v3_4), (4, .inl v4_8), (5, .inl v5_8), (6, .inl v6_8), (7, .inl v7_8), (9, .inl v9_12), (10, .inl v10_12)], [.inr (.inr (some ((a1 + 17) + 2)))], sh, gc_h sh I10 J11 A)
                  refine gv_run 1 true hD (pc' := 126) (lv' := [(0, .inr (.inr (some 0))), (1, .inr (.inr (some a1))), (2, .inl v2_12), (3, .inl v3_4), (4, .inl v4_8), (5, .inl v5_8), (6, .inl v6_8), (7, .inl v7_8), (9, .inl v9_12), (10, .inl v10_12)]) (st' := [.inl v10_12, .inr (.inr (some ((a1 + 17) + 2)))]) (h' := gc_h sh I10 J11 A) (C := (True ∧ True)) rfl ⟨trivial, trivial⟩ ?_
                  have f22 := (show (-1) ≤ I10 ((a1 + 17) + 2) (Int.toNat v10_12) ∧ I10 ((a1 + 17) + 2) (Int.toNat v10_12) ≤ 24 from gc_in hI10 R_a1_17_2 rfl rfl)
                  refine gv_iald hD rfl S_a1_17_2 rfl ⟨by decide, B_a1_17_2⟩ ⟨by omega, by omega⟩ (gc_iI S_a1_17_2 rfl) ?_
                  show gv_X _ _ (127, [(0, .inr (.inr (some 0))), (1, .inr (.inr (some a1))), (2, .inl v2_12), (3, .inl v3_4), (4, .inl v4_8), (5, .inl v5_8), (6, .inl v6_8), (7, .inl v7_8), (9, .inl v9_12), (10, .inl v10_12)], [.inl (I10 ((a1 + 17) + 2) (Int.toNat v10_12))], sh, gc_h sh I10 J11 A)
                  refine gv_if_le (t := 173) hD rfl rfl ⟨by omega, by omega⟩ (fun c23 => ?_) (fun c23 => ?_)
                  · show gv_X _ _ (173, [(0, .inr (.inr (some 0))), (1, .inr (.inr (some a1))), (2, .inl v2_12), (3, .inl v3_4), (4, .inl v4_8), (5, .inl v5_8), (6, .inl v6_8), (7, .inl v7_8), (9, .inl v9_12), (10, .inl v10_12)], [], sh, gc_h sh I10 J11 A)
                    exact L173 I10 J11 v2_12 hI10 FI10 FJ11 (by omega)
                  · show gv_X _ _ (130, [(0, .inr (.inr (some 0))), (1, .inr (.inr (some a1))), (2, .inl v2_12), (3, .inl v3_4), (4, .inl v4_8), (5, .inl v5_8), (6, .inl v6_8), (7, .inl v7_8), (9, .inl v9_12), (10, .inl v10_12)], [], sh, gc_h sh I10 J11 A)
                    refine gv_run 1 true hD (pc' := 131) (lv' := [(0, .inr (.inr (some 0))), (1, .inr (.inr (some a1))), (2, .inl v2_12), (3, .inl v3_4), (4, .inl v4_8), (5, .inl v5_8), (6, .inl v6_8), (7, .inl v7_8), (9, .inl v9_12), (10, .inl v10_12)]) (st' := [.inr (.inr (some a1))]) (h' := gc_h sh I10 J11 A) (C := (True ∧ True)) rfl ⟨trivial, trivial⟩ ?_
                    refine gv_get hD rfl rfl S_a1 ⟨by decide, B_a1⟩ (gc_hA S_a1 rfl A_a1_15) ?_
                    show gv_X _ _ (134, [(0, .inr (.inr (some 0))), (1, .inr (.inr (some a1))), (2, .inl v2_12), (3, .inl v3_4), (4, .inl v4_8), (5, .inl v5_8), (6, .inl v6_8), (7, .inl v7_8), (9, .inl v9_12), (10, .inl v10_12)], [.inr (.inr (some (a1 + 17)))], sh, gc_h sh I10 J11 A)
                    refine gv_run 2 true hD (pc' := 137) (lv' := [(0, .inr (.inr (some 0))), (1, .inr (.inr (some a1))), (2, .inl v2_12), (3, .inl v3_4), (4, .inl v4_8), (5, .inl v5_8), (6, .inl v6_8), (7, .inl v7_8), (9, .inl v9_12), (10, .inl v10_12)]) (st' := [.inr (.inr (some 0)), .inl v10_12, .inr (.inr (some (a1 + 17)))]) (h' := gc_h sh I10 J11 A) (C := ((True ∧ True) ∧ True)) rfl ⟨⟨trivial, trivial⟩, trivial⟩ ?_
                    refine gv_get hD rfl rfl S_0 ⟨by decide, B_0⟩ (gc_hA S_0 rfl A_0_3) ?_
                    show gv_X _ _ (140, [(0, .inr (.inr (some 0))), (1, .inr (.inr (some a1))), (2, .inl v2_12), (3, .inl v3_4), (4, .inl v4_8), (5, .inl v5_8), (6, .inl v6_8), (7, .inl v7_8), (9, .inl v9_12), (10, .inl v10_12)], [.inr (.inr (some 31)), .inl v10_12, .inr (.inr (some (a1 + 17)))], sh, gc_h sh I10 J11 A)
                    refine gv_get hD rfl rfl S_31 ⟨by decide, B_31⟩ (gc_hA S_31 rfl A_31_0) ?_
                    show gv_X _ _ (143, [(0, .inr (.inr (some 0))), (1, .inr (.inr (some a1))), (2, .inl v2_12), (3, .inl v3_4), (4, .inl v4_8), (5, .inl v5_8), (6, .inl v6_8), (7, .inl v7_8), (9, .inl v9_12), (10, .inl v10_12)], [.inr (.inr (some 32)), .inl v10_12, .inr (.inr (some (a1 + 17)))], sh, gc_h sh I10 J11 A)
                    refine gv_run 2 true hD (pc' := 147) (lv' := [(0, .inr (.inr (some 0))), (1, .inr (.inr (some a1))), (2, .inl v2_12), (3, .inl v3_4), (4, .inl v4_8), (5, .inl v5_8), (6, .inl v6_8), (7, .inl v7_8), (9, .inl v9_12), (10, .inl v10_12)]) (st' := [.inl v5_8, .inl v4_8, .inr (.inr (some 32)), .inl v10_12, .inr (.inr (some (a1 + 17)))]) (h' := gc_h sh I10 J11 A) (C := ((True ∧ True) ∧ True)) rfl ⟨⟨trivial, trivial⟩, trivial⟩ ?_
                    have t24 := x0 (Int.toNat v3_4) (by omega)
                    obtain ⟨r25, h25, E25, P25⟩ := d_X2_isForm (ws0 := ws0) (tb := tb) hws htb sh ro I10 J11 A hI10 (a1 + 17) 1000 v10_12 32 v4_8 v5_8 h_a1_17 S_32 R_32 B_32 (by decide)  ⟨by omega, by omega⟩ ⟨by omega, by omega⟩ ⟨by omega, by omega⟩ (by omega) 
                    obtain ⟨rfl, ⟨z25, rfl, q25⟩⟩ := P25
                    refine gv_callV hD rfl (As := [.inl v10_12, .inr (.inr (some 32)), .inl v4_8, .inl v5_8]) (st := []) rfl B_a1_17 S_a1_17 rfl (gc_lV12 hws rfl) (Nat.le_of_ble_eq_true rfl) (gz_Ev_mono (d := 2) (by decide) E25) ?_
                    show gv_X _ _ (150, [(0, .inr (.inr (some 0))), (1, .inr (.inr (some a1))), (2, .inl v2_12), (3, .inl v3_4), (4, .inl v4_8), (5, .inl v5_8), (6, .inl v6_8), (7, .inl v7_8), (9, .inl v9_12), (10, .inl v10_12)], [.inl z25], sh, gc_h sh I10 J11 A)
                    refine gv_if_ne (t := 173) hD rfl rfl ⟨by omega, by omega⟩ (fun c26 => ?_) (fun c26 => ?_)
                    · show gv_X _ _ (173, [(0, .inr (.inr (some 0))), (1, .inr (.inr (some a1))), (2, .inl v2_12), (3, .inl v3_4), (4, .inl v4_8), (5, .inl v5_8), (6, .inl v6_8), (7, .inl v7_8), (9, .inl v9_12), (10, .inl v10_12)], [], sh, gc_h sh I10 J11 A)
                      exact L173 I10 J11 v2_12 hI10 FI10 FJ11 (by omega)
                    · show gv_X _ _ (153, [(0, .inr (.inr (some 0))), (1, .inr (.inr (some a1))), (2, .inl v2_12), (3, .inl v3_4), (4, .inl v4_8), (5, .inl v5_8), (6, .inl v6_8), (7, .inl v7_8), (9, .inl v9_12), (10, .inl v10_12)], [], sh, gc_h sh I10 J11 A)
                      refine gv_run 1 true hD (pc' := 154) (lv' := [(0, .inr (.inr (some 0))), (1, .inr (.inr (some a1))), (2, .inl v2_12), (3, .inl v3_4), (4, .inl v4_8), (5, .inl v5_8), (6, .inl v6_8), (7, .inl v7_8), (9, .inl v9_12), (10, .inl v10_12)]) (st' := [.inr (.inr (some 0))]) (h' := gc_h sh I10 J11 A) (C := (True ∧ True)) rfl ⟨trivial, trivial⟩ ?_
                      refine gv_get hD rfl rfl S_0 ⟨by decide, B_0⟩ (gc_hA S_0 rfl A_0_16) ?_
                      show gv_X _ _ (157, [(0, .inr (.inr (some 0))), (1, .inr (.inr (some a1))), (2, .inl v2_12), (3, .inl v3_4), (4, .inl v4_8), (5, .inl v5_8), (6, .inl v6_8), (7, .inl v7_8), (9, .inl v9_12), (10, .inl v10_12)], [.inr (.inr (some 143))], sh, gc_h sh I10 J11 A)
                      have f27 := gw_any (Int32.ofInt v3_4 <<< (Int32.ofInt 11 &&& 31))
                      have f28 := gw_any ((Int32.ofInt 65536 ||| Int32.ofInt (((Int32.ofInt v3_4 <<< (Int32.ofInt 11 &&& 31)).toInt))))
                      refine gv_run 7 true hD (pc' := 169) (lv' := [(2, .inl (v2_12 + 1)), (0, .inr (.inr (some 0))), (1, .inr (.inr (some a1))), (3, .inl v3_4), (4, .inl v4_8), (5, .inl v5_8), (6, .inl v6_8), (7, .inl v7_8), (9, .inl v9_12), (10, .inl v10_12)]) (st' := [.inl ((Int32.ofInt 65536 ||| Int32.ofInt (((Int32.ofInt v3_4 <<< (Int32.ofInt 11 &&& 31)).toInt))).toInt), .inl v2_12, .inr (.inr (some 143))]) (h' := gc_h sh I10 J11 A) (C := (((((((True ∧ True) ∧ True) ∧ True) ∧ True) ∧ True) ∧ True) ∧ True)) rfl ⟨⟨⟨⟨⟨⟨⟨trivial, trivial⟩, trivial⟩, trivial⟩, trivial⟩, trivial⟩, trivial⟩, trivial⟩ ?_
                      have f29 := gw_any ((Int32.ofInt (((Int32.ofInt 65536 ||| Int32.ofInt (((Int32.ofInt v3_4 <<< (Int32.ofInt 11 &&& 31)).toInt))).toInt)) ||| Int32.ofInt v10_12))
                      refine gv_run 2 true hD (pc' := 172) (lv' := [(2, .inl (v2_12 + 1)), (0, .inr (.inr (some 0))), (1, .inr (.inr (some a1))), (3, .inl v3_4), (4, .inl v4_8), (5, .inl v5_8), (6, .inl v6_8), (7, .inl v7_8), (9, .inl v9_12), (10, .inl v10_12)]) (st' := [.inl ((Int32.ofInt (((Int32.ofInt 65536 ||| Int32.ofInt (((Int32.ofInt v3_4 <<< (Int32.ofInt 11 &&& 31)).toInt))).toInt)) ||| Int32.ofInt v10_12).toInt), .inl v2_12, .inr (.inr (some 143))]) (h' := gc_h sh I10 J11 A) (C := ((True ∧ True) ∧ True)) rfl ⟨⟨trivial, trivial⟩, trivial⟩ ?_
                      refine gv_iast hD rfl S_143 ⟨by decide, B_143⟩ ⟨by omega, by omega⟩ ?_
                      refine gc_st hI10 S_143 rfl R_143 (lo := (-2147483648)) (hi := 2147483647) rfl rfl (by omega) (by omega) (fun I30 hI30 q31 p31 => ?_)
                      have FI30 := gc_frs (W := fun q j => q = 143 ∨ q = (a1 + 22)) FI10 (Or.inl rfl) p31
                      have t32 := p31 31 4 (fun h => absurd h.1 (by decide))
                      show gv_X _ _ (173, [(2, .inl (v2_12 + 1)), (0, .inr (.inr (some 0))), (1, .inr (.inr (some a1))), (3, .inl v3_4), (4, .inl v4_8), (5, .inl v5_8), (6, .inl v6_8), (7, .inl v7_8), (9, .inl v9_12), (10, .inl v10_12)], [], sh, gc_h sh I30 J11 A)
                      refine gv_pick [1, 2, 0, 3, 4, 5, 6, 7, 8, 9] rfl ?_
                      exact L173 I30 J11 (v2_12 + 1) hI30 FI30 FJ11 (by omega)
          refine gv_run 2 true hD (pc' := 64) (lv' := [(0, .inr (.inr (some 0))), (1, .inr (.inr (some a1))), (2, .inl v2_8), (3, .inl v3_4), (4, .inl v4_8), (5, .inl v5_8), (6, .inl v6_8), (7, .inl v7_8)]) (st' := [.inl v6_8, .inl v7_8]) (h' := gc_h sh I6 J7 A) (C := ((True ∧ True) ∧ True)) rfl ⟨⟨trivial, trivial⟩, trivial⟩ ?_
          refine gv_icmp_ge (t := 185) hD rfl rfl ⟨⟨by omega, by omega⟩, ⟨by omega, by omega⟩⟩ (fun c33 => ?_) (fun c33 => ?_)
          · show gv_X _ _ (185, [(0, .inr (.inr (some 0))), (1, .inr (.inr (some a1))), (2, .inl v2_8), (3, .inl v3_4), (4, .inl v4_8), (5, .inl v5_8), (6, .inl v6_8), (7, .inl v7_8)], [], sh, gc_h sh I6 J7 A)
            refine gv_run 2 true hD (pc' := 4) (lv' := [(3, .inl (v3_4 + 1)), (0, .inr (.inr (some 0))), (1, .inr (.inr (some a1))), (2, .inl v2_8), (4, .inl v4_8), (5, .inl v5_8), (6, .inl v6_8), (7, .inl v7_8)]) (st' := []) (h' := gc_h sh I6 J7 A) (C := ((True ∧ True) ∧ True)) rfl ⟨⟨trivial, trivial⟩, trivial⟩ ?_
            refine gv_pick [1, 2, 3, 0] rfl ?_
            exact ih4 I6 J7 v2_8 (v3_4 + 1) (by omega) hI6 FI6 FJ7 (by omega)
          · show gv_X _ _ (67, [(0, .inr (.inr (some 0))), (1, .inr (.inr (some a1))), (2, .inl v2_8), (3, .inl v3_4), (4, .inl v4_8), (5, .inl v5_8), (6, .inl v6_8), (7, .inl v7_8)], [], sh, gc_h sh I6 J7 A)
            refine gv_run 1 true hD (pc' := 68) (lv' := [(0, .inr (.inr (some 0))), (1, .inr (.inr (some a1))), (2, .inl v2_8), (3, .inl v3_4), (4, .inl v4_8), (5, .inl v5_8), (6, .inl v6_8), (7, .inl v7_8)]) (st' := [.inr (.inr (some a1))]) (h' := gc_h sh I6 J7 A) (C := (True ∧ True)) rfl ⟨trivial, trivial⟩ ?_
            refine gv_get hD rfl rfl S_a1 ⟨by decide, B_a1⟩ (gc_hA S_a1 rfl A_a1_15) ?_
            show gv_X _ _ (71, [(0, .inr (.inr (some 0))), (1, .inr (.inr (some a1))), (2, .inl v2_8), (3, .inl v3_4), (4, .inl v4_8), (5, .inl v5_8), (6, .inl v6_8), (7, .inl v7_8)], [.inr (.inr (some (a1 + 17)))], sh, gc_h sh I6 J7 A)
            refine gv_get hD rfl rfl S_a1_17 ⟨by decide, B_a1_17⟩ (gc_hA S_a1_17 rfl A_a1_17_5) ?_
            show gv_X _ _ (74, [(0, .inr (.inr (some 0))), (1, .inr (.inr (some a1))), (2, .inl v2_8), (3, .inl v3_4), (4, .inl v4_8), (5, .inl v5_8), (6, .inl v6_8), (7, .inl v7_8)], [.inr (.inr (some ((a1 + 17) + 5)))], sh, gc_h sh I6 J7 A)
            refine gv_run 1 true hD (pc' := 76) (lv' := [(0, .inr (.inr (some 0))), (1, .inr (.inr (some a1))), (2, .inl v2_8), (3, .inl v3_4), (4, .inl v4_8), (5, .inl v5_8), (6, .inl v6_8), (7, .inl v7_8)]) (st' := [.inl v7_8, .inr (.inr (some ((a1 + 17) + 5)))]) (h' := gc_h sh I6 J7 A) (C := (True ∧ True)) rfl ⟨trivial, trivial⟩ ?_
            have f34 := (show 0 ≤ I6 ((a1 + 17) + 5) (Int.toNat v7_8) ∧ I6 ((a1 + 17) + 5) (Int.toNat v7_8) ≤ 1535 from gc_in hI6 R_a1_17_5 rfl rfl)
            refine gv_iald hD rfl S_a1_17_5 rfl ⟨by decide, B_a1_17_5⟩ ⟨by omega, by omega⟩ (gc_iI S_a1_17_5 rfl) ?_
            show gv_X _ _ (77, [(0, .inr (.inr (some 0))), (1, .inr (.inr (some a1))), (2, .inl v2_8), (3, .inl v3_4), (4, .inl v4_8), (5, .inl v5_8), (6, .inl v6_8), (7, .inl v7_8)], [.inl (I6 ((a1 + 17) + 5) (Int.toNat v7_8))], sh, gc_h sh I6 J7 A)
            have f35 := gw_div (x := ((I6 ((a1 + 17) + 5) (Int.toNat v7_8)))) (y := 24) ⟨by omega, by omega⟩ ⟨by omega, by omega⟩
            refine gv_run 7 true hD (pc' := 88) (lv' := [(8, .inl ((Int32.ofInt ((I6 ((a1 + 17) + 5) (Int.toNat v7_8))) / Int32.ofInt 24).toInt)), (0, .inr (.inr (some 0))), (1, .inr (.inr (some a1))), (2, .inl v2_8), (3, .inl v3_4), (4, .inl v4_8), (5, .inl v5_8), (6, .inl v6_8), (7, .inl v7_8)]) (st' := [.inr (.inr (some a1)), .inl (((Int32.ofInt ((I6 ((a1 + 17) + 5) (Int.toNat v7_8))) / Int32.ofInt 24).toInt) * 24)]) (h' := gc_h sh I6 J7 A) (C := (((((((True ∧ True) ∧ (gz_R 24 ∧ ¬ 24 = 0)) ∧ True) ∧ True) ∧ True) ∧ True) ∧ True)) rfl ⟨⟨⟨⟨⟨⟨⟨trivial, trivial⟩, ⟨⟨by omega, by omega⟩, by omega⟩⟩, trivial⟩, trivial⟩, trivial⟩, trivial⟩, trivial⟩ ?_
            refine gv_run 1 true hD (pc' := 90) (lv' := [(8, .inl ((Int32.ofInt ((I6 ((a1 + 17) + 5) (Int.toNat v7_8))) / Int32.ofInt 24).toInt)), (0, .inr (.inr (some 0))), (1, .inr (.inr (some a1))), (2, .inl v2_8), (3, .inl v3_4), (4, .inl v4_8), (5, .inl v5_8), (6, .inl v6_8), (7, .inl v7_8)]) (st' := [.inl ((Int32.ofInt ((I6 ((a1 + 17) + 5) (Int.toNat v7_8))) / Int32.ofInt 24).toInt), .inr (.inr (some a1)), .inl (((Int32.ofInt ((I6 ((a1 + 17) + 5) (Int.toNat v7_8))) / Int32.ofInt 24).toInt) * 24)]) (h' := gc_h sh I6 J7 A) (C := (True ∧ True)) rfl ⟨trivial, trivial⟩ ?_
            obtain ⟨r36, h36, E36, P36⟩ := d_X11_cellsOf_w (ws0 := ws0) (tb := tb) hws htb sh ro I6 J7 A hI6 a1 (((Int32.ofInt ((I6 ((a1 + 17) + 5) (Int.toNat v7_8))) / Int32.ofInt 24).toInt)) h_a1   ⟨by omega, by omega⟩  
            obtain ⟨rfl, ⟨z36, rfl, q36⟩⟩ := P36
            refine gv_callV hD rfl (As := [.inl ((Int32.ofInt ((I6 ((a1 + 17) + 5) (Int.toNat v7_8))) / Int32.ofInt 24).toInt)]) (st := [.inl (((Int32.ofInt ((I6 ((a1 + 17) + 5) (Int.toNat v7_8))) / Int32.ofInt 24).toInt) * 24)]) rfl B_a1 S_a1 rfl (gc_lV12 hws rfl) (Nat.le_of_ble_eq_true rfl) (gz_Ev_mono (d := 2) (by decide) E36) ?_
            show gv_X _ _ (93, [(8, .inl ((Int32.ofInt ((I6 ((a1 + 17) + 5) (Int.toNat v7_8))) / Int32.ofInt 24).toInt)), (0, .inr (.inr (some 0))), (1, .inr (.inr (some a1))), (2, .inl v2_8), (3, .inl v3_4), (4, .inl v4_8), (5, .inl v5_8), (6, .inl v6_8), (7, .inl v7_8)], [.inl z36, .inl (((Int32.ofInt ((I6 ((a1 + 17) + 5) (Int.toNat v7_8))) / Int32.ofInt 24).toInt) * 24)], sh, gc_h sh I6 J7 A)
            refine gv_run 6 true hD (pc' := 103) (lv' := [(10, .inl (((Int32.ofInt ((I6 ((a1 + 17) + 5) (Int.toNat v7_8))) / Int32.ofInt 24).toInt) * 24)), (9, .inl ((((Int32.ofInt ((I6 ((a1 + 17) + 5) (Int.toNat v7_8))) / Int32.ofInt 24).toInt) * 24) + z36)), (8, .inl ((Int32.ofInt ((I6 ((a1 + 17) + 5) (Int.toNat v7_8))) / Int32.ofInt 24).toInt)), (0, .inr (.inr (some 0))), (1, .inr (.inr (some a1))), (2, .inl v2_8), (3, .inl v3_4), (4, .inl v4_8), (5, .inl v5_8), (6, .inl v6_8), (7, .inl v7_8)]) (st' := []) (h' := gc_h sh I6 J7 A) (C := ((((((True ∧ True) ∧ True) ∧ True) ∧ True) ∧ True) ∧ True)) rfl ⟨⟨⟨⟨⟨⟨trivial, trivial⟩, trivial⟩, trivial⟩, trivial⟩, trivial⟩, trivial⟩ ?_
            refine gv_pick [3, 4, 5, 6, 7, 8, 9, 10, 1, 0] rfl ?_
            exact L103 _ I6 J7 v2_8 (((((Int32.ofInt ((I6 ((a1 + 17) + 5) (Int.toNat v7_8))) / Int32.ofInt 24).toInt) * 24) + z36)) ((((Int32.ofInt ((I6 ((a1 + 17) + 5) (Int.toNat v7_8))) / Int32.ofInt 24).toInt) * 24)) (Nat.lt_succ_self _) hI6 FI6 FJ7 (by omega)
      have L193 : ∀ (n9 : Nat) (I37 : gr_I) (J38 : gr_J) (v2_39 : Int) (v3_39 : Int), (1001 - v2_39).toNat < n9 → gc_Inv ro I37 → (∀ q j : Nat, (q = 143 ∨ q = (a1 + 22)) ∨ I37 q j = I q j) → (∀ q j : Nat, (False) ∨ J38 q j = J q j) → ((0 ≤ v2_39 ∧ v2_39 ≤ 1000) ∧ (0 ≤ v3_39 ∧ v3_39 ≤ 24)) → gv_X (gc_E12 ws0 tb 2 (yX12_listChanges, cX12_listChanges, 11, (some .int)) kX12_listChanges) (gv_Q cX12_listChanges (some .int) sh (fun r h' => (∃ (I' : gr_I) (J' : gr_J), h' = gc_h sh I' J' A ∧ gc_Inv ro I' ∧ (∀ q j : Nat, (q = 143 ∨ q = (a1 + 22)) ∨ I' q j = I q j) ∧ (∀ q j : Nat, (False) ∨ J' q j = J q j) ∧ (∃ z : Int, r = some (.inl z) ∧ 0 ≤ z ∧ z ≤ 1000)))) (193, [(0, .inr (.inr (some 0))), (2, .inl v2_39), (3, .inl v3_39)], [], sh, gc_h sh I37 J38 A) := by
        intro n9
        induction n9 with
        | zero => intro I37 J38 v2_39 v3_39 hn; omega
        | succ n9 ih193 =>
          intro I37 J38 v2_39 v3_39 hn hI37 FI37 FJ38 m_39
          clear hv2_4 hv3_4 f5
          obtain ⟨hv2_39, hv3_39⟩ := m_39
          have f40 := (show 0 ≤ I37 31 4 ∧ I37 31 4 ≤ 24 from gc_in hI37 R_31 rfl rfl)
          have L236 : ((0 ≤ v2_39 ∧ v2_39 ≤ 1000)) → gv_X (gc_E12 ws0 tb 2 (yX12_listChanges, cX12_listChanges, 11, (some .int)) kX12_listChanges) (gv_Q cX12_listChanges (some .int) sh (fun r h' => (∃ (I' : gr_I) (J' : gr_J), h' = gc_h sh I' J' A ∧ gc_Inv ro I' ∧ (∀ q j : Nat, (q = 143 ∨ q = (a1 + 22)) ∨ I' q j = I q j) ∧ (∀ q j : Nat, (False) ∨ J' q j = J q j) ∧ (∃ z : Int, r = some (.inl z) ∧ 0 ≤ z ∧ z ≤ 1000)))) (236, [(0, .inr (.inr (some 0))), (2, .inl v2_39)], [], sh, gc_h sh I37 J38 A) := by
            intro m_41
            have hv2_39_41 := m_41
            have f42 := (show 0 ≤ I37 31 4 ∧ I37 31 4 ≤ 24 from gc_in hI37 R_31 rfl rfl)
            have L238 : ∀ (n9 : Nat) (I43 : gr_I) (J44 : gr_J) (v2_45 : Int) (v3_45 : Int), (1001 - v2_45).toNat < n9 → gc_Inv ro I43 → (∀ q j : Nat, (q = 143 ∨ q = (a1 + 22)) ∨ I43 q j = I q j) → (∀ q j : Nat, (False) ∨ J44 q j = J q j) → ((0 ≤ v2_45 ∧ v2_45 ≤ 1000) ∧ (0 ≤ v3_45 ∧ v3_45 ≤ 24)) → gv_X (gc_E12 ws0 tb 2 (yX12_listChanges, cX12_listChanges, 11, (some .int)) kX12_listChanges) (gv_Q cX12_listChanges (some .int) sh (fun r h' => (∃ (I' : gr_I) (J' : gr_J), h' = gc_h sh I' J' A ∧ gc_Inv ro I' ∧ (∀ q j : Nat, (q = 143 ∨ q = (a1 + 22)) ∨ I' q j = I q j) ∧ (∀ q j : Nat, (False) ∨ J' q j = J q j) ∧ (∃ z : Int, r = some (.inl z) ∧ 0 ≤ z ∧ z ≤ 1000)))) (238, [(0, .inr (.inr (some 0))), (2, .inl v2_45), (3, .inl v3_45)], [], sh, gc_h sh I43 J44 A) := by
              intro n9
              induction n9 with
              | zero => intro I43 J44 v2_45 v3_45 hn; omega
              | succ n9 ih238 =>
                intro I43 J44 v2_45 v3_45 hn hI43 FI43 FJ44 m_45
                clear hv2_39_41 f42 hv2_39 hv3_39 f40
                obtain ⟨hv2_45, hv3_45⟩ := m_45
                have f46 := (show 0 ≤ I43 31 4 ∧ I43 31 4 ≤ 24 from gc_in hI43 R_31 rfl rfl)
                have L290 : ((0 ≤ v2_45 ∧ v2_45 ≤ 1000)) → gv_X (gc_E12 ws0 tb 2 (yX12_listChanges, cX12_listChanges, 11, (some .int)) kX12_listChanges) (gv_Q cX12_listChanges (some .int) sh (fun r h' => (∃ (I' : gr_I) (J' : gr_J), h' = gc_h sh I' J' A ∧ gc_Inv ro I' ∧ (∀ q j : Nat, (q = 143 ∨ q = (a1 + 22)) ∨ I' q j = I q j) ∧ (∀ q j : Nat, (False) ∨ J' q j = J q j) ∧ (∃ z : Int, r = some (.inl z) ∧ 0 ≤ z ∧ z ≤ 1000)))) (290, [(2, .inl v2_45)], [], sh, gc_h sh I43 J44 A) := by
                  intro m_47
                  have hv2_45_47 := m_47
                  have f48 := (show 0 ≤ I43 31 4 ∧ I43 31 4 ≤ 24 from gc_in hI43 R_31 rfl rfl)
                  refine gv_run 1 true hD (pc' := 291) (lv' := [(2, .inl v2_45)]) (st' := [.inl v2_45]) (h' := gc_h sh I43 J44 A) (C := (True ∧ True)) rfl ⟨trivial, trivial⟩ ?_
                  exact gv_iret hD rfl ⟨I43, J44, rfl, hI43, FI43, FJ44, ⟨_, rfl, by omega⟩⟩
                refine gv_run 2 true hD (pc' := 240) (lv' := [(0, .inr (.inr (some 0))), (2, .inl v2_45), (3, .inl v3_45)]) (st' := [.inr (.inr (some 0)), .inl v3_45]) (h' := gc_h sh I43 J44 A) (C := ((True ∧ True) ∧ True)) rfl ⟨⟨trivial, trivial⟩, trivial⟩ ?_
                refine gv_get hD rfl rfl S_0 ⟨by decide, B_0⟩ (gc_hA S_0 rfl A_0_3) ?_
                show gv_X _ _ (243, [(0, .inr (.inr (some 0))), (2, .inl v2_45), (3, .inl v3_45)], [.inr (.inr (some 31)), .inl v3_45], sh, gc_h sh I43 J44 A)
                have f49 := (show 0 ≤ I43 31 4 ∧ I43 31 4 ≤ 24 from gc_in hI43 R_31 rfl rfl)
                refine gv_get hD rfl rfl S_31 ⟨by decide, B_31⟩ (gc_hI S_31 rfl) ?_
                show gv_X _ _ (246, [(0, .inr (.inr (some 0))), (2, .inl v2_45), (3, .inl v3_45)], [.inl (I43 31 4), .inl v3_45], sh, gc_h sh I43 J44 A)
                refine gv_icmp_ge (t := 290) hD rfl rfl ⟨⟨by omega, by omega⟩, ⟨by omega, by omega⟩⟩ (fun c50 => ?_) (fun c50 => ?_)
                · show gv_X _ _ (290, [(0, .inr (.inr (some 0))), (2, .inl v2_45), (3, .inl v3_45)], [], sh, gc_h sh I43 J44 A)
                  refine gv_pick [1] rfl ?_
                  exact L290 (by omega)
                · show gv_X _ _ (249, [(0, .inr (.inr (some 0))), (2, .inl v2_45), (3, .inl v3_45)], [], sh, gc_h sh I43 J44 A)
                  refine gv_run 1 true hD (pc' := 250) (lv' := [(0, .inr (.inr (some 0))), (2, .inl v2_45), (3, .inl v3_45)]) (st' := [.inr (.inr (some 0))]) (h' := gc_h sh I43 J44 A) (C := (True ∧ True)) rfl ⟨trivial, trivial⟩ ?_
                  refine gv_get hD rfl rfl S_0 ⟨by decide, B_0⟩ (gc_hA S_0 rfl A_0_3) ?_
                  show gv_X _ _ (253, [(0, .inr (.inr (some 0))), (2, .inl v2_45), (3, .inl v3_45)], [.inr (.inr (some 31))], sh, gc_h sh I43 J44 A)
                  have f51 := (show 0 ≤ I43 31 4 ∧ I43 31 4 ≤ 24 from gc_in hI43 R_31 rfl rfl)
                  refine gv_get hD rfl rfl S_31 ⟨by decide, B_31⟩ (gc_hI S_31 rfl) ?_
                  show gv_X _ _ (256, [(0, .inr (.inr (some 0))), (2, .inl v2_45), (3, .inl v3_45)], [.inl (I43 31 4)], sh, gc_h sh I43 J44 A)
                  refine gv_run 1 true hD (pc' := 257) (lv' := [(0, .inr (.inr (some 0))), (2, .inl v2_45), (3, .inl v3_45)]) (st' := [.inl 1, .inl (I43 31 4)]) (h' := gc_h sh I43 J44 A) (C := (True ∧ True)) rfl ⟨trivial, trivial⟩ ?_
                  refine gv_icmp_le (t := 290) hD rfl rfl ⟨⟨by omega, by omega⟩, ⟨by omega, by omega⟩⟩ (fun c52 => ?_) (fun c52 => ?_)
                  · show gv_X _ _ (290, [(0, .inr (.inr (some 0))), (2, .inl v2_45), (3, .inl v3_45)], [], sh, gc_h sh I43 J44 A)
                    refine gv_pick [1] rfl ?_
                    exact L290 (by omega)
                  · show gv_X _ _ (260, [(0, .inr (.inr (some 0))), (2, .inl v2_45), (3, .inl v3_45)], [], sh, gc_h sh I43 J44 A)
                    refine gv_run 2 true hD (pc' := 264) (lv' := [(0, .inr (.inr (some 0))), (2, .inl v2_45), (3, .inl v3_45)]) (st' := [.inl 1000, .inl v2_45]) (h' := gc_h sh I43 J44 A) (C := ((True ∧ True) ∧ True)) rfl ⟨⟨trivial, trivial⟩, trivial⟩ ?_
                    refine gv_icmp_ge (t := 290) hD rfl rfl ⟨⟨by omega, by omega⟩, ⟨by omega, by omega⟩⟩ (fun c53 => ?_) (fun c53 => ?_)
                    · show gv_X _ _ (290, [(0, .inr (.inr (some 0))), (2, .inl v2_45), (3, .inl v3_45)], [], sh, gc_h sh I43 J44 A)
                      refine gv_pick [1] rfl ?_
                      exact L290 (by omega)
                    · show gv_X _ _ (267, [(0, .inr (.inr (some 0))), (2, .inl v2_45), (3, .inl v3_45)], [], sh, gc_h sh I43 J44 A)
                      refine gv_run 1 true hD (pc' := 268) (lv' := [(0, .inr (.inr (some 0))), (2, .inl v2_45), (3, .inl v3_45)]) (st' := [.inr (.inr (some 0))]) (h' := gc_h sh I43 J44 A) (C := (True ∧ True)) rfl ⟨trivial, trivial⟩ ?_
                      refine gv_get hD rfl rfl S_0 ⟨by decide, B_0⟩ (gc_hA S_0 rfl A_0_16) ?_
                      show gv_X _ _ (271, [(0, .inr (.inr (some 0))), (2, .inl v2_45), (3, .inl v3_45)], [.inr (.inr (some 143))], sh, gc_h sh I43 J44 A)
                      have f54 := gw_any (Int32.ofInt v3_45 <<< (Int32.ofInt 11 &&& 31))
                      have f55 := gw_any ((Int32.ofInt 196608 ||| Int32.ofInt (((Int32.ofInt v3_45 <<< (Int32.ofInt 11 &&& 31)).toInt))))
                      refine gv_run 7 true hD (pc' := 283) (lv' := [(2, .inl (v2_45 + 1)), (0, .inr (.inr (some 0))), (3, .inl v3_45)]) (st' := [.inl ((Int32.ofInt 196608 ||| Int32.ofInt (((Int32.ofInt v3_45 <<< (Int32.ofInt 11 &&& 31)).toInt))).toInt), .inl v2_45, .inr (.inr (some 143))]) (h' := gc_h sh I43 J44 A) (C := (((((((True ∧ True) ∧ True) ∧ True) ∧ True) ∧ True) ∧ True) ∧ True)) rfl ⟨⟨⟨⟨⟨⟨⟨trivial, trivial⟩, trivial⟩, trivial⟩, trivial⟩, trivial⟩, trivial⟩, trivial⟩ ?_
                      refine gv_iast hD rfl S_143 ⟨by decide, B_143⟩ ⟨by omega, by omega⟩ ?_
                      refine gc_st hI43 S_143 rfl R_143 (lo := (-2147483648)) (hi := 2147483647) rfl rfl (by omega) (by omega) (fun I56 hI56 q57 p57 => ?_)
                      have FI56 := gc_frs (W := fun q j => q = 143 ∨ q = (a1 + 22)) FI43 (Or.inl rfl) p57
                      have t58 := p57 31 4 (fun h => absurd h.1 (by decide))
                      show gv_X _ _ (284, [(2, .inl (v2_45 + 1)), (0, .inr (.inr (some 0))), (3, .inl v3_45)], [], sh, gc_h sh I56 J44 A)
                      refine gv_run 2 true hD (pc' := 238) (lv' := [(3, .inl (v3_45 + 1)), (2, .inl (v2_45 + 1)), (0, .inr (.inr (some 0)))]) (st' := []) (h' := gc_h sh I56 J44 A) (C := ((True ∧ True) ∧ True)) rfl ⟨⟨trivial, trivial⟩, trivial⟩ ?_
                      refine gv_pick [2, 1, 0] rfl ?_
                      exact ih238 I56 J44 (v2_45 + 1) (v3_45 + 1) (by omega) hI56 FI56 FJ44 (by omega)
            refine gv_run 2 true hD (pc' := 238) (lv' := [(3, .inl 0), (0, .inr (.inr (some 0))), (2, .inl v2_39)]) (st' := []) (h' := gc_h sh I37 J38 A) (C := ((True ∧ True) ∧ True)) rfl ⟨⟨trivial, trivial⟩, trivial⟩ ?_
            refine gv_pick [1, 2, 0] rfl ?_
            exact L238 _ I37 J38 v2_39 0 (Nat.lt_succ_self _) hI37 FI37 FJ38 (by omega)
          refine gv_run 4 true hD (pc' := 197) (lv' := [(0, .inr (.inr (some 0))), (2, .inl v2_39), (3, .inl v3_39)]) (st' := [.inr (.inr (some 0)), .inl (v3_39 + 1)]) (h' := gc_h sh I37 J38 A) (C := ((((True ∧ True) ∧ True) ∧ True) ∧ True)) rfl ⟨⟨⟨⟨trivial, trivial⟩, trivial⟩, trivial⟩, trivial⟩ ?_
          refine gv_get hD rfl rfl S_0 ⟨by decide, B_0⟩ (gc_hA S_0 rfl A_0_3) ?_
          show gv_X _ _ (200, [(0, .inr (.inr (some 0))), (2, .inl v2_39), (3, .inl v3_39)], [.inr (.inr (some 31)), .inl (v3_39 + 1)], sh, gc_h sh I37 J38 A)
          have f59 := (show 0 ≤ I37 31 4 ∧ I37 31 4 ≤ 24 from gc_in hI37 R_31 rfl rfl)
          refine gv_get hD rfl rfl S_31 ⟨by decide, B_31⟩ (gc_hI S_31 rfl) ?_
          show gv_X _ _ (203, [(0, .inr (.inr (some 0))), (2, .inl v2_39), (3, .inl v3_39)], [.inl (I37 31 4), .inl (v3_39 + 1)], sh, gc_h sh I37 J38 A)
          refine gv_icmp_ge (t := 236) hD rfl rfl ⟨⟨by omega, by omega⟩, ⟨by omega, by omega⟩⟩ (fun c60 => ?_) (fun c60 => ?_)
          · show gv_X _ _ (236, [(0, .inr (.inr (some 0))), (2, .inl v2_39), (3, .inl v3_39)], [], sh, gc_h sh I37 J38 A)
            refine gv_pick [0, 1] rfl ?_
            exact L236 (by omega)
          · show gv_X _ _ (206, [(0, .inr (.inr (some 0))), (2, .inl v2_39), (3, .inl v3_39)], [], sh, gc_h sh I37 J38 A)
            refine gv_run 2 true hD (pc' := 210) (lv' := [(0, .inr (.inr (some 0))), (2, .inl v2_39), (3, .inl v3_39)]) (st' := [.inl 1000, .inl v2_39]) (h' := gc_h sh I37 J38 A) (C := ((True ∧ True) ∧ True)) rfl ⟨⟨trivial, trivial⟩, trivial⟩ ?_
            refine gv_icmp_ge (t := 236) hD rfl rfl ⟨⟨by omega, by omega⟩, ⟨by omega, by omega⟩⟩ (fun c61 => ?_) (fun c61 => ?_)
            · show gv_X _ _ (236, [(0, .inr (.inr (some 0))), (2, .inl v2_39), (3, .inl v3_39)], [], sh, gc_h sh I37 J38 A)
              refine gv_pick [0, 1] rfl ?_
              exact L236 (by omega)
            · show gv_X _ _ (213, [(0, .inr (.inr (some 0))), (2, .inl v2_39), (3, .inl v3_39)], [], sh, gc_h sh I37 J38 A)
              refine gv_run 1 true hD (pc' := 214) (lv' := [(0, .inr (.inr (some 0))), (2, .inl v2_39), (3, .inl v3_39)]) (st' := [.inr (.inr (some 0))]) (h' := gc_h sh I37 J38 A) (C := (True ∧ True)) rfl ⟨trivial, trivial⟩ ?_
              refine gv_get hD rfl rfl S_0 ⟨by decide, B_0⟩ (gc_hA S_0 rfl A_0_16) ?_
              show gv_X _ _ (217, [(0, .inr (.inr (some 0))), (2, .inl v2_39), (3, .inl v3_39)], [.inr (.inr (some 143))], sh, gc_h sh I37 J38 A)
              have f62 := gw_any (Int32.ofInt v3_39 <<< (Int32.ofInt 11 &&& 31))
              have f63 := gw_any ((Int32.ofInt 131072 ||| Int32.ofInt (((Int32.ofInt v3_39 <<< (Int32.ofInt 11 &&& 31)).toInt))))
              refine gv_run 7 true hD (pc' := 229) (lv' := [(2, .inl (v2_39 + 1)), (0, .inr (.inr (some 0))), (3, .inl v3_39)]) (st' := [.inl ((Int32.ofInt 131072 ||| Int32.ofInt (((Int32.ofInt v3_39 <<< (Int32.ofInt 11 &&& 31)).toInt))).toInt), .inl v2_39, .inr (.inr (some 143))]) (h' := gc_h sh I37 J38 A) (C := (((((((True ∧ True) ∧ True) ∧ True) ∧ True) ∧ True) ∧ True) ∧ True)) rfl ⟨⟨⟨⟨⟨⟨⟨trivial, trivial⟩, trivial⟩, trivial⟩, trivial⟩, trivial⟩, trivial⟩, trivial⟩ ?_
              refine gv_iast hD rfl S_143 ⟨by decide, B_143⟩ ⟨by omega, by omega⟩ ?_
              refine gc_st hI37 S_143 rfl R_143 (lo := (-2147483648)) (hi := 2147483647) rfl rfl (by omega) (by omega) (fun I64 hI64 q65 p65 => ?_)
              have FI64 := gc_frs (W := fun q j => q = 143 ∨ q = (a1 + 22)) FI37 (Or.inl rfl) p65
              have t66 := p65 31 4 (fun h => absurd h.1 (by decide))
              show gv_X _ _ (230, [(2, .inl (v2_39 + 1)), (0, .inr (.inr (some 0))), (3, .inl v3_39)], [], sh, gc_h sh I64 J38 A)
              refine gv_run 2 true hD (pc' := 193) (lv' := [(3, .inl (v3_39 + 1)), (2, .inl (v2_39 + 1)), (0, .inr (.inr (some 0)))]) (st' := []) (h' := gc_h sh I64 J38 A) (C := ((True ∧ True) ∧ True)) rfl ⟨⟨trivial, trivial⟩, trivial⟩ ?_
              refine gv_pick [2, 1, 0] rfl ?_
              exact ih193 I64 J38 (v2_39 + 1) (v3_39 + 1) (by omega) hI64 FI64 FJ38 (by omega)
      refine gv_run 2 true hD (pc' := 6) (lv' := [(0, .inr (.inr (some 0))), (1, .inr (.inr (some a1))), (2, .inl v2_4), (3, .inl v3_4)]) (st' := [.inr (.inr (some 0)), .inl v3_4]) (h' := gc_h sh I2 J3 A) (C := ((True ∧ True) ∧ True)) rfl ⟨⟨trivial, trivial⟩, trivial⟩ ?_
      refine gv_get hD rfl rfl S_0 ⟨by decide, B_0⟩ (gc_hA S_0 rfl A_0_3) ?_
      show gv_X _ _ (9, [(0, .inr (.inr (some 0))), (1, .inr (.inr (some a1))), (2, .inl v2_4), (3, .inl v3_4)], [.inr (.inr (some 31)), .inl v3_4], sh, gc_h sh I2 J3 A)
      have f67 := (show 0 ≤ I2 31 4 ∧ I2 31 4 ≤ 24 from gc_in hI2 R_31 rfl rfl)
      refine gv_get hD rfl rfl S_31 ⟨by decide, B_31⟩ (gc_hI S_31 rfl) ?_
      show gv_X _ _ (12, [(0, .inr (.inr (some 0))), (1, .inr (.inr (some a1))), (2, .inl v2_4), (3, .inl v3_4)], [.inl (I2 31 4), .inl v3_4], sh, gc_h sh I2 J3 A)
      refine gv_icmp_ge (t := 191) hD rfl rfl ⟨⟨by omega, by omega⟩, ⟨by omega, by omega⟩⟩ (fun c68 => ?_) (fun c68 => ?_)
      · show gv_X _ _ (191, [(0, .inr (.inr (some 0))), (1, .inr (.inr (some a1))), (2, .inl v2_4), (3, .inl v3_4)], [], sh, gc_h sh I2 J3 A)
        refine gv_run 2 true hD (pc' := 193) (lv' := [(3, .inl 0), (0, .inr (.inr (some 0))), (1, .inr (.inr (some a1))), (2, .inl v2_4)]) (st' := []) (h' := gc_h sh I2 J3 A) (C := ((True ∧ True) ∧ True)) rfl ⟨⟨trivial, trivial⟩, trivial⟩ ?_
        refine gv_pick [1, 3, 0] rfl ?_
        exact L193 _ I2 J3 v2_4 0 (Nat.lt_succ_self _) hI2 FI2 FJ3 (by omega)
      · show gv_X _ _ (15, [(0, .inr (.inr (some 0))), (1, .inr (.inr (some a1))), (2, .inl v2_4), (3, .inl v3_4)], [], sh, gc_h sh I2 J3 A)
        refine gv_run 1 true hD (pc' := 16) (lv' := [(0, .inr (.inr (some 0))), (1, .inr (.inr (some a1))), (2, .inl v2_4), (3, .inl v3_4)]) (st' := [.inr (.inr (some 0))]) (h' := gc_h sh I2 J3 A) (C := (True ∧ True)) rfl ⟨trivial, trivial⟩ ?_
        refine gv_get hD rfl rfl S_0 ⟨by decide, B_0⟩ (gc_hA S_0 rfl A_0_3) ?_
        show gv_X _ _ (19, [(0, .inr (.inr (some 0))), (1, .inr (.inr (some a1))), (2, .inl v2_4), (3, .inl v3_4)], [.inr (.inr (some 31))], sh, gc_h sh I2 J3 A)
        refine gv_get hD rfl rfl S_31 ⟨by decide, B_31⟩ (gc_hA S_31 rfl A_31_2) ?_
        show gv_X _ _ (22, [(0, .inr (.inr (some 0))), (1, .inr (.inr (some a1))), (2, .inl v2_4), (3, .inl v3_4)], [.inr (.inr (some 33))], sh, gc_h sh I2 J3 A)
        refine gv_run 1 true hD (pc' := 23) (lv' := [(0, .inr (.inr (some 0))), (1, .inr (.inr (some a1))), (2, .inl v2_4), (3, .inl v3_4)]) (st' := [.inl v3_4, .inr (.inr (some 33))]) (h' := gc_h sh I2 J3 A) (C := (True ∧ True)) rfl ⟨trivial, trivial⟩ ?_
        have f69 := (show 0 ≤ I2 33 (Int.toNat v3_4) ∧ I2 33 (Int.toNat v3_4) ≤ 1000 from gc_in hI2 R_33 rfl rfl)
        refine gv_iald hD rfl S_33 rfl ⟨by decide, B_33⟩ ⟨by omega, by omega⟩ (gc_iI S_33 rfl) ?_
        show gv_X _ _ (24, [(0, .inr (.inr (some 0))), (1, .inr (.inr (some a1))), (2, .inl v2_4), (3, .inl v3_4)], [.inl (I2 33 (Int.toNat v3_4))], sh, gc_h sh I2 J3 A)
        refine gv_run 2 true hD (pc' := 27) (lv' := [(4, .inl (I2 33 (Int.toNat v3_4))), (0, .inr (.inr (some 0))), (1, .inr (.inr (some a1))), (2, .inl v2_4), (3, .inl v3_4)]) (st' := [.inr (.inr (some 0))]) (h' := gc_h sh I2 J3 A) (C := ((True ∧ True) ∧ True)) rfl ⟨⟨trivial, trivial⟩, trivial⟩ ?_
        refine gv_get hD rfl rfl S_0 ⟨by decide, B_0⟩ (gc_hA S_0 rfl A_0_3) ?_
        show gv_X _ _ (30, [(4, .inl (I2 33 (Int.toNat v3_4))), (0, .inr (.inr (some 0))), (1, .inr (.inr (some a1))), (2, .inl v2_4), (3, .inl v3_4)], [.inr (.inr (some 31))], sh, gc_h sh I2 J3 A)
        refine gv_get hD rfl rfl S_31 ⟨by decide, B_31⟩ (gc_hA S_31 rfl A_31_3) ?_
        show gv_X _ _ (33, [(4, .inl (I2 33 (Int.toNat v3_4))), (0, .inr (.inr (some 0))), (1, .inr (.inr (some a1))), (2, .inl v2_4), (3, .inl v3_4)], [.inr (.inr (some 34))], sh, gc_h sh I2 J3 A)
        refine gv_run 1 true hD (pc' := 34) (lv' := [(4, .inl (I2 33 (Int.toNat v3_4))), (0, .inr (.inr (some 0))), (1, .inr (.inr (some a1))), (2, .inl v2_4), (3, .inl v3_4)]) (st' := [.inl v3_4, .inr (.inr (some 34))]) (h' := gc_h sh I2 J3 A) (C := (True ∧ True)) rfl ⟨trivial, trivial⟩ ?_
        have f70 := (show 0 ≤ I2 34 (Int.toNat v3_4) ∧ I2 34 (Int.toNat v3_4) ≤ 24 from gc_in hI2 R_34 rfl rfl)
        refine gv_iald hD rfl S_34 rfl ⟨by decide, B_34⟩ ⟨by omega, by omega⟩ (gc_iI S_34 rfl) ?_
        show gv_X _ _ (35, [(4, .inl (I2 33 (Int.toNat v3_4))), (0, .inr (.inr (some 0))), (1, .inr (.inr (some a1))), (2, .inl v2_4), (3, .inl v3_4)], [.inl (I2 34 (Int.toNat v3_4))], sh, gc_h sh I2 J3 A)
        refine gv_run 2 true hD (pc' := 38) (lv' := [(5, .inl (I2 34 (Int.toNat v3_4))), (4, .inl (I2 33 (Int.toNat v3_4))), (0, .inr (.inr (some 0))), (1, .inr (.inr (some a1))), (2, .inl v2_4), (3, .inl v3_4)]) (st' := [.inr (.inr (some a1))]) (h' := gc_h sh I2 J3 A) (C := ((True ∧ True) ∧ True)) rfl ⟨⟨trivial, trivial⟩, trivial⟩ ?_
        refine gv_get hD rfl rfl S_a1 ⟨by decide, B_a1⟩ (gc_hA S_a1 rfl A_a1_15) ?_
        show gv_X _ _ (41, [(5, .inl (I2 34 (Int.toNat v3_4))), (4, .inl (I2 33 (Int.toNat v3_4))), (0, .inr (.inr (some 0))), (1, .inr (.inr (some a1))), (2, .inl v2_4), (3, .inl v3_4)], [.inr (.inr (some (a1 + 17)))], sh, gc_h sh I2 J3 A)
        refine gv_run 1 true hD (pc' := 42) (lv' := [(5, .inl (I2 34 (Int.toNat v3_4))), (4, .inl (I2 33 (Int.toNat v3_4))), (0, .inr (.inr (some 0))), (1, .inr (.inr (some a1))), (2, .inl v2_4), (3, .inl v3_4)]) (st' := [.inr (.inr (some 0)), .inr (.inr (some (a1 + 17)))]) (h' := gc_h sh I2 J3 A) (C := (True ∧ True)) rfl ⟨trivial, trivial⟩ ?_
        refine gv_get hD rfl rfl S_0 ⟨by decide, B_0⟩ (gc_hA S_0 rfl A_0_3) ?_
        show gv_X _ _ (45, [(5, .inl (I2 34 (Int.toNat v3_4))), (4, .inl (I2 33 (Int.toNat v3_4))), (0, .inr (.inr (some 0))), (1, .inr (.inr (some a1))), (2, .inl v2_4), (3, .inl v3_4)], [.inr (.inr (some 31)), .inr (.inr (some (a1 + 17)))], sh, gc_h sh I2 J3 A)
        refine gv_get hD rfl rfl S_31 ⟨by decide, B_31⟩ (gc_hA S_31 rfl A_31_0) ?_
        show gv_X _ _ (48, [(5, .inl (I2 34 (Int.toNat v3_4))), (4, .inl (I2 33 (Int.toNat v3_4))), (0, .inr (.inr (some 0))), (1, .inr (.inr (some a1))), (2, .inl v2_4), (3, .inl v3_4)], [.inr (.inr (some 32)), .inr (.inr (some (a1 + 17)))], sh, gc_h sh I2 J3 A)
        refine gv_run 2 true hD (pc' := 52) (lv' := [(5, .inl (I2 34 (Int.toNat v3_4))), (4, .inl (I2 33 (Int.toNat v3_4))), (0, .inr (.inr (some 0))), (1, .inr (.inr (some a1))), (2, .inl v2_4), (3, .inl v3_4)]) (st' := [.inl (I2 34 (Int.toNat v3_4)), .inl (I2 33 (Int.toNat v3_4)), .inr (.inr (some 32)), .inr (.inr (some (a1 + 17)))]) (h' := gc_h sh I2 J3 A) (C := ((True ∧ True) ∧ True)) rfl ⟨⟨trivial, trivial⟩, trivial⟩ ?_
        have t71 := x0 (Int.toNat v3_4) (by omega)
        obtain ⟨r72, h72, E72, P72⟩ := d_X2_findSame (ws0 := ws0) (tb := tb) hws htb sh ro I2 J3 A hI2 (a1 + 17) 1000 32 ((I2 33 (Int.toNat v3_4))) ((I2 34 (Int.toNat v3_4))) h_a1_17 S_32 R_32 B_32 (by decide)  ⟨by omega, by omega⟩ ⟨by omega, by omega⟩ (by omega) 
        obtain ⟨I73, J74, rfl, hI73, g72, k72, ⟨z72, rfl, q72⟩⟩ := P72
        have FI73 := gc_frc (W := fun q j => q = 143 ∨ q = (a1 + 22)) (V := fun q j => q = (a1 + 22)) FI2 (fun q j h => (Or.inr h)) g72
        have t75 := (g72 31 4).resolve_left (fun h => absurd h N_31__a1_22)
        obtain rfl : J3 = J74 := funext fun q => funext fun j => ((k72 q j).resolve_left id).symm
        refine gv_callV hD rfl (As := [.inr (.inr (some 32)), .inl (I2 33 (Int.toNat v3_4)), .inl (I2 34 (Int.toNat v3_4))]) (st := []) rfl B_a1_17 S_a1_17 rfl (gc_lV12 hws rfl) (Nat.le_of_ble_eq_true rfl) (gz_Ev_mono (d := 2) (by decide) E72) ?_
        show gv_X _ _ (55, [(5, .inl (I2 34 (Int.toNat v3_4))), (4, .inl (I2 33 (Int.toNat v3_4))), (0, .inr (.inr (some 0))), (1, .inr (.inr (some a1))), (2, .inl v2_4), (3, .inl v3_4)], [.inl z72], sh, gc_h sh I73 J3 A)
        refine gv_run 3 true hD (pc' := 60) (lv' := [(7, .inl 0), (6, .inl z72), (5, .inl (I2 34 (Int.toNat v3_4))), (4, .inl (I2 33 (Int.toNat v3_4))), (0, .inr (.inr (some 0))), (1, .inr (.inr (some a1))), (2, .inl v2_4), (3, .inl v3_4)]) (st' := []) (h' := gc_h sh I73 J3 A) (C := (((True ∧ True) ∧ True) ∧ True)) rfl ⟨⟨⟨trivial, trivial⟩, trivial⟩, trivial⟩ ?_
        refine gv_pick [4, 5, 6, 7, 3, 2, 1, 0] rfl ?_
        exact L60 _ I73 J3 v2_4 ((I2 33 (Int.toNat v3_4))) ((I2 34 (Int.toNat v3_4))) z72 0 (Nat.lt_succ_self _) hI73 FI73 FJ3 (by omega)
  refine gv_run 4 true hD (pc' := 4) (lv' := [(3, .inl 0), (2, .inl 0), (0, .inr (.inr (some 0))), (1, .inr (.inr (some a1)))]) (st' := []) (h' := gc_h sh I J A) (C := ((((True ∧ True) ∧ True) ∧ True) ∧ True)) rfl ⟨⟨⟨⟨trivial, trivial⟩, trivial⟩, trivial⟩, trivial⟩ ?_
  refine gv_pick [2, 3, 1, 0] rfl ?_
  exact L4 _ I J 0 0 (Nat.lt_succ_self _) hI FI FJ (by omega)
