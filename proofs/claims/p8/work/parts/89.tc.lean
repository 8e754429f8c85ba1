def gc_SN (sh : gz_Sh) (ro : Nat → Nat) (A : gc_A) (I : gr_I) : Prop := ∀ i : Nat, (i : Int) < I 100 9 → ∃ q n, A 104 i = some q ∧ sh[q]? = some (true, 0, n) ∧ ro q = 1 ∧ q < 1000000 ∧ n ≤ 1000 ∧ 144 ≤ q
set_option maxHeartbeats 8000000 in
set_option maxRecDepth 100000 in
theorem d_X1_search {ws0 : List Cond} {tb : String → gz_T} (hws : gc_Ws ws0) (htb : gc_tbs tb) (sh : gz_Sh) (ro : Nat → Nat) (I : gr_I) (J : gr_J) (A : gc_A) (hI : gc_Inv ro I) (a1 : Int) (a2 : Nat) (a3 : Nat) (hb : gc_Base sh ro A) (h_a2 : gc_isTongue sh ro A a2) (G_a2 : 144 ≤ a2) (h_a3 : gc_isText sh ro A a3) (G_a3 : a3 + 3 < 39) (ha1 : 0 ≤ a1 ∧ a1 ≤ 7) (x0 : gc_SN sh ro A I) : ∃ r h', gz_Ev ws0 tb 5 (yX1_search, cX1_search, 5, (some .int)) [.inr (.inr (some 100)), .inl a1, .inr (.inr (some a2)), .inr (.inr (some a3))] sh (gc_h sh I J A) r sh h' 0 0 ∧ (∃ (I' : gr_I) (J' : gr_J), h' = gc_h sh I' J' A ∧ gc_Inv ro I' ∧ (∀ q j : Nat, ((q = 100 ∧ j = 14) ∨ (q = 100 ∧ j = 17) ∨ q = 113 ∨ (q = a3 ∧ j = 5) ∨ (q = a3 ∧ j = 6) ∨ (q = a3 ∧ j = 7) ∨ (q = a3 ∧ j = 8) ∨ (q = 106 ∧ j = 1) ∨ q = 107 ∨ (q = 106 ∧ j = 4) ∨ q = 108 ∨ q = 109 ∨ q = 110 ∨ q = 111 ∨ q = 112 ∨ q = (a2 + 22)) ∨ I' q j = I q j) ∧ (∀ q j : Nat, ((q = a3 ∧ j = 9)) ∨ J' q j = J q j) ∧ (∃ z : Int, r = some (.inl z) ∧ (-3) ≤ z ∧ z ≤ 2400)) := by
  have FI : ∀ q j : Nat, ((q = 100 ∧ j = 14) ∨ (q = 100 ∧ j = 17) ∨ q = 113 ∨ (q = a3 ∧ j = 5) ∨ (q = a3 ∧ j = 6) ∨ (q = a3 ∧ j = 7) ∨ (q = a3 ∧ j = 8) ∨ (q = 106 ∧ j = 1) ∨ q = 107 ∨ (q = 106 ∧ j = 4) ∨ q = 108 ∨ q = 109 ∨ q = 110 ∨ q = 111 ∨ q = 112 ∨ q = (a2 + 22)) ∨ I q j = I q j := fun _ _ => Or.inr rfl
  have FJ : ∀ q j : Nat, ((q = a3 ∧ j = 9)) ∨ J q j = J q j := fun _ _ => Or.inr rfl
  have A_100_10 : A 100 10 = some 104 := gc_bA hb rfl
  have A_100_11 : A 100 11 = some 105 := gc_bA hb rfl
  have A_100_12 : A 100 12 = some 106 := gc_bA hb rfl
  have B_100 : 100 < 1000000 := by decide
  have B_104 : 104 < 1000000 := by decide
  have B_105 : 105 < 1000000 := by decide
  have B_106 : 106 < 1000000 := by decide
  have R_100 : ro 100 = 75 := gc_bR hb (by decide) rfl
  have R_105 : ro 105 = 59 := gc_bR hb (by decide) rfl
  have R_106 : ro 106 = 3 := gc_bR hb (by decide) rfl
  have S_100 : sh[100]? = some (false, 1, 19) := gc_bS hb rfl
  have S_104 : sh[104]? = some (true, 6, 100) := gc_bS hb rfl
  have S_105 : sh[105]? = some (true, 1, 100) := gc_bS hb rfl
  have S_106 : sh[106]? = some (false, 9, 10) := gc_bS hb rfl
  obtain ⟨S_a2, R_a2, B_a2, A_a2_0, h_a2_1, A_a2_1, h_a2_3, A_a2_2, S_a2_5, R_a2_5, B_a2_5, A_a2_3, S_a2_6, R_a2_6, B_a2_6, A_a2_4, h_a2_7, A_a2_5, S_a2_9, R_a2_9, B_a2_9, A_a2_7, S_a2_10, R_a2_10, B_a2_10, A_a2_8, h_a2_11, A_a2_9, S_a2_13, R_a2_13, B_a2_13, A_a2_10, S_a2_14, R_a2_14, B_a2_14, A_a2_12, S_a2_15, R_a2_15, B_a2_15, A_a2_14, S_a2_16, R_a2_16, B_a2_16, A_a2_15, h_a2_17⟩ := id h_a2
  obtain ⟨S_a2_1, R_a2_1, B_a2_1, A_a2_1_0, S_a2_1_1, R_a2_1_1, B_a2_1_1, Q0_a2_1, Q1_a2_1, Q2_a2_1⟩ := id h_a2_1
  obtain ⟨S_a2_3, R_a2_3, B_a2_3, A_a2_3_0, S_a2_3_1, R_a2_3_1, B_a2_3_1, Q0_a2_3, Q1_a2_3, Q2_a2_3⟩ := id h_a2_3
  obtain ⟨S_a2_7, R_a2_7, B_a2_7, A_a2_7_0, S_a2_7_1, R_a2_7_1, B_a2_7_1, Q0_a2_7, Q1_a2_7, Q2_a2_7⟩ := id h_a2_7
  obtain ⟨S_a2_11, R_a2_11, B_a2_11, A_a2_11_0, S_a2_11_1, R_a2_11_1, B_a2_11_1, Q0_a2_11, Q1_a2_11, Q2_a2_11⟩ := id h_a2_11
  obtain ⟨S_a2_17, R_a2_17, B_a2_17, A_a2_17_0, S_20, R_20, B_20, A_a2_17_1, S_a2_17_1, R_a2_17_1, B_a2_17_1, A_a2_17_2, S_a2_17_2, R_a2_17_2, B_a2_17_2, A_a2_17_3, S_a2_17_3, R_a2_17_3, B_a2_17_3, A_a2_17_4, S_a2_17_4, R_a2_17_4, B_a2_17_4, A_a2_17_5, S_a2_17_5, R_a2_17_5, B_a2_17_5, S_a2_17_6, R_a2_17_6, B_a2_17_6, S_a2_17_7, R_a2_17_7, B_a2_17_7⟩ := id h_a2_17
  obtain ⟨S_a3, R_a3, B_a3, A_a3_0, S_a3_1, R_a3_1, B_a3_1, A_a3_2, S_a3_2, R_a3_2, B_a3_2, A_a3_3, S_a3_3, R_a3_3, B_a3_3⟩ := id h_a3
  have hD : gv_D (gc_E1 ws0 tb 4 (yX1_search, cX1_search, 5, (some .int)) kX1_search) := gq_of oX1_search
  refine gc_ev1 (d := 4) (l := kX1_search) (Po := fun r h' => (∃ (I' : gr_I) (J' : gr_J), h' = gc_h sh I' J' A ∧ gc_Inv ro I' ∧ (∀ q j : Nat, ((q = 100 ∧ j = 14) ∨ (q = 100 ∧ j = 17) ∨ q = 113 ∨ (q = a3 ∧ j = 5) ∨ (q = a3 ∧ j = 6) ∨ (q = a3 ∧ j = 7) ∨ (q = a3 ∧ j = 8) ∨ (q = 106 ∧ j = 1) ∨ q = 107 ∨ (q = 106 ∧ j = 4) ∨ q = 108 ∨ q = 109 ∨ q = 110 ∨ q = 111 ∨ q = 112 ∨ q = (a2 + 22)) ∨ I' q j = I q j) ∧ (∀ q j : Nat, ((q = a3 ∧ j = 9)) ∨ J' q j = J q j) ∧ (∃ z : Int, r = some (.inl z) ∧ (-3) ≤ z ∧ z ≤ 2400))) htb rfl (Nat.le_of_ble_eq_true rfl) ?_
  have N_100__a2_22 : ¬ (100 = (a2 + 22)) := by exact gz_m 0 (by omega)
  have f1 := (show 0 ≤ I 100 17 ∧ I 100 17 ≤ 8 from gc_in hI R_100 rfl rfl)
  have f2 := (show 0 ≤ I 100 9 ∧ I 100 9 ≤ 100 from gc_in hI R_100 rfl rfl)
  have f3 := (show 0 ≤ I 100 14 ∧ I 100 14 ≤ 2400 from gc_in hI R_100 rfl rfl)
  have L19 : ∀ (n9 : Nat) (I4 : gr_I) (J5 : gr_J) (v4_6 : Int), (101 - v4_6).toNat < n9 → gc_Inv ro I4 → (∀ q j : Nat, ((q = 100 ∧ j = 14) ∨ (q = 100 ∧ j = 17) ∨ q = 113 ∨ (q = a3 ∧ j = 5) ∨ (q = a3 ∧ j = 6) ∨ (q = a3 ∧ j = 7) ∨ (q = a3 ∧ j = 8) ∨ (q = 106 ∧ j = 1) ∨ q = 107 ∨ (q = 106 ∧ j = 4) ∨ q = 108 ∨ q = 109 ∨ q = 110 ∨ q = 111 ∨ q = 112 ∨ q = (a2 + 22)) ∨ I4 q j = I q j) → (∀ q j : Nat, ((q = a3 ∧ j = 9)) ∨ J5 q j = J q j) → ((0 ≤ a1 ∧ a1 ≤ 7) ∧ (0 ≤ v4_6 ∧ v4_6 ≤ 100) ∧ (1 ≤ I4 100 17) ∧ (I4 100 9 = I 100 9)) → (gc_QU I4) → gv_X (gc_E1 ws0 tb 4 (yX1_search, cX1_search, 5, (some .int)) kX1_search) (gv_Q cX1_search (some .int) sh (fun r h' => (∃ (I' : gr_I) (J' : gr_J), h' = gc_h sh I' J' A ∧ gc_Inv ro I' ∧ (∀ q j : Nat, ((q = 100 ∧ j = 14) ∨ (q = 100 ∧ j = 17) ∨ q = 113 ∨ (q = a3 ∧ j = 5) ∨ (q = a3 ∧ j = 6) ∨ (q = a3 ∧ j = 7) ∨ (q = a3 ∧ j = 8) ∨ (q = 106 ∧ j = 1) ∨ q = 107 ∨ (q = 106 ∧ j = 4) ∨ q = 108 ∨ q = 109 ∨ q = 110 ∨ q = 111 ∨ q = 112 ∨ q = (a2 + 22)) ∨ I' q j = I q j) ∧ (∀ q j : Nat, ((q = a3 ∧ j = 9)) ∨ J' q j = J q j) ∧ (∃ z : Int, r = some (.inl z) ∧ (-3) ≤ z ∧ z ≤ 2400)))) (19, [(0, .inr (.inr (some 100))), (1, .inl a1), (2, .inr (.inr (some a2))), (3, .inr (.inr (some a3))), (4, .inl v4_6)], [], sh, gc_h sh I4 J5 A) := by
    intro n9
    induction n9 with
    | zero => intro I4 J5 v4_6 hn; exact gz_m 1 (by omega)
    | succ n9 ih19 =>
      intro I4 J5 v4_6 hn hI4 FI4 FJ5 m_6 e0_6
      obtain ⟨ha1_6, hv4_6, e1_6, e2_6⟩ := m_6
      have f7 := (show 0 ≤ I4 100 17 ∧ I4 100 17 ≤ 8 from gc_in hI4 R_100 rfl rfl)
      have f8 := (show 0 ≤ I4 100 9 ∧ I4 100 9 ≤ 100 from gc_in hI4 R_100 rfl rfl)
      have f9 := (show 0 ≤ I4 100 14 ∧ I4 100 14 ≤ 2400 from gc_in hI4 R_100 rfl rfl)
      have L96 : ∀ (I10 : gr_I) (J11 : gr_J) , gc_Inv ro I10 → (∀ q j : Nat, ((q = 100 ∧ j = 14) ∨ (q = 100 ∧ j = 17) ∨ q = 113 ∨ (q = a3 ∧ j = 5) ∨ (q = a3 ∧ j = 6) ∨ (q = a3 ∧ j = 7) ∨ (q = a3 ∧ j = 8) ∨ (q = 106 ∧ j = 1) ∨ q = 107 ∨ (q = 106 ∧ j = 4) ∨ q = 108 ∨ q = 109 ∨ q = 110 ∨ q = 111 ∨ q = 112 ∨ q = (a2 + 22)) ∨ I10 q j = I q j) → (∀ q j : Nat, ((q = a3 ∧ j = 9)) ∨ J11 q j = J q j) → ((0 ≤ a1 ∧ a1 ≤ 7) ∧ (0 ≤ v4_6 ∧ v4_6 ≤ 99) ∧ (1 ≤ I10 100 17) ∧ (I10 100 9 = I 100 9) ∧ (v4_6 ≤ 99)) → (gc_QU I10) → gv_X (gc_E1 ws0 tb 4 (yX1_search, cX1_search, 5, (some .int)) kX1_search) (gv_Q cX1_search (some .int) sh (fun r h' => (∃ (I' : gr_I) (J' : gr_J), h' = gc_h sh I' J' A ∧ gc_Inv ro I' ∧ (∀ q j : Nat, ((q = 100 ∧ j = 14) ∨ (q = 100 ∧ j = 17) ∨ q = 113 ∨ (q = a3 ∧ j = 5) ∨ (q = a3 ∧ j = 6) ∨ (q = a3 ∧ j = 7) ∨ (q = a3 ∧ j = 8) ∨ (q = 106 ∧ j = 1) ∨ q = 107 ∨ (q = 106 ∧ j = 4) ∨ q = 108 ∨ q = 109 ∨ q = 110 ∨ q = 111 ∨ q = 112 ∨ q = (a2 + 22)) ∨ I' q j = I q j) ∧ (∀ q j : Nat, ((q = a3 ∧ j = 9)) ∨ J' q j = J q j) ∧ (∃ z : Int, r = some (.inl z) ∧ (-3) ≤ z ∧ z ≤ 2400)))) (96, [(0, .inr (.inr (some 100))), (1, .inl a1), (2, .inr (.inr (some a2))), (3, .inr (.inr (some a3))), (4, .inl v4_6)], [], sh, gc_h sh I10 J11 A) := by
        intro I10 J11 hI10 FI10 FJ11 m_12 e0_12
        clear ha1_6 hv4_6 e1_6 e2_6 f7 f8 f9
        obtain ⟨ha1_12, hv4_6_12, e1_12, e2_12, e3_12⟩ := m_12
        have f13 := (show 0 ≤ I10 100 17 ∧ I10 100 17 ≤ 8 from gc_in hI10 R_100 rfl rfl)
        have f14 := (show 0 ≤ I10 100 9 ∧ I10 100 9 ≤ 100 from gc_in hI10 R_100 rfl rfl)
        have f15 := (show 0 ≤ I10 100 14 ∧ I10 100 14 ≤ 2400 from gc_in hI10 R_100 rfl rfl)
        refine gv_run 2 true hD (pc' := 19) (lv' := [(4, .inl (v4_6 + 1)), (0, .inr (.inr (some 100))), (1, .inl a1), (2, .inr (.inr (some a2))), (3, .inr (.inr (some a3)))]) (st' := []) (h' := gc_h sh I10 J11 A) (C := ((True ∧ True) ∧ True)) rfl ⟨⟨trivial, trivial⟩, trivial⟩ ?_
        refine gv_pick [1, 2, 3, 4, 0] rfl ?_
        exact ih19 I10 J11 (v4_6 + 1) (by exact gz_m 2 (by omega)) hI10 FI10 FJ11 (by exact gz_m 3 (by omega)) e0_12
      refine gv_run 2 true hD (pc' := 22) (lv' := [(0, .inr (.inr (some 100))), (1, .inl a1), (2, .inr (.inr (some a2))), (3, .inr (.inr (some a3))), (4, .inl v4_6)]) (st' := [.inr (.inr (some 100)), .inl v4_6]) (h' := gc_h sh I4 J5 A) (C := ((True ∧ True) ∧ True)) rfl ⟨⟨trivial, trivial⟩, trivial⟩ ?_
      have f16 := (show 0 ≤ I4 100 9 ∧ I4 100 9 ≤ 100 from gc_in hI4 R_100 rfl rfl)
      refine gv_get hD rfl rfl S_100 ⟨by decide, B_100⟩ (gc_hI S_100 rfl) ?_
      show gv_X _ _ (25, [(0, .inr (.inr (some 100))), (1, .inl a1), (2, .inr (.inr (some a2))), (3, .inr (.inr (some a3))), (4, .inl v4_6)], [.inl (I4 100 9), .inl v4_6], sh, gc_h sh I4 J5 A)
      refine gv_icmp_ge (t := 102) hD rfl rfl ⟨⟨by exact gz_m 4 (by omega), by exact gz_m 5 (by omega)⟩, ⟨by exact gz_m 6 (by omega), by exact gz_m 7 (by omega)⟩⟩ (fun c17 => ?_) (fun c17 => ?_)
      · show gv_X _ _ (102, [(0, .inr (.inr (some 100))), (1, .inl a1), (2, .inr (.inr (some a2))), (3, .inr (.inr (some a3))), (4, .inl v4_6)], [], sh, gc_h sh I4 J5 A)
        refine gv_run 1 true hD (pc' := 103) (lv' := [(0, .inr (.inr (some 100))), (1, .inl a1), (2, .inr (.inr (some a2))), (3, .inr (.inr (some a3))), (4, .inl v4_6)]) (st' := [.inr (.inr (some 100))]) (h' := gc_h sh I4 J5 A) (C := (True ∧ True)) rfl ⟨trivial, trivial⟩ ?_
        have f18 := (show 0 ≤ I4 100 14 ∧ I4 100 14 ≤ 2400 from gc_in hI4 R_100 rfl rfl)
        refine gv_get hD rfl rfl S_100 ⟨by decide, B_100⟩ (gc_hI S_100 rfl) ?_
        show gv_X _ _ (106, [(0, .inr (.inr (some 100))), (1, .inl a1), (2, .inr (.inr (some a2))), (3, .inr (.inr (some a3))), (4, .inl v4_6)], [.inl (I4 100 14)], sh, gc_h sh I4 J5 A)
        exact gv_iret hD rfl ⟨I4, J5, rfl, hI4, FI4, FJ5, ⟨_, rfl, by exact gz_m 8 (by omega)⟩⟩
      · show gv_X _ _ (28, [(0, .inr (.inr (some 100))), (1, .inl a1), (2, .inr (.inr (some a2))), (3, .inr (.inr (some a3))), (4, .inl v4_6)], [], sh, gc_h sh I4 J5 A)
        refine gv_run 1 true hD (pc' := 29) (lv' := [(0, .inr (.inr (some 100))), (1, .inl a1), (2, .inr (.inr (some a2))), (3, .inr (.inr (some a3))), (4, .inl v4_6)]) (st' := [.inr (.inr (some 100))]) (h' := gc_h sh I4 J5 A) (C := (True ∧ True)) rfl ⟨trivial, trivial⟩ ?_
        refine gv_get hD rfl rfl S_100 ⟨by decide, B_100⟩ (gc_hA S_100 rfl A_100_11) ?_
        show gv_X _ _ (32, [(0, .inr (.inr (some 100))), (1, .inl a1), (2, .inr (.inr (some a2))), (3, .inr (.inr (some a3))), (4, .inl v4_6)], [.inr (.inr (some 105))], sh, gc_h sh I4 J5 A)
        refine gv_run 1 true hD (pc' := 34) (lv' := [(0, .inr (.inr (some 100))), (1, .inl a1), (2, .inr (.inr (some a2))), (3, .inr (.inr (some a3))), (4, .inl v4_6)]) (st' := [.inl v4_6, .inr (.inr (some 105))]) (h' := gc_h sh I4 J5 A) (C := (True ∧ True)) rfl ⟨trivial, trivial⟩ ?_
        have f19 := (show 0 ≤ I4 105 (Int.toNat v4_6) ∧ I4 105 (Int.toNat v4_6) ≤ 7 from gc_in hI4 R_105 rfl rfl)
        refine gv_iald hD rfl S_105 rfl ⟨by decide, B_105⟩ ⟨by exact gz_m 9 (by omega), by exact gz_m 10 (by omega)⟩ (gc_iI S_105 rfl) ?_
        show gv_X _ _ (35, [(0, .inr (.inr (some 100))), (1, .inl a1), (2, .inr (.inr (some a2))), (3, .inr (.inr (some a3))), (4, .inl v4_6)], [.inl (I4 105 (Int.toNat v4_6))], sh, gc_h sh I4 J5 A)
        refine gv_run 1 true hD (pc' := 36) (lv' := [(0, .inr (.inr (some 100))), (1, .inl a1), (2, .inr (.inr (some a2))), (3, .inr (.inr (some a3))), (4, .inl v4_6)]) (st' := [.inl a1, .inl (I4 105 (Int.toNat v4_6))]) (h' := gc_h sh I4 J5 A) (C := (True ∧ True)) rfl ⟨trivial, trivial⟩ ?_
        refine gv_icmp_ne (t := 96) hD rfl rfl ⟨⟨by exact gz_m 11 (by omega), by exact gz_m 12 (by omega)⟩, ⟨by exact gz_m 13 (by omega), by exact gz_m 14 (by omega)⟩⟩ (fun c20 => ?_) (fun c20 => ?_)
        · show gv_X _ _ (96, [(0, .inr (.inr (some 100))), (1, .inl a1), (2, .inr (.inr (some a2))), (3, .inr (.inr (some a3))), (4, .inl v4_6)], [], sh, gc_h sh I4 J5 A)
          exact L96 I4 J5 hI4 FI4 FJ5 (by exact gz_m 15 (by omega)) e0_6
        · show gv_X _ _ (39, [(0, .inr (.inr (some 100))), (1, .inl a1), (2, .inr (.inr (some a2))), (3, .inr (.inr (some a3))), (4, .inl v4_6)], [], sh, gc_h sh I4 J5 A)
          refine gv_run 1 true hD (pc' := 40) (lv' := [(0, .inr (.inr (some 100))), (1, .inl a1), (2, .inr (.inr (some a2))), (3, .inr (.inr (some a3))), (4, .inl v4_6)]) (st' := [.inr (.inr (some 100))]) (h' := gc_h sh I4 J5 A) (C := (True ∧ True)) rfl ⟨trivial, trivial⟩ ?_
          refine gv_get hD rfl rfl S_100 ⟨by decide, B_100⟩ (gc_hA S_100 rfl A_100_10) ?_
          show gv_X _ _ (43, [(0, .inr (.inr (some 100))), (1, .inl a1), (2, .inr (.inr (some a2))), (3, .inr (.inr (some a3))), (4, .inl v4_6)], [.inr (.inr (some 104))], sh, gc_h sh I4 J5 A)
          refine gv_run 1 true hD (pc' := 45) (lv' := [(0, .inr (.inr (some 100))), (1, .inl a1), (2, .inr (.inr (some a2))), (3, .inr (.inr (some a3))), (4, .inl v4_6)]) (st' := [.inl v4_6, .inr (.inr (some 104))]) (h' := gc_h sh I4 J5 A) (C := (True ∧ True)) rfl ⟨trivial, trivial⟩ ?_
          obtain ⟨t21_, n9t21, A_t21, S_t21, R_t21, B_t21, L_t21, G_t21⟩ := x0 (Int.toNat v4_6) (by exact gz_m 16 (by omega))
          refine gv_aald hD rfl S_104 ⟨by decide, by decide⟩ ⟨by decide, B_104⟩ ⟨by exact gz_m 17 (by omega), by exact gz_m 18 (by omega)⟩ ((gc_aA S_104 rfl).trans A_t21) ?_
          show gv_X _ _ (46, [(0, .inr (.inr (some 100))), (1, .inl a1), (2, .inr (.inr (some a2))), (3, .inr (.inr (some a3))), (4, .inl v4_6)], [.inr (.inr (some t21_))], sh, gc_h sh I4 J5 A)
          refine gv_run 2 true hD (pc' := 50) (lv' := [(0, .inr (.inr (some 100))), (1, .inl a1), (2, .inr (.inr (some a2))), (3, .inr (.inr (some a3))), (4, .inl v4_6)]) (st' := [.inr (.inr (some 100))]) (h' := gc_h sh I4 J5 A) (C := ((True ∧ True) ∧ True)) rfl ⟨⟨trivial, trivial⟩, trivial⟩ ?_
          refine gv_get hD rfl rfl S_100 ⟨by decide, B_100⟩ (gc_hA S_100 rfl A_100_12) ?_
          show gv_X _ _ (53, [(0, .inr (.inr (some 100))), (1, .inl a1), (2, .inr (.inr (some a2))), (3, .inr (.inr (some a3))), (4, .inl v4_6)], [.inr (.inr (some 106))], sh, gc_h sh I4 J5 A)
          refine gv_run 1 true hD (pc' := 54) (lv' := [(0, .inr (.inr (some 100))), (1, .inl a1), (2, .inr (.inr (some a2))), (3, .inr (.inr (some a3))), (4, .inl v4_6)]) (st' := [.inl 0, .inr (.inr (some 106))]) (h' := gc_h sh I4 J5 A) (C := (True ∧ True)) rfl ⟨trivial, trivial⟩ ?_
          refine gv_put hD rfl rfl S_106 ⟨by decide, B_106⟩ rfl trivial ?_
          refine gc_st (k := 1) hI4 S_106 rfl R_106 (lo := 0) (hi := 1000) rfl rfl (by exact gz_m 19 (by omega)) (by exact gz_m 20 (by omega)) (fun I22 hI22 q23 p23 => ?_)
          have FI22 := gc_frs (W := fun q j => (q = 100 ∧ j = 14) ∨ (q = 100 ∧ j = 17) ∨ q = 113 ∨ (q = a3 ∧ j = 5) ∨ (q = a3 ∧ j = 6) ∨ (q = a3 ∧ j = 7) ∨ (q = a3 ∧ j = 8) ∨ (q = 106 ∧ j = 1) ∨ q = 107 ∨ (q = 106 ∧ j = 4) ∨ q = 108 ∨ q = 109 ∨ q = 110 ∨ q = 111 ∨ q = 112 ∨ q = (a2 + 22)) FI4 (Or.inr (Or.inr (Or.inr (Or.inr (Or.inr (Or.inr (Or.inr (Or.inl ⟨rfl, rfl⟩)))))))) p23
          have t24 := p23 100 17 (fun h => absurd h.2 (by decide))
          have t25 := p23 100 9 (fun h => absurd h.2 (by decide))
          have t26 := p23 100 14 (fun h => absurd h.2 (by decide))
          show gv_X _ _ (57, [(0, .inr (.inr (some 100))), (1, .inl a1), (2, .inr (.inr (some a2))), (3, .inr (.inr (some a3))), (4, .inl v4_6)], [], sh, gc_h sh I22 J5 A)
          refine gv_run 1 true hD (pc' := 58) (lv' := [(0, .inr (.inr (some 100))), (1, .inl a1), (2, .inr (.inr (some a2))), (3, .inr (.inr (some a3))), (4, .inl v4_6)]) (st' := [.inr (.inr (some 100))]) (h' := gc_h sh I22 J5 A) (C := (True ∧ True)) rfl ⟨trivial, trivial⟩ ?_
          refine gv_get hD rfl rfl S_100 ⟨by decide, B_100⟩ (gc_hA S_100 rfl A_100_12) ?_
          show gv_X _ _ (61, [(0, .inr (.inr (some 100))), (1, .inl a1), (2, .inr (.inr (some a2))), (3, .inr (.inr (some a3))), (4, .inl v4_6)], [.inr (.inr (some 106))], sh, gc_h sh I22 J5 A)
          refine gv_run 1 true hD (pc' := 62) (lv' := [(0, .inr (.inr (some 100))), (1, .inl a1), (2, .inr (.inr (some a2))), (3, .inr (.inr (some a3))), (4, .inl v4_6)]) (st' := [.inr (.inr (some 100)), .inr (.inr (some 106))]) (h' := gc_h sh I22 J5 A) (C := (True ∧ True)) rfl ⟨trivial, trivial⟩ ?_
          refine gv_get hD rfl rfl S_100 ⟨by decide, B_100⟩ (gc_hA S_100 rfl A_100_10) ?_
          show gv_X _ _ (65, [(0, .inr (.inr (some 100))), (1, .inl a1), (2, .inr (.inr (some a2))), (3, .inr (.inr (some a3))), (4, .inl v4_6)], [.inr (.inr (some 104)), .inr (.inr (some 106))], sh, gc_h sh I22 J5 A)
          refine gv_run 1 true hD (pc' := 67) (lv' := [(0, .inr (.inr (some 100))), (1, .inl a1), (2, .inr (.inr (some a2))), (3, .inr (.inr (some a3))), (4, .inl v4_6)]) (st' := [.inl v4_6, .inr (.inr (some 104)), .inr (.inr (some 106))]) (h' := gc_h sh I22 J5 A) (C := (True ∧ True)) rfl ⟨trivial, trivial⟩ ?_
          obtain ⟨t27_, n9t27, A_t27, S_t27, R_t27, B_t27, L_t27, G_t27⟩ := x0 (Int.toNat v4_6) (by exact gz_m 21 (by omega))
          refine gv_aald hD rfl S_104 ⟨by decide, by decide⟩ ⟨by decide, B_104⟩ ⟨by exact gz_m 22 (by omega), by exact gz_m 23 (by omega)⟩ ((gc_aA S_104 rfl).trans A_t27) ?_
          show gv_X _ _ (68, [(0, .inr (.inr (some 100))), (1, .inl a1), (2, .inr (.inr (some a2))), (3, .inr (.inr (some a3))), (4, .inl v4_6)], [.inr (.inr (some t27_)), .inr (.inr (some 106))], sh, gc_h sh I22 J5 A)
          refine gv_run 2 true hD (pc' := 70) (lv' := [(0, .inr (.inr (some 100))), (1, .inl a1), (2, .inr (.inr (some a2))), (3, .inr (.inr (some a3))), (4, .inl v4_6)]) (st' := [.inr (.inr (some 100)), .inl 0, .inr (.inr (some t27_)), .inr (.inr (some 106))]) (h' := gc_h sh I22 J5 A) (C := ((True ∧ True) ∧ True)) rfl ⟨⟨trivial, trivial⟩, trivial⟩ ?_
          refine gv_get hD rfl rfl S_100 ⟨by decide, B_100⟩ (gc_hA S_100 rfl A_100_10) ?_
          show gv_X _ _ (73, [(0, .inr (.inr (some 100))), (1, .inl a1), (2, .inr (.inr (some a2))), (3, .inr (.inr (some a3))), (4, .inl v4_6)], [.inr (.inr (some 104)), .inl 0, .inr (.inr (some t27_)), .inr (.inr (some 106))], sh, gc_h sh I22 J5 A)
          refine gv_run 1 true hD (pc' := 75) (lv' := [(0, .inr (.inr (some 100))), (1, .inl a1), (2, .inr (.inr (some a2))), (3, .inr (.inr (some a3))), (4, .inl v4_6)]) (st' := [.inl v4_6, .inr (.inr (some 104)), .inl 0, .inr (.inr (some t27_)), .inr (.inr (some 106))]) (h' := gc_h sh I22 J5 A) (C := (True ∧ True)) rfl ⟨trivial, trivial⟩ ?_
          obtain ⟨t28_, n9t28, A_t28, S_t28, R_t28, B_t28, L_t28, G_t28⟩ := x0 (Int.toNat v4_6) (by exact gz_m 24 (by omega))
          refine gv_aald hD rfl S_104 ⟨by decide, by decide⟩ ⟨by decide, B_104⟩ ⟨by exact gz_m 25 (by omega), by exact gz_m 26 (by omega)⟩ ((gc_aA S_104 rfl).trans A_t28) ?_
          show gv_X _ _ (76, [(0, .inr (.inr (some 100))), (1, .inl a1), (2, .inr (.inr (some a2))), (3, .inr (.inr (some a3))), (4, .inl v4_6)], [.inr (.inr (some t28_)), .inl 0, .inr (.inr (some t27_)), .inr (.inr (some 106))], sh, gc_h sh I22 J5 A)
          refine gv_len hD rfl S_t28 ⟨by exact gz_m 27 (by omega), B_t28⟩ ?_
          show gv_X _ _ (77, [(0, .inr (.inr (some 100))), (1, .inl a1), (2, .inr (.inr (some a2))), (3, .inr (.inr (some a3))), (4, .inl v4_6)], [.inl ((n9t28 : Nat) : Int), .inl 0, .inr (.inr (some t27_)), .inr (.inr (some 106))], sh, gc_h sh I22 J5 A)
          obtain ⟨r29, h29, E29, P29⟩ := d_X9_putBytes (ws0 := ws0) (tb := tb) hws htb sh ro I22 J5 A hI22 106 n9t27 t27_ 0 (((n9t28 : Nat) : Int)) (gc_b106 hb) S_t27 R_t27 B_t27 (by exact gz_m 28 (by omega))  ⟨by exact gz_m 29 (by omega), by exact gz_m 30 (by omega)⟩ ⟨by exact gz_m 31 (by omega), by exact gz_m 32 (by omega)⟩  
          obtain ⟨I30, J31, rfl, hI30, g29, k29, rfl⟩ := P29
          have FI30 := gc_frc (W := fun q j => (q = 100 ∧ j = 14) ∨ (q = 100 ∧ j = 17) ∨ q = 113 ∨ (q = a3 ∧ j = 5) ∨ (q = a3 ∧ j = 6) ∨ (q = a3 ∧ j = 7) ∨ (q = a3 ∧ j = 8) ∨ (q = 106 ∧ j = 1) ∨ q = 107 ∨ (q = 106 ∧ j = 4) ∨ q = 108 ∨ q = 109 ∨ q = 110 ∨ q = 111 ∨ q = 112 ∨ q = (a2 + 22)) (V := fun q j => (q = 106 ∧ j = 1) ∨ q = 107) FI22 (fun q j h => (h.elim (fun h => (Or.inr (Or.inr (Or.inr (Or.inr (Or.inr (Or.inr (Or.inr (Or.inl h))))))))) (fun h => (Or.inr (Or.inr (Or.inr (Or.inr (Or.inr (Or.inr (Or.inr (Or.inr (Or.inl h)))))))))))) g29
          have t32 := (g29 100 17).resolve_left (fun h => h.elim (fun h => absurd h.2 (by decide)) (fun h => absurd h (by decide)))
          have t33 := (g29 100 9).resolve_left (fun h => h.elim (fun h => absurd h.2 (by decide)) (fun h => absurd h (by decide)))
          have t34 := (g29 100 14).resolve_left (fun h => h.elim (fun h => absurd h.2 (by decide)) (fun h => absurd h (by decide)))
          obtain rfl : J5 = J31 := funext fun q => funext fun j => ((k29 q j).resolve_left id).symm
          refine gv_callV hD rfl (As := [.inr (.inr (some t27_)), .inl 0, .inl ((n9t28 : Nat) : Int)]) (st := []) rfl B_106 S_106 rfl (gc_lV1 hws rfl) (Nat.le_of_ble_eq_true rfl) (gz_Ev_mono (d := 2) (by decide) E29) ?_
          show gv_X _ _ (80, [(0, .inr (.inr (some 100))), (1, .inl a1), (2, .inr (.inr (some a2))), (3, .inr (.inr (some a3))), (4, .inl v4_6)], [], sh, gc_h sh I30 J5 A)
          refine gv_run 1 true hD (pc' := 81) (lv' := [(0, .inr (.inr (some 100))), (1, .inl a1), (2, .inr (.inr (some a2))), (3, .inr (.inr (some a3))), (4, .inl v4_6)]) (st' := [.inr (.inr (some 100))]) (h' := gc_h sh I30 J5 A) (C := (True ∧ True)) rfl ⟨trivial, trivial⟩ ?_
          refine gv_get hD rfl rfl S_100 ⟨by decide, B_100⟩ (gc_hA S_100 rfl A_100_12) ?_
          show gv_X _ _ (84, [(0, .inr (.inr (some 100))), (1, .inl a1), (2, .inr (.inr (some a2))), (3, .inr (.inr (some a3))), (4, .inl v4_6)], [.inr (.inr (some 106))], sh, gc_h sh I30 J5 A)
          obtain ⟨r35, h35, E35, P35⟩ := d_X9_split (ws0 := ws0) (tb := tb) hws htb sh ro I30 J5 A hI30 106  (gc_b106 hb)     
          obtain ⟨I36, J37, rfl, hI36, g35, k35, ⟨z35, rfl, q35⟩⟩ := P35
          have FI36 := gc_frc (W := fun q j => (q = 100 ∧ j = 14) ∨ (q = 100 ∧ j = 17) ∨ q = 113 ∨ (q = a3 ∧ j = 5) ∨ (q = a3 ∧ j = 6) ∨ (q = a3 ∧ j = 7) ∨ (q = a3 ∧ j = 8) ∨ (q = 106 ∧ j = 1) ∨ q = 107 ∨ (q = 106 ∧ j = 4) ∨ q = 108 ∨ q = 109 ∨ q = 110 ∨ q = 111 ∨ q = 112 ∨ q = (a2 + 22)) (V := fun q j => (q = 106 ∧ j = 4) ∨ q = 108 ∨ q = 109) FI30 (fun q j h => (h.elim (fun h => (Or.inr (Or.inr (Or.inr (Or.inr (Or.inr (Or.inr (Or.inr (Or.inr (Or.inr (Or.inl h))))))))))) (fun h => (h.elim (fun h => (Or.inr (Or.inr (Or.inr (Or.inr (Or.inr (Or.inr (Or.inr (Or.inr (Or.inr (Or.inr (Or.inl h)))))))))))) (fun h => (Or.inr (Or.inr (Or.inr (Or.inr (Or.inr (Or.inr (Or.inr (Or.inr (Or.inr (Or.inr (Or.inr (Or.inl h))))))))))))))))) g35
          have t38 := (g35 100 17).resolve_left (fun h => h.elim (fun h => absurd h.2 (by decide)) (fun h => h.elim (fun h => absurd h (by decide)) (fun h => absurd h (by decide))))
          have t39 := (g35 100 9).resolve_left (fun h => h.elim (fun h => absurd h.2 (by decide)) (fun h => h.elim (fun h => absurd h (by decide)) (fun h => absurd h (by decide))))
          have t40 := (g35 100 14).resolve_left (fun h => h.elim (fun h => absurd h.2 (by decide)) (fun h => h.elim (fun h => absurd h (by decide)) (fun h => absurd h (by decide))))
          obtain rfl : J5 = J37 := funext fun q => funext fun j => ((k35 q j).resolve_left id).symm
          refine gv_callV hD rfl (As := []) (st := []) rfl B_106 S_106 rfl (gc_lV1 hws rfl) (Nat.le_of_ble_eq_true rfl) (gz_Ev_mono (d := 2) (by decide) E35) ?_
          show gv_X _ _ (87, [(0, .inr (.inr (some 100))), (1, .inl a1), (2, .inr (.inr (some a2))), (3, .inr (.inr (some a3))), (4, .inl v4_6)], [.inl z35], sh, gc_h sh I36 J5 A)
          refine gv_run 5 true hD (pc' := 93) (lv' := [(0, .inr (.inr (some 100))), (1, .inl a1), (2, .inr (.inr (some a2))), (3, .inr (.inr (some a3))), (4, .inl v4_6)]) (st' := [.inr (.inr (some a3)), .inr (.inr (some a2)), .inl v4_6, .inr (.inr (some 100))]) (h' := gc_h sh I36 J5 A) (C := (((((True ∧ True) ∧ True) ∧ True) ∧ True) ∧ True)) rfl ⟨⟨⟨⟨⟨trivial, trivial⟩, trivial⟩, trivial⟩, trivial⟩, trivial⟩ ?_
          obtain ⟨r41, h41, E41, P41⟩ := d_X1_searchWords (ws0 := ws0) (tb := tb) hws htb sh ro I36 J5 A hI36  v4_6 a2 a3 hb h_a2 G_a2 h_a3 G_a3  ⟨by exact gz_m 33 (by omega), by exact gz_m 34 (by omega)⟩ q35.2.2.1 (gc_QU_fr e0_6 (((((g35 100 17).resolve_left (by exact gz_m 35 (by omega))).trans ((g29 100 17).resolve_left (by exact gz_m 36 (by omega)))).trans (p23 100 17 (fun h => absurd h.1 (by exact gz_m 37 (by omega)))))) (fun k => ((((g35 113 k).resolve_left (by exact gz_m 38 (by omega))).trans ((g29 113 k).resolve_left (by exact gz_m 39 (by omega)))).trans (p23 113 k (fun h => absurd h.1 (by exact gz_m 40 (by omega))))))) (by exact gz_m 41 (by omega)) 
          obtain ⟨I42, J43, rfl, hI42, g41, k41, rfl⟩ := P41
          have FI42 := gc_frc (W := fun q j => (q = 100 ∧ j = 14) ∨ (q = 100 ∧ j = 17) ∨ q = 113 ∨ (q = a3 ∧ j = 5) ∨ (q = a3 ∧ j = 6) ∨ (q = a3 ∧ j = 7) ∨ (q = a3 ∧ j = 8) ∨ (q = 106 ∧ j = 1) ∨ q = 107 ∨ (q = 106 ∧ j = 4) ∨ q = 108 ∨ q = 109 ∨ q = 110 ∨ q = 111 ∨ q = 112 ∨ q = (a2 + 22)) (V := fun q j => q = 110 ∨ q = 111 ∨ q = 112 ∨ (q = 100 ∧ j = 14) ∨ q = (a2 + 22)) FI36 (fun q j h => (h.elim (fun h => (Or.inr (Or.inr (Or.inr (Or.inr (Or.inr (Or.inr (Or.inr (Or.inr (Or.inr (Or.inr (Or.inr (Or.inr (Or.inl h)))))))))))))) (fun h => (h.elim (fun h => (Or.inr (Or.inr (Or.inr (Or.inr (Or.inr (Or.inr (Or.inr (Or.inr (Or.inr (Or.inr (Or.inr (Or.inr (Or.inr (Or.inl h))))))))))))))) (fun h => (h.elim (fun h => (Or.inr (Or.inr (Or.inr (Or.inr (Or.inr (Or.inr (Or.inr (Or.inr (Or.inr (Or.inr (Or.inr (Or.inr (Or.inr (Or.inr (Or.inl h)))))))))))))))) (fun h => (h.elim (fun h => (Or.inl h)) (fun h => (Or.inr (Or.inr (Or.inr (Or.inr (Or.inr (Or.inr (Or.inr (Or.inr (Or.inr (Or.inr (Or.inr (Or.inr (Or.inr (Or.inr (Or.inr h)))))))))))))))))))))))) g41
          have t44 := (g41 100 17).resolve_left (fun h => h.elim (fun h => absurd h (by decide)) (fun h => h.elim (fun h => absurd h (by decide)) (fun h => h.elim (fun h => absurd h (by decide)) (fun h => h.elim (fun h => absurd h.2 (by decide)) (fun h => absurd h N_100__a2_22)))))
          have t45 := (g41 100 9).resolve_left (fun h => h.elim (fun h => absurd h (by decide)) (fun h => h.elim (fun h => absurd h (by decide)) (fun h => h.elim (fun h => absurd h (by decide)) (fun h => h.elim (fun h => absurd h.2 (by decide)) (fun h => absurd h N_100__a2_22)))))
          have f46 := (show 0 ≤ I42 100 14 ∧ I42 100 14 ≤ 2400 from gc_in hI42 R_100 rfl rfl)
          obtain rfl : J5 = J43 := funext fun q => funext fun j => ((k41 q j).resolve_left id).symm
          refine gv_callV hD rfl (As := [.inl v4_6, .inr (.inr (some a2)), .inr (.inr (some a3))]) (st := []) rfl B_100 S_100 rfl (gc_lV1 hws rfl) (Nat.le_of_ble_eq_true rfl) (gz_Ev_mono (d := 4) (by decide) E41) ?_
          show gv_X _ _ (96, [(0, .inr (.inr (some 100))), (1, .inl a1), (2, .inr (.inr (some a2))), (3, .inr (.inr (some a3))), (4, .inl v4_6)], [], sh, gc_h sh I42 J5 A)
          exact L96 I42 J5 hI42 FI42 FJ5 (by exact gz_m 42 (by omega)) (gc_QU_fr e0_6 ((((((g41 100 17).resolve_left (by exact gz_m 43 (by omega))).trans ((g35 100 17).resolve_left (by exact gz_m 44 (by omega)))).trans ((g29 100 17).resolve_left (by exact gz_m 45 (by omega)))).trans (p23 100 17 (fun h => absurd h.1 (by exact gz_m 46 (by omega)))))) (fun k => (((((g41 113 k).resolve_left (by exact gz_m 47 (by omega))).trans ((g35 113 k).resolve_left (by exact gz_m 48 (by omega)))).trans ((g29 113 k).resolve_left (by exact gz_m 49 (by omega)))).trans (p23 113 k (fun h => absurd h.1 (by exact gz_m 50 (by omega)))))))
  refine gv_run 2 true hD (pc' := 2) (lv' := [(0, .inr (.inr (some 100))), (1, .inl a1), (2, .inr (.inr (some a2))), (3, .inr (.inr (some a3)))]) (st' := [.inl 0, .inr (.inr (some 100))]) (h' := gc_h sh I J A) (C := ((True ∧ True) ∧ True)) rfl ⟨⟨trivial, trivial⟩, trivial⟩ ?_
  refine gv_put hD rfl rfl S_100 ⟨by decide, B_100⟩ rfl trivial ?_
  refine gc_st (k := 14) hI S_100 rfl R_100 (lo := 0) (hi := 2400) rfl rfl (by exact gz_m 51 (by omega)) (by exact gz_m 52 (by omega)) (fun I47 hI47 q48 p48 => ?_)
  have FI47 := gc_frs (W := fun q j => (q = 100 ∧ j = 14) ∨ (q = 100 ∧ j = 17) ∨ q = 113 ∨ (q = a3 ∧ j = 5) ∨ (q = a3 ∧ j = 6) ∨ (q = a3 ∧ j = 7) ∨ (q = a3 ∧ j = 8) ∨ (q = 106 ∧ j = 1) ∨ q = 107 ∨ (q = 106 ∧ j = 4) ∨ q = 108 ∨ q = 109 ∨ q = 110 ∨ q = 111 ∨ q = 112 ∨ q = (a2 + 22)) FI (Or.inl ⟨rfl, rfl⟩) p48
  have t49 := p48 100 17 (fun h => absurd h.2 (by decide))
  have t50 := p48 100 9 (fun h => absurd h.2 (by decide))
  have f51 := (show 0 ≤ I47 100 14 ∧ I47 100 14 ≤ 2400 from gc_in hI47 R_100 rfl rfl)
  show gv_X _ _ (5, [(0, .inr (.inr (some 100))), (1, .inl a1), (2, .inr (.inr (some a2))), (3, .inr (.inr (some a3)))], [], sh, gc_h sh I47 J A)
  refine gv_run 2 true hD (pc' := 7) (lv' := [(0, .inr (.inr (some 100))), (1, .inl a1), (2, .inr (.inr (some a2))), (3, .inr (.inr (some a3)))]) (st' := [.inr (.inr (some a3)), .inr (.inr (some 100))]) (h' := gc_h sh I47 J A) (C := ((True ∧ True) ∧ True)) rfl ⟨⟨trivial, trivial⟩, trivial⟩ ?_
  obtain ⟨r52, h52, E52, P52⟩ := d_X1_readQuestion (ws0 := ws0) (tb := tb) hws htb sh ro I47 J A hI47  a3 hb h_a3 G_a3    
  obtain ⟨I53, J54, rfl, hI53, g52, k52, ⟨z52, rfl, q52⟩⟩ := P52
  have FI53 := gc_frc (W := fun q j => (q = 100 ∧ j = 14) ∨ (q = 100 ∧ j = 17) ∨ q = 113 ∨ (q = a3 ∧ j = 5) ∨ (q = a3 ∧ j = 6) ∨ (q = a3 ∧ j = 7) ∨ (q = a3 ∧ j = 8) ∨ (q = 106 ∧ j = 1) ∨ q = 107 ∨ (q = 106 ∧ j = 4) ∨ q = 108 ∨ q = 109 ∨ q = 110 ∨ q = 111 ∨ q = 112 ∨ q = (a2 + 22)) (V := fun q j => (q = 100 ∧ j = 17) ∨ q = 113 ∨ (q = a3 ∧ j = 5) ∨ (q = a3 ∧ j = 6) ∨ (q = a3 ∧ j = 7) ∨ (q = a3 ∧ j = 8)) FI47 (fun q j h => (h.elim (fun h => (Or.inr (Or.inl h))) (fun h => (h.elim (fun h => (Or.inr (Or.inr (Or.inl h)))) (fun h => (h.elim (fun h => (Or.inr (Or.inr (Or.inr (Or.inl h))))) (fun h => (h.elim (fun h => (Or.inr (Or.inr (Or.inr (Or.inr (Or.inl h)))))) (fun h => (h.elim (fun h => (Or.inr (Or.inr (Or.inr (Or.inr (Or.inr (Or.inl h))))))) (fun h => (Or.inr (Or.inr (Or.inr (Or.inr (Or.inr (Or.inr (Or.inl h)))))))))))))))))) g52
  have FJ54 := gc_frc (W := fun q j => (q = a3 ∧ j = 9)) (V := fun q j => (q = a3 ∧ j = 9)) FJ (fun q j h => h) k52
  have t55 := (g52 100 9).resolve_left (fun h => h.elim (fun h => absurd h.2 (by decide)) (fun h => h.elim (fun h => absurd h (by decide)) (fun h => h.elim (fun h => absurd h.2 (by decide)) (fun h => h.elim (fun h => absurd h.2 (by decide)) (fun h => h.elim (fun h => absurd h.2 (by decide)) (fun h => absurd h.2 (by decide)))))))
  have t56 := (g52 100 14).resolve_left (fun h => h.elim (fun h => absurd h.2 (by decide)) (fun h => h.elim (fun h => absurd h (by decide)) (fun h => h.elim (fun h => absurd h.2 (by decide)) (fun h => h.elim (fun h => absurd h.2 (by decide)) (fun h => h.elim (fun h => absurd h.2 (by decide)) (fun h => absurd h.2 (by decide)))))))
  have f57 := (show 0 ≤ I53 100 17 ∧ I53 100 17 ≤ 8 from gc_in hI53 R_100 rfl rfl)
  refine gv_callV hD rfl (As := [.inr (.inr (some a3))]) (st := []) rfl B_100 S_100 rfl (gc_lV1 hws rfl) (Nat.le_of_ble_eq_true rfl) (gz_Ev_mono (d := 4) (by decide) E52) ?_
  show gv_X _ _ (10, [(0, .inr (.inr (some 100))), (1, .inl a1), (2, .inr (.inr (some a2))), (3, .inr (.inr (some a3)))], [.inl z52], sh, gc_h sh I53 J54 A)
  refine gv_if_ne (t := 16) hD rfl rfl ⟨by exact gz_m 53 (by omega), by exact gz_m 54 (by omega)⟩ (fun c58 => ?_) (fun c58 => ?_)
  · show gv_X _ _ (16, [(0, .inr (.inr (some 100))), (1, .inl a1), (2, .inr (.inr (some a2))), (3, .inr (.inr (some a3)))], [], sh, gc_h sh I53 J54 A)
    refine gv_run 2 true hD (pc' := 19) (lv' := [(4, .inl 0), (0, .inr (.inr (some 100))), (1, .inl a1), (2, .inr (.inr (some a2))), (3, .inr (.inr (some a3)))]) (st' := []) (h' := gc_h sh I53 J54 A) (C := ((True ∧ True) ∧ True)) rfl ⟨⟨trivial, trivial⟩, trivial⟩ ?_
    refine gv_pick [1, 2, 3, 4, 0] rfl ?_
    exact L19 _ I53 J54 0 (Nat.lt_succ_self _) hI53 FI53 FJ54 (by exact gz_m 55 (by omega)) q52.2.2.1
  · show gv_X _ _ (13, [(0, .inr (.inr (some 100))), (1, .inl a1), (2, .inr (.inr (some a2))), (3, .inr (.inr (some a3)))], [], sh, gc_h sh I53 J54 A)
    refine gv_run 1 true hD (pc' := 15) (lv' := [(0, .inr (.inr (some 100))), (1, .inl a1), (2, .inr (.inr (some a2))), (3, .inr (.inr (some a3)))]) (st' := [.inl (-3)]) (h' := gc_h sh I53 J54 A) (C := (True ∧ True)) rfl ⟨trivial, trivial⟩ ?_
    exact gv_iret hD rfl ⟨I53, J54, rfl, hI53, FI53, FJ54, ⟨_, rfl, by exact gz_m 56 (by omega)⟩⟩
