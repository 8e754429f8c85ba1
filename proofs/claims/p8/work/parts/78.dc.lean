def gc_sl (A : gc_A) (I : gr_I) (t k : Nat) : Int := if 0 ≤ I 54 k then 0 else match A (t + 16) (Int.toNat (-1 - I 54 k)) with
  | some q => I q 8
  | none => 0
theorem gc_sl_0 {A : gc_A} {I : gr_I} {t k : Nat} (h : 0 ≤ I 54 k) : gc_sl A I t k = 0 := by
  unfold gc_sl
  rw [if_pos h]
theorem gc_sl_1 {A : gc_A} {I : gr_I} {t k q : Nat} (h : I 54 k < 0) (hq : A (t + 16) (Int.toNat (-1 - I 54 k)) = some q) : gc_sl A I t k = I q 8 := by
  unfold gc_sl
  rw [if_neg (by omega), hq]
set_option maxHeartbeats 8000000 in
set_option maxRecDepth 100000 in
theorem d_X5_close {ws0 : List Cond} {tb : String → gz_T} (hws : gc_Ws ws0) (htb : gc_tbs tb) (sh : gz_Sh) (ro : Nat → Nat) (I : gr_I) (J : gr_J) (A : gc_A) (hI : gc_Inv ro I)  (hb : gc_Base sh ro A)   : ∃ r h', gz_Ev ws0 tb 1 (yX5_close, cX5_close, 1, none) [.inr (.inr (some 61))] sh (gc_h sh I J A) r sh h' 0 0 ∧ (∃ (I' : gr_I) (J' : gr_J), h' = gc_h sh I' J' A ∧ gc_Inv ro I' ∧ (∀ q j : Nat, ((q = 61 ∧ j = 3) ∨ (q = 61 ∧ j = 4) ∨ (q = 61 ∧ j = 15)) ∨ I' q j = I q j) ∧ (∀ q j : Nat, (False) ∨ J' q j = J q j) ∧ r = none ∧ (I' 61 3 = 0) ∧ (I' 61 15 = 0)) := by
  have FI : ∀ q j : Nat, ((q = 61 ∧ j = 3) ∨ (q = 61 ∧ j = 4) ∨ (q = 61 ∧ j = 15)) ∨ I q j = I q j := fun _ _ => Or.inr rfl
  have FJ : ∀ q j : Nat, (False) ∨ J q j = J q j := fun _ _ => Or.inr rfl
  have B_61 : 61 < 1000000 := by decide
  have R_61 : ro 61 = 72 := gc_bR hb (by decide) rfl
  have S_61 : sh[61]? = some (false, 5, 19) := gc_bS hb rfl
  have hD : gv_D (gc_E5 ws0 tb 0 (yX5_close, cX5_close, 1, none) kX5_close) := gq_of oX5_close
  refine gc_ev5 (d := 0) (l := kX5_close) (Po := fun r h' => (∃ (I' : gr_I) (J' : gr_J), h' = gc_h sh I' J' A ∧ gc_Inv ro I' ∧ (∀ q j : Nat, ((q = 61 ∧ j = 3) ∨ (q = 61 ∧ j = 4) ∨ (q = 61 ∧ j = 15)) ∨ I' q j = I q j) ∧ (∀ q j : Nat, (False) ∨ J' q j = J q j) ∧ r = none ∧ (I' 61 3 = 0) ∧ (I' 61 15 = 0))) htb rfl (Nat.le_of_ble_eq_true rfl) ?_
  have f1 := (show 0 ≤ I 61 3 ∧ I 61 3 ≤ 1 from gc_in hI R_61 rfl rfl)
  have f2 := (show 0 ≤ I 61 4 ∧ I 61 4 ≤ 1 from gc_in hI R_61 rfl rfl)
  have f3 := (show 0 ≤ I 61 15 ∧ I 61 15 ≤ 16 from gc_in hI R_61 rfl rfl)
  refine gv_run 2 true hD (pc' := 2) (lv' := [(0, .inr (.inr (some 61)))]) (st' := [.inl 0, .inr (.inr (some 61))]) (h' := gc_h sh I J A) (C := ((True ∧ True) ∧ True)) rfl ⟨⟨trivial, trivial⟩, trivial⟩ ?_
  refine gv_put hD rfl rfl S_61 ⟨by decide, B_61⟩ rfl (by exact gz_m 0 (by omega)) ?_
  refine gc_st (k := 3) hI S_61 rfl R_61 (lo := 0) (hi := 1) rfl rfl (by exact gz_m 1 (by omega)) (by exact gz_m 2 (by omega)) (fun I4 hI4 q5 p5 => ?_)
  have FI4 := gc_frs (W := fun q j => (q = 61 ∧ j = 3) ∨ (q = 61 ∧ j = 4) ∨ (q = 61 ∧ j = 15)) FI (Or.inl ⟨rfl, rfl⟩) p5
  have t6 := p5 61 4 (fun h => absurd h.2 (by decide))
  have t7 := p5 61 15 (fun h => absurd h.2 (by decide))
  have f8 := (show 0 ≤ I4 61 3 ∧ I4 61 3 ≤ 1 from gc_in hI4 R_61 rfl rfl)
  show gv_X _ _ (5, [(0, .inr (.inr (some 61)))], [], sh, gc_h sh I4 J A)
  refine gv_run 2 true hD (pc' := 7) (lv' := [(0, .inr (.inr (some 61)))]) (st' := [.inl 0, .inr (.inr (some 61))]) (h' := gc_h sh I4 J A) (C := ((True ∧ True) ∧ True)) rfl ⟨⟨trivial, trivial⟩, trivial⟩ ?_
  refine gv_put hD rfl rfl S_61 ⟨by decide, B_61⟩ rfl (by exact gz_m 3 (by omega)) ?_
  refine gc_st (k := 4) hI4 S_61 rfl R_61 (lo := 0) (hi := 1) rfl rfl (by exact gz_m 4 (by omega)) (by exact gz_m 5 (by omega)) (fun I9 hI9 q10 p10 => ?_)
  have FI9 := gc_frs (W := fun q j => (q = 61 ∧ j = 3) ∨ (q = 61 ∧ j = 4) ∨ (q = 61 ∧ j = 15)) FI4 (Or.inr (Or.inl ⟨rfl, rfl⟩)) p10
  have t11 := p10 61 3 (fun h => absurd h.2 (by decide))
  have t12 := p10 61 15 (fun h => absurd h.2 (by decide))
  have f13 := (show 0 ≤ I9 61 4 ∧ I9 61 4 ≤ 1 from gc_in hI9 R_61 rfl rfl)
  show gv_X _ _ (10, [(0, .inr (.inr (some 61)))], [], sh, gc_h sh I9 J A)
  refine gv_run 2 true hD (pc' := 12) (lv' := [(0, .inr (.inr (some 61)))]) (st' := [.inl 0, .inr (.inr (some 61))]) (h' := gc_h sh I9 J A) (C := ((True ∧ True) ∧ True)) rfl ⟨⟨trivial, trivial⟩, trivial⟩ ?_
  refine gv_put hD rfl rfl S_61 ⟨by decide, B_61⟩ rfl trivial ?_
  refine gc_st (k := 15) hI9 S_61 rfl R_61 (lo := 0) (hi := 16) rfl rfl (by exact gz_m 6 (by omega)) (by exact gz_m 7 (by omega)) (fun I14 hI14 q15 p15 => ?_)
  have FI14 := gc_frs (W := fun q j => (q = 61 ∧ j = 3) ∨ (q = 61 ∧ j = 4) ∨ (q = 61 ∧ j = 15)) FI9 (Or.inr (Or.inr ⟨rfl, rfl⟩)) p15
  have t16 := p15 61 3 (fun h => absurd h.2 (by decide))
  have t17 := p15 61 4 (fun h => absurd h.2 (by decide))
  have f18 := (show 0 ≤ I14 61 15 ∧ I14 61 15 ≤ 16 from gc_in hI14 R_61 rfl rfl)
  show gv_X _ _ (15, [(0, .inr (.inr (some 61)))], [], sh, gc_h sh I14 J A)
  exact gv_vret hD rfl ⟨I14, J, rfl, hI14, FI14, FJ, ⟨rfl, by exact gz_m 8 (by omega)⟩⟩
set_option maxHeartbeats 8000000 in
set_option maxRecDepth 100000 in
theorem d_X5_open {ws0 : List Cond} {tb : String → gz_T} (hws : gc_Ws ws0) (htb : gc_tbs tb) (sh : gz_Sh) (ro : Nat → Nat) (I : gr_I) (J : gr_J) (A : gc_A) (hI : gc_Inv ro I) (a1 : Nat) (hb : gc_Base sh ro A) (h_a1 : gc_isTongue sh ro A a1) (G_a1 : 144 ≤ a1)   : ∃ r h', gz_Ev ws0 tb 1 (yX5_open, cX5_open, 3, none) [.inr (.inr (some 61)), .inr (.inr (some a1))] sh (gc_h sh I J A) r sh h' 0 0 ∧ (∃ (I' : gr_I) (J' : gr_J), h' = gc_h sh I' J' A ∧ gc_Inv ro I' ∧ (∀ q j : Nat, ((q = 61 ∧ j = 2) ∨ (q = 61 ∧ j = 3) ∨ (q = 61 ∧ j = 4) ∨ q = 62) ∨ I' q j = I q j) ∧ (∀ q j : Nat, (False) ∨ J' q j = J q j) ∧ r = none ∧ (I' 61 3 = 1) ∧ (I' 61 2 = (a1 : Int)) ∧ (I' 61 4 = 0)) := by
  have FI : ∀ q j : Nat, ((q = 61 ∧ j = 2) ∨ (q = 61 ∧ j = 3) ∨ (q = 61 ∧ j = 4) ∨ q = 62) ∨ I q j = I q j := fun _ _ => Or.inr rfl
  have FJ : ∀ q j : Nat, (False) ∨ J q j = J q j := fun _ _ => Or.inr rfl
  have A_61_5 : A 61 5 = some 62 := gc_bA hb rfl
  have B_61 : 61 < 1000000 := by decide
  have B_62 : 62 < 1000000 := by decide
  have R_61 : ro 61 = 72 := gc_bR hb (by decide) rfl
  have R_62 : ro 62 = 2 := gc_bR hb (by decide) rfl
  have S_61 : sh[61]? = some (false, 5, 19) := gc_bS hb rfl
  have S_62 : sh[62]? = some (true, 3, 96) := gc_bS hb rfl
  obtain ⟨S_a1, R_a1, B_a1, A_a1_0, h_a1_1, A_a1_1, h_a1_3, A_a1_2, S_a1_5, R_a1_5, B_a1_5, A_a1_3, S_a1_6, R_a1_6, B_a1_6, A_a1_4, h_a1_7, A_a1_5, S_a1_9, R_a1_9, B_a1_9, A_a1_7, S_a1_10, R_a1_10, B_a1_10, A_a1_8, h_a1_11, A_a1_9, S_a1_13, R_a1_13, B_a1_13, A_a1_10, S_a1_14, R_a1_14, B_a1_14, A_a1_12, S_a1_15, R_a1_15, B_a1_15, A_a1_14, S_a1_16, R_a1_16, B_a1_16, A_a1_15, h_a1_17⟩ := id h_a1
  obtain ⟨S_a1_1, R_a1_1, B_a1_1, A_a1_1_0, S_a1_1_1, R_a1_1_1, B_a1_1_1, Q0_a1_1, Q1_a1_1, Q2_a1_1⟩ := id h_a1_1
  obtain ⟨S_a1_3, R_a1_3, B_a1_3, A_a1_3_0, S_a1_3_1, R_a1_3_1, B_a1_3_1, Q0_a1_3, Q1_a1_3, Q2_a1_3⟩ := id h_a1_3
  obtain ⟨S_a1_7, R_a1_7, B_a1_7, A_a1_7_0, S_a1_7_1, R_a1_7_1, B_a1_7_1, Q0_a1_7, Q1_a1_7, Q2_a1_7⟩ := id h_a1_7
  obtain ⟨S_a1_11, R_a1_11, B_a1_11, A_a1_11_0, S_a1_11_1, R_a1_11_1, B_a1_11_1, Q0_a1_11, Q1_a1_11, Q2_a1_11⟩ := id h_a1_11
  obtain ⟨S_a1_17, R_a1_17, B_a1_17, A_a1_17_0, S_20, R_20, B_20, A_a1_17_1, S_a1_17_1, R_a1_17_1, B_a1_17_1, A_a1_17_2, S_a1_17_2, R_a1_17_2, B_a1_17_2, A_a1_17_3, S_a1_17_3, R_a1_17_3, B_a1_17_3, A_a1_17_4, S_a1_17_4, R_a1_17_4, B_a1_17_4, A_a1_17_5, S_a1_17_5, R_a1_17_5, B_a1_17_5, S_a1_17_6, R_a1_17_6, B_a1_17_6, S_a1_17_7, R_a1_17_7, B_a1_17_7⟩ := id h_a1_17
  have hD : gv_D (gc_E5 ws0 tb 0 (yX5_open, cX5_open, 3, none) kX5_open) := gq_of oX5_open
  refine gc_ev5 (d := 0) (l := kX5_open) (Po := fun r h' => (∃ (I' : gr_I) (J' : gr_J), h' = gc_h sh I' J' A ∧ gc_Inv ro I' ∧ (∀ q j : Nat, ((q = 61 ∧ j = 2) ∨ (q = 61 ∧ j = 3) ∨ (q = 61 ∧ j = 4) ∨ q = 62) ∨ I' q j = I q j) ∧ (∀ q j : Nat, (False) ∨ J' q j = J q j) ∧ r = none ∧ (I' 61 3 = 1) ∧ (I' 61 2 = (a1 : Int)) ∧ (I' 61 4 = 0))) htb rfl (Nat.le_of_ble_eq_true rfl) ?_
  have f1 := (show 0 ≤ I 61 3 ∧ I 61 3 ≤ 1 from gc_in hI R_61 rfl rfl)
  have f2 := (show 0 ≤ I 61 4 ∧ I 61 4 ≤ 1 from gc_in hI R_61 rfl rfl)
  have f3 := (show (-1) ≤ I 61 2 ∧ I 61 2 ≤ 999999 from gc_in hI R_61 rfl rfl)
  have L17 : ∀ (n9 : Nat) (I4 : gr_I) (J5 : gr_J) (v2_6 : Int), (97 - v2_6).toNat < n9 → gc_Inv ro I4 → (∀ q j : Nat, ((q = 61 ∧ j = 2) ∨ (q = 61 ∧ j = 3) ∨ (q = 61 ∧ j = 4) ∨ q = 62) ∨ I4 q j = I q j) → (∀ q j : Nat, (False) ∨ J5 q j = J q j) → ((0 ≤ v2_6 ∧ v2_6 ≤ 96) ∧ (I4 61 3 = 1) ∧ (I4 61 2 = (a1 : Int)) ∧ (I4 61 4 = 0)) → gv_X (gc_E5 ws0 tb 0 (yX5_open, cX5_open, 3, none) kX5_open) (gv_Q cX5_open none sh (fun r h' => (∃ (I' : gr_I) (J' : gr_J), h' = gc_h sh I' J' A ∧ gc_Inv ro I' ∧ (∀ q j : Nat, ((q = 61 ∧ j = 2) ∨ (q = 61 ∧ j = 3) ∨ (q = 61 ∧ j = 4) ∨ q = 62) ∨ I' q j = I q j) ∧ (∀ q j : Nat, (False) ∨ J' q j = J q j) ∧ r = none ∧ (I' 61 3 = 1) ∧ (I' 61 2 = (a1 : Int)) ∧ (I' 61 4 = 0)))) (17, [(0, .inr (.inr (some 61))), (2, .inl v2_6)], [], sh, gc_h sh I4 J5 A) := by
    intro n9
    induction n9 with
    | zero => intro I4 J5 v2_6 hn; exact gz_m 0 (by omega)
    | succ n9 ih17 =>
      intro I4 J5 v2_6 hn hI4 FI4 FJ5 m_6
      obtain ⟨hv2_6, e0_6, e1_6, e2_6⟩ := m_6
      have f7 := (show 0 ≤ I4 61 3 ∧ I4 61 3 ≤ 1 from gc_in hI4 R_61 rfl rfl)
      have f8 := (show 0 ≤ I4 61 4 ∧ I4 61 4 ≤ 1 from gc_in hI4 R_61 rfl rfl)
      have f9 := (show (-1) ≤ I4 61 2 ∧ I4 61 2 ≤ 999999 from gc_in hI4 R_61 rfl rfl)
      refine gv_run 2 true hD (pc' := 20) (lv' := [(0, .inr (.inr (some 61))), (2, .inl v2_6)]) (st' := [.inl 96, .inl v2_6]) (h' := gc_h sh I4 J5 A) (C := ((True ∧ True) ∧ True)) rfl ⟨⟨trivial, trivial⟩, trivial⟩ ?_
      refine gv_icmp_ge (t := 36) hD rfl rfl ⟨⟨by exact gz_m 1 (by omega), by exact gz_m 2 (by omega)⟩, ⟨by exact gz_m 3 (by omega), by exact gz_m 4 (by omega)⟩⟩ (fun c10 => ?_) (fun c10 => ?_)
      · show gv_X _ _ (36, [(0, .inr (.inr (some 61))), (2, .inl v2_6)], [], sh, gc_h sh I4 J5 A)
        exact gv_vret hD rfl ⟨I4, J5, rfl, hI4, FI4, FJ5, ⟨rfl, by exact gz_m 5 (by omega)⟩⟩
      · show gv_X _ _ (23, [(0, .inr (.inr (some 61))), (2, .inl v2_6)], [], sh, gc_h sh I4 J5 A)
        refine gv_run 1 true hD (pc' := 24) (lv' := [(0, .inr (.inr (some 61))), (2, .inl v2_6)]) (st' := [.inr (.inr (some 61))]) (h' := gc_h sh I4 J5 A) (C := (True ∧ True)) rfl ⟨trivial, trivial⟩ ?_
        refine gv_get hD rfl rfl S_61 ⟨by decide, B_61⟩ (gc_hA S_61 rfl A_61_5) ?_
        show gv_X _ _ (27, [(0, .inr (.inr (some 61))), (2, .inl v2_6)], [.inr (.inr (some 62))], sh, gc_h sh I4 J5 A)
        refine gv_run 2 true hD (pc' := 29) (lv' := [(0, .inr (.inr (some 61))), (2, .inl v2_6)]) (st' := [.inl 0, .inl v2_6, .inr (.inr (some 62))]) (h' := gc_h sh I4 J5 A) (C := ((True ∧ True) ∧ True)) rfl ⟨⟨trivial, trivial⟩, trivial⟩ ?_
        have f11 := gw_nar_boolean (x := 0)
        refine gv_zast hD rfl S_62 ⟨by decide, B_62⟩ ⟨by exact gz_m 6 (by omega), by exact gz_m 7 (by omega)⟩ ?_
        refine gc_st hI4 S_62 rfl R_62 (lo := 0) (hi := 1) rfl rfl (by exact gz_m 8 (by omega)) (by exact gz_m 9 (by omega)) (fun I12 hI12 q13 p13 => ?_)
        have FI12 := gc_frs (W := fun q j => (q = 61 ∧ j = 2) ∨ (q = 61 ∧ j = 3) ∨ (q = 61 ∧ j = 4) ∨ q = 62) FI4 (Or.inr (Or.inr (Or.inr rfl))) p13
        have t14 := p13 61 3 (fun h => absurd h.1 (by decide))
        have t15 := p13 61 4 (fun h => absurd h.1 (by decide))
        have t16 := p13 61 2 (fun h => absurd h.1 (by decide))
        show gv_X _ _ (30, [(0, .inr (.inr (some 61))), (2, .inl v2_6)], [], sh, gc_h sh I12 J5 A)
        refine gv_run 2 true hD (pc' := 17) (lv' := [(2, .inl (v2_6 + 1)), (0, .inr (.inr (some 61)))]) (st' := []) (h' := gc_h sh I12 J5 A) (C := ((True ∧ True) ∧ True)) rfl ⟨⟨trivial, trivial⟩, trivial⟩ ?_
        refine gv_pick [1, 0] rfl ?_
        exact ih17 I12 J5 (v2_6 + 1) (by exact gz_m 10 (by omega)) hI12 FI12 FJ5 (by exact gz_m 11 (by omega))
  refine gv_run 2 true hD (pc' := 2) (lv' := [(0, .inr (.inr (some 61))), (1, .inr (.inr (some a1)))]) (st' := [.inr (.inr (some a1)), .inr (.inr (some 61))]) (h' := gc_h sh I J A) (C := ((True ∧ True) ∧ True)) rfl ⟨⟨trivial, trivial⟩, trivial⟩ ?_
  refine gv_put hD rfl rfl S_61 ⟨by decide, B_61⟩ rfl trivial ?_
  refine gc_st5 hI S_61 rfl R_61 (lo := -1) (hi := 999999) rfl rfl (by exact gz_m 12 (by omega)) (by exact gz_m 13 (by omega)) (fun I17 hI17 q18 p18 => ?_)
  have FI17 := gc_frs (W := fun q j => (q = 61 ∧ j = 2) ∨ (q = 61 ∧ j = 3) ∨ (q = 61 ∧ j = 4) ∨ q = 62) FI (Or.inl ⟨rfl, rfl⟩) p18
  have t19 := p18 61 3 (fun h => absurd h.2 (by decide))
  have t20 := p18 61 4 (fun h => absurd h.2 (by decide))
  have f21 := (show (-1) ≤ I17 61 2 ∧ I17 61 2 ≤ 999999 from gc_in hI17 R_61 rfl rfl)
  show gv_X _ _ (5, [(0, .inr (.inr (some 61))), (1, .inr (.inr (some a1)))], [], sh, gc_h sh I17 J A)
  refine gv_run 2 true hD (pc' := 7) (lv' := [(0, .inr (.inr (some 61))), (1, .inr (.inr (some a1)))]) (st' := [.inl 1, .inr (.inr (some 61))]) (h' := gc_h sh I17 J A) (C := ((True ∧ True) ∧ True)) rfl ⟨⟨trivial, trivial⟩, trivial⟩ ?_
  refine gv_put hD rfl rfl S_61 ⟨by decide, B_61⟩ rfl (by exact gz_m 14 (by omega)) ?_
  refine gc_st (k := 3) hI17 S_61 rfl R_61 (lo := 0) (hi := 1) rfl rfl (by exact gz_m 15 (by omega)) (by exact gz_m 16 (by omega)) (fun I22 hI22 q23 p23 => ?_)
  have FI22 := gc_frs (W := fun q j => (q = 61 ∧ j = 2) ∨ (q = 61 ∧ j = 3) ∨ (q = 61 ∧ j = 4) ∨ q = 62) FI17 (Or.inr (Or.inl ⟨rfl, rfl⟩)) p23
  have t24 := p23 61 4 (fun h => absurd h.2 (by decide))
  have t25 := p23 61 2 (fun h => absurd h.2 (by decide))
  have f26 := (show 0 ≤ I22 61 3 ∧ I22 61 3 ≤ 1 from gc_in hI22 R_61 rfl rfl)
  show gv_X _ _ (10, [(0, .inr (.inr (some 61))), (1, .inr (.inr (some a1)))], [], sh, gc_h sh I22 J A)
  refine gv_run 2 true hD (pc' := 12) (lv' := [(0, .inr (.inr (some 61))), (1, .inr (.inr (some a1)))]) (st' := [.inl 0, .inr (.inr (some 61))]) (h' := gc_h sh I22 J A) (C := ((True ∧ True) ∧ True)) rfl ⟨⟨trivial, trivial⟩, trivial⟩ ?_
  refine gv_put hD rfl rfl S_61 ⟨by decide, B_61⟩ rfl (by exact gz_m 17 (by omega)) ?_
  refine gc_st (k := 4) hI22 S_61 rfl R_61 (lo := 0) (hi := 1) rfl rfl (by exact gz_m 18 (by omega)) (by exact gz_m 19 (by omega)) (fun I27 hI27 q28 p28 => ?_)
  have FI27 := gc_frs (W := fun q j => (q = 61 ∧ j = 2) ∨ (q = 61 ∧ j = 3) ∨ (q = 61 ∧ j = 4) ∨ q = 62) FI22 (Or.inr (Or.inr (Or.inl ⟨rfl, rfl⟩))) p28
  have t29 := p28 61 3 (fun h => absurd h.2 (by decide))
  have t30 := p28 61 2 (fun h => absurd h.2 (by decide))
  have f31 := (show 0 ≤ I27 61 4 ∧ I27 61 4 ≤ 1 from gc_in hI27 R_61 rfl rfl)
  show gv_X _ _ (15, [(0, .inr (.inr (some 61))), (1, .inr (.inr (some a1)))], [], sh, gc_h sh I27 J A)
  refine gv_run 2 true hD (pc' := 17) (lv' := [(2, .inl 0), (0, .inr (.inr (some 61))), (1, .inr (.inr (some a1)))]) (st' := []) (h' := gc_h sh I27 J A) (C := ((True ∧ True) ∧ True)) rfl ⟨⟨trivial, trivial⟩, trivial⟩ ?_
  refine gv_pick [1, 0] rfl ?_
  exact L17 _ I27 J 0 (Nat.lt_succ_self _) hI27 FI27 FJ (by exact gz_m 20 (by omega))
set_option maxHeartbeats 8000000 in
set_option maxRecDepth 100000 in
theorem d_X5_funOf {ws0 : List Cond} {tb : String → gz_T} (hws : gc_Ws ws0) (htb : gc_tbs tb) (sh : gz_Sh) (ro : Nat → Nat) (I : gr_I) (J : gr_J) (A : gc_A) (hI : gc_Inv ro I) (t : Nat) (a1 : Int) (hb : gc_Base sh ro A) (h_t : gc_isTongue sh ro A t) (G_t : 144 ≤ t) (ha1 : 0 ≤ a1 ∧ a1 ≤ 8999) (x0 : gc_Ls sh ro A t I) (x1 : gc_WV t I) (x2 : a1 < I 48 6) (x3 : I 61 2 = (t : Int)) : ∃ r h', gz_Ev ws0 tb 2 (yX5_funOf, cX5_funOf, 3, (some .int)) [.inr (.inr (some 61)), .inl a1] sh (gc_h sh I J A) r sh h' 0 0 ∧ (h' = gc_h sh I J A ∧ (∃ z : Int, r = some (.inl z) ∧ 0 ≤ z ∧ z ≤ 95)) := by
  have A_48_8 : A 48 8 = some 54 := gc_bA hb rfl
  have A_61_1 : A 61 1 = some 48 := gc_bA hb rfl
  have B_48 : 48 < 1000000 := by decide
  have B_54 : 54 < 1000000 := by decide
  have B_61 : 61 < 1000000 := by decide
  have R_54 : ro 54 = 46 := gc_bR hb (by decide) rfl
  have R_61 : ro 61 = 72 := gc_bR hb (by decide) rfl
  have S_48 : sh[48]? = some (false, 0, 22) := gc_bS hb rfl
  have S_54 : sh[54]? = some (true, 1, 9000) := gc_bS hb rfl
  have S_61 : sh[61]? = some (false, 5, 19) := gc_bS hb rfl
  obtain ⟨S_t, R_t, B_t, A_t_0, h_t_1, A_t_1, h_t_3, A_t_2, S_t_5, R_t_5, B_t_5, A_t_3, S_t_6, R_t_6, B_t_6, A_t_4, h_t_7, A_t_5, S_t_9, R_t_9, B_t_9, A_t_7, S_t_10, R_t_10, B_t_10, A_t_8, h_t_11, A_t_9, S_t_13, R_t_13, B_t_13, A_t_10, S_t_14, R_t_14, B_t_14, A_t_12, S_t_15, R_t_15, B_t_15, A_t_14, S_t_16, R_t_16, B_t_16, A_t_15, h_t_17⟩ := id h_t
  obtain ⟨S_t_1, R_t_1, B_t_1, A_t_1_0, S_t_1_1, R_t_1_1, B_t_1_1, Q0_t_1, Q1_t_1, Q2_t_1⟩ := id h_t_1
  obtain ⟨S_t_3, R_t_3, B_t_3, A_t_3_0, S_t_3_1, R_t_3_1, B_t_3_1, Q0_t_3, Q1_t_3, Q2_t_3⟩ := id h_t_3
  obtain ⟨S_t_7, R_t_7, B_t_7, A_t_7_0, S_t_7_1, R_t_7_1, B_t_7_1, Q0_t_7, Q1_t_7, Q2_t_7⟩ := id h_t_7
  obtain ⟨S_t_11, R_t_11, B_t_11, A_t_11_0, S_t_11_1, R_t_11_1, B_t_11_1, Q0_t_11, Q1_t_11, Q2_t_11⟩ := id h_t_11
  obtain ⟨S_t_17, R_t_17, B_t_17, A_t_17_0, S_20, R_20, B_20, A_t_17_1, S_t_17_1, R_t_17_1, B_t_17_1, A_t_17_2, S_t_17_2, R_t_17_2, B_t_17_2, A_t_17_3, S_t_17_3, R_t_17_3, B_t_17_3, A_t_17_4, S_t_17_4, R_t_17_4, B_t_17_4, A_t_17_5, S_t_17_5, R_t_17_5, B_t_17_5, S_t_17_6, R_t_17_6, B_t_17_6, S_t_17_7, R_t_17_7, B_t_17_7⟩ := id h_t_17
  have hD : gv_D (gc_E5 ws0 tb 1 (yX5_funOf, cX5_funOf, 3, (some .int)) kX5_funOf) := gq_of oX5_funOf
  refine gc_ev5 (d := 1) (l := kX5_funOf) (Po := fun r h' => (h' = gc_h sh I J A ∧ (∃ z : Int, r = some (.inl z) ∧ 0 ≤ z ∧ z ≤ 95))) htb rfl (Nat.le_of_ble_eq_true rfl) ?_
  have f1 := (show (-1) ≤ I 61 2 ∧ I 61 2 ≤ 999999 from gc_in hI R_61 rfl rfl)
  have L42 : ∀ (s0_2 : Int), ((0 ≤ s0_2 ∧ s0_2 ≤ 95) ∧ (I 61 2 = (t : Int))) → gv_X (gc_E5 ws0 tb 1 (yX5_funOf, cX5_funOf, 3, (some .int)) kX5_funOf) (gv_Q cX5_funOf (some .int) sh (fun r h' => (h' = gc_h sh I J A ∧ (∃ z : Int, r = some (.inl z) ∧ 0 ≤ z ∧ z ≤ 95)))) (42, [], [.inl s0_2], sh, gc_h sh I J A) := by
    intro s0_2 m_2
    obtain ⟨hs0_2, e0_2⟩ := m_2
    have f3 := (show (-1) ≤ I 61 2 ∧ I 61 2 ≤ 999999 from gc_in hI R_61 rfl rfl)
    exact gv_iret hD rfl ⟨rfl, ⟨_, rfl, by exact gz_m 0 (by omega)⟩⟩
  refine gv_run 1 true hD (pc' := 1) (lv' := [(0, .inr (.inr (some 61))), (1, .inl a1)]) (st' := [.inr (.inr (some 61))]) (h' := gc_h sh I J A) (C := (True ∧ True)) rfl ⟨trivial, trivial⟩ ?_
  refine gv_get hD rfl rfl S_61 ⟨by decide, B_61⟩ (gc_hA S_61 rfl A_61_1) ?_
  show gv_X _ _ (4, [(0, .inr (.inr (some 61))), (1, .inl a1)], [.inr (.inr (some 48))], sh, gc_h sh I J A)
  refine gv_get hD rfl rfl S_48 ⟨by decide, B_48⟩ (gc_hA S_48 rfl A_48_8) ?_
  show gv_X _ _ (7, [(0, .inr (.inr (some 61))), (1, .inl a1)], [.inr (.inr (some 54))], sh, gc_h sh I J A)
  refine gv_run 1 true hD (pc' := 8) (lv' := [(0, .inr (.inr (some 61))), (1, .inl a1)]) (st' := [.inl a1, .inr (.inr (some 54))]) (h' := gc_h sh I J A) (C := (True ∧ True)) rfl ⟨trivial, trivial⟩ ?_
  have f4 := (show (-384) ≤ I 54 (Int.toNat a1) ∧ I 54 (Int.toNat a1) ≤ 1535 from gc_in hI R_54 rfl rfl)
  refine gv_iald hD rfl S_54 rfl ⟨by decide, B_54⟩ ⟨by exact gz_m 1 (by omega), by exact gz_m 2 (by omega)⟩ (gc_iI S_54 rfl) ?_
  show gv_X _ _ (9, [(0, .inr (.inr (some 61))), (1, .inl a1)], [.inl (I 54 (Int.toNat a1))], sh, gc_h sh I J A)
  refine gv_run 1 true hD (pc' := 10) (lv' := [(2, .inl (I 54 (Int.toNat a1))), (0, .inr (.inr (some 61))), (1, .inl a1)]) (st' := []) (h' := gc_h sh I J A) (C := (True ∧ True)) rfl ⟨trivial, trivial⟩ ?_
  have t5 := x1 (Int.toNat a1) (by exact gz_m 3 (by omega))
  refine gv_run 1 true hD (pc' := 11) (lv' := [(2, .inl (I 54 (Int.toNat a1))), (0, .inr (.inr (some 61))), (1, .inl a1)]) (st' := [.inl (I 54 (Int.toNat a1))]) (h' := gc_h sh I J A) (C := (True ∧ True)) rfl ⟨trivial, trivial⟩ ?_
  refine gv_if_lt (t := 28) hD rfl rfl ⟨by exact gz_m 4 (by omega), by exact gz_m 5 (by omega)⟩ (fun c6 => ?_) (fun c6 => ?_)
  · show gv_X _ _ (28, [(2, .inl (I 54 (Int.toNat a1))), (0, .inr (.inr (some 61))), (1, .inl a1)], [], sh, gc_h sh I J A)
    refine gv_run 1 true hD (pc' := 29) (lv' := [(2, .inl (I 54 (Int.toNat a1))), (0, .inr (.inr (some 61))), (1, .inl a1)]) (st' := [.inr (.inr (some 61))]) (h' := gc_h sh I J A) (C := (True ∧ True)) rfl ⟨trivial, trivial⟩ ?_
    refine gv_get hD rfl rfl S_61 ⟨by decide, B_61⟩ (gc_h5 (t := t) S_61 rfl (by exact gz_m 6 (by omega))) ?_
    show gv_X _ _ (32, [(2, .inl (I 54 (Int.toNat a1))), (0, .inr (.inr (some 61))), (1, .inl a1)], [.inr (.inr (some t))], sh, gc_h sh I J A)
    refine gv_get hD rfl rfl S_t ⟨by decide, B_t⟩ (gc_hA S_t rfl A_t_14) ?_
    show gv_X _ _ (35, [(2, .inl (I 54 (Int.toNat a1))), (0, .inr (.inr (some 61))), (1, .inl a1)], [.inr (.inr (some (t + 16)))], sh, gc_h sh I J A)
    refine gv_run 3 true hD (pc' := 38) (lv' := [(2, .inl (I 54 (Int.toNat a1))), (0, .inr (.inr (some 61))), (1, .inl a1)]) (st' := [.inl ((-1) - (I 54 (Int.toNat a1))), .inr (.inr (some (t + 16)))]) (h' := gc_h sh I J A) (C := (((True ∧ True) ∧ True) ∧ True)) rfl ⟨⟨⟨trivial, trivial⟩, trivial⟩, trivial⟩ ?_
    obtain ⟨t7_, A_t7, h_t7, G_t7, U_t7, V_t7⟩ := x0 (Int.toNat (((-1) - (I 54 (Int.toNat a1))))) (by exact gz_m 7 (by omega))
    obtain ⟨S_t7, R_t7, B_t7, A_t7_5, S_t7__1, R_t7__1, B_t7__1, A_t7_6, S_t7__2, R_t7__2, B_t7__2, A_t7_7, S_t7__3, R_t7__3, B_t7__3, A_t7_9, S_t7__4, R_t7__4, B_t7__4, A_t7_10, S_t7__5, R_t7__5, B_t7__5, A_t7_11, S_t7__6, R_t7__6, B_t7__6, A_t7_13, S_t7__7, R_t7__7, B_t7__7, A_t7_15, S_t7__8, R_t7__8, B_t7__8⟩ := id h_t7
    refine gv_aald hD rfl S_t_16 ⟨by decide, by decide⟩ ⟨by decide, B_t_16⟩ ⟨by exact gz_m 8 (by omega), by exact gz_m 9 (by omega)⟩ ((gc_aA S_t_16 rfl).trans A_t7) ?_
    show gv_X _ _ (39, [(2, .inl (I 54 (Int.toNat a1))), (0, .inr (.inr (some 61))), (1, .inl a1)], [.inr (.inr (some t7_))], sh, gc_h sh I J A)
    have f8 := (show 0 ≤ I t7_ 1 ∧ I t7_ 1 ≤ 95 from gc_in hI R_t7 rfl rfl)
    refine gv_get hD rfl rfl S_t7 ⟨by decide, B_t7⟩ (gc_hI S_t7 rfl) ?_
    show gv_X _ _ (42, [(2, .inl (I 54 (Int.toNat a1))), (0, .inr (.inr (some 61))), (1, .inl a1)], [.inl (I t7_ 1)], sh, gc_h sh I J A)
    refine gv_pick [] rfl ?_
    exact L42 (I t7_ 1) (by exact gz_m 10 (by omega))
  · show gv_X _ _ (14, [(2, .inl (I 54 (Int.toNat a1))), (0, .inr (.inr (some 61))), (1, .inl a1)], [], sh, gc_h sh I J A)
    refine gv_run 1 true hD (pc' := 15) (lv' := [(2, .inl (I 54 (Int.toNat a1))), (0, .inr (.inr (some 61))), (1, .inl a1)]) (st' := [.inr (.inr (some 61))]) (h' := gc_h sh I J A) (C := (True ∧ True)) rfl ⟨trivial, trivial⟩ ?_
    refine gv_get hD rfl rfl S_61 ⟨by decide, B_61⟩ (gc_h5 (t := t) S_61 rfl (by exact gz_m 11 (by omega))) ?_
    show gv_X _ _ (18, [(2, .inl (I 54 (Int.toNat a1))), (0, .inr (.inr (some 61))), (1, .inl a1)], [.inr (.inr (some t))], sh, gc_h sh I J A)
    have f9 := gw_div (x := ((I 54 (Int.toNat a1)))) (y := 24) ⟨by exact gz_m 12 (by omega), by exact gz_m 13 (by omega)⟩ ⟨by exact gz_m 14 (by omega), by exact gz_m 15 (by omega)⟩
    refine gv_run 3 true hD (pc' := 22) (lv' := [(2, .inl (I 54 (Int.toNat a1))), (0, .inr (.inr (some 61))), (1, .inl a1)]) (st' := [.inl ((Int32.ofInt ((I 54 (Int.toNat a1))) / Int32.ofInt 24).toInt), .inr (.inr (some t))]) (h' := gc_h sh I J A) (C := (((True ∧ True) ∧ True) ∧ (gz_R 24 ∧ ¬ 24 = 0))) rfl ⟨⟨⟨trivial, trivial⟩, trivial⟩, ⟨⟨by exact gz_m 16 (by omega), by exact gz_m 17 (by omega)⟩, by exact gz_m 18 (by omega)⟩⟩ ?_
    obtain ⟨r10, h10, E10, P10⟩ := d_X11_wordFun (ws0 := ws0) (tb := tb) hws htb sh ro I J A hI t (((Int32.ofInt ((I 54 (Int.toNat a1))) / Int32.ofInt 24).toInt)) h_t   ⟨by exact gz_m 19 (by omega), by exact gz_m 20 (by omega)⟩  
    obtain ⟨rfl, ⟨z10, rfl, q10⟩⟩ := P10
    refine gv_callV hD rfl (As := [.inl ((Int32.ofInt ((I 54 (Int.toNat a1))) / Int32.ofInt 24).toInt)]) (st := []) rfl B_t S_t rfl (gc_lV5 hws rfl) (Nat.le_of_ble_eq_true rfl) (gz_Ev_mono (d := 1) (by decide) E10) ?_
    show gv_X _ _ (25, [(2, .inl (I 54 (Int.toNat a1))), (0, .inr (.inr (some 61))), (1, .inl a1)], [.inl z10], sh, gc_h sh I J A)
    refine gv_run 1 true hD (pc' := 42) (lv' := [(2, .inl (I 54 (Int.toNat a1))), (0, .inr (.inr (some 61))), (1, .inl a1)]) (st' := [.inl z10]) (h' := gc_h sh I J A) (C := (True ∧ True)) rfl ⟨trivial, trivial⟩ ?_
    refine gv_pick [] rfl ?_
    exact L42 z10 (by exact gz_m 21 (by omega))
set_option maxHeartbeats 8000000 in
set_option maxRecDepth 100000 in
theorem d_X5_slotsOf {ws0 : List Cond} {tb : String → gz_T} (hws : gc_Ws ws0) (htb : gc_tbs tb) (sh : gz_Sh) (ro : Nat → Nat) (I : gr_I) (J : gr_J) (A : gc_A) (hI : gc_Inv ro I) (t : Nat) (a1 : Int) (hb : gc_Base sh ro A) (h_t : gc_isTongue sh ro A t) (G_t : 144 ≤ t) (ha1 : 0 ≤ a1 ∧ a1 ≤ 8999) (x0 : gc_Ls sh ro A t I) (x1 : gc_WV t I) (x2 : a1 < I 48 6) (x3 : I 61 2 = (t : Int)) : ∃ r h', gz_Ev ws0 tb 1 (yX5_slotsOf, cX5_slotsOf, 3, (some .int)) [.inr (.inr (some 61)), .inl a1] sh (gc_h sh I J A) r sh h' 0 0 ∧ (h' = gc_h sh I J A ∧ (∃ z : Int, r = some (.inl z) ∧ 0 ≤ z ∧ z ≤ 4 ∧ (z = gc_sl A I t (Int.toNat a1)))) := by
  have A_48_8 : A 48 8 = some 54 := gc_bA hb rfl
  have A_61_1 : A 61 1 = some 48 := gc_bA hb rfl
  have B_48 : 48 < 1000000 := by decide
  have B_54 : 54 < 1000000 := by decide
  have B_61 : 61 < 1000000 := by decide
  have R_54 : ro 54 = 46 := gc_bR hb (by decide) rfl
  have R_61 : ro 61 = 72 := gc_bR hb (by decide) rfl
  have S_48 : sh[48]? = some (false, 0, 22) := gc_bS hb rfl
  have S_54 : sh[54]? = some (true, 1, 9000) := gc_bS hb rfl
  have S_61 : sh[61]? = some (false, 5, 19) := gc_bS hb rfl
  obtain ⟨S_t, R_t, B_t, A_t_0, h_t_1, A_t_1, h_t_3, A_t_2, S_t_5, R_t_5, B_t_5, A_t_3, S_t_6, R_t_6, B_t_6, A_t_4, h_t_7, A_t_5, S_t_9, R_t_9, B_t_9, A_t_7, S_t_10, R_t_10, B_t_10, A_t_8, h_t_11, A_t_9, S_t_13, R_t_13, B_t_13, A_t_10, S_t_14, R_t_14, B_t_14, A_t_12, S_t_15, R_t_15, B_t_15, A_t_14, S_t_16, R_t_16, B_t_16, A_t_15, h_t_17⟩ := id h_t
  obtain ⟨S_t_1, R_t_1, B_t_1, A_t_1_0, S_t_1_1, R_t_1_1, B_t_1_1, Q0_t_1, Q1_t_1, Q2_t_1⟩ := id h_t_1
  obtain ⟨S_t_3, R_t_3, B_t_3, A_t_3_0, S_t_3_1, R_t_3_1, B_t_3_1, Q0_t_3, Q1_t_3, Q2_t_3⟩ := id h_t_3
  obtain ⟨S_t_7, R_t_7, B_t_7, A_t_7_0, S_t_7_1, R_t_7_1, B_t_7_1, Q0_t_7, Q1_t_7, Q2_t_7⟩ := id h_t_7
  obtain ⟨S_t_11, R_t_11, B_t_11, A_t_11_0, S_t_11_1, R_t_11_1, B_t_11_1, Q0_t_11, Q1_t_11, Q2_t_11⟩ := id h_t_11
  obtain ⟨S_t_17, R_t_17, B_t_17, A_t_17_0, S_20, R_20, B_20, A_t_17_1, S_t_17_1, R_t_17_1, B_t_17_1, A_t_17_2, S_t_17_2, R_t_17_2, B_t_17_2, A_t_17_3, S_t_17_3, R_t_17_3, B_t_17_3, A_t_17_4, S_t_17_4, R_t_17_4, B_t_17_4, A_t_17_5, S_t_17_5, R_t_17_5, B_t_17_5, S_t_17_6, R_t_17_6, B_t_17_6, S_t_17_7, R_t_17_7, B_t_17_7⟩ := id h_t_17
  have hD : gv_D (gc_E5 ws0 tb 0 (yX5_slotsOf, cX5_slotsOf, 3, (some .int)) kX5_slotsOf) := gq_of oX5_slotsOf
  refine gc_ev5 (d := 0) (l := kX5_slotsOf) (Po := fun r h' => (h' = gc_h sh I J A ∧ (∃ z : Int, r = some (.inl z) ∧ 0 ≤ z ∧ z ≤ 4 ∧ (z = gc_sl A I t (Int.toNat a1))))) htb rfl (Nat.le_of_ble_eq_true rfl) ?_
  have f1 := (show (-1) ≤ I 61 2 ∧ I 61 2 ≤ 999999 from gc_in hI R_61 rfl rfl)
  have L32 : ∀ (s0_2 : Int), ((0 ≤ s0_2 ∧ s0_2 ≤ 4) ∧ (I 61 2 = (t : Int))) → (s0_2 = gc_sl A I t (Int.toNat a1)) → gv_X (gc_E5 ws0 tb 0 (yX5_slotsOf, cX5_slotsOf, 3, (some .int)) kX5_slotsOf) (gv_Q cX5_slotsOf (some .int) sh (fun r h' => (h' = gc_h sh I J A ∧ (∃ z : Int, r = some (.inl z) ∧ 0 ≤ z ∧ z ≤ 4 ∧ (z = gc_sl A I t (Int.toNat a1)))))) (32, [], [.inl s0_2], sh, gc_h sh I J A) := by
    intro s0_2 m_2 e0_2
    obtain ⟨hs0_2, e1_2⟩ := m_2
    have f3 := (show (-1) ≤ I 61 2 ∧ I 61 2 ≤ 999999 from gc_in hI R_61 rfl rfl)
    exact gv_iret hD rfl ⟨rfl, ⟨_, rfl, by exact gz_m 0 (by omega), by exact gz_m 1 (by omega), e0_2⟩⟩
  refine gv_run 1 true hD (pc' := 1) (lv' := [(0, .inr (.inr (some 61))), (1, .inl a1)]) (st' := [.inr (.inr (some 61))]) (h' := gc_h sh I J A) (C := (True ∧ True)) rfl ⟨trivial, trivial⟩ ?_
  refine gv_get hD rfl rfl S_61 ⟨by decide, B_61⟩ (gc_hA S_61 rfl A_61_1) ?_
  show gv_X _ _ (4, [(0, .inr (.inr (some 61))), (1, .inl a1)], [.inr (.inr (some 48))], sh, gc_h sh I J A)
  refine gv_get hD rfl rfl S_48 ⟨by decide, B_48⟩ (gc_hA S_48 rfl A_48_8) ?_
  show gv_X _ _ (7, [(0, .inr (.inr (some 61))), (1, .inl a1)], [.inr (.inr (some 54))], sh, gc_h sh I J A)
  refine gv_run 1 true hD (pc' := 8) (lv' := [(0, .inr (.inr (some 61))), (1, .inl a1)]) (st' := [.inl a1, .inr (.inr (some 54))]) (h' := gc_h sh I J A) (C := (True ∧ True)) rfl ⟨trivial, trivial⟩ ?_
  have f4 := (show (-384) ≤ I 54 (Int.toNat a1) ∧ I 54 (Int.toNat a1) ≤ 1535 from gc_in hI R_54 rfl rfl)
  refine gv_iald hD rfl S_54 rfl ⟨by decide, B_54⟩ ⟨by exact gz_m 2 (by omega), by exact gz_m 3 (by omega)⟩ (gc_iI S_54 rfl) ?_
  show gv_X _ _ (9, [(0, .inr (.inr (some 61))), (1, .inl a1)], [.inl (I 54 (Int.toNat a1))], sh, gc_h sh I J A)
  refine gv_run 1 true hD (pc' := 10) (lv' := [(2, .inl (I 54 (Int.toNat a1))), (0, .inr (.inr (some 61))), (1, .inl a1)]) (st' := []) (h' := gc_h sh I J A) (C := (True ∧ True)) rfl ⟨trivial, trivial⟩ ?_
  have t5 := x1 (Int.toNat a1) (by exact gz_m 4 (by omega))
  refine gv_run 1 true hD (pc' := 11) (lv' := [(2, .inl (I 54 (Int.toNat a1))), (0, .inr (.inr (some 61))), (1, .inl a1)]) (st' := [.inl (I 54 (Int.toNat a1))]) (h' := gc_h sh I J A) (C := (True ∧ True)) rfl ⟨trivial, trivial⟩ ?_
  refine gv_if_lt (t := 18) hD rfl rfl ⟨by exact gz_m 5 (by omega), by exact gz_m 6 (by omega)⟩ (fun c6 => ?_) (fun c6 => ?_)
  · show gv_X _ _ (18, [(2, .inl (I 54 (Int.toNat a1))), (0, .inr (.inr (some 61))), (1, .inl a1)], [], sh, gc_h sh I J A)
    refine gv_run 1 true hD (pc' := 19) (lv' := [(2, .inl (I 54 (Int.toNat a1))), (0, .inr (.inr (some 61))), (1, .inl a1)]) (st' := [.inr (.inr (some 61))]) (h' := gc_h sh I J A) (C := (True ∧ True)) rfl ⟨trivial, trivial⟩ ?_
    refine gv_get hD rfl rfl S_61 ⟨by decide, B_61⟩ (gc_h5 (t := t) S_61 rfl (by exact gz_m 7 (by omega))) ?_
    show gv_X _ _ (22, [(2, .inl (I 54 (Int.toNat a1))), (0, .inr (.inr (some 61))), (1, .inl a1)], [.inr (.inr (some t))], sh, gc_h sh I J A)
    refine gv_get hD rfl rfl S_t ⟨by decide, B_t⟩ (gc_hA S_t rfl A_t_14) ?_
    show gv_X _ _ (25, [(2, .inl (I 54 (Int.toNat a1))), (0, .inr (.inr (some 61))), (1, .inl a1)], [.inr (.inr (some (t + 16)))], sh, gc_h sh I J A)
    refine gv_run 3 true hD (pc' := 28) (lv' := [(2, .inl (I 54 (Int.toNat a1))), (0, .inr (.inr (some 61))), (1, .inl a1)]) (st' := [.inl ((-1) - (I 54 (Int.toNat a1))), .inr (.inr (some (t + 16)))]) (h' := gc_h sh I J A) (C := (((True ∧ True) ∧ True) ∧ True)) rfl ⟨⟨⟨trivial, trivial⟩, trivial⟩, trivial⟩ ?_
    obtain ⟨t7_, A_t7, h_t7, G_t7, U_t7, V_t7⟩ := x0 (Int.toNat (((-1) - (I 54 (Int.toNat a1))))) (by exact gz_m 8 (by omega))
    obtain ⟨S_t7, R_t7, B_t7, A_t7_5, S_t7__1, R_t7__1, B_t7__1, A_t7_6, S_t7__2, R_t7__2, B_t7__2, A_t7_7, S_t7__3, R_t7__3, B_t7__3, A_t7_9, S_t7__4, R_t7__4, B_t7__4, A_t7_10, S_t7__5, R_t7__5, B_t7__5, A_t7_11, S_t7__6, R_t7__6, B_t7__6, A_t7_13, S_t7__7, R_t7__7, B_t7__7, A_t7_15, S_t7__8, R_t7__8, B_t7__8⟩ := id h_t7
    refine gv_aald hD rfl S_t_16 ⟨by decide, by decide⟩ ⟨by decide, B_t_16⟩ ⟨by exact gz_m 9 (by omega), by exact gz_m 10 (by omega)⟩ ((gc_aA S_t_16 rfl).trans A_t7) ?_
    show gv_X _ _ (29, [(2, .inl (I 54 (Int.toNat a1))), (0, .inr (.inr (some 61))), (1, .inl a1)], [.inr (.inr (some t7_))], sh, gc_h sh I J A)
    have f8 := (show 0 ≤ I t7_ 8 ∧ I t7_ 8 ≤ 4 from gc_in hI R_t7 rfl rfl)
    refine gv_get hD rfl rfl S_t7 ⟨by decide, B_t7⟩ (gc_hI S_t7 rfl) ?_
    show gv_X _ _ (32, [(2, .inl (I 54 (Int.toNat a1))), (0, .inr (.inr (some 61))), (1, .inl a1)], [.inl (I t7_ 8)], sh, gc_h sh I J A)
    refine gv_pick [] rfl ?_
    exact L32 (I t7_ 8) (by exact gz_m 11 (by omega)) (gc_sl_1 (by exact gz_m 12 (by omega)) A_t7).symm
  · show gv_X _ _ (14, [(2, .inl (I 54 (Int.toNat a1))), (0, .inr (.inr (some 61))), (1, .inl a1)], [], sh, gc_h sh I J A)
    refine gv_run 2 true hD (pc' := 32) (lv' := [(2, .inl (I 54 (Int.toNat a1))), (0, .inr (.inr (some 61))), (1, .inl a1)]) (st' := [.inl 0]) (h' := gc_h sh I J A) (C := ((True ∧ True) ∧ True)) rfl ⟨⟨trivial, trivial⟩, trivial⟩ ?_
    refine gv_pick [] rfl ?_
    exact L32 0 (by exact gz_m 13 (by omega)) (gc_sl_0 (by exact gz_m 14 (by omega))).symm
set_option maxHeartbeats 8000000 in
set_option maxRecDepth 100000 in
theorem d_X5_compareArguments {ws0 : List Cond} {tb : String → gz_T} (hws : gc_Ws ws0) (htb : gc_tbs tb) (sh : gz_Sh) (ro : Nat → Nat) (I : gr_I) (J : gr_J) (A : gc_A) (hI : gc_Inv ro I) (a1 : Int) (a2 : Int) (a3 : Int) (hb : gc_Base sh ro A) (ha1 : 0 ≤ a1 ∧ a1 ≤ 35996) (ha2 : 0 ≤ a2 ∧ a2 ≤ 35996) (ha3 : 0 ≤ a3 ∧ a3 ≤ 4)  : ∃ r h', gz_Ev ws0 tb 1 (yX5_compareArguments, cX5_compareArguments, 6, (some .int)) [.inr (.inr (some 61)), .inl a1, .inl a2, .inl a3] sh (gc_h sh I J A) r sh h' 0 0 ∧ (h' = gc_h sh I J A ∧ (∃ z : Int, r = some (.inl z) ∧ (-16777215) ≤ z ∧ z ≤ 16777215)) := by
  have A_48_4 : A 48 4 = some 51 := gc_bA hb rfl
  have A_48_5 : A 48 5 = some 52 := gc_bA hb rfl
  have A_48_9 : A 48 9 = some 55 := gc_bA hb rfl
  have A_61_1 : A 61 1 = some 48 := gc_bA hb rfl
  have B_48 : 48 < 1000000 := by decide
  have B_51 : 51 < 1000000 := by decide
  have B_52 : 52 < 1000000 := by decide
  have B_55 : 55 < 1000000 := by decide
  have B_61 : 61 < 1000000 := by decide
  have R_51 : ro 51 = 45 := gc_bR hb (by decide) rfl
  have R_52 : ro 52 = 13 := gc_bR hb (by decide) rfl
  have R_55 : ro 55 = 44 := gc_bR hb (by decide) rfl
  have S_48 : sh[48]? = some (false, 0, 22) := gc_bS hb rfl
  have S_51 : sh[51]? = some (true, 1, 3000) := gc_bS hb rfl
  have S_52 : sh[52]? = some (true, 1, 3000) := gc_bS hb rfl
  have S_55 : sh[55]? = some (true, 1, 36000) := gc_bS hb rfl
  have S_61 : sh[61]? = some (false, 5, 19) := gc_bS hb rfl
  have hD : gv_D (gc_E5 ws0 tb 0 (yX5_compareArguments, cX5_compareArguments, 6, (some .int)) kX5_compareArguments) := gq_of oX5_compareArguments
  refine gc_ev5 (d := 0) (l := kX5_compareArguments) (Po := fun r h' => (h' = gc_h sh I J A ∧ (∃ z : Int, r = some (.inl z) ∧ (-16777215) ≤ z ∧ z ≤ 16777215))) htb rfl (Nat.le_of_ble_eq_true rfl) ?_
  have L3 : ∀ (n9 : Nat) (v4_1 : Int), (5 - v4_1).toNat < n9 → ((0 ≤ a1 ∧ a1 ≤ 35996) ∧ (0 ≤ a2 ∧ a2 ≤ 35996) ∧ (0 ≤ a3 ∧ a3 ≤ 4) ∧ (0 ≤ v4_1 ∧ v4_1 ≤ 4)) → gv_X (gc_E5 ws0 tb 0 (yX5_compareArguments, cX5_compareArguments, 6, (some .int)) kX5_compareArguments) (gv_Q cX5_compareArguments (some .int) sh (fun r h' => (h' = gc_h sh I J A ∧ (∃ z : Int, r = some (.inl z) ∧ (-16777215) ≤ z ∧ z ≤ 16777215)))) (3, [(0, .inr (.inr (some 61))), (1, .inl a1), (2, .inl a2), (3, .inl a3), (4, .inl v4_1)], [], sh, gc_h sh I J A) := by
    intro n9
    induction n9 with
    | zero => intro v4_1 hn; exact gz_m 0 (by omega)
    | succ n9 ih3 =>
      intro v4_1 hn m_1
      obtain ⟨ha1_1, ha2_1, ha3_1, hv4_1⟩ := m_1
      have L69 : ∀ (n9 : Nat) (v4_2 : Int), (5 - v4_2).toNat < n9 → ((0 ≤ a1 ∧ a1 ≤ 35996) ∧ (0 ≤ a2 ∧ a2 ≤ 35996) ∧ (0 ≤ a3 ∧ a3 ≤ 4) ∧ (0 ≤ v4_2 ∧ v4_2 ≤ 4)) → gv_X (gc_E5 ws0 tb 0 (yX5_compareArguments, cX5_compareArguments, 6, (some .int)) kX5_compareArguments) (gv_Q cX5_compareArguments (some .int) sh (fun r h' => (h' = gc_h sh I J A ∧ (∃ z : Int, r = some (.inl z) ∧ (-16777215) ≤ z ∧ z ≤ 16777215)))) (69, [(0, .inr (.inr (some 61))), (1, .inl a1), (2, .inl a2), (3, .inl a3), (4, .inl v4_2)], [], sh, gc_h sh I J A) := by
        intro n9
        induction n9 with
        | zero => intro v4_2 hn; exact gz_m 1 (by omega)
        | succ n9 ih69 =>
          intro v4_2 hn m_2
          obtain ⟨ha1_2, ha2_2, ha3_2, hv4_2⟩ := m_2
          refine gv_run 2 true hD (pc' := 72) (lv' := [(0, .inr (.inr (some 61))), (1, .inl a1), (2, .inl a2), (3, .inl a3), (4, .inl v4_2)]) (st' := [.inl a3, .inl v4_2]) (h' := gc_h sh I J A) (C := ((True ∧ True) ∧ True)) rfl ⟨⟨trivial, trivial⟩, trivial⟩ ?_
          refine gv_icmp_ge (t := 132) hD rfl rfl ⟨⟨by exact gz_m 2 (by omega), by exact gz_m 3 (by omega)⟩, ⟨by exact gz_m 4 (by omega), by exact gz_m 5 (by omega)⟩⟩ (fun c3 => ?_) (fun c3 => ?_)
          · show gv_X _ _ (132, [(0, .inr (.inr (some 61))), (1, .inl a1), (2, .inl a2), (3, .inl a3), (4, .inl v4_2)], [], sh, gc_h sh I J A)
            refine gv_run 1 true hD (pc' := 133) (lv' := [(0, .inr (.inr (some 61))), (1, .inl a1), (2, .inl a2), (3, .inl a3), (4, .inl v4_2)]) (st' := [.inl 0]) (h' := gc_h sh I J A) (C := (True ∧ True)) rfl ⟨trivial, trivial⟩ ?_
            exact gv_iret hD rfl ⟨rfl, ⟨_, rfl, by exact gz_m 6 (by omega)⟩⟩
          · show gv_X _ _ (75, [(0, .inr (.inr (some 61))), (1, .inl a1), (2, .inl a2), (3, .inl a3), (4, .inl v4_2)], [], sh, gc_h sh I J A)
            refine gv_run 1 true hD (pc' := 76) (lv' := [(0, .inr (.inr (some 61))), (1, .inl a1), (2, .inl a2), (3, .inl a3), (4, .inl v4_2)]) (st' := [.inr (.inr (some 61))]) (h' := gc_h sh I J A) (C := (True ∧ True)) rfl ⟨trivial, trivial⟩ ?_
            refine gv_get hD rfl rfl S_61 ⟨by decide, B_61⟩ (gc_hA S_61 rfl A_61_1) ?_
            show gv_X _ _ (79, [(0, .inr (.inr (some 61))), (1, .inl a1), (2, .inl a2), (3, .inl a3), (4, .inl v4_2)], [.inr (.inr (some 48))], sh, gc_h sh I J A)
            refine gv_get hD rfl rfl S_48 ⟨by decide, B_48⟩ (gc_hA S_48 rfl A_48_5) ?_
            show gv_X _ _ (82, [(0, .inr (.inr (some 61))), (1, .inl a1), (2, .inl a2), (3, .inl a3), (4, .inl v4_2)], [.inr (.inr (some 52))], sh, gc_h sh I J A)
            refine gv_run 1 true hD (pc' := 83) (lv' := [(0, .inr (.inr (some 61))), (1, .inl a1), (2, .inl a2), (3, .inl a3), (4, .inl v4_2)]) (st' := [.inr (.inr (some 61)), .inr (.inr (some 52))]) (h' := gc_h sh I J A) (C := (True ∧ True)) rfl ⟨trivial, trivial⟩ ?_
            refine gv_get hD rfl rfl S_61 ⟨by decide, B_61⟩ (gc_hA S_61 rfl A_61_1) ?_
            show gv_X _ _ (86, [(0, .inr (.inr (some 61))), (1, .inl a1), (2, .inl a2), (3, .inl a3), (4, .inl v4_2)], [.inr (.inr (some 48)), .inr (.inr (some 52))], sh, gc_h sh I J A)
            refine gv_get hD rfl rfl S_48 ⟨by decide, B_48⟩ (gc_hA S_48 rfl A_48_9) ?_
            show gv_X _ _ (89, [(0, .inr (.inr (some 61))), (1, .inl a1), (2, .inl a2), (3, .inl a3), (4, .inl v4_2)], [.inr (.inr (some 55)), .inr (.inr (some 52))], sh, gc_h sh I J A)
            refine gv_run 3 true hD (pc' := 93) (lv' := [(0, .inr (.inr (some 61))), (1, .inl a1), (2, .inl a2), (3, .inl a3), (4, .inl v4_2)]) (st' := [.inl (a1 + v4_2), .inr (.inr (some 55)), .inr (.inr (some 52))]) (h' := gc_h sh I J A) (C := (((True ∧ True) ∧ True) ∧ True)) rfl ⟨⟨⟨trivial, trivial⟩, trivial⟩, trivial⟩ ?_
            have f4 := (show 0 ≤ I 55 (Int.toNat (a1 + v4_2)) ∧ I 55 (Int.toNat (a1 + v4_2)) ≤ 2999 from gc_in hI R_55 rfl rfl)
            refine gv_iald hD rfl S_55 rfl ⟨by decide, B_55⟩ ⟨by exact gz_m 7 (by omega), by exact gz_m 8 (by omega)⟩ (gc_iI S_55 rfl) ?_
            show gv_X _ _ (94, [(0, .inr (.inr (some 61))), (1, .inl a1), (2, .inl a2), (3, .inl a3), (4, .inl v4_2)], [.inl (I 55 (Int.toNat (a1 + v4_2))), .inr (.inr (some 52))], sh, gc_h sh I J A)
            have f5 := (show 0 ≤ I 52 (Int.toNat ((I 55 (Int.toNat (a1 + v4_2))))) ∧ I 52 (Int.toNat ((I 55 (Int.toNat (a1 + v4_2))))) ≤ 16777215 from gc_in hI R_52 rfl rfl)
            refine gv_iald hD rfl S_52 rfl ⟨by decide, B_52⟩ ⟨by exact gz_m 9 (by omega), by exact gz_m 10 (by omega)⟩ (gc_iI S_52 rfl) ?_
            show gv_X _ _ (95, [(0, .inr (.inr (some 61))), (1, .inl a1), (2, .inl a2), (3, .inl a3), (4, .inl v4_2)], [.inl (I 52 (Int.toNat ((I 55 (Int.toNat (a1 + v4_2))))))], sh, gc_h sh I J A)
            refine gv_run 1 true hD (pc' := 96) (lv' := [(0, .inr (.inr (some 61))), (1, .inl a1), (2, .inl a2), (3, .inl a3), (4, .inl v4_2)]) (st' := [.inr (.inr (some 61)), .inl (I 52 (Int.toNat ((I 55 (Int.toNat (a1 + v4_2))))))]) (h' := gc_h sh I J A) (C := (True ∧ True)) rfl ⟨trivial, trivial⟩ ?_
            refine gv_get hD rfl rfl S_61 ⟨by decide, B_61⟩ (gc_hA S_61 rfl A_61_1) ?_
            show gv_X _ _ (99, [(0, .inr (.inr (some 61))), (1, .inl a1), (2, .inl a2), (3, .inl a3), (4, .inl v4_2)], [.inr (.inr (some 48)), .inl (I 52 (Int.toNat ((I 55 (Int.toNat (a1 + v4_2))))))], sh, gc_h sh I J A)
            refine gv_get hD rfl rfl S_48 ⟨by decide, B_48⟩ (gc_hA S_48 rfl A_48_5) ?_
            show gv_X _ _ (102, [(0, .inr (.inr (some 61))), (1, .inl a1), (2, .inl a2), (3, .inl a3), (4, .inl v4_2)], [.inr (.inr (some 52)), .inl (I 52 (Int.toNat ((I 55 (Int.toNat (a1 + v4_2))))))], sh, gc_h sh I J A)
            refine gv_run 1 true hD (pc' := 103) (lv' := [(0, .inr (.inr (some 61))), (1, .inl a1), (2, .inl a2), (3, .inl a3), (4, .inl v4_2)]) (st' := [.inr (.inr (some 61)), .inr (.inr (some 52)), .inl (I 52 (Int.toNat ((I 55 (Int.toNat (a1 + v4_2))))))]) (h' := gc_h sh I J A) (C := (True ∧ True)) rfl ⟨trivial, trivial⟩ ?_
            refine gv_get hD rfl rfl S_61 ⟨by decide, B_61⟩ (gc_hA S_61 rfl A_61_1) ?_
            show gv_X _ _ (106, [(0, .inr (.inr (some 61))), (1, .inl a1), (2, .inl a2), (3, .inl a3), (4, .inl v4_2)], [.inr (.inr (some 48)), .inr (.inr (some 52)), .inl (I 52 (Int.toNat ((I 55 (Int.toNat (a1 + v4_2))))))], sh, gc_h sh I J A)
            refine gv_get hD rfl rfl S_48 ⟨by decide, B_48⟩ (gc_hA S_48 rfl A_48_9) ?_
            show gv_X _ _ (109, [(0, .inr (.inr (some 61))), (1, .inl a1), (2, .inl a2), (3, .inl a3), (4, .inl v4_2)], [.inr (.inr (some 55)), .inr (.inr (some 52)), .inl (I 52 (Int.toNat ((I 55 (Int.toNat (a1 + v4_2))))))], sh, gc_h sh I J A)
            refine gv_run 3 true hD (pc' := 113) (lv' := [(0, .inr (.inr (some 61))), (1, .inl a1), (2, .inl a2), (3, .inl a3), (4, .inl v4_2)]) (st' := [.inl (a2 + v4_2), .inr (.inr (some 55)), .inr (.inr (some 52)), .inl (I 52 (Int.toNat ((I 55 (Int.toNat (a1 + v4_2))))))]) (h' := gc_h sh I J A) (C := (((True ∧ True) ∧ True) ∧ True)) rfl ⟨⟨⟨trivial, trivial⟩, trivial⟩, trivial⟩ ?_
            have f6 := (show 0 ≤ I 55 (Int.toNat (a2 + v4_2)) ∧ I 55 (Int.toNat (a2 + v4_2)) ≤ 2999 from gc_in hI R_55 rfl rfl)
            refine gv_iald hD rfl S_55 rfl ⟨by decide, B_55⟩ ⟨by exact gz_m 11 (by omega), by exact gz_m 12 (by omega)⟩ (gc_iI S_55 rfl) ?_
            show gv_X _ _ (114, [(0, .inr (.inr (some 61))), (1, .inl a1), (2, .inl a2), (3, .inl a3), (4, .inl v4_2)], [.inl (I 55 (Int.toNat (a2 + v4_2))), .inr (.inr (some 52)), .inl (I 52 (Int.toNat ((I 55 (Int.toNat (a1 + v4_2))))))], sh, gc_h sh I J A)
            have f7 := (show 0 ≤ I 52 (Int.toNat ((I 55 (Int.toNat (a2 + v4_2))))) ∧ I 52 (Int.toNat ((I 55 (Int.toNat (a2 + v4_2))))) ≤ 16777215 from gc_in hI R_52 rfl rfl)
            refine gv_iald hD rfl S_52 rfl ⟨by decide, B_52⟩ ⟨by exact gz_m 13 (by omega), by exact gz_m 14 (by omega)⟩ (gc_iI S_52 rfl) ?_
            show gv_X _ _ (115, [(0, .inr (.inr (some 61))), (1, .inl a1), (2, .inl a2), (3, .inl a3), (4, .inl v4_2)], [.inl (I 52 (Int.toNat ((I 55 (Int.toNat (a2 + v4_2)))))), .inl (I 52 (Int.toNat ((I 55 (Int.toNat (a1 + v4_2))))))], sh, gc_h sh I J A)
            refine gv_run 3 true hD (pc' := 120) (lv' := [(5, .inl ((I 52 (Int.toNat ((I 55 (Int.toNat (a1 + v4_2)))))) - (I 52 (Int.toNat ((I 55 (Int.toNat (a2 + v4_2)))))))), (0, .inr (.inr (some 61))), (1, .inl a1), (2, .inl a2), (3, .inl a3), (4, .inl v4_2)]) (st' := [.inl ((I 52 (Int.toNat ((I 55 (Int.toNat (a1 + v4_2)))))) - (I 52 (Int.toNat ((I 55 (Int.toNat (a2 + v4_2)))))))]) (h' := gc_h sh I J A) (C := (((True ∧ True) ∧ True) ∧ True)) rfl ⟨⟨⟨trivial, trivial⟩, trivial⟩, trivial⟩ ?_
            refine gv_if_eq (t := 126) hD rfl rfl ⟨by exact gz_m 15 (by omega), by exact gz_m 16 (by omega)⟩ (fun c8 => ?_) (fun c8 => ?_)
            · show gv_X _ _ (126, [(5, .inl ((I 52 (Int.toNat ((I 55 (Int.toNat (a1 + v4_2)))))) - (I 52 (Int.toNat ((I 55 (Int.toNat (a2 + v4_2)))))))), (0, .inr (.inr (some 61))), (1, .inl a1), (2, .inl a2), (3, .inl a3), (4, .inl v4_2)], [], sh, gc_h sh I J A)
              refine gv_run 2 true hD (pc' := 69) (lv' := [(4, .inl (v4_2 + 1)), (5, .inl ((I 52 (Int.toNat ((I 55 (Int.toNat (a1 + v4_2)))))) - (I 52 (Int.toNat ((I 55 (Int.toNat (a2 + v4_2)))))))), (0, .inr (.inr (some 61))), (1, .inl a1), (2, .inl a2), (3, .inl a3)]) (st' := []) (h' := gc_h sh I J A) (C := ((True ∧ True) ∧ True)) rfl ⟨⟨trivial, trivial⟩, trivial⟩ ?_
              refine gv_pick [2, 3, 4, 5, 0] rfl ?_
              exact ih69 (v4_2 + 1) (by exact gz_m 17 (by omega)) (by exact gz_m 18 (by omega))
            · show gv_X _ _ (123, [(5, .inl ((I 52 (Int.toNat ((I 55 (Int.toNat (a1 + v4_2)))))) - (I 52 (Int.toNat ((I 55 (Int.toNat (a2 + v4_2)))))))), (0, .inr (.inr (some 61))), (1, .inl a1), (2, .inl a2), (3, .inl a3), (4, .inl v4_2)], [], sh, gc_h sh I J A)
              refine gv_run 1 true hD (pc' := 125) (lv' := [(5, .inl ((I 52 (Int.toNat ((I 55 (Int.toNat (a1 + v4_2)))))) - (I 52 (Int.toNat ((I 55 (Int.toNat (a2 + v4_2)))))))), (0, .inr (.inr (some 61))), (1, .inl a1), (2, .inl a2), (3, .inl a3), (4, .inl v4_2)]) (st' := [.inl ((I 52 (Int.toNat ((I 55 (Int.toNat (a1 + v4_2)))))) - (I 52 (Int.toNat ((I 55 (Int.toNat (a2 + v4_2)))))))]) (h' := gc_h sh I J A) (C := (True ∧ True)) rfl ⟨trivial, trivial⟩ ?_
              exact gv_iret hD rfl ⟨rfl, ⟨_, rfl, by exact gz_m 19 (by omega)⟩⟩
      refine gv_run 2 true hD (pc' := 6) (lv' := [(0, .inr (.inr (some 61))), (1, .inl a1), (2, .inl a2), (3, .inl a3), (4, .inl v4_1)]) (st' := [.inl a3, .inl v4_1]) (h' := gc_h sh I J A) (C := ((True ∧ True) ∧ True)) rfl ⟨⟨trivial, trivial⟩, trivial⟩ ?_
      refine gv_icmp_ge (t := 66) hD rfl rfl ⟨⟨by exact gz_m 20 (by omega), by exact gz_m 21 (by omega)⟩, ⟨by exact gz_m 22 (by omega), by exact gz_m 23 (by omega)⟩⟩ (fun c9 => ?_) (fun c9 => ?_)
      · show gv_X _ _ (66, [(0, .inr (.inr (some 61))), (1, .inl a1), (2, .inl a2), (3, .inl a3), (4, .inl v4_1)], [], sh, gc_h sh I J A)
        refine gv_run 2 true hD (pc' := 69) (lv' := [(4, .inl 0), (0, .inr (.inr (some 61))), (1, .inl a1), (2, .inl a2), (3, .inl a3)]) (st' := []) (h' := gc_h sh I J A) (C := ((True ∧ True) ∧ True)) rfl ⟨⟨trivial, trivial⟩, trivial⟩ ?_
        refine gv_pick [1, 2, 3, 4, 0] rfl ?_
        exact L69 _ 0 (Nat.lt_succ_self _) (by exact gz_m 24 (by omega))
      · show gv_X _ _ (9, [(0, .inr (.inr (some 61))), (1, .inl a1), (2, .inl a2), (3, .inl a3), (4, .inl v4_1)], [], sh, gc_h sh I J A)
        refine gv_run 1 true hD (pc' := 10) (lv' := [(0, .inr (.inr (some 61))), (1, .inl a1), (2, .inl a2), (3, .inl a3), (4, .inl v4_1)]) (st' := [.inr (.inr (some 61))]) (h' := gc_h sh I J A) (C := (True ∧ True)) rfl ⟨trivial, trivial⟩ ?_
        refine gv_get hD rfl rfl S_61 ⟨by decide, B_61⟩ (gc_hA S_61 rfl A_61_1) ?_
        show gv_X _ _ (13, [(0, .inr (.inr (some 61))), (1, .inl a1), (2, .inl a2), (3, .inl a3), (4, .inl v4_1)], [.inr (.inr (some 48))], sh, gc_h sh I J A)
        refine gv_get hD rfl rfl S_48 ⟨by decide, B_48⟩ (gc_hA S_48 rfl A_48_4) ?_
        show gv_X _ _ (16, [(0, .inr (.inr (some 61))), (1, .inl a1), (2, .inl a2), (3, .inl a3), (4, .inl v4_1)], [.inr (.inr (some 51))], sh, gc_h sh I J A)
        refine gv_run 1 true hD (pc' := 17) (lv' := [(0, .inr (.inr (some 61))), (1, .inl a1), (2, .inl a2), (3, .inl a3), (4, .inl v4_1)]) (st' := [.inr (.inr (some 61)), .inr (.inr (some 51))]) (h' := gc_h sh I J A) (C := (True ∧ True)) rfl ⟨trivial, trivial⟩ ?_
        refine gv_get hD rfl rfl S_61 ⟨by decide, B_61⟩ (gc_hA S_61 rfl A_61_1) ?_
        show gv_X _ _ (20, [(0, .inr (.inr (some 61))), (1, .inl a1), (2, .inl a2), (3, .inl a3), (4, .inl v4_1)], [.inr (.inr (some 48)), .inr (.inr (some 51))], sh, gc_h sh I J A)
        refine gv_get hD rfl rfl S_48 ⟨by decide, B_48⟩ (gc_hA S_48 rfl A_48_9) ?_
        show gv_X _ _ (23, [(0, .inr (.inr (some 61))), (1, .inl a1), (2, .inl a2), (3, .inl a3), (4, .inl v4_1)], [.inr (.inr (some 55)), .inr (.inr (some 51))], sh, gc_h sh I J A)
        refine gv_run 3 true hD (pc' := 27) (lv' := [(0, .inr (.inr (some 61))), (1, .inl a1), (2, .inl a2), (3, .inl a3), (4, .inl v4_1)]) (st' := [.inl (a1 + v4_1), .inr (.inr (some 55)), .inr (.inr (some 51))]) (h' := gc_h sh I J A) (C := (((True ∧ True) ∧ True) ∧ True)) rfl ⟨⟨⟨trivial, trivial⟩, trivial⟩, trivial⟩ ?_
        have f10 := (show 0 ≤ I 55 (Int.toNat (a1 + v4_1)) ∧ I 55 (Int.toNat (a1 + v4_1)) ≤ 2999 from gc_in hI R_55 rfl rfl)
        refine gv_iald hD rfl S_55 rfl ⟨by decide, B_55⟩ ⟨by exact gz_m 25 (by omega), by exact gz_m 26 (by omega)⟩ (gc_iI S_55 rfl) ?_
        show gv_X _ _ (28, [(0, .inr (.inr (some 61))), (1, .inl a1), (2, .inl a2), (3, .inl a3), (4, .inl v4_1)], [.inl (I 55 (Int.toNat (a1 + v4_1))), .inr (.inr (some 51))], sh, gc_h sh I J A)
        have f11 := (show 0 ≤ I 51 (Int.toNat ((I 55 (Int.toNat (a1 + v4_1))))) ∧ I 51 (Int.toNat ((I 55 (Int.toNat (a1 + v4_1))))) ≤ 24 from gc_in hI R_51 rfl rfl)
        refine gv_iald hD rfl S_51 rfl ⟨by decide, B_51⟩ ⟨by exact gz_m 27 (by omega), by exact gz_m 28 (by omega)⟩ (gc_iI S_51 rfl) ?_
        show gv_X _ _ (29, [(0, .inr (.inr (some 61))), (1, .inl a1), (2, .inl a2), (3, .inl a3), (4, .inl v4_1)], [.inl (I 51 (Int.toNat ((I 55 (Int.toNat (a1 + v4_1))))))], sh, gc_h sh I J A)
        refine gv_run 1 true hD (pc' := 30) (lv' := [(0, .inr (.inr (some 61))), (1, .inl a1), (2, .inl a2), (3, .inl a3), (4, .inl v4_1)]) (st' := [.inr (.inr (some 61)), .inl (I 51 (Int.toNat ((I 55 (Int.toNat (a1 + v4_1))))))]) (h' := gc_h sh I J A) (C := (True ∧ True)) rfl ⟨trivial, trivial⟩ ?_
        refine gv_get hD rfl rfl S_61 ⟨by decide, B_61⟩ (gc_hA S_61 rfl A_61_1) ?_
        show gv_X _ _ (33, [(0, .inr (.inr (some 61))), (1, .inl a1), (2, .inl a2), (3, .inl a3), (4, .inl v4_1)], [.inr (.inr (some 48)), .inl (I 51 (Int.toNat ((I 55 (Int.toNat (a1 + v4_1))))))], sh, gc_h sh I J A)
        refine gv_get hD rfl rfl S_48 ⟨by decide, B_48⟩ (gc_hA S_48 rfl A_48_4) ?_
        show gv_X _ _ (36, [(0, .inr (.inr (some 61))), (1, .inl a1), (2, .inl a2), (3, .inl a3), (4, .inl v4_1)], [.inr (.inr (some 51)), .inl (I 51 (Int.toNat ((I 55 (Int.toNat (a1 + v4_1))))))], sh, gc_h sh I J A)
        refine gv_run 1 true hD (pc' := 37) (lv' := [(0, .inr (.inr (some 61))), (1, .inl a1), (2, .inl a2), (3, .inl a3), (4, .inl v4_1)]) (st' := [.inr (.inr (some 61)), .inr (.inr (some 51)), .inl (I 51 (Int.toNat ((I 55 (Int.toNat (a1 + v4_1))))))]) (h' := gc_h sh I J A) (C := (True ∧ True)) rfl ⟨trivial, trivial⟩ ?_
        refine gv_get hD rfl rfl S_61 ⟨by decide, B_61⟩ (gc_hA S_61 rfl A_61_1) ?_
        show gv_X _ _ (40, [(0, .inr (.inr (some 61))), (1, .inl a1), (2, .inl a2), (3, .inl a3), (4, .inl v4_1)], [.inr (.inr (some 48)), .inr (.inr (some 51)), .inl (I 51 (Int.toNat ((I 55 (Int.toNat (a1 + v4_1))))))], sh, gc_h sh I J A)
        refine gv_get hD rfl rfl S_48 ⟨by decide, B_48⟩ (gc_hA S_48 rfl A_48_9) ?_
        show gv_X _ _ (43, [(0, .inr (.inr (some 61))), (1, .inl a1), (2, .inl a2), (3, .inl a3), (4, .inl v4_1)], [.inr (.inr (some 55)), .inr (.inr (some 51)), .inl (I 51 (Int.toNat ((I 55 (Int.toNat (a1 + v4_1))))))], sh, gc_h sh I J A)
        refine gv_run 3 true hD (pc' := 47) (lv' := [(0, .inr (.inr (some 61))), (1, .inl a1), (2, .inl a2), (3, .inl a3), (4, .inl v4_1)]) (st' := [.inl (a2 + v4_1), .inr (.inr (some 55)), .inr (.inr (some 51)), .inl (I 51 (Int.toNat ((I 55 (Int.toNat (a1 + v4_1))))))]) (h' := gc_h sh I J A) (C := (((True ∧ True) ∧ True) ∧ True)) rfl ⟨⟨⟨trivial, trivial⟩, trivial⟩, trivial⟩ ?_
        have f12 := (show 0 ≤ I 55 (Int.toNat (a2 + v4_1)) ∧ I 55 (Int.toNat (a2 + v4_1)) ≤ 2999 from gc_in hI R_55 rfl rfl)
        refine gv_iald hD rfl S_55 rfl ⟨by decide, B_55⟩ ⟨by exact gz_m 29 (by omega), by exact gz_m 30 (by omega)⟩ (gc_iI S_55 rfl) ?_
        show gv_X _ _ (48, [(0, .inr (.inr (some 61))), (1, .inl a1), (2, .inl a2), (3, .inl a3), (4, .inl v4_1)], [.inl (I 55 (Int.toNat (a2 + v4_1))), .inr (.inr (some 51)), .inl (I 51 (Int.toNat ((I 55 (Int.toNat (a1 + v4_1))))))], sh, gc_h sh I J A)
        have f13 := (show 0 ≤ I 51 (Int.toNat ((I 55 (Int.toNat (a2 + v4_1))))) ∧ I 51 (Int.toNat ((I 55 (Int.toNat (a2 + v4_1))))) ≤ 24 from gc_in hI R_51 rfl rfl)
        refine gv_iald hD rfl S_51 rfl ⟨by decide, B_51⟩ ⟨by exact gz_m 31 (by omega), by exact gz_m 32 (by omega)⟩ (gc_iI S_51 rfl) ?_
        show gv_X _ _ (49, [(0, .inr (.inr (some 61))), (1, .inl a1), (2, .inl a2), (3, .inl a3), (4, .inl v4_1)], [.inl (I 51 (Int.toNat ((I 55 (Int.toNat (a2 + v4_1)))))), .inl (I 51 (Int.toNat ((I 55 (Int.toNat (a1 + v4_1))))))], sh, gc_h sh I J A)
        refine gv_run 3 true hD (pc' := 54) (lv' := [(5, .inl ((I 51 (Int.toNat ((I 55 (Int.toNat (a1 + v4_1)))))) - (I 51 (Int.toNat ((I 55 (Int.toNat (a2 + v4_1)))))))), (0, .inr (.inr (some 61))), (1, .inl a1), (2, .inl a2), (3, .inl a3), (4, .inl v4_1)]) (st' := [.inl ((I 51 (Int.toNat ((I 55 (Int.toNat (a1 + v4_1)))))) - (I 51 (Int.toNat ((I 55 (Int.toNat (a2 + v4_1)))))))]) (h' := gc_h sh I J A) (C := (((True ∧ True) ∧ True) ∧ True)) rfl ⟨⟨⟨trivial, trivial⟩, trivial⟩, trivial⟩ ?_
        refine gv_if_eq (t := 60) hD rfl rfl ⟨by exact gz_m 33 (by omega), by exact gz_m 34 (by omega)⟩ (fun c14 => ?_) (fun c14 => ?_)
        · show gv_X _ _ (60, [(5, .inl ((I 51 (Int.toNat ((I 55 (Int.toNat (a1 + v4_1)))))) - (I 51 (Int.toNat ((I 55 (Int.toNat (a2 + v4_1)))))))), (0, .inr (.inr (some 61))), (1, .inl a1), (2, .inl a2), (3, .inl a3), (4, .inl v4_1)], [], sh, gc_h sh I J A)
          refine gv_run 2 true hD (pc' := 3) (lv' := [(4, .inl (v4_1 + 1)), (5, .inl ((I 51 (Int.toNat ((I 55 (Int.toNat (a1 + v4_1)))))) - (I 51 (Int.toNat ((I 55 (Int.toNat (a2 + v4_1)))))))), (0, .inr (.inr (some 61))), (1, .inl a1), (2, .inl a2), (3, .inl a3)]) (st' := []) (h' := gc_h sh I J A) (C := ((True ∧ True) ∧ True)) rfl ⟨⟨trivial, trivial⟩, trivial⟩ ?_
          refine gv_pick [2, 3, 4, 5, 0] rfl ?_
          exact ih3 (v4_1 + 1) (by exact gz_m 35 (by omega)) (by exact gz_m 36 (by omega))
        · show gv_X _ _ (57, [(5, .inl ((I 51 (Int.toNat ((I 55 (Int.toNat (a1 + v4_1)))))) - (I 51 (Int.toNat ((I 55 (Int.toNat (a2 + v4_1)))))))), (0, .inr (.inr (some 61))), (1, .inl a1), (2, .inl a2), (3, .inl a3), (4, .inl v4_1)], [], sh, gc_h sh I J A)
          refine gv_run 1 true hD (pc' := 59) (lv' := [(5, .inl ((I 51 (Int.toNat ((I 55 (Int.toNat (a1 + v4_1)))))) - (I 51 (Int.toNat ((I 55 (Int.toNat (a2 + v4_1)))))))), (0, .inr (.inr (some 61))), (1, .inl a1), (2, .inl a2), (3, .inl a3), (4, .inl v4_1)]) (st' := [.inl ((I 51 (Int.toNat ((I 55 (Int.toNat (a1 + v4_1)))))) - (I 51 (Int.toNat ((I 55 (Int.toNat (a2 + v4_1)))))))]) (h' := gc_h sh I J A) (C := (True ∧ True)) rfl ⟨trivial, trivial⟩ ?_
          exact gv_iret hD rfl ⟨rfl, ⟨_, rfl, by exact gz_m 37 (by omega)⟩⟩
  refine gv_run 2 true hD (pc' := 3) (lv' := [(4, .inl 0), (0, .inr (.inr (some 61))), (1, .inl a1), (2, .inl a2), (3, .inl a3)]) (st' := []) (h' := gc_h sh I J A) (C := ((True ∧ True) ∧ True)) rfl ⟨⟨trivial, trivial⟩, trivial⟩ ?_
  refine gv_pick [1, 2, 3, 4, 0] rfl ?_
  exact L3 _ 0 (Nat.lt_succ_self _) (by exact gz_m 38 (by omega))
