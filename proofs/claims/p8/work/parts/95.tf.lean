/-! PARITY, the class's side: SOUND -/
theorem gs_ctx_01 {β : Int → Int} {N : Int} {I : gr_I} {J : gr_J} {p : Int} (h : gs_T β N p = 1 ∨ gs_T β N p = 3) : gs_ctx β N I J 0 p = gs_ctx β N I J 1 p := by
  unfold gs_ctx
  by_cases c : gs_T β N p = 3
  · rw [if_pos c, if_pos c]
  · have c1 : gs_T β N p = 1 := by omega
    rw [if_neg c, if_neg c, if_pos c1, if_pos c1]
set_option maxHeartbeats 8000000 in
set_option maxRecDepth 100000 in
theorem d_X8_keepByte_p {ws0 : List Cond} {tb : String → gz_T} (hws : gc_Ws ws0) (htb : gc_tbs tb) (sh : gz_Sh) (ro : Nat → Nat) (I : gr_I) (J : gr_J) (A : gc_A) (hI : gc_Inv ro I) (a1 : Int) (hb : gc_Base sh ro A) (ha1 : 0 ≤ a1 ∧ a1 ≤ 127)  : ∃ r h', gz_Ev ws0 tb 1 (yX8_keepByte, cX8_keepByte, 2, none) [.inr (.inr (some 1)), .inl a1] sh (gc_h sh I J A) r sh h' 0 0 ∧ (∃ (I' : gr_I) (J' : gr_J), h' = gc_h sh I' J' A ∧ gc_Inv ro I' ∧ (∀ q j : Nat, ((q = 1 ∧ j = 17) ∨ (q = 1 ∧ j = 18) ∨ q = 20) ∨ I' q j = I q j) ∧ (∀ q j : Nat, (False) ∨ J' q j = J q j) ∧ r = none ∧ (I 1 17 ≤ I' 1 17) ∧ (I' 1 17 ≤ I 1 17 + 1) ∧ (I 1 17 ≤ 11999 → I' 1 18 = I 1 18) ∧ (gc_PKs I I') ∧ (I 1 17 ≤ 11999 → gc_kb I I' a1)) := by
  have FI : ∀ q j : Nat, ((q = 1 ∧ j = 17) ∨ (q = 1 ∧ j = 18) ∨ q = 20) ∨ I q j = I q j := fun _ _ => Or.inr rfl
  have FJ : ∀ q j : Nat, (False) ∨ J q j = J q j := fun _ _ => Or.inr rfl
  have A_1_16 : A 1 16 = some 20 := gc_bA hb rfl
  have B_1 : 1 < 1000000 := by decide
  have B_20 : 20 < 1000000 := by decide
  have R_1 : ro 1 = 22 := gc_bR hb (by decide) rfl
  have R_20 : ro 20 = 36 := gc_bR hb (by decide) rfl
  have S_1 : sh[1]? = some (false, 8, 21) := gc_bS hb rfl
  have S_20 : sh[20]? = some (true, 0, 12000) := gc_bS hb rfl
  have hD : gv_D (gc_E8 ws0 tb 0 (yX8_keepByte, cX8_keepByte, 2, none) kX8_keepByte) := gq_of oX8_keepByte
  refine gc_ev8 (d := 0) (l := kX8_keepByte) (Po := fun r h' => (∃ (I' : gr_I) (J' : gr_J), h' = gc_h sh I' J' A ∧ gc_Inv ro I' ∧ (∀ q j : Nat, ((q = 1 ∧ j = 17) ∨ (q = 1 ∧ j = 18) ∨ q = 20) ∨ I' q j = I q j) ∧ (∀ q j : Nat, (False) ∨ J' q j = J q j) ∧ r = none ∧ (I 1 17 ≤ I' 1 17) ∧ (I' 1 17 ≤ I 1 17 + 1) ∧ (I 1 17 ≤ 11999 → I' 1 18 = I 1 18) ∧ (gc_PKs I I') ∧ (I 1 17 ≤ 11999 → gc_kb I I' a1))) htb rfl (Nat.le_of_ble_eq_true rfl) ?_
  have f1 := (show 0 ≤ I 1 17 ∧ I 1 17 ≤ 12000 from gc_in hI R_1 rfl rfl)
  have f2 := (show 0 ≤ I 1 18 ∧ I 1 18 ≤ 1 from gc_in hI R_1 rfl rfl)
  refine gv_run 1 true hD (pc' := 1) (lv' := [(0, .inr (.inr (some 1))), (1, .inl a1)]) (st' := [.inr (.inr (some 1))]) (h' := gc_h sh I J A) (C := (True ∧ True)) rfl ⟨trivial, trivial⟩ ?_
  have f3 := (show 0 ≤ I 1 17 ∧ I 1 17 ≤ 12000 from gc_in hI R_1 rfl rfl)
  refine gv_get hD rfl rfl S_1 ⟨by decide, B_1⟩ (gc_hI S_1 rfl) ?_
  show gv_X _ _ (4, [(0, .inr (.inr (some 1))), (1, .inl a1)], [.inl (I 1 17)], sh, gc_h sh I J A)
  refine gv_run 1 true hD (pc' := 7) (lv' := [(0, .inr (.inr (some 1))), (1, .inl a1)]) (st' := [.inl 12000, .inl (I 1 17)]) (h' := gc_h sh I J A) (C := (True ∧ True)) rfl ⟨trivial, trivial⟩ ?_
  refine gv_icmp_ge (t := 31) hD rfl rfl ⟨⟨by exact gz_m 0 (by omega), by exact gz_m 1 (by omega)⟩, ⟨by exact gz_m 2 (by omega), by exact gz_m 3 (by omega)⟩⟩ (fun c4 => ?_) (fun c4 => ?_)
  · show gv_X _ _ (31, [(0, .inr (.inr (some 1))), (1, .inl a1)], [], sh, gc_h sh I J A)
    refine gv_run 2 true hD (pc' := 33) (lv' := [(0, .inr (.inr (some 1))), (1, .inl a1)]) (st' := [.inl 1, .inr (.inr (some 1))]) (h' := gc_h sh I J A) (C := ((True ∧ True) ∧ True)) rfl ⟨⟨trivial, trivial⟩, trivial⟩ ?_
    refine gv_put hD rfl rfl S_1 ⟨by decide, B_1⟩ rfl (by exact gz_m 4 (by omega)) ?_
    refine gc_st (k := 18) hI S_1 rfl R_1 (lo := 0) (hi := 1) rfl rfl (by exact gz_m 5 (by omega)) (by exact gz_m 6 (by omega)) (fun I5 hI5 q6 p6 => ?_)
    have FI5 := gc_frs (W := fun q j => (q = 1 ∧ j = 17) ∨ (q = 1 ∧ j = 18) ∨ q = 20) FI (Or.inr (Or.inl ⟨rfl, rfl⟩)) p6
    have t7 := p6 1 17 (fun h => absurd h.2 (by decide))
    have f8 := (show 0 ≤ I5 1 18 ∧ I5 1 18 ≤ 1 from gc_in hI5 R_1 rfl rfl)
    show gv_X _ _ (36, [(0, .inr (.inr (some 1))), (1, .inl a1)], [], sh, gc_h sh I5 J A)
    exact gv_vret hD rfl ⟨I5, J, rfl, hI5, FI5, FJ, ⟨rfl, by exact gz_m 7 (by omega), by exact gz_m 8 (by omega), (fun h9 => by exact gz_m 9 (by omega)), (gc_PKs_fr gc_PKs_rf (p6 1 17 (fun h => absurd h.2 (by decide))) (fun k => p6 20 k (fun h => absurd h.1 (by decide)))), (fun h9 => absurd h9 (by exact gz_m 10 (by omega)))⟩⟩
  · show gv_X _ _ (10, [(0, .inr (.inr (some 1))), (1, .inl a1)], [], sh, gc_h sh I J A)
    refine gv_run 1 true hD (pc' := 11) (lv' := [(0, .inr (.inr (some 1))), (1, .inl a1)]) (st' := [.inr (.inr (some 1))]) (h' := gc_h sh I J A) (C := (True ∧ True)) rfl ⟨trivial, trivial⟩ ?_
    refine gv_get hD rfl rfl S_1 ⟨by decide, B_1⟩ (gc_hA S_1 rfl A_1_16) ?_
    show gv_X _ _ (14, [(0, .inr (.inr (some 1))), (1, .inl a1)], [.inr (.inr (some 20))], sh, gc_h sh I J A)
    refine gv_run 2 true hD (pc' := 16) (lv' := [(0, .inr (.inr (some 1))), (1, .inl a1)]) (st' := [.inr (.inr (some 1)), .inr (.inr (some 1)), .inr (.inr (some 20))]) (h' := gc_h sh I J A) (C := ((True ∧ True) ∧ True)) rfl ⟨⟨trivial, trivial⟩, trivial⟩ ?_
    have f9 := (show 0 ≤ I 1 17 ∧ I 1 17 ≤ 12000 from gc_in hI R_1 rfl rfl)
    refine gv_get hD rfl rfl S_1 ⟨by decide, B_1⟩ (gc_hI S_1 rfl) ?_
    show gv_X _ _ (19, [(0, .inr (.inr (some 1))), (1, .inl a1)], [.inl (I 1 17), .inr (.inr (some 1)), .inr (.inr (some 20))], sh, gc_h sh I J A)
    refine gv_run 3 true hD (pc' := 22) (lv' := [(0, .inr (.inr (some 1))), (1, .inl a1)]) (st' := [.inl ((I 1 17) + 1), .inr (.inr (some 1)), .inl (I 1 17), .inr (.inr (some 20))]) (h' := gc_h sh I J A) (C := (((True ∧ True) ∧ True) ∧ True)) rfl ⟨⟨⟨trivial, trivial⟩, trivial⟩, trivial⟩ ?_
    refine gv_put hD rfl rfl S_1 ⟨by decide, B_1⟩ rfl trivial ?_
    refine gc_st (k := 17) hI S_1 rfl R_1 (lo := 0) (hi := 12000) rfl rfl (by exact gz_m 11 (by omega)) (by exact gz_m 12 (by omega)) (fun I10 hI10 q11 p11 => ?_)
    have FI10 := gc_frs (W := fun q j => (q = 1 ∧ j = 17) ∨ (q = 1 ∧ j = 18) ∨ q = 20) FI (Or.inl ⟨rfl, rfl⟩) p11
    have t12 := p11 1 18 (fun h => absurd h.2 (by decide))
    have f13 := (show 0 ≤ I10 1 17 ∧ I10 1 17 ≤ 12000 from gc_in hI10 R_1 rfl rfl)
    show gv_X _ _ (25, [(0, .inr (.inr (some 1))), (1, .inl a1)], [.inl (I 1 17), .inr (.inr (some 20))], sh, gc_h sh I10 J A)
    have f14 := gc_i2b (x := a1) ⟨by exact gz_m 13 (by omega), by exact gz_m 14 (by omega)⟩
    refine gv_run 2 true hD (pc' := 27) (lv' := [(0, .inr (.inr (some 1))), (1, .inl a1)]) (st' := [.inl ((Int32.ofInt a1).toInt8.toInt32.toInt), .inl (I 1 17), .inr (.inr (some 20))]) (h' := gc_h sh I10 J A) (C := ((True ∧ True) ∧ True)) rfl ⟨⟨trivial, trivial⟩, trivial⟩ ?_
    have f15 := gc_nar (x := (((Int32.ofInt a1).toInt8.toInt32.toInt))) ⟨by exact gz_m 15 (by omega), by exact gz_m 16 (by omega)⟩
    refine gv_bast hD rfl S_20 ⟨by decide, B_20⟩ ⟨by exact gz_m 17 (by omega), by exact gz_m 18 (by omega)⟩ ?_
    refine gc_st hI10 S_20 rfl R_20 (lo := 0) (hi := 127) rfl rfl (by exact gz_m 19 (by omega)) (by exact gz_m 20 (by omega)) (fun I16 hI16 q17 p17 => ?_)
    have FI16 := gc_frs (W := fun q j => (q = 1 ∧ j = 17) ∨ (q = 1 ∧ j = 18) ∨ q = 20) FI10 (Or.inr (Or.inr rfl)) p17
    have t18 := p17 1 17 (fun h => absurd h.1 (by decide))
    have t19 := p17 1 18 (fun h => absurd h.1 (by decide))
    show gv_X _ _ (28, [(0, .inr (.inr (some 1))), (1, .inl a1)], [], sh, gc_h sh I16 J A)
    refine gv_run 1 true hD (pc' := 36) (lv' := [(0, .inr (.inr (some 1))), (1, .inl a1)]) (st' := []) (h' := gc_h sh I16 J A) (C := (True ∧ True)) rfl ⟨trivial, trivial⟩ ?_
    exact gv_vret hD rfl ⟨I16, J, rfl, hI16, FI16, FJ, ⟨rfl, by exact gz_m 21 (by omega), by exact gz_m 22 (by omega), (fun h9 => by exact gz_m 23 (by omega)), (gc_PKs_kb p11 q11 p17), (fun _ => ⟨by exact gz_m 24 (by omega), q17.trans (by exact gz_m 25 (by omega))⟩)⟩⟩
set_option maxHeartbeats 8000000 in
set_option maxRecDepth 100000 in
theorem d_X6_keepLetters_p {ws0 : List Cond} {tb : String → gz_T} (hws : gc_Ws ws0) (htb : gc_tbs tb) (sh : gz_Sh) (ro : Nat → Nat) (I : gr_I) (J : gr_J) (A : gc_A) (hI : gc_Inv ro I)  (hb : gc_Base sh ro A)  (x0 : I 23 7 = 3) (x1 : I 1 17 ≤ 2000) (KLT_I : gc_LT I) (KTK_I : gc_TK I) : ∃ r h', gz_Ev ws0 tb 2 (yX6_keepLetters, cX6_keepLetters, 4, (some .int)) [.inr (.inr (some 39))] sh (gc_h sh I J A) r sh h' 0 0 ∧ (∃ (I' : gr_I) (J' : gr_J), h' = gc_h sh I' J' A ∧ gc_Inv ro I' ∧ (∀ q j : Nat, ((q = 1 ∧ j = 17) ∨ (q = 1 ∧ j = 18) ∨ q = 20) ∨ I' q j = I q j) ∧ (∀ q j : Nat, (False) ∨ J' q j = J q j) ∧ gc_LT I' ∧ gc_TK I' ∧ (∃ z : Int, r = some (.inl z) ∧ 0 ≤ z ∧ z ≤ 12000 ∧ (z = I 1 17) ∧ (I 1 17 ≤ I' 1 17) ∧ (I' 1 17 ≤ I 1 17 + I 23 6 - I 23 5 - 2) ∧ (I' 1 18 = I 1 18) ∧ (gc_kl I I') ∧ (gc_PKs I I'))) := by
  have FI : ∀ q j : Nat, ((q = 1 ∧ j = 17) ∨ (q = 1 ∧ j = 18) ∨ q = 20) ∨ I q j = I q j := fun _ _ => Or.inr rfl
  have FJ : ∀ q j : Nat, (False) ∨ J q j = J q j := fun _ _ => Or.inr rfl
  have A_23_0 : A 23 0 = some 24 := gc_bA hb rfl
  have A_39_0 : A 39 0 = some 1 := gc_bA hb rfl
  have A_39_1 : A 39 1 = some 23 := gc_bA hb rfl
  have B_1 : 1 < 1000000 := by decide
  have B_23 : 23 < 1000000 := by decide
  have B_24 : 24 < 1000000 := by decide
  have B_39 : 39 < 1000000 := by decide
  have R_1 : ro 1 = 22 := gc_bR hb (by decide) rfl
  have R_23 : ro 23 = 3 := gc_bR hb (by decide) rfl
  have R_24 : ro 24 = 1 := gc_bR hb (by decide) rfl
  have S_1 : sh[1]? = some (false, 8, 21) := gc_bS hb rfl
  have S_23 : sh[23]? = some (false, 9, 10) := gc_bS hb rfl
  have S_24 : sh[24]? = some (true, 0, 1000) := gc_bS hb rfl
  have S_39 : sh[39]? = some (false, 6, 19) := gc_bS hb rfl
  have hD : gv_D (gc_E6 ws0 tb 1 (yX6_keepLetters, cX6_keepLetters, 4, (some .int)) kX6_keepLetters) := gq_of oX6_keepLetters
  refine gc_ev6 (d := 1) (l := kX6_keepLetters) (Po := fun r h' => (∃ (I' : gr_I) (J' : gr_J), h' = gc_h sh I' J' A ∧ gc_Inv ro I' ∧ (∀ q j : Nat, ((q = 1 ∧ j = 17) ∨ (q = 1 ∧ j = 18) ∨ q = 20) ∨ I' q j = I q j) ∧ (∀ q j : Nat, (False) ∨ J' q j = J q j) ∧ gc_LT I' ∧ gc_TK I' ∧ (∃ z : Int, r = some (.inl z) ∧ 0 ≤ z ∧ z ≤ 12000 ∧ (z = I 1 17) ∧ (I 1 17 ≤ I' 1 17) ∧ (I' 1 17 ≤ I 1 17 + I 23 6 - I 23 5 - 2) ∧ (I' 1 18 = I 1 18) ∧ (gc_kl I I') ∧ (gc_PKs I I')))) htb rfl (Nat.le_of_ble_eq_true rfl) ?_
  have KPK_I : gc_PKs I I := gc_PKs_rf
  have t1 := gc_TK_mo KTK_I
  have f2 := (show 0 ≤ I 23 1 ∧ I 23 1 ≤ 1000 from gc_in hI R_23 rfl rfl)
  have f3 := (show 0 ≤ I 23 5 ∧ I 23 5 ≤ 1000 from gc_in hI R_23 rfl rfl)
  have f4 := (show 0 ≤ I 23 6 ∧ I 23 6 ≤ 1001 from gc_in hI R_23 rfl rfl)
  have f5 := (show 0 ≤ I 23 7 ∧ I 23 7 ≤ 125 from gc_in hI R_23 rfl rfl)
  have f6 := (show 0 ≤ I 1 17 ∧ I 1 17 ≤ 12000 from gc_in hI R_1 rfl rfl)
  have f7 := (show 0 ≤ I 1 18 ∧ I 1 18 ≤ 1 from gc_in hI R_1 rfl rfl)
  have L18 : ∀ (n9 : Nat) (I8 : gr_I) (J9 : gr_J) (v1_10 : Int) (v2_10 : Int) (v3_10 : Int), (14 - v3_10).toNat < n9 → gc_Inv ro I8 → (∀ q j : Nat, ((q = 1 ∧ j = 17) ∨ (q = 1 ∧ j = 18) ∨ q = 20) ∨ I8 q j = I q j) → (∀ q j : Nat, (False) ∨ J9 q j = J q j) → gc_LT I8 → gc_TK I8 → gc_PKs I I8 → ((0 ≤ v1_10 ∧ v1_10 ≤ 12000) ∧ (0 ≤ v2_10 ∧ v2_10 ≤ 12) ∧ (1 ≤ v3_10 ∧ v3_10 ≤ 13) ∧ (v3_10 ≤ v2_10 + 1) ∧ (v2_10 = I 23 6 - I 23 5 - 2) ∧ (v1_10 = I 1 17) ∧ (I8 23 5 = I 23 5) ∧ (I8 23 6 = I 23 6) ∧ (I8 23 7 = 3) ∧ (I8 23 1 = I 23 1) ∧ (I 1 17 ≤ I8 1 17) ∧ (I8 1 17 ≤ I 1 17 + v3_10 - 1) ∧ (I8 1 18 = I 1 18) ∧ (I8 1 17 = I 1 17 + v3_10 - 1)) → (∀ i : Int, 0 ≤ i → i < v3_10 - 1 → I8 20 (Int.toNat (I 1 17 + i)) = I 24 (Int.toNat (I 23 5 + 1 + i))) → gv_X (gc_E6 ws0 tb 1 (yX6_keepLetters, cX6_keepLetters, 4, (some .int)) kX6_keepLetters) (gv_Q cX6_keepLetters (some .int) sh (fun r h' => (∃ (I' : gr_I) (J' : gr_J), h' = gc_h sh I' J' A ∧ gc_Inv ro I' ∧ (∀ q j : Nat, ((q = 1 ∧ j = 17) ∨ (q = 1 ∧ j = 18) ∨ q = 20) ∨ I' q j = I q j) ∧ (∀ q j : Nat, (False) ∨ J' q j = J q j) ∧ gc_LT I' ∧ gc_TK I' ∧ (∃ z : Int, r = some (.inl z) ∧ 0 ≤ z ∧ z ≤ 12000 ∧ (z = I 1 17) ∧ (I 1 17 ≤ I' 1 17) ∧ (I' 1 17 ≤ I 1 17 + I 23 6 - I 23 5 - 2) ∧ (I' 1 18 = I 1 18) ∧ (gc_kl I I') ∧ (gc_PKs I I'))))) (18, [(0, .inr (.inr (some 39))), (1, .inl v1_10), (2, .inl v2_10), (3, .inl v3_10)], [], sh, gc_h sh I8 J9 A) := by
    intro n9
    induction n9 with
    | zero => intro I8 J9 v1_10 v2_10 v3_10 hn; exact gz_m 0 (by omega)
    | succ n9 ih18 =>
      intro I8 J9 v1_10 v2_10 v3_10 hn hI8 FI8 FJ9 KLT_I8 KTK_I8 KPK_I8 m_10 e11_10
      obtain ⟨hv1_10, hv2_10, hv3_10, e0_10, e1_10, e2_10, e3_10, e4_10, e5_10, e6_10, e7_10, e8_10, e9_10, e10_10⟩ := m_10
      have t11 := gc_TK_mo KTK_I8
      have f12 := (show 0 ≤ I8 23 1 ∧ I8 23 1 ≤ 1000 from gc_in hI8 R_23 rfl rfl)
      have f13 := (show 0 ≤ I8 23 5 ∧ I8 23 5 ≤ 1000 from gc_in hI8 R_23 rfl rfl)
      have f14 := (show 0 ≤ I8 23 6 ∧ I8 23 6 ≤ 1001 from gc_in hI8 R_23 rfl rfl)
      have f15 := (show 0 ≤ I8 23 7 ∧ I8 23 7 ≤ 125 from gc_in hI8 R_23 rfl rfl)
      have f16 := (show 0 ≤ I8 1 17 ∧ I8 1 17 ≤ 12000 from gc_in hI8 R_1 rfl rfl)
      have f17 := (show 0 ≤ I8 1 18 ∧ I8 1 18 ≤ 1 from gc_in hI8 R_1 rfl rfl)
      refine gv_run 2 true hD (pc' := 20) (lv' := [(0, .inr (.inr (some 39))), (1, .inl v1_10), (2, .inl v2_10), (3, .inl v3_10)]) (st' := [.inl v2_10, .inl v3_10]) (h' := gc_h sh I8 J9 A) (C := ((True ∧ True) ∧ True)) rfl ⟨⟨trivial, trivial⟩, trivial⟩ ?_
      refine gv_icmp_gt (t := 53) hD rfl rfl ⟨⟨by exact gz_m 1 (by omega), by exact gz_m 2 (by omega)⟩, ⟨by exact gz_m 3 (by omega), by exact gz_m 4 (by omega)⟩⟩ (fun c18 => ?_) (fun c18 => ?_)
      · show gv_X _ _ (53, [(0, .inr (.inr (some 39))), (1, .inl v1_10), (2, .inl v2_10), (3, .inl v3_10)], [], sh, gc_h sh I8 J9 A)
        refine gv_run 1 true hD (pc' := 54) (lv' := [(0, .inr (.inr (some 39))), (1, .inl v1_10), (2, .inl v2_10), (3, .inl v3_10)]) (st' := [.inl v1_10]) (h' := gc_h sh I8 J9 A) (C := (True ∧ True)) rfl ⟨trivial, trivial⟩ ?_
        exact gv_iret hD rfl ⟨I8, J9, rfl, hI8, FI8, FJ9, KLT_I8, KTK_I8, ⟨_, rfl, by exact gz_m 5 (by omega), by exact gz_m 6 (by omega), by exact gz_m 7 (by omega), by exact gz_m 8 (by omega), by exact gz_m 9 (by omega), by exact gz_m 10 (by omega), ⟨by exact gz_m 11 (by omega), fun i a b => e11_10 i a (by exact gz_m 12 (by omega))⟩, KPK_I8⟩⟩
      · show gv_X _ _ (23, [(0, .inr (.inr (some 39))), (1, .inl v1_10), (2, .inl v2_10), (3, .inl v3_10)], [], sh, gc_h sh I8 J9 A)
        refine gv_run 1 true hD (pc' := 24) (lv' := [(0, .inr (.inr (some 39))), (1, .inl v1_10), (2, .inl v2_10), (3, .inl v3_10)]) (st' := [.inr (.inr (some 39))]) (h' := gc_h sh I8 J9 A) (C := (True ∧ True)) rfl ⟨trivial, trivial⟩ ?_
        refine gv_get hD rfl rfl S_39 ⟨by decide, B_39⟩ (gc_hA S_39 rfl A_39_0) ?_
        show gv_X _ _ (27, [(0, .inr (.inr (some 39))), (1, .inl v1_10), (2, .inl v2_10), (3, .inl v3_10)], [.inr (.inr (some 1))], sh, gc_h sh I8 J9 A)
        refine gv_run 1 true hD (pc' := 28) (lv' := [(0, .inr (.inr (some 39))), (1, .inl v1_10), (2, .inl v2_10), (3, .inl v3_10)]) (st' := [.inr (.inr (some 39)), .inr (.inr (some 1))]) (h' := gc_h sh I8 J9 A) (C := (True ∧ True)) rfl ⟨trivial, trivial⟩ ?_
        refine gv_get hD rfl rfl S_39 ⟨by decide, B_39⟩ (gc_hA S_39 rfl A_39_1) ?_
        show gv_X _ _ (31, [(0, .inr (.inr (some 39))), (1, .inl v1_10), (2, .inl v2_10), (3, .inl v3_10)], [.inr (.inr (some 23)), .inr (.inr (some 1))], sh, gc_h sh I8 J9 A)
        refine gv_get hD rfl rfl S_23 ⟨by decide, B_23⟩ (gc_hA S_23 rfl A_23_0) ?_
        show gv_X _ _ (34, [(0, .inr (.inr (some 39))), (1, .inl v1_10), (2, .inl v2_10), (3, .inl v3_10)], [.inr (.inr (some 24)), .inr (.inr (some 1))], sh, gc_h sh I8 J9 A)
        refine gv_run 1 true hD (pc' := 35) (lv' := [(0, .inr (.inr (some 39))), (1, .inl v1_10), (2, .inl v2_10), (3, .inl v3_10)]) (st' := [.inr (.inr (some 39)), .inr (.inr (some 24)), .inr (.inr (some 1))]) (h' := gc_h sh I8 J9 A) (C := (True ∧ True)) rfl ⟨trivial, trivial⟩ ?_
        refine gv_get hD rfl rfl S_39 ⟨by decide, B_39⟩ (gc_hA S_39 rfl A_39_1) ?_
        show gv_X _ _ (38, [(0, .inr (.inr (some 39))), (1, .inl v1_10), (2, .inl v2_10), (3, .inl v3_10)], [.inr (.inr (some 23)), .inr (.inr (some 24)), .inr (.inr (some 1))], sh, gc_h sh I8 J9 A)
        have f19 := (show 0 ≤ I8 23 5 ∧ I8 23 5 ≤ 1000 from gc_in hI8 R_23 rfl rfl)
        refine gv_get hD rfl rfl S_23 ⟨by decide, B_23⟩ (gc_hI S_23 rfl) ?_
        show gv_X _ _ (41, [(0, .inr (.inr (some 39))), (1, .inl v1_10), (2, .inl v2_10), (3, .inl v3_10)], [.inl (I8 23 5), .inr (.inr (some 24)), .inr (.inr (some 1))], sh, gc_h sh I8 J9 A)
        refine gv_run 2 true hD (pc' := 43) (lv' := [(0, .inr (.inr (some 39))), (1, .inl v1_10), (2, .inl v2_10), (3, .inl v3_10)]) (st' := [.inl ((I8 23 5) + v3_10), .inr (.inr (some 24)), .inr (.inr (some 1))]) (h' := gc_h sh I8 J9 A) (C := ((True ∧ True) ∧ True)) rfl ⟨⟨trivial, trivial⟩, trivial⟩ ?_
        have t20 := gc_TK_l3 KTK_I8 (by exact gz_m 13 (by omega))
        have t21 := gc_TK_nx KTK_I8 (by exact gz_m 14 (by omega))
        have t22 := KLT_I8 (by exact gz_m 15 (by omega)) (I8 23 5 + v3_10) (by exact gz_m 16 (by omega)) (by exact gz_m 17 (by omega))
        have f23 := (show (-128) ≤ I8 24 (Int.toNat (((I8 23 5) + v3_10))) ∧ I8 24 (Int.toNat (((I8 23 5) + v3_10))) ≤ 127 from gc_in hI8 R_24 rfl rfl)
        refine gv_bald hD rfl S_24 (Or.inl rfl) ⟨by decide, B_24⟩ ⟨by exact gz_m 18 (by omega), by exact gz_m 19 (by omega)⟩ (gc_iI S_24 rfl) ?_
        show gv_X _ _ (44, [(0, .inr (.inr (some 39))), (1, .inl v1_10), (2, .inl v2_10), (3, .inl v3_10)], [.inl (I8 24 (Int.toNat (((I8 23 5) + v3_10)))), .inr (.inr (some 1))], sh, gc_h sh I8 J9 A)
        obtain ⟨r24, h24, E24, P24⟩ := d_X8_keepByte_p (ws0 := ws0) (tb := tb) hws htb sh ro I8 J9 A hI8  ((I8 24 (Int.toNat (((I8 23 5) + v3_10))))) hb   ⟨by exact gz_m 20 (by omega), by exact gz_m 21 (by omega)⟩  
        obtain ⟨I25, J26, rfl, hI25, g24, k24, ⟨rfl, q24⟩⟩ := P24
        have FI25 := gc_frc (W := fun q j => (q = 1 ∧ j = 17) ∨ (q = 1 ∧ j = 18) ∨ q = 20) (V := fun q j => (q = 1 ∧ j = 17) ∨ (q = 1 ∧ j = 18) ∨ q = 20) FI8 (fun q j h => (h.elim (fun h => (Or.inl h)) (fun h => (h.elim (fun h => (Or.inr (Or.inl h))) (fun h => (Or.inr (Or.inr h))))))) g24
        have t27 := (g24 23 1).resolve_left (fun h => h.elim (fun h => absurd h.2 (by decide)) (fun h => h.elim (fun h => absurd h.2 (by decide)) (fun h => absurd h (by decide))))
        have t28 := (g24 23 5).resolve_left (fun h => h.elim (fun h => absurd h.2 (by decide)) (fun h => h.elim (fun h => absurd h.2 (by decide)) (fun h => absurd h (by decide))))
        have t29 := (g24 23 6).resolve_left (fun h => h.elim (fun h => absurd h.2 (by decide)) (fun h => h.elim (fun h => absurd h.2 (by decide)) (fun h => absurd h (by decide))))
        have t30 := (g24 23 7).resolve_left (fun h => h.elim (fun h => absurd h.2 (by decide)) (fun h => h.elim (fun h => absurd h.2 (by decide)) (fun h => absurd h (by decide))))
        have f31 := (show 0 ≤ I25 1 17 ∧ I25 1 17 ≤ 12000 from gc_in hI25 R_1 rfl rfl)
        have f32 := (show 0 ≤ I25 1 18 ∧ I25 1 18 ≤ 1 from gc_in hI25 R_1 rfl rfl)
        obtain rfl : J9 = J26 := funext fun q => funext fun j => ((k24 q j).resolve_left id).symm
        have KLT_I25 := gc_LT_fr KLT_I8 ((g24 23 5).resolve_left (fun h => h.elim (fun h => absurd h.2 (by decide)) (fun h => h.elim (fun h => absurd h.2 (by decide)) (fun h => absurd h (by decide))))) ((g24 23 6).resolve_left (fun h => h.elim (fun h => absurd h.2 (by decide)) (fun h => h.elim (fun h => absurd h.2 (by decide)) (fun h => absurd h (by decide))))) ((g24 23 7).resolve_left (fun h => h.elim (fun h => absurd h.2 (by decide)) (fun h => h.elim (fun h => absurd h.2 (by decide)) (fun h => absurd h (by decide))))) (fun k => (g24 24 k).resolve_left (fun h => h.elim (fun h => absurd h.1 (by decide)) (fun h => h.elim (fun h => absurd h.1 (by decide)) (fun h => absurd h (by decide)))))
        have KTK_I25 := gc_TK_fr KTK_I8 ((g24 23 1).resolve_left (fun h => h.elim (fun h => absurd h.2 (by decide)) (fun h => h.elim (fun h => absurd h.2 (by decide)) (fun h => absurd h (by decide))))) ((g24 23 5).resolve_left (fun h => h.elim (fun h => absurd h.2 (by decide)) (fun h => h.elim (fun h => absurd h.2 (by decide)) (fun h => absurd h (by decide))))) ((g24 23 6).resolve_left (fun h => h.elim (fun h => absurd h.2 (by decide)) (fun h => h.elim (fun h => absurd h.2 (by decide)) (fun h => absurd h (by decide))))) ((g24 23 7).resolve_left (fun h => h.elim (fun h => absurd h.2 (by decide)) (fun h => h.elim (fun h => absurd h.2 (by decide)) (fun h => absurd h (by decide)))))
        have l24 := q24.2.2.2.1
        have KPK_I25 := gc_PKs_tr KPK_I8 l24
        have kb24 := q24.2.2.2.2 (by exact gz_m 22 (by omega))
        have t33 := kb24.1
        refine gv_callV hD rfl (As := [.inl (I8 24 (Int.toNat (((I8 23 5) + v3_10))))]) (st := []) rfl B_1 S_1 rfl (gc_lV6 hws rfl) (Nat.le_of_ble_eq_true rfl) (gz_Ev_mono (d := 1) (by decide) E24) ?_
        show gv_X _ _ (47, [(0, .inr (.inr (some 39))), (1, .inl v1_10), (2, .inl v2_10), (3, .inl v3_10)], [], sh, gc_h sh I25 J9 A)
        refine gv_run 2 true hD (pc' := 18) (lv' := [(3, .inl (v3_10 + 1)), (0, .inr (.inr (some 39))), (1, .inl v1_10), (2, .inl v2_10)]) (st' := []) (h' := gc_h sh I25 J9 A) (C := ((True ∧ True) ∧ True)) rfl ⟨⟨trivial, trivial⟩, trivial⟩ ?_
        refine gv_pick [1, 2, 3, 0] rfl ?_
        exact ih18 I25 J9 v1_10 v2_10 (v3_10 + 1) (by exact gz_m 23 (by omega)) hI25 FI25 FJ9 KLT_I25 KTK_I25 KPK_I25 (by exact gz_m 24 (by omega)) (fun i a b => if e9 : i = v3_10 - 1 then (by rw [show I 1 17 + i = I8 1 17 from by exact gz_m 25 (by omega), kb24.2, show I8 23 5 + v3_10 = I 23 5 + 1 + i from by exact gz_m 26 (by omega)]; exact (FI8 24 _).resolve_left (by exact gz_m 27 (by omega))) else (l24.2 (Int.toNat (I 1 17 + i)) (by exact gz_m 28 (by omega))).trans (e11_10 i a (by exact gz_m 29 (by omega))))
  refine gv_run 1 true hD (pc' := 1) (lv' := [(0, .inr (.inr (some 39)))]) (st' := [.inr (.inr (some 39))]) (h' := gc_h sh I J A) (C := (True ∧ True)) rfl ⟨trivial, trivial⟩ ?_
  refine gv_get hD rfl rfl S_39 ⟨by decide, B_39⟩ (gc_hA S_39 rfl A_39_0) ?_
  show gv_X _ _ (4, [(0, .inr (.inr (some 39)))], [.inr (.inr (some 1))], sh, gc_h sh I J A)
  have f34 := (show 0 ≤ I 1 17 ∧ I 1 17 ≤ 12000 from gc_in hI R_1 rfl rfl)
  refine gv_get hD rfl rfl S_1 ⟨by decide, B_1⟩ (gc_hI S_1 rfl) ?_
  show gv_X _ _ (7, [(0, .inr (.inr (some 39)))], [.inl (I 1 17)], sh, gc_h sh I J A)
  refine gv_run 2 true hD (pc' := 9) (lv' := [(1, .inl (I 1 17)), (0, .inr (.inr (some 39)))]) (st' := [.inr (.inr (some 39))]) (h' := gc_h sh I J A) (C := ((True ∧ True) ∧ True)) rfl ⟨⟨trivial, trivial⟩, trivial⟩ ?_
  refine gv_get hD rfl rfl S_39 ⟨by decide, B_39⟩ (gc_hA S_39 rfl A_39_1) ?_
  show gv_X _ _ (12, [(1, .inl (I 1 17)), (0, .inr (.inr (some 39)))], [.inr (.inr (some 23))], sh, gc_h sh I J A)
  have t36 := gc_TK_l3 KTK_I (by exact gz_m 30 (by omega))
  obtain ⟨r35, h35, E35, P35⟩ := d_X9_lettersSize (ws0 := ws0) (tb := tb) hws htb sh ro I J A hI 23  (gc_b23 hb)     
  obtain ⟨rfl, ⟨z35, rfl, q35⟩⟩ := P35
  refine gv_callV hD rfl (As := []) (st := []) rfl B_23 S_23 rfl (gc_lV6 hws rfl) (Nat.le_of_ble_eq_true rfl) (gz_Ev_mono (d := 1) (by decide) E35) ?_
  show gv_X _ _ (15, [(1, .inl (I 1 17)), (0, .inr (.inr (some 39)))], [.inl z35], sh, gc_h sh I J A)
  refine gv_run 3 true hD (pc' := 18) (lv' := [(3, .inl 1), (2, .inl z35), (1, .inl (I 1 17)), (0, .inr (.inr (some 39)))]) (st' := []) (h' := gc_h sh I J A) (C := (((True ∧ True) ∧ True) ∧ True)) rfl ⟨⟨⟨trivial, trivial⟩, trivial⟩, trivial⟩ ?_
  refine gv_pick [3, 2, 1, 0] rfl ?_
  exact L18 _ I J (I 1 17) z35 1 (Nat.lt_succ_self _) hI FI FJ KLT_I KTK_I KPK_I (by exact gz_m 31 (by omega)) (fun i a b => absurd b (by exact gz_m 32 (by omega)))
set_option maxHeartbeats 8000000 in
set_option maxRecDepth 100000 in
theorem d_X6_readContext_p {ws0 : List Cond} {tb : String → gz_T} (hws : gc_Ws ws0) (htb : gc_tbs tb) (sh : gz_Sh) (ro : Nat → Nat) (I : gr_I) (J : gr_J) (A : gc_A) (hI : gc_Inv ro I) (t : Nat) (B : Int) (β : Int → Int) (η : Int) (p9 : Int) (Ir : gr_I) (Jr : gr_J) (a1 : Int) (hb : gc_Base sh ro A) (h_t : gc_isTongue sh ro A t) (G_t : 144 ≤ t) (ha1 : 0 ≤ a1 ∧ a1 ≤ 22) (x0 : B ≤ 1280 ∧ I 1 17 + I 23 1 ≤ B + I 23 5) (x1 : (a1 = 0 ∨ a1 = 7 ∨ a1 = 10 ∨ a1 = 13 ∨ a1 = 16 ∨ a1 = 19 ∨ a1 = 22)) (x2 : gc_AT β η p9 23 I J) (x3 : 0 ≤ p9) (x4 : I 1 18 = 0) (x5 : I (t + 7) 1 = Ir 15 (Int.toNat (Ir 0 6))) (x6 : gs_NA (I (t + 7) 1) (J (t + 8)) (fun k => Jr 22 (Int.toNat (16 * Ir 0 6 + (k : Int))))) (x7 : gs_MA Ir I t) (x8 : I 39 2 = (t : Int)) (KLT_I : gc_LT I) (KTK_I : gc_TK I) (KRS_I : gc_row 41 25 gc_fS I) (KRC_I : gc_RC I) : ∃ r h', gz_Ev ws0 tb 4 (yX6_readContext, cX6_readContext, 2, (some .boolean)) [.inr (.inr (some 39)), .inl a1] sh (gc_h sh I J A) r sh h' 0 0 ∧ (∃ (I' : gr_I) (J' : gr_J), h' = gc_h sh I' J' A ∧ gc_Inv ro I' ∧ (∀ q j : Nat, ((q = 39 ∧ j = 3) ∨ (q = 39 ∧ j = 4) ∨ (q = 23 ∧ j = 5) ∨ (q = 23 ∧ j = 6) ∨ (q = 23 ∧ j = 7) ∨ (q = 23 ∧ j = 8) ∨ (q = 1 ∧ j = 17) ∨ (q = 1 ∧ j = 18) ∨ q = 20 ∨ (q = 41 ∧ j = (Int.toNat a1)) ∨ (q = 41 ∧ j = (Int.toNat (a1 + 1))) ∨ (q = 41 ∧ j = (Int.toNat (a1 + 2)))) ∨ I' q j = I q j) ∧ (∀ q j : Nat, ((q = 23 ∧ j = 9)) ∨ J' q j = J q j) ∧ gc_LT I' ∧ gc_TK I' ∧ gc_row 41 25 gc_fS I' ∧ gc_RC I' ∧ (∃ z : Int, r = some (.inl z) ∧ 0 ≤ z ∧ z ≤ 1 ∧ (I' 23 1 = I 23 1) ∧ (I 23 5 ≤ I' 23 5) ∧ (B ≤ 1280 ∧ I' 1 17 + I' 23 1 ≤ B + I' 23 5) ∧ (gc_PKs I I') ∧ (gs_Or z (0 ≤ (gs_ctx β η Ir Jr 1 p9) ∧ gc_AT β η (gs_ctx β η Ir Jr 1 p9) 23 I' J' ∧ I' 1 18 = 0 ∧ gs_itc I I' t (I' 41) (Int.toNat a1) (gs_ti β η Ir Jr p9)) ((gs_ctx β η Ir Jr 1 p9) < 0 ∧ I' 39 4 = -1 - (gs_ctx β η Ir Jr 1 p9))))) := by
  have FI : ∀ q j : Nat, ((q = 39 ∧ j = 3) ∨ (q = 39 ∧ j = 4) ∨ (q = 23 ∧ j = 5) ∨ (q = 23 ∧ j = 6) ∨ (q = 23 ∧ j = 7) ∨ (q = 23 ∧ j = 8) ∨ (q = 1 ∧ j = 17) ∨ (q = 1 ∧ j = 18) ∨ q = 20 ∨ (q = 41 ∧ j = (Int.toNat a1)) ∨ (q = 41 ∧ j = (Int.toNat (a1 + 1))) ∨ (q = 41 ∧ j = (Int.toNat (a1 + 2)))) ∨ I q j = I q j := fun _ _ => Or.inr rfl
  have FJ : ∀ q j : Nat, ((q = 23 ∧ j = 9)) ∨ J q j = J q j := fun _ _ => Or.inr rfl
  have A_39_1 : A 39 1 = some 23 := gc_bA hb rfl
  have A_39_10 : A 39 10 = some 41 := gc_bA hb rfl
  have B_23 : 23 < 1000000 := by decide
  have B_39 : 39 < 1000000 := by decide
  have B_41 : 41 < 1000000 := by decide
  have R_1 : ro 1 = 22 := gc_bR hb (by decide) rfl
  have R_23 : ro 23 = 3 := gc_bR hb (by decide) rfl
  have R_39 : ro 39 = 42 := gc_bR hb (by decide) rfl
  have R_41 : ro 41 = 0 := gc_bR hb (by decide) rfl
  have S_23 : sh[23]? = some (false, 9, 10) := gc_bS hb rfl
  have S_39 : sh[39]? = some (false, 6, 19) := gc_bS hb rfl
  have S_41 : sh[41]? = some (true, 1, 25) := gc_bS hb rfl
  obtain ⟨S_t, R_t, B_t, A_t_0, h_t_1, A_t_1, h_t_3, A_t_2, S_t_5, R_t_5, B_t_5, A_t_3, S_t_6, R_t_6, B_t_6, A_t_4, h_t_7, A_t_5, S_t_9, R_t_9, B_t_9, A_t_7, S_t_10, R_t_10, B_t_10, A_t_8, h_t_11, A_t_9, S_t_13, R_t_13, B_t_13, A_t_10, S_t_14, R_t_14, B_t_14, A_t_12, S_t_15, R_t_15, B_t_15, A_t_14, S_t_16, R_t_16, B_t_16, A_t_15, h_t_17⟩ := id h_t
  obtain ⟨S_t_1, R_t_1, B_t_1, A_t_1_0, S_t_1_1, R_t_1_1, B_t_1_1, Q0_t_1, Q1_t_1, Q2_t_1⟩ := id h_t_1
  obtain ⟨S_t_3, R_t_3, B_t_3, A_t_3_0, S_t_3_1, R_t_3_1, B_t_3_1, Q0_t_3, Q1_t_3, Q2_t_3⟩ := id h_t_3
  obtain ⟨S_t_7, R_t_7, B_t_7, A_t_7_0, S_t_7_1, R_t_7_1, B_t_7_1, Q0_t_7, Q1_t_7, Q2_t_7⟩ := id h_t_7
  obtain ⟨S_t_11, R_t_11, B_t_11, A_t_11_0, S_t_11_1, R_t_11_1, B_t_11_1, Q0_t_11, Q1_t_11, Q2_t_11⟩ := id h_t_11
  obtain ⟨S_t_17, R_t_17, B_t_17, A_t_17_0, S_20, R_20, B_20, A_t_17_1, S_t_17_1, R_t_17_1, B_t_17_1, A_t_17_2, S_t_17_2, R_t_17_2, B_t_17_2, A_t_17_3, S_t_17_3, R_t_17_3, B_t_17_3, A_t_17_4, S_t_17_4, R_t_17_4, B_t_17_4, A_t_17_5, S_t_17_5, R_t_17_5, B_t_17_5, S_t_17_6, R_t_17_6, B_t_17_6, S_t_17_7, R_t_17_7, B_t_17_7⟩ := id h_t_17
  have hD : gv_D (gc_E6 ws0 tb 3 (yX6_readContext, cX6_readContext, 2, (some .boolean)) kX6_readContext) := gq_of oX6_readContext
  refine gc_ev6 (d := 3) (l := kX6_readContext) (Po := fun r h' => (∃ (I' : gr_I) (J' : gr_J), h' = gc_h sh I' J' A ∧ gc_Inv ro I' ∧ (∀ q j : Nat, ((q = 39 ∧ j = 3) ∨ (q = 39 ∧ j = 4) ∨ (q = 23 ∧ j = 5) ∨ (q = 23 ∧ j = 6) ∨ (q = 23 ∧ j = 7) ∨ (q = 23 ∧ j = 8) ∨ (q = 1 ∧ j = 17) ∨ (q = 1 ∧ j = 18) ∨ q = 20 ∨ (q = 41 ∧ j = (Int.toNat a1)) ∨ (q = 41 ∧ j = (Int.toNat (a1 + 1))) ∨ (q = 41 ∧ j = (Int.toNat (a1 + 2)))) ∨ I' q j = I q j) ∧ (∀ q j : Nat, ((q = 23 ∧ j = 9)) ∨ J' q j = J q j) ∧ gc_LT I' ∧ gc_TK I' ∧ gc_row 41 25 gc_fS I' ∧ gc_RC I' ∧ (∃ z : Int, r = some (.inl z) ∧ 0 ≤ z ∧ z ≤ 1 ∧ (I' 23 1 = I 23 1) ∧ (I 23 5 ≤ I' 23 5) ∧ (B ≤ 1280 ∧ I' 1 17 + I' 23 1 ≤ B + I' 23 5) ∧ (gc_PKs I I') ∧ (gs_Or z (0 ≤ (gs_ctx β η Ir Jr 1 p9) ∧ gc_AT β η (gs_ctx β η Ir Jr 1 p9) 23 I' J' ∧ I' 1 18 = 0 ∧ gs_itc I I' t (I' 41) (Int.toNat a1) (gs_ti β η Ir Jr p9)) ((gs_ctx β η Ir Jr 1 p9) < 0 ∧ I' 39 4 = -1 - (gs_ctx β η Ir Jr 1 p9)))))) htb rfl (Nat.le_of_ble_eq_true rfl) ?_
  have N_t_7__41 : ¬ ((t + 7) = 41) := by exact gz_m 0 (by omega)
  have N_t_7__20 : ¬ ((t + 7) = 20) := by exact gz_m 1 (by omega)
  have KPK_I : gc_PKs I I := gc_PKs_rf
  have t1 := gc_TK_mo KTK_I
  have f2 := (show 0 ≤ I 23 1 ∧ I 23 1 ≤ 1000 from gc_in hI R_23 rfl rfl)
  have f3 := (show 0 ≤ I 23 5 ∧ I 23 5 ≤ 1000 from gc_in hI R_23 rfl rfl)
  have f4 := (show 0 ≤ I 23 6 ∧ I 23 6 ≤ 1001 from gc_in hI R_23 rfl rfl)
  have f5 := (show 0 ≤ I 23 7 ∧ I 23 7 ≤ 125 from gc_in hI R_23 rfl rfl)
  have f6 := (show 0 ≤ I 1 17 ∧ I 1 17 ≤ 12000 from gc_in hI R_1 rfl rfl)
  have f7 := (show 0 ≤ I (t + 7) 1 ∧ I (t + 7) 1 ≤ 16 from gc_in hI R_t_7 rfl rfl)
  have f8 := (show 0 ≤ I 1 18 ∧ I 1 18 ≤ 1 from gc_in hI R_1 rfl rfl)
  have f9 := (show (-1) ≤ I 39 2 ∧ I 39 2 ≤ 999999 from gc_in hI R_39 rfl rfl)
  have tAT := gc_AT_l x2
  have L121 : ∀ (I10 : gr_I) (J11 : gr_J) (p_12 : Int), gc_Inv ro I10 → (∀ q j : Nat, ((q = 39 ∧ j = 3) ∨ (q = 39 ∧ j = 4) ∨ (q = 23 ∧ j = 5) ∨ (q = 23 ∧ j = 6) ∨ (q = 23 ∧ j = 7) ∨ (q = 23 ∧ j = 8) ∨ (q = 1 ∧ j = 17) ∨ (q = 1 ∧ j = 18) ∨ q = 20 ∨ (q = 41 ∧ j = (Int.toNat a1)) ∨ (q = 41 ∧ j = (Int.toNat (a1 + 1))) ∨ (q = 41 ∧ j = (Int.toNat (a1 + 2)))) ∨ I10 q j = I q j) → (∀ q j : Nat, ((q = 23 ∧ j = 9)) ∨ J11 q j = J q j) → gc_LT I10 → gc_TK I10 → gc_row 41 25 gc_fS I10 → gc_PKs I I10 → ((I10 41 (Int.toNat a1) = 1 → I10 41 (Int.toNat (a1 + 1)) ≤ 15) ∧ (I 23 7 = 1 ∨ I 23 7 = 3 ∨ I 23 7 = 35) ∧ (I10 23 7 = I 23 7) ∧ (I10 23 6 = I 23 6) ∧ (I10 23 5 = I 23 5) ∧ (I10 1 17 ≤ I 1 17 ∨ I10 1 17 ≤ I 1 17 + I 23 6 - I 23 5) ∧ (0 ≤ p_12) ∧ (I10 1 18 = 0) ∧ (I10 23 1 = I 23 1) ∧ (I 23 5 ≤ I10 23 5) ∧ (I10 39 2 = (t : Int))) → (gc_AT β η p_12 23 I10 J11) → ((gs_ctx β η Ir Jr 1 p9) = gs_X β η p_12) → (gs_itc I I10 t (I10 41) (Int.toNat a1) (gs_ti β η Ir Jr p9)) → gv_X (gc_E6 ws0 tb 3 (yX6_readContext, cX6_readContext, 2, (some .boolean)) kX6_readContext) (gv_Q cX6_readContext (some .boolean) sh (fun r h' => (∃ (I' : gr_I) (J' : gr_J), h' = gc_h sh I' J' A ∧ gc_Inv ro I' ∧ (∀ q j : Nat, ((q = 39 ∧ j = 3) ∨ (q = 39 ∧ j = 4) ∨ (q = 23 ∧ j = 5) ∨ (q = 23 ∧ j = 6) ∨ (q = 23 ∧ j = 7) ∨ (q = 23 ∧ j = 8) ∨ (q = 1 ∧ j = 17) ∨ (q = 1 ∧ j = 18) ∨ q = 20 ∨ (q = 41 ∧ j = (Int.toNat a1)) ∨ (q = 41 ∧ j = (Int.toNat (a1 + 1))) ∨ (q = 41 ∧ j = (Int.toNat (a1 + 2)))) ∨ I' q j = I q j) ∧ (∀ q j : Nat, ((q = 23 ∧ j = 9)) ∨ J' q j = J q j) ∧ gc_LT I' ∧ gc_TK I' ∧ gc_row 41 25 gc_fS I' ∧ gc_RC I' ∧ (∃ z : Int, r = some (.inl z) ∧ 0 ≤ z ∧ z ≤ 1 ∧ (I' 23 1 = I 23 1) ∧ (I 23 5 ≤ I' 23 5) ∧ (B ≤ 1280 ∧ I' 1 17 + I' 23 1 ≤ B + I' 23 5) ∧ (gc_PKs I I') ∧ (gs_Or z (0 ≤ (gs_ctx β η Ir Jr 1 p9) ∧ gc_AT β η (gs_ctx β η Ir Jr 1 p9) 23 I' J' ∧ I' 1 18 = 0 ∧ gs_itc I I' t (I' 41) (Int.toNat a1) (gs_ti β η Ir Jr p9)) ((gs_ctx β η Ir Jr 1 p9) < 0 ∧ I' 39 4 = -1 - (gs_ctx β η Ir Jr 1 p9))))))) (121, [(0, .inr (.inr (some 39)))], [], sh, gc_h sh I10 J11 A) := by
    intro I10 J11 p_12 hI10 FI10 FJ11 KLT_I10 KTK_I10 KRS_I10 KPK_I10 m_12 e7_12 e8_12 e9_12
    obtain ⟨e0_12, e1_12, e2_12, e3_12, e4_12, e5_12, e6_12, e10_12, e11_12, e12_12, e13_12⟩ := m_12
    have t13 := gc_TK_mo KTK_I10
    have f14 := (show 0 ≤ I10 23 1 ∧ I10 23 1 ≤ 1000 from gc_in hI10 R_23 rfl rfl)
    have f15 := (show 0 ≤ I10 23 5 ∧ I10 23 5 ≤ 1000 from gc_in hI10 R_23 rfl rfl)
    have f16 := (show 0 ≤ I10 23 6 ∧ I10 23 6 ≤ 1001 from gc_in hI10 R_23 rfl rfl)
    have f17 := (show 0 ≤ I10 23 7 ∧ I10 23 7 ≤ 125 from gc_in hI10 R_23 rfl rfl)
    have f18 := (show 0 ≤ I10 1 17 ∧ I10 1 17 ≤ 12000 from gc_in hI10 R_1 rfl rfl)
    have f19 := (show 0 ≤ I10 (t + 7) 1 ∧ I10 (t + 7) 1 ≤ 16 from gc_in hI10 R_t_7 rfl rfl)
    have f20 := (show 0 ≤ I10 1 18 ∧ I10 1 18 ≤ 1 from gc_in hI10 R_1 rfl rfl)
    have f21 := (show (-1) ≤ I10 39 2 ∧ I10 39 2 ≤ 999999 from gc_in hI10 R_39 rfl rfl)
    have t22 := gc_AT_l e7_12
    refine gv_run 1 true hD (pc' := 122) (lv' := [(0, .inr (.inr (some 39)))]) (st' := [.inr (.inr (some 39))]) (h' := gc_h sh I10 J11 A) (C := (True ∧ True)) rfl ⟨trivial, trivial⟩ ?_
    refine gv_get hD rfl rfl S_39 ⟨by decide, B_39⟩ (gc_hA S_39 rfl A_39_1) ?_
    show gv_X _ _ (125, [(0, .inr (.inr (some 39)))], [.inr (.inr (some 23))], sh, gc_h sh I10 J11 A)
    have t24 := gc_TK_nx KTK_I10 (by exact gz_m 2 (by omega))
    have t25 := gc_TK_st KTK_I10 (by exact gz_m 3 (by omega))
    obtain ⟨r23, h23, E23, P23⟩ := d_X9_advance_p (ws0 := ws0) (tb := tb) hws htb sh ro I10 J11 A hI10 23 β η  (gc_b23 hb)    (by exact gz_m 4 (by omega)) e7_12.1.1 e7_12.1.2 
    obtain ⟨I26, J27, rfl, hI26, g23, k23, ⟨rfl, V23_0, V23_1, V23_2, V23_3, V23_4, q23⟩⟩ := P23
    have FI26 := gc_frc (W := fun q j => (q = 39 ∧ j = 3) ∨ (q = 39 ∧ j = 4) ∨ (q = 23 ∧ j = 5) ∨ (q = 23 ∧ j = 6) ∨ (q = 23 ∧ j = 7) ∨ (q = 23 ∧ j = 8) ∨ (q = 1 ∧ j = 17) ∨ (q = 1 ∧ j = 18) ∨ q = 20 ∨ (q = 41 ∧ j = (Int.toNat a1)) ∨ (q = 41 ∧ j = (Int.toNat (a1 + 1))) ∨ (q = 41 ∧ j = (Int.toNat (a1 + 2)))) (V := fun q j => (q = 23 ∧ j = 5) ∨ (q = 23 ∧ j = 6) ∨ (q = 23 ∧ j = 7) ∨ (q = 23 ∧ j = 8)) FI10 (fun q j h => (h.elim (fun h => (Or.inr (Or.inr (Or.inl h)))) (fun h => (h.elim (fun h => (Or.inr (Or.inr (Or.inr (Or.inl h))))) (fun h => (h.elim (fun h => (Or.inr (Or.inr (Or.inr (Or.inr (Or.inl h)))))) (fun h => (Or.inr (Or.inr (Or.inr (Or.inr (Or.inr (Or.inl h))))))))))))) g23
    have FJ27 := gc_frc (W := fun q j => (q = 23 ∧ j = 9)) (V := fun q j => (q = 23 ∧ j = 9)) FJ11 (fun q j h => h) k23
    have t28 := (g23 23 1).resolve_left (fun h => h.elim (fun h => absurd h.2 (by decide)) (fun h => h.elim (fun h => absurd h.2 (by decide)) (fun h => h.elim (fun h => absurd h.2 (by decide)) (fun h => absurd h.2 (by decide)))))
    have t29 := (g23 1 17).resolve_left (fun h => h.elim (fun h => absurd h.2 (by decide)) (fun h => h.elim (fun h => absurd h.2 (by decide)) (fun h => h.elim (fun h => absurd h.2 (by decide)) (fun h => absurd h.2 (by decide)))))
    have t30 := (g23 (t + 7) 1).resolve_left (fun h => h.elim (fun h => absurd h.2 (by decide)) (fun h => h.elim (fun h => absurd h.2 (by decide)) (fun h => h.elim (fun h => absurd h.2 (by decide)) (fun h => absurd h.2 (by decide)))))
    have t31 := (g23 1 18).resolve_left (fun h => h.elim (fun h => absurd h.2 (by decide)) (fun h => h.elim (fun h => absurd h.2 (by decide)) (fun h => h.elim (fun h => absurd h.2 (by decide)) (fun h => absurd h.2 (by decide)))))
    have t32 := (g23 39 2).resolve_left (fun h => h.elim (fun h => absurd h.2 (by decide)) (fun h => h.elim (fun h => absurd h.2 (by decide)) (fun h => h.elim (fun h => absurd h.2 (by decide)) (fun h => absurd h.2 (by decide)))))
    have t33 := (g23 41 (Int.toNat a1)).resolve_left (fun h => h.elim (fun h => absurd h.1 (by decide)) (fun h => h.elim (fun h => absurd h.1 (by decide)) (fun h => h.elim (fun h => absurd h.1 (by decide)) (fun h => absurd h.1 (by decide)))))
    have t34 := (g23 41 (Int.toNat (a1 + 1))).resolve_left (fun h => h.elim (fun h => absurd h.1 (by decide)) (fun h => h.elim (fun h => absurd h.1 (by decide)) (fun h => h.elim (fun h => absurd h.1 (by decide)) (fun h => absurd h.1 (by decide)))))
    have f35 := (show 0 ≤ I26 23 5 ∧ I26 23 5 ≤ 1000 from gc_in hI26 R_23 rfl rfl)
    have f36 := (show 0 ≤ I26 23 6 ∧ I26 23 6 ≤ 1001 from gc_in hI26 R_23 rfl rfl)
    have f37 := (show 0 ≤ I26 23 7 ∧ I26 23 7 ≤ 125 from gc_in hI26 R_23 rfl rfl)
    have KLT_I26 : gc_LT I26 := q23.2.2.1
    have KRS_I26 := gc_row_fr KRS_I10 (fun k => (g23 41 k).resolve_left (fun h => h.elim (fun h => absurd h.1 (by decide)) (fun h => h.elim (fun h => absurd h.1 (by decide)) (fun h => h.elim (fun h => absurd h.1 (by decide)) (fun h => absurd h.1 (by decide))))))
    have KPK_I26 := gc_PKs_fr KPK_I10 ((g23 1 17).resolve_left (fun h => h.elim (fun h => absurd h.2 (by decide)) (fun h => h.elim (fun h => absurd h.2 (by decide)) (fun h => h.elim (fun h => absurd h.2 (by decide)) (fun h => absurd h.2 (by decide)))))) (fun k => (g23 20 k).resolve_left (fun h => h.elim (fun h => absurd h.1 (by decide)) (fun h => h.elim (fun h => absurd h.1 (by decide)) (fun h => h.elim (fun h => absurd h.1 (by decide)) (fun h => absurd h.1 (by decide))))))
    have KTK_I26 : gc_TK I26 := And.intro V23_0 (And.intro V23_1 (And.intro V23_2 (And.intro V23_3 V23_4)))
    have t38 := gc_TK_mo KTK_I26
    clear V23_0 V23_1 V23_2 V23_3 V23_4
    have A39 := gc_AT_nx e7_12 q23.2.2.2
    have t40 := gc_AT_l A39
    refine gv_callV hD rfl (As := []) (st := []) rfl B_23 S_23 rfl (gc_lV6 hws rfl) (Nat.le_of_ble_eq_true rfl) (gz_Ev_mono (d := 2) (by decide) E23) ?_
    show gv_X _ _ (128, [(0, .inr (.inr (some 39)))], [], sh, gc_h sh I26 J27 A)
    refine gv_run 1 true hD (pc' := 129) (lv' := [(0, .inr (.inr (some 39)))]) (st' := [.inl 1]) (h' := gc_h sh I26 J27 A) (C := (True ∧ True)) rfl ⟨trivial, trivial⟩ ?_
    exact gv_zret hD rfl (by exact gz_m 5 (by omega)) ⟨I26, J27, rfl, hI26, FI26, FJ27, KLT_I26, KTK_I26, KRS_I26, (gc_RC_ctx KRC_I (by exact gz_m 6 (by omega)) (fun j h1 h2 h3 => (FI26 41 j).resolve_left (by exact gz_m 7 (by omega))) (by exact gz_m 8 (by omega))), ⟨_, rfl, by exact gz_m 9 (by omega), by exact gz_m 10 (by omega), by exact gz_m 11 (by omega), by exact gz_m 12 (by omega), by exact gz_m 13 (by omega), KPK_I26, (Or.inl ⟨by exact gz_m 14 (by omega), by rw [e8_12]; exact ⟨by exact gz_m 15 (by omega), A39, by exact gz_m 16 (by omega), gs_itc_kp e9_12 (gc_PKs_fr gc_PKs_rf ((g23 1 17).resolve_left (by exact gz_m 17 (by omega))) (fun k => ((g23 20 k).resolve_left (by exact gz_m 18 (by omega))))) ((g23 41 (Int.toNat a1)).resolve_left (by exact gz_m 19 (by omega))) ((g23 41 ((Int.toNat a1) + 1)).resolve_left (by exact gz_m 20 (by omega))) ((g23 41 ((Int.toNat a1) + 2)).resolve_left (by exact gz_m 21 (by omega)))⟩⟩)⟩⟩
  refine gv_run 1 true hD (pc' := 1) (lv' := [(0, .inr (.inr (some 39))), (1, .inl a1)]) (st' := [.inr (.inr (some 39))]) (h' := gc_h sh I J A) (C := (True ∧ True)) rfl ⟨trivial, trivial⟩ ?_
  refine gv_get hD rfl rfl S_39 ⟨by decide, B_39⟩ (gc_hA S_39 rfl A_39_1) ?_
  show gv_X _ _ (4, [(0, .inr (.inr (some 39))), (1, .inl a1)], [.inr (.inr (some 23))], sh, gc_h sh I J A)
  have f41 := (show 0 ≤ I 23 7 ∧ I 23 7 ≤ 125 from gc_in hI R_23 rfl rfl)
  refine gv_get hD rfl rfl S_23 ⟨by decide, B_23⟩ (gc_hI S_23 rfl) ?_
  show gv_X _ _ (7, [(0, .inr (.inr (some 39))), (1, .inl a1)], [.inl (I 23 7)], sh, gc_h sh I J A)
  refine gv_run 1 true hD (pc' := 9) (lv' := [(0, .inr (.inr (some 39))), (1, .inl a1)]) (st' := [.inl 35, .inl (I 23 7)]) (h' := gc_h sh I J A) (C := (True ∧ True)) rfl ⟨trivial, trivial⟩ ?_
  refine gv_icmp_ne (t := 22) hD rfl rfl ⟨⟨by exact gz_m 22 (by omega), by exact gz_m 23 (by omega)⟩, ⟨by exact gz_m 24 (by omega), by exact gz_m 25 (by omega)⟩⟩ (fun c42 => ?_) (fun c42 => ?_)
  · show gv_X _ _ (22, [(0, .inr (.inr (some 39))), (1, .inl a1)], [], sh, gc_h sh I J A)
    refine gv_run 1 true hD (pc' := 23) (lv' := [(0, .inr (.inr (some 39))), (1, .inl a1)]) (st' := [.inr (.inr (some 39))]) (h' := gc_h sh I J A) (C := (True ∧ True)) rfl ⟨trivial, trivial⟩ ?_
    refine gv_get hD rfl rfl S_39 ⟨by decide, B_39⟩ (gc_hA S_39 rfl A_39_1) ?_
    show gv_X _ _ (26, [(0, .inr (.inr (some 39))), (1, .inl a1)], [.inr (.inr (some 23))], sh, gc_h sh I J A)
    have f43 := (show 0 ≤ I 23 7 ∧ I 23 7 ≤ 125 from gc_in hI R_23 rfl rfl)
    refine gv_get hD rfl rfl S_23 ⟨by decide, B_23⟩ (gc_hI S_23 rfl) ?_
    show gv_X _ _ (29, [(0, .inr (.inr (some 39))), (1, .inl a1)], [.inl (I 23 7)], sh, gc_h sh I J A)
    refine gv_run 1 true hD (pc' := 30) (lv' := [(0, .inr (.inr (some 39))), (1, .inl a1)]) (st' := [.inl 3, .inl (I 23 7)]) (h' := gc_h sh I J A) (C := (True ∧ True)) rfl ⟨trivial, trivial⟩ ?_
    refine gv_icmp_ne (t := 70) hD rfl rfl ⟨⟨by exact gz_m 26 (by omega), by exact gz_m 27 (by omega)⟩, ⟨by exact gz_m 28 (by omega), by exact gz_m 29 (by omega)⟩⟩ (fun c44 => ?_) (fun c44 => ?_)
    · show gv_X _ _ (70, [(0, .inr (.inr (some 39))), (1, .inl a1)], [], sh, gc_h sh I J A)
      refine gv_run 2 true hD (pc' := 72) (lv' := [(0, .inr (.inr (some 39))), (1, .inl a1)]) (st' := [.inr (.inr (some 39)), .inr (.inr (some 39))]) (h' := gc_h sh I J A) (C := ((True ∧ True) ∧ True)) rfl ⟨⟨trivial, trivial⟩, trivial⟩ ?_
      refine gv_get hD rfl rfl S_39 ⟨by decide, B_39⟩ (gc_h5 (t := t) S_39 rfl (by exact gz_m 30 (by omega))) ?_
      show gv_X _ _ (75, [(0, .inr (.inr (some 39))), (1, .inl a1)], [.inr (.inr (some t)), .inr (.inr (some 39))], sh, gc_h sh I J A)
      refine gv_get hD rfl rfl S_t ⟨by decide, B_t⟩ (gc_hA S_t rfl A_t_4) ?_
      show gv_X _ _ (78, [(0, .inr (.inr (some 39))), (1, .inl a1)], [.inr (.inr (some (t + 7))), .inr (.inr (some 39))], sh, gc_h sh I J A)
      obtain ⟨r45, h45, E45, P45⟩ := d_X6_needKnown_p (ws0 := ws0) (tb := tb) hws htb sh ro I J A hI  16 7 β η p9 (t + 7) hb h_t_7   x2 (by exact gz_m 31 (by omega)) 
      obtain ⟨I46, J47, rfl, hI46, g45, k45, ⟨z45, rfl, q45⟩⟩ := P45
      have FI46 := gc_frc (W := fun q j => (q = 39 ∧ j = 3) ∨ (q = 39 ∧ j = 4) ∨ (q = 23 ∧ j = 5) ∨ (q = 23 ∧ j = 6) ∨ (q = 23 ∧ j = 7) ∨ (q = 23 ∧ j = 8) ∨ (q = 1 ∧ j = 17) ∨ (q = 1 ∧ j = 18) ∨ q = 20 ∨ (q = 41 ∧ j = (Int.toNat a1)) ∨ (q = 41 ∧ j = (Int.toNat (a1 + 1))) ∨ (q = 41 ∧ j = (Int.toNat (a1 + 2)))) (V := fun q j => (q = 39 ∧ j = 3) ∨ (q = 39 ∧ j = 4)) FI (fun q j h => (h.elim (fun h => (Or.inl h)) (fun h => (Or.inr (Or.inl h))))) g45
      have t48 := (g45 23 1).resolve_left (fun h => h.elim (fun h => absurd h.2 (by decide)) (fun h => absurd h.2 (by decide)))
      have t49 := (g45 23 5).resolve_left (fun h => h.elim (fun h => absurd h.2 (by decide)) (fun h => absurd h.2 (by decide)))
      have t50 := (g45 23 6).resolve_left (fun h => h.elim (fun h => absurd h.2 (by decide)) (fun h => absurd h.2 (by decide)))
      have t51 := (g45 23 7).resolve_left (fun h => h.elim (fun h => absurd h.2 (by decide)) (fun h => absurd h.2 (by decide)))
      have t52 := (g45 1 17).resolve_left (fun h => h.elim (fun h => absurd h.2 (by decide)) (fun h => absurd h.2 (by decide)))
      have t53 := (g45 (t + 7) 1).resolve_left (fun h => h.elim (fun h => absurd h.2 (by decide)) (fun h => absurd h.2 (by decide)))
      have t54 := (g45 1 18).resolve_left (fun h => h.elim (fun h => absurd h.2 (by decide)) (fun h => absurd h.2 (by decide)))
      have t55 := (g45 39 2).resolve_left (fun h => h.elim (fun h => absurd h.2 (by decide)) (fun h => absurd h.2 (by decide)))
      have t56 := (g45 41 (Int.toNat a1)).resolve_left (fun h => h.elim (fun h => absurd h.1 (by decide)) (fun h => absurd h.1 (by decide)))
      have t57 := (g45 41 (Int.toNat (a1 + 1))).resolve_left (fun h => h.elim (fun h => absurd h.1 (by decide)) (fun h => absurd h.1 (by decide)))
      obtain rfl : J = J47 := funext fun q => funext fun j => ((k45 q j).resolve_left id).symm
      have KLT_I46 := gc_LT_fr KLT_I ((g45 23 5).resolve_left (fun h => h.elim (fun h => absurd h.2 (by decide)) (fun h => absurd h.2 (by decide)))) ((g45 23 6).resolve_left (fun h => h.elim (fun h => absurd h.2 (by decide)) (fun h => absurd h.2 (by decide)))) ((g45 23 7).resolve_left (fun h => h.elim (fun h => absurd h.2 (by decide)) (fun h => absurd h.2 (by decide)))) (fun k => (g45 24 k).resolve_left (fun h => h.elim (fun h => absurd h.1 (by decide)) (fun h => absurd h.1 (by decide))))
      have KTK_I46 := gc_TK_fr KTK_I ((g45 23 1).resolve_left (fun h => h.elim (fun h => absurd h.2 (by decide)) (fun h => absurd h.2 (by decide)))) ((g45 23 5).resolve_left (fun h => h.elim (fun h => absurd h.2 (by decide)) (fun h => absurd h.2 (by decide)))) ((g45 23 6).resolve_left (fun h => h.elim (fun h => absurd h.2 (by decide)) (fun h => absurd h.2 (by decide)))) ((g45 23 7).resolve_left (fun h => h.elim (fun h => absurd h.2 (by decide)) (fun h => absurd h.2 (by decide))))
      have KRS_I46 := gc_row_fr KRS_I (fun k => (g45 41 k).resolve_left (fun h => h.elim (fun h => absurd h.1 (by decide)) (fun h => absurd h.1 (by decide))))
      have KRC_I46 := gc_RC_fr KRC_I (fun k => (g45 41 k).resolve_left (fun h => h.elim (fun h => absurd h.1 (by decide)) (fun h => absurd h.1 (by decide))))
      have KPK_I46 := gc_PKs_fr KPK_I ((g45 1 17).resolve_left (fun h => h.elim (fun h => absurd h.2 (by decide)) (fun h => absurd h.2 (by decide)))) (fun k => (g45 20 k).resolve_left (fun h => h.elim (fun h => absurd h.1 (by decide)) (fun h => absurd h.1 (by decide))))
      have A58 := gc_AT_I x2 ((g45 23 1).resolve_left (fun h => h.elim (fun h => absurd h.2 (by decide)) (fun h => absurd h.2 (by decide)))) ((g45 23 5).resolve_left (fun h => h.elim (fun h => absurd h.2 (by decide)) (fun h => absurd h.2 (by decide)))) ((g45 23 6).resolve_left (fun h => h.elim (fun h => absurd h.2 (by decide)) (fun h => absurd h.2 (by decide)))) ((g45 23 7).resolve_left (fun h => h.elim (fun h => absurd h.2 (by decide)) (fun h => absurd h.2 (by decide)))) ((g45 23 8).resolve_left (fun h => h.elim (fun h => absurd h.2 (by decide)) (fun h => absurd h.2 (by decide)))) (fun k => (g45 24 k).resolve_left (fun h => h.elim (fun h => absurd h.1 (by decide)) (fun h => absurd h.1 (by decide))))
      have t59 := gc_AT_l A58
      refine gv_callV hD rfl (As := [.inr (.inr (some (t + 7)))]) (st := []) rfl B_39 S_39 rfl (gc_lV6 hws rfl) (Nat.le_of_ble_eq_true rfl) (gz_Ev_mono (d := 3) (by decide) E45) ?_
      show gv_X _ _ (81, [(0, .inr (.inr (some 39))), (1, .inl a1)], [.inl z45], sh, gc_h sh I46 J A)
      refine gv_if_eq (t := 119) hD rfl rfl ⟨by exact gz_m 32 (by omega), by exact gz_m 33 (by omega)⟩ (fun c60 => ?_) (fun c60 => ?_)
      · show gv_X _ _ (119, [(0, .inr (.inr (some 39))), (1, .inl a1)], [], sh, gc_h sh I46 J A)
        have u61 := gs_or0 q45.2.2.2 (by exact gz_m 34 (by omega))
        have L45 : gs_T β η p9 = 1 → gc_fd (J ((t + 7) + 1)) (gs_M β η p9) (Int.toNat (I (t + 7) 1)) = gs_lt Jr 22 (16 * Ir 0 6) (Ir 15 (Int.toNat (Ir 0 6))) (gs_rn β η p9) := (fun h => by exact gs_NA_lt x6 x5 h)
        refine gv_run 1 true hD (pc' := 120) (lv' := [(0, .inr (.inr (some 39))), (1, .inl a1)]) (st' := [.inl 0]) (h' := gc_h sh I46 J A) (C := (True ∧ True)) rfl ⟨trivial, trivial⟩ ?_
        exact gv_zret hD rfl (by exact gz_m 35 (by omega)) ⟨I46, J, rfl, hI46, FI46, FJ, KLT_I46, KTK_I46, KRS_I46, KRC_I46, ⟨_, rfl, by exact gz_m 36 (by omega), by exact gz_m 37 (by omega), by exact gz_m 38 (by omega), by exact gz_m 39 (by omega), by exact gz_m 40 (by omega), KPK_I46, (Or.inr ⟨by exact gz_m 41 (by omega), by first | (exfalso; exact gz_m 42 (by omega)) | (unfold gs_ctx; by_cases c9 : gs_T β η p9 = 1; (have h9 := L45 c9; (repeat first | rw [if_pos (by exact gz_m 43 (by omega))] | rw [if_neg (by exact gz_m 44 (by omega))]); exact ⟨by exact gz_m 45 (by omega), by exact gz_m 46 (by omega)⟩); (repeat first | rw [if_pos (by exact gz_m 47 (by omega))] | rw [if_neg (by exact gz_m 48 (by omega))]); exact ⟨by exact gz_m 49 (by omega), by exact gz_m 50 (by omega)⟩)⟩)⟩⟩
      · show gv_X _ _ (84, [(0, .inr (.inr (some 39))), (1, .inl a1)], [], sh, gc_h sh I46 J A)
        have u62 := gs_or1 q45.2.2.2 (by exact gz_m 51 (by omega))
        have L45 : gs_T β η p9 = 1 → gc_fd (J ((t + 7) + 1)) (gs_M β η p9) (Int.toNat (I (t + 7) 1)) = gs_lt Jr 22 (16 * Ir 0 6) (Ir 15 (Int.toNat (Ir 0 6))) (gs_rn β η p9) := (fun h => by exact gs_NA_lt x6 x5 h)
        have t63 := L45 (by exact gz_m 52 (by omega))
        refine gv_run 1 true hD (pc' := 85) (lv' := [(0, .inr (.inr (some 39))), (1, .inl a1)]) (st' := [.inr (.inr (some 39))]) (h' := gc_h sh I46 J A) (C := (True ∧ True)) rfl ⟨trivial, trivial⟩ ?_
        refine gv_get hD rfl rfl S_39 ⟨by decide, B_39⟩ (gc_hA S_39 rfl A_39_10) ?_
        show gv_X _ _ (88, [(0, .inr (.inr (some 39))), (1, .inl a1)], [.inr (.inr (some 41))], sh, gc_h sh I46 J A)
        refine gv_run 2 true hD (pc' := 90) (lv' := [(0, .inr (.inr (some 39))), (1, .inl a1)]) (st' := [.inl 1, .inl a1, .inr (.inr (some 41))]) (h' := gc_h sh I46 J A) (C := ((True ∧ True) ∧ True)) rfl ⟨⟨trivial, trivial⟩, trivial⟩ ?_
        refine gv_iast hD rfl S_41 ⟨by decide, B_41⟩ ⟨by exact gz_m 53 (by omega), by exact gz_m 54 (by omega)⟩ ?_
        refine gc_st hI46 S_41 rfl R_41 (lo := (-2147483648)) (hi := 2147483647) rfl rfl (by exact gz_m 55 (by omega)) (by exact gz_m 56 (by omega)) (fun I64 hI64 q65 p65 => ?_)
        have FI64 := gc_frs (W := fun q j => (q = 39 ∧ j = 3) ∨ (q = 39 ∧ j = 4) ∨ (q = 23 ∧ j = 5) ∨ (q = 23 ∧ j = 6) ∨ (q = 23 ∧ j = 7) ∨ (q = 23 ∧ j = 8) ∨ (q = 1 ∧ j = 17) ∨ (q = 1 ∧ j = 18) ∨ q = 20 ∨ (q = 41 ∧ j = (Int.toNat a1)) ∨ (q = 41 ∧ j = (Int.toNat (a1 + 1))) ∨ (q = 41 ∧ j = (Int.toNat (a1 + 2)))) FI46 (Or.inr (Or.inr (Or.inr (Or.inr (Or.inr (Or.inr (Or.inr (Or.inr (Or.inr (Or.inl ⟨rfl, rfl⟩)))))))))) p65
        have t66 := p65 23 1 (fun h => absurd h.1 (by decide))
        have t67 := p65 23 5 (fun h => absurd h.1 (by decide))
        have t68 := p65 23 6 (fun h => absurd h.1 (by decide))
        have t69 := p65 23 7 (fun h => absurd h.1 (by decide))
        have t70 := p65 1 17 (fun h => absurd h.1 (by decide))
        have t71 := p65 (t + 7) 1 (fun h => absurd h.1 N_t_7__41)
        have t72 := p65 1 18 (fun h => absurd h.1 (by decide))
        have t73 := p65 39 2 (fun h => absurd h.1 (by decide))
        have t74 := p65 41 (Int.toNat (a1 + 1)) (fun h => absurd h.2 (by exact gz_m 57 (by omega)))
        have KLT_I64 := gc_LT_fr KLT_I46 (p65 23 5 (fun h => absurd h.1 (by decide))) (p65 23 6 (fun h => absurd h.1 (by decide))) (p65 23 7 (fun h => absurd h.1 (by decide))) (fun k => p65 24 k (fun h => absurd h.1 (by decide)))
        have KTK_I64 := gc_TK_fr KTK_I46 (p65 23 1 (fun h => absurd h.1 (by decide))) (p65 23 5 (fun h => absurd h.1 (by decide))) (p65 23 6 (fun h => absurd h.1 (by decide))) (p65 23 7 (fun h => absurd h.1 (by decide)))
        have KRS_I64 := gc_row_st KRS_I46 p65 q65 (by unfold gc_fS; exact gz_m 58 (by omega))
        have KPK_I64 := gc_PKs_fr KPK_I46 (p65 1 17 (fun h => absurd h.1 (by decide))) (fun k => p65 20 k (fun h => absurd h.1 (by decide)))
        have A75 := gc_AT_I A58 (p65 23 1 (fun h => absurd h.1 (by decide))) (p65 23 5 (fun h => absurd h.1 (by decide))) (p65 23 6 (fun h => absurd h.1 (by decide))) (p65 23 7 (fun h => absurd h.1 (by decide))) (p65 23 8 (fun h => absurd h.1 (by decide))) (fun k => p65 24 k (fun h => absurd h.1 (by decide)))
        show gv_X _ _ (91, [(0, .inr (.inr (some 39))), (1, .inl a1)], [], sh, gc_h sh I64 J A)
        refine gv_run 1 true hD (pc' := 92) (lv' := [(0, .inr (.inr (some 39))), (1, .inl a1)]) (st' := [.inr (.inr (some 39))]) (h' := gc_h sh I64 J A) (C := (True ∧ True)) rfl ⟨trivial, trivial⟩ ?_
        refine gv_get hD rfl rfl S_39 ⟨by decide, B_39⟩ (gc_hA S_39 rfl A_39_10) ?_
        show gv_X _ _ (95, [(0, .inr (.inr (some 39))), (1, .inl a1)], [.inr (.inr (some 41))], sh, gc_h sh I64 J A)
        refine gv_run 4 true hD (pc' := 99) (lv' := [(0, .inr (.inr (some 39))), (1, .inl a1)]) (st' := [.inr (.inr (some 39)), .inl (a1 + 1), .inr (.inr (some 41))]) (h' := gc_h sh I64 J A) (C := ((((True ∧ True) ∧ True) ∧ True) ∧ True)) rfl ⟨⟨⟨⟨trivial, trivial⟩, trivial⟩, trivial⟩, trivial⟩ ?_
        refine gv_get hD rfl rfl S_39 ⟨by decide, B_39⟩ (gc_h5 (t := t) S_39 rfl (by exact gz_m 59 (by omega))) ?_
        show gv_X _ _ (102, [(0, .inr (.inr (some 39))), (1, .inl a1)], [.inr (.inr (some t)), .inl (a1 + 1), .inr (.inr (some 41))], sh, gc_h sh I64 J A)
        refine gv_get hD rfl rfl S_t ⟨by decide, B_t⟩ (gc_hA S_t rfl A_t_4) ?_
        show gv_X _ _ (105, [(0, .inr (.inr (some 39))), (1, .inl a1)], [.inr (.inr (some (t + 7))), .inl (a1 + 1), .inr (.inr (some 41))], sh, gc_h sh I64 J A)
        refine gv_run 1 true hD (pc' := 106) (lv' := [(0, .inr (.inr (some 39))), (1, .inl a1)]) (st' := [.inr (.inr (some 39)), .inr (.inr (some (t + 7))), .inl (a1 + 1), .inr (.inr (some 41))]) (h' := gc_h sh I64 J A) (C := (True ∧ True)) rfl ⟨trivial, trivial⟩ ?_
        refine gv_get hD rfl rfl S_39 ⟨by decide, B_39⟩ (gc_hA S_39 rfl A_39_1) ?_
        show gv_X _ _ (109, [(0, .inr (.inr (some 39))), (1, .inl a1)], [.inr (.inr (some 23)), .inr (.inr (some (t + 7))), .inl (a1 + 1), .inr (.inr (some 41))], sh, gc_h sh I64 J A)
        refine gv_get hD rfl rfl S_23 ⟨by decide, B_23⟩ (gc_hJ S_23 rfl) ?_
        show gv_X _ _ (112, [(0, .inr (.inr (some 39))), (1, .inl a1)], [.inr (.inl (J 23 9)), .inr (.inr (some (t + 7))), .inl (a1 + 1), .inr (.inr (some 41))], sh, gc_h sh I64 J A)
        have t76 := (show gc_fd (J ((t + 7) + 1)) (J 23 9) (Int.toNat (I64 (t + 7) 1)) = gc_fd (J ((t + 7) + 1)) (J 23 9) (Int.toNat (I46 (t + 7) 1)) from by rw [show I64 (t + 7) 1 = I46 (t + 7) 1 from by exact gz_m 60 (by omega)])
        obtain ⟨r77, h77, E77, P77⟩ := d_X4_find (ws0 := ws0) (tb := tb) hws htb sh ro I64 J A hI64 (t + 7) 16 7 (J 23 9) h_t_7     
        obtain ⟨rfl, ⟨z77, rfl, q77⟩⟩ := P77
        have t78 : z77 = gs_lt Jr 22 (16 * Ir 0 6) (Ir 15 (Int.toNat (Ir 0 6))) (gs_rn β η p9) := q77.2.2.2.trans (by rw [gc_AT_m A75 (by exact gz_m 61 (by omega))]; exact (show gs_T β η p9 = 1 → gc_fd (J ((t + 7) + 1)) (gs_M β η p9) (Int.toNat (I64 (t + 7) 1)) = gs_lt Jr 22 (16 * Ir 0 6) (Ir 15 (Int.toNat (Ir 0 6))) (gs_rn β η p9) from (fun h => by rw [show I64 (t + 7) 1 = I (t + 7) 1 from ((p65 (t + 7) 1 (by exact gz_m 62 (by omega))).trans ((g45 (t + 7) 1).resolve_left (by exact gz_m 63 (by omega))))]; exact gs_NA_lt x6 x5 h)) (by exact gz_m 64 (by omega)))
        refine gv_callV hD rfl (As := [.inr (.inl (J 23 9))]) (st := [.inl (a1 + 1), .inr (.inr (some 41))]) rfl B_t_7 S_t_7 rfl (gc_lV6 hws rfl) (Nat.le_of_ble_eq_true rfl) (gz_Ev_mono (d := 1) (by decide) E77) ?_
        show gv_X _ _ (115, [(0, .inr (.inr (some 39))), (1, .inl a1)], [.inl z77, .inl (a1 + 1), .inr (.inr (some 41))], sh, gc_h sh I64 J A)
        refine gv_iast hD rfl S_41 ⟨by decide, B_41⟩ ⟨by exact gz_m 65 (by omega), by exact gz_m 66 (by omega)⟩ ?_
        refine gc_st hI64 S_41 rfl R_41 (lo := (-2147483648)) (hi := 2147483647) rfl rfl (by exact gz_m 67 (by omega)) (by exact gz_m 68 (by omega)) (fun I79 hI79 q80 p80 => ?_)
        have FI79 := gc_frs (W := fun q j => (q = 39 ∧ j = 3) ∨ (q = 39 ∧ j = 4) ∨ (q = 23 ∧ j = 5) ∨ (q = 23 ∧ j = 6) ∨ (q = 23 ∧ j = 7) ∨ (q = 23 ∧ j = 8) ∨ (q = 1 ∧ j = 17) ∨ (q = 1 ∧ j = 18) ∨ q = 20 ∨ (q = 41 ∧ j = (Int.toNat a1)) ∨ (q = 41 ∧ j = (Int.toNat (a1 + 1))) ∨ (q = 41 ∧ j = (Int.toNat (a1 + 2)))) FI64 (Or.inr (Or.inr (Or.inr (Or.inr (Or.inr (Or.inr (Or.inr (Or.inr (Or.inr (Or.inr (Or.inl ⟨rfl, rfl⟩))))))))))) p80
        have t81 := p80 23 1 (fun h => absurd h.1 (by decide))
        have t82 := p80 23 5 (fun h => absurd h.1 (by decide))
        have t83 := p80 23 6 (fun h => absurd h.1 (by decide))
        have t84 := p80 23 7 (fun h => absurd h.1 (by decide))
        have t85 := p80 1 17 (fun h => absurd h.1 (by decide))
        have t86 := p80 (t + 7) 1 (fun h => absurd h.1 N_t_7__41)
        have t87 := p80 1 18 (fun h => absurd h.1 (by decide))
        have t88 := p80 39 2 (fun h => absurd h.1 (by decide))
        have t89 := p80 41 (Int.toNat a1) (fun h => absurd h.2 (by exact gz_m 69 (by omega)))
        have KLT_I79 := gc_LT_fr KLT_I64 (p80 23 5 (fun h => absurd h.1 (by decide))) (p80 23 6 (fun h => absurd h.1 (by decide))) (p80 23 7 (fun h => absurd h.1 (by decide))) (fun k => p80 24 k (fun h => absurd h.1 (by decide)))
        have KTK_I79 := gc_TK_fr KTK_I64 (p80 23 1 (fun h => absurd h.1 (by decide))) (p80 23 5 (fun h => absurd h.1 (by decide))) (p80 23 6 (fun h => absurd h.1 (by decide))) (p80 23 7 (fun h => absurd h.1 (by decide)))
        have KRS_I79 := gc_row_st KRS_I64 p80 q80 (by unfold gc_fS; exact gz_m 70 (by omega))
        have KPK_I79 := gc_PKs_fr KPK_I64 (p80 1 17 (fun h => absurd h.1 (by decide))) (fun k => p80 20 k (fun h => absurd h.1 (by decide)))
        have A90 := gc_AT_I A75 (p80 23 1 (fun h => absurd h.1 (by decide))) (p80 23 5 (fun h => absurd h.1 (by decide))) (p80 23 6 (fun h => absurd h.1 (by decide))) (p80 23 7 (fun h => absurd h.1 (by decide))) (p80 23 8 (fun h => absurd h.1 (by decide))) (fun k => p80 24 k (fun h => absurd h.1 (by decide)))
        show gv_X _ _ (116, [(0, .inr (.inr (some 39))), (1, .inl a1)], [], sh, gc_h sh I79 J A)
        refine gv_run 1 true hD (pc' := 121) (lv' := [(0, .inr (.inr (some 39))), (1, .inl a1)]) (st' := []) (h' := gc_h sh I79 J A) (C := (True ∧ True)) rfl ⟨trivial, trivial⟩ ?_
        refine gv_pick [0] rfl ?_
        exact L121 I79 J p9 hI79 FI79 FJ KLT_I79 KTK_I79 KRS_I79 KPK_I79 (by exact gz_m 71 (by omega)) A90 (by unfold gs_ctx; (repeat first | rw [if_pos (by exact gz_m 72 (by omega))] | rw [if_neg (by exact gz_m 73 (by omega))])) (by rw [gs_ti_1 (by exact gz_m 74 (by omega)), ← t78]; exact gs_itc_c x7 ((p80 41 (Int.toNat a1) (by exact gz_m 75 (by omega))).trans q65) ((congrArg (I79 41) (show (Int.toNat a1) + 1 = (Int.toNat (a1 + 1)) by exact gz_m 76 (by omega))).trans q80) (by exact gz_m 77 (by omega)) (by have h8 := (show I79 (t + 7) 1 = I (t + 7) 1 from (((p80 (t + 7) 1 (by exact gz_m 78 (by omega))).trans (p65 (t + 7) 1 (by exact gz_m 79 (by omega)))).trans ((g45 (t + 7) 1).resolve_left (by exact gz_m 80 (by omega))))); exact gz_m 81 (by omega)))
    · show gv_X _ _ (33, [(0, .inr (.inr (some 39))), (1, .inl a1)], [], sh, gc_h sh I J A)
      refine gv_run 1 true hD (pc' := 34) (lv' := [(0, .inr (.inr (some 39))), (1, .inl a1)]) (st' := [.inr (.inr (some 39))]) (h' := gc_h sh I J A) (C := (True ∧ True)) rfl ⟨trivial, trivial⟩ ?_
      refine gv_get hD rfl rfl S_39 ⟨by decide, B_39⟩ (gc_hA S_39 rfl A_39_10) ?_
      show gv_X _ _ (37, [(0, .inr (.inr (some 39))), (1, .inl a1)], [.inr (.inr (some 41))], sh, gc_h sh I J A)
      refine gv_run 2 true hD (pc' := 39) (lv' := [(0, .inr (.inr (some 39))), (1, .inl a1)]) (st' := [.inl 0, .inl a1, .inr (.inr (some 41))]) (h' := gc_h sh I J A) (C := ((True ∧ True) ∧ True)) rfl ⟨⟨trivial, trivial⟩, trivial⟩ ?_
      refine gv_iast hD rfl S_41 ⟨by decide, B_41⟩ ⟨by exact gz_m 82 (by omega), by exact gz_m 83 (by omega)⟩ ?_
      refine gc_st hI S_41 rfl R_41 (lo := (-2147483648)) (hi := 2147483647) rfl rfl (by exact gz_m 84 (by omega)) (by exact gz_m 85 (by omega)) (fun I91 hI91 q92 p92 => ?_)
      have FI91 := gc_frs (W := fun q j => (q = 39 ∧ j = 3) ∨ (q = 39 ∧ j = 4) ∨ (q = 23 ∧ j = 5) ∨ (q = 23 ∧ j = 6) ∨ (q = 23 ∧ j = 7) ∨ (q = 23 ∧ j = 8) ∨ (q = 1 ∧ j = 17) ∨ (q = 1 ∧ j = 18) ∨ q = 20 ∨ (q = 41 ∧ j = (Int.toNat a1)) ∨ (q = 41 ∧ j = (Int.toNat (a1 + 1))) ∨ (q = 41 ∧ j = (Int.toNat (a1 + 2)))) FI (Or.inr (Or.inr (Or.inr (Or.inr (Or.inr (Or.inr (Or.inr (Or.inr (Or.inr (Or.inl ⟨rfl, rfl⟩)))))))))) p92
      have t93 := p92 23 1 (fun h => absurd h.1 (by decide))
      have t94 := p92 23 5 (fun h => absurd h.1 (by decide))
      have t95 := p92 23 6 (fun h => absurd h.1 (by decide))
      have t96 := p92 23 7 (fun h => absurd h.1 (by decide))
      have t97 := p92 1 17 (fun h => absurd h.1 (by decide))
      have t98 := p92 (t + 7) 1 (fun h => absurd h.1 N_t_7__41)
      have t99 := p92 1 18 (fun h => absurd h.1 (by decide))
      have t100 := p92 39 2 (fun h => absurd h.1 (by decide))
      have t101 := p92 41 (Int.toNat (a1 + 1)) (fun h => absurd h.2 (by exact gz_m 86 (by omega)))
      have KLT_I91 := gc_LT_fr KLT_I (p92 23 5 (fun h => absurd h.1 (by decide))) (p92 23 6 (fun h => absurd h.1 (by decide))) (p92 23 7 (fun h => absurd h.1 (by decide))) (fun k => p92 24 k (fun h => absurd h.1 (by decide)))
      have KTK_I91 := gc_TK_fr KTK_I (p92 23 1 (fun h => absurd h.1 (by decide))) (p92 23 5 (fun h => absurd h.1 (by decide))) (p92 23 6 (fun h => absurd h.1 (by decide))) (p92 23 7 (fun h => absurd h.1 (by decide)))
      have KRS_I91 := gc_row_st KRS_I p92 q92 (by unfold gc_fS; exact gz_m 87 (by omega))
      have KPK_I91 := gc_PKs_fr KPK_I (p92 1 17 (fun h => absurd h.1 (by decide))) (fun k => p92 20 k (fun h => absurd h.1 (by decide)))
      have A102 := gc_AT_I x2 (p92 23 1 (fun h => absurd h.1 (by decide))) (p92 23 5 (fun h => absurd h.1 (by decide))) (p92 23 6 (fun h => absurd h.1 (by decide))) (p92 23 7 (fun h => absurd h.1 (by decide))) (p92 23 8 (fun h => absurd h.1 (by decide))) (fun k => p92 24 k (fun h => absurd h.1 (by decide)))
      show gv_X _ _ (40, [(0, .inr (.inr (some 39))), (1, .inl a1)], [], sh, gc_h sh I91 J A)
      refine gv_run 1 true hD (pc' := 41) (lv' := [(0, .inr (.inr (some 39))), (1, .inl a1)]) (st' := [.inr (.inr (some 39))]) (h' := gc_h sh I91 J A) (C := (True ∧ True)) rfl ⟨trivial, trivial⟩ ?_
      refine gv_get hD rfl rfl S_39 ⟨by decide, B_39⟩ (gc_hA S_39 rfl A_39_10) ?_
      show gv_X _ _ (44, [(0, .inr (.inr (some 39))), (1, .inl a1)], [.inr (.inr (some 41))], sh, gc_h sh I91 J A)
      refine gv_run 4 true hD (pc' := 48) (lv' := [(0, .inr (.inr (some 39))), (1, .inl a1)]) (st' := [.inr (.inr (some 39)), .inl (a1 + 1), .inr (.inr (some 41))]) (h' := gc_h sh I91 J A) (C := ((((True ∧ True) ∧ True) ∧ True) ∧ True)) rfl ⟨⟨⟨⟨trivial, trivial⟩, trivial⟩, trivial⟩, trivial⟩ ?_
      obtain ⟨r103, h103, E103, P103⟩ := d_X6_keepLetters_p (ws0 := ws0) (tb := tb) hws htb sh ro I91 J A hI91   hb    (by exact gz_m 88 (by omega)) (by exact gz_m 89 (by omega)) KLT_I91 KTK_I91
      obtain ⟨I104, J105, rfl, hI104, g103, k103, KLT_I104, KTK_I104, ⟨z103, rfl, q103⟩⟩ := P103
      have FI104 := gc_frc (W := fun q j => (q = 39 ∧ j = 3) ∨ (q = 39 ∧ j = 4) ∨ (q = 23 ∧ j = 5) ∨ (q = 23 ∧ j = 6) ∨ (q = 23 ∧ j = 7) ∨ (q = 23 ∧ j = 8) ∨ (q = 1 ∧ j = 17) ∨ (q = 1 ∧ j = 18) ∨ q = 20 ∨ (q = 41 ∧ j = (Int.toNat a1)) ∨ (q = 41 ∧ j = (Int.toNat (a1 + 1))) ∨ (q = 41 ∧ j = (Int.toNat (a1 + 2)))) (V := fun q j => (q = 1 ∧ j = 17) ∨ (q = 1 ∧ j = 18) ∨ q = 20) FI91 (fun q j h => (h.elim (fun h => (Or.inr (Or.inr (Or.inr (Or.inr (Or.inr (Or.inr (Or.inl h)))))))) (fun h => (h.elim (fun h => (Or.inr (Or.inr (Or.inr (Or.inr (Or.inr (Or.inr (Or.inr (Or.inl h))))))))) (fun h => (Or.inr (Or.inr (Or.inr (Or.inr (Or.inr (Or.inr (Or.inr (Or.inr (Or.inl h)))))))))))))) g103
      have t106 := (g103 23 1).resolve_left (fun h => h.elim (fun h => absurd h.2 (by decide)) (fun h => h.elim (fun h => absurd h.2 (by decide)) (fun h => absurd h (by decide))))
      have t107 := (g103 23 5).resolve_left (fun h => h.elim (fun h => absurd h.2 (by decide)) (fun h => h.elim (fun h => absurd h.2 (by decide)) (fun h => absurd h (by decide))))
      have t108 := (g103 23 6).resolve_left (fun h => h.elim (fun h => absurd h.2 (by decide)) (fun h => h.elim (fun h => absurd h.2 (by decide)) (fun h => absurd h (by decide))))
      have t109 := (g103 23 7).resolve_left (fun h => h.elim (fun h => absurd h.2 (by decide)) (fun h => h.elim (fun h => absurd h.2 (by decide)) (fun h => absurd h (by decide))))
      have t110 := (g103 (t + 7) 1).resolve_left (fun h => h.elim (fun h => absurd h.2 (by decide)) (fun h => h.elim (fun h => absurd h.2 (by decide)) (fun h => absurd h N_t_7__20)))
      have t111 := (g103 39 2).resolve_left (fun h => h.elim (fun h => absurd h.2 (by decide)) (fun h => h.elim (fun h => absurd h.2 (by decide)) (fun h => absurd h (by decide))))
      have t112 := (g103 41 (Int.toNat a1)).resolve_left (fun h => h.elim (fun h => absurd h.1 (by decide)) (fun h => h.elim (fun h => absurd h.1 (by decide)) (fun h => absurd h (by decide))))
      have t113 := (g103 41 (Int.toNat (a1 + 1))).resolve_left (fun h => h.elim (fun h => absurd h.1 (by decide)) (fun h => h.elim (fun h => absurd h.1 (by decide)) (fun h => absurd h (by decide))))
      have f114 := (show 0 ≤ I104 1 17 ∧ I104 1 17 ≤ 12000 from gc_in hI104 R_1 rfl rfl)
      have f115 := (show 0 ≤ I104 1 18 ∧ I104 1 18 ≤ 1 from gc_in hI104 R_1 rfl rfl)
      obtain rfl : J = J105 := funext fun q => funext fun j => ((k103 q j).resolve_left id).symm
      have KRS_I104 := gc_row_fr KRS_I91 (fun k => (g103 41 k).resolve_left (fun h => h.elim (fun h => absurd h.1 (by decide)) (fun h => h.elim (fun h => absurd h.1 (by decide)) (fun h => absurd h (by decide)))))
      have l103 := q103.2.2.2.2.2.2.2
      have KPK_I104 := gc_PKs_tr KPK_I91 l103
      have A116 := gc_AT_I A102 ((g103 23 1).resolve_left (fun h => h.elim (fun h => absurd h.2 (by decide)) (fun h => h.elim (fun h => absurd h.2 (by decide)) (fun h => absurd h (by decide))))) ((g103 23 5).resolve_left (fun h => h.elim (fun h => absurd h.2 (by decide)) (fun h => h.elim (fun h => absurd h.2 (by decide)) (fun h => absurd h (by decide))))) ((g103 23 6).resolve_left (fun h => h.elim (fun h => absurd h.2 (by decide)) (fun h => h.elim (fun h => absurd h.2 (by decide)) (fun h => absurd h (by decide))))) ((g103 23 7).resolve_left (fun h => h.elim (fun h => absurd h.2 (by decide)) (fun h => h.elim (fun h => absurd h.2 (by decide)) (fun h => absurd h (by decide))))) ((g103 23 8).resolve_left (fun h => h.elim (fun h => absurd h.2 (by decide)) (fun h => h.elim (fun h => absurd h.2 (by decide)) (fun h => absurd h (by decide))))) (fun k => (g103 24 k).resolve_left (fun h => h.elim (fun h => absurd h.1 (by decide)) (fun h => h.elim (fun h => absurd h.1 (by decide)) (fun h => absurd h (by decide)))))
      have t117 := gc_AT_l A116
      refine gv_callV hD rfl (As := []) (st := [.inl (a1 + 1), .inr (.inr (some 41))]) rfl B_39 S_39 rfl (gc_lV6 hws rfl) (Nat.le_of_ble_eq_true rfl) (gz_Ev_mono (d := 2) (by decide) E103) ?_
      show gv_X _ _ (51, [(0, .inr (.inr (some 39))), (1, .inl a1)], [.inl z103, .inl (a1 + 1), .inr (.inr (some 41))], sh, gc_h sh I104 J A)
      refine gv_iast hD rfl S_41 ⟨by decide, B_41⟩ ⟨by exact gz_m 90 (by omega), by exact gz_m 91 (by omega)⟩ ?_
      refine gc_st hI104 S_41 rfl R_41 (lo := (-2147483648)) (hi := 2147483647) rfl rfl (by exact gz_m 92 (by omega)) (by exact gz_m 93 (by omega)) (fun I118 hI118 q119 p119 => ?_)
      have FI118 := gc_frs (W := fun q j => (q = 39 ∧ j = 3) ∨ (q = 39 ∧ j = 4) ∨ (q = 23 ∧ j = 5) ∨ (q = 23 ∧ j = 6) ∨ (q = 23 ∧ j = 7) ∨ (q = 23 ∧ j = 8) ∨ (q = 1 ∧ j = 17) ∨ (q = 1 ∧ j = 18) ∨ q = 20 ∨ (q = 41 ∧ j = (Int.toNat a1)) ∨ (q = 41 ∧ j = (Int.toNat (a1 + 1))) ∨ (q = 41 ∧ j = (Int.toNat (a1 + 2)))) FI104 (Or.inr (Or.inr (Or.inr (Or.inr (Or.inr (Or.inr (Or.inr (Or.inr (Or.inr (Or.inr (Or.inl ⟨rfl, rfl⟩))))))))))) p119
      have t120 := p119 23 1 (fun h => absurd h.1 (by decide))
      have t121 := p119 23 5 (fun h => absurd h.1 (by decide))
      have t122 := p119 23 6 (fun h => absurd h.1 (by decide))
      have t123 := p119 23 7 (fun h => absurd h.1 (by decide))
      have t124 := p119 1 17 (fun h => absurd h.1 (by decide))
      have t125 := p119 (t + 7) 1 (fun h => absurd h.1 N_t_7__41)
      have t126 := p119 1 18 (fun h => absurd h.1 (by decide))
      have t127 := p119 39 2 (fun h => absurd h.1 (by decide))
      have t128 := p119 41 (Int.toNat a1) (fun h => absurd h.2 (by exact gz_m 94 (by omega)))
      have KLT_I118 := gc_LT_fr KLT_I104 (p119 23 5 (fun h => absurd h.1 (by decide))) (p119 23 6 (fun h => absurd h.1 (by decide))) (p119 23 7 (fun h => absurd h.1 (by decide))) (fun k => p119 24 k (fun h => absurd h.1 (by decide)))
      have KTK_I118 := gc_TK_fr KTK_I104 (p119 23 1 (fun h => absurd h.1 (by decide))) (p119 23 5 (fun h => absurd h.1 (by decide))) (p119 23 6 (fun h => absurd h.1 (by decide))) (p119 23 7 (fun h => absurd h.1 (by decide)))
      have KRS_I118 := gc_row_st KRS_I104 p119 q119 (by unfold gc_fS; exact gz_m 95 (by omega))
      have KPK_I118 := gc_PKs_fr KPK_I104 (p119 1 17 (fun h => absurd h.1 (by decide))) (fun k => p119 20 k (fun h => absurd h.1 (by decide)))
      have A129 := gc_AT_I A116 (p119 23 1 (fun h => absurd h.1 (by decide))) (p119 23 5 (fun h => absurd h.1 (by decide))) (p119 23 6 (fun h => absurd h.1 (by decide))) (p119 23 7 (fun h => absurd h.1 (by decide))) (p119 23 8 (fun h => absurd h.1 (by decide))) (fun k => p119 24 k (fun h => absurd h.1 (by decide)))
      show gv_X _ _ (52, [(0, .inr (.inr (some 39))), (1, .inl a1)], [], sh, gc_h sh I118 J A)
      refine gv_run 1 true hD (pc' := 53) (lv' := [(0, .inr (.inr (some 39))), (1, .inl a1)]) (st' := [.inr (.inr (some 39))]) (h' := gc_h sh I118 J A) (C := (True ∧ True)) rfl ⟨trivial, trivial⟩ ?_
      refine gv_get hD rfl rfl S_39 ⟨by decide, B_39⟩ (gc_hA S_39 rfl A_39_10) ?_
      show gv_X _ _ (56, [(0, .inr (.inr (some 39))), (1, .inl a1)], [.inr (.inr (some 41))], sh, gc_h sh I118 J A)
      refine gv_run 4 true hD (pc' := 60) (lv' := [(0, .inr (.inr (some 39))), (1, .inl a1)]) (st' := [.inr (.inr (some 39)), .inl (a1 + 2), .inr (.inr (some 41))]) (h' := gc_h sh I118 J A) (C := ((((True ∧ True) ∧ True) ∧ True) ∧ True)) rfl ⟨⟨⟨⟨trivial, trivial⟩, trivial⟩, trivial⟩, trivial⟩ ?_
      refine gv_get hD rfl rfl S_39 ⟨by decide, B_39⟩ (gc_hA S_39 rfl A_39_1) ?_
      show gv_X _ _ (63, [(0, .inr (.inr (some 39))), (1, .inl a1)], [.inr (.inr (some 23)), .inl (a1 + 2), .inr (.inr (some 41))], sh, gc_h sh I118 J A)
      have t131 := gc_TK_l3 KTK_I118 (by exact gz_m 96 (by omega))
      obtain ⟨r130, h130, E130, P130⟩ := d_X9_lettersSize (ws0 := ws0) (tb := tb) hws htb sh ro I118 J A hI118 23  (gc_b23 hb)     
      obtain ⟨rfl, ⟨z130, rfl, q130⟩⟩ := P130
      refine gv_callV hD rfl (As := []) (st := [.inl (a1 + 2), .inr (.inr (some 41))]) rfl B_23 S_23 rfl (gc_lV6 hws rfl) (Nat.le_of_ble_eq_true rfl) (gz_Ev_mono (d := 1) (by decide) E130) ?_
      show gv_X _ _ (66, [(0, .inr (.inr (some 39))), (1, .inl a1)], [.inl z130, .inl (a1 + 2), .inr (.inr (some 41))], sh, gc_h sh I118 J A)
      refine gv_iast hD rfl S_41 ⟨by decide, B_41⟩ ⟨by exact gz_m 97 (by omega), by exact gz_m 98 (by omega)⟩ ?_
      refine gc_st hI118 S_41 rfl R_41 (lo := (-2147483648)) (hi := 2147483647) rfl rfl (by exact gz_m 99 (by omega)) (by exact gz_m 100 (by omega)) (fun I132 hI132 q133 p133 => ?_)
      have FI132 := gc_frs (W := fun q j => (q = 39 ∧ j = 3) ∨ (q = 39 ∧ j = 4) ∨ (q = 23 ∧ j = 5) ∨ (q = 23 ∧ j = 6) ∨ (q = 23 ∧ j = 7) ∨ (q = 23 ∧ j = 8) ∨ (q = 1 ∧ j = 17) ∨ (q = 1 ∧ j = 18) ∨ q = 20 ∨ (q = 41 ∧ j = (Int.toNat a1)) ∨ (q = 41 ∧ j = (Int.toNat (a1 + 1))) ∨ (q = 41 ∧ j = (Int.toNat (a1 + 2)))) FI118 (Or.inr (Or.inr (Or.inr (Or.inr (Or.inr (Or.inr (Or.inr (Or.inr (Or.inr (Or.inr (Or.inr ⟨rfl, rfl⟩))))))))))) p133
      have t134 := p133 23 1 (fun h => absurd h.1 (by decide))
      have t135 := p133 23 5 (fun h => absurd h.1 (by decide))
      have t136 := p133 23 6 (fun h => absurd h.1 (by decide))
      have t137 := p133 23 7 (fun h => absurd h.1 (by decide))
      have t138 := p133 1 17 (fun h => absurd h.1 (by decide))
      have t139 := p133 (t + 7) 1 (fun h => absurd h.1 N_t_7__41)
      have t140 := p133 1 18 (fun h => absurd h.1 (by decide))
      have t141 := p133 39 2 (fun h => absurd h.1 (by decide))
      have t142 := p133 41 (Int.toNat a1) (fun h => absurd h.2 (by exact gz_m 101 (by omega)))
      have t143 := p133 41 (Int.toNat (a1 + 1)) (fun h => absurd h.2 (by exact gz_m 102 (by omega)))
      have KLT_I132 := gc_LT_fr KLT_I118 (p133 23 5 (fun h => absurd h.1 (by decide))) (p133 23 6 (fun h => absurd h.1 (by decide))) (p133 23 7 (fun h => absurd h.1 (by decide))) (fun k => p133 24 k (fun h => absurd h.1 (by decide)))
      have KTK_I132 := gc_TK_fr KTK_I118 (p133 23 1 (fun h => absurd h.1 (by decide))) (p133 23 5 (fun h => absurd h.1 (by decide))) (p133 23 6 (fun h => absurd h.1 (by decide))) (p133 23 7 (fun h => absurd h.1 (by decide)))
      have KRS_I132 := gc_row_st KRS_I118 p133 q133 (by unfold gc_fS; exact gz_m 103 (by omega))
      have KPK_I132 := gc_PKs_fr KPK_I118 (p133 1 17 (fun h => absurd h.1 (by decide))) (fun k => p133 20 k (fun h => absurd h.1 (by decide)))
      have A144 := gc_AT_I A129 (p133 23 1 (fun h => absurd h.1 (by decide))) (p133 23 5 (fun h => absurd h.1 (by decide))) (p133 23 6 (fun h => absurd h.1 (by decide))) (p133 23 7 (fun h => absurd h.1 (by decide))) (p133 23 8 (fun h => absurd h.1 (by decide))) (fun k => p133 24 k (fun h => absurd h.1 (by decide)))
      show gv_X _ _ (67, [(0, .inr (.inr (some 39))), (1, .inl a1)], [], sh, gc_h sh I132 J A)
      refine gv_run 1 true hD (pc' := 121) (lv' := [(0, .inr (.inr (some 39))), (1, .inl a1)]) (st' := []) (h' := gc_h sh I132 J A) (C := (True ∧ True)) rfl ⟨trivial, trivial⟩ ?_
      refine gv_pick [0] rfl ?_
      exact L121 I132 J p9 hI132 FI132 FJ KLT_I132 KTK_I132 KRS_I132 KPK_I132 (by exact gz_m 104 (by omega)) A144 (by unfold gs_ctx; (repeat first | rw [if_pos (by exact gz_m 105 (by omega))] | rw [if_neg (by exact gz_m 106 (by omega))])) (by rw [gs_ti_3 (by exact gz_m 107 (by omega))]; exact gs_itc_l ((((p133 41 (Int.toNat a1) (by exact gz_m 108 (by omega))).trans (p119 41 (Int.toNat a1) (by exact gz_m 109 (by omega)))).trans ((g103 41 (Int.toNat a1)).resolve_left (by exact gz_m 110 (by omega)))).trans q92) (((congrArg (I132 41) (show (Int.toNat a1) + 1 = (Int.toNat (a1 + 1)) by exact gz_m 111 (by omega))).trans ((p133 41 (Int.toNat (a1 + 1)) (by exact gz_m 112 (by omega))).trans q119)).trans (show z103 = I91 1 17 by exact gz_m 113 (by omega))) (((congrArg (I132 41) (show (Int.toNat a1) + 2 = (Int.toNat (a1 + 2)) by exact gz_m 114 (by omega))).trans q133).trans (show _ = gs_X β η p9 - gs_A β η p9 - 2 by exact gz_m 115 (by omega))) (by exact gz_m 116 (by omega)) (by exact gz_m 117 (by omega)) (by have k9 := q103.2.2.2.2.2.2.1; have k8 := k9.1; exact gz_m 118 (by omega)) (fun i a b => gc_kl_b A102 (by exact gz_m 119 (by omega)) (gc_TK_nx KTK_I91 (by exact gz_m 120 (by omega))) q103.2.2.2.2.2.2.1 (fun j => ((p133 20 j (by exact gz_m 121 (by omega))).trans (p119 20 j (by exact gz_m 122 (by omega))))) i a b))
  · show gv_X _ _ (12, [(0, .inr (.inr (some 39))), (1, .inl a1)], [], sh, gc_h sh I J A)
    refine gv_run 1 true hD (pc' := 13) (lv' := [(0, .inr (.inr (some 39))), (1, .inl a1)]) (st' := [.inr (.inr (some 39))]) (h' := gc_h sh I J A) (C := (True ∧ True)) rfl ⟨trivial, trivial⟩ ?_
    refine gv_get hD rfl rfl S_39 ⟨by decide, B_39⟩ (gc_hA S_39 rfl A_39_10) ?_
    show gv_X _ _ (16, [(0, .inr (.inr (some 39))), (1, .inl a1)], [.inr (.inr (some 41))], sh, gc_h sh I J A)
    refine gv_run 2 true hD (pc' := 18) (lv' := [(0, .inr (.inr (some 39))), (1, .inl a1)]) (st' := [.inl 2, .inl a1, .inr (.inr (some 41))]) (h' := gc_h sh I J A) (C := ((True ∧ True) ∧ True)) rfl ⟨⟨trivial, trivial⟩, trivial⟩ ?_
    refine gv_iast hD rfl S_41 ⟨by decide, B_41⟩ ⟨by exact gz_m 123 (by omega), by exact gz_m 124 (by omega)⟩ ?_
    refine gc_st hI S_41 rfl R_41 (lo := (-2147483648)) (hi := 2147483647) rfl rfl (by exact gz_m 125 (by omega)) (by exact gz_m 126 (by omega)) (fun I145 hI145 q146 p146 => ?_)
    have FI145 := gc_frs (W := fun q j => (q = 39 ∧ j = 3) ∨ (q = 39 ∧ j = 4) ∨ (q = 23 ∧ j = 5) ∨ (q = 23 ∧ j = 6) ∨ (q = 23 ∧ j = 7) ∨ (q = 23 ∧ j = 8) ∨ (q = 1 ∧ j = 17) ∨ (q = 1 ∧ j = 18) ∨ q = 20 ∨ (q = 41 ∧ j = (Int.toNat a1)) ∨ (q = 41 ∧ j = (Int.toNat (a1 + 1))) ∨ (q = 41 ∧ j = (Int.toNat (a1 + 2)))) FI (Or.inr (Or.inr (Or.inr (Or.inr (Or.inr (Or.inr (Or.inr (Or.inr (Or.inr (Or.inl ⟨rfl, rfl⟩)))))))))) p146
    have t147 := p146 23 1 (fun h => absurd h.1 (by decide))
    have t148 := p146 23 5 (fun h => absurd h.1 (by decide))
    have t149 := p146 23 6 (fun h => absurd h.1 (by decide))
    have t150 := p146 23 7 (fun h => absurd h.1 (by decide))
    have t151 := p146 1 17 (fun h => absurd h.1 (by decide))
    have t152 := p146 (t + 7) 1 (fun h => absurd h.1 N_t_7__41)
    have t153 := p146 1 18 (fun h => absurd h.1 (by decide))
    have t154 := p146 39 2 (fun h => absurd h.1 (by decide))
    have t155 := p146 41 (Int.toNat (a1 + 1)) (fun h => absurd h.2 (by exact gz_m 127 (by omega)))
    have KLT_I145 := gc_LT_fr KLT_I (p146 23 5 (fun h => absurd h.1 (by decide))) (p146 23 6 (fun h => absurd h.1 (by decide))) (p146 23 7 (fun h => absurd h.1 (by decide))) (fun k => p146 24 k (fun h => absurd h.1 (by decide)))
    have KTK_I145 := gc_TK_fr KTK_I (p146 23 1 (fun h => absurd h.1 (by decide))) (p146 23 5 (fun h => absurd h.1 (by decide))) (p146 23 6 (fun h => absurd h.1 (by decide))) (p146 23 7 (fun h => absurd h.1 (by decide)))
    have KRS_I145 := gc_row_st KRS_I p146 q146 (by unfold gc_fS; exact gz_m 128 (by omega))
    have KPK_I145 := gc_PKs_fr KPK_I (p146 1 17 (fun h => absurd h.1 (by decide))) (fun k => p146 20 k (fun h => absurd h.1 (by decide)))
    have A156 := gc_AT_I x2 (p146 23 1 (fun h => absurd h.1 (by decide))) (p146 23 5 (fun h => absurd h.1 (by decide))) (p146 23 6 (fun h => absurd h.1 (by decide))) (p146 23 7 (fun h => absurd h.1 (by decide))) (p146 23 8 (fun h => absurd h.1 (by decide))) (fun k => p146 24 k (fun h => absurd h.1 (by decide)))
    show gv_X _ _ (19, [(0, .inr (.inr (some 39))), (1, .inl a1)], [], sh, gc_h sh I145 J A)
    refine gv_run 1 true hD (pc' := 121) (lv' := [(0, .inr (.inr (some 39))), (1, .inl a1)]) (st' := []) (h' := gc_h sh I145 J A) (C := (True ∧ True)) rfl ⟨trivial, trivial⟩ ?_
    refine gv_pick [0] rfl ?_
    exact L121 I145 J p9 hI145 FI145 FJ KLT_I145 KTK_I145 KRS_I145 KPK_I145 (by exact gz_m 129 (by omega)) A156 (by unfold gs_ctx; (repeat first | rw [if_pos (by exact gz_m 130 (by omega))] | rw [if_neg (by exact gz_m 131 (by omega))])) (by rw [gs_ti_2 (by exact gz_m 132 (by omega)) (by exact gz_m 133 (by omega))]; exact gs_itc_b q146)
