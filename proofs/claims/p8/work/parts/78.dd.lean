set_option maxHeartbeats 8000000 in
set_option maxRecDepth 100000 in
theorem d_X5_comesBefore {ws0 : List Cond} {tb : String → gz_T} (hws : gc_Ws ws0) (htb : gc_tbs tb) (sh : gz_Sh) (ro : Nat → Nat) (I : gr_I) (J : gr_J) (A : gc_A) (hI : gc_Inv ro I) (a1 : Int) (a2 : Int) (hb : gc_Base sh ro A) (ha1 : 0 ≤ a1 ∧ a1 ≤ 47999) (ha2 : 0 ≤ a2 ∧ a2 ≤ 47999)  : ∃ r h', gz_Ev ws0 tb 1 (yX5_comesBefore, cX5_comesBefore, 3, (some .boolean)) [.inr (.inr (some 61)), .inl a1, .inl a2] sh (gc_h sh I J A) r sh h' 0 0 ∧ (h' = gc_h sh I J A ∧ (∃ z : Int, r = some (.inl z) ∧ 0 ≤ z ∧ z ≤ 1)) := by
  have A_48_5 : A 48 5 = some 52 := gc_bA hb rfl
  have A_61_1 : A 61 1 = some 48 := gc_bA hb rfl
  have A_61_12 : A 61 12 = some 68 := gc_bA hb rfl
  have B_48 : 48 < 1000000 := by decide
  have B_52 : 52 < 1000000 := by decide
  have B_61 : 61 < 1000000 := by decide
  have B_68 : 68 < 1000000 := by decide
  have R_52 : ro 52 = 13 := gc_bR hb (by decide) rfl
  have R_68 : ro 68 = 0 := gc_bR hb (by decide) rfl
  have S_48 : sh[48]? = some (false, 0, 22) := gc_bS hb rfl
  have S_52 : sh[52]? = some (true, 1, 3000) := gc_bS hb rfl
  have S_61 : sh[61]? = some (false, 5, 19) := gc_bS hb rfl
  have S_68 : sh[68]? = some (true, 1, 48000) := gc_bS hb rfl
  have hD : gv_D (gc_E5 ws0 tb 0 (yX5_comesBefore, cX5_comesBefore, 3, (some .boolean)) kX5_comesBefore) := gq_of oX5_comesBefore
  refine gc_ev5 (d := 0) (l := kX5_comesBefore) (Po := fun r h' => (h' = gc_h sh I J A ∧ (∃ z : Int, r = some (.inl z) ∧ 0 ≤ z ∧ z ≤ 1))) htb rfl (Nat.le_of_ble_eq_true rfl) ?_
  have L35 : ∀ (s0_1 : Int), ((0 ≤ s0_1 ∧ s0_1 ≤ 1)) → gv_X (gc_E5 ws0 tb 0 (yX5_comesBefore, cX5_comesBefore, 3, (some .boolean)) kX5_comesBefore) (gv_Q cX5_comesBefore (some .boolean) sh (fun r h' => (h' = gc_h sh I J A ∧ (∃ z : Int, r = some (.inl z) ∧ 0 ≤ z ∧ z ≤ 1)))) (35, [], [.inl s0_1], sh, gc_h sh I J A) := by
    intro s0_1 m_1
    have hs0_1 := m_1
    exact gv_zret hD rfl (by exact gz_m 0 (by omega)) ⟨rfl, ⟨_, rfl, by exact gz_m 1 (by omega)⟩⟩
  have L68 : ∀ (s0_2 : Int), ((0 ≤ s0_2 ∧ s0_2 ≤ 1)) → gv_X (gc_E5 ws0 tb 0 (yX5_comesBefore, cX5_comesBefore, 3, (some .boolean)) kX5_comesBefore) (gv_Q cX5_comesBefore (some .boolean) sh (fun r h' => (h' = gc_h sh I J A ∧ (∃ z : Int, r = some (.inl z) ∧ 0 ≤ z ∧ z ≤ 1)))) (68, [], [.inl s0_2], sh, gc_h sh I J A) := by
    intro s0_2 m_2
    have hs0_2 := m_2
    exact gv_zret hD rfl (by exact gz_m 2 (by omega)) ⟨rfl, ⟨_, rfl, by exact gz_m 3 (by omega)⟩⟩
  refine gv_run 1 true hD (pc' := 1) (lv' := [(0, .inr (.inr (some 61))), (1, .inl a1), (2, .inl a2)]) (st' := [.inr (.inr (some 61))]) (h' := gc_h sh I J A) (C := (True ∧ True)) rfl ⟨trivial, trivial⟩ ?_
  refine gv_get hD rfl rfl S_61 ⟨by decide, B_61⟩ (gc_hA S_61 rfl A_61_12) ?_
  show gv_X _ _ (4, [(0, .inr (.inr (some 61))), (1, .inl a1), (2, .inl a2)], [.inr (.inr (some 68))], sh, gc_h sh I J A)
  refine gv_run 1 true hD (pc' := 5) (lv' := [(0, .inr (.inr (some 61))), (1, .inl a1), (2, .inl a2)]) (st' := [.inl a1, .inr (.inr (some 68))]) (h' := gc_h sh I J A) (C := (True ∧ True)) rfl ⟨trivial, trivial⟩ ?_
  have f3 := (show (-2147483648) ≤ I 68 (Int.toNat a1) ∧ I 68 (Int.toNat a1) ≤ 2147483647 from gc_in hI R_68 rfl rfl)
  refine gv_iald hD rfl S_68 rfl ⟨by decide, B_68⟩ ⟨by exact gz_m 4 (by omega), by exact gz_m 5 (by omega)⟩ (gc_iI S_68 rfl) ?_
  show gv_X _ _ (6, [(0, .inr (.inr (some 61))), (1, .inl a1), (2, .inl a2)], [.inl (I 68 (Int.toNat a1))], sh, gc_h sh I J A)
  refine gv_run 1 true hD (pc' := 7) (lv' := [(0, .inr (.inr (some 61))), (1, .inl a1), (2, .inl a2)]) (st' := [.inr (.inr (some 61)), .inl (I 68 (Int.toNat a1))]) (h' := gc_h sh I J A) (C := (True ∧ True)) rfl ⟨trivial, trivial⟩ ?_
  refine gv_get hD rfl rfl S_61 ⟨by decide, B_61⟩ (gc_hA S_61 rfl A_61_12) ?_
  show gv_X _ _ (10, [(0, .inr (.inr (some 61))), (1, .inl a1), (2, .inl a2)], [.inr (.inr (some 68)), .inl (I 68 (Int.toNat a1))], sh, gc_h sh I J A)
  refine gv_run 1 true hD (pc' := 11) (lv' := [(0, .inr (.inr (some 61))), (1, .inl a1), (2, .inl a2)]) (st' := [.inl a2, .inr (.inr (some 68)), .inl (I 68 (Int.toNat a1))]) (h' := gc_h sh I J A) (C := (True ∧ True)) rfl ⟨trivial, trivial⟩ ?_
  have f4 := (show (-2147483648) ≤ I 68 (Int.toNat a2) ∧ I 68 (Int.toNat a2) ≤ 2147483647 from gc_in hI R_68 rfl rfl)
  refine gv_iald hD rfl S_68 rfl ⟨by decide, B_68⟩ ⟨by exact gz_m 6 (by omega), by exact gz_m 7 (by omega)⟩ (gc_iI S_68 rfl) ?_
  show gv_X _ _ (12, [(0, .inr (.inr (some 61))), (1, .inl a1), (2, .inl a2)], [.inl (I 68 (Int.toNat a2)), .inl (I 68 (Int.toNat a1))], sh, gc_h sh I J A)
  refine gv_icmp_eq (t := 36) hD rfl rfl ⟨⟨by exact gz_m 8 (by omega), by exact gz_m 9 (by omega)⟩, ⟨by exact gz_m 10 (by omega), by exact gz_m 11 (by omega)⟩⟩ (fun c5 => ?_) (fun c5 => ?_)
  · show gv_X _ _ (36, [(0, .inr (.inr (some 61))), (1, .inl a1), (2, .inl a2)], [], sh, gc_h sh I J A)
    refine gv_run 1 true hD (pc' := 37) (lv' := [(0, .inr (.inr (some 61))), (1, .inl a1), (2, .inl a2)]) (st' := [.inr (.inr (some 61))]) (h' := gc_h sh I J A) (C := (True ∧ True)) rfl ⟨trivial, trivial⟩ ?_
    refine gv_get hD rfl rfl S_61 ⟨by decide, B_61⟩ (gc_hA S_61 rfl A_61_1) ?_
    show gv_X _ _ (40, [(0, .inr (.inr (some 61))), (1, .inl a1), (2, .inl a2)], [.inr (.inr (some 48))], sh, gc_h sh I J A)
    refine gv_get hD rfl rfl S_48 ⟨by decide, B_48⟩ (gc_hA S_48 rfl A_48_5) ?_
    show gv_X _ _ (43, [(0, .inr (.inr (some 61))), (1, .inl a1), (2, .inl a2)], [.inr (.inr (some 52))], sh, gc_h sh I J A)
    have f6 := gw_div (x := a1) (y := 16) ⟨by exact gz_m 12 (by omega), by exact gz_m 13 (by omega)⟩ ⟨by exact gz_m 14 (by omega), by exact gz_m 15 (by omega)⟩
    refine gv_run 3 true hD (pc' := 47) (lv' := [(0, .inr (.inr (some 61))), (1, .inl a1), (2, .inl a2)]) (st' := [.inl ((Int32.ofInt a1 / Int32.ofInt 16).toInt), .inr (.inr (some 52))]) (h' := gc_h sh I J A) (C := (((True ∧ True) ∧ True) ∧ (gz_R 16 ∧ ¬ 16 = 0))) rfl ⟨⟨⟨trivial, trivial⟩, trivial⟩, ⟨⟨by exact gz_m 16 (by omega), by exact gz_m 17 (by omega)⟩, by exact gz_m 18 (by omega)⟩⟩ ?_
    have f7 := (show 0 ≤ I 52 (Int.toNat (((Int32.ofInt a1 / Int32.ofInt 16).toInt))) ∧ I 52 (Int.toNat (((Int32.ofInt a1 / Int32.ofInt 16).toInt))) ≤ 16777215 from gc_in hI R_52 rfl rfl)
    refine gv_iald hD rfl S_52 rfl ⟨by decide, B_52⟩ ⟨by exact gz_m 19 (by omega), by exact gz_m 20 (by omega)⟩ (gc_iI S_52 rfl) ?_
    show gv_X _ _ (48, [(0, .inr (.inr (some 61))), (1, .inl a1), (2, .inl a2)], [.inl (I 52 (Int.toNat (((Int32.ofInt a1 / Int32.ofInt 16).toInt))))], sh, gc_h sh I J A)
    refine gv_run 1 true hD (pc' := 49) (lv' := [(0, .inr (.inr (some 61))), (1, .inl a1), (2, .inl a2)]) (st' := [.inr (.inr (some 61)), .inl (I 52 (Int.toNat (((Int32.ofInt a1 / Int32.ofInt 16).toInt))))]) (h' := gc_h sh I J A) (C := (True ∧ True)) rfl ⟨trivial, trivial⟩ ?_
    refine gv_get hD rfl rfl S_61 ⟨by decide, B_61⟩ (gc_hA S_61 rfl A_61_1) ?_
    show gv_X _ _ (52, [(0, .inr (.inr (some 61))), (1, .inl a1), (2, .inl a2)], [.inr (.inr (some 48)), .inl (I 52 (Int.toNat (((Int32.ofInt a1 / Int32.ofInt 16).toInt))))], sh, gc_h sh I J A)
    refine gv_get hD rfl rfl S_48 ⟨by decide, B_48⟩ (gc_hA S_48 rfl A_48_5) ?_
    show gv_X _ _ (55, [(0, .inr (.inr (some 61))), (1, .inl a1), (2, .inl a2)], [.inr (.inr (some 52)), .inl (I 52 (Int.toNat (((Int32.ofInt a1 / Int32.ofInt 16).toInt))))], sh, gc_h sh I J A)
    have f8 := gw_div (x := a2) (y := 16) ⟨by exact gz_m 21 (by omega), by exact gz_m 22 (by omega)⟩ ⟨by exact gz_m 23 (by omega), by exact gz_m 24 (by omega)⟩
    refine gv_run 3 true hD (pc' := 59) (lv' := [(0, .inr (.inr (some 61))), (1, .inl a1), (2, .inl a2)]) (st' := [.inl ((Int32.ofInt a2 / Int32.ofInt 16).toInt), .inr (.inr (some 52)), .inl (I 52 (Int.toNat (((Int32.ofInt a1 / Int32.ofInt 16).toInt))))]) (h' := gc_h sh I J A) (C := (((True ∧ True) ∧ True) ∧ (gz_R 16 ∧ ¬ 16 = 0))) rfl ⟨⟨⟨trivial, trivial⟩, trivial⟩, ⟨⟨by exact gz_m 25 (by omega), by exact gz_m 26 (by omega)⟩, by exact gz_m 27 (by omega)⟩⟩ ?_
    have f9 := (show 0 ≤ I 52 (Int.toNat (((Int32.ofInt a2 / Int32.ofInt 16).toInt))) ∧ I 52 (Int.toNat (((Int32.ofInt a2 / Int32.ofInt 16).toInt))) ≤ 16777215 from gc_in hI R_52 rfl rfl)
    refine gv_iald hD rfl S_52 rfl ⟨by decide, B_52⟩ ⟨by exact gz_m 28 (by omega), by exact gz_m 29 (by omega)⟩ (gc_iI S_52 rfl) ?_
    show gv_X _ _ (60, [(0, .inr (.inr (some 61))), (1, .inl a1), (2, .inl a2)], [.inl (I 52 (Int.toNat (((Int32.ofInt a2 / Int32.ofInt 16).toInt)))), .inl (I 52 (Int.toNat (((Int32.ofInt a1 / Int32.ofInt 16).toInt))))], sh, gc_h sh I J A)
    refine gv_icmp_ge (t := 67) hD rfl rfl ⟨⟨by exact gz_m 30 (by omega), by exact gz_m 31 (by omega)⟩, ⟨by exact gz_m 32 (by omega), by exact gz_m 33 (by omega)⟩⟩ (fun c10 => ?_) (fun c10 => ?_)
    · show gv_X _ _ (67, [(0, .inr (.inr (some 61))), (1, .inl a1), (2, .inl a2)], [], sh, gc_h sh I J A)
      refine gv_run 1 true hD (pc' := 68) (lv' := [(0, .inr (.inr (some 61))), (1, .inl a1), (2, .inl a2)]) (st' := [.inl 0]) (h' := gc_h sh I J A) (C := (True ∧ True)) rfl ⟨trivial, trivial⟩ ?_
      refine gv_pick [] rfl ?_
      exact L68 0 (by exact gz_m 34 (by omega))
    · show gv_X _ _ (63, [(0, .inr (.inr (some 61))), (1, .inl a1), (2, .inl a2)], [], sh, gc_h sh I J A)
      refine gv_run 2 true hD (pc' := 68) (lv' := [(0, .inr (.inr (some 61))), (1, .inl a1), (2, .inl a2)]) (st' := [.inl 1]) (h' := gc_h sh I J A) (C := ((True ∧ True) ∧ True)) rfl ⟨⟨trivial, trivial⟩, trivial⟩ ?_
      refine gv_pick [] rfl ?_
      exact L68 1 (by exact gz_m 35 (by omega))
  · show gv_X _ _ (15, [(0, .inr (.inr (some 61))), (1, .inl a1), (2, .inl a2)], [], sh, gc_h sh I J A)
    refine gv_run 1 true hD (pc' := 16) (lv' := [(0, .inr (.inr (some 61))), (1, .inl a1), (2, .inl a2)]) (st' := [.inr (.inr (some 61))]) (h' := gc_h sh I J A) (C := (True ∧ True)) rfl ⟨trivial, trivial⟩ ?_
    refine gv_get hD rfl rfl S_61 ⟨by decide, B_61⟩ (gc_hA S_61 rfl A_61_12) ?_
    show gv_X _ _ (19, [(0, .inr (.inr (some 61))), (1, .inl a1), (2, .inl a2)], [.inr (.inr (some 68))], sh, gc_h sh I J A)
    refine gv_run 1 true hD (pc' := 20) (lv' := [(0, .inr (.inr (some 61))), (1, .inl a1), (2, .inl a2)]) (st' := [.inl a1, .inr (.inr (some 68))]) (h' := gc_h sh I J A) (C := (True ∧ True)) rfl ⟨trivial, trivial⟩ ?_
    have f11 := (show (-2147483648) ≤ I 68 (Int.toNat a1) ∧ I 68 (Int.toNat a1) ≤ 2147483647 from gc_in hI R_68 rfl rfl)
    refine gv_iald hD rfl S_68 rfl ⟨by decide, B_68⟩ ⟨by exact gz_m 36 (by omega), by exact gz_m 37 (by omega)⟩ (gc_iI S_68 rfl) ?_
    show gv_X _ _ (21, [(0, .inr (.inr (some 61))), (1, .inl a1), (2, .inl a2)], [.inl (I 68 (Int.toNat a1))], sh, gc_h sh I J A)
    refine gv_run 1 true hD (pc' := 22) (lv' := [(0, .inr (.inr (some 61))), (1, .inl a1), (2, .inl a2)]) (st' := [.inr (.inr (some 61)), .inl (I 68 (Int.toNat a1))]) (h' := gc_h sh I J A) (C := (True ∧ True)) rfl ⟨trivial, trivial⟩ ?_
    refine gv_get hD rfl rfl S_61 ⟨by decide, B_61⟩ (gc_hA S_61 rfl A_61_12) ?_
    show gv_X _ _ (25, [(0, .inr (.inr (some 61))), (1, .inl a1), (2, .inl a2)], [.inr (.inr (some 68)), .inl (I 68 (Int.toNat a1))], sh, gc_h sh I J A)
    refine gv_run 1 true hD (pc' := 26) (lv' := [(0, .inr (.inr (some 61))), (1, .inl a1), (2, .inl a2)]) (st' := [.inl a2, .inr (.inr (some 68)), .inl (I 68 (Int.toNat a1))]) (h' := gc_h sh I J A) (C := (True ∧ True)) rfl ⟨trivial, trivial⟩ ?_
    have f12 := (show (-2147483648) ≤ I 68 (Int.toNat a2) ∧ I 68 (Int.toNat a2) ≤ 2147483647 from gc_in hI R_68 rfl rfl)
    refine gv_iald hD rfl S_68 rfl ⟨by decide, B_68⟩ ⟨by exact gz_m 38 (by omega), by exact gz_m 39 (by omega)⟩ (gc_iI S_68 rfl) ?_
    show gv_X _ _ (27, [(0, .inr (.inr (some 61))), (1, .inl a1), (2, .inl a2)], [.inl (I 68 (Int.toNat a2)), .inl (I 68 (Int.toNat a1))], sh, gc_h sh I J A)
    refine gv_icmp_ge (t := 34) hD rfl rfl ⟨⟨by exact gz_m 40 (by omega), by exact gz_m 41 (by omega)⟩, ⟨by exact gz_m 42 (by omega), by exact gz_m 43 (by omega)⟩⟩ (fun c13 => ?_) (fun c13 => ?_)
    · show gv_X _ _ (34, [(0, .inr (.inr (some 61))), (1, .inl a1), (2, .inl a2)], [], sh, gc_h sh I J A)
      refine gv_run 1 true hD (pc' := 35) (lv' := [(0, .inr (.inr (some 61))), (1, .inl a1), (2, .inl a2)]) (st' := [.inl 0]) (h' := gc_h sh I J A) (C := (True ∧ True)) rfl ⟨trivial, trivial⟩ ?_
      refine gv_pick [] rfl ?_
      exact L35 0 (by exact gz_m 44 (by omega))
    · show gv_X _ _ (30, [(0, .inr (.inr (some 61))), (1, .inl a1), (2, .inl a2)], [], sh, gc_h sh I J A)
      refine gv_run 2 true hD (pc' := 35) (lv' := [(0, .inr (.inr (some 61))), (1, .inl a1), (2, .inl a2)]) (st' := [.inl 1]) (h' := gc_h sh I J A) (C := ((True ∧ True) ∧ True)) rfl ⟨⟨trivial, trivial⟩, trivial⟩ ?_
      refine gv_pick [] rfl ?_
      exact L35 1 (by exact gz_m 45 (by omega))
