set_option maxHeartbeats 8000000 in
set_option maxRecDepth 100000 in
theorem d_X5_rank_c {ws0 : List Cond} {tb : String → gz_T} (hws : gc_Ws ws0) (htb : gc_tbs tb) (sh : gz_Sh) (ro : Nat → Nat) (I : gr_I) (J : gr_J) (A : gc_A) (hI : gc_Inv ro I)  (hb : gc_Base sh ro A)  (x0 : I 61 3 = 0) : ∃ r h', gz_Ev ws0 tb 8 (yX5_rank, cX5_rank, 4, none) [.inr (.inr (some 61))] sh (gc_h sh I J A) r sh h' 0 0 ∧ (h' = gc_h sh I J A ∧ r = none) := by
  have B_61 : 61 < 1000000 := by decide
  have R_61 : ro 61 = 72 := gc_bR hb (by decide) rfl
  have S_61 : sh[61]? = some (false, 5, 19) := gc_bS hb rfl
  have hD : gv_D (gc_E5 ws0 tb 7 (yX5_rank, cX5_rank, 4, none) kX5_rank) := gq_of oX5_rank
  refine gc_ev5 (d := 7) (l := kX5_rank) (Po := fun r h' => (h' = gc_h sh I J A ∧ r = none)) htb rfl (Nat.le_of_ble_eq_true rfl) ?_
  have L14 : gv_X (gc_E5 ws0 tb 7 (yX5_rank, cX5_rank, 4, none) kX5_rank) (gv_Q cX5_rank none sh (fun r h' => (h' = gc_h sh I J A ∧ r = none))) (14, [], [], sh, gc_h sh I J A) := by
    exact gv_vret hD rfl ⟨rfl, rfl⟩
  refine gv_run 1 true hD (pc' := 1) (lv' := [(0, .inr (.inr (some 61)))]) (st' := [.inr (.inr (some 61))]) (h' := gc_h sh I J A) (C := (True ∧ True)) rfl ⟨trivial, trivial⟩ ?_
  have f2 := (show 0 ≤ I 61 3 ∧ I 61 3 ≤ 1 from gc_in hI R_61 rfl rfl)
  refine gv_get hD rfl rfl S_61 ⟨by decide, B_61⟩ (gc_hI S_61 rfl) ?_
  show gv_X _ _ (4, [(0, .inr (.inr (some 61)))], [.inl (I 61 3)], sh, gc_h sh I J A)
  refine gv_if_eq (t := 14) hD rfl rfl ⟨by exact gz_m 0 (by omega), by exact gz_m 1 (by omega)⟩ (fun c3 => ?_) (fun c3 => ?_)
  · show gv_X _ _ (14, [(0, .inr (.inr (some 61)))], [], sh, gc_h sh I J A)
    refine gv_pick [] rfl ?_
    exact L14 
  · exfalso; exact gz_m 2 (by omega)
set_option maxHeartbeats 8000000 in
set_option maxRecDepth 100000 in
theorem d_X5_priceOf_c {ws0 : List Cond} {tb : String → gz_T} (hws : gc_Ws ws0) (htb : gc_tbs tb) (sh : gz_Sh) (ro : Nat → Nat) (I : gr_I) (J : gr_J) (A : gc_A) (hI : gc_Inv ro I) (a1 : Int) (hb : gc_Base sh ro A) (ha1 : (-2147483648) ≤ a1 ∧ a1 ≤ 2147483647) (x0 : I 61 3 = 0) (x1 : I 61 15 = 0) : ∃ r h', gz_Ev ws0 tb 9 (yX5_priceOf, cX5_priceOf, 2, (some .int)) [.inr (.inr (some 61)), .inl a1] sh (gc_h sh I J A) r sh h' 0 0 ∧ (h' = gc_h sh I J A ∧ (∃ z : Int, r = some (.inl z) ∧ (-1) ≤ z ∧ z ≤ (-1) ∧ (z = -1))) := by
  have B_61 : 61 < 1000000 := by decide
  have R_61 : ro 61 = 72 := gc_bR hb (by decide) rfl
  have S_61 : sh[61]? = some (false, 5, 19) := gc_bS hb rfl
  have hD : gv_D (gc_E5 ws0 tb 8 (yX5_priceOf, cX5_priceOf, 2, (some .int)) kX5_priceOf) := gq_of oX5_priceOf
  refine gc_ev5 (d := 8) (l := kX5_priceOf) (Po := fun r h' => (h' = gc_h sh I J A ∧ (∃ z : Int, r = some (.inl z) ∧ (-1) ≤ z ∧ z ≤ (-1) ∧ (z = -1)))) htb rfl (Nat.le_of_ble_eq_true rfl) ?_
  have L26 : ∀ (s0_1 : Int), (((-1) ≤ s0_1 ∧ s0_1 ≤ (-1))) → gv_X (gc_E5 ws0 tb 8 (yX5_priceOf, cX5_priceOf, 2, (some .int)) kX5_priceOf) (gv_Q cX5_priceOf (some .int) sh (fun r h' => (h' = gc_h sh I J A ∧ (∃ z : Int, r = some (.inl z) ∧ (-1) ≤ z ∧ z ≤ (-1) ∧ (z = -1))))) (26, [], [.inl s0_1], sh, gc_h sh I J A) := by
    intro s0_1 m_1
    have hs0_1 := m_1
    exact gv_iret hD rfl ⟨rfl, ⟨_, rfl, by exact gz_m 0 (by omega)⟩⟩
  have L25 : gv_X (gc_E5 ws0 tb 8 (yX5_priceOf, cX5_priceOf, 2, (some .int)) kX5_priceOf) (gv_Q cX5_priceOf (some .int) sh (fun r h' => (h' = gc_h sh I J A ∧ (∃ z : Int, r = some (.inl z) ∧ (-1) ≤ z ∧ z ≤ (-1) ∧ (z = -1))))) (25, [], [], sh, gc_h sh I J A) := by
    refine gv_run 1 true hD (pc' := 26) (lv' := []) (st' := [.inl (-1)]) (h' := gc_h sh I J A) (C := (True ∧ True)) rfl ⟨trivial, trivial⟩ ?_
    exact L26 (-1) (by exact gz_m 1 (by omega))
  refine gv_run 1 true hD (pc' := 1) (lv' := [(0, .inr (.inr (some 61))), (1, .inl a1)]) (st' := [.inr (.inr (some 61))]) (h' := gc_h sh I J A) (C := (True ∧ True)) rfl ⟨trivial, trivial⟩ ?_
  obtain ⟨r3, h3, E3, P3⟩ := d_X5_rank_c (ws0 := ws0) (tb := tb) hws htb sh ro I J A hI   hb    (by exact gz_m 2 (by omega)) 
  obtain ⟨rfl, rfl⟩ := P3
  refine gv_callV hD rfl (As := []) (st := []) rfl B_61 S_61 rfl (gc_lV5 hws rfl) (Nat.le_of_ble_eq_true rfl) (gz_Ev_mono (d := 8) (by decide) E3) ?_
  show gv_X _ _ (4, [(0, .inr (.inr (some 61))), (1, .inl a1)], [], sh, gc_h sh I J A)
  refine gv_run 1 true hD (pc' := 5) (lv' := [(0, .inr (.inr (some 61))), (1, .inl a1)]) (st' := [.inl a1]) (h' := gc_h sh I J A) (C := (True ∧ True)) rfl ⟨trivial, trivial⟩ ?_
  refine gv_if_lt (t := 25) hD rfl rfl ⟨by exact gz_m 3 (by omega), by exact gz_m 4 (by omega)⟩ (fun c4 => ?_) (fun c4 => ?_)
  · show gv_X _ _ (25, [(0, .inr (.inr (some 61))), (1, .inl a1)], [], sh, gc_h sh I J A)
    refine gv_pick [] rfl ?_
    exact L25 
  · show gv_X _ _ (8, [(0, .inr (.inr (some 61))), (1, .inl a1)], [], sh, gc_h sh I J A)
    refine gv_run 2 true hD (pc' := 10) (lv' := [(0, .inr (.inr (some 61))), (1, .inl a1)]) (st' := [.inr (.inr (some 61)), .inl a1]) (h' := gc_h sh I J A) (C := ((True ∧ True) ∧ True)) rfl ⟨⟨trivial, trivial⟩, trivial⟩ ?_
    have f5 := (show 0 ≤ I 61 15 ∧ I 61 15 ≤ 16 from gc_in hI R_61 rfl rfl)
    refine gv_get hD rfl rfl S_61 ⟨by decide, B_61⟩ (gc_hI S_61 rfl) ?_
    show gv_X _ _ (13, [(0, .inr (.inr (some 61))), (1, .inl a1)], [.inl (I 61 15), .inl a1], sh, gc_h sh I J A)
    refine gv_icmp_ge (t := 25) hD rfl rfl ⟨⟨by exact gz_m 5 (by omega), by exact gz_m 6 (by omega)⟩, ⟨by exact gz_m 7 (by omega), by exact gz_m 8 (by omega)⟩⟩ (fun c6 => ?_) (fun c6 => ?_)
    · show gv_X _ _ (25, [(0, .inr (.inr (some 61))), (1, .inl a1)], [], sh, gc_h sh I J A)
      refine gv_pick [] rfl ?_
      exact L25 
    · exfalso; exact gz_m 9 (by omega)
set_option maxHeartbeats 8000000 in
set_option maxRecDepth 100000 in
theorem d_X5_spell_c {ws0 : List Cond} {tb : String → gz_T} (hws : gc_Ws ws0) (htb : gc_tbs tb) (sh : gz_Sh) (ro : Nat → Nat) (I : gr_I) (J : gr_J) (A : gc_A) (hI : gc_Inv ro I) (m : Nat) (a1 : Int) (a2 : Nat) (hb : gc_Base sh ro A) (S_a2 : sh[a2]? = some (true, 1, m)) (R_a2 : ro a2 = 37) (B_a2 : a2 < 1000000) (M_a2 : m < 2147483648) (ha1 : (-2147483648) ≤ a1 ∧ a1 ≤ 2147483647) (x0 : I 61 3 = 0) (x1 : I 61 15 = 0) : ∃ r h', gz_Ev ws0 tb 9 (yX5_spell, cX5_spell, 11, (some .int)) [.inr (.inr (some 61)), .inl a1, .inr (.inr (some a2))] sh (gc_h sh I J A) r sh h' 0 0 ∧ (h' = gc_h sh I J A ∧ (∃ z : Int, r = some (.inl z) ∧ (-1) ≤ z ∧ z ≤ (-1) ∧ (z = -1))) := by
  have B_61 : 61 < 1000000 := by decide
  have R_61 : ro 61 = 72 := gc_bR hb (by decide) rfl
  have S_61 : sh[61]? = some (false, 5, 19) := gc_bS hb rfl
  have hD : gv_D (gc_E5 ws0 tb 8 (yX5_spell, cX5_spell, 11, (some .int)) kX5_spell) := gq_of oX5_spell
  refine gc_ev5 (d := 8) (l := kX5_spell) (Po := fun r h' => (h' = gc_h sh I J A ∧ (∃ z : Int, r = some (.inl z) ∧ (-1) ≤ z ∧ z ≤ (-1) ∧ (z = -1)))) htb rfl (Nat.le_of_ble_eq_true rfl) ?_
  have L16 : gv_X (gc_E5 ws0 tb 8 (yX5_spell, cX5_spell, 11, (some .int)) kX5_spell) (gv_Q cX5_spell (some .int) sh (fun r h' => (h' = gc_h sh I J A ∧ (∃ z : Int, r = some (.inl z) ∧ (-1) ≤ z ∧ z ≤ (-1) ∧ (z = -1))))) (16, [], [], sh, gc_h sh I J A) := by
    refine gv_run 1 true hD (pc' := 17) (lv' := []) (st' := [.inl (-1)]) (h' := gc_h sh I J A) (C := (True ∧ True)) rfl ⟨trivial, trivial⟩ ?_
    exact gv_iret hD rfl ⟨rfl, ⟨_, rfl, by exact gz_m 0 (by omega)⟩⟩
  refine gv_run 1 true hD (pc' := 1) (lv' := [(0, .inr (.inr (some 61))), (1, .inl a1), (2, .inr (.inr (some a2)))]) (st' := [.inr (.inr (some 61))]) (h' := gc_h sh I J A) (C := (True ∧ True)) rfl ⟨trivial, trivial⟩ ?_
  obtain ⟨r2, h2, E2, P2⟩ := d_X5_rank_c (ws0 := ws0) (tb := tb) hws htb sh ro I J A hI   hb    (by exact gz_m 1 (by omega)) 
  obtain ⟨rfl, rfl⟩ := P2
  refine gv_callV hD rfl (As := []) (st := []) rfl B_61 S_61 rfl (gc_lV5 hws rfl) (Nat.le_of_ble_eq_true rfl) (gz_Ev_mono (d := 8) (by decide) E2) ?_
  show gv_X _ _ (4, [(0, .inr (.inr (some 61))), (1, .inl a1), (2, .inr (.inr (some a2)))], [], sh, gc_h sh I J A)
  refine gv_run 1 true hD (pc' := 5) (lv' := [(0, .inr (.inr (some 61))), (1, .inl a1), (2, .inr (.inr (some a2)))]) (st' := [.inl a1]) (h' := gc_h sh I J A) (C := (True ∧ True)) rfl ⟨trivial, trivial⟩ ?_
  refine gv_if_lt (t := 16) hD rfl rfl ⟨by exact gz_m 2 (by omega), by exact gz_m 3 (by omega)⟩ (fun c3 => ?_) (fun c3 => ?_)
  · show gv_X _ _ (16, [(0, .inr (.inr (some 61))), (1, .inl a1), (2, .inr (.inr (some a2)))], [], sh, gc_h sh I J A)
    refine gv_pick [] rfl ?_
    exact L16 
  · show gv_X _ _ (8, [(0, .inr (.inr (some 61))), (1, .inl a1), (2, .inr (.inr (some a2)))], [], sh, gc_h sh I J A)
    refine gv_run 2 true hD (pc' := 10) (lv' := [(0, .inr (.inr (some 61))), (1, .inl a1), (2, .inr (.inr (some a2)))]) (st' := [.inr (.inr (some 61)), .inl a1]) (h' := gc_h sh I J A) (C := ((True ∧ True) ∧ True)) rfl ⟨⟨trivial, trivial⟩, trivial⟩ ?_
    have f4 := (show 0 ≤ I 61 15 ∧ I 61 15 ≤ 16 from gc_in hI R_61 rfl rfl)
    refine gv_get hD rfl rfl S_61 ⟨by decide, B_61⟩ (gc_hI S_61 rfl) ?_
    show gv_X _ _ (13, [(0, .inr (.inr (some 61))), (1, .inl a1), (2, .inr (.inr (some a2)))], [.inl (I 61 15), .inl a1], sh, gc_h sh I J A)
    refine gv_icmp_lt (t := 18) hD rfl rfl ⟨⟨by exact gz_m 4 (by omega), by exact gz_m 5 (by omega)⟩, ⟨by exact gz_m 6 (by omega), by exact gz_m 7 (by omega)⟩⟩ (fun c5 => ?_) (fun c5 => ?_)
    · exfalso; exact gz_m 8 (by omega)
    · show gv_X _ _ (16, [(0, .inr (.inr (some 61))), (1, .inl a1), (2, .inr (.inr (some a2)))], [], sh, gc_h sh I J A)
      refine gv_pick [] rfl ?_
      exact L16 
set_option maxHeartbeats 8000000 in
set_option maxRecDepth 100000 in
theorem d_X5_total_c {ws0 : List Cond} {tb : String → gz_T} (hws : gc_Ws ws0) (htb : gc_tbs tb) (sh : gz_Sh) (ro : Nat → Nat) (I : gr_I) (J : gr_J) (A : gc_A) (hI : gc_Inv ro I)  (hb : gc_Base sh ro A)  (x0 : I 61 3 = 0) : ∃ r h', gz_Ev ws0 tb 3 (yX5_total, cX5_total, 5, (some .long)) [.inr (.inr (some 61))] sh (gc_h sh I J A) r sh h' 0 0 ∧ (h' = gc_h sh I J A ∧ (∃ z : Int64, r = some (.inr (.inl z)))) := by
  have B_61 : 61 < 1000000 := by decide
  have R_61 : ro 61 = 72 := gc_bR hb (by decide) rfl
  have S_61 : sh[61]? = some (false, 5, 19) := gc_bS hb rfl
  have hD : gv_D (gc_E5 ws0 tb 2 (yX5_total, cX5_total, 5, (some .long)) kX5_total) := gq_of oX5_total
  refine gc_ev5 (d := 2) (l := kX5_total) (Po := fun r h' => (h' = gc_h sh I J A ∧ (∃ z : Int64, r = some (.inr (.inl z))))) htb rfl (Nat.le_of_ble_eq_true rfl) ?_
  refine gv_run 1 true hD (pc' := 1) (lv' := [(0, .inr (.inr (some 61)))]) (st' := [.inr (.inr (some 61))]) (h' := gc_h sh I J A) (C := (True ∧ True)) rfl ⟨trivial, trivial⟩ ?_
  have f1 := (show 0 ≤ I 61 3 ∧ I 61 3 ≤ 1 from gc_in hI R_61 rfl rfl)
  refine gv_get hD rfl rfl S_61 ⟨by decide, B_61⟩ (gc_hI S_61 rfl) ?_
  show gv_X _ _ (4, [(0, .inr (.inr (some 61)))], [.inl (I 61 3)], sh, gc_h sh I J A)
  refine gv_if_ne (t := 9) hD rfl rfl ⟨by exact gz_m 0 (by omega), by exact gz_m 1 (by omega)⟩ (fun c2 => ?_) (fun c2 => ?_)
  · exfalso; exact gz_m 2 (by omega)
  · show gv_X _ _ (7, [(0, .inr (.inr (some 61)))], [], sh, gc_h sh I J A)
    refine gv_run 1 true hD (pc' := 8) (lv' := [(0, .inr (.inr (some 61)))]) (st' := [.inr (.inl (Int64.ofNat 0))]) (h' := gc_h sh I J A) (C := (True ∧ True)) rfl ⟨trivial, trivial⟩ ?_
    exact gv_lret hD rfl ⟨rfl, ⟨_, rfl⟩⟩
