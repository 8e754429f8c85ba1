set_option maxHeartbeats 8000000 in
set_option maxRecDepth 100000 in
theorem d_X5_rank_c {ws0 : List Cond} {tb : String → gz_T} (hws : gc_Ws ws0) (htb : gc_tbs tb) (sh : gz_Sh) (ro : Nat → Nat) (I : gr_I) (J : gr_J) (A : gc_A) (hI : gc_Inv ro I)  (hb : gc_Base sh ro A)  (x0 : I 61 3 = 0) : ∃ r hₚ, gz_Ev ws0 tb 8 (yX5_rank, cX5_rank, 4, none) [.inr (.inr (some 61))] sh (gc_h sh I J A) r sh hₚ 0 0 ∧ (hₚ = gc_h sh I J A ∧ r = none) := by
  have B_61 := gz_hi (show 61 < 1000000 from by decide)
  have R_61 := gz_hi (show ro 61 = 72 from gc_bR_61 hb)
  have S_61 : sh[61]? = some (false, 5, 19) := gc_bS_61 hb
  have hD : gv_D (gc_E5 ws0 tb 7 (yX5_rank, cX5_rank, 4, none) kX5_rank) := gq_of oX5_rank
  refine gc_ev5 (d := 7) (l := kX5_rank) (Po := fun r hₚ => (hₚ = gc_h sh I J A ∧ r = none)) htb rfl (Nat.le_of_ble_eq_true rfl) ?_
  have L14 : gv_X (gc_E5 ws0 tb 7 (yX5_rank, cX5_rank, 4, none) kX5_rank) (gv_Q cX5_rank none sh (fun r hₚ => (hₚ = gc_h sh I J A ∧ r = none))) (14, [], [], sh, gc_h sh I J A) := by
    exact gv_vret hD rfl ⟨rfl, rfl⟩
  refine gv_run 1 true hD (pcₚ := 1) (lvₚ := [(0, .inr (.inr (some 61)))]) (stₚ := [.inr (.inr (some 61))]) (hₚ := gc_h sh I J A) (C := (True ∧ True)) rfl ⟨trivial, trivial⟩ ?_
  refine gv_get hD rfl rfl S_61 ⟨by decide, (gz_sh B_61)⟩ (gc_hI S_61 rfl) ?_
  show gv_X _ _ (4, [(0, .inr (.inr (some 61)))], [.inl (I 61 3)], sh, gc_h sh I J A)
  refine gv_if_eq (t := 14) hD rfl rfl ⟨by (/-0-/first | omega | (simp only [gz_hd] at *; omega)), by (/-1-/first | omega | (simp only [gz_hd] at *; omega))⟩ (fun c3 => ?_) (fun c3 => ?_)
  · show gv_X _ _ (14, [(0, .inr (.inr (some 61)))], [], sh, gc_h sh I J A)
    refine gv_pick [] rfl ?_
    exact L14 
  · exfalso; (/-2-/first | omega | (simp only [gz_hd] at *; omega))
set_option maxHeartbeats 8000000 in
set_option maxRecDepth 100000 in
theorem d_X5_priceOf_c {ws0 : List Cond} {tb : String → gz_T} (hws : gc_Ws ws0) (htb : gc_tbs tb) (sh : gz_Sh) (ro : Nat → Nat) (I : gr_I) (J : gr_J) (A : gc_A) (hI : gc_Inv ro I) (a1 : Int) (hb : gc_Base sh ro A) (ha1 : (-2147483648) ≤ a1 ∧ a1 ≤ 2147483647) (x0 : I 61 3 = 0) (x1 : I 61 15 = 0) : ∃ r hₚ, gz_Ev ws0 tb 9 (yX5_priceOf, cX5_priceOf, 2, (some .int)) [.inr (.inr (some 61)), .inl a1] sh (gc_h sh I J A) r sh hₚ 0 0 ∧ (hₚ = gc_h sh I J A ∧ (∃ z : Int, r = some (.inl z) ∧ (-1) ≤ z ∧ z ≤ (-1) ∧ (z = -1))) := by
  have B_61 := gz_hi (show 61 < 1000000 from by decide)
  have R_61 := gz_hi (show ro 61 = 72 from gc_bR_61 hb)
  have S_61 : sh[61]? = some (false, 5, 19) := gc_bS_61 hb
  have hD : gv_D (gc_E5 ws0 tb 8 (yX5_priceOf, cX5_priceOf, 2, (some .int)) kX5_priceOf) := gq_of oX5_priceOf
  refine gc_ev5 (d := 8) (l := kX5_priceOf) (Po := fun r hₚ => (hₚ = gc_h sh I J A ∧ (∃ z : Int, r = some (.inl z) ∧ (-1) ≤ z ∧ z ≤ (-1) ∧ (z = -1)))) htb rfl (Nat.le_of_ble_eq_true rfl) ?_
  have L26 : ∀ (s0_1 : Int), (((-1) ≤ s0_1 ∧ s0_1 ≤ (-1))) → gv_X (gc_E5 ws0 tb 8 (yX5_priceOf, cX5_priceOf, 2, (some .int)) kX5_priceOf) (gv_Q cX5_priceOf (some .int) sh (fun r hₚ => (hₚ = gc_h sh I J A ∧ (∃ z : Int, r = some (.inl z) ∧ (-1) ≤ z ∧ z ≤ (-1) ∧ (z = -1))))) (26, [], [.inl s0_1], sh, gc_h sh I J A) := by
    intro s0_1 m_1
    have hs0_1 := m_1
    exact gv_iret hD rfl ⟨rfl, ⟨_, rfl, by (/-0-/first | (and_intros <;> omega) | (simp only [gz_hd] at *; omega))⟩⟩
  have L25 : gv_X (gc_E5 ws0 tb 8 (yX5_priceOf, cX5_priceOf, 2, (some .int)) kX5_priceOf) (gv_Q cX5_priceOf (some .int) sh (fun r hₚ => (hₚ = gc_h sh I J A ∧ (∃ z : Int, r = some (.inl z) ∧ (-1) ≤ z ∧ z ≤ (-1) ∧ (z = -1))))) (25, [], [], sh, gc_h sh I J A) := by
    refine gv_run 1 true hD (pcₚ := 26) (lvₚ := []) (stₚ := [.inl (-1)]) (hₚ := gc_h sh I J A) (C := (True ∧ True)) rfl ⟨trivial, trivial⟩ ?_
    exact L26 (-1) (by (/-1-/first | (and_intros <;> omega) | (simp only [gz_hd] at *; omega)))
  refine gv_run 1 true hD (pcₚ := 1) (lvₚ := [(0, .inr (.inr (some 61))), (1, .inl a1)]) (stₚ := [.inr (.inr (some 61))]) (hₚ := gc_h sh I J A) (C := (True ∧ True)) rfl ⟨trivial, trivial⟩ ?_
  obtain ⟨r3, h3, E3, P3⟩ := d_X5_rank_c (ws0 := ws0) (tb := tb) hws htb sh ro I J A hI   hb    (by (/-2-/first | omega | (simp only [gz_hd] at *; omega))) 
  obtain ⟨rfl, rfl⟩ := P3
  refine gv_callV hD rfl (As := []) (st := []) rfl (gz_sh B_61) S_61 rfl (gc_lV5 hws rfl) (Nat.le_of_ble_eq_true rfl) (gz_Ev_mono (d := 8) (by decide) E3) ?_
  show gv_X _ _ (4, [(0, .inr (.inr (some 61))), (1, .inl a1)], [], sh, gc_h sh I J A)
  refine gv_run 1 true hD (pcₚ := 5) (lvₚ := [(0, .inr (.inr (some 61))), (1, .inl a1)]) (stₚ := [.inl a1]) (hₚ := gc_h sh I J A) (C := (True ∧ True)) rfl ⟨trivial, trivial⟩ ?_
  refine gv_if_lt (t := 25) hD rfl rfl ⟨by (/-3-/first | omega | (simp only [gz_hd] at *; omega)), by (/-4-/first | omega | (simp only [gz_hd] at *; omega))⟩ (fun c4 => ?_) (fun c4 => ?_)
  · show gv_X _ _ (25, [(0, .inr (.inr (some 61))), (1, .inl a1)], [], sh, gc_h sh I J A)
    refine gv_pick [] rfl ?_
    exact L25 
  · show gv_X _ _ (8, [(0, .inr (.inr (some 61))), (1, .inl a1)], [], sh, gc_h sh I J A)
    refine gv_run 2 true hD (pcₚ := 10) (lvₚ := [(0, .inr (.inr (some 61))), (1, .inl a1)]) (stₚ := [.inr (.inr (some 61)), .inl a1]) (hₚ := gc_h sh I J A) (C := ((True ∧ True) ∧ True)) rfl ⟨⟨trivial, trivial⟩, trivial⟩ ?_
    refine gv_get hD rfl rfl S_61 ⟨by decide, (gz_sh B_61)⟩ (gc_hI S_61 rfl) ?_
    show gv_X _ _ (13, [(0, .inr (.inr (some 61))), (1, .inl a1)], [.inl (I 61 15), .inl a1], sh, gc_h sh I J A)
    refine gv_icmp_ge (t := 25) hD rfl rfl ⟨⟨by (/-5-/first | omega | (simp only [gz_hd] at *; omega)), by (/-6-/first | omega | (simp only [gz_hd] at *; omega))⟩, ⟨by (/-7-/first | omega | (simp only [gz_hd] at *; omega)), by (/-8-/first | omega | (simp only [gz_hd] at *; omega))⟩⟩ (fun c6 => ?_) (fun c6 => ?_)
    · show gv_X _ _ (25, [(0, .inr (.inr (some 61))), (1, .inl a1)], [], sh, gc_h sh I J A)
      refine gv_pick [] rfl ?_
      exact L25 
    · exfalso; (/-9-/first | omega | (simp only [gz_hd] at *; omega))
set_option maxHeartbeats 8000000 in
set_option maxRecDepth 100000 in
theorem d_X5_spell_c {ws0 : List Cond} {tb : String → gz_T} (hws : gc_Ws ws0) (htb : gc_tbs tb) (sh : gz_Sh) (ro : Nat → Nat) (I : gr_I) (J : gr_J) (A : gc_A) (hI : gc_Inv ro I) (m : Nat) (a1 : Int) (a2 : Nat) (hb : gc_Base sh ro A) (S_a2 : sh[a2]? = some (true, 1, m)) (R_a2 : ro a2 = 37) (B_a2 : a2 < 1000000) (M_a2 : m < 2147483648) (ha1 : (-2147483648) ≤ a1 ∧ a1 ≤ 2147483647) (x0 : I 61 3 = 0) (x1 : I 61 15 = 0) : ∃ r hₚ, gz_Ev ws0 tb 9 (yX5_spell, cX5_spell, 11, (some .int)) [.inr (.inr (some 61)), .inl a1, .inr (.inr (some a2))] sh (gc_h sh I J A) r sh hₚ 0 0 ∧ (hₚ = gc_h sh I J A ∧ (∃ z : Int, r = some (.inl z) ∧ (-1) ≤ z ∧ z ≤ (-1) ∧ (z = -1))) := by
  have B_61 := gz_hi (show 61 < 1000000 from by decide)
  have R_61 := gz_hi (show ro 61 = 72 from gc_bR_61 hb)
  have S_61 : sh[61]? = some (false, 5, 19) := gc_bS_61 hb
  have hD : gv_D (gc_E5 ws0 tb 8 (yX5_spell, cX5_spell, 11, (some .int)) kX5_spell) := gq_of oX5_spell
  refine gc_ev5 (d := 8) (l := kX5_spell) (Po := fun r hₚ => (hₚ = gc_h sh I J A ∧ (∃ z : Int, r = some (.inl z) ∧ (-1) ≤ z ∧ z ≤ (-1) ∧ (z = -1)))) htb rfl (Nat.le_of_ble_eq_true rfl) ?_
  have L16 : gv_X (gc_E5 ws0 tb 8 (yX5_spell, cX5_spell, 11, (some .int)) kX5_spell) (gv_Q cX5_spell (some .int) sh (fun r hₚ => (hₚ = gc_h sh I J A ∧ (∃ z : Int, r = some (.inl z) ∧ (-1) ≤ z ∧ z ≤ (-1) ∧ (z = -1))))) (16, [], [], sh, gc_h sh I J A) := by
    refine gv_run 1 true hD (pcₚ := 17) (lvₚ := []) (stₚ := [.inl (-1)]) (hₚ := gc_h sh I J A) (C := (True ∧ True)) rfl ⟨trivial, trivial⟩ ?_
    exact gv_iret hD rfl ⟨rfl, ⟨_, rfl, by (/-0-/first | (and_intros <;> omega) | (simp only [gz_hd] at *; omega))⟩⟩
  refine gv_run 1 true hD (pcₚ := 1) (lvₚ := [(0, .inr (.inr (some 61))), (1, .inl a1), (2, .inr (.inr (some a2)))]) (stₚ := [.inr (.inr (some 61))]) (hₚ := gc_h sh I J A) (C := (True ∧ True)) rfl ⟨trivial, trivial⟩ ?_
  obtain ⟨r2, h2, E2, P2⟩ := d_X5_rank_c (ws0 := ws0) (tb := tb) hws htb sh ro I J A hI   hb    (by (/-1-/first | omega | (simp only [gz_hd] at *; omega))) 
  obtain ⟨rfl, rfl⟩ := P2
  refine gv_callV hD rfl (As := []) (st := []) rfl (gz_sh B_61) S_61 rfl (gc_lV5 hws rfl) (Nat.le_of_ble_eq_true rfl) (gz_Ev_mono (d := 8) (by decide) E2) ?_
  show gv_X _ _ (4, [(0, .inr (.inr (some 61))), (1, .inl a1), (2, .inr (.inr (some a2)))], [], sh, gc_h sh I J A)
  refine gv_run 1 true hD (pcₚ := 5) (lvₚ := [(0, .inr (.inr (some 61))), (1, .inl a1), (2, .inr (.inr (some a2)))]) (stₚ := [.inl a1]) (hₚ := gc_h sh I J A) (C := (True ∧ True)) rfl ⟨trivial, trivial⟩ ?_
  refine gv_if_lt (t := 16) hD rfl rfl ⟨by (/-2-/first | omega | (simp only [gz_hd] at *; omega)), by (/-3-/first | omega | (simp only [gz_hd] at *; omega))⟩ (fun c3 => ?_) (fun c3 => ?_)
  · show gv_X _ _ (16, [(0, .inr (.inr (some 61))), (1, .inl a1), (2, .inr (.inr (some a2)))], [], sh, gc_h sh I J A)
    refine gv_pick [] rfl ?_
    exact L16 
  · show gv_X _ _ (8, [(0, .inr (.inr (some 61))), (1, .inl a1), (2, .inr (.inr (some a2)))], [], sh, gc_h sh I J A)
    refine gv_run 2 true hD (pcₚ := 10) (lvₚ := [(0, .inr (.inr (some 61))), (1, .inl a1), (2, .inr (.inr (some a2)))]) (stₚ := [.inr (.inr (some 61)), .inl a1]) (hₚ := gc_h sh I J A) (C := ((True ∧ True) ∧ True)) rfl ⟨⟨trivial, trivial⟩, trivial⟩ ?_
    refine gv_get hD rfl rfl S_61 ⟨by decide, (gz_sh B_61)⟩ (gc_hI S_61 rfl) ?_
    show gv_X _ _ (13, [(0, .inr (.inr (some 61))), (1, .inl a1), (2, .inr (.inr (some a2)))], [.inl (I 61 15), .inl a1], sh, gc_h sh I J A)
    refine gv_icmp_lt (t := 18) hD rfl rfl ⟨⟨by (/-4-/first | omega | (simp only [gz_hd] at *; omega)), by (/-5-/first | omega | (simp only [gz_hd] at *; omega))⟩, ⟨by (/-6-/first | omega | (simp only [gz_hd] at *; omega)), by (/-7-/first | omega | (simp only [gz_hd] at *; omega))⟩⟩ (fun c5 => ?_) (fun c5 => ?_)
    · exfalso; (/-8-/first | omega | (simp only [gz_hd] at *; omega))
    · show gv_X _ _ (16, [(0, .inr (.inr (some 61))), (1, .inl a1), (2, .inr (.inr (some a2)))], [], sh, gc_h sh I J A)
      refine gv_pick [] rfl ?_
      exact L16 
set_option maxHeartbeats 8000000 in
set_option maxRecDepth 100000 in
theorem d_X5_total_c {ws0 : List Cond} {tb : String → gz_T} (hws : gc_Ws ws0) (htb : gc_tbs tb) (sh : gz_Sh) (ro : Nat → Nat) (I : gr_I) (J : gr_J) (A : gc_A) (hI : gc_Inv ro I)  (hb : gc_Base sh ro A)  (x0 : I 61 3 = 0) : ∃ r hₚ, gz_Ev ws0 tb 3 (yX5_total, cX5_total, 5, (some .long)) [.inr (.inr (some 61))] sh (gc_h sh I J A) r sh hₚ 0 0 ∧ (hₚ = gc_h sh I J A ∧ (∃ z : Int64, r = some (.inr (.inl z)))) := by
  have B_61 := gz_hi (show 61 < 1000000 from by decide)
  have R_61 := gz_hi (show ro 61 = 72 from gc_bR_61 hb)
  have S_61 : sh[61]? = some (false, 5, 19) := gc_bS_61 hb
  have hD : gv_D (gc_E5 ws0 tb 2 (yX5_total, cX5_total, 5, (some .long)) kX5_total) := gq_of oX5_total
  refine gc_ev5 (d := 2) (l := kX5_total) (Po := fun r hₚ => (hₚ = gc_h sh I J A ∧ (∃ z : Int64, r = some (.inr (.inl z))))) htb rfl (Nat.le_of_ble_eq_true rfl) ?_
  refine gv_run 1 true hD (pcₚ := 1) (lvₚ := [(0, .inr (.inr (some 61)))]) (stₚ := [.inr (.inr (some 61))]) (hₚ := gc_h sh I J A) (C := (True ∧ True)) rfl ⟨trivial, trivial⟩ ?_
  refine gv_get hD rfl rfl S_61 ⟨by decide, (gz_sh B_61)⟩ (gc_hI S_61 rfl) ?_
  show gv_X _ _ (4, [(0, .inr (.inr (some 61)))], [.inl (I 61 3)], sh, gc_h sh I J A)
  refine gv_if_ne (t := 9) hD rfl rfl ⟨by (/-0-/first | omega | (simp only [gz_hd] at *; omega)), by (/-1-/first | omega | (simp only [gz_hd] at *; omega))⟩ (fun c2 => ?_) (fun c2 => ?_)
  · exfalso; (/-2-/first | omega | (simp only [gz_hd] at *; omega))
  · show gv_X _ _ (7, [(0, .inr (.inr (some 61)))], [], sh, gc_h sh I J A)
    refine gv_run 1 true hD (pcₚ := 8) (lvₚ := [(0, .inr (.inr (some 61)))]) (stₚ := [.inr (.inl (Int64.ofNat 0))]) (hₚ := gc_h sh I J A) (C := (True ∧ True)) rfl ⟨trivial, trivial⟩ ?_
    exact gv_lret hD rfl ⟨rfl, ⟨_, rfl⟩⟩
