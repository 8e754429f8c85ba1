theorem gc_rg_set {n k : Nat} {I I' : gr_I} {m lo hi hi' : Int} (h : gc_rg n I m lo hi) (p : ∀ q j, ¬ (q = n ∧ j = k) → I' q j = I q j) (hz : lo ≤ I' n k ∧ I' n k ≤ hi') (e : hi ≤ hi') : gc_rg n I' m lo hi' := fun j a b => by
  by_cases hk : Int.toNat j = k
  · rw [hk]; exact hz
  · rw [p n _ (fun q => hk q.2)]
    have := h j a b
    omega
theorem gc_rg_fill {n m : Nat} {I' : gr_I} {z lo hi : Int} (hq : ∀ j, j < m → I' n j = z) (h : lo ≤ z ∧ z ≤ hi) : gc_rg n I' (m : Int) lo hi := fun j a b => by rw [hq _ (by omega)]; exact h
set_option maxHeartbeats 8000000 in
set_option maxRecDepth 100000 in
theorem d_X1_tellGuess {ws0 : List Cond} {tb : String → gz_T} (hws : gc_Ws ws0) (htb : gc_tbs tb) (sh : gz_Sh) (ro : Nat → Nat) (I : gr_I) (J : gr_J) (A : gc_A) (hI : gc_Inv ro I) (a1 : Int) (a2 : Int) (hb : gc_Base sh ro A) (ha1 : (-2147483648) ≤ a1 ∧ a1 ≤ 2147483647) (ha2 : (-2147483648) ≤ a2 ∧ a2 ≤ 2147483647)  : ∃ r h', gz_Ev ws0 tb 1 (yX1_tellGuess, cX1_tellGuess, 3, (some .int)) [.inr (.inr (some 100)), .inl a1, .inl a2] sh (gc_h sh I J A) r sh h' 0 0 ∧ (h' = gc_h sh I J A ∧ (∃ z : Int, r = some (.inl z) ∧ (-1) ≤ z ∧ z ≤ 1536)) := by
  have A_100_5 : A 100 5 = some 102 := gc_bA hb rfl
  have A_100_6 : A 100 6 = some 103 := gc_bA hb rfl
  have B_100 : 100 < 1000000 := by decide
  have B_102 : 102 < 1000000 := by decide
  have B_103 : 103 < 1000000 := by decide
  have R_100 : ro 100 = 75 := gc_bR hb (by decide) rfl
  have R_102 : ro 102 = 65 := gc_bR hb (by decide) rfl
  have R_103 : ro 103 = 66 := gc_bR hb (by decide) rfl
  have S_100 : sh[100]? = some (false, 1, 19) := gc_bS hb rfl
  have S_102 : sh[102]? = some (true, 1, 24) := gc_bS hb rfl
  have S_103 : sh[103]? = some (true, 1, 24) := gc_bS hb rfl
  have hD : gv_D (gc_E1 ws0 tb 0 (yX1_tellGuess, cX1_tellGuess, 3, (some .int)) kX1_tellGuess) := gq_of oX1_tellGuess
  refine gc_ev1 (d := 0) (l := kX1_tellGuess) (Po := fun r h' => (h' = gc_h sh I J A ∧ (∃ z : Int, r = some (.inl z) ∧ (-1) ≤ z ∧ z ≤ 1536))) htb rfl (Nat.le_of_ble_eq_true rfl) ?_
  have L12 : gv_X (gc_E1 ws0 tb 0 (yX1_tellGuess, cX1_tellGuess, 3, (some .int)) kX1_tellGuess) (gv_Q cX1_tellGuess (some .int) sh (fun r h' => (h' = gc_h sh I J A ∧ (∃ z : Int, r = some (.inl z) ∧ (-1) ≤ z ∧ z ≤ 1536)))) (12, [], [], sh, gc_h sh I J A) := by
    refine gv_run 1 true hD (pc' := 13) (lv' := []) (st' := [.inl (-1)]) (h' := gc_h sh I J A) (C := (True ∧ True)) rfl ⟨trivial, trivial⟩ ?_
    exact gv_iret hD rfl ⟨rfl, ⟨_, rfl, by exact gz_m 0 (by omega)⟩⟩
  refine gv_run 1 true hD (pc' := 1) (lv' := [(0, .inr (.inr (some 100))), (1, .inl a1), (2, .inl a2)]) (st' := [.inl a1]) (h' := gc_h sh I J A) (C := (True ∧ True)) rfl ⟨trivial, trivial⟩ ?_
  refine gv_if_lt (t := 12) hD rfl rfl ⟨by exact gz_m 1 (by omega), by exact gz_m 2 (by omega)⟩ (fun c2 => ?_) (fun c2 => ?_)
  · show gv_X _ _ (12, [(0, .inr (.inr (some 100))), (1, .inl a1), (2, .inl a2)], [], sh, gc_h sh I J A)
    refine gv_pick [] rfl ?_
    exact L12 
  · show gv_X _ _ (4, [(0, .inr (.inr (some 100))), (1, .inl a1), (2, .inl a2)], [], sh, gc_h sh I J A)
    refine gv_run 2 true hD (pc' := 6) (lv' := [(0, .inr (.inr (some 100))), (1, .inl a1), (2, .inl a2)]) (st' := [.inr (.inr (some 100)), .inl a1]) (h' := gc_h sh I J A) (C := ((True ∧ True) ∧ True)) rfl ⟨⟨trivial, trivial⟩, trivial⟩ ?_
    have f3 := (show 0 ≤ I 100 4 ∧ I 100 4 ≤ 24 from gc_in hI R_100 rfl rfl)
    refine gv_get hD rfl rfl S_100 ⟨by decide, B_100⟩ (gc_hI S_100 rfl) ?_
    show gv_X _ _ (9, [(0, .inr (.inr (some 100))), (1, .inl a1), (2, .inl a2)], [.inl (I 100 4), .inl a1], sh, gc_h sh I J A)
    refine gv_icmp_lt (t := 14) hD rfl rfl ⟨⟨by exact gz_m 3 (by omega), by exact gz_m 4 (by omega)⟩, ⟨by exact gz_m 5 (by omega), by exact gz_m 6 (by omega)⟩⟩ (fun c4 => ?_) (fun c4 => ?_)
    · show gv_X _ _ (14, [(0, .inr (.inr (some 100))), (1, .inl a1), (2, .inl a2)], [], sh, gc_h sh I J A)
      refine gv_run 1 true hD (pc' := 15) (lv' := [(0, .inr (.inr (some 100))), (1, .inl a1), (2, .inl a2)]) (st' := [.inl a2]) (h' := gc_h sh I J A) (C := (True ∧ True)) rfl ⟨trivial, trivial⟩ ?_
      by_cases c5 : a2 = 0
      · refine gv_tabAt hD 0 rfl ⟨by exact gz_m 7 (by omega), by exact gz_m 8 (by omega)⟩ c5 ⟨by decide, by decide⟩ rfl (t := 40) rfl ?_
        refine gv_run 1 true hD (pc' := 41) (lv' := [(0, .inr (.inr (some 100))), (1, .inl a1), (2, .inl a2)]) (st' := [.inr (.inr (some 100))]) (h' := gc_h sh I J A) (C := (True ∧ True)) rfl ⟨trivial, trivial⟩ ?_
        refine gv_get hD rfl rfl S_100 ⟨by decide, B_100⟩ (gc_hA S_100 rfl A_100_5) ?_
        show gv_X _ _ (44, [(0, .inr (.inr (some 100))), (1, .inl a1), (2, .inl a2)], [.inr (.inr (some 102))], sh, gc_h sh I J A)
        refine gv_run 1 true hD (pc' := 45) (lv' := [(0, .inr (.inr (some 100))), (1, .inl a1), (2, .inl a2)]) (st' := [.inl a1, .inr (.inr (some 102))]) (h' := gc_h sh I J A) (C := (True ∧ True)) rfl ⟨trivial, trivial⟩ ?_
        have f6 := (show 0 ≤ I 102 (Int.toNat a1) ∧ I 102 (Int.toNat a1) ≤ 23 from gc_in hI R_102 rfl rfl)
        refine gv_iald hD rfl S_102 rfl ⟨by decide, B_102⟩ ⟨by exact gz_m 9 (by omega), by exact gz_m 10 (by omega)⟩ (gc_iI S_102 rfl) ?_
        show gv_X _ _ (46, [(0, .inr (.inr (some 100))), (1, .inl a1), (2, .inl a2)], [.inl (I 102 (Int.toNat a1))], sh, gc_h sh I J A)
        exact gv_iret hD rfl ⟨rfl, ⟨_, rfl, by exact gz_m 11 (by omega)⟩⟩
      by_cases c7 : a2 = 1
      · refine gv_tabAt hD 1 rfl ⟨by exact gz_m 12 (by omega), by exact gz_m 13 (by omega)⟩ c7 ⟨by decide, by decide⟩ rfl (t := 47) rfl ?_
        refine gv_run 1 true hD (pc' := 48) (lv' := [(0, .inr (.inr (some 100))), (1, .inl a1), (2, .inl a2)]) (st' := [.inr (.inr (some 100))]) (h' := gc_h sh I J A) (C := (True ∧ True)) rfl ⟨trivial, trivial⟩ ?_
        refine gv_get hD rfl rfl S_100 ⟨by decide, B_100⟩ (gc_hA S_100 rfl A_100_6) ?_
        show gv_X _ _ (51, [(0, .inr (.inr (some 100))), (1, .inl a1), (2, .inl a2)], [.inr (.inr (some 103))], sh, gc_h sh I J A)
        refine gv_run 1 true hD (pc' := 52) (lv' := [(0, .inr (.inr (some 100))), (1, .inl a1), (2, .inl a2)]) (st' := [.inl a1, .inr (.inr (some 103))]) (h' := gc_h sh I J A) (C := (True ∧ True)) rfl ⟨trivial, trivial⟩ ?_
        have f8 := (show 0 ≤ I 103 (Int.toNat a1) ∧ I 103 (Int.toNat a1) ≤ 1536 from gc_in hI R_103 rfl rfl)
        refine gv_iald hD rfl S_103 rfl ⟨by decide, B_103⟩ ⟨by exact gz_m 14 (by omega), by exact gz_m 15 (by omega)⟩ (gc_iI S_103 rfl) ?_
        show gv_X _ _ (53, [(0, .inr (.inr (some 100))), (1, .inl a1), (2, .inl a2)], [.inl (I 103 (Int.toNat a1))], sh, gc_h sh I J A)
        exact gv_iret hD rfl ⟨rfl, ⟨_, rfl, by exact gz_m 16 (by omega)⟩⟩
      by_cases c9 : a2 = 2
      · refine gv_tabAt hD 2 rfl ⟨by exact gz_m 17 (by omega), by exact gz_m 18 (by omega)⟩ c9 ⟨by decide, by decide⟩ rfl (t := 54) rfl ?_
        refine gv_run 1 true hD (pc' := 55) (lv' := [(0, .inr (.inr (some 100))), (1, .inl a1), (2, .inl a2)]) (st' := [.inr (.inr (some 100))]) (h' := gc_h sh I J A) (C := (True ∧ True)) rfl ⟨trivial, trivial⟩ ?_
        have f10 := (show 0 ≤ I 100 7 ∧ I 100 7 ≤ 1536 from gc_in hI R_100 rfl rfl)
        refine gv_get hD rfl rfl S_100 ⟨by decide, B_100⟩ (gc_hI S_100 rfl) ?_
        show gv_X _ _ (58, [(0, .inr (.inr (some 100))), (1, .inl a1), (2, .inl a2)], [.inl (I 100 7)], sh, gc_h sh I J A)
        exact gv_iret hD rfl ⟨rfl, ⟨_, rfl, by exact gz_m 19 (by omega)⟩⟩
      refine gv_tabOut hD rfl ⟨by exact gz_m 20 (by omega), by exact gz_m 21 (by omega)⟩ (by exact gz_m 22 (by omega)) (t := 59) rfl ?_
      refine gv_run 1 true hD (pc' := 60) (lv' := [(0, .inr (.inr (some 100))), (1, .inl a1), (2, .inl a2)]) (st' := [.inr (.inr (some 100))]) (h' := gc_h sh I J A) (C := (True ∧ True)) rfl ⟨trivial, trivial⟩ ?_
      have f11 := (show 0 ≤ I 100 8 ∧ I 100 8 ≤ 4 from gc_in hI R_100 rfl rfl)
      refine gv_get hD rfl rfl S_100 ⟨by decide, B_100⟩ (gc_hI S_100 rfl) ?_
      show gv_X _ _ (63, [(0, .inr (.inr (some 100))), (1, .inl a1), (2, .inl a2)], [.inl (I 100 8)], sh, gc_h sh I J A)
      exact gv_iret hD rfl ⟨rfl, ⟨_, rfl, by exact gz_m 23 (by omega)⟩⟩
    · show gv_X _ _ (12, [(0, .inr (.inr (some 100))), (1, .inl a1), (2, .inl a2)], [], sh, gc_h sh I J A)
      refine gv_pick [] rfl ?_
      exact L12 
set_option maxHeartbeats 8000000 in
set_option maxRecDepth 100000 in
theorem d_X1_tellHit {ws0 : List Cond} {tb : String → gz_T} (hws : gc_Ws ws0) (htb : gc_tbs tb) (sh : gz_Sh) (ro : Nat → Nat) (I : gr_I) (J : gr_J) (A : gc_A) (hI : gc_Inv ro I) (a1 : Int) (a2 : Int) (hb : gc_Base sh ro A) (ha1 : (-2147483648) ≤ a1 ∧ a1 ≤ 2147483647) (ha2 : (-2147483648) ≤ a2 ∧ a2 ≤ 2147483647)  : ∃ r h', gz_Ev ws0 tb 1 (yX1_tellHit, cX1_tellHit, 3, (some .int)) [.inr (.inr (some 100)), .inl a1, .inl a2] sh (gc_h sh I J A) r sh h' 0 0 ∧ (h' = gc_h sh I J A ∧ (∃ z : Int, r = some (.inl z) ∧ (-1) ≤ z ∧ z ≤ 99)) := by
  have A_100_15 : A 100 15 = some 111 := gc_bA hb rfl
  have A_100_16 : A 100 16 = some 112 := gc_bA hb rfl
  have B_100 : 100 < 1000000 := by decide
  have B_111 : 111 < 1000000 := by decide
  have B_112 : 112 < 1000000 := by decide
  have R_100 : ro 100 = 75 := gc_bR hb (by decide) rfl
  have R_111 : ro 111 = 67 := gc_bR hb (by decide) rfl
  have R_112 : ro 112 = 65 := gc_bR hb (by decide) rfl
  have S_100 : sh[100]? = some (false, 1, 19) := gc_bS hb rfl
  have S_111 : sh[111]? = some (true, 1, 2400) := gc_bS hb rfl
  have S_112 : sh[112]? = some (true, 1, 2400) := gc_bS hb rfl
  have hD : gv_D (gc_E1 ws0 tb 0 (yX1_tellHit, cX1_tellHit, 3, (some .int)) kX1_tellHit) := gq_of oX1_tellHit
  refine gc_ev1 (d := 0) (l := kX1_tellHit) (Po := fun r h' => (h' = gc_h sh I J A ∧ (∃ z : Int, r = some (.inl z) ∧ (-1) ≤ z ∧ z ≤ 99))) htb rfl (Nat.le_of_ble_eq_true rfl) ?_
  have L12 : gv_X (gc_E1 ws0 tb 0 (yX1_tellHit, cX1_tellHit, 3, (some .int)) kX1_tellHit) (gv_Q cX1_tellHit (some .int) sh (fun r h' => (h' = gc_h sh I J A ∧ (∃ z : Int, r = some (.inl z) ∧ (-1) ≤ z ∧ z ≤ 99)))) (12, [], [], sh, gc_h sh I J A) := by
    refine gv_run 1 true hD (pc' := 13) (lv' := []) (st' := [.inl (-1)]) (h' := gc_h sh I J A) (C := (True ∧ True)) rfl ⟨trivial, trivial⟩ ?_
    exact gv_iret hD rfl ⟨rfl, ⟨_, rfl, by exact gz_m 0 (by omega)⟩⟩
  have L33 : ∀ (s0_2 : Int), ((0 ≤ s0_2 ∧ s0_2 ≤ 99)) → gv_X (gc_E1 ws0 tb 0 (yX1_tellHit, cX1_tellHit, 3, (some .int)) kX1_tellHit) (gv_Q cX1_tellHit (some .int) sh (fun r h' => (h' = gc_h sh I J A ∧ (∃ z : Int, r = some (.inl z) ∧ (-1) ≤ z ∧ z ≤ 99)))) (33, [], [.inl s0_2], sh, gc_h sh I J A) := by
    intro s0_2 m_2
    have hs0_2 := m_2
    exact gv_iret hD rfl ⟨rfl, ⟨_, rfl, by exact gz_m 1 (by omega)⟩⟩
  refine gv_run 1 true hD (pc' := 1) (lv' := [(0, .inr (.inr (some 100))), (1, .inl a1), (2, .inl a2)]) (st' := [.inl a1]) (h' := gc_h sh I J A) (C := (True ∧ True)) rfl ⟨trivial, trivial⟩ ?_
  refine gv_if_lt (t := 12) hD rfl rfl ⟨by exact gz_m 2 (by omega), by exact gz_m 3 (by omega)⟩ (fun c3 => ?_) (fun c3 => ?_)
  · show gv_X _ _ (12, [(0, .inr (.inr (some 100))), (1, .inl a1), (2, .inl a2)], [], sh, gc_h sh I J A)
    refine gv_pick [] rfl ?_
    exact L12 
  · show gv_X _ _ (4, [(0, .inr (.inr (some 100))), (1, .inl a1), (2, .inl a2)], [], sh, gc_h sh I J A)
    refine gv_run 2 true hD (pc' := 6) (lv' := [(0, .inr (.inr (some 100))), (1, .inl a1), (2, .inl a2)]) (st' := [.inr (.inr (some 100)), .inl a1]) (h' := gc_h sh I J A) (C := ((True ∧ True) ∧ True)) rfl ⟨⟨trivial, trivial⟩, trivial⟩ ?_
    have f4 := (show 0 ≤ I 100 14 ∧ I 100 14 ≤ 2400 from gc_in hI R_100 rfl rfl)
    refine gv_get hD rfl rfl S_100 ⟨by decide, B_100⟩ (gc_hI S_100 rfl) ?_
    show gv_X _ _ (9, [(0, .inr (.inr (some 100))), (1, .inl a1), (2, .inl a2)], [.inl (I 100 14), .inl a1], sh, gc_h sh I J A)
    refine gv_icmp_lt (t := 14) hD rfl rfl ⟨⟨by exact gz_m 4 (by omega), by exact gz_m 5 (by omega)⟩, ⟨by exact gz_m 6 (by omega), by exact gz_m 7 (by omega)⟩⟩ (fun c5 => ?_) (fun c5 => ?_)
    · show gv_X _ _ (14, [(0, .inr (.inr (some 100))), (1, .inl a1), (2, .inl a2)], [], sh, gc_h sh I J A)
      refine gv_run 1 true hD (pc' := 15) (lv' := [(0, .inr (.inr (some 100))), (1, .inl a1), (2, .inl a2)]) (st' := [.inl a2]) (h' := gc_h sh I J A) (C := (True ∧ True)) rfl ⟨trivial, trivial⟩ ?_
      refine gv_if_ne (t := 27) hD rfl rfl ⟨by exact gz_m 8 (by omega), by exact gz_m 9 (by omega)⟩ (fun c6 => ?_) (fun c6 => ?_)
      · show gv_X _ _ (27, [(0, .inr (.inr (some 100))), (1, .inl a1), (2, .inl a2)], [], sh, gc_h sh I J A)
        refine gv_run 1 true hD (pc' := 28) (lv' := [(0, .inr (.inr (some 100))), (1, .inl a1), (2, .inl a2)]) (st' := [.inr (.inr (some 100))]) (h' := gc_h sh I J A) (C := (True ∧ True)) rfl ⟨trivial, trivial⟩ ?_
        refine gv_get hD rfl rfl S_100 ⟨by decide, B_100⟩ (gc_hA S_100 rfl A_100_16) ?_
        show gv_X _ _ (31, [(0, .inr (.inr (some 100))), (1, .inl a1), (2, .inl a2)], [.inr (.inr (some 112))], sh, gc_h sh I J A)
        refine gv_run 1 true hD (pc' := 32) (lv' := [(0, .inr (.inr (some 100))), (1, .inl a1), (2, .inl a2)]) (st' := [.inl a1, .inr (.inr (some 112))]) (h' := gc_h sh I J A) (C := (True ∧ True)) rfl ⟨trivial, trivial⟩ ?_
        have f7 := (show 0 ≤ I 112 (Int.toNat a1) ∧ I 112 (Int.toNat a1) ≤ 23 from gc_in hI R_112 rfl rfl)
        refine gv_iald hD rfl S_112 rfl ⟨by decide, B_112⟩ ⟨by exact gz_m 10 (by omega), by exact gz_m 11 (by omega)⟩ (gc_iI S_112 rfl) ?_
        show gv_X _ _ (33, [(0, .inr (.inr (some 100))), (1, .inl a1), (2, .inl a2)], [.inl (I 112 (Int.toNat a1))], sh, gc_h sh I J A)
        refine gv_pick [] rfl ?_
        exact L33 ((I 112 (Int.toNat a1))) (by exact gz_m 12 (by omega))
      · show gv_X _ _ (18, [(0, .inr (.inr (some 100))), (1, .inl a1), (2, .inl a2)], [], sh, gc_h sh I J A)
        refine gv_run 1 true hD (pc' := 19) (lv' := [(0, .inr (.inr (some 100))), (1, .inl a1), (2, .inl a2)]) (st' := [.inr (.inr (some 100))]) (h' := gc_h sh I J A) (C := (True ∧ True)) rfl ⟨trivial, trivial⟩ ?_
        refine gv_get hD rfl rfl S_100 ⟨by decide, B_100⟩ (gc_hA S_100 rfl A_100_15) ?_
        show gv_X _ _ (22, [(0, .inr (.inr (some 100))), (1, .inl a1), (2, .inl a2)], [.inr (.inr (some 111))], sh, gc_h sh I J A)
        refine gv_run 1 true hD (pc' := 23) (lv' := [(0, .inr (.inr (some 100))), (1, .inl a1), (2, .inl a2)]) (st' := [.inl a1, .inr (.inr (some 111))]) (h' := gc_h sh I J A) (C := (True ∧ True)) rfl ⟨trivial, trivial⟩ ?_
        have f8 := (show 0 ≤ I 111 (Int.toNat a1) ∧ I 111 (Int.toNat a1) ≤ 99 from gc_in hI R_111 rfl rfl)
        refine gv_iald hD rfl S_111 rfl ⟨by decide, B_111⟩ ⟨by exact gz_m 13 (by omega), by exact gz_m 14 (by omega)⟩ (gc_iI S_111 rfl) ?_
        show gv_X _ _ (24, [(0, .inr (.inr (some 100))), (1, .inl a1), (2, .inl a2)], [.inl (I 111 (Int.toNat a1))], sh, gc_h sh I J A)
        refine gv_run 1 true hD (pc' := 33) (lv' := [(0, .inr (.inr (some 100))), (1, .inl a1), (2, .inl a2)]) (st' := [.inl (I 111 (Int.toNat a1))]) (h' := gc_h sh I J A) (C := (True ∧ True)) rfl ⟨trivial, trivial⟩ ?_
        refine gv_pick [] rfl ?_
        exact L33 ((I 111 (Int.toNat a1))) (by exact gz_m 15 (by omega))
    · show gv_X _ _ (12, [(0, .inr (.inr (some 100))), (1, .inl a1), (2, .inl a2)], [], sh, gc_h sh I J A)
      refine gv_pick [] rfl ?_
      exact L12 
set_option maxHeartbeats 8000000 in
set_option maxRecDepth 100000 in
theorem d_X1_noteAnalyses {ws0 : List Cond} {tb : String → gz_T} (hws : gc_Ws ws0) (htb : gc_tbs tb) (sh : gz_Sh) (ro : Nat → Nat) (I : gr_I) (J : gr_J) (A : gc_A) (hI : gc_Inv ro I) (a1 : Int) (a2 : Nat) (a3 : Nat) (hb : gc_Base sh ro A) (h_a2 : gc_isTongue sh ro A a2) (G_a2 : 144 ≤ a2) (h_a3 : gc_isText sh ro A a3) (G_a3 : a3 + 3 < 39) (ha1 : 0 ≤ a1 ∧ a1 ≤ 7)  : ∃ r h', gz_Ev ws0 tb 3 (yX1_noteAnalyses, cX1_noteAnalyses, 4, (some .int)) [.inr (.inr (some 100)), .inl a1, .inr (.inr (some a2)), .inr (.inr (some a3))] sh (gc_h sh I J A) r sh h' 0 0 ∧ (∃ (I' : gr_I) (J' : gr_J), h' = gc_h sh I' J' A ∧ gc_Inv ro I' ∧ (∀ q j : Nat, ((q = 100 ∧ j = 2) ∨ (q = 100 ∧ j = 1) ∨ q = 101 ∨ q = (a2 + 22)) ∨ I' q j = I q j) ∧ (∀ q j : Nat, (False) ∨ J' q j = J q j) ∧ (∃ z : Int, r = some (.inl z) ∧ (-3) ≤ z ∧ z ≤ 1536 ∧ (z = I' 100 2 ∨ I' 100 2 = 0) ∧ (I' 100 2 = 0 ∨ I' 100 1 = a1))) := by
  have FI : ∀ q j : Nat, ((q = 100 ∧ j = 2) ∨ (q = 100 ∧ j = 1) ∨ q = 101 ∨ q = (a2 + 22)) ∨ I q j = I q j := fun _ _ => Or.inr rfl
  have FJ : ∀ q j : Nat, (False) ∨ J q j = J q j := fun _ _ => Or.inr rfl
  have A_100_3 : A 100 3 = some 101 := gc_bA hb rfl
  have B_100 : 100 < 1000000 := by decide
  have B_101 : 101 < 1000000 := by decide
  have R_100 : ro 100 = 75 := gc_bR hb (by decide) rfl
  have R_101 : ro 101 = 35 := gc_bR hb (by decide) rfl
  have S_100 : sh[100]? = some (false, 1, 19) := gc_bS hb rfl
  have S_101 : sh[101]? = some (true, 1, 1536) := gc_bS hb rfl
  obtain ⟨S_a2, R_a2, B_a2, A_a2_0, h_a2_1, A_a2_1, h_a2_3, A_a2_2, S_a2_5, R_a2_5, B_a2_5, A_a2_3, S_a2_6, R_a2_6, B_a2_6, A_a2_4, h_a2_7, A_a2_5, S_a2_9, R_a2_9, B_a2_9, A_a2_7, S_a2_10, R_a2_10, B_a2_10, A_a2_8, h_a2_11, A_a2_9, S_a2_13, R_a2_13, B_a2_13, A_a2_10, S_a2_14, R_a2_14, B_a2_14, A_a2_12, S_a2_15, R_a2_15, B_a2_15, A_a2_14, S_a2_16, R_a2_16, B_a2_16, A_a2_15, h_a2_17⟩ := id h_a2
  obtain ⟨S_a2_1, R_a2_1, B_a2_1, A_a2_1_0, S_a2_1_1, R_a2_1_1, B_a2_1_1, Q0_a2_1, Q1_a2_1, Q2_a2_1⟩ := id h_a2_1
  obtain ⟨S_a2_3, R_a2_3, B_a2_3, A_a2_3_0, S_a2_3_1, R_a2_3_1, B_a2_3_1, Q0_a2_3, Q1_a2_3, Q2_a2_3⟩ := id h_a2_3
  obtain ⟨S_a2_7, R_a2_7, B_a2_7, A_a2_7_0, S_a2_7_1, R_a2_7_1, B_a2_7_1, Q0_a2_7, Q1_a2_7, Q2_a2_7⟩ := id h_a2_7
  obtain ⟨S_a2_11, R_a2_11, B_a2_11, A_a2_11_0, S_a2_11_1, R_a2_11_1, B_a2_11_1, Q0_a2_11, Q1_a2_11, Q2_a2_11⟩ := id h_a2_11
  obtain ⟨S_a2_17, R_a2_17, B_a2_17, A_a2_17_0, S_20, R_20, B_20, A_a2_17_1, S_a2_17_1, R_a2_17_1, B_a2_17_1, A_a2_17_2, S_a2_17_2, R_a2_17_2, B_a2_17_2, A_a2_17_3, S_a2_17_3, R_a2_17_3, B_a2_17_3, A_a2_17_4, S_a2_17_4, R_a2_17_4, B_a2_17_4, A_a2_17_5, S_a2_17_5, R_a2_17_5, B_a2_17_5, S_a2_17_6, R_a2_17_6, B_a2_17_6, S_a2_17_7, R_a2_17_7, B_a2_17_7⟩ := id h_a2_17
  obtain ⟨S_a3, R_a3, B_a3, A_a3_0, S_a3_1, R_a3_1, B_a3_1, A_a3_2, S_a3_2, R_a3_2, B_a3_2, A_a3_3, S_a3_3, R_a3_3, B_a3_3⟩ := id h_a3
  have hD : gv_D (gc_E1 ws0 tb 2 (yX1_noteAnalyses, cX1_noteAnalyses, 4, (some .int)) kX1_noteAnalyses) := gq_of oX1_noteAnalyses
  refine gc_ev1 (d := 2) (l := kX1_noteAnalyses) (Po := fun r h' => (∃ (I' : gr_I) (J' : gr_J), h' = gc_h sh I' J' A ∧ gc_Inv ro I' ∧ (∀ q j : Nat, ((q = 100 ∧ j = 2) ∨ (q = 100 ∧ j = 1) ∨ q = 101 ∨ q = (a2 + 22)) ∨ I' q j = I q j) ∧ (∀ q j : Nat, (False) ∨ J' q j = J q j) ∧ (∃ z : Int, r = some (.inl z) ∧ (-3) ≤ z ∧ z ≤ 1536 ∧ (z = I' 100 2 ∨ I' 100 2 = 0) ∧ (I' 100 2 = 0 ∨ I' 100 1 = a1)))) htb rfl (Nat.le_of_ble_eq_true rfl) ?_
  have N_a3__100 : ¬ (a3 = 100) := by exact gz_m 0 (by omega)
  have N_a3__a2_22 : ¬ (a3 = (a2 + 22)) := by exact gz_m 1 (by omega)
  have N_100__a2_22 : ¬ (100 = (a2 + 22)) := by exact gz_m 2 (by omega)
  have N_a3__101 : ¬ (a3 = 101) := by exact gz_m 3 (by omega)
  have f1 := (show 0 ≤ I a3 1 ∧ I a3 1 ≤ 1000 from gc_in hI R_a3 rfl rfl)
  have f2 := (show 0 ≤ I 100 2 ∧ I 100 2 ≤ 1536 from gc_in hI R_100 rfl rfl)
  have f3 := (show 0 ≤ I 100 1 ∧ I 100 1 ≤ 7 from gc_in hI R_100 rfl rfl)
  refine gv_run 2 true hD (pc' := 2) (lv' := [(0, .inr (.inr (some 100))), (1, .inl a1), (2, .inr (.inr (some a2))), (3, .inr (.inr (some a3)))]) (st' := [.inl 0, .inr (.inr (some 100))]) (h' := gc_h sh I J A) (C := ((True ∧ True) ∧ True)) rfl ⟨⟨trivial, trivial⟩, trivial⟩ ?_
  refine gv_put hD rfl rfl S_100 ⟨by decide, B_100⟩ rfl trivial ?_
  refine gc_st (k := 2) hI S_100 rfl R_100 (lo := 0) (hi := 1536) rfl rfl (by exact gz_m 4 (by omega)) (by exact gz_m 5 (by omega)) (fun I4 hI4 q5 p5 => ?_)
  have FI4 := gc_frs (W := fun q j => (q = 100 ∧ j = 2) ∨ (q = 100 ∧ j = 1) ∨ q = 101 ∨ q = (a2 + 22)) FI (Or.inl ⟨rfl, rfl⟩) p5
  have t6 := p5 a3 1 (fun h => absurd h.2 (by decide))
  have t7 := p5 100 1 (fun h => absurd h.2 (by decide))
  have f8 := (show 0 ≤ I4 100 2 ∧ I4 100 2 ≤ 1536 from gc_in hI4 R_100 rfl rfl)
  show gv_X _ _ (5, [(0, .inr (.inr (some 100))), (1, .inl a1), (2, .inr (.inr (some a2))), (3, .inr (.inr (some a3)))], [], sh, gc_h sh I4 J A)
  refine gv_run 1 true hD (pc' := 6) (lv' := [(0, .inr (.inr (some 100))), (1, .inl a1), (2, .inr (.inr (some a2))), (3, .inr (.inr (some a3)))]) (st' := [.inr (.inr (some a3))]) (h' := gc_h sh I4 J A) (C := (True ∧ True)) rfl ⟨trivial, trivial⟩ ?_
  obtain ⟨r9, h9, E9, P9⟩ := d_X9_isWord (ws0 := ws0) (tb := tb) hws htb sh ro I4 J A hI4 a3  h_a3     
  obtain ⟨rfl, ⟨z9, rfl, q9⟩⟩ := P9
  refine gv_callV hD rfl (As := []) (st := []) rfl B_a3 S_a3 rfl (gc_lV1 hws rfl) (Nat.le_of_ble_eq_true rfl) (gz_Ev_mono (d := 2) (by decide) E9) ?_
  show gv_X _ _ (9, [(0, .inr (.inr (some 100))), (1, .inl a1), (2, .inr (.inr (some a2))), (3, .inr (.inr (some a3)))], [.inl z9], sh, gc_h sh I4 J A)
  refine gv_if_ne (t := 15) hD rfl rfl ⟨by exact gz_m 6 (by omega), by exact gz_m 7 (by omega)⟩ (fun c10 => ?_) (fun c10 => ?_)
  · show gv_X _ _ (15, [(0, .inr (.inr (some 100))), (1, .inl a1), (2, .inr (.inr (some a2))), (3, .inr (.inr (some a3)))], [], sh, gc_h sh I4 J A)
    refine gv_run 2 true hD (pc' := 17) (lv' := [(0, .inr (.inr (some 100))), (1, .inl a1), (2, .inr (.inr (some a2))), (3, .inr (.inr (some a3)))]) (st' := [.inl a1, .inr (.inr (some 100))]) (h' := gc_h sh I4 J A) (C := ((True ∧ True) ∧ True)) rfl ⟨⟨trivial, trivial⟩, trivial⟩ ?_
    refine gv_put hD rfl rfl S_100 ⟨by decide, B_100⟩ rfl trivial ?_
    refine gc_st (k := 1) hI4 S_100 rfl R_100 (lo := 0) (hi := 7) rfl rfl (by exact gz_m 8 (by omega)) (by exact gz_m 9 (by omega)) (fun I11 hI11 q12 p12 => ?_)
    have FI11 := gc_frs (W := fun q j => (q = 100 ∧ j = 2) ∨ (q = 100 ∧ j = 1) ∨ q = 101 ∨ q = (a2 + 22)) FI4 (Or.inr (Or.inl ⟨rfl, rfl⟩)) p12
    have t13 := p12 a3 1 (fun h => absurd h.1 N_a3__100)
    have t14 := p12 100 2 (fun h => absurd h.2 (by decide))
    have f15 := (show 0 ≤ I11 100 1 ∧ I11 100 1 ≤ 7 from gc_in hI11 R_100 rfl rfl)
    show gv_X _ _ (20, [(0, .inr (.inr (some 100))), (1, .inl a1), (2, .inr (.inr (some a2))), (3, .inr (.inr (some a3)))], [], sh, gc_h sh I11 J A)
    refine gv_run 2 true hD (pc' := 22) (lv' := [(0, .inr (.inr (some 100))), (1, .inl a1), (2, .inr (.inr (some a2))), (3, .inr (.inr (some a3)))]) (st' := [.inr (.inr (some a2)), .inr (.inr (some 100))]) (h' := gc_h sh I11 J A) (C := ((True ∧ True) ∧ True)) rfl ⟨⟨trivial, trivial⟩, trivial⟩ ?_
    refine gv_get hD rfl rfl S_a2 ⟨by decide, B_a2⟩ (gc_hA S_a2 rfl A_a2_15) ?_
    show gv_X _ _ (25, [(0, .inr (.inr (some 100))), (1, .inl a1), (2, .inr (.inr (some a2))), (3, .inr (.inr (some a3)))], [.inr (.inr (some (a2 + 17))), .inr (.inr (some 100))], sh, gc_h sh I11 J A)
    refine gv_run 1 true hD (pc' := 26) (lv' := [(0, .inr (.inr (some 100))), (1, .inl a1), (2, .inr (.inr (some a2))), (3, .inr (.inr (some a3)))]) (st' := [.inr (.inr (some a3)), .inr (.inr (some (a2 + 17))), .inr (.inr (some 100))]) (h' := gc_h sh I11 J A) (C := (True ∧ True)) rfl ⟨trivial, trivial⟩ ?_
    refine gv_get hD rfl rfl S_a3 ⟨by decide, B_a3⟩ (gc_hA S_a3 rfl A_a3_0) ?_
    show gv_X _ _ (29, [(0, .inr (.inr (some 100))), (1, .inl a1), (2, .inr (.inr (some a2))), (3, .inr (.inr (some a3)))], [.inr (.inr (some (a3 + 1))), .inr (.inr (some (a2 + 17))), .inr (.inr (some 100))], sh, gc_h sh I11 J A)
    refine gv_run 2 true hD (pc' := 31) (lv' := [(0, .inr (.inr (some 100))), (1, .inl a1), (2, .inr (.inr (some a2))), (3, .inr (.inr (some a3)))]) (st' := [.inr (.inr (some a3)), .inl 0, .inr (.inr (some (a3 + 1))), .inr (.inr (some (a2 + 17))), .inr (.inr (some 100))]) (h' := gc_h sh I11 J A) (C := ((True ∧ True) ∧ True)) rfl ⟨⟨trivial, trivial⟩, trivial⟩ ?_
    have f16 := (show 0 ≤ I11 a3 1 ∧ I11 a3 1 ≤ 1000 from gc_in hI11 R_a3 rfl rfl)
    refine gv_get hD rfl rfl S_a3 ⟨by decide, B_a3⟩ (gc_hI S_a3 rfl) ?_
    show gv_X _ _ (34, [(0, .inr (.inr (some 100))), (1, .inl a1), (2, .inr (.inr (some a2))), (3, .inr (.inr (some a3)))], [.inl (I11 a3 1), .inl 0, .inr (.inr (some (a3 + 1))), .inr (.inr (some (a2 + 17))), .inr (.inr (some 100))], sh, gc_h sh I11 J A)
    obtain ⟨r17, h17, E17, P17⟩ := d_X2_findSame (ws0 := ws0) (tb := tb) hws htb sh ro I11 J A hI11 (a2 + 17) 1000 (a3 + 1) 0 (I11 a3 1) h_a2_17 S_a3_1 R_a3_1 B_a3_1 (by decide)  ⟨by exact gz_m 10 (by omega), by exact gz_m 11 (by omega)⟩ ⟨by exact gz_m 12 (by omega), by exact gz_m 13 (by omega)⟩ (by exact gz_m 14 (by omega)) 
    obtain ⟨I18, J19, rfl, hI18, g17, k17, ⟨z17, rfl, q17⟩⟩ := P17
    have FI18 := gc_frc (W := fun q j => (q = 100 ∧ j = 2) ∨ (q = 100 ∧ j = 1) ∨ q = 101 ∨ q = (a2 + 22)) (V := fun q j => q = (a2 + 22)) FI11 (fun q j h => (Or.inr (Or.inr (Or.inr h)))) g17
    have t20 := (g17 a3 1).resolve_left (fun h => absurd h N_a3__a2_22)
    have t21 := (g17 100 2).resolve_left (fun h => absurd h N_100__a2_22)
    have t22 := (g17 100 1).resolve_left (fun h => absurd h N_100__a2_22)
    obtain rfl : J = J19 := funext fun q => funext fun j => ((k17 q j).resolve_left id).symm
    refine gv_callV hD rfl (As := [.inr (.inr (some (a3 + 1))), .inl 0, .inl (I11 a3 1)]) (st := [.inr (.inr (some 100))]) rfl B_a2_17 S_a2_17 rfl (gc_lV1 hws rfl) (Nat.le_of_ble_eq_true rfl) (gz_Ev_mono (d := 2) (by decide) E17) ?_
    show gv_X _ _ (37, [(0, .inr (.inr (some 100))), (1, .inl a1), (2, .inr (.inr (some a2))), (3, .inr (.inr (some a3)))], [.inl z17, .inr (.inr (some 100))], sh, gc_h sh I18 J A)
    refine gv_put hD rfl rfl S_100 ⟨by decide, B_100⟩ rfl trivial ?_
    refine gc_st (k := 2) hI18 S_100 rfl R_100 (lo := 0) (hi := 1536) rfl rfl (by exact gz_m 15 (by omega)) (by exact gz_m 16 (by omega)) (fun I23 hI23 q24 p24 => ?_)
    have FI23 := gc_frs (W := fun q j => (q = 100 ∧ j = 2) ∨ (q = 100 ∧ j = 1) ∨ q = 101 ∨ q = (a2 + 22)) FI18 (Or.inl ⟨rfl, rfl⟩) p24
    have t25 := p24 a3 1 (fun h => absurd h.2 (by decide))
    have t26 := p24 100 1 (fun h => absurd h.2 (by decide))
    have f27 := (show 0 ≤ I23 100 2 ∧ I23 100 2 ≤ 1536 from gc_in hI23 R_100 rfl rfl)
    show gv_X _ _ (40, [(0, .inr (.inr (some 100))), (1, .inl a1), (2, .inr (.inr (some a2))), (3, .inr (.inr (some a3)))], [], sh, gc_h sh I23 J A)
    refine gv_run 1 true hD (pc' := 41) (lv' := [(0, .inr (.inr (some 100))), (1, .inl a1), (2, .inr (.inr (some a2))), (3, .inr (.inr (some a3)))]) (st' := [.inr (.inr (some a2))]) (h' := gc_h sh I23 J A) (C := (True ∧ True)) rfl ⟨trivial, trivial⟩ ?_
    refine gv_get hD rfl rfl S_a2 ⟨by decide, B_a2⟩ (gc_hA S_a2 rfl A_a2_15) ?_
    show gv_X _ _ (44, [(0, .inr (.inr (some 100))), (1, .inl a1), (2, .inr (.inr (some a2))), (3, .inr (.inr (some a3)))], [.inr (.inr (some (a2 + 17)))], sh, gc_h sh I23 J A)
    refine gv_get hD rfl rfl S_a2_17 ⟨by decide, B_a2_17⟩ (gc_hA S_a2_17 rfl A_a2_17_5) ?_
    show gv_X _ _ (47, [(0, .inr (.inr (some 100))), (1, .inl a1), (2, .inr (.inr (some a2))), (3, .inr (.inr (some a3)))], [.inr (.inr (some ((a2 + 17) + 5)))], sh, gc_h sh I23 J A)
    refine gv_run 2 true hD (pc' := 49) (lv' := [(0, .inr (.inr (some 100))), (1, .inl a1), (2, .inr (.inr (some a2))), (3, .inr (.inr (some a3)))]) (st' := [.inr (.inr (some 100)), .inl 0, .inr (.inr (some ((a2 + 17) + 5)))]) (h' := gc_h sh I23 J A) (C := ((True ∧ True) ∧ True)) rfl ⟨⟨trivial, trivial⟩, trivial⟩ ?_
    refine gv_get hD rfl rfl S_100 ⟨by decide, B_100⟩ (gc_hA S_100 rfl A_100_3) ?_
    show gv_X _ _ (52, [(0, .inr (.inr (some 100))), (1, .inl a1), (2, .inr (.inr (some a2))), (3, .inr (.inr (some a3)))], [.inr (.inr (some 101)), .inl 0, .inr (.inr (some ((a2 + 17) + 5)))], sh, gc_h sh I23 J A)
    refine gv_run 2 true hD (pc' := 54) (lv' := [(0, .inr (.inr (some 100))), (1, .inl a1), (2, .inr (.inr (some a2))), (3, .inr (.inr (some a3)))]) (st' := [.inr (.inr (some 100)), .inl 0, .inr (.inr (some 101)), .inl 0, .inr (.inr (some ((a2 + 17) + 5)))]) (h' := gc_h sh I23 J A) (C := ((True ∧ True) ∧ True)) rfl ⟨⟨trivial, trivial⟩, trivial⟩ ?_
    have f28 := (show 0 ≤ I23 100 2 ∧ I23 100 2 ≤ 1536 from gc_in hI23 R_100 rfl rfl)
    refine gv_get hD rfl rfl S_100 ⟨by decide, B_100⟩ (gc_hI S_100 rfl) ?_
    show gv_X _ _ (57, [(0, .inr (.inr (some 100))), (1, .inl a1), (2, .inr (.inr (some a2))), (3, .inr (.inr (some a3)))], [.inl (I23 100 2), .inl 0, .inr (.inr (some 101)), .inl 0, .inr (.inr (some ((a2 + 17) + 5)))], sh, gc_h sh I23 J A)
    refine gv_copy hD rfl (gc_lC1_85 hws) (Nat.le_of_ble_eq_true rfl) ⟨B_a2_17_5, B_101⟩ S_a2_17_5 S_101 (by decide) ⟨by decide, by decide⟩ ⟨by exact gz_m 17 (by omega), by exact gz_m 18 (by omega), by exact gz_m 19 (by omega)⟩ (by exact gz_m 20 (by omega)) (by exact gz_m 21 (by omega)) (fun h => absurd h (by decide)) ?_
    refine gc_cp hI23 S_a2_17_5 S_101 (by decide) (fun j hj => by have h9 := (show 0 ≤ I23 ((a2 + 17) + 5) (Int.toNat 0 + j) ∧ I23 ((a2 + 17) + 5) (Int.toNat 0 + j) ≤ 1535 from gc_in hI23 R_a2_17_5 rfl rfl); rw [R_101]; exact ⟨by show 0 ≤ _; exact gz_m 22 (by omega), by show _ ≤ 1535; exact gz_m 23 (by omega)⟩) (fun I30 hI30 p29 q29 => ?_)
    have FI30 := gc_frp (W := fun q j => (q = 100 ∧ j = 2) ∨ (q = 100 ∧ j = 1) ∨ q = 101 ∨ q = (a2 + 22)) (V := fun q j => q = 101 ∧ Int.toNat 0 ≤ j ∧ j < Int.toNat 0 + Int.toNat (I23 100 2)) FI23 (fun q j h => (Or.inr (Or.inr (Or.inl h.1)))) p29
    have t32 := p29 a3 1 (fun h => absurd h.1 N_a3__101)
    have t33 := p29 100 2 (fun h => absurd h.1 (by decide))
    have t34 := p29 100 1 (fun h => absurd h.1 (by decide))
    have f35 := (show 0 ≤ I30 a3 1 ∧ I30 a3 1 ≤ 1000 from gc_in hI30 R_a3 rfl rfl)
    have f36 := (show 0 ≤ I30 100 2 ∧ I30 100 2 ≤ 1536 from gc_in hI30 R_100 rfl rfl)
    have f37 := (show 0 ≤ I30 100 1 ∧ I30 100 1 ≤ 7 from gc_in hI30 R_100 rfl rfl)
    show gv_X _ _ (60, [(0, .inr (.inr (some 100))), (1, .inl a1), (2, .inr (.inr (some a2))), (3, .inr (.inr (some a3)))], [], sh, gc_h sh I30 J A)
    refine gv_run 1 true hD (pc' := 61) (lv' := [(0, .inr (.inr (some 100))), (1, .inl a1), (2, .inr (.inr (some a2))), (3, .inr (.inr (some a3)))]) (st' := [.inr (.inr (some 100))]) (h' := gc_h sh I30 J A) (C := (True ∧ True)) rfl ⟨trivial, trivial⟩ ?_
    have f38 := (show 0 ≤ I30 100 2 ∧ I30 100 2 ≤ 1536 from gc_in hI30 R_100 rfl rfl)
    refine gv_get hD rfl rfl S_100 ⟨by decide, B_100⟩ (gc_hI S_100 rfl) ?_
    show gv_X _ _ (64, [(0, .inr (.inr (some 100))), (1, .inl a1), (2, .inr (.inr (some a2))), (3, .inr (.inr (some a3)))], [.inl (I30 100 2)], sh, gc_h sh I30 J A)
    exact gv_iret hD rfl ⟨I30, J, rfl, hI30, FI30, FJ, ⟨_, rfl, by exact gz_m 24 (by omega)⟩⟩
  · show gv_X _ _ (12, [(0, .inr (.inr (some 100))), (1, .inl a1), (2, .inr (.inr (some a2))), (3, .inr (.inr (some a3)))], [], sh, gc_h sh I4 J A)
    refine gv_run 1 true hD (pc' := 14) (lv' := [(0, .inr (.inr (some 100))), (1, .inl a1), (2, .inr (.inr (some a2))), (3, .inr (.inr (some a3)))]) (st' := [.inl (-3)]) (h' := gc_h sh I4 J A) (C := (True ∧ True)) rfl ⟨trivial, trivial⟩ ?_
    exact gv_iret hD rfl ⟨I4, J, rfl, hI4, FI4, FJ, ⟨_, rfl, by exact gz_m 25 (by omega)⟩⟩
set_option maxHeartbeats 8000000 in
set_option maxRecDepth 100000 in
theorem d_X1_tellAnalysis {ws0 : List Cond} {tb : String → gz_T} (hws : gc_Ws ws0) (htb : gc_tbs tb) (sh : gz_Sh) (ro : Nat → Nat) (I : gr_I) (J : gr_J) (A : gc_A) (hI : gc_Inv ro I) (a1 : Int) (a2 : Int) (hb : gc_Base sh ro A) (ha1 : (-2147483648) ≤ a1 ∧ a1 ≤ 2147483647) (ha2 : 0 ≤ a2 ∧ a2 ≤ 11) (x0 : gc_Ts sh ro A I) (x1 : I 100 2 = 0 ∨ I 100 1 < I 8 1) : ∃ r h', gz_Ev ws0 tb 3 (yX1_tellAnalysis, cX1_tellAnalysis, 6, (some .int)) [.inr (.inr (some 100)), .inl a1, .inl a2] sh (gc_h sh I J A) r sh h' 0 0 ∧ (h' = gc_h sh I J A ∧ (∃ z : Int, r = some (.inl z) ∧ (-1) ≤ z ∧ z ≤ 20000)) := by
  have A_1_4 : A 1 4 = some 10 := gc_bA hb rfl
  have A_1_9 : A 1 9 = some 14 := gc_bA hb rfl
  have A_100_0 : A 100 0 = some 1 := gc_bA hb rfl
  have A_100_3 : A 100 3 = some 101 := gc_bA hb rfl
  have B_1 : 1 < 1000000 := by decide
  have B_10 : 10 < 1000000 := by decide
  have B_100 : 100 < 1000000 := by decide
  have B_101 : 101 < 1000000 := by decide
  have B_14 : 14 < 1000000 := by decide
  have R_100 : ro 100 = 75 := gc_bR hb (by decide) rfl
  have R_101 : ro 101 = 35 := gc_bR hb (by decide) rfl
  have R_14 : ro 14 = 27 := gc_bR hb (by decide) rfl
  have S_1 : sh[1]? = some (false, 8, 21) := gc_bS hb rfl
  have S_10 : sh[10]? = some (true, 5, 8) := gc_bS hb rfl
  have S_100 : sh[100]? = some (false, 1, 19) := gc_bS hb rfl
  have S_101 : sh[101]? = some (true, 1, 1536) := gc_bS hb rfl
  have S_14 : sh[14]? = some (true, 1, 96) := gc_bS hb rfl
  have hD : gv_D (gc_E1 ws0 tb 2 (yX1_tellAnalysis, cX1_tellAnalysis, 6, (some .int)) kX1_tellAnalysis) := gq_of oX1_tellAnalysis
  refine gc_ev1 (d := 2) (l := kX1_tellAnalysis) (Po := fun r h' => (h' = gc_h sh I J A ∧ (∃ z : Int, r = some (.inl z) ∧ (-1) ≤ z ∧ z ≤ 20000))) htb rfl (Nat.le_of_ble_eq_true rfl) ?_
  have L12 : gv_X (gc_E1 ws0 tb 2 (yX1_tellAnalysis, cX1_tellAnalysis, 6, (some .int)) kX1_tellAnalysis) (gv_Q cX1_tellAnalysis (some .int) sh (fun r h' => (h' = gc_h sh I J A ∧ (∃ z : Int, r = some (.inl z) ∧ (-1) ≤ z ∧ z ≤ 20000)))) (12, [], [], sh, gc_h sh I J A) := by
    refine gv_run 1 true hD (pc' := 13) (lv' := []) (st' := [.inl (-1)]) (h' := gc_h sh I J A) (C := (True ∧ True)) rfl ⟨trivial, trivial⟩ ?_
    exact gv_iret hD rfl ⟨rfl, ⟨_, rfl, by exact gz_m 0 (by omega)⟩⟩
  refine gv_run 1 true hD (pc' := 1) (lv' := [(0, .inr (.inr (some 100))), (1, .inl a1), (2, .inl a2)]) (st' := [.inl a1]) (h' := gc_h sh I J A) (C := (True ∧ True)) rfl ⟨trivial, trivial⟩ ?_
  refine gv_if_lt (t := 12) hD rfl rfl ⟨by exact gz_m 1 (by omega), by exact gz_m 2 (by omega)⟩ (fun c2 => ?_) (fun c2 => ?_)
  · show gv_X _ _ (12, [(0, .inr (.inr (some 100))), (1, .inl a1), (2, .inl a2)], [], sh, gc_h sh I J A)
    refine gv_pick [] rfl ?_
    exact L12 
  · show gv_X _ _ (4, [(0, .inr (.inr (some 100))), (1, .inl a1), (2, .inl a2)], [], sh, gc_h sh I J A)
    refine gv_run 2 true hD (pc' := 6) (lv' := [(0, .inr (.inr (some 100))), (1, .inl a1), (2, .inl a2)]) (st' := [.inr (.inr (some 100)), .inl a1]) (h' := gc_h sh I J A) (C := ((True ∧ True) ∧ True)) rfl ⟨⟨trivial, trivial⟩, trivial⟩ ?_
    have f3 := (show 0 ≤ I 100 2 ∧ I 100 2 ≤ 1536 from gc_in hI R_100 rfl rfl)
    refine gv_get hD rfl rfl S_100 ⟨by decide, B_100⟩ (gc_hI S_100 rfl) ?_
    show gv_X _ _ (9, [(0, .inr (.inr (some 100))), (1, .inl a1), (2, .inl a2)], [.inl (I 100 2), .inl a1], sh, gc_h sh I J A)
    refine gv_icmp_lt (t := 14) hD rfl rfl ⟨⟨by exact gz_m 3 (by omega), by exact gz_m 4 (by omega)⟩, ⟨by exact gz_m 5 (by omega), by exact gz_m 6 (by omega)⟩⟩ (fun c4 => ?_) (fun c4 => ?_)
    · show gv_X _ _ (14, [(0, .inr (.inr (some 100))), (1, .inl a1), (2, .inl a2)], [], sh, gc_h sh I J A)
      refine gv_run 1 true hD (pc' := 15) (lv' := [(0, .inr (.inr (some 100))), (1, .inl a1), (2, .inl a2)]) (st' := [.inr (.inr (some 100))]) (h' := gc_h sh I J A) (C := (True ∧ True)) rfl ⟨trivial, trivial⟩ ?_
      refine gv_get hD rfl rfl S_100 ⟨by decide, B_100⟩ (gc_hA S_100 rfl A_100_0) ?_
      show gv_X _ _ (18, [(0, .inr (.inr (some 100))), (1, .inl a1), (2, .inl a2)], [.inr (.inr (some 1))], sh, gc_h sh I J A)
      refine gv_get hD rfl rfl S_1 ⟨by decide, B_1⟩ (gc_hA S_1 rfl A_1_4) ?_
      show gv_X _ _ (21, [(0, .inr (.inr (some 100))), (1, .inl a1), (2, .inl a2)], [.inr (.inr (some 10))], sh, gc_h sh I J A)
      refine gv_run 1 true hD (pc' := 22) (lv' := [(0, .inr (.inr (some 100))), (1, .inl a1), (2, .inl a2)]) (st' := [.inr (.inr (some 100)), .inr (.inr (some 10))]) (h' := gc_h sh I J A) (C := (True ∧ True)) rfl ⟨trivial, trivial⟩ ?_
      have f5 := (show 0 ≤ I 100 1 ∧ I 100 1 ≤ 7 from gc_in hI R_100 rfl rfl)
      refine gv_get hD rfl rfl S_100 ⟨by decide, B_100⟩ (gc_hI S_100 rfl) ?_
      show gv_X _ _ (25, [(0, .inr (.inr (some 100))), (1, .inl a1), (2, .inl a2)], [.inl (I 100 1), .inr (.inr (some 10))], sh, gc_h sh I J A)
      obtain ⟨t6_, A_t6, h_t6, G_t6⟩ := x0 (Int.toNat (I 100 1)) (by exact gz_m 7 (by omega))
      obtain ⟨S_t6, R_t6, B_t6, A_t6_0, h_t6__1, A_t6_1, h_t6__3, A_t6_2, S_t6__5, R_t6__5, B_t6__5, A_t6_3, S_t6__6, R_t6__6, B_t6__6, A_t6_4, h_t6__7, A_t6_5, S_t6__9, R_t6__9, B_t6__9, A_t6_7, S_t6__10, R_t6__10, B_t6__10, A_t6_8, h_t6__11, A_t6_9, S_t6__13, R_t6__13, B_t6__13, A_t6_10, S_t6__14, R_t6__14, B_t6__14, A_t6_12, S_t6__15, R_t6__15, B_t6__15, A_t6_14, S_t6__16, R_t6__16, B_t6__16, A_t6_15, h_t6__17⟩ := id h_t6
      obtain ⟨S_t6__1, R_t6__1, B_t6__1, A_t6__1_0, S_t6__1_1, R_t6__1_1, B_t6__1_1, Q0_t6__1, Q1_t6__1, Q2_t6__1⟩ := id h_t6__1
      obtain ⟨S_t6__3, R_t6__3, B_t6__3, A_t6__3_0, S_t6__3_1, R_t6__3_1, B_t6__3_1, Q0_t6__3, Q1_t6__3, Q2_t6__3⟩ := id h_t6__3
      obtain ⟨S_t6__7, R_t6__7, B_t6__7, A_t6__7_0, S_t6__7_1, R_t6__7_1, B_t6__7_1, Q0_t6__7, Q1_t6__7, Q2_t6__7⟩ := id h_t6__7
      obtain ⟨S_t6__11, R_t6__11, B_t6__11, A_t6__11_0, S_t6__11_1, R_t6__11_1, B_t6__11_1, Q0_t6__11, Q1_t6__11, Q2_t6__11⟩ := id h_t6__11
      obtain ⟨S_t6__17, R_t6__17, B_t6__17, A_t6__17_0, S_20, R_20, B_20, A_t6__17_1, S_t6__17_1, R_t6__17_1, B_t6__17_1, A_t6__17_2, S_t6__17_2, R_t6__17_2, B_t6__17_2, A_t6__17_3, S_t6__17_3, R_t6__17_3, B_t6__17_3, A_t6__17_4, S_t6__17_4, R_t6__17_4, B_t6__17_4, A_t6__17_5, S_t6__17_5, R_t6__17_5, B_t6__17_5, S_t6__17_6, R_t6__17_6, B_t6__17_6, S_t6__17_7, R_t6__17_7, B_t6__17_7⟩ := id h_t6__17
      refine gv_aald hD rfl S_10 ⟨by decide, by decide⟩ ⟨by decide, B_10⟩ ⟨by exact gz_m 8 (by omega), by exact gz_m 9 (by omega)⟩ ((gc_aA S_10 rfl).trans A_t6) ?_
      show gv_X _ _ (26, [(0, .inr (.inr (some 100))), (1, .inl a1), (2, .inl a2)], [.inr (.inr (some t6_))], sh, gc_h sh I J A)
      refine gv_run 2 true hD (pc' := 28) (lv' := [(3, .inr (.inr (some t6_))), (0, .inr (.inr (some 100))), (1, .inl a1), (2, .inl a2)]) (st' := [.inr (.inr (some 100))]) (h' := gc_h sh I J A) (C := ((True ∧ True) ∧ True)) rfl ⟨⟨trivial, trivial⟩, trivial⟩ ?_
      refine gv_get hD rfl rfl S_100 ⟨by decide, B_100⟩ (gc_hA S_100 rfl A_100_3) ?_
      show gv_X _ _ (31, [(3, .inr (.inr (some t6_))), (0, .inr (.inr (some 100))), (1, .inl a1), (2, .inl a2)], [.inr (.inr (some 101))], sh, gc_h sh I J A)
      refine gv_run 1 true hD (pc' := 32) (lv' := [(3, .inr (.inr (some t6_))), (0, .inr (.inr (some 100))), (1, .inl a1), (2, .inl a2)]) (st' := [.inl a1, .inr (.inr (some 101))]) (h' := gc_h sh I J A) (C := (True ∧ True)) rfl ⟨trivial, trivial⟩ ?_
      have f7 := (show 0 ≤ I 101 (Int.toNat a1) ∧ I 101 (Int.toNat a1) ≤ 1535 from gc_in hI R_101 rfl rfl)
      refine gv_iald hD rfl S_101 rfl ⟨by decide, B_101⟩ ⟨by exact gz_m 10 (by omega), by exact gz_m 11 (by omega)⟩ (gc_iI S_101 rfl) ?_
      show gv_X _ _ (33, [(3, .inr (.inr (some t6_))), (0, .inr (.inr (some 100))), (1, .inl a1), (2, .inl a2)], [.inl (I 101 (Int.toNat a1))], sh, gc_h sh I J A)
      have f8 := gw_div (x := ((I 101 (Int.toNat a1)))) (y := 24) ⟨by exact gz_m 12 (by omega), by exact gz_m 13 (by omega)⟩ ⟨by exact gz_m 14 (by omega), by exact gz_m 15 (by omega)⟩
      refine gv_run 6 true hD (pc' := 43) (lv' := [(5, .inl ((Int32.ofInt ((I 101 (Int.toNat a1))) / Int32.ofInt 24).toInt)), (4, .inl (I 101 (Int.toNat a1))), (3, .inr (.inr (some t6_))), (0, .inr (.inr (some 100))), (1, .inl a1), (2, .inl a2)]) (st' := [.inl a2]) (h' := gc_h sh I J A) (C := ((((((True ∧ True) ∧ True) ∧ True) ∧ (gz_R 24 ∧ ¬ 24 = 0)) ∧ True) ∧ True)) rfl ⟨⟨⟨⟨⟨⟨trivial, trivial⟩, trivial⟩, trivial⟩, ⟨⟨by exact gz_m 16 (by omega), by exact gz_m 17 (by omega)⟩, by exact gz_m 18 (by omega)⟩⟩, trivial⟩, trivial⟩ ?_
      by_cases c9 : a2 = 0
      · refine gv_tabAt hD 0 rfl ⟨by exact gz_m 19 (by omega), by exact gz_m 20 (by omega)⟩ c9 ⟨by decide, by decide⟩ rfl (t := 72) rfl ?_
        refine gv_run 1 true hD (pc' := 74) (lv' := [(5, .inl ((Int32.ofInt ((I 101 (Int.toNat a1))) / Int32.ofInt 24).toInt)), (4, .inl (I 101 (Int.toNat a1))), (3, .inr (.inr (some t6_))), (0, .inr (.inr (some 100))), (1, .inl a1), (2, .inl a2)]) (st' := [.inl ((Int32.ofInt ((I 101 (Int.toNat a1))) / Int32.ofInt 24).toInt)]) (h' := gc_h sh I J A) (C := (True ∧ True)) rfl ⟨trivial, trivial⟩ ?_
        exact gv_iret hD rfl ⟨rfl, ⟨_, rfl, by exact gz_m 21 (by omega)⟩⟩
      by_cases c10 : a2 = 1
      · refine gv_tabAt hD 1 rfl ⟨by exact gz_m 22 (by omega), by exact gz_m 23 (by omega)⟩ c10 ⟨by decide, by decide⟩ rfl (t := 75) rfl ?_
        have f11 := gw_rem (x := ((I 101 (Int.toNat a1)))) (y := 24) ⟨by exact gz_m 24 (by omega), by exact gz_m 25 (by omega)⟩ ⟨by exact gz_m 26 (by omega), by exact gz_m 27 (by omega)⟩
        refine gv_run 3 true hD (pc' := 80) (lv' := [(5, .inl ((Int32.ofInt ((I 101 (Int.toNat a1))) / Int32.ofInt 24).toInt)), (4, .inl (I 101 (Int.toNat a1))), (3, .inr (.inr (some t6_))), (0, .inr (.inr (some 100))), (1, .inl a1), (2, .inl a2)]) (st' := [.inl ((Int32.ofInt ((I 101 (Int.toNat a1))) - Int32.ofInt ((I 101 (Int.toNat a1))) / Int32.ofInt 24 * Int32.ofInt 24).toInt)]) (h' := gc_h sh I J A) (C := (((True ∧ True) ∧ True) ∧ (gz_R 24 ∧ ¬ 24 = 0))) rfl ⟨⟨⟨trivial, trivial⟩, trivial⟩, ⟨⟨by exact gz_m 28 (by omega), by exact gz_m 29 (by omega)⟩, by exact gz_m 30 (by omega)⟩⟩ ?_
        exact gv_iret hD rfl ⟨rfl, ⟨_, rfl, by exact gz_m 31 (by omega)⟩⟩
      by_cases c12 : a2 = 2
      · refine gv_tabAt hD 2 rfl ⟨by exact gz_m 32 (by omega), by exact gz_m 33 (by omega)⟩ c12 ⟨by decide, by decide⟩ rfl (t := 81) rfl ?_
        refine gv_run 2 true hD (pc' := 84) (lv' := [(5, .inl ((Int32.ofInt ((I 101 (Int.toNat a1))) / Int32.ofInt 24).toInt)), (4, .inl (I 101 (Int.toNat a1))), (3, .inr (.inr (some t6_))), (0, .inr (.inr (some 100))), (1, .inl a1), (2, .inl a2)]) (st' := [.inl ((Int32.ofInt ((I 101 (Int.toNat a1))) / Int32.ofInt 24).toInt), .inr (.inr (some t6_))]) (h' := gc_h sh I J A) (C := ((True ∧ True) ∧ True)) rfl ⟨⟨trivial, trivial⟩, trivial⟩ ?_
        obtain ⟨r13, h13, E13, P13⟩ := d_X11_wordFun (ws0 := ws0) (tb := tb) hws htb sh ro I J A hI t6_ (((Int32.ofInt ((I 101 (Int.toNat a1))) / Int32.ofInt 24).toInt)) h_t6   ⟨by exact gz_m 34 (by omega), by exact gz_m 35 (by omega)⟩  
        obtain ⟨rfl, ⟨z13, rfl, q13⟩⟩ := P13
        refine gv_callV hD rfl (As := [.inl ((Int32.ofInt ((I 101 (Int.toNat a1))) / Int32.ofInt 24).toInt)]) (st := []) rfl B_t6 S_t6 rfl (gc_lV1 hws rfl) (Nat.le_of_ble_eq_true rfl) (gz_Ev_mono (d := 1) (by decide) E13) ?_
        show gv_X _ _ (87, [(5, .inl ((Int32.ofInt ((I 101 (Int.toNat a1))) / Int32.ofInt 24).toInt)), (4, .inl (I 101 (Int.toNat a1))), (3, .inr (.inr (some t6_))), (0, .inr (.inr (some 100))), (1, .inl a1), (2, .inl a2)], [.inl z13], sh, gc_h sh I J A)
        exact gv_iret hD rfl ⟨rfl, ⟨_, rfl, by exact gz_m 36 (by omega)⟩⟩
      by_cases c14 : a2 = 3
      · refine gv_tabAt hD 3 rfl ⟨by exact gz_m 37 (by omega), by exact gz_m 38 (by omega)⟩ c14 ⟨by decide, by decide⟩ rfl (t := 88) rfl ?_
        refine gv_run 2 true hD (pc' := 91) (lv' := [(5, .inl ((Int32.ofInt ((I 101 (Int.toNat a1))) / Int32.ofInt 24).toInt)), (4, .inl (I 101 (Int.toNat a1))), (3, .inr (.inr (some t6_))), (0, .inr (.inr (some 100))), (1, .inl a1), (2, .inl a2)]) (st' := [.inl ((Int32.ofInt ((I 101 (Int.toNat a1))) / Int32.ofInt 24).toInt), .inr (.inr (some t6_))]) (h' := gc_h sh I J A) (C := ((True ∧ True) ∧ True)) rfl ⟨⟨trivial, trivial⟩, trivial⟩ ?_
        obtain ⟨r15, h15, E15, P15⟩ := d_X11_wordCost (ws0 := ws0) (tb := tb) hws htb sh ro I J A hI t6_ (((Int32.ofInt ((I 101 (Int.toNat a1))) / Int32.ofInt 24).toInt)) h_t6   ⟨by exact gz_m 39 (by omega), by exact gz_m 40 (by omega)⟩  
        obtain ⟨rfl, ⟨z15, rfl, q15⟩⟩ := P15
        refine gv_callV hD rfl (As := [.inl ((Int32.ofInt ((I 101 (Int.toNat a1))) / Int32.ofInt 24).toInt)]) (st := []) rfl B_t6 S_t6 rfl (gc_lV1 hws rfl) (Nat.le_of_ble_eq_true rfl) (gz_Ev_mono (d := 1) (by decide) E15) ?_
        show gv_X _ _ (94, [(5, .inl ((Int32.ofInt ((I 101 (Int.toNat a1))) / Int32.ofInt 24).toInt)), (4, .inl (I 101 (Int.toNat a1))), (3, .inr (.inr (some t6_))), (0, .inr (.inr (some 100))), (1, .inl a1), (2, .inl a2)], [.inl z15], sh, gc_h sh I J A)
        refine gv_run 1 true hD (pc' := 95) (lv' := [(5, .inl ((Int32.ofInt ((I 101 (Int.toNat a1))) / Int32.ofInt 24).toInt)), (4, .inl (I 101 (Int.toNat a1))), (3, .inr (.inr (some t6_))), (0, .inr (.inr (some 100))), (1, .inl a1), (2, .inl a2)]) (st' := [.inr (.inr (some 100)), .inl z15]) (h' := gc_h sh I J A) (C := (True ∧ True)) rfl ⟨trivial, trivial⟩ ?_
        refine gv_get hD rfl rfl S_100 ⟨by decide, B_100⟩ (gc_hA S_100 rfl A_100_0) ?_
        show gv_X _ _ (98, [(5, .inl ((Int32.ofInt ((I 101 (Int.toNat a1))) / Int32.ofInt 24).toInt)), (4, .inl (I 101 (Int.toNat a1))), (3, .inr (.inr (some t6_))), (0, .inr (.inr (some 100))), (1, .inl a1), (2, .inl a2)], [.inr (.inr (some 1)), .inl z15], sh, gc_h sh I J A)
        refine gv_get hD rfl rfl S_1 ⟨by decide, B_1⟩ (gc_hA S_1 rfl A_1_9) ?_
        show gv_X _ _ (101, [(5, .inl ((Int32.ofInt ((I 101 (Int.toNat a1))) / Int32.ofInt 24).toInt)), (4, .inl (I 101 (Int.toNat a1))), (3, .inr (.inr (some t6_))), (0, .inr (.inr (some 100))), (1, .inl a1), (2, .inl a2)], [.inr (.inr (some 14)), .inl z15], sh, gc_h sh I J A)
        refine gv_run 2 true hD (pc' := 104) (lv' := [(5, .inl ((Int32.ofInt ((I 101 (Int.toNat a1))) / Int32.ofInt 24).toInt)), (4, .inl (I 101 (Int.toNat a1))), (3, .inr (.inr (some t6_))), (0, .inr (.inr (some 100))), (1, .inl a1), (2, .inl a2)]) (st' := [.inl ((Int32.ofInt ((I 101 (Int.toNat a1))) / Int32.ofInt 24).toInt), .inr (.inr (some t6_)), .inr (.inr (some 14)), .inl z15]) (h' := gc_h sh I J A) (C := ((True ∧ True) ∧ True)) rfl ⟨⟨trivial, trivial⟩, trivial⟩ ?_
        obtain ⟨r16, h16, E16, P16⟩ := d_X11_wordFun (ws0 := ws0) (tb := tb) hws htb sh ro I J A hI t6_ (((Int32.ofInt ((I 101 (Int.toNat a1))) / Int32.ofInt 24).toInt)) h_t6   ⟨by exact gz_m 41 (by omega), by exact gz_m 42 (by omega)⟩  
        obtain ⟨rfl, ⟨z16, rfl, q16⟩⟩ := P16
        refine gv_callV hD rfl (As := [.inl ((Int32.ofInt ((I 101 (Int.toNat a1))) / Int32.ofInt 24).toInt)]) (st := [.inr (.inr (some 14)), .inl z15]) rfl B_t6 S_t6 rfl (gc_lV1 hws rfl) (Nat.le_of_ble_eq_true rfl) (gz_Ev_mono (d := 1) (by decide) E16) ?_
        show gv_X _ _ (107, [(5, .inl ((Int32.ofInt ((I 101 (Int.toNat a1))) / Int32.ofInt 24).toInt)), (4, .inl (I 101 (Int.toNat a1))), (3, .inr (.inr (some t6_))), (0, .inr (.inr (some 100))), (1, .inl a1), (2, .inl a2)], [.inl z16, .inr (.inr (some 14)), .inl z15], sh, gc_h sh I J A)
        have f17 := (show 0 ≤ I 14 (Int.toNat z16) ∧ I 14 (Int.toNat z16) ≤ 10000 from gc_in hI R_14 rfl rfl)
        refine gv_iald hD rfl S_14 rfl ⟨by decide, B_14⟩ ⟨by exact gz_m 43 (by omega), by exact gz_m 44 (by omega)⟩ (gc_iI S_14 rfl) ?_
        show gv_X _ _ (108, [(5, .inl ((Int32.ofInt ((I 101 (Int.toNat a1))) / Int32.ofInt 24).toInt)), (4, .inl (I 101 (Int.toNat a1))), (3, .inr (.inr (some t6_))), (0, .inr (.inr (some 100))), (1, .inl a1), (2, .inl a2)], [.inl (I 14 (Int.toNat z16)), .inl z15], sh, gc_h sh I J A)
        refine gv_run 1 true hD (pc' := 109) (lv' := [(5, .inl ((Int32.ofInt ((I 101 (Int.toNat a1))) / Int32.ofInt 24).toInt)), (4, .inl (I 101 (Int.toNat a1))), (3, .inr (.inr (some t6_))), (0, .inr (.inr (some 100))), (1, .inl a1), (2, .inl a2)]) (st' := [.inl (z15 + (I 14 (Int.toNat z16)))]) (h' := gc_h sh I J A) (C := (True ∧ True)) rfl ⟨trivial, trivial⟩ ?_
        exact gv_iret hD rfl ⟨rfl, ⟨_, rfl, by exact gz_m 45 (by omega)⟩⟩
      refine gv_tabOut hD rfl ⟨by exact gz_m 46 (by omega), by exact gz_m 47 (by omega)⟩ (by exact gz_m 48 (by omega)) (t := 110) rfl ?_
      refine gv_run 2 true hD (pc' := 113) (lv' := [(5, .inl ((Int32.ofInt ((I 101 (Int.toNat a1))) / Int32.ofInt 24).toInt)), (4, .inl (I 101 (Int.toNat a1))), (3, .inr (.inr (some t6_))), (0, .inr (.inr (some 100))), (1, .inl a1), (2, .inl a2)]) (st' := [.inl (I 101 (Int.toNat a1)), .inr (.inr (some t6_))]) (h' := gc_h sh I J A) (C := ((True ∧ True) ∧ True)) rfl ⟨⟨trivial, trivial⟩, trivial⟩ ?_
      obtain ⟨r18, h18, E18, P18⟩ := d_X11_formValues (ws0 := ws0) (tb := tb) hws htb sh ro I J A hI t6_ ((I 101 (Int.toNat a1))) h_t6   ⟨by exact gz_m 49 (by omega), by exact gz_m 50 (by omega)⟩  
      obtain ⟨rfl, ⟨z18, rfl, q18⟩⟩ := P18
      refine gv_callV hD rfl (As := [.inl (I 101 (Int.toNat a1))]) (st := []) rfl B_t6 S_t6 rfl (gc_lV1 hws rfl) (Nat.le_of_ble_eq_true rfl) (gz_Ev_mono (d := 2) (by decide) E18) ?_
      show gv_X _ _ (116, [(5, .inl ((Int32.ofInt ((I 101 (Int.toNat a1))) / Int32.ofInt 24).toInt)), (4, .inl (I 101 (Int.toNat a1))), (3, .inr (.inr (some t6_))), (0, .inr (.inr (some 100))), (1, .inl a1), (2, .inl a2)], [.inl z18], sh, gc_h sh I J A)
      refine gv_run 3 true hD (pc' := 119) (lv' := [(5, .inl ((Int32.ofInt ((I 101 (Int.toNat a1))) / Int32.ofInt 24).toInt)), (4, .inl (I 101 (Int.toNat a1))), (3, .inr (.inr (some t6_))), (0, .inr (.inr (some 100))), (1, .inl a1), (2, .inl a2)]) (st' := [.inl (a2 - 4), .inl z18]) (h' := gc_h sh I J A) (C := (((True ∧ True) ∧ True) ∧ True)) rfl ⟨⟨⟨trivial, trivial⟩, trivial⟩, trivial⟩ ?_
      obtain ⟨r19, h19, E19, P19⟩ := d_X11_shiftOf (ws0 := ws0) (tb := tb) hws htb sh ro I J A hI  (a2 - 4)    ⟨by exact gz_m 51 (by omega), by exact gz_m 52 (by omega)⟩  
      obtain ⟨rfl, ⟨z19, rfl, q19⟩⟩ := P19
      refine gv_callS hD rfl (As := [.inl (a2 - 4)]) (st := [.inl z18]) rfl (gc_lS1 hws rfl) (Nat.le_of_ble_eq_true rfl) (gz_Ev_mono (d := 1) (by decide) E19) ?_
      show gv_X _ _ (122, [(5, .inl ((Int32.ofInt ((I 101 (Int.toNat a1))) / Int32.ofInt 24).toInt)), (4, .inl (I 101 (Int.toNat a1))), (3, .inr (.inr (some t6_))), (0, .inr (.inr (some 100))), (1, .inl a1), (2, .inl a2)], [.inl z19, .inl z18], sh, gc_h sh I J A)
      have f20 := gw_shr (x := z18) (y := z19) ⟨by exact gz_m 53 (by omega), by exact gz_m 54 (by omega)⟩
      have f21 := gw_and (x := (((Int32.ofInt z18 >>> (Int32.ofInt z19 &&& 31)).toInt))) (y := 7) ⟨by exact gz_m 55 (by omega), by exact gz_m 56 (by omega)⟩
      refine gv_run 3 true hD (pc' := 126) (lv' := [(5, .inl ((Int32.ofInt ((I 101 (Int.toNat a1))) / Int32.ofInt 24).toInt)), (4, .inl (I 101 (Int.toNat a1))), (3, .inr (.inr (some t6_))), (0, .inr (.inr (some 100))), (1, .inl a1), (2, .inl a2)]) (st' := [.inl ((Int32.ofInt (((Int32.ofInt z18 >>> (Int32.ofInt z19 &&& 31)).toInt)) &&& Int32.ofInt 7).toInt)]) (h' := gc_h sh I J A) (C := (((True ∧ True) ∧ True) ∧ True)) rfl ⟨⟨⟨trivial, trivial⟩, trivial⟩, trivial⟩ ?_
      exact gv_iret hD rfl ⟨rfl, ⟨_, rfl, by exact gz_m 57 (by omega)⟩⟩
    · show gv_X _ _ (12, [(0, .inr (.inr (some 100))), (1, .inl a1), (2, .inl a2)], [], sh, gc_h sh I J A)
      refine gv_pick [] rfl ?_
      exact L12 
set_option maxHeartbeats 8000000 in
set_option maxRecDepth 100000 in
theorem d_X1_countEndings {ws0 : List Cond} {tb : String → gz_T} (hws : gc_Ws ws0) (htb : gc_tbs tb) (sh : gz_Sh) (ro : Nat → Nat) (I : gr_I) (J : gr_J) (A : gc_A) (hI : gc_Inv ro I) (a1 : Nat) (a2 : Nat) (a3 : Int) (hb : gc_Base sh ro A) (h_a1 : gc_isTongue sh ro A a1) (G_a1 : 144 ≤ a1) (h_a2 : gc_isText sh ro A a2) (G_a2 : a2 + 3 < 39) (ha3 : 1 ≤ a3 ∧ a3 ≤ 4) (x0 : a3 ≤ I a2 1) (x1 : I a2 1 ≤ 24) (x2 : I 100 7 = 0) : ∃ r h', gz_Ev ws0 tb 3 (yX1_countEndings, cX1_countEndings, 6, none) [.inr (.inr (some 100)), .inr (.inr (some a1)), .inr (.inr (some a2)), .inl a3] sh (gc_h sh I J A) r sh h' 0 0 ∧ (∃ (I' : gr_I) (J' : gr_J), h' = gc_h sh I' J' A ∧ gc_Inv ro I' ∧ (∀ q j : Nat, ((q = 100 ∧ j = 7) ∨ q = 103) ∨ I' q j = I q j) ∧ (∀ q j : Nat, (False) ∨ J' q j = J q j) ∧ r = none) := by
  have FI : ∀ q j : Nat, ((q = 100 ∧ j = 7) ∨ q = 103) ∨ I q j = I q j := fun _ _ => Or.inr rfl
  have FJ : ∀ q j : Nat, (False) ∨ J q j = J q j := fun _ _ => Or.inr rfl
  have A_100_6 : A 100 6 = some 103 := gc_bA hb rfl
  have B_100 : 100 < 1000000 := by decide
  have B_103 : 103 < 1000000 := by decide
  have R_100 : ro 100 = 75 := gc_bR hb (by decide) rfl
  have R_103 : ro 103 = 66 := gc_bR hb (by decide) rfl
  have S_100 : sh[100]? = some (false, 1, 19) := gc_bS hb rfl
  have S_103 : sh[103]? = some (true, 1, 24) := gc_bS hb rfl
  obtain ⟨S_a1, R_a1, B_a1, A_a1_0, h_a1_1, A_a1_1, h_a1_3, A_a1_2, S_a1_5, R_a1_5, B_a1_5, A_a1_3, S_a1_6, R_a1_6, B_a1_6, A_a1_4, h_a1_7, A_a1_5, S_a1_9, R_a1_9, B_a1_9, A_a1_7, S_a1_10, R_a1_10, B_a1_10, A_a1_8, h_a1_11, A_a1_9, S_a1_13, R_a1_13, B_a1_13, A_a1_10, S_a1_14, R_a1_14, B_a1_14, A_a1_12, S_a1_15, R_a1_15, B_a1_15, A_a1_14, S_a1_16, R_a1_16, B_a1_16, A_a1_15, h_a1_17⟩ := id h_a1
  obtain ⟨S_a1_1, R_a1_1, B_a1_1, A_a1_1_0, S_a1_1_1, R_a1_1_1, B_a1_1_1, Q0_a1_1, Q1_a1_1, Q2_a1_1⟩ := id h_a1_1
  obtain ⟨S_a1_3, R_a1_3, B_a1_3, A_a1_3_0, S_a1_3_1, R_a1_3_1, B_a1_3_1, Q0_a1_3, Q1_a1_3, Q2_a1_3⟩ := id h_a1_3
  obtain ⟨S_a1_7, R_a1_7, B_a1_7, A_a1_7_0, S_a1_7_1, R_a1_7_1, B_a1_7_1, Q0_a1_7, Q1_a1_7, Q2_a1_7⟩ := id h_a1_7
  obtain ⟨S_a1_11, R_a1_11, B_a1_11, A_a1_11_0, S_a1_11_1, R_a1_11_1, B_a1_11_1, Q0_a1_11, Q1_a1_11, Q2_a1_11⟩ := id h_a1_11
  obtain ⟨S_a1_17, R_a1_17, B_a1_17, A_a1_17_0, S_20, R_20, B_20, A_a1_17_1, S_a1_17_1, R_a1_17_1, B_a1_17_1, A_a1_17_2, S_a1_17_2, R_a1_17_2, B_a1_17_2, A_a1_17_3, S_a1_17_3, R_a1_17_3, B_a1_17_3, A_a1_17_4, S_a1_17_4, R_a1_17_4, B_a1_17_4, A_a1_17_5, S_a1_17_5, R_a1_17_5, B_a1_17_5, S_a1_17_6, R_a1_17_6, B_a1_17_6, S_a1_17_7, R_a1_17_7, B_a1_17_7⟩ := id h_a1_17
  obtain ⟨S_a2, R_a2, B_a2, A_a2_0, S_a2_1, R_a2_1, B_a2_1, A_a2_2, S_a2_2, R_a2_2, B_a2_2, A_a2_3, S_a2_3, R_a2_3, B_a2_3⟩ := id h_a2
  have hD : gv_D (gc_E1 ws0 tb 2 (yX1_countEndings, cX1_countEndings, 6, none) kX1_countEndings) := gq_of oX1_countEndings
  refine gc_ev1 (d := 2) (l := kX1_countEndings) (Po := fun r h' => (∃ (I' : gr_I) (J' : gr_J), h' = gc_h sh I' J' A ∧ gc_Inv ro I' ∧ (∀ q j : Nat, ((q = 100 ∧ j = 7) ∨ q = 103) ∨ I' q j = I q j) ∧ (∀ q j : Nat, (False) ∨ J' q j = J q j) ∧ r = none)) htb rfl (Nat.le_of_ble_eq_true rfl) ?_
  have N_a2__103 : ¬ (a2 = 103) := by exact gz_m 0 (by omega)
  have N_a1__103 : ¬ (a1 = 103) := by exact gz_m 1 (by omega)
  have f1 := (show 0 ≤ I 100 7 ∧ I 100 7 ≤ 1536 from gc_in hI R_100 rfl rfl)
  have f2 := (show 0 ≤ I a2 1 ∧ I a2 1 ≤ 1000 from gc_in hI R_a2 rfl rfl)
  have f3 := (show 0 ≤ I a1 11 ∧ I a1 11 ≤ 64 from gc_in hI R_a1 rfl rfl)
  have L11 : ∀ (n9 : Nat) (I4 : gr_I) (J5 : gr_J) (v4_6 : Int), (65 - v4_6).toNat < n9 → gc_Inv ro I4 → (∀ q j : Nat, ((q = 100 ∧ j = 7) ∨ q = 103) ∨ I4 q j = I q j) → (∀ q j : Nat, (False) ∨ J5 q j = J q j) → ((1 ≤ a3 ∧ a3 ≤ 4) ∧ (0 ≤ v4_6 ∧ v4_6 ≤ 64) ∧ (I4 a2 1 = I a2 1) ∧ (I4 100 7 ≤ 24 * v4_6)) → (gc_rg 103 I4 24 0 (I4 100 7)) → gv_X (gc_E1 ws0 tb 2 (yX1_countEndings, cX1_countEndings, 6, none) kX1_countEndings) (gv_Q cX1_countEndings none sh (fun r h' => (∃ (I' : gr_I) (J' : gr_J), h' = gc_h sh I' J' A ∧ gc_Inv ro I' ∧ (∀ q j : Nat, ((q = 100 ∧ j = 7) ∨ q = 103) ∨ I' q j = I q j) ∧ (∀ q j : Nat, (False) ∨ J' q j = J q j) ∧ r = none))) (11, [(0, .inr (.inr (some 100))), (1, .inr (.inr (some a1))), (2, .inr (.inr (some a2))), (3, .inl a3), (4, .inl v4_6)], [], sh, gc_h sh I4 J5 A) := by
    intro n9
    induction n9 with
    | zero => intro I4 J5 v4_6 hn; exact gz_m 2 (by omega)
    | succ n9 ih11 =>
      intro I4 J5 v4_6 hn hI4 FI4 FJ5 m_6 e0_6
      obtain ⟨ha3_6, hv4_6, e1_6, e2_6⟩ := m_6
      have f7 := (show 0 ≤ I4 100 7 ∧ I4 100 7 ≤ 1536 from gc_in hI4 R_100 rfl rfl)
      have f8 := (show 0 ≤ I4 a2 1 ∧ I4 a2 1 ≤ 1000 from gc_in hI4 R_a2 rfl rfl)
      have f9 := (show 0 ≤ I4 a1 11 ∧ I4 a1 11 ≤ 64 from gc_in hI4 R_a1 rfl rfl)
      have L23 : ∀ (n9 : Nat) (I10 : gr_I) (J11 : gr_J) (v5_12 : Int), (25 - v5_12).toNat < n9 → gc_Inv ro I10 → (∀ q j : Nat, ((q = 100 ∧ j = 7) ∨ q = 103) ∨ I10 q j = I q j) → (∀ q j : Nat, (False) ∨ J11 q j = J q j) → ((1 ≤ a3 ∧ a3 ≤ 4) ∧ (0 ≤ v4_6 ∧ v4_6 ≤ 63) ∧ (0 ≤ v5_12 ∧ v5_12 ≤ 24) ∧ (I10 a2 1 = I a2 1) ∧ (I10 100 7 ≤ 24 * v4_6 + v5_12) ∧ (v4_6 ≤ 63)) → (gc_rg 103 I10 24 0 (I10 100 7)) → gv_X (gc_E1 ws0 tb 2 (yX1_countEndings, cX1_countEndings, 6, none) kX1_countEndings) (gv_Q cX1_countEndings none sh (fun r h' => (∃ (I' : gr_I) (J' : gr_J), h' = gc_h sh I' J' A ∧ gc_Inv ro I' ∧ (∀ q j : Nat, ((q = 100 ∧ j = 7) ∨ q = 103) ∨ I' q j = I q j) ∧ (∀ q j : Nat, (False) ∨ J' q j = J q j) ∧ r = none))) (23, [(0, .inr (.inr (some 100))), (1, .inr (.inr (some a1))), (2, .inr (.inr (some a2))), (3, .inl a3), (4, .inl v4_6), (5, .inl v5_12)], [], sh, gc_h sh I10 J11 A) := by
        intro n9
        induction n9 with
        | zero => intro I10 J11 v5_12 hn; exact gz_m 3 (by omega)
        | succ n9 ih23 =>
          intro I10 J11 v5_12 hn hI10 FI10 FJ11 m_12 e0_12
          clear ha3_6 hv4_6 e1_6 e2_6 f7 f8 f9
          obtain ⟨ha3_12, hv4_6_12, hv5_12, e1_12, e2_12, e3_12⟩ := m_12
          have f13 := (show 0 ≤ I10 100 7 ∧ I10 100 7 ≤ 1536 from gc_in hI10 R_100 rfl rfl)
          have f14 := (show 0 ≤ I10 a2 1 ∧ I10 a2 1 ≤ 1000 from gc_in hI10 R_a2 rfl rfl)
          have f15 := (show 0 ≤ I10 a1 11 ∧ I10 a1 11 ≤ 64 from gc_in hI10 R_a1 rfl rfl)
          have L88 : ∀ (I16 : gr_I) (J17 : gr_J) , gc_Inv ro I16 → (∀ q j : Nat, ((q = 100 ∧ j = 7) ∨ q = 103) ∨ I16 q j = I q j) → (∀ q j : Nat, (False) ∨ J17 q j = J q j) → ((1 ≤ a3 ∧ a3 ≤ 4) ∧ (0 ≤ v4_6 ∧ v4_6 ≤ 63) ∧ (0 ≤ v5_12 ∧ v5_12 ≤ 23) ∧ (I16 a2 1 = I a2 1) ∧ (I16 100 7 ≤ 24 * v4_6 + v5_12 + 1) ∧ (v4_6 ≤ 63) ∧ (v5_12 ≤ 23)) → (gc_rg 103 I16 24 0 (I16 100 7)) → gv_X (gc_E1 ws0 tb 2 (yX1_countEndings, cX1_countEndings, 6, none) kX1_countEndings) (gv_Q cX1_countEndings none sh (fun r h' => (∃ (I' : gr_I) (J' : gr_J), h' = gc_h sh I' J' A ∧ gc_Inv ro I' ∧ (∀ q j : Nat, ((q = 100 ∧ j = 7) ∨ q = 103) ∨ I' q j = I q j) ∧ (∀ q j : Nat, (False) ∨ J' q j = J q j) ∧ r = none))) (88, [(0, .inr (.inr (some 100))), (1, .inr (.inr (some a1))), (2, .inr (.inr (some a2))), (3, .inl a3), (4, .inl v4_6), (5, .inl v5_12)], [], sh, gc_h sh I16 J17 A) := by
            intro I16 J17 hI16 FI16 FJ17 m_18 e0_18
            clear ha3_12 hv4_6_12 hv5_12 e1_12 e2_12 e3_12 f13 f14 f15
            obtain ⟨ha3_18, hv4_6_18, hv5_12_18, e1_18, e2_18, e3_18, e4_18⟩ := m_18
            have f19 := (show 0 ≤ I16 100 7 ∧ I16 100 7 ≤ 1536 from gc_in hI16 R_100 rfl rfl)
            have f20 := (show 0 ≤ I16 a2 1 ∧ I16 a2 1 ≤ 1000 from gc_in hI16 R_a2 rfl rfl)
            have f21 := (show 0 ≤ I16 a1 11 ∧ I16 a1 11 ≤ 64 from gc_in hI16 R_a1 rfl rfl)
            refine gv_run 2 true hD (pc' := 23) (lv' := [(5, .inl (v5_12 + 1)), (0, .inr (.inr (some 100))), (1, .inr (.inr (some a1))), (2, .inr (.inr (some a2))), (3, .inl a3), (4, .inl v4_6)]) (st' := []) (h' := gc_h sh I16 J17 A) (C := ((True ∧ True) ∧ True)) rfl ⟨⟨trivial, trivial⟩, trivial⟩ ?_
            refine gv_pick [1, 2, 3, 4, 5, 0] rfl ?_
            exact ih23 I16 J17 (v5_12 + 1) (by exact gz_m 4 (by omega)) hI16 FI16 FJ17 (by exact gz_m 5 (by omega)) e0_18
          refine gv_run 3 true hD (pc' := 28) (lv' := [(0, .inr (.inr (some 100))), (1, .inr (.inr (some a1))), (2, .inr (.inr (some a2))), (3, .inl a3), (4, .inl v4_6), (5, .inl v5_12)]) (st' := [.inl v4_6, .inr (.inr (some a1)), .inl v5_12]) (h' := gc_h sh I10 J11 A) (C := (((True ∧ True) ∧ True) ∧ True)) rfl ⟨⟨⟨trivial, trivial⟩, trivial⟩, trivial⟩ ?_
          obtain ⟨r22, h22, E22, P22⟩ := d_X11_cellsOf (ws0 := ws0) (tb := tb) hws htb sh ro I10 J11 A hI10 a1 v4_6 h_a1   ⟨by exact gz_m 6 (by omega), by exact gz_m 7 (by omega)⟩  
          obtain ⟨rfl, ⟨z22, rfl, q22⟩⟩ := P22
          refine gv_callV hD rfl (As := [.inl v4_6]) (st := [.inl v5_12]) rfl B_a1 S_a1 rfl (gc_lV1 hws rfl) (Nat.le_of_ble_eq_true rfl) (gz_Ev_mono (d := 2) (by decide) E22) ?_
          show gv_X _ _ (31, [(0, .inr (.inr (some 100))), (1, .inr (.inr (some a1))), (2, .inr (.inr (some a2))), (3, .inl a3), (4, .inl v4_6), (5, .inl v5_12)], [.inl z22, .inl v5_12], sh, gc_h sh I10 J11 A)
          refine gv_icmp_ge (t := 94) hD rfl rfl ⟨⟨by exact gz_m 8 (by omega), by exact gz_m 9 (by omega)⟩, ⟨by exact gz_m 10 (by omega), by exact gz_m 11 (by omega)⟩⟩ (fun c23 => ?_) (fun c23 => ?_)
          · show gv_X _ _ (94, [(0, .inr (.inr (some 100))), (1, .inr (.inr (some a1))), (2, .inr (.inr (some a2))), (3, .inl a3), (4, .inl v4_6), (5, .inl v5_12)], [], sh, gc_h sh I10 J11 A)
            refine gv_run 2 true hD (pc' := 11) (lv' := [(4, .inl (v4_6 + 1)), (0, .inr (.inr (some 100))), (1, .inr (.inr (some a1))), (2, .inr (.inr (some a2))), (3, .inl a3), (5, .inl v5_12)]) (st' := []) (h' := gc_h sh I10 J11 A) (C := ((True ∧ True) ∧ True)) rfl ⟨⟨trivial, trivial⟩, trivial⟩ ?_
            refine gv_pick [1, 2, 3, 4, 0] rfl ?_
            exact ih11 I10 J11 (v4_6 + 1) (by exact gz_m 12 (by omega)) hI10 FI10 FJ11 (by exact gz_m 13 (by omega)) e0_12
          · show gv_X _ _ (34, [(0, .inr (.inr (some 100))), (1, .inr (.inr (some a1))), (2, .inr (.inr (some a2))), (3, .inl a3), (4, .inl v4_6), (5, .inl v5_12)], [], sh, gc_h sh I10 J11 A)
            refine gv_run 1 true hD (pc' := 35) (lv' := [(0, .inr (.inr (some 100))), (1, .inr (.inr (some a1))), (2, .inr (.inr (some a2))), (3, .inl a3), (4, .inl v4_6), (5, .inl v5_12)]) (st' := [.inr (.inr (some a1))]) (h' := gc_h sh I10 J11 A) (C := (True ∧ True)) rfl ⟨trivial, trivial⟩ ?_
            refine gv_get hD rfl rfl S_a1 ⟨by decide, B_a1⟩ (gc_hA S_a1 rfl A_a1_15) ?_
            show gv_X _ _ (38, [(0, .inr (.inr (some 100))), (1, .inr (.inr (some a1))), (2, .inr (.inr (some a2))), (3, .inl a3), (4, .inl v4_6), (5, .inl v5_12)], [.inr (.inr (some (a1 + 17)))], sh, gc_h sh I10 J11 A)
            refine gv_run 6 true hD (pc' := 47) (lv' := [(0, .inr (.inr (some 100))), (1, .inr (.inr (some a1))), (2, .inr (.inr (some a2))), (3, .inl a3), (4, .inl v4_6), (5, .inl v5_12)]) (st' := [.inr (.inr (some a2)), .inl ((v4_6 * 24) + v5_12), .inr (.inr (some (a1 + 17)))]) (h' := gc_h sh I10 J11 A) (C := ((((((True ∧ True) ∧ True) ∧ True) ∧ True) ∧ True) ∧ True)) rfl ⟨⟨⟨⟨⟨⟨trivial, trivial⟩, trivial⟩, trivial⟩, trivial⟩, trivial⟩, trivial⟩ ?_
            refine gv_get hD rfl rfl S_a2 ⟨by decide, B_a2⟩ (gc_hA S_a2 rfl A_a2_0) ?_
            show gv_X _ _ (50, [(0, .inr (.inr (some 100))), (1, .inr (.inr (some a1))), (2, .inr (.inr (some a2))), (3, .inl a3), (4, .inl v4_6), (5, .inl v5_12)], [.inr (.inr (some (a2 + 1))), .inl ((v4_6 * 24) + v5_12), .inr (.inr (some (a1 + 17)))], sh, gc_h sh I10 J11 A)
            refine gv_run 1 true hD (pc' := 51) (lv' := [(0, .inr (.inr (some 100))), (1, .inr (.inr (some a1))), (2, .inr (.inr (some a2))), (3, .inl a3), (4, .inl v4_6), (5, .inl v5_12)]) (st' := [.inr (.inr (some a2)), .inr (.inr (some (a2 + 1))), .inl ((v4_6 * 24) + v5_12), .inr (.inr (some (a1 + 17)))]) (h' := gc_h sh I10 J11 A) (C := (True ∧ True)) rfl ⟨trivial, trivial⟩ ?_
            have f24 := (show 0 ≤ I10 a2 1 ∧ I10 a2 1 ≤ 1000 from gc_in hI10 R_a2 rfl rfl)
            refine gv_get hD rfl rfl S_a2 ⟨by decide, B_a2⟩ (gc_hI S_a2 rfl) ?_
            show gv_X _ _ (54, [(0, .inr (.inr (some 100))), (1, .inr (.inr (some a1))), (2, .inr (.inr (some a2))), (3, .inl a3), (4, .inl v4_6), (5, .inl v5_12)], [.inl (I10 a2 1), .inr (.inr (some (a2 + 1))), .inl ((v4_6 * 24) + v5_12), .inr (.inr (some (a1 + 17)))], sh, gc_h sh I10 J11 A)
            refine gv_run 3 true hD (pc' := 57) (lv' := [(0, .inr (.inr (some 100))), (1, .inr (.inr (some a1))), (2, .inr (.inr (some a2))), (3, .inl a3), (4, .inl v4_6), (5, .inl v5_12)]) (st' := [.inl a3, .inl ((I10 a2 1) - a3), .inr (.inr (some (a2 + 1))), .inl ((v4_6 * 24) + v5_12), .inr (.inr (some (a1 + 17)))]) (h' := gc_h sh I10 J11 A) (C := (((True ∧ True) ∧ True) ∧ True)) rfl ⟨⟨⟨trivial, trivial⟩, trivial⟩, trivial⟩ ?_
            obtain ⟨r25, h25, E25, P25⟩ := d_X2_endsWith (ws0 := ws0) (tb := tb) hws htb sh ro I10 J11 A hI10 (a1 + 17) 1000 (((v4_6 * 24) + v5_12)) (a2 + 1) (((I10 a2 1) - a3)) a3 h_a1_17 S_a2_1 R_a2_1 B_a2_1 (by decide)  ⟨by exact gz_m 14 (by omega), by exact gz_m 15 (by omega)⟩ ⟨by exact gz_m 16 (by omega), by exact gz_m 17 (by omega)⟩ ⟨by exact gz_m 18 (by omega), by exact gz_m 19 (by omega)⟩ (by exact gz_m 20 (by omega)) 
            obtain ⟨rfl, ⟨z25, rfl, q25⟩⟩ := P25
            refine gv_callV hD rfl (As := [.inl ((v4_6 * 24) + v5_12), .inr (.inr (some (a2 + 1))), .inl ((I10 a2 1) - a3), .inl a3]) (st := []) rfl B_a1_17 S_a1_17 rfl (gc_lV1 hws rfl) (Nat.le_of_ble_eq_true rfl) (gz_Ev_mono (d := 1) (by decide) E25) ?_
            show gv_X _ _ (60, [(0, .inr (.inr (some 100))), (1, .inr (.inr (some a1))), (2, .inr (.inr (some a2))), (3, .inl a3), (4, .inl v4_6), (5, .inl v5_12)], [.inl z25], sh, gc_h sh I10 J11 A)
            refine gv_if_eq (t := 88) hD rfl rfl ⟨by exact gz_m 21 (by omega), by exact gz_m 22 (by omega)⟩ (fun c26 => ?_) (fun c26 => ?_)
            · show gv_X _ _ (88, [(0, .inr (.inr (some 100))), (1, .inr (.inr (some a1))), (2, .inr (.inr (some a2))), (3, .inl a3), (4, .inl v4_6), (5, .inl v5_12)], [], sh, gc_h sh I10 J11 A)
              exact L88 I10 J11 hI10 FI10 FJ11 (by exact gz_m 23 (by omega)) e0_12
            · show gv_X _ _ (63, [(0, .inr (.inr (some 100))), (1, .inr (.inr (some a1))), (2, .inr (.inr (some a2))), (3, .inl a3), (4, .inl v4_6), (5, .inl v5_12)], [], sh, gc_h sh I10 J11 A)
              refine gv_run 1 true hD (pc' := 64) (lv' := [(0, .inr (.inr (some 100))), (1, .inr (.inr (some a1))), (2, .inr (.inr (some a2))), (3, .inl a3), (4, .inl v4_6), (5, .inl v5_12)]) (st' := [.inr (.inr (some 100))]) (h' := gc_h sh I10 J11 A) (C := (True ∧ True)) rfl ⟨trivial, trivial⟩ ?_
              refine gv_get hD rfl rfl S_100 ⟨by decide, B_100⟩ (gc_hA S_100 rfl A_100_6) ?_
              show gv_X _ _ (67, [(0, .inr (.inr (some 100))), (1, .inr (.inr (some a1))), (2, .inr (.inr (some a2))), (3, .inl a3), (4, .inl v4_6), (5, .inl v5_12)], [.inr (.inr (some 103))], sh, gc_h sh I10 J11 A)
              refine gv_run 2 true hD (pc' := 70) (lv' := [(0, .inr (.inr (some 100))), (1, .inr (.inr (some a1))), (2, .inr (.inr (some a2))), (3, .inl a3), (4, .inl v4_6), (5, .inl v5_12)]) (st' := [.inl v4_6, .inr (.inr (some a1)), .inr (.inr (some 103))]) (h' := gc_h sh I10 J11 A) (C := ((True ∧ True) ∧ True)) rfl ⟨⟨trivial, trivial⟩, trivial⟩ ?_
              obtain ⟨r27, h27, E27, P27⟩ := d_X11_wordPattern (ws0 := ws0) (tb := tb) hws htb sh ro I10 J11 A hI10 a1 v4_6 h_a1   ⟨by exact gz_m 24 (by omega), by exact gz_m 25 (by omega)⟩  
              obtain ⟨rfl, ⟨z27, rfl, q27⟩⟩ := P27
              refine gv_callV hD rfl (As := [.inl v4_6]) (st := [.inr (.inr (some 103))]) rfl B_a1 S_a1 rfl (gc_lV1 hws rfl) (Nat.le_of_ble_eq_true rfl) (gz_Ev_mono (d := 1) (by decide) E27) ?_
              show gv_X _ _ (73, [(0, .inr (.inr (some 100))), (1, .inr (.inr (some a1))), (2, .inr (.inr (some a2))), (3, .inl a3), (4, .inl v4_6), (5, .inl v5_12)], [.inl z27, .inr (.inr (some 103))], sh, gc_h sh I10 J11 A)
              refine gv_run 1 true hD (pc' := 74) (lv' := [(0, .inr (.inr (some 100))), (1, .inr (.inr (some a1))), (2, .inr (.inr (some a2))), (3, .inl a3), (4, .inl v4_6), (5, .inl v5_12)]) (st' := [.inl z27, .inr (.inr (some 103)), .inl z27, .inr (.inr (some 103))]) (h' := gc_h sh I10 J11 A) (C := (True ∧ True)) rfl ⟨trivial, trivial⟩ ?_
              have t28 := e0_12 z27 (by exact gz_m 26 (by omega)) (by exact gz_m 27 (by omega))
              have f29 := (show 0 ≤ I10 103 (Int.toNat z27) ∧ I10 103 (Int.toNat z27) ≤ 1536 from gc_in hI10 R_103 rfl rfl)
              refine gv_iald hD rfl S_103 rfl ⟨by decide, B_103⟩ ⟨by exact gz_m 28 (by omega), by exact gz_m 29 (by omega)⟩ (gc_iI S_103 rfl) ?_
              show gv_X _ _ (75, [(0, .inr (.inr (some 100))), (1, .inr (.inr (some a1))), (2, .inr (.inr (some a2))), (3, .inl a3), (4, .inl v4_6), (5, .inl v5_12)], [.inl (I10 103 (Int.toNat z27)), .inl z27, .inr (.inr (some 103))], sh, gc_h sh I10 J11 A)
              refine gv_run 2 true hD (pc' := 77) (lv' := [(0, .inr (.inr (some 100))), (1, .inr (.inr (some a1))), (2, .inr (.inr (some a2))), (3, .inl a3), (4, .inl v4_6), (5, .inl v5_12)]) (st' := [.inl ((I10 103 (Int.toNat z27)) + 1), .inl z27, .inr (.inr (some 103))]) (h' := gc_h sh I10 J11 A) (C := ((True ∧ True) ∧ True)) rfl ⟨⟨trivial, trivial⟩, trivial⟩ ?_
              refine gv_iast hD rfl S_103 ⟨by decide, B_103⟩ ⟨by exact gz_m 30 (by omega), by exact gz_m 31 (by omega)⟩ ?_
              refine gc_st hI10 S_103 rfl R_103 (lo := 0) (hi := 1536) rfl rfl (by exact gz_m 32 (by omega)) (by exact gz_m 33 (by omega)) (fun I30 hI30 q31 p31 => ?_)
              have FI30 := gc_frs (W := fun q j => (q = 100 ∧ j = 7) ∨ q = 103) FI10 (Or.inr rfl) p31
              have t32 := p31 100 7 (fun h => absurd h.1 (by decide))
              have t33 := p31 a2 1 (fun h => absurd h.1 N_a2__103)
              have t34 := p31 a1 11 (fun h => absurd h.1 N_a1__103)
              show gv_X _ _ (78, [(0, .inr (.inr (some 100))), (1, .inr (.inr (some a1))), (2, .inr (.inr (some a2))), (3, .inl a3), (4, .inl v4_6), (5, .inl v5_12)], [], sh, gc_h sh I30 J11 A)
              refine gv_run 2 true hD (pc' := 80) (lv' := [(0, .inr (.inr (some 100))), (1, .inr (.inr (some a1))), (2, .inr (.inr (some a2))), (3, .inl a3), (4, .inl v4_6), (5, .inl v5_12)]) (st' := [.inr (.inr (some 100)), .inr (.inr (some 100))]) (h' := gc_h sh I30 J11 A) (C := ((True ∧ True) ∧ True)) rfl ⟨⟨trivial, trivial⟩, trivial⟩ ?_
              have f35 := (show 0 ≤ I30 100 7 ∧ I30 100 7 ≤ 1536 from gc_in hI30 R_100 rfl rfl)
              refine gv_get hD rfl rfl S_100 ⟨by decide, B_100⟩ (gc_hI S_100 rfl) ?_
              show gv_X _ _ (83, [(0, .inr (.inr (some 100))), (1, .inr (.inr (some a1))), (2, .inr (.inr (some a2))), (3, .inl a3), (4, .inl v4_6), (5, .inl v5_12)], [.inl (I30 100 7), .inr (.inr (some 100))], sh, gc_h sh I30 J11 A)
              refine gv_run 2 true hD (pc' := 85) (lv' := [(0, .inr (.inr (some 100))), (1, .inr (.inr (some a1))), (2, .inr (.inr (some a2))), (3, .inl a3), (4, .inl v4_6), (5, .inl v5_12)]) (st' := [.inl ((I30 100 7) + 1), .inr (.inr (some 100))]) (h' := gc_h sh I30 J11 A) (C := ((True ∧ True) ∧ True)) rfl ⟨⟨trivial, trivial⟩, trivial⟩ ?_
              refine gv_put hD rfl rfl S_100 ⟨by decide, B_100⟩ rfl trivial ?_
              refine gc_st (k := 7) hI30 S_100 rfl R_100 (lo := 0) (hi := 1536) rfl rfl (by exact gz_m 34 (by omega)) (by exact gz_m 35 (by omega)) (fun I36 hI36 q37 p37 => ?_)
              have FI36 := gc_frs (W := fun q j => (q = 100 ∧ j = 7) ∨ q = 103) FI30 (Or.inl ⟨rfl, rfl⟩) p37
              have t38 := p37 a2 1 (fun h => absurd h.2 (by decide))
              have t39 := p37 a1 11 (fun h => absurd h.2 (by decide))
              have f40 := (show 0 ≤ I36 100 7 ∧ I36 100 7 ≤ 1536 from gc_in hI36 R_100 rfl rfl)
              show gv_X _ _ (88, [(0, .inr (.inr (some 100))), (1, .inr (.inr (some a1))), (2, .inr (.inr (some a2))), (3, .inl a3), (4, .inl v4_6), (5, .inl v5_12)], [], sh, gc_h sh I36 J11 A)
              exact L88 I36 J11 hI36 FI36 FJ11 (by exact gz_m 36 (by omega)) (gc_rg_fr (gc_rg_set (hi' := I36 100 7) e0_12 p31 (by exact gz_m 37 (by omega)) (by exact gz_m 38 (by omega))) (fun k => p37 103 k (fun h => absurd h.1 (by exact gz_m 39 (by omega)))))
      refine gv_run 2 true hD (pc' := 14) (lv' := [(0, .inr (.inr (some 100))), (1, .inr (.inr (some a1))), (2, .inr (.inr (some a2))), (3, .inl a3), (4, .inl v4_6)]) (st' := [.inr (.inr (some a1)), .inl v4_6]) (h' := gc_h sh I4 J5 A) (C := ((True ∧ True) ∧ True)) rfl ⟨⟨trivial, trivial⟩, trivial⟩ ?_
      have f41 := (show 0 ≤ I4 a1 11 ∧ I4 a1 11 ≤ 64 from gc_in hI4 R_a1 rfl rfl)
      refine gv_get hD rfl rfl S_a1 ⟨by decide, B_a1⟩ (gc_hI S_a1 rfl) ?_
      show gv_X _ _ (17, [(0, .inr (.inr (some 100))), (1, .inr (.inr (some a1))), (2, .inr (.inr (some a2))), (3, .inl a3), (4, .inl v4_6)], [.inl (I4 a1 11), .inl v4_6], sh, gc_h sh I4 J5 A)
      refine gv_icmp_ge (t := 100) hD rfl rfl ⟨⟨by exact gz_m 40 (by omega), by exact gz_m 41 (by omega)⟩, ⟨by exact gz_m 42 (by omega), by exact gz_m 43 (by omega)⟩⟩ (fun c42 => ?_) (fun c42 => ?_)
      · show gv_X _ _ (100, [(0, .inr (.inr (some 100))), (1, .inr (.inr (some a1))), (2, .inr (.inr (some a2))), (3, .inl a3), (4, .inl v4_6)], [], sh, gc_h sh I4 J5 A)
        exact gv_vret hD rfl ⟨I4, J5, rfl, hI4, FI4, FJ5, rfl⟩
      · show gv_X _ _ (20, [(0, .inr (.inr (some 100))), (1, .inr (.inr (some a1))), (2, .inr (.inr (some a2))), (3, .inl a3), (4, .inl v4_6)], [], sh, gc_h sh I4 J5 A)
        refine gv_run 2 true hD (pc' := 23) (lv' := [(5, .inl 0), (0, .inr (.inr (some 100))), (1, .inr (.inr (some a1))), (2, .inr (.inr (some a2))), (3, .inl a3), (4, .inl v4_6)]) (st' := []) (h' := gc_h sh I4 J5 A) (C := ((True ∧ True) ∧ True)) rfl ⟨⟨trivial, trivial⟩, trivial⟩ ?_
        refine gv_pick [1, 2, 3, 4, 5, 0] rfl ?_
        exact L23 _ I4 J5 0 (Nat.lt_succ_self _) hI4 FI4 FJ5 (by exact gz_m 44 (by omega)) e0_6
  refine gv_run 1 true hD (pc' := 1) (lv' := [(0, .inr (.inr (some 100))), (1, .inr (.inr (some a1))), (2, .inr (.inr (some a2))), (3, .inl a3)]) (st' := [.inr (.inr (some 100))]) (h' := gc_h sh I J A) (C := (True ∧ True)) rfl ⟨trivial, trivial⟩ ?_
  refine gv_get hD rfl rfl S_100 ⟨by decide, B_100⟩ (gc_hA S_100 rfl A_100_6) ?_
  show gv_X _ _ (4, [(0, .inr (.inr (some 100))), (1, .inr (.inr (some a1))), (2, .inr (.inr (some a2))), (3, .inl a3)], [.inr (.inr (some 103))], sh, gc_h sh I J A)
  refine gv_run 1 true hD (pc' := 5) (lv' := [(0, .inr (.inr (some 100))), (1, .inr (.inr (some a1))), (2, .inr (.inr (some a2))), (3, .inl a3)]) (st' := [.inl 0, .inr (.inr (some 103))]) (h' := gc_h sh I J A) (C := (True ∧ True)) rfl ⟨trivial, trivial⟩ ?_
  obtain ⟨I44, E43, hI44, g43, q43⟩ := gj_fill (ws0 := ws0) (tb := tb) sh ro I J A hI 103 24 0 S_103 B_103 (by decide) ⟨by exact gz_m 45 (by omega), by exact gz_m 46 (by omega)⟩ (fun k => by rw [R_103]; exact ⟨by show 0 ≤ _; exact gz_m 47 (by omega), by show _ ≤ 1536; exact gz_m 48 (by omega)⟩)
  refine gv_callS hD rfl (As := [.inr (.inr (some 103)), .inl 0]) (st := []) rfl (gc_lS1 hws rfl) (Nat.le_of_ble_eq_true rfl) (gz_Ev_mono (d := 1) (by decide) E43) ?_
  have FI44 := gc_frc (W := fun q j => (q = 100 ∧ j = 7) ∨ q = 103) (V := fun q j => q = 103) FI (fun q j h => (Or.inr h)) g43
  have t46 := (g43 100 7).resolve_left (fun h => absurd h (by decide))
  have t47 := (g43 a2 1).resolve_left (fun h => absurd h N_a2__103)
  have t48 := (g43 a1 11).resolve_left (fun h => absurd h N_a1__103)
  have f49 := (show 0 ≤ I44 100 7 ∧ I44 100 7 ≤ 1536 from gc_in hI44 R_100 rfl rfl)
  have f50 := (show 0 ≤ I44 a2 1 ∧ I44 a2 1 ≤ 1000 from gc_in hI44 R_a2 rfl rfl)
  have f51 := (show 0 ≤ I44 a1 11 ∧ I44 a1 11 ≤ 64 from gc_in hI44 R_a1 rfl rfl)
  show gv_X _ _ (8, [(0, .inr (.inr (some 100))), (1, .inr (.inr (some a1))), (2, .inr (.inr (some a2))), (3, .inl a3)], [], sh, gc_h sh I44 J A)
  refine gv_run 2 true hD (pc' := 11) (lv' := [(4, .inl 0), (0, .inr (.inr (some 100))), (1, .inr (.inr (some a1))), (2, .inr (.inr (some a2))), (3, .inl a3)]) (st' := []) (h' := gc_h sh I44 J A) (C := ((True ∧ True) ∧ True)) rfl ⟨⟨trivial, trivial⟩, trivial⟩ ?_
  refine gv_pick [1, 2, 3, 4, 0] rfl ?_
  exact L11 _ I44 J 0 (Nat.lt_succ_self _) hI44 FI44 FJ (by exact gz_m 49 (by omega)) (gc_rg_fill (m := 24) q43 (by exact gz_m 50 (by omega)))
set_option maxHeartbeats 8000000 in
set_option maxRecDepth 100000 in
theorem d_X1_noteGuesses {ws0 : List Cond} {tb : String → gz_T} (hws : gc_Ws ws0) (htb : gc_tbs tb) (sh : gz_Sh) (ro : Nat → Nat) (I : gr_I) (J : gr_J) (A : gc_A) (hI : gc_Inv ro I) (a1 : Nat) (a2 : Nat) (hb : gc_Base sh ro A) (h_a1 : gc_isTongue sh ro A a1) (G_a1 : 144 ≤ a1) (h_a2 : gc_isText sh ro A a2) (G_a2 : a2 + 3 < 39)   : ∃ r h', gz_Ev ws0 tb 4 (yX1_noteGuesses, cX1_noteGuesses, 4, (some .int)) [.inr (.inr (some 100)), .inr (.inr (some a1)), .inr (.inr (some a2))] sh (gc_h sh I J A) r sh h' 0 0 ∧ (∃ (I' : gr_I) (J' : gr_J), h' = gc_h sh I' J' A ∧ gc_Inv ro I' ∧ (∀ q j : Nat, ((q = 100 ∧ j = 4) ∨ (q = 100 ∧ j = 7) ∨ (q = 100 ∧ j = 8) ∨ q = 102 ∨ q = 103) ∨ I' q j = I q j) ∧ (∀ q j : Nat, (False) ∨ J' q j = J q j) ∧ (∃ z : Int, r = some (.inl z) ∧ (-3) ≤ z ∧ z ≤ 24)) := by
  have FI : ∀ q j : Nat, ((q = 100 ∧ j = 4) ∨ (q = 100 ∧ j = 7) ∨ (q = 100 ∧ j = 8) ∨ q = 102 ∨ q = 103) ∨ I q j = I q j := fun _ _ => Or.inr rfl
  have FJ : ∀ q j : Nat, (False) ∨ J q j = J q j := fun _ _ => Or.inr rfl
  have A_100_5 : A 100 5 = some 102 := gc_bA hb rfl
  have A_100_6 : A 100 6 = some 103 := gc_bA hb rfl
  have B_100 : 100 < 1000000 := by decide
  have B_102 : 102 < 1000000 := by decide
  have B_103 : 103 < 1000000 := by decide
  have R_100 : ro 100 = 75 := gc_bR hb (by decide) rfl
  have R_102 : ro 102 = 65 := gc_bR hb (by decide) rfl
  have R_103 : ro 103 = 66 := gc_bR hb (by decide) rfl
  have S_100 : sh[100]? = some (false, 1, 19) := gc_bS hb rfl
  have S_102 : sh[102]? = some (true, 1, 24) := gc_bS hb rfl
  have S_103 : sh[103]? = some (true, 1, 24) := gc_bS hb rfl
  obtain ⟨S_a1, R_a1, B_a1, A_a1_0, h_a1_1, A_a1_1, h_a1_3, A_a1_2, S_a1_5, R_a1_5, B_a1_5, A_a1_3, S_a1_6, R_a1_6, B_a1_6, A_a1_4, h_a1_7, A_a1_5, S_a1_9, R_a1_9, B_a1_9, A_a1_7, S_a1_10, R_a1_10, B_a1_10, A_a1_8, h_a1_11, A_a1_9, S_a1_13, R_a1_13, B_a1_13, A_a1_10, S_a1_14, R_a1_14, B_a1_14, A_a1_12, S_a1_15, R_a1_15, B_a1_15, A_a1_14, S_a1_16, R_a1_16, B_a1_16, A_a1_15, h_a1_17⟩ := id h_a1
  obtain ⟨S_a1_1, R_a1_1, B_a1_1, A_a1_1_0, S_a1_1_1, R_a1_1_1, B_a1_1_1, Q0_a1_1, Q1_a1_1, Q2_a1_1⟩ := id h_a1_1
  obtain ⟨S_a1_3, R_a1_3, B_a1_3, A_a1_3_0, S_a1_3_1, R_a1_3_1, B_a1_3_1, Q0_a1_3, Q1_a1_3, Q2_a1_3⟩ := id h_a1_3
  obtain ⟨S_a1_7, R_a1_7, B_a1_7, A_a1_7_0, S_a1_7_1, R_a1_7_1, B_a1_7_1, Q0_a1_7, Q1_a1_7, Q2_a1_7⟩ := id h_a1_7
  obtain ⟨S_a1_11, R_a1_11, B_a1_11, A_a1_11_0, S_a1_11_1, R_a1_11_1, B_a1_11_1, Q0_a1_11, Q1_a1_11, Q2_a1_11⟩ := id h_a1_11
  obtain ⟨S_a1_17, R_a1_17, B_a1_17, A_a1_17_0, S_20, R_20, B_20, A_a1_17_1, S_a1_17_1, R_a1_17_1, B_a1_17_1, A_a1_17_2, S_a1_17_2, R_a1_17_2, B_a1_17_2, A_a1_17_3, S_a1_17_3, R_a1_17_3, B_a1_17_3, A_a1_17_4, S_a1_17_4, R_a1_17_4, B_a1_17_4, A_a1_17_5, S_a1_17_5, R_a1_17_5, B_a1_17_5, S_a1_17_6, R_a1_17_6, B_a1_17_6, S_a1_17_7, R_a1_17_7, B_a1_17_7⟩ := id h_a1_17
  obtain ⟨S_a2, R_a2, B_a2, A_a2_0, S_a2_1, R_a2_1, B_a2_1, A_a2_2, S_a2_2, R_a2_2, B_a2_2, A_a2_3, S_a2_3, R_a2_3, B_a2_3⟩ := id h_a2
  have hD : gv_D (gc_E1 ws0 tb 3 (yX1_noteGuesses, cX1_noteGuesses, 4, (some .int)) kX1_noteGuesses) := gq_of oX1_noteGuesses
  refine gc_ev1 (d := 3) (l := kX1_noteGuesses) (Po := fun r h' => (∃ (I' : gr_I) (J' : gr_J), h' = gc_h sh I' J' A ∧ gc_Inv ro I' ∧ (∀ q j : Nat, ((q = 100 ∧ j = 4) ∨ (q = 100 ∧ j = 7) ∨ (q = 100 ∧ j = 8) ∨ q = 102 ∨ q = 103) ∨ I' q j = I q j) ∧ (∀ q j : Nat, (False) ∨ J' q j = J q j) ∧ (∃ z : Int, r = some (.inl z) ∧ (-3) ≤ z ∧ z ≤ 24))) htb rfl (Nat.le_of_ble_eq_true rfl) ?_
  have N_a2__102 : ¬ (a2 = 102) := by exact gz_m 0 (by omega)
  have N_a1_11__102 : ¬ ((a1 + 11) = 102) := by exact gz_m 1 (by omega)
  have N_a2__103 : ¬ (a2 = 103) := by exact gz_m 2 (by omega)
  have N_a1_11__103 : ¬ ((a1 + 11) = 103) := by exact gz_m 3 (by omega)
  have f1 := (show 0 ≤ I 100 4 ∧ I 100 4 ≤ 24 from gc_in hI R_100 rfl rfl)
  have f2 := (show 0 ≤ I 100 7 ∧ I 100 7 ≤ 1536 from gc_in hI R_100 rfl rfl)
  have f3 := (show 0 ≤ I a2 1 ∧ I a2 1 ≤ 1000 from gc_in hI R_a2 rfl rfl)
  have f4 := (show 0 ≤ I (a1 + 11) 1 ∧ I (a1 + 11) 1 ≤ 24 from gc_in hI R_a1_11 rfl rfl)
  have L29 : ∀ (n9 : Nat) (I5 : gr_I) (J6 : gr_J) (v3_7 : Int), (v3_7 - (-1)).toNat < n9 → gc_Inv ro I5 → (∀ q j : Nat, ((q = 100 ∧ j = 4) ∨ (q = 100 ∧ j = 7) ∨ (q = 100 ∧ j = 8) ∨ q = 102 ∨ q = 103) ∨ I5 q j = I q j) → (∀ q j : Nat, (False) ∨ J6 q j = J q j) → ((0 ≤ v3_7 ∧ v3_7 ≤ 4) ∧ (v3_7 ≤ I5 a2 1) ∧ (I5 a2 1 ≤ 24) ∧ (I5 100 4 = 0)) → gv_X (gc_E1 ws0 tb 3 (yX1_noteGuesses, cX1_noteGuesses, 4, (some .int)) kX1_noteGuesses) (gv_Q cX1_noteGuesses (some .int) sh (fun r h' => (∃ (I' : gr_I) (J' : gr_J), h' = gc_h sh I' J' A ∧ gc_Inv ro I' ∧ (∀ q j : Nat, ((q = 100 ∧ j = 4) ∨ (q = 100 ∧ j = 7) ∨ (q = 100 ∧ j = 8) ∨ q = 102 ∨ q = 103) ∨ I' q j = I q j) ∧ (∀ q j : Nat, (False) ∨ J' q j = J q j) ∧ (∃ z : Int, r = some (.inl z) ∧ (-3) ≤ z ∧ z ≤ 24)))) (29, [(0, .inr (.inr (some 100))), (1, .inr (.inr (some a1))), (2, .inr (.inr (some a2))), (3, .inl v3_7)], [], sh, gc_h sh I5 J6 A) := by
    intro n9
    induction n9 with
    | zero => intro I5 J6 v3_7 hn; exact gz_m 4 (by omega)
    | succ n9 ih29 =>
      intro I5 J6 v3_7 hn hI5 FI5 FJ6 m_7
      obtain ⟨hv3_7, e0_7, e1_7, e2_7⟩ := m_7
      have f8 := (show 0 ≤ I5 100 4 ∧ I5 100 4 ≤ 24 from gc_in hI5 R_100 rfl rfl)
      have f9 := (show 0 ≤ I5 100 7 ∧ I5 100 7 ≤ 1536 from gc_in hI5 R_100 rfl rfl)
      have f10 := (show 0 ≤ I5 a2 1 ∧ I5 a2 1 ≤ 1000 from gc_in hI5 R_a2 rfl rfl)
      have f11 := (show 0 ≤ I5 (a1 + 11) 1 ∧ I5 (a1 + 11) 1 ≤ 24 from gc_in hI5 R_a1_11 rfl rfl)
      have L58 : ((I5 100 4 = 0)) → gv_X (gc_E1 ws0 tb 3 (yX1_noteGuesses, cX1_noteGuesses, 4, (some .int)) kX1_noteGuesses) (gv_Q cX1_noteGuesses (some .int) sh (fun r h' => (∃ (I' : gr_I) (J' : gr_J), h' = gc_h sh I' J' A ∧ gc_Inv ro I' ∧ (∀ q j : Nat, ((q = 100 ∧ j = 4) ∨ (q = 100 ∧ j = 7) ∨ (q = 100 ∧ j = 8) ∨ q = 102 ∨ q = 103) ∨ I' q j = I q j) ∧ (∀ q j : Nat, (False) ∨ J' q j = J q j) ∧ (∃ z : Int, r = some (.inl z) ∧ (-3) ≤ z ∧ z ≤ 24)))) (58, [(0, .inr (.inr (some 100))), (1, .inr (.inr (some a1)))], [], sh, gc_h sh I5 J6 A) := by
        intro m_12
        have e0_12 := m_12
        have f13 := (show 0 ≤ I5 100 4 ∧ I5 100 4 ≤ 24 from gc_in hI5 R_100 rfl rfl)
        have f14 := (show 0 ≤ I5 100 7 ∧ I5 100 7 ≤ 1536 from gc_in hI5 R_100 rfl rfl)
        have f15 := (show 0 ≤ I5 a2 1 ∧ I5 a2 1 ≤ 1000 from gc_in hI5 R_a2 rfl rfl)
        have f16 := (show 0 ≤ I5 (a1 + 11) 1 ∧ I5 (a1 + 11) 1 ≤ 24 from gc_in hI5 R_a1_11 rfl rfl)
        have L60 : ∀ (n9 : Nat) (I17 : gr_I) (J18 : gr_J) (v3_19 : Int), (25 - v3_19).toNat < n9 → gc_Inv ro I17 → (∀ q j : Nat, ((q = 100 ∧ j = 4) ∨ (q = 100 ∧ j = 7) ∨ (q = 100 ∧ j = 8) ∨ q = 102 ∨ q = 103) ∨ I17 q j = I q j) → (∀ q j : Nat, (False) ∨ J18 q j = J q j) → ((0 ≤ v3_19 ∧ v3_19 ≤ 24) ∧ (I17 100 4 ≤ v3_19)) → gv_X (gc_E1 ws0 tb 3 (yX1_noteGuesses, cX1_noteGuesses, 4, (some .int)) kX1_noteGuesses) (gv_Q cX1_noteGuesses (some .int) sh (fun r h' => (∃ (I' : gr_I) (J' : gr_J), h' = gc_h sh I' J' A ∧ gc_Inv ro I' ∧ (∀ q j : Nat, ((q = 100 ∧ j = 4) ∨ (q = 100 ∧ j = 7) ∨ (q = 100 ∧ j = 8) ∨ q = 102 ∨ q = 103) ∨ I' q j = I q j) ∧ (∀ q j : Nat, (False) ∨ J' q j = J q j) ∧ (∃ z : Int, r = some (.inl z) ∧ (-3) ≤ z ∧ z ≤ 24)))) (60, [(0, .inr (.inr (some 100))), (1, .inr (.inr (some a1))), (3, .inl v3_19)], [], sh, gc_h sh I17 J18 A) := by
          intro n9
          induction n9 with
          | zero => intro I17 J18 v3_19 hn; exact gz_m 5 (by omega)
          | succ n9 ih60 =>
            intro I17 J18 v3_19 hn hI17 FI17 FJ18 m_19
            clear e0_12 f13 f14 f15 f16 hv3_7 e0_7 e1_7 e2_7 f8 f9 f10 f11
            obtain ⟨hv3_19, e0_19⟩ := m_19
            have f20 := (show 0 ≤ I17 100 4 ∧ I17 100 4 ≤ 24 from gc_in hI17 R_100 rfl rfl)
            have f21 := (show 0 ≤ I17 100 7 ∧ I17 100 7 ≤ 1536 from gc_in hI17 R_100 rfl rfl)
            have f22 := (show 0 ≤ I17 a2 1 ∧ I17 a2 1 ≤ 1000 from gc_in hI17 R_a2 rfl rfl)
            have f23 := (show 0 ≤ I17 (a1 + 11) 1 ∧ I17 (a1 + 11) 1 ≤ 24 from gc_in hI17 R_a1_11 rfl rfl)
            have L122 : ∀ (I24 : gr_I) (J25 : gr_J) , gc_Inv ro I24 → (∀ q j : Nat, ((q = 100 ∧ j = 4) ∨ (q = 100 ∧ j = 7) ∨ (q = 100 ∧ j = 8) ∨ q = 102 ∨ q = 103) ∨ I24 q j = I q j) → (∀ q j : Nat, (False) ∨ J25 q j = J q j) → ((0 ≤ v3_19 ∧ v3_19 ≤ 24) ∧ (I24 100 4 ≤ v3_19 + 1) ∧ (v3_19 ≤ 23)) → gv_X (gc_E1 ws0 tb 3 (yX1_noteGuesses, cX1_noteGuesses, 4, (some .int)) kX1_noteGuesses) (gv_Q cX1_noteGuesses (some .int) sh (fun r h' => (∃ (I' : gr_I) (J' : gr_J), h' = gc_h sh I' J' A ∧ gc_Inv ro I' ∧ (∀ q j : Nat, ((q = 100 ∧ j = 4) ∨ (q = 100 ∧ j = 7) ∨ (q = 100 ∧ j = 8) ∨ q = 102 ∨ q = 103) ∨ I' q j = I q j) ∧ (∀ q j : Nat, (False) ∨ J' q j = J q j) ∧ (∃ z : Int, r = some (.inl z) ∧ (-3) ≤ z ∧ z ≤ 24)))) (122, [(0, .inr (.inr (some 100))), (1, .inr (.inr (some a1))), (3, .inl v3_19)], [], sh, gc_h sh I24 J25 A) := by
              intro I24 J25 hI24 FI24 FJ25 m_26
              clear hv3_19 e0_19 f20 f21 f22 f23
              obtain ⟨hv3_19_26, e0_26, e1_26⟩ := m_26
              have f27 := (show 0 ≤ I24 100 4 ∧ I24 100 4 ≤ 24 from gc_in hI24 R_100 rfl rfl)
              have f28 := (show 0 ≤ I24 100 7 ∧ I24 100 7 ≤ 1536 from gc_in hI24 R_100 rfl rfl)
              have f29 := (show 0 ≤ I24 a2 1 ∧ I24 a2 1 ≤ 1000 from gc_in hI24 R_a2 rfl rfl)
              have f30 := (show 0 ≤ I24 (a1 + 11) 1 ∧ I24 (a1 + 11) 1 ≤ 24 from gc_in hI24 R_a1_11 rfl rfl)
              refine gv_run 2 true hD (pc' := 60) (lv' := [(3, .inl (v3_19 + 1)), (0, .inr (.inr (some 100))), (1, .inr (.inr (some a1)))]) (st' := []) (h' := gc_h sh I24 J25 A) (C := ((True ∧ True) ∧ True)) rfl ⟨⟨trivial, trivial⟩, trivial⟩ ?_
              refine gv_pick [1, 2, 0] rfl ?_
              exact ih60 I24 J25 (v3_19 + 1) (by exact gz_m 6 (by omega)) hI24 FI24 FJ25 (by exact gz_m 7 (by omega))
            have L128 : gv_X (gc_E1 ws0 tb 3 (yX1_noteGuesses, cX1_noteGuesses, 4, (some .int)) kX1_noteGuesses) (gv_Q cX1_noteGuesses (some .int) sh (fun r h' => (∃ (I' : gr_I) (J' : gr_J), h' = gc_h sh I' J' A ∧ gc_Inv ro I' ∧ (∀ q j : Nat, ((q = 100 ∧ j = 4) ∨ (q = 100 ∧ j = 7) ∨ (q = 100 ∧ j = 8) ∨ q = 102 ∨ q = 103) ∨ I' q j = I q j) ∧ (∀ q j : Nat, (False) ∨ J' q j = J q j) ∧ (∃ z : Int, r = some (.inl z) ∧ (-3) ≤ z ∧ z ≤ 24)))) (128, [(0, .inr (.inr (some 100)))], [], sh, gc_h sh I17 J18 A) := by
              have f32 := (show 0 ≤ I17 100 4 ∧ I17 100 4 ≤ 24 from gc_in hI17 R_100 rfl rfl)
              have f33 := (show 0 ≤ I17 100 7 ∧ I17 100 7 ≤ 1536 from gc_in hI17 R_100 rfl rfl)
              have f34 := (show 0 ≤ I17 a2 1 ∧ I17 a2 1 ≤ 1000 from gc_in hI17 R_a2 rfl rfl)
              have f35 := (show 0 ≤ I17 (a1 + 11) 1 ∧ I17 (a1 + 11) 1 ≤ 24 from gc_in hI17 R_a1_11 rfl rfl)
              refine gv_run 1 true hD (pc' := 129) (lv' := [(0, .inr (.inr (some 100)))]) (st' := [.inr (.inr (some 100))]) (h' := gc_h sh I17 J18 A) (C := (True ∧ True)) rfl ⟨trivial, trivial⟩ ?_
              have f36 := (show 0 ≤ I17 100 4 ∧ I17 100 4 ≤ 24 from gc_in hI17 R_100 rfl rfl)
              refine gv_get hD rfl rfl S_100 ⟨by decide, B_100⟩ (gc_hI S_100 rfl) ?_
              show gv_X _ _ (132, [(0, .inr (.inr (some 100)))], [.inl (I17 100 4)], sh, gc_h sh I17 J18 A)
              exact gv_iret hD rfl ⟨I17, J18, rfl, hI17, FI17, FJ18, ⟨_, rfl, by exact gz_m 8 (by omega)⟩⟩
            refine gv_run 2 true hD (pc' := 62) (lv' := [(0, .inr (.inr (some 100))), (1, .inr (.inr (some a1))), (3, .inl v3_19)]) (st' := [.inr (.inr (some a1)), .inl v3_19]) (h' := gc_h sh I17 J18 A) (C := ((True ∧ True) ∧ True)) rfl ⟨⟨trivial, trivial⟩, trivial⟩ ?_
            refine gv_get hD rfl rfl S_a1 ⟨by decide, B_a1⟩ (gc_hA S_a1 rfl A_a1_8) ?_
            show gv_X _ _ (65, [(0, .inr (.inr (some 100))), (1, .inr (.inr (some a1))), (3, .inl v3_19)], [.inr (.inr (some (a1 + 11))), .inl v3_19], sh, gc_h sh I17 J18 A)
            have f37 := (show 0 ≤ I17 (a1 + 11) 1 ∧ I17 (a1 + 11) 1 ≤ 24 from gc_in hI17 R_a1_11 rfl rfl)
            refine gv_get hD rfl rfl S_a1_11 ⟨by decide, B_a1_11⟩ (gc_hI S_a1_11 rfl) ?_
            show gv_X _ _ (68, [(0, .inr (.inr (some 100))), (1, .inr (.inr (some a1))), (3, .inl v3_19)], [.inl (I17 (a1 + 11) 1), .inl v3_19], sh, gc_h sh I17 J18 A)
            refine gv_icmp_ge (t := 128) hD rfl rfl ⟨⟨by exact gz_m 9 (by omega), by exact gz_m 10 (by omega)⟩, ⟨by exact gz_m 11 (by omega), by exact gz_m 12 (by omega)⟩⟩ (fun c38 => ?_) (fun c38 => ?_)
            · show gv_X _ _ (128, [(0, .inr (.inr (some 100))), (1, .inr (.inr (some a1))), (3, .inl v3_19)], [], sh, gc_h sh I17 J18 A)
              refine gv_pick [0] rfl ?_
              exact L128 
            · show gv_X _ _ (71, [(0, .inr (.inr (some 100))), (1, .inr (.inr (some a1))), (3, .inl v3_19)], [], sh, gc_h sh I17 J18 A)
              refine gv_run 1 true hD (pc' := 72) (lv' := [(0, .inr (.inr (some 100))), (1, .inr (.inr (some a1))), (3, .inl v3_19)]) (st' := [.inr (.inr (some 100))]) (h' := gc_h sh I17 J18 A) (C := (True ∧ True)) rfl ⟨trivial, trivial⟩ ?_
              have f39 := (show 0 ≤ I17 100 7 ∧ I17 100 7 ≤ 1536 from gc_in hI17 R_100 rfl rfl)
              refine gv_get hD rfl rfl S_100 ⟨by decide, B_100⟩ (gc_hI S_100 rfl) ?_
              show gv_X _ _ (75, [(0, .inr (.inr (some 100))), (1, .inr (.inr (some a1))), (3, .inl v3_19)], [.inl (I17 100 7)], sh, gc_h sh I17 J18 A)
              refine gv_if_le (t := 128) hD rfl rfl ⟨by exact gz_m 13 (by omega), by exact gz_m 14 (by omega)⟩ (fun c40 => ?_) (fun c40 => ?_)
              · show gv_X _ _ (128, [(0, .inr (.inr (some 100))), (1, .inr (.inr (some a1))), (3, .inl v3_19)], [], sh, gc_h sh I17 J18 A)
                refine gv_pick [0] rfl ?_
                exact L128 
              · show gv_X _ _ (78, [(0, .inr (.inr (some 100))), (1, .inr (.inr (some a1))), (3, .inl v3_19)], [], sh, gc_h sh I17 J18 A)
                refine gv_run 1 true hD (pc' := 79) (lv' := [(0, .inr (.inr (some 100))), (1, .inr (.inr (some a1))), (3, .inl v3_19)]) (st' := [.inr (.inr (some 100))]) (h' := gc_h sh I17 J18 A) (C := (True ∧ True)) rfl ⟨trivial, trivial⟩ ?_
                refine gv_get hD rfl rfl S_100 ⟨by decide, B_100⟩ (gc_hA S_100 rfl A_100_6) ?_
                show gv_X _ _ (82, [(0, .inr (.inr (some 100))), (1, .inr (.inr (some a1))), (3, .inl v3_19)], [.inr (.inr (some 103))], sh, gc_h sh I17 J18 A)
                refine gv_run 1 true hD (pc' := 83) (lv' := [(0, .inr (.inr (some 100))), (1, .inr (.inr (some a1))), (3, .inl v3_19)]) (st' := [.inl v3_19, .inr (.inr (some 103))]) (h' := gc_h sh I17 J18 A) (C := (True ∧ True)) rfl ⟨trivial, trivial⟩ ?_
                have f41 := (show 0 ≤ I17 103 (Int.toNat v3_19) ∧ I17 103 (Int.toNat v3_19) ≤ 1536 from gc_in hI17 R_103 rfl rfl)
                refine gv_iald hD rfl S_103 rfl ⟨by decide, B_103⟩ ⟨by exact gz_m 15 (by omega), by exact gz_m 16 (by omega)⟩ (gc_iI S_103 rfl) ?_
                show gv_X _ _ (84, [(0, .inr (.inr (some 100))), (1, .inr (.inr (some a1))), (3, .inl v3_19)], [.inl (I17 103 (Int.toNat v3_19))], sh, gc_h sh I17 J18 A)
                refine gv_if_le (t := 122) hD rfl rfl ⟨by exact gz_m 17 (by omega), by exact gz_m 18 (by omega)⟩ (fun c42 => ?_) (fun c42 => ?_)
                · show gv_X _ _ (122, [(0, .inr (.inr (some 100))), (1, .inr (.inr (some a1))), (3, .inl v3_19)], [], sh, gc_h sh I17 J18 A)
                  exact L122 I17 J18 hI17 FI17 FJ18 (by exact gz_m 19 (by omega))
                · show gv_X _ _ (87, [(0, .inr (.inr (some 100))), (1, .inr (.inr (some a1))), (3, .inl v3_19)], [], sh, gc_h sh I17 J18 A)
                  refine gv_run 1 true hD (pc' := 88) (lv' := [(0, .inr (.inr (some 100))), (1, .inr (.inr (some a1))), (3, .inl v3_19)]) (st' := [.inr (.inr (some 100))]) (h' := gc_h sh I17 J18 A) (C := (True ∧ True)) rfl ⟨trivial, trivial⟩ ?_
                  refine gv_get hD rfl rfl S_100 ⟨by decide, B_100⟩ (gc_hA S_100 rfl A_100_5) ?_
                  show gv_X _ _ (91, [(0, .inr (.inr (some 100))), (1, .inr (.inr (some a1))), (3, .inl v3_19)], [.inr (.inr (some 102))], sh, gc_h sh I17 J18 A)
                  refine gv_run 1 true hD (pc' := 92) (lv' := [(0, .inr (.inr (some 100))), (1, .inr (.inr (some a1))), (3, .inl v3_19)]) (st' := [.inr (.inr (some 100)), .inr (.inr (some 102))]) (h' := gc_h sh I17 J18 A) (C := (True ∧ True)) rfl ⟨trivial, trivial⟩ ?_
                  have f43 := (show 0 ≤ I17 100 4 ∧ I17 100 4 ≤ 24 from gc_in hI17 R_100 rfl rfl)
                  refine gv_get hD rfl rfl S_100 ⟨by decide, B_100⟩ (gc_hI S_100 rfl) ?_
                  show gv_X _ _ (95, [(0, .inr (.inr (some 100))), (1, .inr (.inr (some a1))), (3, .inl v3_19)], [.inl (I17 100 4), .inr (.inr (some 102))], sh, gc_h sh I17 J18 A)
                  refine gv_run 1 true hD (pc' := 96) (lv' := [(0, .inr (.inr (some 100))), (1, .inr (.inr (some a1))), (3, .inl v3_19)]) (st' := [.inl v3_19, .inl (I17 100 4), .inr (.inr (some 102))]) (h' := gc_h sh I17 J18 A) (C := (True ∧ True)) rfl ⟨trivial, trivial⟩ ?_
                  refine gv_iast hD rfl S_102 ⟨by decide, B_102⟩ ⟨by exact gz_m 20 (by omega), by exact gz_m 21 (by omega)⟩ ?_
                  refine gc_st hI17 S_102 rfl R_102 (lo := 0) (hi := 23) rfl rfl (by exact gz_m 22 (by omega)) (by exact gz_m 23 (by omega)) (fun I44 hI44 q45 p45 => ?_)
                  have FI44 := gc_frs (W := fun q j => (q = 100 ∧ j = 4) ∨ (q = 100 ∧ j = 7) ∨ (q = 100 ∧ j = 8) ∨ q = 102 ∨ q = 103) FI17 (Or.inr (Or.inr (Or.inr (Or.inl rfl)))) p45
                  have t46 := p45 100 4 (fun h => absurd h.1 (by decide))
                  have t47 := p45 100 7 (fun h => absurd h.1 (by decide))
                  have t48 := p45 a2 1 (fun h => absurd h.1 N_a2__102)
                  have t49 := p45 (a1 + 11) 1 (fun h => absurd h.1 N_a1_11__102)
                  show gv_X _ _ (97, [(0, .inr (.inr (some 100))), (1, .inr (.inr (some a1))), (3, .inl v3_19)], [], sh, gc_h sh I44 J18 A)
                  refine gv_run 1 true hD (pc' := 98) (lv' := [(0, .inr (.inr (some 100))), (1, .inr (.inr (some a1))), (3, .inl v3_19)]) (st' := [.inr (.inr (some 100))]) (h' := gc_h sh I44 J18 A) (C := (True ∧ True)) rfl ⟨trivial, trivial⟩ ?_
                  refine gv_get hD rfl rfl S_100 ⟨by decide, B_100⟩ (gc_hA S_100 rfl A_100_6) ?_
                  show gv_X _ _ (101, [(0, .inr (.inr (some 100))), (1, .inr (.inr (some a1))), (3, .inl v3_19)], [.inr (.inr (some 103))], sh, gc_h sh I44 J18 A)
                  refine gv_run 1 true hD (pc' := 102) (lv' := [(0, .inr (.inr (some 100))), (1, .inr (.inr (some a1))), (3, .inl v3_19)]) (st' := [.inr (.inr (some 100)), .inr (.inr (some 103))]) (h' := gc_h sh I44 J18 A) (C := (True ∧ True)) rfl ⟨trivial, trivial⟩ ?_
                  have f50 := (show 0 ≤ I44 100 4 ∧ I44 100 4 ≤ 24 from gc_in hI44 R_100 rfl rfl)
                  refine gv_get hD rfl rfl S_100 ⟨by decide, B_100⟩ (gc_hI S_100 rfl) ?_
                  show gv_X _ _ (105, [(0, .inr (.inr (some 100))), (1, .inr (.inr (some a1))), (3, .inl v3_19)], [.inl (I44 100 4), .inr (.inr (some 103))], sh, gc_h sh I44 J18 A)
                  refine gv_run 1 true hD (pc' := 106) (lv' := [(0, .inr (.inr (some 100))), (1, .inr (.inr (some a1))), (3, .inl v3_19)]) (st' := [.inr (.inr (some 100)), .inl (I44 100 4), .inr (.inr (some 103))]) (h' := gc_h sh I44 J18 A) (C := (True ∧ True)) rfl ⟨trivial, trivial⟩ ?_
                  refine gv_get hD rfl rfl S_100 ⟨by decide, B_100⟩ (gc_hA S_100 rfl A_100_6) ?_
                  show gv_X _ _ (109, [(0, .inr (.inr (some 100))), (1, .inr (.inr (some a1))), (3, .inl v3_19)], [.inr (.inr (some 103)), .inl (I44 100 4), .inr (.inr (some 103))], sh, gc_h sh I44 J18 A)
                  refine gv_run 1 true hD (pc' := 110) (lv' := [(0, .inr (.inr (some 100))), (1, .inr (.inr (some a1))), (3, .inl v3_19)]) (st' := [.inl v3_19, .inr (.inr (some 103)), .inl (I44 100 4), .inr (.inr (some 103))]) (h' := gc_h sh I44 J18 A) (C := (True ∧ True)) rfl ⟨trivial, trivial⟩ ?_
                  have f51 := (show 0 ≤ I44 103 (Int.toNat v3_19) ∧ I44 103 (Int.toNat v3_19) ≤ 1536 from gc_in hI44 R_103 rfl rfl)
                  refine gv_iald hD rfl S_103 rfl ⟨by decide, B_103⟩ ⟨by exact gz_m 24 (by omega), by exact gz_m 25 (by omega)⟩ (gc_iI S_103 rfl) ?_
                  show gv_X _ _ (111, [(0, .inr (.inr (some 100))), (1, .inr (.inr (some a1))), (3, .inl v3_19)], [.inl (I44 103 (Int.toNat v3_19)), .inl (I44 100 4), .inr (.inr (some 103))], sh, gc_h sh I44 J18 A)
                  refine gv_iast hD rfl S_103 ⟨by decide, B_103⟩ ⟨by exact gz_m 26 (by omega), by exact gz_m 27 (by omega)⟩ ?_
                  refine gc_st hI44 S_103 rfl R_103 (lo := 0) (hi := 1536) rfl rfl (by exact gz_m 28 (by omega)) (by exact gz_m 29 (by omega)) (fun I52 hI52 q53 p53 => ?_)
                  have FI52 := gc_frs (W := fun q j => (q = 100 ∧ j = 4) ∨ (q = 100 ∧ j = 7) ∨ (q = 100 ∧ j = 8) ∨ q = 102 ∨ q = 103) FI44 (Or.inr (Or.inr (Or.inr (Or.inr rfl)))) p53
                  have t54 := p53 100 4 (fun h => absurd h.1 (by decide))
                  have t55 := p53 100 7 (fun h => absurd h.1 (by decide))
                  have t56 := p53 a2 1 (fun h => absurd h.1 N_a2__103)
                  have t57 := p53 (a1 + 11) 1 (fun h => absurd h.1 N_a1_11__103)
                  show gv_X _ _ (112, [(0, .inr (.inr (some 100))), (1, .inr (.inr (some a1))), (3, .inl v3_19)], [], sh, gc_h sh I52 J18 A)
                  refine gv_run 2 true hD (pc' := 114) (lv' := [(0, .inr (.inr (some 100))), (1, .inr (.inr (some a1))), (3, .inl v3_19)]) (st' := [.inr (.inr (some 100)), .inr (.inr (some 100))]) (h' := gc_h sh I52 J18 A) (C := ((True ∧ True) ∧ True)) rfl ⟨⟨trivial, trivial⟩, trivial⟩ ?_
                  have f58 := (show 0 ≤ I52 100 4 ∧ I52 100 4 ≤ 24 from gc_in hI52 R_100 rfl rfl)
                  refine gv_get hD rfl rfl S_100 ⟨by decide, B_100⟩ (gc_hI S_100 rfl) ?_
                  show gv_X _ _ (117, [(0, .inr (.inr (some 100))), (1, .inr (.inr (some a1))), (3, .inl v3_19)], [.inl (I52 100 4), .inr (.inr (some 100))], sh, gc_h sh I52 J18 A)
                  refine gv_run 2 true hD (pc' := 119) (lv' := [(0, .inr (.inr (some 100))), (1, .inr (.inr (some a1))), (3, .inl v3_19)]) (st' := [.inl ((I52 100 4) + 1), .inr (.inr (some 100))]) (h' := gc_h sh I52 J18 A) (C := ((True ∧ True) ∧ True)) rfl ⟨⟨trivial, trivial⟩, trivial⟩ ?_
                  refine gv_put hD rfl rfl S_100 ⟨by decide, B_100⟩ rfl trivial ?_
                  refine gc_st (k := 4) hI52 S_100 rfl R_100 (lo := 0) (hi := 24) rfl rfl (by exact gz_m 30 (by omega)) (by exact gz_m 31 (by omega)) (fun I59 hI59 q60 p60 => ?_)
                  have FI59 := gc_frs (W := fun q j => (q = 100 ∧ j = 4) ∨ (q = 100 ∧ j = 7) ∨ (q = 100 ∧ j = 8) ∨ q = 102 ∨ q = 103) FI52 (Or.inl ⟨rfl, rfl⟩) p60
                  have t61 := p60 100 7 (fun h => absurd h.2 (by decide))
                  have t62 := p60 a2 1 (fun h => absurd h.2 (by decide))
                  have t63 := p60 (a1 + 11) 1 (fun h => absurd h.2 (by decide))
                  have f64 := (show 0 ≤ I59 100 4 ∧ I59 100 4 ≤ 24 from gc_in hI59 R_100 rfl rfl)
                  show gv_X _ _ (122, [(0, .inr (.inr (some 100))), (1, .inr (.inr (some a1))), (3, .inl v3_19)], [], sh, gc_h sh I59 J18 A)
                  exact L122 I59 J18 hI59 FI59 FJ18 (by exact gz_m 32 (by omega))
        refine gv_run 2 true hD (pc' := 60) (lv' := [(3, .inl 0), (0, .inr (.inr (some 100))), (1, .inr (.inr (some a1)))]) (st' := []) (h' := gc_h sh I5 J6 A) (C := ((True ∧ True) ∧ True)) rfl ⟨⟨trivial, trivial⟩, trivial⟩ ?_
        refine gv_pick [1, 2, 0] rfl ?_
        exact L60 _ I5 J6 0 (Nat.lt_succ_self _) hI5 FI5 FJ6 (by exact gz_m 33 (by omega))
      refine gv_run 1 true hD (pc' := 30) (lv' := [(0, .inr (.inr (some 100))), (1, .inr (.inr (some a1))), (2, .inr (.inr (some a2))), (3, .inl v3_7)]) (st' := [.inl v3_7]) (h' := gc_h sh I5 J6 A) (C := (True ∧ True)) rfl ⟨trivial, trivial⟩ ?_
      refine gv_if_le (t := 58) hD rfl rfl ⟨by exact gz_m 34 (by omega), by exact gz_m 35 (by omega)⟩ (fun c65 => ?_) (fun c65 => ?_)
      · show gv_X _ _ (58, [(0, .inr (.inr (some 100))), (1, .inr (.inr (some a1))), (2, .inr (.inr (some a2))), (3, .inl v3_7)], [], sh, gc_h sh I5 J6 A)
        refine gv_pick [0, 1] rfl ?_
        exact L58 (by exact gz_m 36 (by omega))
      · show gv_X _ _ (33, [(0, .inr (.inr (some 100))), (1, .inr (.inr (some a1))), (2, .inr (.inr (some a2))), (3, .inl v3_7)], [], sh, gc_h sh I5 J6 A)
        refine gv_run 1 true hD (pc' := 34) (lv' := [(0, .inr (.inr (some 100))), (1, .inr (.inr (some a1))), (2, .inr (.inr (some a2))), (3, .inl v3_7)]) (st' := [.inr (.inr (some 100))]) (h' := gc_h sh I5 J6 A) (C := (True ∧ True)) rfl ⟨trivial, trivial⟩ ?_
        have f66 := (show 0 ≤ I5 100 7 ∧ I5 100 7 ≤ 1536 from gc_in hI5 R_100 rfl rfl)
        refine gv_get hD rfl rfl S_100 ⟨by decide, B_100⟩ (gc_hI S_100 rfl) ?_
        show gv_X _ _ (37, [(0, .inr (.inr (some 100))), (1, .inr (.inr (some a1))), (2, .inr (.inr (some a2))), (3, .inl v3_7)], [.inl (I5 100 7)], sh, gc_h sh I5 J6 A)
        refine gv_if_ne (t := 58) hD rfl rfl ⟨by exact gz_m 37 (by omega), by exact gz_m 38 (by omega)⟩ (fun c67 => ?_) (fun c67 => ?_)
        · show gv_X _ _ (58, [(0, .inr (.inr (some 100))), (1, .inr (.inr (some a1))), (2, .inr (.inr (some a2))), (3, .inl v3_7)], [], sh, gc_h sh I5 J6 A)
          refine gv_pick [0, 1] rfl ?_
          exact L58 (by exact gz_m 39 (by omega))
        · show gv_X _ _ (40, [(0, .inr (.inr (some 100))), (1, .inr (.inr (some a1))), (2, .inr (.inr (some a2))), (3, .inl v3_7)], [], sh, gc_h sh I5 J6 A)
          refine gv_run 2 true hD (pc' := 42) (lv' := [(0, .inr (.inr (some 100))), (1, .inr (.inr (some a1))), (2, .inr (.inr (some a2))), (3, .inl v3_7)]) (st' := [.inl v3_7, .inr (.inr (some 100))]) (h' := gc_h sh I5 J6 A) (C := ((True ∧ True) ∧ True)) rfl ⟨⟨trivial, trivial⟩, trivial⟩ ?_
          refine gv_put hD rfl rfl S_100 ⟨by decide, B_100⟩ rfl trivial ?_
          refine gc_st (k := 8) hI5 S_100 rfl R_100 (lo := 0) (hi := 4) rfl rfl (by exact gz_m 40 (by omega)) (by exact gz_m 41 (by omega)) (fun I68 hI68 q69 p69 => ?_)
          have FI68 := gc_frs (W := fun q j => (q = 100 ∧ j = 4) ∨ (q = 100 ∧ j = 7) ∨ (q = 100 ∧ j = 8) ∨ q = 102 ∨ q = 103) FI5 (Or.inr (Or.inr (Or.inl ⟨rfl, rfl⟩))) p69
          have t70 := p69 100 4 (fun h => absurd h.2 (by decide))
          have t71 := p69 100 7 (fun h => absurd h.2 (by decide))
          have t72 := p69 a2 1 (fun h => absurd h.2 (by decide))
          have t73 := p69 (a1 + 11) 1 (fun h => absurd h.2 (by decide))
          show gv_X _ _ (45, [(0, .inr (.inr (some 100))), (1, .inr (.inr (some a1))), (2, .inr (.inr (some a2))), (3, .inl v3_7)], [], sh, gc_h sh I68 J6 A)
          refine gv_run 4 true hD (pc' := 49) (lv' := [(0, .inr (.inr (some 100))), (1, .inr (.inr (some a1))), (2, .inr (.inr (some a2))), (3, .inl v3_7)]) (st' := [.inl v3_7, .inr (.inr (some a2)), .inr (.inr (some a1)), .inr (.inr (some 100))]) (h' := gc_h sh I68 J6 A) (C := ((((True ∧ True) ∧ True) ∧ True) ∧ True)) rfl ⟨⟨⟨⟨trivial, trivial⟩, trivial⟩, trivial⟩, trivial⟩ ?_
          obtain ⟨r74, h74, E74, P74⟩ := d_X1_countEndings (ws0 := ws0) (tb := tb) hws htb sh ro I68 J6 A hI68  a1 a2 v3_7 hb h_a1 G_a1 h_a2 G_a2  ⟨by exact gz_m 42 (by omega), by exact gz_m 43 (by omega)⟩ (by exact gz_m 44 (by omega)) (by exact gz_m 45 (by omega)) (by exact gz_m 46 (by omega)) 
          obtain ⟨I75, J76, rfl, hI75, g74, k74, rfl⟩ := P74
          have FI75 := gc_frc (W := fun q j => (q = 100 ∧ j = 4) ∨ (q = 100 ∧ j = 7) ∨ (q = 100 ∧ j = 8) ∨ q = 102 ∨ q = 103) (V := fun q j => (q = 100 ∧ j = 7) ∨ q = 103) FI68 (fun q j h => (h.elim (fun h => (Or.inr (Or.inl h))) (fun h => (Or.inr (Or.inr (Or.inr (Or.inr h))))))) g74
          have t77 := (g74 100 4).resolve_left (fun h => h.elim (fun h => absurd h.2 (by decide)) (fun h => absurd h (by decide)))
          have t78 := (g74 a2 1).resolve_left (fun h => h.elim (fun h => absurd h.2 (by decide)) (fun h => absurd h N_a2__103))
          have t79 := (g74 (a1 + 11) 1).resolve_left (fun h => h.elim (fun h => absurd h.2 (by decide)) (fun h => absurd h N_a1_11__103))
          have f80 := (show 0 ≤ I75 100 7 ∧ I75 100 7 ≤ 1536 from gc_in hI75 R_100 rfl rfl)
          obtain rfl : J6 = J76 := funext fun q => funext fun j => ((k74 q j).resolve_left id).symm
          refine gv_callV hD rfl (As := [.inr (.inr (some a1)), .inr (.inr (some a2)), .inl v3_7]) (st := []) rfl B_100 S_100 rfl (gc_lV1 hws rfl) (Nat.le_of_ble_eq_true rfl) (gz_Ev_mono (d := 3) (by decide) E74) ?_
          show gv_X _ _ (52, [(0, .inr (.inr (some 100))), (1, .inr (.inr (some a1))), (2, .inr (.inr (some a2))), (3, .inl v3_7)], [], sh, gc_h sh I75 J6 A)
          refine gv_run 2 true hD (pc' := 29) (lv' := [(3, .inl (v3_7 + (-1))), (0, .inr (.inr (some 100))), (1, .inr (.inr (some a1))), (2, .inr (.inr (some a2)))]) (st' := []) (h' := gc_h sh I75 J6 A) (C := ((True ∧ True) ∧ True)) rfl ⟨⟨trivial, trivial⟩, trivial⟩ ?_
          refine gv_pick [1, 2, 3, 0] rfl ?_
          exact ih29 I75 J6 ((v3_7 + (-1))) (by exact gz_m 47 (by omega)) hI75 FI75 FJ6 (by exact gz_m 48 (by omega))
  refine gv_run 2 true hD (pc' := 2) (lv' := [(0, .inr (.inr (some 100))), (1, .inr (.inr (some a1))), (2, .inr (.inr (some a2)))]) (st' := [.inl 0, .inr (.inr (some 100))]) (h' := gc_h sh I J A) (C := ((True ∧ True) ∧ True)) rfl ⟨⟨trivial, trivial⟩, trivial⟩ ?_
  refine gv_put hD rfl rfl S_100 ⟨by decide, B_100⟩ rfl trivial ?_
  refine gc_st (k := 4) hI S_100 rfl R_100 (lo := 0) (hi := 24) rfl rfl (by exact gz_m 49 (by omega)) (by exact gz_m 50 (by omega)) (fun I81 hI81 q82 p82 => ?_)
  have FI81 := gc_frs (W := fun q j => (q = 100 ∧ j = 4) ∨ (q = 100 ∧ j = 7) ∨ (q = 100 ∧ j = 8) ∨ q = 102 ∨ q = 103) FI (Or.inl ⟨rfl, rfl⟩) p82
  have t83 := p82 100 7 (fun h => absurd h.2 (by decide))
  have t84 := p82 a2 1 (fun h => absurd h.2 (by decide))
  have t85 := p82 (a1 + 11) 1 (fun h => absurd h.2 (by decide))
  have f86 := (show 0 ≤ I81 100 4 ∧ I81 100 4 ≤ 24 from gc_in hI81 R_100 rfl rfl)
  show gv_X _ _ (5, [(0, .inr (.inr (some 100))), (1, .inr (.inr (some a1))), (2, .inr (.inr (some a2)))], [], sh, gc_h sh I81 J A)
  refine gv_run 2 true hD (pc' := 7) (lv' := [(0, .inr (.inr (some 100))), (1, .inr (.inr (some a1))), (2, .inr (.inr (some a2)))]) (st' := [.inl 0, .inr (.inr (some 100))]) (h' := gc_h sh I81 J A) (C := ((True ∧ True) ∧ True)) rfl ⟨⟨trivial, trivial⟩, trivial⟩ ?_
  refine gv_put hD rfl rfl S_100 ⟨by decide, B_100⟩ rfl trivial ?_
  refine gc_st (k := 7) hI81 S_100 rfl R_100 (lo := 0) (hi := 1536) rfl rfl (by exact gz_m 51 (by omega)) (by exact gz_m 52 (by omega)) (fun I87 hI87 q88 p88 => ?_)
  have FI87 := gc_frs (W := fun q j => (q = 100 ∧ j = 4) ∨ (q = 100 ∧ j = 7) ∨ (q = 100 ∧ j = 8) ∨ q = 102 ∨ q = 103) FI81 (Or.inr (Or.inl ⟨rfl, rfl⟩)) p88
  have t89 := p88 100 4 (fun h => absurd h.2 (by decide))
  have t90 := p88 a2 1 (fun h => absurd h.2 (by decide))
  have t91 := p88 (a1 + 11) 1 (fun h => absurd h.2 (by decide))
  have f92 := (show 0 ≤ I87 100 7 ∧ I87 100 7 ≤ 1536 from gc_in hI87 R_100 rfl rfl)
  show gv_X _ _ (10, [(0, .inr (.inr (some 100))), (1, .inr (.inr (some a1))), (2, .inr (.inr (some a2)))], [], sh, gc_h sh I87 J A)
  refine gv_run 1 true hD (pc' := 11) (lv' := [(0, .inr (.inr (some 100))), (1, .inr (.inr (some a1))), (2, .inr (.inr (some a2)))]) (st' := [.inr (.inr (some a2))]) (h' := gc_h sh I87 J A) (C := (True ∧ True)) rfl ⟨trivial, trivial⟩ ?_
  obtain ⟨r93, h93, E93, P93⟩ := d_X9_isWord (ws0 := ws0) (tb := tb) hws htb sh ro I87 J A hI87 a2  h_a2     
  obtain ⟨rfl, ⟨z93, rfl, q93⟩⟩ := P93
  refine gv_callV hD rfl (As := []) (st := []) rfl B_a2 S_a2 rfl (gc_lV1 hws rfl) (Nat.le_of_ble_eq_true rfl) (gz_Ev_mono (d := 2) (by decide) E93) ?_
  show gv_X _ _ (14, [(0, .inr (.inr (some 100))), (1, .inr (.inr (some a1))), (2, .inr (.inr (some a2)))], [.inl z93], sh, gc_h sh I87 J A)
  refine gv_if_ne (t := 20) hD rfl rfl ⟨by exact gz_m 53 (by omega), by exact gz_m 54 (by omega)⟩ (fun c94 => ?_) (fun c94 => ?_)
  · show gv_X _ _ (20, [(0, .inr (.inr (some 100))), (1, .inr (.inr (some a1))), (2, .inr (.inr (some a2)))], [], sh, gc_h sh I87 J A)
    refine gv_run 2 true hD (pc' := 22) (lv' := [(0, .inr (.inr (some 100))), (1, .inr (.inr (some a1))), (2, .inr (.inr (some a2)))]) (st' := [.inr (.inr (some a2)), .inl 4]) (h' := gc_h sh I87 J A) (C := ((True ∧ True) ∧ True)) rfl ⟨⟨trivial, trivial⟩, trivial⟩ ?_
    have f95 := (show 0 ≤ I87 a2 1 ∧ I87 a2 1 ≤ 1000 from gc_in hI87 R_a2 rfl rfl)
    refine gv_get hD rfl rfl S_a2 ⟨by decide, B_a2⟩ (gc_hI S_a2 rfl) ?_
    show gv_X _ _ (25, [(0, .inr (.inr (some 100))), (1, .inr (.inr (some a1))), (2, .inr (.inr (some a2)))], [.inl (I87 a2 1), .inl 4], sh, gc_h sh I87 J A)
    obtain ⟨z96, E96, q96⟩ := gj_min (ws0 := ws0) (tb := tb) (sh := sh) (h := gc_h sh I87 J A) 4 (I87 a2 1) ⟨by exact gz_m 55 (by omega), by exact gz_m 56 (by omega)⟩ ⟨by exact gz_m 57 (by omega), by exact gz_m 58 (by omega)⟩
    refine gv_callS hD rfl (As := [.inl 4, .inl (I87 a2 1)]) (st := []) rfl (gc_lS1 hws rfl) (Nat.le_of_ble_eq_true rfl) (gz_Ev_mono (d := 1) (by decide) E96) ?_
    show gv_X _ _ (28, [(0, .inr (.inr (some 100))), (1, .inr (.inr (some a1))), (2, .inr (.inr (some a2)))], [.inl z96], sh, gc_h sh I87 J A)
    refine gv_run 1 true hD (pc' := 29) (lv' := [(3, .inl z96), (0, .inr (.inr (some 100))), (1, .inr (.inr (some a1))), (2, .inr (.inr (some a2)))]) (st' := []) (h' := gc_h sh I87 J A) (C := (True ∧ True)) rfl ⟨trivial, trivial⟩ ?_
    refine gv_pick [1, 2, 3, 0] rfl ?_
    exact L29 _ I87 J z96 (Nat.lt_succ_self _) hI87 FI87 FJ (by exact gz_m 59 (by omega))
  · show gv_X _ _ (17, [(0, .inr (.inr (some 100))), (1, .inr (.inr (some a1))), (2, .inr (.inr (some a2)))], [], sh, gc_h sh I87 J A)
    refine gv_run 1 true hD (pc' := 19) (lv' := [(0, .inr (.inr (some 100))), (1, .inr (.inr (some a1))), (2, .inr (.inr (some a2)))]) (st' := [.inl (-3)]) (h' := gc_h sh I87 J A) (C := (True ∧ True)) rfl ⟨trivial, trivial⟩ ?_
    exact gv_iret hD rfl ⟨I87, J, rfl, hI87, FI87, FJ, ⟨_, rfl, by exact gz_m 60 (by omega)⟩⟩
