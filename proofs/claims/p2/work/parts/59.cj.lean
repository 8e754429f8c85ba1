def gc_sc (n : Nat) (I : gr_I) : Prop := ∀ k : Int, 0 ≤ k → k < 600 → (k % 25 = 0 ∨ k % 25 = 7 ∨ k % 25 = 10 ∨ k % 25 = 13 ∨ k % 25 = 16 ∨ k % 25 = 19 ∨ k % 25 = 22) → I n (Int.toNat k) = 1 → I n (Int.toNat (k + 1)) ≤ 15
theorem gc_sc_fr {n : Nat} {I I' : gr_I} (h : gc_sc n I) (hf : ∀ k, I' n k = I n k) : gc_sc n I' := fun k a b c d => by rw [hf] at d ⊢; exact h k a b c d
set_option maxHeartbeats 4000000 in
set_option maxRecDepth 100000 in
theorem d_X2_fitsAt {ws0 : List Cond} {tb : String → gz_T} (hws : gc_Ws ws0) (htb : gc_tbs tb) (sh : gz_Sh) (ro : Nat → Nat) (I : gr_I) (J : gr_J) (A : gc_A) (hI : gc_Inv ro I) (p : Nat) (m : Nat) (a1 : Nat) (a2 : Int) (a3 : Nat) (a4 : Int) (a5 : Int) (hp : gc_isForms sh ro A p) (h_a1 : gc_isTongue sh ro A a1) (S_a3 : sh[a3]? = some (true, 0, m)) (R_a3 : ro a3 = 1) (B_a3 : a3 < 1000000) (M_a3 : m < 2147483648) (ha2 : 0 ≤ a2 ∧ a2 ≤ 597) (ha4 : (-40) ≤ a4 ∧ a4 ≤ 60) (ha5 : 0 ≤ a5 ∧ a5 ≤ 24) (x0 : a5 ≤ m) (x1 : (a2 % 25 = 0 ∨ a2 % 25 = 7 ∨ a2 % 25 = 10 ∨ a2 % 25 = 13 ∨ a2 % 25 = 16 ∨ a2 % 25 = 19 ∨ a2 % 25 = 22)) (x2 : I (a1 + 10) (Int.toNat a2) = 1 → I (a1 + 10) (Int.toNat (a2 + 1)) ≤ 15) : ∃ r h', gz_Ev ws0 tb 1 (yX2_fitsAt, cX2_fitsAt, 8, (some .int)) [.inr (.inr (some p)), .inr (.inr (some a1)), .inl a2, .inr (.inr (some a3)), .inl a4, .inl a5] sh (gc_h sh I J A) r sh h' 0 0 ∧ (h' = gc_h sh I J A ∧ (∃ z : Int, r = some (.inl z) ∧ (-1) ≤ z ∧ z ≤ 24 ∧ (z < 0 ∨ a4 ≤ z))) := by
  obtain ⟨S_p, R_p, B_p, A_p_0, S_20, R_20, B_20, A_p_1, S_p_1, R_p_1, B_p_1, A_p_2, S_p_2, R_p_2, B_p_2, A_p_3, S_p_3, R_p_3, B_p_3, A_p_4, S_p_4, R_p_4, B_p_4, A_p_5, S_p_5, R_p_5, B_p_5, S_p_6, R_p_6, B_p_6, S_p_7, R_p_7, B_p_7⟩ := id hp
  have B_20 : 20 < 1000000 := by decide
  have R_20 : ro 20 = 36 := gc_bR hb (by decide) rfl
  have S_20 : sh[20]? = some (true, 0, 12000) := gc_bS hb rfl
  obtain ⟨S_a1, R_a1, B_a1, A_a1_0, h_a1_1, A_a1_1, h_a1_3, A_a1_2, S_a1_5, R_a1_5, B_a1_5, A_a1_3, S_a1_6, R_a1_6, B_a1_6, A_a1_4, h_a1_7, A_a1_5, S_a1_9, R_a1_9, B_a1_9, A_a1_7, S_a1_10, R_a1_10, B_a1_10, A_a1_8, h_a1_11, A_a1_9, S_a1_13, R_a1_13, B_a1_13, A_a1_10, S_a1_14, R_a1_14, B_a1_14, A_a1_12, S_a1_15, R_a1_15, B_a1_15, A_a1_14, S_a1_16, R_a1_16, B_a1_16, A_a1_15, h_a1_17⟩ := id h_a1
  obtain ⟨S_a1_1, R_a1_1, B_a1_1, A_a1_1_0, S_a1_1_1, R_a1_1_1, B_a1_1_1, Q0_a1_1, Q1_a1_1, Q2_a1_1⟩ := id h_a1_1
  obtain ⟨S_a1_3, R_a1_3, B_a1_3, A_a1_3_0, S_a1_3_1, R_a1_3_1, B_a1_3_1, Q0_a1_3, Q1_a1_3, Q2_a1_3⟩ := id h_a1_3
  obtain ⟨S_a1_7, R_a1_7, B_a1_7, A_a1_7_0, S_a1_7_1, R_a1_7_1, B_a1_7_1, Q0_a1_7, Q1_a1_7, Q2_a1_7⟩ := id h_a1_7
  obtain ⟨S_a1_11, R_a1_11, B_a1_11, A_a1_11_0, S_a1_11_1, R_a1_11_1, B_a1_11_1, Q0_a1_11, Q1_a1_11, Q2_a1_11⟩ := id h_a1_11
  obtain ⟨S_a1_17, R_a1_17, B_a1_17, A_a1_17_0, S_20, R_20, B_20, A_a1_17_1, S_a1_17_1, R_a1_17_1, B_a1_17_1, A_a1_17_2, S_a1_17_2, R_a1_17_2, B_a1_17_2, A_a1_17_3, S_a1_17_3, R_a1_17_3, B_a1_17_3, A_a1_17_4, S_a1_17_4, R_a1_17_4, B_a1_17_4, A_a1_17_5, S_a1_17_5, R_a1_17_5, B_a1_17_5, S_a1_17_6, R_a1_17_6, B_a1_17_6, S_a1_17_7, R_a1_17_7, B_a1_17_7⟩ := id h_a1_17
  have hD : gv_D (gc_E2 ws0 tb 0 (yX2_fitsAt, cX2_fitsAt, 8, (some .int)) kX2_fitsAt) := gq_ok oX2_fitsAt
  refine gc_ev2 (d := 0) (l := kX2_fitsAt) (Po := fun r h' => (h' = gc_h sh I J A ∧ (∃ z : Int, r = some (.inl z) ∧ (-1) ≤ z ∧ z ≤ 24 ∧ (z < 0 ∨ a4 ≤ z)))) htb rfl (Nat.le_of_ble_eq_true rfl) ?_
  have L23 : ∀ (s0_1 : Int), (((-1) ≤ s0_1 ∧ s0_1 ≤ 24) ∧ (s0_1 < 0 ∨ (s0_1 ≤ 24 ∧ a4 ≤ s0_1))) → gv_X (gc_E2 ws0 tb 0 (yX2_fitsAt, cX2_fitsAt, 8, (some .int)) kX2_fitsAt) (gv_Q cX2_fitsAt (some .int) sh (fun r h' => (h' = gc_h sh I J A ∧ (∃ z : Int, r = some (.inl z) ∧ (-1) ≤ z ∧ z ≤ 24 ∧ (z < 0 ∨ a4 ≤ z))))) (23, [], [.inl s0_1], sh, gc_h sh I J A) := by
    intro s0_1 m_1
    obtain ⟨hs0_1, e0_1⟩ := m_1
    exact gv_iret hD rfl ⟨rfl, ⟨_, rfl, by omega⟩⟩
  have L81 : ∀ (s0_2 : Int), (((-1) ≤ s0_2 ∧ s0_2 ≤ 24) ∧ (s0_2 < 0 ∨ (s0_2 ≤ 24 ∧ a4 ≤ s0_2))) → gv_X (gc_E2 ws0 tb 0 (yX2_fitsAt, cX2_fitsAt, 8, (some .int)) kX2_fitsAt) (gv_Q cX2_fitsAt (some .int) sh (fun r h' => (h' = gc_h sh I J A ∧ (∃ z : Int, r = some (.inl z) ∧ (-1) ≤ z ∧ z ≤ 24 ∧ (z < 0 ∨ a4 ≤ z))))) (81, [], [.inl s0_2], sh, gc_h sh I J A) := by
    intro s0_2 m_2
    obtain ⟨hs0_2, e0_2⟩ := m_2
    exact gv_iret hD rfl ⟨rfl, ⟨_, rfl, by omega⟩⟩
  have L80 : gv_X (gc_E2 ws0 tb 0 (yX2_fitsAt, cX2_fitsAt, 8, (some .int)) kX2_fitsAt) (gv_Q cX2_fitsAt (some .int) sh (fun r h' => (h' = gc_h sh I J A ∧ (∃ z : Int, r = some (.inl z) ∧ (-1) ≤ z ∧ z ≤ 24 ∧ (z < 0 ∨ a4 ≤ z))))) (80, [], [], sh, gc_h sh I J A) := by
    refine gv_run 1 true hD (pc' := 81) (lv' := []) (st' := [.inl (-1)]) (h' := gc_h sh I J A) (C := (True ∧ True)) rfl ⟨trivial, trivial⟩ ?_
    exact L81 (-1) (by omega)
  have L107 : gv_X (gc_E2 ws0 tb 0 (yX2_fitsAt, cX2_fitsAt, 8, (some .int)) kX2_fitsAt) (gv_Q cX2_fitsAt (some .int) sh (fun r h' => (h' = gc_h sh I J A ∧ (∃ z : Int, r = some (.inl z) ∧ (-1) ≤ z ∧ z ≤ 24 ∧ (z < 0 ∨ a4 ≤ z))))) (107, [], [], sh, gc_h sh I J A) := by
    refine gv_run 1 true hD (pc' := 108) (lv' := []) (st' := [.inl (-1)]) (h' := gc_h sh I J A) (C := (True ∧ True)) rfl ⟨trivial, trivial⟩ ?_
    exact gv_iret hD rfl ⟨rfl, ⟨_, rfl, by omega⟩⟩
  have L112 : ∀ (n9 : Nat) (v6_5 : Int) (v7_5 : Int), (13 - v7_5).toNat < n9 → ((0 ≤ a2 ∧ a2 ≤ 597) ∧ (0 ≤ a4 ∧ a4 ≤ 60) ∧ (0 ≤ v6_5 ∧ v6_5 ≤ 12) ∧ (0 ≤ v7_5 ∧ v7_5 ≤ 12) ∧ (0 ≤ a4) ∧ (a4 + v6_5 ≤ a5)) → gv_X (gc_E2 ws0 tb 0 (yX2_fitsAt, cX2_fitsAt, 8, (some .int)) kX2_fitsAt) (gv_Q cX2_fitsAt (some .int) sh (fun r h' => (h' = gc_h sh I J A ∧ (∃ z : Int, r = some (.inl z) ∧ (-1) ≤ z ∧ z ≤ 24 ∧ (z < 0 ∨ a4 ≤ z))))) (112, [(0, .inr (.inr (some p))), (1, .inr (.inr (some a1))), (2, .inl a2), (3, .inr (.inr (some a3))), (4, .inl a4), (6, .inl v6_5), (7, .inl v7_5)], [], sh, gc_h sh I J A) := by
    intro n9
    induction n9 with
    | zero => intro v6_5 v7_5 hn; omega
    | succ n9 ih112 =>
      intro v6_5 v7_5 hn m_5
      obtain ⟨ha2_5, ha4_5, hv6_5, hv7_5, e0_5, e1_5⟩ := m_5
      refine gv_run 2 true hD (pc' := 116) (lv' := [(0, .inr (.inr (some p))), (1, .inr (.inr (some a1))), (2, .inl a2), (3, .inr (.inr (some a3))), (4, .inl a4), (6, .inl v6_5), (7, .inl v7_5)]) (st' := [.inl v6_5, .inl v7_5]) (h' := gc_h sh I J A) (C := ((True ∧ True) ∧ True)) rfl ⟨⟨trivial, trivial⟩, trivial⟩ ?_
      refine gv_icmp_ge (t := 153) hD rfl rfl ⟨⟨by omega, by omega⟩, ⟨by omega, by omega⟩⟩ (fun c6 => ?_) (fun c6 => ?_)
      · show gv_X _ _ (153, [(0, .inr (.inr (some p))), (1, .inr (.inr (some a1))), (2, .inl a2), (3, .inr (.inr (some a3))), (4, .inl a4), (6, .inl v6_5), (7, .inl v7_5)], [], sh, gc_h sh I J A)
        refine gv_run 3 true hD (pc' := 158) (lv' := [(0, .inr (.inr (some p))), (1, .inr (.inr (some a1))), (2, .inl a2), (3, .inr (.inr (some a3))), (4, .inl a4), (6, .inl v6_5), (7, .inl v7_5)]) (st' := [.inl (a4 + v6_5)]) (h' := gc_h sh I J A) (C := (((True ∧ True) ∧ True) ∧ True)) rfl ⟨⟨⟨trivial, trivial⟩, trivial⟩, trivial⟩ ?_
        exact gv_iret hD rfl ⟨rfl, ⟨_, rfl, by omega⟩⟩
      · show gv_X _ _ (119, [(0, .inr (.inr (some p))), (1, .inr (.inr (some a1))), (2, .inl a2), (3, .inr (.inr (some a3))), (4, .inl a4), (6, .inl v6_5), (7, .inl v7_5)], [], sh, gc_h sh I J A)
        refine gv_run 4 true hD (pc' := 125) (lv' := [(0, .inr (.inr (some p))), (1, .inr (.inr (some a1))), (2, .inl a2), (3, .inr (.inr (some a3))), (4, .inl a4), (6, .inl v6_5), (7, .inl v7_5)]) (st' := [.inl (a4 + v7_5), .inr (.inr (some a3))]) (h' := gc_h sh I J A) (C := ((((True ∧ True) ∧ True) ∧ True) ∧ True)) rfl ⟨⟨⟨⟨trivial, trivial⟩, trivial⟩, trivial⟩, trivial⟩ ?_
        have f7 := (show (-128) ≤ I a3 (Int.toNat ((a4 + v7_5))) ∧ I a3 (Int.toNat ((a4 + v7_5))) ≤ 127 from gc_in hI R_a3 rfl rfl)
        refine gv_bald hD rfl S_a3 (Or.inl rfl) ⟨by omega, B_a3⟩ ⟨by omega, by omega⟩ (gc_iI S_a3 rfl) ?_
        show gv_X _ _ (126, [(0, .inr (.inr (some p))), (1, .inr (.inr (some a1))), (2, .inl a2), (3, .inr (.inr (some a3))), (4, .inl a4), (6, .inl v6_5), (7, .inl v7_5)], [.inl (I a3 (Int.toNat ((a4 + v7_5))))], sh, gc_h sh I J A)
        refine gv_run 1 true hD (pc' := 127) (lv' := [(0, .inr (.inr (some p))), (1, .inr (.inr (some a1))), (2, .inl a2), (3, .inr (.inr (some a3))), (4, .inl a4), (6, .inl v6_5), (7, .inl v7_5)]) (st' := [.inr (.inr (some p)), .inl (I a3 (Int.toNat ((a4 + v7_5))))]) (h' := gc_h sh I J A) (C := (True ∧ True)) rfl ⟨trivial, trivial⟩ ?_
        refine gv_get hD rfl rfl S_p ⟨by decide, B_p⟩ (gc_hA S_p rfl A_p_0) ?_
        show gv_X _ _ (130, [(0, .inr (.inr (some p))), (1, .inr (.inr (some a1))), (2, .inl a2), (3, .inr (.inr (some a3))), (4, .inl a4), (6, .inl v6_5), (7, .inl v7_5)], [.inr (.inr (some 20)), .inl (I a3 (Int.toNat ((a4 + v7_5))))], sh, gc_h sh I J A)
        refine gv_run 1 true hD (pc' := 131) (lv' := [(0, .inr (.inr (some p))), (1, .inr (.inr (some a1))), (2, .inl a2), (3, .inr (.inr (some a3))), (4, .inl a4), (6, .inl v6_5), (7, .inl v7_5)]) (st' := [.inr (.inr (some a1)), .inr (.inr (some 20)), .inl (I a3 (Int.toNat ((a4 + v7_5))))]) (h' := gc_h sh I J A) (C := (True ∧ True)) rfl ⟨trivial, trivial⟩ ?_
        refine gv_get hD rfl rfl S_a1 ⟨by decide, B_a1⟩ (gc_hA S_a1 rfl A_a1_7) ?_
        show gv_X _ _ (134, [(0, .inr (.inr (some p))), (1, .inr (.inr (some a1))), (2, .inl a2), (3, .inr (.inr (some a3))), (4, .inl a4), (6, .inl v6_5), (7, .inl v7_5)], [.inr (.inr (some (a1 + 10))), .inr (.inr (some 20)), .inl (I a3 (Int.toNat ((a4 + v7_5))))], sh, gc_h sh I J A)
        refine gv_run 3 true hD (pc' := 137) (lv' := [(0, .inr (.inr (some p))), (1, .inr (.inr (some a1))), (2, .inl a2), (3, .inr (.inr (some a3))), (4, .inl a4), (6, .inl v6_5), (7, .inl v7_5)]) (st' := [.inl (a2 + 1), .inr (.inr (some (a1 + 10))), .inr (.inr (some 20)), .inl (I a3 (Int.toNat ((a4 + v7_5))))]) (h' := gc_h sh I J A) (C := (((True ∧ True) ∧ True) ∧ True)) rfl ⟨⟨⟨trivial, trivial⟩, trivial⟩, trivial⟩ ?_
        have f8 := (show 0 ≤ I (a1 + 10) (Int.toNat ((a2 + 1))) ∧ I (a1 + 10) (Int.toNat ((a2 + 1))) ≤ 2000 from (by
        have hc : (Int.toNat ((a2 + 1))) % 25 = 1 ∨ (Int.toNat ((a2 + 1))) % 25 = 8 ∨ (Int.toNat ((a2 + 1))) % 25 = 11 ∨ (Int.toNat ((a2 + 1))) % 25 = 14 ∨ (Int.toNat ((a2 + 1))) % 25 = 17 ∨ (Int.toNat ((a2 + 1))) % 25 = 20 ∨ (Int.toNat ((a2 + 1))) % 25 = 23 := by omega
        rcases hc with hc | hc | hc | hc | hc | hc | hc <;> exact gc_inm hI R_a1_10 rfl rfl hc rfl rfl))
        refine gv_iald hD rfl S_a1_10 rfl ⟨by decide, B_a1_10⟩ ⟨by omega, by omega⟩ (gc_iI S_a1_10 rfl) ?_
        show gv_X _ _ (138, [(0, .inr (.inr (some p))), (1, .inr (.inr (some a1))), (2, .inl a2), (3, .inr (.inr (some a3))), (4, .inl a4), (6, .inl v6_5), (7, .inl v7_5)], [.inl (I (a1 + 10) (Int.toNat ((a2 + 1)))), .inr (.inr (some 20)), .inl (I a3 (Int.toNat ((a4 + v7_5))))], sh, gc_h sh I J A)
        refine gv_run 2 true hD (pc' := 141) (lv' := [(0, .inr (.inr (some p))), (1, .inr (.inr (some a1))), (2, .inl a2), (3, .inr (.inr (some a3))), (4, .inl a4), (6, .inl v6_5), (7, .inl v7_5)]) (st' := [.inl ((I (a1 + 10) (Int.toNat ((a2 + 1)))) + v7_5), .inr (.inr (some 20)), .inl (I a3 (Int.toNat ((a4 + v7_5))))]) (h' := gc_h sh I J A) (C := ((True ∧ True) ∧ True)) rfl ⟨⟨trivial, trivial⟩, trivial⟩ ?_
        have f9 := (show 0 ≤ I 20 (Int.toNat (((I (a1 + 10) (Int.toNat ((a2 + 1)))) + v7_5))) ∧ I 20 (Int.toNat (((I (a1 + 10) (Int.toNat ((a2 + 1)))) + v7_5))) ≤ 127 from gc_in hI R_20 rfl rfl)
        refine gv_bald hD rfl S_20 (Or.inl rfl) ⟨by decide, B_20⟩ ⟨by omega, by omega⟩ (gc_iI S_20 rfl) ?_
        show gv_X _ _ (142, [(0, .inr (.inr (some p))), (1, .inr (.inr (some a1))), (2, .inl a2), (3, .inr (.inr (some a3))), (4, .inl a4), (6, .inl v6_5), (7, .inl v7_5)], [.inl (I 20 (Int.toNat (((I (a1 + 10) (Int.toNat ((a2 + 1)))) + v7_5)))), .inl (I a3 (Int.toNat ((a4 + v7_5))))], sh, gc_h sh I J A)
        refine gv_icmp_eq (t := 147) hD rfl rfl ⟨⟨by omega, by omega⟩, ⟨by omega, by omega⟩⟩ (fun c10 => ?_) (fun c10 => ?_)
        · show gv_X _ _ (147, [(0, .inr (.inr (some p))), (1, .inr (.inr (some a1))), (2, .inl a2), (3, .inr (.inr (some a3))), (4, .inl a4), (6, .inl v6_5), (7, .inl v7_5)], [], sh, gc_h sh I J A)
          refine gv_run 2 true hD (pc' := 112) (lv' := [(7, .inl (v7_5 + 1)), (0, .inr (.inr (some p))), (1, .inr (.inr (some a1))), (2, .inl a2), (3, .inr (.inr (some a3))), (4, .inl a4), (6, .inl v6_5)]) (st' := []) (h' := gc_h sh I J A) (C := ((True ∧ True) ∧ True)) rfl ⟨⟨trivial, trivial⟩, trivial⟩ ?_
          refine gv_pick [1, 2, 3, 4, 5, 6, 0] rfl ?_
          exact ih112 v6_5 (v7_5 + 1) (by omega) (by omega)
        · show gv_X _ _ (145, [(0, .inr (.inr (some p))), (1, .inr (.inr (some a1))), (2, .inl a2), (3, .inr (.inr (some a3))), (4, .inl a4), (6, .inl v6_5), (7, .inl v7_5)], [], sh, gc_h sh I J A)
          refine gv_run 1 true hD (pc' := 146) (lv' := [(0, .inr (.inr (some p))), (1, .inr (.inr (some a1))), (2, .inl a2), (3, .inr (.inr (some a3))), (4, .inl a4), (6, .inl v6_5), (7, .inl v7_5)]) (st' := [.inl (-1)]) (h' := gc_h sh I J A) (C := (True ∧ True)) rfl ⟨trivial, trivial⟩ ?_
          exact gv_iret hD rfl ⟨rfl, ⟨_, rfl, by omega⟩⟩
  refine gv_run 1 true hD (pc' := 1) (lv' := [(0, .inr (.inr (some p))), (1, .inr (.inr (some a1))), (2, .inl a2), (3, .inr (.inr (some a3))), (4, .inl a4), (5, .inl a5)]) (st' := [.inr (.inr (some a1))]) (h' := gc_h sh I J A) (C := (True ∧ True)) rfl ⟨trivial, trivial⟩ ?_
  refine gv_get hD rfl rfl S_a1 ⟨by decide, B_a1⟩ (gc_hA S_a1 rfl A_a1_7) ?_
  show gv_X _ _ (4, [(0, .inr (.inr (some p))), (1, .inr (.inr (some a1))), (2, .inl a2), (3, .inr (.inr (some a3))), (4, .inl a4), (5, .inl a5)], [.inr (.inr (some (a1 + 10)))], sh, gc_h sh I J A)
  refine gv_run 1 true hD (pc' := 5) (lv' := [(0, .inr (.inr (some p))), (1, .inr (.inr (some a1))), (2, .inl a2), (3, .inr (.inr (some a3))), (4, .inl a4), (5, .inl a5)]) (st' := [.inl a2, .inr (.inr (some (a1 + 10)))]) (h' := gc_h sh I J A) (C := (True ∧ True)) rfl ⟨trivial, trivial⟩ ?_
  have f11 := (show 0 ≤ I (a1 + 10) (Int.toNat a2) ∧ I (a1 + 10) (Int.toNat a2) ≤ 2 from (by
        have hc : (Int.toNat a2) % 25 = 0 ∨ (Int.toNat a2) % 25 = 7 ∨ (Int.toNat a2) % 25 = 10 ∨ (Int.toNat a2) % 25 = 13 ∨ (Int.toNat a2) % 25 = 16 ∨ (Int.toNat a2) % 25 = 19 ∨ (Int.toNat a2) % 25 = 22 := by omega
        rcases hc with hc | hc | hc | hc | hc | hc | hc <;> exact gc_inm hI R_a1_10 rfl rfl hc rfl rfl))
  refine gv_iald hD rfl S_a1_10 rfl ⟨by decide, B_a1_10⟩ ⟨by omega, by omega⟩ (gc_iI S_a1_10 rfl) ?_
  show gv_X _ _ (6, [(0, .inr (.inr (some p))), (1, .inr (.inr (some a1))), (2, .inl a2), (3, .inr (.inr (some a3))), (4, .inl a4), (5, .inl a5)], [.inl (I (a1 + 10) (Int.toNat a2))], sh, gc_h sh I J A)
  refine gv_run 1 true hD (pc' := 7) (lv' := [(0, .inr (.inr (some p))), (1, .inr (.inr (some a1))), (2, .inl a2), (3, .inr (.inr (some a3))), (4, .inl a4), (5, .inl a5)]) (st' := [.inl 2, .inl (I (a1 + 10) (Int.toNat a2))]) (h' := gc_h sh I J A) (C := (True ∧ True)) rfl ⟨trivial, trivial⟩ ?_
  refine gv_icmp_ne (t := 24) hD rfl rfl ⟨⟨by omega, by omega⟩, ⟨by omega, by omega⟩⟩ (fun c12 => ?_) (fun c12 => ?_)
  · show gv_X _ _ (24, [(0, .inr (.inr (some p))), (1, .inr (.inr (some a1))), (2, .inl a2), (3, .inr (.inr (some a3))), (4, .inl a4), (5, .inl a5)], [], sh, gc_h sh I J A)
    refine gv_run 1 true hD (pc' := 25) (lv' := [(0, .inr (.inr (some p))), (1, .inr (.inr (some a1))), (2, .inl a2), (3, .inr (.inr (some a3))), (4, .inl a4), (5, .inl a5)]) (st' := [.inr (.inr (some a1))]) (h' := gc_h sh I J A) (C := (True ∧ True)) rfl ⟨trivial, trivial⟩ ?_
    refine gv_get hD rfl rfl S_a1 ⟨by decide, B_a1⟩ (gc_hA S_a1 rfl A_a1_7) ?_
    show gv_X _ _ (28, [(0, .inr (.inr (some p))), (1, .inr (.inr (some a1))), (2, .inl a2), (3, .inr (.inr (some a3))), (4, .inl a4), (5, .inl a5)], [.inr (.inr (some (a1 + 10)))], sh, gc_h sh I J A)
    refine gv_run 1 true hD (pc' := 29) (lv' := [(0, .inr (.inr (some p))), (1, .inr (.inr (some a1))), (2, .inl a2), (3, .inr (.inr (some a3))), (4, .inl a4), (5, .inl a5)]) (st' := [.inl a2, .inr (.inr (some (a1 + 10)))]) (h' := gc_h sh I J A) (C := (True ∧ True)) rfl ⟨trivial, trivial⟩ ?_
    have f13 := (show 0 ≤ I (a1 + 10) (Int.toNat a2) ∧ I (a1 + 10) (Int.toNat a2) ≤ 2 from (by
        have hc : (Int.toNat a2) % 25 = 0 ∨ (Int.toNat a2) % 25 = 7 ∨ (Int.toNat a2) % 25 = 10 ∨ (Int.toNat a2) % 25 = 13 ∨ (Int.toNat a2) % 25 = 16 ∨ (Int.toNat a2) % 25 = 19 ∨ (Int.toNat a2) % 25 = 22 := by omega
        rcases hc with hc | hc | hc | hc | hc | hc | hc <;> exact gc_inm hI R_a1_10 rfl rfl hc rfl rfl))
    refine gv_iald hD rfl S_a1_10 rfl ⟨by decide, B_a1_10⟩ ⟨by omega, by omega⟩ (gc_iI S_a1_10 rfl) ?_
    show gv_X _ _ (30, [(0, .inr (.inr (some p))), (1, .inr (.inr (some a1))), (2, .inl a2), (3, .inr (.inr (some a3))), (4, .inl a4), (5, .inl a5)], [.inl (I (a1 + 10) (Int.toNat a2))], sh, gc_h sh I J A)
    refine gv_run 1 true hD (pc' := 31) (lv' := [(0, .inr (.inr (some p))), (1, .inr (.inr (some a1))), (2, .inl a2), (3, .inr (.inr (some a3))), (4, .inl a4), (5, .inl a5)]) (st' := [.inl 1, .inl (I (a1 + 10) (Int.toNat a2))]) (h' := gc_h sh I J A) (C := (True ∧ True)) rfl ⟨trivial, trivial⟩ ?_
    refine gv_icmp_ne (t := 82) hD rfl rfl ⟨⟨by omega, by omega⟩, ⟨by omega, by omega⟩⟩ (fun c14 => ?_) (fun c14 => ?_)
    · show gv_X _ _ (82, [(0, .inr (.inr (some p))), (1, .inr (.inr (some a1))), (2, .inl a2), (3, .inr (.inr (some a3))), (4, .inl a4), (5, .inl a5)], [], sh, gc_h sh I J A)
      refine gv_run 1 true hD (pc' := 83) (lv' := [(0, .inr (.inr (some p))), (1, .inr (.inr (some a1))), (2, .inl a2), (3, .inr (.inr (some a3))), (4, .inl a4), (5, .inl a5)]) (st' := [.inr (.inr (some a1))]) (h' := gc_h sh I J A) (C := (True ∧ True)) rfl ⟨trivial, trivial⟩ ?_
      refine gv_get hD rfl rfl S_a1 ⟨by decide, B_a1⟩ (gc_hA S_a1 rfl A_a1_7) ?_
      show gv_X _ _ (86, [(0, .inr (.inr (some p))), (1, .inr (.inr (some a1))), (2, .inl a2), (3, .inr (.inr (some a3))), (4, .inl a4), (5, .inl a5)], [.inr (.inr (some (a1 + 10)))], sh, gc_h sh I J A)
      refine gv_run 3 true hD (pc' := 89) (lv' := [(0, .inr (.inr (some p))), (1, .inr (.inr (some a1))), (2, .inl a2), (3, .inr (.inr (some a3))), (4, .inl a4), (5, .inl a5)]) (st' := [.inl (a2 + 2), .inr (.inr (some (a1 + 10)))]) (h' := gc_h sh I J A) (C := (((True ∧ True) ∧ True) ∧ True)) rfl ⟨⟨⟨trivial, trivial⟩, trivial⟩, trivial⟩ ?_
      have f15 := (show 0 ≤ I (a1 + 10) (Int.toNat ((a2 + 2))) ∧ I (a1 + 10) (Int.toNat ((a2 + 2))) ≤ 12 from (by
        have hc : (Int.toNat ((a2 + 2))) % 25 = 2 ∨ (Int.toNat ((a2 + 2))) % 25 = 9 ∨ (Int.toNat ((a2 + 2))) % 25 = 12 ∨ (Int.toNat ((a2 + 2))) % 25 = 15 ∨ (Int.toNat ((a2 + 2))) % 25 = 18 ∨ (Int.toNat ((a2 + 2))) % 25 = 21 ∨ (Int.toNat ((a2 + 2))) % 25 = 24 := by omega
        rcases hc with hc | hc | hc | hc | hc | hc | hc <;> exact gc_inm hI R_a1_10 rfl rfl hc rfl rfl))
      refine gv_iald hD rfl S_a1_10 rfl ⟨by decide, B_a1_10⟩ ⟨by omega, by omega⟩ (gc_iI S_a1_10 rfl) ?_
      show gv_X _ _ (90, [(0, .inr (.inr (some p))), (1, .inr (.inr (some a1))), (2, .inl a2), (3, .inr (.inr (some a3))), (4, .inl a4), (5, .inl a5)], [.inl (I (a1 + 10) (Int.toNat ((a2 + 2))))], sh, gc_h sh I J A)
      refine gv_run 2 true hD (pc' := 94) (lv' := [(6, .inl (I (a1 + 10) (Int.toNat ((a2 + 2))))), (0, .inr (.inr (some p))), (1, .inr (.inr (some a1))), (2, .inl a2), (3, .inr (.inr (some a3))), (4, .inl a4), (5, .inl a5)]) (st' := [.inl a4]) (h' := gc_h sh I J A) (C := ((True ∧ True) ∧ True)) rfl ⟨⟨trivial, trivial⟩, trivial⟩ ?_
      refine gv_if_lt (t := 107) hD rfl rfl ⟨by omega, by omega⟩ (fun c16 => ?_) (fun c16 => ?_)
      · show gv_X _ _ (107, [(6, .inl (I (a1 + 10) (Int.toNat ((a2 + 2))))), (0, .inr (.inr (some p))), (1, .inr (.inr (some a1))), (2, .inl a2), (3, .inr (.inr (some a3))), (4, .inl a4), (5, .inl a5)], [], sh, gc_h sh I J A)
        refine gv_pick [] rfl ?_
        exact L107 
      · show gv_X _ _ (97, [(6, .inl (I (a1 + 10) (Int.toNat ((a2 + 2))))), (0, .inr (.inr (some p))), (1, .inr (.inr (some a1))), (2, .inl a2), (3, .inr (.inr (some a3))), (4, .inl a4), (5, .inl a5)], [], sh, gc_h sh I J A)
        refine gv_run 4 true hD (pc' := 104) (lv' := [(6, .inl (I (a1 + 10) (Int.toNat ((a2 + 2))))), (0, .inr (.inr (some p))), (1, .inr (.inr (some a1))), (2, .inl a2), (3, .inr (.inr (some a3))), (4, .inl a4), (5, .inl a5)]) (st' := [.inl a5, .inl (a4 + (I (a1 + 10) (Int.toNat ((a2 + 2)))))]) (h' := gc_h sh I J A) (C := ((((True ∧ True) ∧ True) ∧ True) ∧ True)) rfl ⟨⟨⟨⟨trivial, trivial⟩, trivial⟩, trivial⟩, trivial⟩ ?_
        refine gv_icmp_le (t := 109) hD rfl rfl ⟨⟨by omega, by omega⟩, ⟨by omega, by omega⟩⟩ (fun c17 => ?_) (fun c17 => ?_)
        · show gv_X _ _ (109, [(6, .inl (I (a1 + 10) (Int.toNat ((a2 + 2))))), (0, .inr (.inr (some p))), (1, .inr (.inr (some a1))), (2, .inl a2), (3, .inr (.inr (some a3))), (4, .inl a4), (5, .inl a5)], [], sh, gc_h sh I J A)
          refine gv_run 2 true hD (pc' := 112) (lv' := [(7, .inl 0), (6, .inl (I (a1 + 10) (Int.toNat ((a2 + 2))))), (0, .inr (.inr (some p))), (1, .inr (.inr (some a1))), (2, .inl a2), (3, .inr (.inr (some a3))), (4, .inl a4), (5, .inl a5)]) (st' := []) (h' := gc_h sh I J A) (C := ((True ∧ True) ∧ True)) rfl ⟨⟨trivial, trivial⟩, trivial⟩ ?_
          refine gv_pick [2, 3, 4, 5, 6, 1, 0] rfl ?_
          exact L112 _ ((I (a1 + 10) (Int.toNat ((a2 + 2))))) 0 (Nat.lt_succ_self _) (by omega)
        · show gv_X _ _ (107, [(6, .inl (I (a1 + 10) (Int.toNat ((a2 + 2))))), (0, .inr (.inr (some p))), (1, .inr (.inr (some a1))), (2, .inl a2), (3, .inr (.inr (some a3))), (4, .inl a4), (5, .inl a5)], [], sh, gc_h sh I J A)
          refine gv_pick [] rfl ?_
          exact L107 
    · show gv_X _ _ (34, [(0, .inr (.inr (some p))), (1, .inr (.inr (some a1))), (2, .inl a2), (3, .inr (.inr (some a3))), (4, .inl a4), (5, .inl a5)], [], sh, gc_h sh I J A)
      refine gv_run 1 true hD (pc' := 36) (lv' := [(0, .inr (.inr (some p))), (1, .inr (.inr (some a1))), (2, .inl a2), (3, .inr (.inr (some a3))), (4, .inl a4), (5, .inl a5)]) (st' := [.inl a4]) (h' := gc_h sh I J A) (C := (True ∧ True)) rfl ⟨trivial, trivial⟩ ?_
      refine gv_if_lt (t := 80) hD rfl rfl ⟨by omega, by omega⟩ (fun c18 => ?_) (fun c18 => ?_)
      · show gv_X _ _ (80, [(0, .inr (.inr (some p))), (1, .inr (.inr (some a1))), (2, .inl a2), (3, .inr (.inr (some a3))), (4, .inl a4), (5, .inl a5)], [], sh, gc_h sh I J A)
        refine gv_pick [] rfl ?_
        exact L80 
      · show gv_X _ _ (39, [(0, .inr (.inr (some p))), (1, .inr (.inr (some a1))), (2, .inl a2), (3, .inr (.inr (some a3))), (4, .inl a4), (5, .inl a5)], [], sh, gc_h sh I J A)
        refine gv_run 2 true hD (pc' := 43) (lv' := [(0, .inr (.inr (some p))), (1, .inr (.inr (some a1))), (2, .inl a2), (3, .inr (.inr (some a3))), (4, .inl a4), (5, .inl a5)]) (st' := [.inl a5, .inl a4]) (h' := gc_h sh I J A) (C := ((True ∧ True) ∧ True)) rfl ⟨⟨trivial, trivial⟩, trivial⟩ ?_
        refine gv_icmp_ge (t := 80) hD rfl rfl ⟨⟨by omega, by omega⟩, ⟨by omega, by omega⟩⟩ (fun c19 => ?_) (fun c19 => ?_)
        · show gv_X _ _ (80, [(0, .inr (.inr (some p))), (1, .inr (.inr (some a1))), (2, .inl a2), (3, .inr (.inr (some a3))), (4, .inl a4), (5, .inl a5)], [], sh, gc_h sh I J A)
          refine gv_pick [] rfl ?_
          exact L80 
        · show gv_X _ _ (46, [(0, .inr (.inr (some p))), (1, .inr (.inr (some a1))), (2, .inl a2), (3, .inr (.inr (some a3))), (4, .inl a4), (5, .inl a5)], [], sh, gc_h sh I J A)
          refine gv_run 1 true hD (pc' := 47) (lv' := [(0, .inr (.inr (some p))), (1, .inr (.inr (some a1))), (2, .inl a2), (3, .inr (.inr (some a3))), (4, .inl a4), (5, .inl a5)]) (st' := [.inr (.inr (some a1))]) (h' := gc_h sh I J A) (C := (True ∧ True)) rfl ⟨trivial, trivial⟩ ?_
          refine gv_get hD rfl rfl S_a1 ⟨by decide, B_a1⟩ (gc_hA S_a1 rfl A_a1_5) ?_
          show gv_X _ _ (50, [(0, .inr (.inr (some p))), (1, .inr (.inr (some a1))), (2, .inl a2), (3, .inr (.inr (some a3))), (4, .inl a4), (5, .inl a5)], [.inr (.inr (some (a1 + 9)))], sh, gc_h sh I J A)
          refine gv_run 1 true hD (pc' := 51) (lv' := [(0, .inr (.inr (some p))), (1, .inr (.inr (some a1))), (2, .inl a2), (3, .inr (.inr (some a3))), (4, .inl a4), (5, .inl a5)]) (st' := [.inr (.inr (some a1)), .inr (.inr (some (a1 + 9)))]) (h' := gc_h sh I J A) (C := (True ∧ True)) rfl ⟨trivial, trivial⟩ ?_
          refine gv_get hD rfl rfl S_a1 ⟨by decide, B_a1⟩ (gc_hA S_a1 rfl A_a1_7) ?_
          show gv_X _ _ (54, [(0, .inr (.inr (some p))), (1, .inr (.inr (some a1))), (2, .inl a2), (3, .inr (.inr (some a3))), (4, .inl a4), (5, .inl a5)], [.inr (.inr (some (a1 + 10))), .inr (.inr (some (a1 + 9)))], sh, gc_h sh I J A)
          refine gv_run 3 true hD (pc' := 57) (lv' := [(0, .inr (.inr (some p))), (1, .inr (.inr (some a1))), (2, .inl a2), (3, .inr (.inr (some a3))), (4, .inl a4), (5, .inl a5)]) (st' := [.inl (a2 + 1), .inr (.inr (some (a1 + 10))), .inr (.inr (some (a1 + 9)))]) (h' := gc_h sh I J A) (C := (((True ∧ True) ∧ True) ∧ True)) rfl ⟨⟨⟨trivial, trivial⟩, trivial⟩, trivial⟩ ?_
          have f20 := (show 0 ≤ I (a1 + 10) (Int.toNat ((a2 + 1))) ∧ I (a1 + 10) (Int.toNat ((a2 + 1))) ≤ 2000 from (by
        have hc : (Int.toNat ((a2 + 1))) % 25 = 1 ∨ (Int.toNat ((a2 + 1))) % 25 = 8 ∨ (Int.toNat ((a2 + 1))) % 25 = 11 ∨ (Int.toNat ((a2 + 1))) % 25 = 14 ∨ (Int.toNat ((a2 + 1))) % 25 = 17 ∨ (Int.toNat ((a2 + 1))) % 25 = 20 ∨ (Int.toNat ((a2 + 1))) % 25 = 23 := by omega
        rcases hc with hc | hc | hc | hc | hc | hc | hc <;> exact gc_inm hI R_a1_10 rfl rfl hc rfl rfl))
          refine gv_iald hD rfl S_a1_10 rfl ⟨by decide, B_a1_10⟩ ⟨by omega, by omega⟩ (gc_iI S_a1_10 rfl) ?_
          show gv_X _ _ (58, [(0, .inr (.inr (some p))), (1, .inr (.inr (some a1))), (2, .inl a2), (3, .inr (.inr (some a3))), (4, .inl a4), (5, .inl a5)], [.inl (I (a1 + 10) (Int.toNat ((a2 + 1)))), .inr (.inr (some (a1 + 9)))], sh, gc_h sh I J A)
          have f21 := (show (-2147483648) ≤ I (a1 + 9) (Int.toNat ((I (a1 + 10) (Int.toNat ((a2 + 1)))))) ∧ I (a1 + 9) (Int.toNat ((I (a1 + 10) (Int.toNat ((a2 + 1)))))) ≤ 2147483647 from gc_in hI R_a1_9 rfl rfl)
          refine gv_iald hD rfl S_a1_9 rfl ⟨by decide, B_a1_9⟩ ⟨by omega, by omega⟩ (gc_iI S_a1_9 rfl) ?_
          show gv_X _ _ (59, [(0, .inr (.inr (some p))), (1, .inr (.inr (some a1))), (2, .inl a2), (3, .inr (.inr (some a3))), (4, .inl a4), (5, .inl a5)], [.inl (I (a1 + 9) (Int.toNat ((I (a1 + 10) (Int.toNat ((a2 + 1)))))))], sh, gc_h sh I J A)
          refine gv_run 2 true hD (pc' := 62) (lv' := [(0, .inr (.inr (some p))), (1, .inr (.inr (some a1))), (2, .inl a2), (3, .inr (.inr (some a3))), (4, .inl a4), (5, .inl a5)]) (st' := [.inl a4, .inr (.inr (some a3)), .inl (I (a1 + 9) (Int.toNat ((I (a1 + 10) (Int.toNat ((a2 + 1)))))))]) (h' := gc_h sh I J A) (C := ((True ∧ True) ∧ True)) rfl ⟨⟨trivial, trivial⟩, trivial⟩ ?_
          have f22 := (show (-128) ≤ I a3 (Int.toNat a4) ∧ I a3 (Int.toNat a4) ≤ 127 from gc_in hI R_a3 rfl rfl)
          refine gv_bald hD rfl S_a3 (Or.inl rfl) ⟨by omega, B_a3⟩ ⟨by omega, by omega⟩ (gc_iI S_a3 rfl) ?_
          show gv_X _ _ (63, [(0, .inr (.inr (some p))), (1, .inr (.inr (some a1))), (2, .inl a2), (3, .inr (.inr (some a3))), (4, .inl a4), (5, .inl a5)], [.inl (I a3 (Int.toNat a4)), .inl (I (a1 + 9) (Int.toNat ((I (a1 + 10) (Int.toNat ((a2 + 1)))))))], sh, gc_h sh I J A)
          have f23 := gw_any (Int32.ofInt ((I (a1 + 9) (Int.toNat ((I (a1 + 10) (Int.toNat ((a2 + 1)))))))) >>> (Int32.ofInt (((I a3 (Int.toNat a4)) - 97)) &&& 31))
          have f24 := gw_and (x := (((Int32.ofInt ((I (a1 + 9) (Int.toNat ((I (a1 + 10) (Int.toNat ((a2 + 1)))))))) >>> (Int32.ofInt (((I a3 (Int.toNat a4)) - 97)) &&& 31)).toInt))) (y := 1) ⟨by omega, by omega⟩
          refine gv_run 6 true hD (pc' := 70) (lv' := [(0, .inr (.inr (some p))), (1, .inr (.inr (some a1))), (2, .inl a2), (3, .inr (.inr (some a3))), (4, .inl a4), (5, .inl a5)]) (st' := [.inl 1, .inl ((Int32.ofInt (((Int32.ofInt ((I (a1 + 9) (Int.toNat ((I (a1 + 10) (Int.toNat ((a2 + 1)))))))) >>> (Int32.ofInt (((I a3 (Int.toNat a4)) - 97)) &&& 31)).toInt)) &&& Int32.ofInt 1).toInt)]) (h' := gc_h sh I J A) (C := ((((((True ∧ True) ∧ True) ∧ True) ∧ True) ∧ True) ∧ True)) rfl ⟨⟨⟨⟨⟨⟨trivial, trivial⟩, trivial⟩, trivial⟩, trivial⟩, trivial⟩, trivial⟩ ?_
          refine gv_icmp_ne (t := 80) hD rfl rfl ⟨⟨by omega, by omega⟩, ⟨by omega, by omega⟩⟩ (fun c25 => ?_) (fun c25 => ?_)
          · show gv_X _ _ (80, [(0, .inr (.inr (some p))), (1, .inr (.inr (some a1))), (2, .inl a2), (3, .inr (.inr (some a3))), (4, .inl a4), (5, .inl a5)], [], sh, gc_h sh I J A)
            refine gv_pick [] rfl ?_
            exact L80 
          · show gv_X _ _ (73, [(0, .inr (.inr (some p))), (1, .inr (.inr (some a1))), (2, .inl a2), (3, .inr (.inr (some a3))), (4, .inl a4), (5, .inl a5)], [], sh, gc_h sh I J A)
            refine gv_run 4 true hD (pc' := 81) (lv' := [(0, .inr (.inr (some p))), (1, .inr (.inr (some a1))), (2, .inl a2), (3, .inr (.inr (some a3))), (4, .inl a4), (5, .inl a5)]) (st' := [.inl (a4 + 1)]) (h' := gc_h sh I J A) (C := ((((True ∧ True) ∧ True) ∧ True) ∧ True)) rfl ⟨⟨⟨⟨trivial, trivial⟩, trivial⟩, trivial⟩, trivial⟩ ?_
            refine gv_pick [] rfl ?_
            exact L81 (a4 + 1) (by omega)
  · show gv_X _ _ (10, [(0, .inr (.inr (some p))), (1, .inr (.inr (some a1))), (2, .inl a2), (3, .inr (.inr (some a3))), (4, .inl a4), (5, .inl a5)], [], sh, gc_h sh I J A)
    refine gv_run 2 true hD (pc' := 14) (lv' := [(0, .inr (.inr (some p))), (1, .inr (.inr (some a1))), (2, .inl a2), (3, .inr (.inr (some a3))), (4, .inl a4), (5, .inl a5)]) (st' := [.inl a5, .inl a4]) (h' := gc_h sh I J A) (C := ((True ∧ True) ∧ True)) rfl ⟨⟨trivial, trivial⟩, trivial⟩ ?_
    refine gv_icmp_ne (t := 22) hD rfl rfl ⟨⟨by omega, by omega⟩, ⟨by omega, by omega⟩⟩ (fun c26 => ?_) (fun c26 => ?_)
    · show gv_X _ _ (22, [(0, .inr (.inr (some p))), (1, .inr (.inr (some a1))), (2, .inl a2), (3, .inr (.inr (some a3))), (4, .inl a4), (5, .inl a5)], [], sh, gc_h sh I J A)
      refine gv_run 1 true hD (pc' := 23) (lv' := [(0, .inr (.inr (some p))), (1, .inr (.inr (some a1))), (2, .inl a2), (3, .inr (.inr (some a3))), (4, .inl a4), (5, .inl a5)]) (st' := [.inl (-1)]) (h' := gc_h sh I J A) (C := (True ∧ True)) rfl ⟨trivial, trivial⟩ ?_
      refine gv_pick [] rfl ?_
      exact L23 (-1) (by omega)
    · show gv_X _ _ (17, [(0, .inr (.inr (some p))), (1, .inr (.inr (some a1))), (2, .inl a2), (3, .inr (.inr (some a3))), (4, .inl a4), (5, .inl a5)], [], sh, gc_h sh I J A)
      refine gv_run 2 true hD (pc' := 23) (lv' := [(0, .inr (.inr (some p))), (1, .inr (.inr (some a1))), (2, .inl a2), (3, .inr (.inr (some a3))), (4, .inl a4), (5, .inl a5)]) (st' := [.inl a4]) (h' := gc_h sh I J A) (C := ((True ∧ True) ∧ True)) rfl ⟨⟨trivial, trivial⟩, trivial⟩ ?_
      refine gv_pick [] rfl ?_
      exact L23 a4 (by omega)
set_option maxHeartbeats 4000000 in
set_option maxRecDepth 100000 in
theorem d_X2_leftFits {ws0 : List Cond} {tb : String → gz_T} (hws : gc_Ws ws0) (htb : gc_tbs tb) (sh : gz_Sh) (ro : Nat → Nat) (I : gr_I) (J : gr_J) (A : gc_A) (hI : gc_Inv ro I) (p : Nat) (a1 : Nat) (a2 : Int) (a3 : Int) (hp : gc_isForms sh ro A p) (h_a1 : gc_isTongue sh ro A a1) (ha2 : 0 ≤ a2 ∧ a2 ≤ 575) (ha3 : 0 ≤ a3 ∧ a3 ≤ 24) (x0 : a2 % 25 = 0) (x1 : gc_sc (a1 + 10) I) : ∃ r h', gz_Ev ws0 tb 2 (yX2_leftFits, cX2_leftFits, 8, (some .boolean)) [.inr (.inr (some p)), .inr (.inr (some a1)), .inl a2, .inl a3] sh (gc_h sh I J A) r sh h' 0 0 ∧ (h' = gc_h sh I J A ∧ (∃ z : Int, r = some (.inl z) ∧ 0 ≤ z ∧ z ≤ 1)) := by
  obtain ⟨S_p, R_p, B_p, A_p_0, S_20, R_20, B_20, A_p_1, S_p_1, R_p_1, B_p_1, A_p_2, S_p_2, R_p_2, B_p_2, A_p_3, S_p_3, R_p_3, B_p_3, A_p_4, S_p_4, R_p_4, B_p_4, A_p_5, S_p_5, R_p_5, B_p_5, S_p_6, R_p_6, B_p_6, S_p_7, R_p_7, B_p_7⟩ := id hp
  obtain ⟨S_a1, R_a1, B_a1, A_a1_0, h_a1_1, A_a1_1, h_a1_3, A_a1_2, S_a1_5, R_a1_5, B_a1_5, A_a1_3, S_a1_6, R_a1_6, B_a1_6, A_a1_4, h_a1_7, A_a1_5, S_a1_9, R_a1_9, B_a1_9, A_a1_7, S_a1_10, R_a1_10, B_a1_10, A_a1_8, h_a1_11, A_a1_9, S_a1_13, R_a1_13, B_a1_13, A_a1_10, S_a1_14, R_a1_14, B_a1_14, A_a1_12, S_a1_15, R_a1_15, B_a1_15, A_a1_14, S_a1_16, R_a1_16, B_a1_16, A_a1_15, h_a1_17⟩ := id h_a1
  obtain ⟨S_a1_1, R_a1_1, B_a1_1, A_a1_1_0, S_a1_1_1, R_a1_1_1, B_a1_1_1, Q0_a1_1, Q1_a1_1, Q2_a1_1⟩ := id h_a1_1
  obtain ⟨S_a1_3, R_a1_3, B_a1_3, A_a1_3_0, S_a1_3_1, R_a1_3_1, B_a1_3_1, Q0_a1_3, Q1_a1_3, Q2_a1_3⟩ := id h_a1_3
  obtain ⟨S_a1_7, R_a1_7, B_a1_7, A_a1_7_0, S_a1_7_1, R_a1_7_1, B_a1_7_1, Q0_a1_7, Q1_a1_7, Q2_a1_7⟩ := id h_a1_7
  obtain ⟨S_a1_11, R_a1_11, B_a1_11, A_a1_11_0, S_a1_11_1, R_a1_11_1, B_a1_11_1, Q0_a1_11, Q1_a1_11, Q2_a1_11⟩ := id h_a1_11
  obtain ⟨S_a1_17, R_a1_17, B_a1_17, A_a1_17_0, S_20, R_20, B_20, A_a1_17_1, S_a1_17_1, R_a1_17_1, B_a1_17_1, A_a1_17_2, S_a1_17_2, R_a1_17_2, B_a1_17_2, A_a1_17_3, S_a1_17_3, R_a1_17_3, B_a1_17_3, A_a1_17_4, S_a1_17_4, R_a1_17_4, B_a1_17_4, A_a1_17_5, S_a1_17_5, R_a1_17_5, B_a1_17_5, S_a1_17_6, R_a1_17_6, B_a1_17_6, S_a1_17_7, R_a1_17_7, B_a1_17_7⟩ := id h_a1_17
  have hD : gv_D (gc_E2 ws0 tb 1 (yX2_leftFits, cX2_leftFits, 8, (some .boolean)) kX2_leftFits) := gq_ok oX2_leftFits
  refine gc_ev2 (d := 1) (l := kX2_leftFits) (Po := fun r h' => (h' = gc_h sh I J A ∧ (∃ z : Int, r = some (.inl z) ∧ 0 ≤ z ∧ z ≤ 1))) htb rfl (Nat.le_of_ble_eq_true rfl) ?_
  have L15 : ∀ (n9 : Nat) (v4_1 : Int) (v5_1 : Int), (v5_1 - (-2)).toNat < n9 → ((0 ≤ a2 ∧ a2 ≤ 575) ∧ (0 ≤ a3 ∧ a3 ≤ 24) ∧ (0 ≤ v4_1 ∧ v4_1 ≤ 24) ∧ ((-1) ≤ v5_1 ∧ v5_1 ≤ 2)) → gv_X (gc_E2 ws0 tb 1 (yX2_leftFits, cX2_leftFits, 8, (some .boolean)) kX2_leftFits) (gv_Q cX2_leftFits (some .boolean) sh (fun r h' => (h' = gc_h sh I J A ∧ (∃ z : Int, r = some (.inl z) ∧ 0 ≤ z ∧ z ≤ 1)))) (15, [(0, .inr (.inr (some p))), (1, .inr (.inr (some a1))), (2, .inl a2), (3, .inl a3), (4, .inl v4_1), (5, .inl v5_1)], [], sh, gc_h sh I J A) := by
    intro n9
    induction n9 with
    | zero => intro v4_1 v5_1 hn; omega
    | succ n9 ih15 =>
      intro v4_1 v5_1 hn m_1
      obtain ⟨ha2_1, ha3_1, hv4_1, hv5_1⟩ := m_1
      have L111 : ∀ (v4_2 : Int), ((0 ≤ a2 ∧ a2 ≤ 575) ∧ (0 ≤ a3 ∧ a3 ≤ 24) ∧ (0 ≤ v4_2 ∧ v4_2 ≤ 24) ∧ (0 ≤ v5_1 ∧ v5_1 ≤ 2)) → gv_X (gc_E2 ws0 tb 1 (yX2_leftFits, cX2_leftFits, 8, (some .boolean)) kX2_leftFits) (gv_Q cX2_leftFits (some .boolean) sh (fun r h' => (h' = gc_h sh I J A ∧ (∃ z : Int, r = some (.inl z) ∧ 0 ≤ z ∧ z ≤ 1)))) (111, [(0, .inr (.inr (some p))), (1, .inr (.inr (some a1))), (2, .inl a2), (3, .inl a3), (4, .inl v4_2), (5, .inl v5_1)], [], sh, gc_h sh I J A) := by
        intro v4_2 m_2
        clear ha2_1 ha3_1 hv4_1 hv5_1
        obtain ⟨ha2_2, ha3_2, hv4_2, hv5_1_2⟩ := m_2
        refine gv_run 2 true hD (pc' := 15) (lv' := [(5, .inl (v5_1 + (-1))), (0, .inr (.inr (some p))), (1, .inr (.inr (some a1))), (2, .inl a2), (3, .inl a3), (4, .inl v4_2)]) (st' := []) (h' := gc_h sh I J A) (C := ((True ∧ True) ∧ True)) rfl ⟨⟨trivial, trivial⟩, trivial⟩ ?_
        refine gv_pick [1, 2, 3, 4, 5, 0] rfl ?_
        exact ih15 v4_2 ((v5_1 + (-1))) (by omega) (by omega)
      have L73 : ∀ (v6_3 : Int) (s0_3 : Int), ((0 ≤ a2 ∧ a2 ≤ 575) ∧ (0 ≤ a3 ∧ a3 ≤ 24) ∧ (0 ≤ v4_1 ∧ v4_1 ≤ 24) ∧ (0 ≤ v5_1 ∧ v5_1 ≤ 2) ∧ (7 ≤ v6_3 ∧ v6_3 ≤ 588) ∧ (0 ≤ s0_3 ∧ s0_3 ≤ 12) ∧ (v6_3 = a2 + 7 + 3 * v5_1)) → gv_X (gc_E2 ws0 tb 1 (yX2_leftFits, cX2_leftFits, 8, (some .boolean)) kX2_leftFits) (gv_Q cX2_leftFits (some .boolean) sh (fun r h' => (h' = gc_h sh I J A ∧ (∃ z : Int, r = some (.inl z) ∧ 0 ≤ z ∧ z ≤ 1)))) (73, [(0, .inr (.inr (some p))), (1, .inr (.inr (some a1))), (2, .inl a2), (3, .inl a3), (4, .inl v4_1), (5, .inl v5_1), (6, .inl v6_3)], [.inl s0_3], sh, gc_h sh I J A) := by
        intro v6_3 s0_3 m_3
        clear ha2_1 ha3_1 hv4_1 hv5_1
        obtain ⟨ha2_3, ha3_3, hv4_1_3, hv5_1_3, hv6_3, hs0_3, e0_3⟩ := m_3
        have L109 : gv_X (gc_E2 ws0 tb 1 (yX2_leftFits, cX2_leftFits, 8, (some .boolean)) kX2_leftFits) (gv_Q cX2_leftFits (some .boolean) sh (fun r h' => (h' = gc_h sh I J A ∧ (∃ z : Int, r = some (.inl z) ∧ 0 ≤ z ∧ z ≤ 1)))) (109, [], [], sh, gc_h sh I J A) := by
          clear ha2_3 ha3_3 hv4_1_3 hv5_1_3 hv6_3 hs0_3 e0_3
          refine gv_run 1 true hD (pc' := 110) (lv' := []) (st' := [.inl 0]) (h' := gc_h sh I J A) (C := (True ∧ True)) rfl ⟨trivial, trivial⟩ ?_
          exact gv_zret hD rfl (by omega) ⟨rfl, ⟨_, rfl, by omega⟩⟩
        refine gv_run 6 true hD (pc' := 84) (lv' := [(4, .inl (v4_1 - s0_3)), (7, .inl s0_3), (0, .inr (.inr (some p))), (1, .inr (.inr (some a1))), (2, .inl a2), (3, .inl a3), (5, .inl v5_1), (6, .inl v6_3)]) (st' := [.inl (v4_1 - s0_3)]) (h' := gc_h sh I J A) (C := ((((((True ∧ True) ∧ True) ∧ True) ∧ True) ∧ True) ∧ True)) rfl ⟨⟨⟨⟨⟨⟨trivial, trivial⟩, trivial⟩, trivial⟩, trivial⟩, trivial⟩, trivial⟩ ?_
        refine gv_if_lt (t := 109) hD rfl rfl ⟨by omega, by omega⟩ (fun c5 => ?_) (fun c5 => ?_)
        · show gv_X _ _ (109, [(4, .inl (v4_1 - s0_3)), (7, .inl s0_3), (0, .inr (.inr (some p))), (1, .inr (.inr (some a1))), (2, .inl a2), (3, .inl a3), (5, .inl v5_1), (6, .inl v6_3)], [], sh, gc_h sh I J A)
          refine gv_pick [] rfl ?_
          exact L109 
        · show gv_X _ _ (87, [(4, .inl (v4_1 - s0_3)), (7, .inl s0_3), (0, .inr (.inr (some p))), (1, .inr (.inr (some a1))), (2, .inl a2), (3, .inl a3), (5, .inl v5_1), (6, .inl v6_3)], [], sh, gc_h sh I J A)
          refine gv_run 4 true hD (pc' := 92) (lv' := [(4, .inl (v4_1 - s0_3)), (7, .inl s0_3), (0, .inr (.inr (some p))), (1, .inr (.inr (some a1))), (2, .inl a2), (3, .inl a3), (5, .inl v5_1), (6, .inl v6_3)]) (st' := [.inr (.inr (some p)), .inl v6_3, .inr (.inr (some a1)), .inr (.inr (some p))]) (h' := gc_h sh I J A) (C := ((((True ∧ True) ∧ True) ∧ True) ∧ True)) rfl ⟨⟨⟨⟨trivial, trivial⟩, trivial⟩, trivial⟩, trivial⟩ ?_
          have f7 := (show 0 ≤ I p 7 ∧ I p 7 ≤ 1 from gc_in hI R_p rfl rfl)
          obtain ⟨f6_, hq_f6_, S_f6, R_f6, B_f6, D_f6⟩ := gc_sw (p := p) (d := 6) (s := 1) (z := I p 7) (show 0 ≤ I p 7 ∧ I p 7 ≤ 1 from gc_in hI R_p rfl rfl) S_p_6 R_p_6 B_p_6 S_p_7 R_p_7 B_p_7
          refine gv_get hD rfl rfl S_p ⟨by decide, B_p⟩ (gc_hS (n := 6) S_p rfl hq_f6_) ?_
          show gv_X _ _ (95, [(4, .inl (v4_1 - s0_3)), (7, .inl s0_3), (0, .inr (.inr (some p))), (1, .inr (.inr (some a1))), (2, .inl a2), (3, .inl a3), (5, .inl v5_1), (6, .inl v6_3)], [.inr (.inr (some f6_)), .inl v6_3, .inr (.inr (some a1)), .inr (.inr (some p))], sh, gc_h sh I J A)
          refine gv_run 2 true hD (pc' := 98) (lv' := [(4, .inl (v4_1 - s0_3)), (7, .inl s0_3), (0, .inr (.inr (some p))), (1, .inr (.inr (some a1))), (2, .inl a2), (3, .inl a3), (5, .inl v5_1), (6, .inl v6_3)]) (st' := [.inl a3, .inl (v4_1 - s0_3), .inr (.inr (some f6_)), .inl v6_3, .inr (.inr (some a1)), .inr (.inr (some p))]) (h' := gc_h sh I J A) (C := ((True ∧ True) ∧ True)) rfl ⟨⟨trivial, trivial⟩, trivial⟩ ?_
          obtain ⟨r8, h8, E8, P8⟩ := d_X2_fitsAt (ws0 := ws0) (tb := tb) hws htb sh ro I J A hI p 24 a1 v6_3 f6_ (v4_1 - s0_3) a3 hp h_a1 S_f6 R_f6 B_f6 (by decide)  ⟨by omega, by omega⟩ ⟨by omega, by omega⟩ ⟨by omega, by omega⟩ (by omega) (by omega) (x1 _ (by omega) (by omega) (by omega))
          obtain ⟨rfl, ⟨z8, rfl, q8⟩⟩ := P8
          refine gv_callV hD rfl (As := [.inr (.inr (some a1)), .inl v6_3, .inr (.inr (some f6_)), .inl (v4_1 - s0_3), .inl a3]) (st := []) rfl B_p S_p rfl (gc_lV2 hws rfl) (Nat.le_of_ble_eq_true rfl) (gz_Ev_mono (d := 1) (by decide) E8) ?_
          show gv_X _ _ (101, [(4, .inl (v4_1 - s0_3)), (7, .inl s0_3), (0, .inr (.inr (some p))), (1, .inr (.inr (some a1))), (2, .inl a2), (3, .inl a3), (5, .inl v5_1), (6, .inl v6_3)], [.inl z8], sh, gc_h sh I J A)
          refine gv_run 3 true hD (pc' := 106) (lv' := [(4, .inl (v4_1 - s0_3)), (7, .inl s0_3), (0, .inr (.inr (some p))), (1, .inr (.inr (some a1))), (2, .inl a2), (3, .inl a3), (5, .inl v5_1), (6, .inl v6_3)]) (st' := [.inl ((v4_1 - s0_3) + s0_3), .inl z8]) (h' := gc_h sh I J A) (C := (((True ∧ True) ∧ True) ∧ True)) rfl ⟨⟨⟨trivial, trivial⟩, trivial⟩, trivial⟩ ?_
          refine gv_icmp_eq (t := 111) hD rfl rfl ⟨⟨by omega, by omega⟩, ⟨by omega, by omega⟩⟩ (fun c9 => ?_) (fun c9 => ?_)
          · show gv_X _ _ (111, [(4, .inl (v4_1 - s0_3)), (7, .inl s0_3), (0, .inr (.inr (some p))), (1, .inr (.inr (some a1))), (2, .inl a2), (3, .inl a3), (5, .inl v5_1), (6, .inl v6_3)], [], sh, gc_h sh I J A)
            refine gv_pick [2, 3, 4, 5, 0, 6] rfl ?_
            exact L111 (v4_1 - s0_3) (by omega)
          · show gv_X _ _ (109, [(4, .inl (v4_1 - s0_3)), (7, .inl s0_3), (0, .inr (.inr (some p))), (1, .inr (.inr (some a1))), (2, .inl a2), (3, .inl a3), (5, .inl v5_1), (6, .inl v6_3)], [], sh, gc_h sh I J A)
            refine gv_pick [] rfl ?_
            exact L109 
      refine gv_run 1 true hD (pc' := 17) (lv' := [(0, .inr (.inr (some p))), (1, .inr (.inr (some a1))), (2, .inl a2), (3, .inl a3), (4, .inl v4_1), (5, .inl v5_1)]) (st' := [.inl v5_1]) (h' := gc_h sh I J A) (C := (True ∧ True)) rfl ⟨trivial, trivial⟩ ?_
      refine gv_if_lt (t := 117) hD rfl rfl ⟨by omega, by omega⟩ (fun c10 => ?_) (fun c10 => ?_)
      · show gv_X _ _ (117, [(0, .inr (.inr (some p))), (1, .inr (.inr (some a1))), (2, .inl a2), (3, .inl a3), (4, .inl v4_1), (5, .inl v5_1)], [], sh, gc_h sh I J A)
        refine gv_run 1 true hD (pc' := 118) (lv' := [(0, .inr (.inr (some p))), (1, .inr (.inr (some a1))), (2, .inl a2), (3, .inl a3), (4, .inl v4_1), (5, .inl v5_1)]) (st' := [.inl 1]) (h' := gc_h sh I J A) (C := (True ∧ True)) rfl ⟨trivial, trivial⟩ ?_
        exact gv_zret hD rfl (by omega) ⟨rfl, ⟨_, rfl, by omega⟩⟩
      · show gv_X _ _ (20, [(0, .inr (.inr (some p))), (1, .inr (.inr (some a1))), (2, .inl a2), (3, .inl a3), (4, .inl v4_1), (5, .inl v5_1)], [], sh, gc_h sh I J A)
        refine gv_run 7 true hD (pc' := 29) (lv' := [(0, .inr (.inr (some p))), (1, .inr (.inr (some a1))), (2, .inl a2), (3, .inl a3), (4, .inl v4_1), (5, .inl v5_1)]) (st' := [.inl ((a2 + 7) + (3 * v5_1))]) (h' := gc_h sh I J A) (C := (((((((True ∧ True) ∧ True) ∧ True) ∧ True) ∧ True) ∧ True) ∧ True)) rfl ⟨⟨⟨⟨⟨⟨⟨trivial, trivial⟩, trivial⟩, trivial⟩, trivial⟩, trivial⟩, trivial⟩, trivial⟩ ?_
        refine gv_run 2 true hD (pc' := 32) (lv' := [(6, .inl ((a2 + 7) + (3 * v5_1))), (0, .inr (.inr (some p))), (1, .inr (.inr (some a1))), (2, .inl a2), (3, .inl a3), (4, .inl v4_1), (5, .inl v5_1)]) (st' := [.inr (.inr (some a1))]) (h' := gc_h sh I J A) (C := ((True ∧ True) ∧ True)) rfl ⟨⟨trivial, trivial⟩, trivial⟩ ?_
        refine gv_get hD rfl rfl S_a1 ⟨by decide, B_a1⟩ (gc_hA S_a1 rfl A_a1_7) ?_
        show gv_X _ _ (35, [(6, .inl ((a2 + 7) + (3 * v5_1))), (0, .inr (.inr (some p))), (1, .inr (.inr (some a1))), (2, .inl a2), (3, .inl a3), (4, .inl v4_1), (5, .inl v5_1)], [.inr (.inr (some (a1 + 10)))], sh, gc_h sh I J A)
        refine gv_run 1 true hD (pc' := 37) (lv' := [(6, .inl ((a2 + 7) + (3 * v5_1))), (0, .inr (.inr (some p))), (1, .inr (.inr (some a1))), (2, .inl a2), (3, .inl a3), (4, .inl v4_1), (5, .inl v5_1)]) (st' := [.inl ((a2 + 7) + (3 * v5_1)), .inr (.inr (some (a1 + 10)))]) (h' := gc_h sh I J A) (C := (True ∧ True)) rfl ⟨trivial, trivial⟩ ?_
        have f11 := (show 0 ≤ I (a1 + 10) (Int.toNat (((a2 + 7) + (3 * v5_1)))) ∧ I (a1 + 10) (Int.toNat (((a2 + 7) + (3 * v5_1)))) ≤ 2 from (by
        have hc : (Int.toNat (((a2 + 7) + (3 * v5_1)))) % 25 = 7 ∨ (Int.toNat (((a2 + 7) + (3 * v5_1)))) % 25 = 10 ∨ (Int.toNat (((a2 + 7) + (3 * v5_1)))) % 25 = 13 := by omega
        rcases hc with hc | hc | hc <;> exact gc_inm hI R_a1_10 rfl rfl hc rfl rfl))
        refine gv_iald hD rfl S_a1_10 rfl ⟨by decide, B_a1_10⟩ ⟨by omega, by omega⟩ (gc_iI S_a1_10 rfl) ?_
        show gv_X _ _ (38, [(6, .inl ((a2 + 7) + (3 * v5_1))), (0, .inr (.inr (some p))), (1, .inr (.inr (some a1))), (2, .inl a2), (3, .inl a3), (4, .inl v4_1), (5, .inl v5_1)], [.inl (I (a1 + 10) (Int.toNat (((a2 + 7) + (3 * v5_1)))))], sh, gc_h sh I J A)
        refine gv_run 1 true hD (pc' := 39) (lv' := [(6, .inl ((a2 + 7) + (3 * v5_1))), (0, .inr (.inr (some p))), (1, .inr (.inr (some a1))), (2, .inl a2), (3, .inl a3), (4, .inl v4_1), (5, .inl v5_1)]) (st' := [.inl 2, .inl (I (a1 + 10) (Int.toNat (((a2 + 7) + (3 * v5_1)))))]) (h' := gc_h sh I J A) (C := (True ∧ True)) rfl ⟨trivial, trivial⟩ ?_
        refine gv_icmp_ne (t := 49) hD rfl rfl ⟨⟨by omega, by omega⟩, ⟨by omega, by omega⟩⟩ (fun c12 => ?_) (fun c12 => ?_)
        · show gv_X _ _ (49, [(6, .inl ((a2 + 7) + (3 * v5_1))), (0, .inr (.inr (some p))), (1, .inr (.inr (some a1))), (2, .inl a2), (3, .inl a3), (4, .inl v4_1), (5, .inl v5_1)], [], sh, gc_h sh I J A)
          refine gv_run 1 true hD (pc' := 50) (lv' := [(6, .inl ((a2 + 7) + (3 * v5_1))), (0, .inr (.inr (some p))), (1, .inr (.inr (some a1))), (2, .inl a2), (3, .inl a3), (4, .inl v4_1), (5, .inl v5_1)]) (st' := [.inr (.inr (some a1))]) (h' := gc_h sh I J A) (C := (True ∧ True)) rfl ⟨trivial, trivial⟩ ?_
          refine gv_get hD rfl rfl S_a1 ⟨by decide, B_a1⟩ (gc_hA S_a1 rfl A_a1_7) ?_
          show gv_X _ _ (53, [(6, .inl ((a2 + 7) + (3 * v5_1))), (0, .inr (.inr (some p))), (1, .inr (.inr (some a1))), (2, .inl a2), (3, .inl a3), (4, .inl v4_1), (5, .inl v5_1)], [.inr (.inr (some (a1 + 10)))], sh, gc_h sh I J A)
          refine gv_run 1 true hD (pc' := 55) (lv' := [(6, .inl ((a2 + 7) + (3 * v5_1))), (0, .inr (.inr (some p))), (1, .inr (.inr (some a1))), (2, .inl a2), (3, .inl a3), (4, .inl v4_1), (5, .inl v5_1)]) (st' := [.inl ((a2 + 7) + (3 * v5_1)), .inr (.inr (some (a1 + 10)))]) (h' := gc_h sh I J A) (C := (True ∧ True)) rfl ⟨trivial, trivial⟩ ?_
          have f13 := (show 0 ≤ I (a1 + 10) (Int.toNat (((a2 + 7) + (3 * v5_1)))) ∧ I (a1 + 10) (Int.toNat (((a2 + 7) + (3 * v5_1)))) ≤ 2 from (by
        have hc : (Int.toNat (((a2 + 7) + (3 * v5_1)))) % 25 = 7 ∨ (Int.toNat (((a2 + 7) + (3 * v5_1)))) % 25 = 10 ∨ (Int.toNat (((a2 + 7) + (3 * v5_1)))) % 25 = 13 := by omega
        rcases hc with hc | hc | hc <;> exact gc_inm hI R_a1_10 rfl rfl hc rfl rfl))
          refine gv_iald hD rfl S_a1_10 rfl ⟨by decide, B_a1_10⟩ ⟨by omega, by omega⟩ (gc_iI S_a1_10 rfl) ?_
          show gv_X _ _ (56, [(6, .inl ((a2 + 7) + (3 * v5_1))), (0, .inr (.inr (some p))), (1, .inr (.inr (some a1))), (2, .inl a2), (3, .inl a3), (4, .inl v4_1), (5, .inl v5_1)], [.inl (I (a1 + 10) (Int.toNat (((a2 + 7) + (3 * v5_1)))))], sh, gc_h sh I J A)
          refine gv_run 1 true hD (pc' := 57) (lv' := [(6, .inl ((a2 + 7) + (3 * v5_1))), (0, .inr (.inr (some p))), (1, .inr (.inr (some a1))), (2, .inl a2), (3, .inl a3), (4, .inl v4_1), (5, .inl v5_1)]) (st' := [.inl 1, .inl (I (a1 + 10) (Int.toNat (((a2 + 7) + (3 * v5_1)))))]) (h' := gc_h sh I J A) (C := (True ∧ True)) rfl ⟨trivial, trivial⟩ ?_
          refine gv_icmp_ne (t := 64) hD rfl rfl ⟨⟨by omega, by omega⟩, ⟨by omega, by omega⟩⟩ (fun c14 => ?_) (fun c14 => ?_)
          · show gv_X _ _ (64, [(6, .inl ((a2 + 7) + (3 * v5_1))), (0, .inr (.inr (some p))), (1, .inr (.inr (some a1))), (2, .inl a2), (3, .inl a3), (4, .inl v4_1), (5, .inl v5_1)], [], sh, gc_h sh I J A)
            refine gv_run 1 true hD (pc' := 65) (lv' := [(6, .inl ((a2 + 7) + (3 * v5_1))), (0, .inr (.inr (some p))), (1, .inr (.inr (some a1))), (2, .inl a2), (3, .inl a3), (4, .inl v4_1), (5, .inl v5_1)]) (st' := [.inr (.inr (some a1))]) (h' := gc_h sh I J A) (C := (True ∧ True)) rfl ⟨trivial, trivial⟩ ?_
            refine gv_get hD rfl rfl S_a1 ⟨by decide, B_a1⟩ (gc_hA S_a1 rfl A_a1_7) ?_
            show gv_X _ _ (68, [(6, .inl ((a2 + 7) + (3 * v5_1))), (0, .inr (.inr (some p))), (1, .inr (.inr (some a1))), (2, .inl a2), (3, .inl a3), (4, .inl v4_1), (5, .inl v5_1)], [.inr (.inr (some (a1 + 10)))], sh, gc_h sh I J A)
            refine gv_run 3 true hD (pc' := 72) (lv' := [(6, .inl ((a2 + 7) + (3 * v5_1))), (0, .inr (.inr (some p))), (1, .inr (.inr (some a1))), (2, .inl a2), (3, .inl a3), (4, .inl v4_1), (5, .inl v5_1)]) (st' := [.inl (((a2 + 7) + (3 * v5_1)) + 2), .inr (.inr (some (a1 + 10)))]) (h' := gc_h sh I J A) (C := (((True ∧ True) ∧ True) ∧ True)) rfl ⟨⟨⟨trivial, trivial⟩, trivial⟩, trivial⟩ ?_
            have f15 := (show 0 ≤ I (a1 + 10) (Int.toNat ((((a2 + 7) + (3 * v5_1)) + 2))) ∧ I (a1 + 10) (Int.toNat ((((a2 + 7) + (3 * v5_1)) + 2))) ≤ 12 from (by
        have hc : (Int.toNat ((((a2 + 7) + (3 * v5_1)) + 2))) % 25 = 9 ∨ (Int.toNat ((((a2 + 7) + (3 * v5_1)) + 2))) % 25 = 12 ∨ (Int.toNat ((((a2 + 7) + (3 * v5_1)) + 2))) % 25 = 15 := by omega
        rcases hc with hc | hc | hc <;> exact gc_inm hI R_a1_10 rfl rfl hc rfl rfl))
            refine gv_iald hD rfl S_a1_10 rfl ⟨by decide, B_a1_10⟩ ⟨by omega, by omega⟩ (gc_iI S_a1_10 rfl) ?_
            show gv_X _ _ (73, [(6, .inl ((a2 + 7) + (3 * v5_1))), (0, .inr (.inr (some p))), (1, .inr (.inr (some a1))), (2, .inl a2), (3, .inl a3), (4, .inl v4_1), (5, .inl v5_1)], [.inl (I (a1 + 10) (Int.toNat ((((a2 + 7) + (3 * v5_1)) + 2))))], sh, gc_h sh I J A)
            refine gv_pick [1, 2, 3, 4, 5, 6, 0] rfl ?_
            exact L73 (((a2 + 7) + (3 * v5_1))) ((I (a1 + 10) (Int.toNat ((((a2 + 7) + (3 * v5_1)) + 2))))) (by omega)
          · show gv_X _ _ (60, [(6, .inl ((a2 + 7) + (3 * v5_1))), (0, .inr (.inr (some p))), (1, .inr (.inr (some a1))), (2, .inl a2), (3, .inl a3), (4, .inl v4_1), (5, .inl v5_1)], [], sh, gc_h sh I J A)
            refine gv_run 2 true hD (pc' := 73) (lv' := [(6, .inl ((a2 + 7) + (3 * v5_1))), (0, .inr (.inr (some p))), (1, .inr (.inr (some a1))), (2, .inl a2), (3, .inl a3), (4, .inl v4_1), (5, .inl v5_1)]) (st' := [.inl 1]) (h' := gc_h sh I J A) (C := ((True ∧ True) ∧ True)) rfl ⟨⟨trivial, trivial⟩, trivial⟩ ?_
            refine gv_pick [1, 2, 3, 4, 5, 6, 0] rfl ?_
            exact L73 (((a2 + 7) + (3 * v5_1))) 1 (by omega)
        · show gv_X _ _ (42, [(6, .inl ((a2 + 7) + (3 * v5_1))), (0, .inr (.inr (some p))), (1, .inr (.inr (some a1))), (2, .inl a2), (3, .inl a3), (4, .inl v4_1), (5, .inl v5_1)], [], sh, gc_h sh I J A)
          refine gv_run 1 true hD (pc' := 44) (lv' := [(6, .inl ((a2 + 7) + (3 * v5_1))), (0, .inr (.inr (some p))), (1, .inr (.inr (some a1))), (2, .inl a2), (3, .inl a3), (4, .inl v4_1), (5, .inl v5_1)]) (st' := [.inl v4_1]) (h' := gc_h sh I J A) (C := (True ∧ True)) rfl ⟨trivial, trivial⟩ ?_
          refine gv_if_eq (t := 111) hD rfl rfl ⟨by omega, by omega⟩ (fun c16 => ?_) (fun c16 => ?_)
          · show gv_X _ _ (111, [(6, .inl ((a2 + 7) + (3 * v5_1))), (0, .inr (.inr (some p))), (1, .inr (.inr (some a1))), (2, .inl a2), (3, .inl a3), (4, .inl v4_1), (5, .inl v5_1)], [], sh, gc_h sh I J A)
            refine gv_pick [1, 2, 3, 4, 5, 6] rfl ?_
            exact L111 v4_1 (by omega)
          · show gv_X _ _ (47, [(6, .inl ((a2 + 7) + (3 * v5_1))), (0, .inr (.inr (some p))), (1, .inr (.inr (some a1))), (2, .inl a2), (3, .inl a3), (4, .inl v4_1), (5, .inl v5_1)], [], sh, gc_h sh I J A)
            refine gv_run 1 true hD (pc' := 48) (lv' := [(6, .inl ((a2 + 7) + (3 * v5_1))), (0, .inr (.inr (some p))), (1, .inr (.inr (some a1))), (2, .inl a2), (3, .inl a3), (4, .inl v4_1), (5, .inl v5_1)]) (st' := [.inl 0]) (h' := gc_h sh I J A) (C := (True ∧ True)) rfl ⟨trivial, trivial⟩ ?_
            exact gv_zret hD rfl (by omega) ⟨rfl, ⟨_, rfl, by omega⟩⟩
  refine gv_run 3 true hD (pc' := 4) (lv' := [(4, .inl a3), (0, .inr (.inr (some p))), (1, .inr (.inr (some a1))), (2, .inl a2), (3, .inl a3)]) (st' := [.inr (.inr (some a1))]) (h' := gc_h sh I J A) (C := (((True ∧ True) ∧ True) ∧ True)) rfl ⟨⟨⟨trivial, trivial⟩, trivial⟩, trivial⟩ ?_
  refine gv_get hD rfl rfl S_a1 ⟨by decide, B_a1⟩ (gc_hA S_a1 rfl A_a1_7) ?_
  show gv_X _ _ (7, [(4, .inl a3), (0, .inr (.inr (some p))), (1, .inr (.inr (some a1))), (2, .inl a2), (3, .inl a3)], [.inr (.inr (some (a1 + 10)))], sh, gc_h sh I J A)
  refine gv_run 3 true hD (pc' := 10) (lv' := [(4, .inl a3), (0, .inr (.inr (some p))), (1, .inr (.inr (some a1))), (2, .inl a2), (3, .inl a3)]) (st' := [.inl (a2 + 5), .inr (.inr (some (a1 + 10)))]) (h' := gc_h sh I J A) (C := (((True ∧ True) ∧ True) ∧ True)) rfl ⟨⟨⟨trivial, trivial⟩, trivial⟩, trivial⟩ ?_
  have f17 := (show 0 ≤ I (a1 + 10) (Int.toNat ((a2 + 5))) ∧ I (a1 + 10) (Int.toNat ((a2 + 5))) ≤ 3 from gc_inm (c := 5) hI R_a1_10 rfl rfl (by omega) rfl rfl)
  refine gv_iald hD rfl S_a1_10 rfl ⟨by decide, B_a1_10⟩ ⟨by omega, by omega⟩ (gc_iI S_a1_10 rfl) ?_
  show gv_X _ _ (11, [(4, .inl a3), (0, .inr (.inr (some p))), (1, .inr (.inr (some a1))), (2, .inl a2), (3, .inl a3)], [.inl (I (a1 + 10) (Int.toNat ((a2 + 5))))], sh, gc_h sh I J A)
  refine gv_run 3 true hD (pc' := 15) (lv' := [(5, .inl ((I (a1 + 10) (Int.toNat ((a2 + 5)))) - 1)), (4, .inl a3), (0, .inr (.inr (some p))), (1, .inr (.inr (some a1))), (2, .inl a2), (3, .inl a3)]) (st' := []) (h' := gc_h sh I J A) (C := (((True ∧ True) ∧ True) ∧ True)) rfl ⟨⟨⟨trivial, trivial⟩, trivial⟩, trivial⟩ ?_
  refine gv_pick [2, 3, 4, 5, 1, 0] rfl ?_
  exact L15 _ a3 (((I (a1 + 10) (Int.toNat ((a2 + 5)))) - 1)) (Nat.lt_succ_self _) (by omega)
set_option maxHeartbeats 4000000 in
set_option maxRecDepth 100000 in
theorem d_X2_rightFits {ws0 : List Cond} {tb : String → gz_T} (hws : gc_Ws ws0) (htb : gc_tbs tb) (sh : gz_Sh) (ro : Nat → Nat) (I : gr_I) (J : gr_J) (A : gc_A) (hI : gc_Inv ro I) (p : Nat) (a1 : Nat) (a2 : Int) (a3 : Int) (a4 : Int) (hp : gc_isForms sh ro A p) (h_a1 : gc_isTongue sh ro A a1) (ha2 : 0 ≤ a2 ∧ a2 ≤ 575) (ha3 : 0 ≤ a3 ∧ a3 ≤ 60) (ha4 : 0 ≤ a4 ∧ a4 ≤ 24) (x0 : a2 % 25 = 0) (x1 : gc_sc (a1 + 10) I) : ∃ r h', gz_Ev ws0 tb 2 (yX2_rightFits, cX2_rightFits, 7, (some .boolean)) [.inr (.inr (some p)), .inr (.inr (some a1)), .inl a2, .inl a3, .inl a4] sh (gc_h sh I J A) r sh h' 0 0 ∧ (h' = gc_h sh I J A ∧ (∃ z : Int, r = some (.inl z) ∧ 0 ≤ z ∧ z ≤ 1)) := by
  obtain ⟨S_p, R_p, B_p, A_p_0, S_20, R_20, B_20, A_p_1, S_p_1, R_p_1, B_p_1, A_p_2, S_p_2, R_p_2, B_p_2, A_p_3, S_p_3, R_p_3, B_p_3, A_p_4, S_p_4, R_p_4, B_p_4, A_p_5, S_p_5, R_p_5, B_p_5, S_p_6, R_p_6, B_p_6, S_p_7, R_p_7, B_p_7⟩ := id hp
  obtain ⟨S_a1, R_a1, B_a1, A_a1_0, h_a1_1, A_a1_1, h_a1_3, A_a1_2, S_a1_5, R_a1_5, B_a1_5, A_a1_3, S_a1_6, R_a1_6, B_a1_6, A_a1_4, h_a1_7, A_a1_5, S_a1_9, R_a1_9, B_a1_9, A_a1_7, S_a1_10, R_a1_10, B_a1_10, A_a1_8, h_a1_11, A_a1_9, S_a1_13, R_a1_13, B_a1_13, A_a1_10, S_a1_14, R_a1_14, B_a1_14, A_a1_12, S_a1_15, R_a1_15, B_a1_15, A_a1_14, S_a1_16, R_a1_16, B_a1_16, A_a1_15, h_a1_17⟩ := id h_a1
  obtain ⟨S_a1_1, R_a1_1, B_a1_1, A_a1_1_0, S_a1_1_1, R_a1_1_1, B_a1_1_1, Q0_a1_1, Q1_a1_1, Q2_a1_1⟩ := id h_a1_1
  obtain ⟨S_a1_3, R_a1_3, B_a1_3, A_a1_3_0, S_a1_3_1, R_a1_3_1, B_a1_3_1, Q0_a1_3, Q1_a1_3, Q2_a1_3⟩ := id h_a1_3
  obtain ⟨S_a1_7, R_a1_7, B_a1_7, A_a1_7_0, S_a1_7_1, R_a1_7_1, B_a1_7_1, Q0_a1_7, Q1_a1_7, Q2_a1_7⟩ := id h_a1_7
  obtain ⟨S_a1_11, R_a1_11, B_a1_11, A_a1_11_0, S_a1_11_1, R_a1_11_1, B_a1_11_1, Q0_a1_11, Q1_a1_11, Q2_a1_11⟩ := id h_a1_11
  obtain ⟨S_a1_17, R_a1_17, B_a1_17, A_a1_17_0, S_20, R_20, B_20, A_a1_17_1, S_a1_17_1, R_a1_17_1, B_a1_17_1, A_a1_17_2, S_a1_17_2, R_a1_17_2, B_a1_17_2, A_a1_17_3, S_a1_17_3, R_a1_17_3, B_a1_17_3, A_a1_17_4, S_a1_17_4, R_a1_17_4, B_a1_17_4, A_a1_17_5, S_a1_17_5, R_a1_17_5, B_a1_17_5, S_a1_17_6, R_a1_17_6, B_a1_17_6, S_a1_17_7, R_a1_17_7, B_a1_17_7⟩ := id h_a1_17
  have hD : gv_D (gc_E2 ws0 tb 1 (yX2_rightFits, cX2_rightFits, 7, (some .boolean)) kX2_rightFits) := gq_ok oX2_rightFits
  refine gc_ev2 (d := 1) (l := kX2_rightFits) (Po := fun r h' => (h' = gc_h sh I J A ∧ (∃ z : Int, r = some (.inl z) ∧ 0 ≤ z ∧ z ≤ 1))) htb rfl (Nat.le_of_ble_eq_true rfl) ?_
  have L6 : ∀ (n9 : Nat) (v5_1 : Int) (v6_1 : Int), (4 - v6_1).toNat < n9 → ((0 ≤ a2 ∧ a2 ≤ 575) ∧ (0 ≤ a4 ∧ a4 ≤ 24) ∧ (0 ≤ v5_1 ∧ v5_1 ≤ 60) ∧ (0 ≤ v6_1 ∧ v6_1 ≤ 3)) → gv_X (gc_E2 ws0 tb 1 (yX2_rightFits, cX2_rightFits, 7, (some .boolean)) kX2_rightFits) (gv_Q cX2_rightFits (some .boolean) sh (fun r h' => (h' = gc_h sh I J A ∧ (∃ z : Int, r = some (.inl z) ∧ 0 ≤ z ∧ z ≤ 1)))) (6, [(0, .inr (.inr (some p))), (1, .inr (.inr (some a1))), (2, .inl a2), (4, .inl a4), (5, .inl v5_1), (6, .inl v6_1)], [], sh, gc_h sh I J A) := by
    intro n9
    induction n9 with
    | zero => intro v5_1 v6_1 hn; omega
    | succ n9 ih6 =>
      intro v5_1 v6_1 hn m_1
      obtain ⟨ha2_1, ha4_1, hv5_1, hv6_1⟩ := m_1
      refine gv_run 2 true hD (pc' := 9) (lv' := [(0, .inr (.inr (some p))), (1, .inr (.inr (some a1))), (2, .inl a2), (4, .inl a4), (5, .inl v5_1), (6, .inl v6_1)]) (st' := [.inr (.inr (some a1)), .inl v6_1]) (h' := gc_h sh I J A) (C := ((True ∧ True) ∧ True)) rfl ⟨⟨trivial, trivial⟩, trivial⟩ ?_
      refine gv_get hD rfl rfl S_a1 ⟨by decide, B_a1⟩ (gc_hA S_a1 rfl A_a1_7) ?_
      show gv_X _ _ (12, [(0, .inr (.inr (some p))), (1, .inr (.inr (some a1))), (2, .inl a2), (4, .inl a4), (5, .inl v5_1), (6, .inl v6_1)], [.inr (.inr (some (a1 + 10))), .inl v6_1], sh, gc_h sh I J A)
      refine gv_run 3 true hD (pc' := 16) (lv' := [(0, .inr (.inr (some p))), (1, .inr (.inr (some a1))), (2, .inl a2), (4, .inl a4), (5, .inl v5_1), (6, .inl v6_1)]) (st' := [.inl (a2 + 6), .inr (.inr (some (a1 + 10))), .inl v6_1]) (h' := gc_h sh I J A) (C := (((True ∧ True) ∧ True) ∧ True)) rfl ⟨⟨⟨trivial, trivial⟩, trivial⟩, trivial⟩ ?_
      have f2 := (show 0 ≤ I (a1 + 10) (Int.toNat ((a2 + 6))) ∧ I (a1 + 10) (Int.toNat ((a2 + 6))) ≤ 3 from gc_inm (c := 6) hI R_a1_10 rfl rfl (by omega) rfl rfl)
      refine gv_iald hD rfl S_a1_10 rfl ⟨by decide, B_a1_10⟩ ⟨by omega, by omega⟩ (gc_iI S_a1_10 rfl) ?_
      show gv_X _ _ (17, [(0, .inr (.inr (some p))), (1, .inr (.inr (some a1))), (2, .inl a2), (4, .inl a4), (5, .inl v5_1), (6, .inl v6_1)], [.inl (I (a1 + 10) (Int.toNat ((a2 + 6)))), .inl v6_1], sh, gc_h sh I J A)
      refine gv_icmp_ge (t := 57) hD rfl rfl ⟨⟨by omega, by omega⟩, ⟨by omega, by omega⟩⟩ (fun c3 => ?_) (fun c3 => ?_)
      · show gv_X _ _ (57, [(0, .inr (.inr (some p))), (1, .inr (.inr (some a1))), (2, .inl a2), (4, .inl a4), (5, .inl v5_1), (6, .inl v6_1)], [], sh, gc_h sh I J A)
        refine gv_run 1 true hD (pc' := 58) (lv' := [(0, .inr (.inr (some p))), (1, .inr (.inr (some a1))), (2, .inl a2), (4, .inl a4), (5, .inl v5_1), (6, .inl v6_1)]) (st' := [.inl 1]) (h' := gc_h sh I J A) (C := (True ∧ True)) rfl ⟨trivial, trivial⟩ ?_
        exact gv_zret hD rfl (by omega) ⟨rfl, ⟨_, rfl, by omega⟩⟩
      · show gv_X _ _ (20, [(0, .inr (.inr (some p))), (1, .inr (.inr (some a1))), (2, .inl a2), (4, .inl a4), (5, .inl v5_1), (6, .inl v6_1)], [], sh, gc_h sh I J A)
        refine gv_run 7 true hD (pc' := 29) (lv' := [(0, .inr (.inr (some p))), (1, .inr (.inr (some a1))), (2, .inl a2), (4, .inl a4), (5, .inl v5_1), (6, .inl v6_1)]) (st' := [.inl v6_1, .inl 3, .inl (a2 + 16), .inr (.inr (some a1)), .inr (.inr (some p))]) (h' := gc_h sh I J A) (C := (((((((True ∧ True) ∧ True) ∧ True) ∧ True) ∧ True) ∧ True) ∧ True)) rfl ⟨⟨⟨⟨⟨⟨⟨trivial, trivial⟩, trivial⟩, trivial⟩, trivial⟩, trivial⟩, trivial⟩, trivial⟩ ?_
        refine gv_run 3 true hD (pc' := 32) (lv' := [(0, .inr (.inr (some p))), (1, .inr (.inr (some a1))), (2, .inl a2), (4, .inl a4), (5, .inl v5_1), (6, .inl v6_1)]) (st' := [.inr (.inr (some p)), .inl ((a2 + 16) + (3 * v6_1)), .inr (.inr (some a1)), .inr (.inr (some p))]) (h' := gc_h sh I J A) (C := (((True ∧ True) ∧ True) ∧ True)) rfl ⟨⟨⟨trivial, trivial⟩, trivial⟩, trivial⟩ ?_
        have f5 := (show 0 ≤ I p 6 ∧ I p 6 ≤ 1 from gc_in hI R_p rfl rfl)
        obtain ⟨f4_, hq_f4_, S_f4, R_f4, B_f4, D_f4⟩ := gc_sw (p := p) (d := 6) (s := 1) (z := I p 6) (show 0 ≤ I p 6 ∧ I p 6 ≤ 1 from gc_in hI R_p rfl rfl) S_p_6 R_p_6 B_p_6 S_p_7 R_p_7 B_p_7
        refine gv_get hD rfl rfl S_p ⟨by decide, B_p⟩ (gc_hS (n := 6) S_p rfl hq_f4_) ?_
        show gv_X _ _ (35, [(0, .inr (.inr (some p))), (1, .inr (.inr (some a1))), (2, .inl a2), (4, .inl a4), (5, .inl v5_1), (6, .inl v6_1)], [.inr (.inr (some f4_)), .inl ((a2 + 16) + (3 * v6_1)), .inr (.inr (some a1)), .inr (.inr (some p))], sh, gc_h sh I J A)
        refine gv_run 2 true hD (pc' := 39) (lv' := [(0, .inr (.inr (some p))), (1, .inr (.inr (some a1))), (2, .inl a2), (4, .inl a4), (5, .inl v5_1), (6, .inl v6_1)]) (st' := [.inl a4, .inl v5_1, .inr (.inr (some f4_)), .inl ((a2 + 16) + (3 * v6_1)), .inr (.inr (some a1)), .inr (.inr (some p))]) (h' := gc_h sh I J A) (C := ((True ∧ True) ∧ True)) rfl ⟨⟨trivial, trivial⟩, trivial⟩ ?_
        obtain ⟨r6, h6, E6, P6⟩ := d_X2_fitsAt (ws0 := ws0) (tb := tb) hws htb sh ro I J A hI p 24 a1 (((a2 + 16) + (3 * v6_1))) f4_ v5_1 a4 hp h_a1 S_f4 R_f4 B_f4 (by decide)  ⟨by omega, by omega⟩ ⟨by omega, by omega⟩ ⟨by omega, by omega⟩ (by omega) (by omega) (x1 _ (by omega) (by omega) (by omega))
        obtain ⟨rfl, ⟨z6, rfl, q6⟩⟩ := P6
        refine gv_callV hD rfl (As := [.inr (.inr (some a1)), .inl ((a2 + 16) + (3 * v6_1)), .inr (.inr (some f4_)), .inl v5_1, .inl a4]) (st := []) rfl B_p S_p rfl (gc_lV2 hws rfl) (Nat.le_of_ble_eq_true rfl) (gz_Ev_mono (d := 1) (by decide) E6) ?_
        show gv_X _ _ (42, [(0, .inr (.inr (some p))), (1, .inr (.inr (some a1))), (2, .inl a2), (4, .inl a4), (5, .inl v5_1), (6, .inl v6_1)], [.inl z6], sh, gc_h sh I J A)
        refine gv_run 2 true hD (pc' := 46) (lv' := [(5, .inl z6), (0, .inr (.inr (some p))), (1, .inr (.inr (some a1))), (2, .inl a2), (4, .inl a4), (6, .inl v6_1)]) (st' := [.inl z6]) (h' := gc_h sh I J A) (C := ((True ∧ True) ∧ True)) rfl ⟨⟨trivial, trivial⟩, trivial⟩ ?_
        refine gv_if_ge (t := 51) hD rfl rfl ⟨by omega, by omega⟩ (fun c7 => ?_) (fun c7 => ?_)
        · show gv_X _ _ (51, [(5, .inl z6), (0, .inr (.inr (some p))), (1, .inr (.inr (some a1))), (2, .inl a2), (4, .inl a4), (6, .inl v6_1)], [], sh, gc_h sh I J A)
          refine gv_run 2 true hD (pc' := 6) (lv' := [(6, .inl (v6_1 + 1)), (5, .inl z6), (0, .inr (.inr (some p))), (1, .inr (.inr (some a1))), (2, .inl a2), (4, .inl a4)]) (st' := []) (h' := gc_h sh I J A) (C := ((True ∧ True) ∧ True)) rfl ⟨⟨trivial, trivial⟩, trivial⟩ ?_
          refine gv_pick [2, 3, 4, 5, 1, 0] rfl ?_
          exact ih6 z6 (v6_1 + 1) (by omega) (by omega)
        · show gv_X _ _ (49, [(5, .inl z6), (0, .inr (.inr (some p))), (1, .inr (.inr (some a1))), (2, .inl a2), (4, .inl a4), (6, .inl v6_1)], [], sh, gc_h sh I J A)
          refine gv_run 1 true hD (pc' := 50) (lv' := [(5, .inl z6), (0, .inr (.inr (some p))), (1, .inr (.inr (some a1))), (2, .inl a2), (4, .inl a4), (6, .inl v6_1)]) (st' := [.inl 0]) (h' := gc_h sh I J A) (C := (True ∧ True)) rfl ⟨trivial, trivial⟩ ?_
          exact gv_zret hD rfl (by omega) ⟨rfl, ⟨_, rfl, by omega⟩⟩
  refine gv_run 4 true hD (pc' := 6) (lv' := [(6, .inl 0), (5, .inl a3), (0, .inr (.inr (some p))), (1, .inr (.inr (some a1))), (2, .inl a2), (3, .inl a3), (4, .inl a4)]) (st' := []) (h' := gc_h sh I J A) (C := ((((True ∧ True) ∧ True) ∧ True) ∧ True)) rfl ⟨⟨⟨⟨trivial, trivial⟩, trivial⟩, trivial⟩, trivial⟩ ?_
  refine gv_pick [2, 3, 4, 6, 1, 0] rfl ?_
  exact L6 _ a3 0 (Nat.lt_succ_self _) (by omega)
