set_option maxHeartbeats 4000000 in
set_option maxRecDepth 100000 in
theorem d_X5_rank {ws0 : List Cond} {tb : String → gz_T} (hws : gc_Ws ws0) (htb : gc_tbs tb) (sh : gz_Sh) (ro : Nat → Nat) (I : gr_I) (J : gr_J) (A : gc_A) (hI : gc_Inv ro I) (t : Nat) (σ : Nat → Int)  (hb : gc_Base sh ro A) (h_t : gc_isTongue sh ro A t) (G_t : 144 ≤ t)  (x0 : gc_Ls sh ro A t I) (x1 : gc_WV t I) (x2 : ∀ i q : Nat, (i : Int) < I t 13 → A (t + 16) i = some q → I q 8 = σ i) (x3 : gc_WA σ I) (x4 : gc_FN I) (x5 : I 49 (Int.toNat (I 48 10)) + I 50 (Int.toNat (I 48 10)) ≤ I 48 3) (x6 : I 61 4 = 0 ∨ (gc_LH σ (-1) I ∧ gc_TH (-1) I)) (x7 : I 61 3 = 1) (x8 : I 61 2 = (t : Int)) : ∃ r h', gz_Ev ws0 tb 8 (yX5_rank, cX5_rank, 4, none) [.inr (.inr (some 61))] sh (gc_h sh I J A) r sh h' 0 0 ∧ (∃ (I' : gr_I) (J' : gr_J), h' = gc_h sh I' J' A ∧ gc_Inv ro I' ∧ (∀ q j : Nat, ((q = 61 ∧ j = 4) ∨ (q = 61 ∧ j = 8) ∨ (q = 61 ∧ j = 9) ∨ (q = 61 ∧ j = 10) ∨ (q = 61 ∧ j = 15) ∨ q = 64 ∨ q = 65 ∨ q = 66 ∨ q = 67 ∨ q = 68 ∨ q = 69 ∨ q = 70 ∨ q = 71 ∨ q = 72) ∨ I' q j = I q j) ∧ (∀ q j : Nat, (False) ∨ J' q j = J q j) ∧ r = none ∧ (gc_LH σ (-1) I') ∧ (gc_TH (-1) I') ∧ (I' 61 4 = 1)) := by
  have FI : ∀ q j : Nat, ((q = 61 ∧ j = 4) ∨ (q = 61 ∧ j = 8) ∨ (q = 61 ∧ j = 9) ∨ (q = 61 ∧ j = 10) ∨ (q = 61 ∧ j = 15) ∨ q = 64 ∨ q = 65 ∨ q = 66 ∨ q = 67 ∨ q = 68 ∨ q = 69 ∨ q = 70 ∨ q = 71 ∨ q = 72) ∨ I q j = I q j := fun _ _ => Or.inr rfl
  have FJ : ∀ q j : Nat, (False) ∨ J q j = J q j := fun _ _ => Or.inr rfl
  have A_48_1 : A 48 1 = some 49 := gc_bA hb rfl
  have A_48_2 : A 48 2 = some 50 := gc_bA hb rfl
  have A_61_1 : A 61 1 = some 48 := gc_bA hb rfl
  have A_61_11 : A 61 11 = some 67 := gc_bA hb rfl
  have B_48 : 48 < 1000000 := by decide
  have B_49 : 49 < 1000000 := by decide
  have B_50 : 50 < 1000000 := by decide
  have B_61 : 61 < 1000000 := by decide
  have B_65 : 65 < 1000000 := by decide
  have B_66 : 66 < 1000000 := by decide
  have B_67 : 67 < 1000000 := by decide
  have R_48 : ro 48 = 49 := gc_bR hb (by decide) rfl
  have R_49 : ro 49 = 43 := gc_bR hb (by decide) rfl
  have R_50 : ro 50 = 43 := gc_bR hb (by decide) rfl
  have R_61 : ro 61 = 72 := gc_bR hb (by decide) rfl
  have R_65 : ro 65 = 51 := gc_bR hb (by decide) rfl
  have R_66 : ro 66 = 51 := gc_bR hb (by decide) rfl
  have R_67 : ro 67 = 52 := gc_bR hb (by decide) rfl
  have S_48 : sh[48]? = some (false, 0, 22) := gc_bS hb rfl
  have S_49 : sh[49]? = some (true, 1, 18432) := gc_bS hb rfl
  have S_50 : sh[50]? = some (true, 1, 18432) := gc_bS hb rfl
  have S_61 : sh[61]? = some (false, 5, 19) := gc_bS hb rfl
  have S_65 : sh[65]? = some (true, 1, 9000) := gc_bS hb rfl
  have S_66 : sh[66]? = some (true, 1, 9000) := gc_bS hb rfl
  have S_67 : sh[67]? = some (true, 1, 3000) := gc_bS hb rfl
  obtain ⟨S_t, R_t, B_t, A_t_0, h_t_1, A_t_1, h_t_3, A_t_2, S_t_5, R_t_5, B_t_5, A_t_3, S_t_6, R_t_6, B_t_6, A_t_4, h_t_7, A_t_5, S_t_9, R_t_9, B_t_9, A_t_7, S_t_10, R_t_10, B_t_10, A_t_8, h_t_11, A_t_9, S_t_13, R_t_13, B_t_13, A_t_10, S_t_14, R_t_14, B_t_14, A_t_12, S_t_15, R_t_15, B_t_15, A_t_14, S_t_16, R_t_16, B_t_16, A_t_15, h_t_17⟩ := id h_t
  obtain ⟨S_t_1, R_t_1, B_t_1, A_t_1_0, S_t_1_1, R_t_1_1, B_t_1_1, Q0_t_1, Q1_t_1, Q2_t_1⟩ := id h_t_1
  obtain ⟨S_t_3, R_t_3, B_t_3, A_t_3_0, S_t_3_1, R_t_3_1, B_t_3_1, Q0_t_3, Q1_t_3, Q2_t_3⟩ := id h_t_3
  obtain ⟨S_t_7, R_t_7, B_t_7, A_t_7_0, S_t_7_1, R_t_7_1, B_t_7_1, Q0_t_7, Q1_t_7, Q2_t_7⟩ := id h_t_7
  obtain ⟨S_t_11, R_t_11, B_t_11, A_t_11_0, S_t_11_1, R_t_11_1, B_t_11_1, Q0_t_11, Q1_t_11, Q2_t_11⟩ := id h_t_11
  obtain ⟨S_t_17, R_t_17, B_t_17, A_t_17_0, S_20, R_20, B_20, A_t_17_1, S_t_17_1, R_t_17_1, B_t_17_1, A_t_17_2, S_t_17_2, R_t_17_2, B_t_17_2, A_t_17_3, S_t_17_3, R_t_17_3, B_t_17_3, A_t_17_4, S_t_17_4, R_t_17_4, B_t_17_4, A_t_17_5, S_t_17_5, R_t_17_5, B_t_17_5, S_t_17_6, R_t_17_6, B_t_17_6, S_t_17_7, R_t_17_7, B_t_17_7⟩ := id h_t_17
  have hD : gv_D (gc_E5 ws0 tb 7 (yX5_rank, cX5_rank, 4, none) kX5_rank) := gq_ok oX5_rank
  refine gc_ev5 (d := 7) (l := kX5_rank) (Po := fun r h' => (∃ (I' : gr_I) (J' : gr_J), h' = gc_h sh I' J' A ∧ gc_Inv ro I' ∧ (∀ q j : Nat, ((q = 61 ∧ j = 4) ∨ (q = 61 ∧ j = 8) ∨ (q = 61 ∧ j = 9) ∨ (q = 61 ∧ j = 10) ∨ (q = 61 ∧ j = 15) ∨ q = 64 ∨ q = 65 ∨ q = 66 ∨ q = 67 ∨ q = 68 ∨ q = 69 ∨ q = 70 ∨ q = 71 ∨ q = 72) ∨ I' q j = I q j) ∧ (∀ q j : Nat, (False) ∨ J' q j = J q j) ∧ r = none ∧ (gc_LH σ (-1) I') ∧ (gc_TH (-1) I') ∧ (I' 61 4 = 1))) htb rfl (Nat.le_of_ble_eq_true rfl) ?_
  have N_t__71 : ¬ (t = 71) := by omega
  have N_t__72 : ¬ (t = 72) := by omega
  have N_t__67 : ¬ (t = 67) := by omega
  have N_t__68 : ¬ (t = 68) := by omega
  have N_t__69 : ¬ (t = 69) := by omega
  have N_t__70 : ¬ (t = 70) := by omega
  have N_t__64 : ¬ (t = 64) := by omega
  have N_t__65 : ¬ (t = 65) := by omega
  have N_t__66 : ¬ (t = 66) := by omega
  have f1 := (show 0 ≤ I 61 8 ∧ I 61 8 ≤ 9000 from gc_in hI R_61 rfl rfl)
  have f2 := (show 0 ≤ I 61 9 ∧ I 61 9 ≤ 1 from gc_in hI R_61 rfl rfl)
  have f3 := (show 0 ≤ I 61 10 ∧ I 61 10 ≤ 1 from gc_in hI R_61 rfl rfl)
  have f4 := (show 0 ≤ I 48 6 ∧ I 48 6 ≤ 9000 from gc_in hI R_48 rfl rfl)
  have f5 := (show 0 ≤ I 48 3 ∧ I 48 3 ≤ 3000 from gc_in hI R_48 rfl rfl)
  have f6 := (show 0 ≤ I 48 10 ∧ I 48 10 ≤ 18431 from gc_in hI R_48 rfl rfl)
  have f7 := (show 0 ≤ I 61 15 ∧ I 61 15 ≤ 16 from gc_in hI R_61 rfl rfl)
  have f8 := (show 0 ≤ I 61 4 ∧ I 61 4 ≤ 1 from gc_in hI R_61 rfl rfl)
  have f9 := (show 0 ≤ I t 13 ∧ I t 13 ≤ 384 from gc_in hI R_t rfl rfl)
  have f10 := (show (-1) ≤ I 61 2 ∧ I 61 2 ≤ 999999 from gc_in hI R_61 rfl rfl)
  have L14 : ((I 61 4 = 1) ∧ (I 48 3 = I 48 3) ∧ (I 48 6 = I 48 6) ∧ (I 48 10 = I 48 10) ∧ (I t 13 = I t 13) ∧ (I 61 2 = (t : Int))) → gv_X (gc_E5 ws0 tb 7 (yX5_rank, cX5_rank, 4, none) kX5_rank) (gv_Q cX5_rank none sh (fun r h' => (∃ (I' : gr_I) (J' : gr_J), h' = gc_h sh I' J' A ∧ gc_Inv ro I' ∧ (∀ q j : Nat, ((q = 61 ∧ j = 4) ∨ (q = 61 ∧ j = 8) ∨ (q = 61 ∧ j = 9) ∨ (q = 61 ∧ j = 10) ∨ (q = 61 ∧ j = 15) ∨ q = 64 ∨ q = 65 ∨ q = 66 ∨ q = 67 ∨ q = 68 ∨ q = 69 ∨ q = 70 ∨ q = 71 ∨ q = 72) ∨ I' q j = I q j) ∧ (∀ q j : Nat, (False) ∨ J' q j = J q j) ∧ r = none ∧ (gc_LH σ (-1) I') ∧ (gc_TH (-1) I') ∧ (I' 61 4 = 1)))) (14, [], [], sh, gc_h sh I J A) := by
    intro m_11
    obtain ⟨e0_11, e1_11, e2_11, e3_11, e4_11, e5_11⟩ := m_11
    have f12 := (show 0 ≤ I 61 8 ∧ I 61 8 ≤ 9000 from gc_in hI R_61 rfl rfl)
    have f13 := (show 0 ≤ I 61 9 ∧ I 61 9 ≤ 1 from gc_in hI R_61 rfl rfl)
    have f14 := (show 0 ≤ I 61 10 ∧ I 61 10 ≤ 1 from gc_in hI R_61 rfl rfl)
    have f15 := (show 0 ≤ I 48 6 ∧ I 48 6 ≤ 9000 from gc_in hI R_48 rfl rfl)
    have f16 := (show 0 ≤ I 48 3 ∧ I 48 3 ≤ 3000 from gc_in hI R_48 rfl rfl)
    have f17 := (show 0 ≤ I 48 10 ∧ I 48 10 ≤ 18431 from gc_in hI R_48 rfl rfl)
    have f18 := (show 0 ≤ I 61 15 ∧ I 61 15 ≤ 16 from gc_in hI R_61 rfl rfl)
    have f19 := (show 0 ≤ I 61 4 ∧ I 61 4 ≤ 1 from gc_in hI R_61 rfl rfl)
    have f20 := (show 0 ≤ I t 13 ∧ I t 13 ≤ 384 from gc_in hI R_t rfl rfl)
    have f21 := (show (-1) ≤ I 61 2 ∧ I 61 2 ≤ 999999 from gc_in hI R_61 rfl rfl)
    exact gv_vret hD rfl ⟨I, J, rfl, hI, FI, FJ, ⟨rfl, (x6.resolve_left (by omega)).1, (x6.resolve_left (by omega)).2, by omega⟩⟩
  have L30 : ∀ (n9 : Nat) (I22 : gr_I) (J23 : gr_J) (v1_24 : Int), (9001 - v1_24).toNat < n9 → gc_Inv ro I22 → (∀ q j : Nat, ((q = 61 ∧ j = 4) ∨ (q = 61 ∧ j = 8) ∨ (q = 61 ∧ j = 9) ∨ (q = 61 ∧ j = 10) ∨ (q = 61 ∧ j = 15) ∨ q = 64 ∨ q = 65 ∨ q = 66 ∨ q = 67 ∨ q = 68 ∨ q = 69 ∨ q = 70 ∨ q = 71 ∨ q = 72) ∨ I22 q j = I q j) → (∀ q j : Nat, (False) ∨ J23 q j = J q j) → gc_OR I22 → gc_LH σ (-1) I22 → ((0 ≤ v1_24 ∧ v1_24 ≤ 9000) ∧ (I22 61 4 = 1) ∧ (I22 48 3 = I 48 3) ∧ (I22 48 6 = I 48 6) ∧ (I22 48 10 = I 48 10) ∧ (I22 t 13 = I t 13) ∧ (I22 61 2 = (t : Int))) → gv_X (gc_E5 ws0 tb 7 (yX5_rank, cX5_rank, 4, none) kX5_rank) (gv_Q cX5_rank none sh (fun r h' => (∃ (I' : gr_I) (J' : gr_J), h' = gc_h sh I' J' A ∧ gc_Inv ro I' ∧ (∀ q j : Nat, ((q = 61 ∧ j = 4) ∨ (q = 61 ∧ j = 8) ∨ (q = 61 ∧ j = 9) ∨ (q = 61 ∧ j = 10) ∨ (q = 61 ∧ j = 15) ∨ q = 64 ∨ q = 65 ∨ q = 66 ∨ q = 67 ∨ q = 68 ∨ q = 69 ∨ q = 70 ∨ q = 71 ∨ q = 72) ∨ I' q j = I q j) ∧ (∀ q j : Nat, (False) ∨ J' q j = J q j) ∧ r = none ∧ (gc_LH σ (-1) I') ∧ (gc_TH (-1) I') ∧ (I' 61 4 = 1)))) (30, [(0, .inr (.inr (some 61))), (1, .inl v1_24)], [], sh, gc_h sh I22 J23 A) := by
    intro n9
    induction n9 with
    | zero => intro I22 J23 v1_24 hn; omega
    | succ n9 ih30 =>
      intro I22 J23 v1_24 hn hI22 FI22 FJ23 KOR_I22 KLH_I22 m_24
      obtain ⟨hv1_24, e0_24, e1_24, e2_24, e3_24, e4_24, e5_24⟩ := m_24
      have f25 := (show 0 ≤ I22 61 8 ∧ I22 61 8 ≤ 9000 from gc_in hI22 R_61 rfl rfl)
      have f26 := (show 0 ≤ I22 61 9 ∧ I22 61 9 ≤ 1 from gc_in hI22 R_61 rfl rfl)
      have f27 := (show 0 ≤ I22 61 10 ∧ I22 61 10 ≤ 1 from gc_in hI22 R_61 rfl rfl)
      have f28 := (show 0 ≤ I22 48 6 ∧ I22 48 6 ≤ 9000 from gc_in hI22 R_48 rfl rfl)
      have f29 := (show 0 ≤ I22 48 3 ∧ I22 48 3 ≤ 3000 from gc_in hI22 R_48 rfl rfl)
      have f30 := (show 0 ≤ I22 48 10 ∧ I22 48 10 ≤ 18431 from gc_in hI22 R_48 rfl rfl)
      have f31 := (show 0 ≤ I22 61 15 ∧ I22 61 15 ≤ 16 from gc_in hI22 R_61 rfl rfl)
      have f32 := (show 0 ≤ I22 61 4 ∧ I22 61 4 ≤ 1 from gc_in hI22 R_61 rfl rfl)
      have f33 := (show 0 ≤ I22 t 13 ∧ I22 t 13 ≤ 384 from gc_in hI22 R_t rfl rfl)
      have f34 := (show (-1) ≤ I22 61 2 ∧ I22 61 2 ≤ 999999 from gc_in hI22 R_61 rfl rfl)
      have L87 : ∀ (n9 : Nat) (I35 : gr_I) (J36 : gr_J) (v1_37 : Int) (v2_37 : Int), (3001 - v2_37).toNat < n9 → gc_Inv ro I35 → (∀ q j : Nat, ((q = 61 ∧ j = 4) ∨ (q = 61 ∧ j = 8) ∨ (q = 61 ∧ j = 9) ∨ (q = 61 ∧ j = 10) ∨ (q = 61 ∧ j = 15) ∨ q = 64 ∨ q = 65 ∨ q = 66 ∨ q = 67 ∨ q = 68 ∨ q = 69 ∨ q = 70 ∨ q = 71 ∨ q = 72) ∨ I35 q j = I q j) → (∀ q j : Nat, (False) ∨ J36 q j = J q j) → gc_LH σ (-1) I35 → ((0 ≤ v1_37 ∧ v1_37 ≤ 3000) ∧ (0 ≤ v2_37 ∧ v2_37 ≤ 3000) ∧ (v1_37 = I 49 (Int.toNat (I 48 10))) ∧ (v1_37 ≤ v2_37) ∧ (I35 61 4 = 1) ∧ (I35 48 3 = I 48 3) ∧ (I35 48 6 = I 48 6) ∧ (I35 48 10 = I 48 10) ∧ (I35 t 13 = I t 13) ∧ (I35 61 2 = (t : Int))) → (gc_TH (-1) I35) → gv_X (gc_E5 ws0 tb 7 (yX5_rank, cX5_rank, 4, none) kX5_rank) (gv_Q cX5_rank none sh (fun r h' => (∃ (I' : gr_I) (J' : gr_J), h' = gc_h sh I' J' A ∧ gc_Inv ro I' ∧ (∀ q j : Nat, ((q = 61 ∧ j = 4) ∨ (q = 61 ∧ j = 8) ∨ (q = 61 ∧ j = 9) ∨ (q = 61 ∧ j = 10) ∨ (q = 61 ∧ j = 15) ∨ q = 64 ∨ q = 65 ∨ q = 66 ∨ q = 67 ∨ q = 68 ∨ q = 69 ∨ q = 70 ∨ q = 71 ∨ q = 72) ∨ I' q j = I q j) ∧ (∀ q j : Nat, (False) ∨ J' q j = J q j) ∧ r = none ∧ (gc_LH σ (-1) I') ∧ (gc_TH (-1) I') ∧ (I' 61 4 = 1)))) (87, [(0, .inr (.inr (some 61))), (1, .inl v1_37), (2, .inl v2_37)], [], sh, gc_h sh I35 J36 A) := by
        intro n9
        induction n9 with
        | zero => intro I35 J36 v1_37 v2_37 hn; omega
        | succ n9 ih87 =>
          intro I35 J36 v1_37 v2_37 hn hI35 FI35 FJ36 KLH_I35 m_37 e0_37
          clear hv1_24 e0_24 e1_24 e2_24 e3_24 e4_24 e5_24 f25 f26 f27 f28 f29 f30 f31 f32 f33 f34
          obtain ⟨hv1_37, hv2_37, e1_37, e2_37, e3_37, e4_37, e5_37, e6_37, e7_37, e8_37⟩ := m_37
          have f38 := (show 0 ≤ I35 61 8 ∧ I35 61 8 ≤ 9000 from gc_in hI35 R_61 rfl rfl)
          have f39 := (show 0 ≤ I35 61 9 ∧ I35 61 9 ≤ 1 from gc_in hI35 R_61 rfl rfl)
          have f40 := (show 0 ≤ I35 61 10 ∧ I35 61 10 ≤ 1 from gc_in hI35 R_61 rfl rfl)
          have f41 := (show 0 ≤ I35 48 6 ∧ I35 48 6 ≤ 9000 from gc_in hI35 R_48 rfl rfl)
          have f42 := (show 0 ≤ I35 48 3 ∧ I35 48 3 ≤ 3000 from gc_in hI35 R_48 rfl rfl)
          have f43 := (show 0 ≤ I35 48 10 ∧ I35 48 10 ≤ 18431 from gc_in hI35 R_48 rfl rfl)
          have f44 := (show 0 ≤ I35 61 15 ∧ I35 61 15 ≤ 16 from gc_in hI35 R_61 rfl rfl)
          have f45 := (show 0 ≤ I35 61 4 ∧ I35 61 4 ≤ 1 from gc_in hI35 R_61 rfl rfl)
          have f46 := (show 0 ≤ I35 t 13 ∧ I35 t 13 ≤ 384 from gc_in hI35 R_t rfl rfl)
          have f47 := (show (-1) ≤ I35 61 2 ∧ I35 61 2 ≤ 999999 from gc_in hI35 R_61 rfl rfl)
          have L110 : ∀ (n9 : Nat) (I48 : gr_I) (J49 : gr_J) (v3_50 : Int), (17 - v3_50).toNat < n9 → gc_Inv ro I48 → (∀ q j : Nat, ((q = 61 ∧ j = 4) ∨ (q = 61 ∧ j = 8) ∨ (q = 61 ∧ j = 9) ∨ (q = 61 ∧ j = 10) ∨ (q = 61 ∧ j = 15) ∨ q = 64 ∨ q = 65 ∨ q = 66 ∨ q = 67 ∨ q = 68 ∨ q = 69 ∨ q = 70 ∨ q = 71 ∨ q = 72) ∨ I48 q j = I q j) → (∀ q j : Nat, (False) ∨ J49 q j = J q j) → gc_LH σ (-1) I48 → ((0 ≤ v1_37 ∧ v1_37 ≤ 3000) ∧ (0 ≤ v2_37 ∧ v2_37 ≤ 3000) ∧ (0 ≤ v3_50 ∧ v3_50 ≤ 16) ∧ (v1_37 = I 49 (Int.toNat (I 48 10))) ∧ (v1_37 ≤ v2_37) ∧ (v2_37 < I48 48 3) ∧ (I48 61 4 = 1) ∧ (I48 48 3 = I 48 3) ∧ (I48 48 6 = I 48 6) ∧ (I48 48 10 = I 48 10) ∧ (I48 t 13 = I t 13) ∧ (I48 61 2 = (t : Int))) → (gc_TH (-1) I48) → gv_X (gc_E5 ws0 tb 7 (yX5_rank, cX5_rank, 4, none) kX5_rank) (gv_Q cX5_rank none sh (fun r h' => (∃ (I' : gr_I) (J' : gr_J), h' = gc_h sh I' J' A ∧ gc_Inv ro I' ∧ (∀ q j : Nat, ((q = 61 ∧ j = 4) ∨ (q = 61 ∧ j = 8) ∨ (q = 61 ∧ j = 9) ∨ (q = 61 ∧ j = 10) ∨ (q = 61 ∧ j = 15) ∨ q = 64 ∨ q = 65 ∨ q = 66 ∨ q = 67 ∨ q = 68 ∨ q = 69 ∨ q = 70 ∨ q = 71 ∨ q = 72) ∨ I' q j = I q j) ∧ (∀ q j : Nat, (False) ∨ J' q j = J q j) ∧ r = none ∧ (gc_LH σ (-1) I') ∧ (gc_TH (-1) I') ∧ (I' 61 4 = 1)))) (110, [(0, .inr (.inr (some 61))), (1, .inl v1_37), (2, .inl v2_37), (3, .inl v3_50)], [], sh, gc_h sh I48 J49 A) := by
            intro n9
            induction n9 with
            | zero => intro I48 J49 v3_50 hn; omega
            | succ n9 ih110 =>
              intro I48 J49 v3_50 hn hI48 FI48 FJ49 KLH_I48 m_50 e0_50
              clear hv1_37 hv2_37 e1_37 e2_37 e3_37 e4_37 e5_37 e6_37 e7_37 e8_37 f38 f39 f40 f41 f42 f43 f44 f45 f46 f47
              obtain ⟨hv1_37_50, hv2_37_50, hv3_50, e1_50, e2_50, e3_50, e4_50, e5_50, e6_50, e7_50, e8_50, e9_50⟩ := m_50
              have f51 := (show 0 ≤ I48 61 8 ∧ I48 61 8 ≤ 9000 from gc_in hI48 R_61 rfl rfl)
              have f52 := (show 0 ≤ I48 61 9 ∧ I48 61 9 ≤ 1 from gc_in hI48 R_61 rfl rfl)
              have f53 := (show 0 ≤ I48 61 10 ∧ I48 61 10 ≤ 1 from gc_in hI48 R_61 rfl rfl)
              have f54 := (show 0 ≤ I48 48 6 ∧ I48 48 6 ≤ 9000 from gc_in hI48 R_48 rfl rfl)
              have f55 := (show 0 ≤ I48 48 3 ∧ I48 48 3 ≤ 3000 from gc_in hI48 R_48 rfl rfl)
              have f56 := (show 0 ≤ I48 48 10 ∧ I48 48 10 ≤ 18431 from gc_in hI48 R_48 rfl rfl)
              have f57 := (show 0 ≤ I48 61 15 ∧ I48 61 15 ≤ 16 from gc_in hI48 R_61 rfl rfl)
              have f58 := (show 0 ≤ I48 61 4 ∧ I48 61 4 ≤ 1 from gc_in hI48 R_61 rfl rfl)
              have f59 := (show 0 ≤ I48 t 13 ∧ I48 t 13 ≤ 384 from gc_in hI48 R_t rfl rfl)
              have f60 := (show (-1) ≤ I48 61 2 ∧ I48 61 2 ≤ 999999 from gc_in hI48 R_61 rfl rfl)
              refine gv_run 2 true hD (pc' := 112) (lv' := [(0, .inr (.inr (some 61))), (1, .inl v1_37), (2, .inl v2_37), (3, .inl v3_50)]) (st' := [.inr (.inr (some 61)), .inl v3_50]) (h' := gc_h sh I48 J49 A) (C := ((True ∧ True) ∧ True)) rfl ⟨⟨trivial, trivial⟩, trivial⟩ ?_
              refine gv_get hD rfl rfl S_61 ⟨by decide, B_61⟩ (gc_hA S_61 rfl A_61_11) ?_
              show gv_X _ _ (115, [(0, .inr (.inr (some 61))), (1, .inl v1_37), (2, .inl v2_37), (3, .inl v3_50)], [.inr (.inr (some 67)), .inl v3_50], sh, gc_h sh I48 J49 A)
              refine gv_run 1 true hD (pc' := 116) (lv' := [(0, .inr (.inr (some 61))), (1, .inl v1_37), (2, .inl v2_37), (3, .inl v3_50)]) (st' := [.inl v2_37, .inr (.inr (some 67)), .inl v3_50]) (h' := gc_h sh I48 J49 A) (C := (True ∧ True)) rfl ⟨trivial, trivial⟩ ?_
              have f61 := (show 0 ≤ I48 67 (Int.toNat v2_37) ∧ I48 67 (Int.toNat v2_37) ≤ 16 from gc_in hI48 R_67 rfl rfl)
              refine gv_iald hD rfl S_67 rfl ⟨by decide, B_67⟩ ⟨by omega, by omega⟩ (gc_iI S_67 rfl) ?_
              show gv_X _ _ (117, [(0, .inr (.inr (some 61))), (1, .inl v1_37), (2, .inl v2_37), (3, .inl v3_50)], [.inl (I48 67 (Int.toNat v2_37)), .inl v3_50], sh, gc_h sh I48 J49 A)
              refine gv_icmp_ge (t := 136) hD rfl rfl ⟨⟨by omega, by omega⟩, ⟨by omega, by omega⟩⟩ (fun c62 => ?_) (fun c62 => ?_)
              · show gv_X _ _ (136, [(0, .inr (.inr (some 61))), (1, .inl v1_37), (2, .inl v2_37), (3, .inl v3_50)], [], sh, gc_h sh I48 J49 A)
                refine gv_run 2 true hD (pc' := 87) (lv' := [(2, .inl (v2_37 + 1)), (0, .inr (.inr (some 61))), (1, .inl v1_37), (3, .inl v3_50)]) (st' := []) (h' := gc_h sh I48 J49 A) (C := ((True ∧ True) ∧ True)) rfl ⟨⟨trivial, trivial⟩, trivial⟩ ?_
                refine gv_pick [1, 2, 0] rfl ?_
                exact ih87 I48 J49 v1_37 (v2_37 + 1) (by omega) hI48 FI48 FJ49 KLH_I48 (by omega) e0_50
              · show gv_X _ _ (120, [(0, .inr (.inr (some 61))), (1, .inl v1_37), (2, .inl v2_37), (3, .inl v3_50)], [], sh, gc_h sh I48 J49 A)
                refine gv_run 6 true hD (pc' := 127) (lv' := [(0, .inr (.inr (some 61))), (1, .inl v1_37), (2, .inl v2_37), (3, .inl v3_50)]) (st' := [.inl ((v2_37 * 16) + v3_50), .inr (.inr (some 61))]) (h' := gc_h sh I48 J49 A) (C := ((((((True ∧ True) ∧ True) ∧ True) ∧ True) ∧ True) ∧ True)) rfl ⟨⟨⟨⟨⟨⟨trivial, trivial⟩, trivial⟩, trivial⟩, trivial⟩, trivial⟩, trivial⟩ ?_
                obtain ⟨r63, h63, E63, P63⟩ := d_X5_putTop_w (ws0 := ws0) (tb := tb) hws htb sh ro I48 J49 A hI48  (((v2_37 * 16) + v3_50)) hb   ⟨by omega, by omega⟩ e0_50 (show gc_le I48 ((v2_37 * 16) + v3_50) from ⟨by omega, by omega, by omega, by rw [show Int.toNat (((v2_37 * 16) + v3_50) / 16) = Int.toNat v2_37 from by omega]; omega⟩) 
                obtain ⟨I64, J65, rfl, hI64, g63, k63, ⟨rfl, q63⟩⟩ := P63
                have FI64 := gc_frc (W := fun q j => (q = 61 ∧ j = 4) ∨ (q = 61 ∧ j = 8) ∨ (q = 61 ∧ j = 9) ∨ (q = 61 ∧ j = 10) ∨ (q = 61 ∧ j = 15) ∨ q = 64 ∨ q = 65 ∨ q = 66 ∨ q = 67 ∨ q = 68 ∨ q = 69 ∨ q = 70 ∨ q = 71 ∨ q = 72) (V := fun q j => (q = 61 ∧ j = 15) ∨ q = 71 ∨ q = 72) FI48 (fun q j h => (h.elim (fun h => (Or.inr (Or.inr (Or.inr (Or.inr (Or.inl h)))))) (fun h => (h.elim (fun h => (Or.inr (Or.inr (Or.inr (Or.inr (Or.inr (Or.inr (Or.inr (Or.inr (Or.inr (Or.inr (Or.inr (Or.inr (Or.inl h)))))))))))))) (fun h => (Or.inr (Or.inr (Or.inr (Or.inr (Or.inr (Or.inr (Or.inr (Or.inr (Or.inr (Or.inr (Or.inr (Or.inr (Or.inr h)))))))))))))))))) g63
                have t66 := (g63 61 8).resolve_left (fun h => h.elim (fun h => absurd h.2 (by decide)) (fun h => h.elim (fun h => absurd h (by decide)) (fun h => absurd h (by decide))))
                have t67 := (g63 61 9).resolve_left (fun h => h.elim (fun h => absurd h.2 (by decide)) (fun h => h.elim (fun h => absurd h (by decide)) (fun h => absurd h (by decide))))
                have t68 := (g63 61 10).resolve_left (fun h => h.elim (fun h => absurd h.2 (by decide)) (fun h => h.elim (fun h => absurd h (by decide)) (fun h => absurd h (by decide))))
                have t69 := (g63 48 6).resolve_left (fun h => h.elim (fun h => absurd h.2 (by decide)) (fun h => h.elim (fun h => absurd h (by decide)) (fun h => absurd h (by decide))))
                have t70 := (g63 48 3).resolve_left (fun h => h.elim (fun h => absurd h.2 (by decide)) (fun h => h.elim (fun h => absurd h (by decide)) (fun h => absurd h (by decide))))
                have t71 := (g63 48 10).resolve_left (fun h => h.elim (fun h => absurd h.2 (by decide)) (fun h => h.elim (fun h => absurd h (by decide)) (fun h => absurd h (by decide))))
                have t72 := (g63 61 4).resolve_left (fun h => h.elim (fun h => absurd h.2 (by decide)) (fun h => h.elim (fun h => absurd h (by decide)) (fun h => absurd h (by decide))))
                have t73 := (g63 t 13).resolve_left (fun h => h.elim (fun h => absurd h.2 (by decide)) (fun h => h.elim (fun h => absurd h N_t__71) (fun h => absurd h N_t__72)))
                have t74 := (g63 61 2).resolve_left (fun h => h.elim (fun h => absurd h.2 (by decide)) (fun h => h.elim (fun h => absurd h (by decide)) (fun h => absurd h (by decide))))
                have f75 := (show 0 ≤ I64 61 15 ∧ I64 61 15 ≤ 16 from gc_in hI64 R_61 rfl rfl)
                obtain rfl : J49 = J65 := funext fun q => funext fun j => ((k63 q j).resolve_left id).symm
                have KLH_I64 := gc_LH_fr KLH_I48 ((g63 48 6).resolve_left (fun h => h.elim (fun h => absurd h.2 (by decide)) (fun h => h.elim (fun h => absurd h (by decide)) (fun h => absurd h (by decide))))) ((g63 48 3).resolve_left (fun h => h.elim (fun h => absurd h.2 (by decide)) (fun h => h.elim (fun h => absurd h (by decide)) (fun h => absurd h (by decide))))) (fun k => (g63 54 k).resolve_left (fun h => h.elim (fun h => absurd h.1 (by decide)) (fun h => h.elim (fun h => absurd h (by decide)) (fun h => absurd h (by decide))))) (fun k => (g63 55 k).resolve_left (fun h => h.elim (fun h => absurd h.1 (by decide)) (fun h => h.elim (fun h => absurd h (by decide)) (fun h => absurd h (by decide))))) (fun k => (g63 67 k).resolve_left (fun h => h.elim (fun h => absurd h.1 (by decide)) (fun h => h.elim (fun h => absurd h (by decide)) (fun h => absurd h (by decide))))) (fun k => (g63 69 k).resolve_left (fun h => h.elim (fun h => absurd h.1 (by decide)) (fun h => h.elim (fun h => absurd h (by decide)) (fun h => absurd h (by decide))))) (fun k => (g63 70 k).resolve_left (fun h => h.elim (fun h => absurd h.1 (by decide)) (fun h => h.elim (fun h => absurd h (by decide)) (fun h => absurd h (by decide)))))
                refine gv_callV hD rfl (As := [.inl ((v2_37 * 16) + v3_50)]) (st := []) rfl B_61 S_61 rfl (gc_lV5 hws rfl) (Nat.le_of_ble_eq_true rfl) (gz_Ev_mono (d := 2) (by decide) E63) ?_
                show gv_X _ _ (130, [(0, .inr (.inr (some 61))), (1, .inl v1_37), (2, .inl v2_37), (3, .inl v3_50)], [], sh, gc_h sh I64 J49 A)
                refine gv_run 2 true hD (pc' := 110) (lv' := [(3, .inl (v3_50 + 1)), (0, .inr (.inr (some 61))), (1, .inl v1_37), (2, .inl v2_37)]) (st' := []) (h' := gc_h sh I64 J49 A) (C := ((True ∧ True) ∧ True)) rfl ⟨⟨trivial, trivial⟩, trivial⟩ ?_
                refine gv_pick [1, 2, 3, 0] rfl ?_
                exact ih110 I64 J49 (v3_50 + 1) (by omega) hI64 FI64 FJ49 KLH_I64 (by omega) q63
          have t76 := (FI35 49 (Int.toNat (I 48 10))).resolve_left (by omega)
          have t77 := (FI35 50 (Int.toNat (I 48 10))).resolve_left (by omega)
          have t78 := (show I35 50 (Int.toNat (I35 48 10)) = I35 50 (Int.toNat (I 48 10)) from by rw [show I35 48 10 = I 48 10 from by omega])
          have t79 := (show I35 49 (Int.toNat (I35 48 10)) = I35 49 (Int.toNat (I 48 10)) from by rw [show I35 48 10 = I 48 10 from by omega])
          refine gv_run 3 true hD (pc' := 90) (lv' := [(0, .inr (.inr (some 61))), (1, .inl v1_37), (2, .inl v2_37)]) (st' := [.inr (.inr (some 61)), .inl v1_37, .inl v2_37]) (h' := gc_h sh I35 J36 A) (C := (((True ∧ True) ∧ True) ∧ True)) rfl ⟨⟨⟨trivial, trivial⟩, trivial⟩, trivial⟩ ?_
          refine gv_get hD rfl rfl S_61 ⟨by decide, B_61⟩ (gc_hA S_61 rfl A_61_1) ?_
          show gv_X _ _ (93, [(0, .inr (.inr (some 61))), (1, .inl v1_37), (2, .inl v2_37)], [.inr (.inr (some 48)), .inl v1_37, .inl v2_37], sh, gc_h sh I35 J36 A)
          refine gv_get hD rfl rfl S_48 ⟨by decide, B_48⟩ (gc_hA S_48 rfl A_48_2) ?_
          show gv_X _ _ (96, [(0, .inr (.inr (some 61))), (1, .inl v1_37), (2, .inl v2_37)], [.inr (.inr (some 50)), .inl v1_37, .inl v2_37], sh, gc_h sh I35 J36 A)
          refine gv_run 1 true hD (pc' := 97) (lv' := [(0, .inr (.inr (some 61))), (1, .inl v1_37), (2, .inl v2_37)]) (st' := [.inr (.inr (some 61)), .inr (.inr (some 50)), .inl v1_37, .inl v2_37]) (h' := gc_h sh I35 J36 A) (C := (True ∧ True)) rfl ⟨trivial, trivial⟩ ?_
          refine gv_get hD rfl rfl S_61 ⟨by decide, B_61⟩ (gc_hA S_61 rfl A_61_1) ?_
          show gv_X _ _ (100, [(0, .inr (.inr (some 61))), (1, .inl v1_37), (2, .inl v2_37)], [.inr (.inr (some 48)), .inr (.inr (some 50)), .inl v1_37, .inl v2_37], sh, gc_h sh I35 J36 A)
          have f80 := (show 0 ≤ I35 48 10 ∧ I35 48 10 ≤ 18431 from gc_in hI35 R_48 rfl rfl)
          refine gv_get hD rfl rfl S_48 ⟨by decide, B_48⟩ (gc_hI S_48 rfl) ?_
          show gv_X _ _ (103, [(0, .inr (.inr (some 61))), (1, .inl v1_37), (2, .inl v2_37)], [.inl (I35 48 10), .inr (.inr (some 50)), .inl v1_37, .inl v2_37], sh, gc_h sh I35 J36 A)
          have f81 := (show 0 ≤ I35 50 (Int.toNat (I35 48 10)) ∧ I35 50 (Int.toNat (I35 48 10)) ≤ 3000 from gc_in hI35 R_50 rfl rfl)
          refine gv_iald hD rfl S_50 rfl ⟨by decide, B_50⟩ ⟨by omega, by omega⟩ (gc_iI S_50 rfl) ?_
          show gv_X _ _ (104, [(0, .inr (.inr (some 61))), (1, .inl v1_37), (2, .inl v2_37)], [.inl (I35 50 (Int.toNat (I35 48 10))), .inl v1_37, .inl v2_37], sh, gc_h sh I35 J36 A)
          refine gv_run 1 true hD (pc' := 105) (lv' := [(0, .inr (.inr (some 61))), (1, .inl v1_37), (2, .inl v2_37)]) (st' := [.inl (v1_37 + (I35 50 (Int.toNat (I35 48 10)))), .inl v2_37]) (h' := gc_h sh I35 J36 A) (C := (True ∧ True)) rfl ⟨trivial, trivial⟩ ?_
          refine gv_icmp_ge (t := 142) hD rfl rfl ⟨⟨by omega, by omega⟩, ⟨by omega, by omega⟩⟩ (fun c82 => ?_) (fun c82 => ?_)
          · show gv_X _ _ (142, [(0, .inr (.inr (some 61))), (1, .inl v1_37), (2, .inl v2_37)], [], sh, gc_h sh I35 J36 A)
            exact gv_vret hD rfl ⟨I35, J36, rfl, hI35, FI35, FJ36, ⟨rfl, KLH_I35, e0_37, by omega⟩⟩
          · show gv_X _ _ (108, [(0, .inr (.inr (some 61))), (1, .inl v1_37), (2, .inl v2_37)], [], sh, gc_h sh I35 J36 A)
            refine gv_run 2 true hD (pc' := 110) (lv' := [(3, .inl 0), (0, .inr (.inr (some 61))), (1, .inl v1_37), (2, .inl v2_37)]) (st' := []) (h' := gc_h sh I35 J36 A) (C := ((True ∧ True) ∧ True)) rfl ⟨⟨trivial, trivial⟩, trivial⟩ ?_
            refine gv_pick [1, 2, 3, 0] rfl ?_
            exact L110 _ I35 J36 0 (Nat.lt_succ_self _) hI35 FI35 FJ36 KLH_I35 (by omega) e0_37
      refine gv_run 2 true hD (pc' := 32) (lv' := [(0, .inr (.inr (some 61))), (1, .inl v1_24)]) (st' := [.inr (.inr (some 61)), .inl v1_24]) (h' := gc_h sh I22 J23 A) (C := ((True ∧ True) ∧ True)) rfl ⟨⟨trivial, trivial⟩, trivial⟩ ?_
      have f83 := (show 0 ≤ I22 61 8 ∧ I22 61 8 ≤ 9000 from gc_in hI22 R_61 rfl rfl)
      refine gv_get hD rfl rfl S_61 ⟨by decide, B_61⟩ (gc_hI S_61 rfl) ?_
      show gv_X _ _ (35, [(0, .inr (.inr (some 61))), (1, .inl v1_24)], [.inl (I22 61 8), .inl v1_24], sh, gc_h sh I22 J23 A)
      refine gv_icmp_ge (t := 64) hD rfl rfl ⟨⟨by omega, by omega⟩, ⟨by omega, by omega⟩⟩ (fun c84 => ?_) (fun c84 => ?_)
      · show gv_X _ _ (64, [(0, .inr (.inr (some 61))), (1, .inl v1_24)], [], sh, gc_h sh I22 J23 A)
        refine gv_run 2 true hD (pc' := 66) (lv' := [(0, .inr (.inr (some 61))), (1, .inl v1_24)]) (st' := [.inl 0, .inr (.inr (some 61))]) (h' := gc_h sh I22 J23 A) (C := ((True ∧ True) ∧ True)) rfl ⟨⟨trivial, trivial⟩, trivial⟩ ?_
        refine gv_put hD rfl rfl S_61 ⟨by decide, B_61⟩ rfl trivial ?_
        refine gc_st (k := 15) hI22 S_61 rfl R_61 (lo := 0) (hi := 16) rfl rfl (by omega) (by omega) (fun I85 hI85 q86 p86 => ?_)
        have FI85 := gc_frs (W := fun q j => (q = 61 ∧ j = 4) ∨ (q = 61 ∧ j = 8) ∨ (q = 61 ∧ j = 9) ∨ (q = 61 ∧ j = 10) ∨ (q = 61 ∧ j = 15) ∨ q = 64 ∨ q = 65 ∨ q = 66 ∨ q = 67 ∨ q = 68 ∨ q = 69 ∨ q = 70 ∨ q = 71 ∨ q = 72) FI22 (Or.inr (Or.inr (Or.inr (Or.inr (Or.inl ⟨rfl, rfl⟩))))) p86
        have t87 := p86 61 8 (fun h => absurd h.2 (by decide))
        have t88 := p86 61 9 (fun h => absurd h.2 (by decide))
        have t89 := p86 61 10 (fun h => absurd h.2 (by decide))
        have t90 := p86 48 6 (fun h => absurd h.2 (by decide))
        have t91 := p86 48 3 (fun h => absurd h.2 (by decide))
        have t92 := p86 48 10 (fun h => absurd h.2 (by decide))
        have t93 := p86 61 4 (fun h => absurd h.2 (by decide))
        have t94 := p86 t 13 (fun h => absurd h.2 (by decide))
        have t95 := p86 61 2 (fun h => absurd h.2 (by decide))
        have f96 := (show 0 ≤ I85 61 15 ∧ I85 61 15 ≤ 16 from gc_in hI85 R_61 rfl rfl)
        have KOR_I85 := gc_OR_fr KOR_I22 (p86 61 8 (fun h => absurd h.2 (by decide))) (p86 61 9 (fun h => absurd h.2 (by decide))) (p86 48 6 (fun h => absurd h.2 (by decide))) (fun k => p86 65 k (fun h => absurd h.1 (by decide))) (fun k => p86 66 k (fun h => absurd h.1 (by decide)))
        have KLH_I85 := gc_LH_fr KLH_I22 (p86 48 6 (fun h => absurd h.2 (by decide))) (p86 48 3 (fun h => absurd h.2 (by decide))) (fun k => p86 54 k (fun h => absurd h.1 (by decide))) (fun k => p86 55 k (fun h => absurd h.1 (by decide))) (fun k => p86 67 k (fun h => absurd h.1 (by decide))) (fun k => p86 69 k (fun h => absurd h.1 (by decide))) (fun k => p86 70 k (fun h => absurd h.1 (by decide)))
        show gv_X _ _ (69, [(0, .inr (.inr (some 61))), (1, .inl v1_24)], [], sh, gc_h sh I85 J23 A)
        refine gv_run 1 true hD (pc' := 70) (lv' := [(0, .inr (.inr (some 61))), (1, .inl v1_24)]) (st' := [.inr (.inr (some 61))]) (h' := gc_h sh I85 J23 A) (C := (True ∧ True)) rfl ⟨trivial, trivial⟩ ?_
        refine gv_get hD rfl rfl S_61 ⟨by decide, B_61⟩ (gc_hA S_61 rfl A_61_1) ?_
        show gv_X _ _ (73, [(0, .inr (.inr (some 61))), (1, .inl v1_24)], [.inr (.inr (some 48))], sh, gc_h sh I85 J23 A)
        refine gv_get hD rfl rfl S_48 ⟨by decide, B_48⟩ (gc_hA S_48 rfl A_48_1) ?_
        show gv_X _ _ (76, [(0, .inr (.inr (some 61))), (1, .inl v1_24)], [.inr (.inr (some 49))], sh, gc_h sh I85 J23 A)
        refine gv_run 1 true hD (pc' := 77) (lv' := [(0, .inr (.inr (some 61))), (1, .inl v1_24)]) (st' := [.inr (.inr (some 61)), .inr (.inr (some 49))]) (h' := gc_h sh I85 J23 A) (C := (True ∧ True)) rfl ⟨trivial, trivial⟩ ?_
        refine gv_get hD rfl rfl S_61 ⟨by decide, B_61⟩ (gc_hA S_61 rfl A_61_1) ?_
        show gv_X _ _ (80, [(0, .inr (.inr (some 61))), (1, .inl v1_24)], [.inr (.inr (some 48)), .inr (.inr (some 49))], sh, gc_h sh I85 J23 A)
        have f97 := (show 0 ≤ I85 48 10 ∧ I85 48 10 ≤ 18431 from gc_in hI85 R_48 rfl rfl)
        refine gv_get hD rfl rfl S_48 ⟨by decide, B_48⟩ (gc_hI S_48 rfl) ?_
        show gv_X _ _ (83, [(0, .inr (.inr (some 61))), (1, .inl v1_24)], [.inl (I85 48 10), .inr (.inr (some 49))], sh, gc_h sh I85 J23 A)
        have f98 := (show 0 ≤ I85 49 (Int.toNat (I85 48 10)) ∧ I85 49 (Int.toNat (I85 48 10)) ≤ 3000 from gc_in hI85 R_49 rfl rfl)
        refine gv_iald hD rfl S_49 rfl ⟨by decide, B_49⟩ ⟨by omega, by omega⟩ (gc_iI S_49 rfl) ?_
        show gv_X _ _ (84, [(0, .inr (.inr (some 61))), (1, .inl v1_24)], [.inl (I85 49 (Int.toNat (I85 48 10)))], sh, gc_h sh I85 J23 A)
        refine gv_run 3 true hD (pc' := 87) (lv' := [(2, .inl (I85 49 (Int.toNat (I85 48 10)))), (1, .inl (I85 49 (Int.toNat (I85 48 10)))), (0, .inr (.inr (some 61)))]) (st' := []) (h' := gc_h sh I85 J23 A) (C := (((True ∧ True) ∧ True) ∧ True)) rfl ⟨⟨⟨trivial, trivial⟩, trivial⟩, trivial⟩ ?_
        refine gv_pick [2, 1, 0] rfl ?_
        exact L87 _ I85 J23 ((I85 49 (Int.toNat (I85 48 10)))) ((I85 49 (Int.toNat (I85 48 10)))) (Nat.lt_succ_self _) hI85 FI85 FJ23 KLH_I85 (by omega) (gc_TH_0 (by omega))
      · show gv_X _ _ (38, [(0, .inr (.inr (some 61))), (1, .inl v1_24)], [], sh, gc_h sh I22 J23 A)
        refine gv_run 1 true hD (pc' := 39) (lv' := [(0, .inr (.inr (some 61))), (1, .inl v1_24)]) (st' := [.inr (.inr (some 61))]) (h' := gc_h sh I22 J23 A) (C := (True ∧ True)) rfl ⟨trivial, trivial⟩ ?_
        have f100 := (show 0 ≤ I22 61 9 ∧ I22 61 9 ≤ 1 from gc_in hI22 R_61 rfl rfl)
        obtain ⟨f99_, hq_f99_, S_f99, R_f99, B_f99, D_f99⟩ := gc_sw (p := 61) (d := 4) (s := 1) (z := I22 61 9) (show 0 ≤ I22 61 9 ∧ I22 61 9 ≤ 1 from gc_in hI22 R_61 rfl rfl) S_65 R_65 B_65 S_66 R_66 B_66
        refine gv_get hD rfl rfl S_61 ⟨by decide, B_61⟩ (gc_hS (n := 4) S_61 rfl hq_f99_) ?_
        show gv_X _ _ (42, [(0, .inr (.inr (some 61))), (1, .inl v1_24)], [.inr (.inr (some f99_))], sh, gc_h sh I22 J23 A)
        refine gv_run 1 true hD (pc' := 43) (lv' := [(0, .inr (.inr (some 61))), (1, .inl v1_24)]) (st' := [.inl v1_24, .inr (.inr (some f99_))]) (h' := gc_h sh I22 J23 A) (C := (True ∧ True)) rfl ⟨trivial, trivial⟩ ?_
        have t101 := gc_OR_at (f := f99_) (i := Int.toNat v1_24) KOR_I22 hq_f99_ (by omega)
        have f102 := (show 0 ≤ I22 f99_ (Int.toNat v1_24) ∧ I22 f99_ (Int.toNat v1_24) ≤ 8999 from gc_in hI22 R_f99 rfl rfl)
        refine gv_iald hD rfl S_f99 rfl ⟨by decide, B_f99⟩ ⟨by omega, by omega⟩ (gc_iI S_f99 rfl) ?_
        show gv_X _ _ (44, [(0, .inr (.inr (some 61))), (1, .inl v1_24)], [.inl (I22 f99_ (Int.toNat v1_24))], sh, gc_h sh I22 J23 A)
        refine gv_run 7 true hD (pc' := 51) (lv' := [(2, .inl (I22 f99_ (Int.toNat v1_24))), (0, .inr (.inr (some 61))), (1, .inl v1_24)]) (st' := [.inl (I22 f99_ (Int.toNat v1_24)), .inr (.inr (some 61)), .inl 1, .inl 0, .inl (I22 f99_ (Int.toNat v1_24)), .inr (.inr (some 61))]) (h' := gc_h sh I22 J23 A) (C := (((((((True ∧ True) ∧ True) ∧ True) ∧ True) ∧ True) ∧ True) ∧ True)) rfl ⟨⟨⟨⟨⟨⟨⟨trivial, trivial⟩, trivial⟩, trivial⟩, trivial⟩, trivial⟩, trivial⟩, trivial⟩ ?_
        obtain ⟨r103, h103, E103, P103⟩ := d_X5_ownPrice (ws0 := ws0) (tb := tb) hws htb sh ro I22 J23 A hI22  t ((I22 f99_ (Int.toNat v1_24))) hb  h_t G_t  ⟨by omega, by omega⟩ (gc_Ls_fr x0 ((FI22 t 13).resolve_left (by omega)) (fun q hL hq d k hd => (FI22 (q + d) k).resolve_left (by have := gc_dj_LT hL h_t; omega))) (gc_WV_fr x1 ((FI22 48 6).resolve_left (by omega)) ((FI22 t 13).resolve_left (by omega)) (fun k => (FI22 54 k).resolve_left (by omega))) (by omega) (by omega) 
        obtain ⟨rfl, ⟨z103, rfl, q103⟩⟩ := P103
        refine gv_callV hD rfl (As := [.inl (I22 f99_ (Int.toNat v1_24))]) (st := [.inl 1, .inl 0, .inl (I22 f99_ (Int.toNat v1_24)), .inr (.inr (some 61))]) rfl B_61 S_61 rfl (gc_lV5 hws rfl) (Nat.le_of_ble_eq_true rfl) (gz_Ev_mono (d := 3) (by decide) E103) ?_
        show gv_X _ _ (54, [(2, .inl (I22 f99_ (Int.toNat v1_24))), (0, .inr (.inr (some 61))), (1, .inl v1_24)], [.inl z103, .inl 1, .inl 0, .inl (I22 f99_ (Int.toNat v1_24)), .inr (.inr (some 61))], sh, gc_h sh I22 J23 A)
        refine gv_run 1 true hD (pc' := 55) (lv' := [(2, .inl (I22 f99_ (Int.toNat v1_24))), (0, .inr (.inr (some 61))), (1, .inl v1_24)]) (st' := [.inl 0, .inl z103, .inl 1, .inl 0, .inl (I22 f99_ (Int.toNat v1_24)), .inr (.inr (some 61))]) (h' := gc_h sh I22 J23 A) (C := (True ∧ True)) rfl ⟨trivial, trivial⟩ ?_
        obtain ⟨r104, h104, E104, P104⟩ := d_X5_choose (ws0 := ws0) (tb := tb) hws htb sh ro A  t σ  hb  h_t G_t  6 I22 J23 hI22 ((I22 f99_ (Int.toNat v1_24))) 0 1 z103 0 ⟨by omega, by omega⟩ ⟨by omega, by omega⟩ ⟨by omega, by omega⟩ ⟨by omega, by omega⟩ ⟨by omega, by omega⟩ (gc_Ls_fr x0 ((FI22 t 13).resolve_left (by omega)) (fun q hL hq d k hd => (FI22 (q + d) k).resolve_left (by have := gc_dj_LT hL h_t; omega))) (gc_WV_fr x1 ((FI22 48 6).resolve_left (by omega)) ((FI22 t 13).resolve_left (by omega)) (fun k => (FI22 54 k).resolve_left (by omega))) (fun i q hi hA => by obtain ⟨q9, b1, b2, b3, _, _⟩ := x0 i (by omega); cases b1.symm.trans hA; have b4 := gc_dj_LT b2 h_t; exact ((FI22 _ 8).resolve_left (by omega)).trans (x2 i _ (by omega) hA)) (gc_WA_fr x3 ((FI22 48 6).resolve_left (by omega)) (by omega) (fun k => (FI22 53 k).resolve_left (by omega)) (fun k => (FI22 54 k).resolve_left (by omega)) (fun k => (FI22 55 k).resolve_left (by omega))) KLH_I22 ⟨Int.le_refl _, (show (0 : Int) < 1 from by decide), fun s h0 h1 => by omega⟩ (by omega) (by omega)  (by omega)
        obtain ⟨I105, J106, rfl, hI105, g104, k104, ⟨rfl, q104⟩⟩ := P104
        have FI105 := gc_frc (W := fun q j => (q = 61 ∧ j = 4) ∨ (q = 61 ∧ j = 8) ∨ (q = 61 ∧ j = 9) ∨ (q = 61 ∧ j = 10) ∨ (q = 61 ∧ j = 15) ∨ q = 64 ∨ q = 65 ∨ q = 66 ∨ q = 67 ∨ q = 68 ∨ q = 69 ∨ q = 70 ∨ q = 71 ∨ q = 72) (V := fun q j => q = 67 ∨ q = 68 ∨ q = 69 ∨ q = 70) FI22 (fun q j h => (h.elim (fun h => (Or.inr (Or.inr (Or.inr (Or.inr (Or.inr (Or.inr (Or.inr (Or.inr (Or.inl h)))))))))) (fun h => (h.elim (fun h => (Or.inr (Or.inr (Or.inr (Or.inr (Or.inr (Or.inr (Or.inr (Or.inr (Or.inr (Or.inl h))))))))))) (fun h => (h.elim (fun h => (Or.inr (Or.inr (Or.inr (Or.inr (Or.inr (Or.inr (Or.inr (Or.inr (Or.inr (Or.inr (Or.inl h)))))))))))) (fun h => (Or.inr (Or.inr (Or.inr (Or.inr (Or.inr (Or.inr (Or.inr (Or.inr (Or.inr (Or.inr (Or.inr (Or.inl h))))))))))))))))))) g104
        have t107 := (g104 61 8).resolve_left (fun h => h.elim (fun h => absurd h (by decide)) (fun h => h.elim (fun h => absurd h (by decide)) (fun h => h.elim (fun h => absurd h (by decide)) (fun h => absurd h (by decide)))))
        have t108 := (g104 61 9).resolve_left (fun h => h.elim (fun h => absurd h (by decide)) (fun h => h.elim (fun h => absurd h (by decide)) (fun h => h.elim (fun h => absurd h (by decide)) (fun h => absurd h (by decide)))))
        have t109 := (g104 61 10).resolve_left (fun h => h.elim (fun h => absurd h (by decide)) (fun h => h.elim (fun h => absurd h (by decide)) (fun h => h.elim (fun h => absurd h (by decide)) (fun h => absurd h (by decide)))))
        have t110 := (g104 48 6).resolve_left (fun h => h.elim (fun h => absurd h (by decide)) (fun h => h.elim (fun h => absurd h (by decide)) (fun h => h.elim (fun h => absurd h (by decide)) (fun h => absurd h (by decide)))))
        have t111 := (g104 48 3).resolve_left (fun h => h.elim (fun h => absurd h (by decide)) (fun h => h.elim (fun h => absurd h (by decide)) (fun h => h.elim (fun h => absurd h (by decide)) (fun h => absurd h (by decide)))))
        have t112 := (g104 48 10).resolve_left (fun h => h.elim (fun h => absurd h (by decide)) (fun h => h.elim (fun h => absurd h (by decide)) (fun h => h.elim (fun h => absurd h (by decide)) (fun h => absurd h (by decide)))))
        have t113 := (g104 61 15).resolve_left (fun h => h.elim (fun h => absurd h (by decide)) (fun h => h.elim (fun h => absurd h (by decide)) (fun h => h.elim (fun h => absurd h (by decide)) (fun h => absurd h (by decide)))))
        have t114 := (g104 61 4).resolve_left (fun h => h.elim (fun h => absurd h (by decide)) (fun h => h.elim (fun h => absurd h (by decide)) (fun h => h.elim (fun h => absurd h (by decide)) (fun h => absurd h (by decide)))))
        have t115 := (g104 t 13).resolve_left (fun h => h.elim (fun h => absurd h N_t__67) (fun h => h.elim (fun h => absurd h N_t__68) (fun h => h.elim (fun h => absurd h N_t__69) (fun h => absurd h N_t__70))))
        have t116 := (g104 61 2).resolve_left (fun h => h.elim (fun h => absurd h (by decide)) (fun h => h.elim (fun h => absurd h (by decide)) (fun h => h.elim (fun h => absurd h (by decide)) (fun h => absurd h (by decide)))))
        obtain rfl : J23 = J106 := funext fun q => funext fun j => ((k104 q j).resolve_left id).symm
        have KLH_I105 : gc_LH σ (-1) I105 := q104.1
        have KOR_I105 := gc_OR_fr KOR_I22 ((g104 61 8).resolve_left (fun h => h.elim (fun h => absurd h (by decide)) (fun h => h.elim (fun h => absurd h (by decide)) (fun h => h.elim (fun h => absurd h (by decide)) (fun h => absurd h (by decide)))))) ((g104 61 9).resolve_left (fun h => h.elim (fun h => absurd h (by decide)) (fun h => h.elim (fun h => absurd h (by decide)) (fun h => h.elim (fun h => absurd h (by decide)) (fun h => absurd h (by decide)))))) ((g104 48 6).resolve_left (fun h => h.elim (fun h => absurd h (by decide)) (fun h => h.elim (fun h => absurd h (by decide)) (fun h => h.elim (fun h => absurd h (by decide)) (fun h => absurd h (by decide)))))) (fun k => (g104 65 k).resolve_left (fun h => h.elim (fun h => absurd h (by decide)) (fun h => h.elim (fun h => absurd h (by decide)) (fun h => h.elim (fun h => absurd h (by decide)) (fun h => absurd h (by decide)))))) (fun k => (g104 66 k).resolve_left (fun h => h.elim (fun h => absurd h (by decide)) (fun h => h.elim (fun h => absurd h (by decide)) (fun h => h.elim (fun h => absurd h (by decide)) (fun h => absurd h (by decide))))))
        refine gv_callV hD rfl (As := [.inl (I22 f99_ (Int.toNat v1_24)), .inl 0, .inl 1, .inl z103, .inl 0]) (st := []) rfl B_61 S_61 rfl (gc_lV5 hws rfl) (Nat.le_of_ble_eq_true rfl) (gz_Ev_mono (d := 7) (by decide) E104) ?_
        show gv_X _ _ (58, [(2, .inl (I22 f99_ (Int.toNat v1_24))), (0, .inr (.inr (some 61))), (1, .inl v1_24)], [], sh, gc_h sh I105 J23 A)
        refine gv_run 2 true hD (pc' := 30) (lv' := [(1, .inl (v1_24 + 1)), (2, .inl (I22 f99_ (Int.toNat v1_24))), (0, .inr (.inr (some 61)))]) (st' := []) (h' := gc_h sh I105 J23 A) (C := ((True ∧ True) ∧ True)) rfl ⟨⟨trivial, trivial⟩, trivial⟩ ?_
        refine gv_pick [2, 0] rfl ?_
        exact ih30 I105 J23 (v1_24 + 1) (by omega) hI105 FI105 FJ23 KOR_I105 KLH_I105 (by omega)
  refine gv_run 1 true hD (pc' := 1) (lv' := [(0, .inr (.inr (some 61)))]) (st' := [.inr (.inr (some 61))]) (h' := gc_h sh I J A) (C := (True ∧ True)) rfl ⟨trivial, trivial⟩ ?_
  have f117 := (show 0 ≤ I 61 3 ∧ I 61 3 ≤ 1 from gc_in hI R_61 rfl rfl)
  refine gv_get hD rfl rfl S_61 ⟨by decide, B_61⟩ (gc_hI S_61 rfl) ?_
  show gv_X _ _ (4, [(0, .inr (.inr (some 61)))], [.inl (I 61 3)], sh, gc_h sh I J A)
  refine gv_if_eq (t := 14) hD rfl rfl ⟨by omega, by omega⟩ (fun c118 => ?_) (fun c118 => ?_)
  · exfalso; omega
  · show gv_X _ _ (7, [(0, .inr (.inr (some 61)))], [], sh, gc_h sh I J A)
    refine gv_run 1 true hD (pc' := 8) (lv' := [(0, .inr (.inr (some 61)))]) (st' := [.inr (.inr (some 61))]) (h' := gc_h sh I J A) (C := (True ∧ True)) rfl ⟨trivial, trivial⟩ ?_
    have f119 := (show 0 ≤ I 61 4 ∧ I 61 4 ≤ 1 from gc_in hI R_61 rfl rfl)
    refine gv_get hD rfl rfl S_61 ⟨by decide, B_61⟩ (gc_hI S_61 rfl) ?_
    show gv_X _ _ (11, [(0, .inr (.inr (some 61)))], [.inl (I 61 4)], sh, gc_h sh I J A)
    refine gv_if_eq (t := 15) hD rfl rfl ⟨by omega, by omega⟩ (fun c120 => ?_) (fun c120 => ?_)
    · show gv_X _ _ (15, [(0, .inr (.inr (some 61)))], [], sh, gc_h sh I J A)
      refine gv_run 2 true hD (pc' := 17) (lv' := [(0, .inr (.inr (some 61)))]) (st' := [.inl 1, .inr (.inr (some 61))]) (h' := gc_h sh I J A) (C := ((True ∧ True) ∧ True)) rfl ⟨⟨trivial, trivial⟩, trivial⟩ ?_
      refine gv_put hD rfl rfl S_61 ⟨by decide, B_61⟩ rfl (by omega) ?_
      refine gc_st (k := 4) hI S_61 rfl R_61 (lo := 0) (hi := 1) rfl rfl (by omega) (by omega) (fun I121 hI121 q122 p122 => ?_)
      have FI121 := gc_frs (W := fun q j => (q = 61 ∧ j = 4) ∨ (q = 61 ∧ j = 8) ∨ (q = 61 ∧ j = 9) ∨ (q = 61 ∧ j = 10) ∨ (q = 61 ∧ j = 15) ∨ q = 64 ∨ q = 65 ∨ q = 66 ∨ q = 67 ∨ q = 68 ∨ q = 69 ∨ q = 70 ∨ q = 71 ∨ q = 72) FI (Or.inl ⟨rfl, rfl⟩) p122
      have t123 := p122 61 8 (fun h => absurd h.2 (by decide))
      have t124 := p122 61 9 (fun h => absurd h.2 (by decide))
      have t125 := p122 61 10 (fun h => absurd h.2 (by decide))
      have t126 := p122 48 6 (fun h => absurd h.2 (by decide))
      have t127 := p122 48 3 (fun h => absurd h.2 (by decide))
      have t128 := p122 48 10 (fun h => absurd h.2 (by decide))
      have t129 := p122 61 15 (fun h => absurd h.2 (by decide))
      have t130 := p122 t 13 (fun h => absurd h.2 (by decide))
      have t131 := p122 61 2 (fun h => absurd h.2 (by decide))
      have f132 := (show 0 ≤ I121 61 4 ∧ I121 61 4 ≤ 1 from gc_in hI121 R_61 rfl rfl)
      show gv_X _ _ (20, [(0, .inr (.inr (some 61)))], [], sh, gc_h sh I121 J A)
      refine gv_run 1 true hD (pc' := 21) (lv' := [(0, .inr (.inr (some 61)))]) (st' := [.inr (.inr (some 61))]) (h' := gc_h sh I121 J A) (C := (True ∧ True)) rfl ⟨trivial, trivial⟩ ?_
      obtain ⟨r133, h133, E133, P133⟩ := d_X5_reach (ws0 := ws0) (tb := tb) hws htb sh ro I121 J A hI121  t  hb  h_t G_t   (gc_Ls_fr x0 ((FI121 t 13).resolve_left (by omega)) (fun q hL hq d k hd => (FI121 (q + d) k).resolve_left (by have := gc_dj_LT hL h_t; omega))) (gc_WV_fr x1 ((FI121 48 6).resolve_left (by omega)) ((FI121 t 13).resolve_left (by omega)) (fun k => (FI121 54 k).resolve_left (by omega))) (gc_FN_fr x4 (fun k => (FI121 49 k).resolve_left (by omega)) (fun k => (FI121 50 k).resolve_left (by omega))) (by omega) 
      obtain ⟨I134, J135, rfl, hI134, g133, k133, ⟨rfl, q133⟩⟩ := P133
      have FI134 := gc_frc (W := fun q j => (q = 61 ∧ j = 4) ∨ (q = 61 ∧ j = 8) ∨ (q = 61 ∧ j = 9) ∨ (q = 61 ∧ j = 10) ∨ (q = 61 ∧ j = 15) ∨ q = 64 ∨ q = 65 ∨ q = 66 ∨ q = 67 ∨ q = 68 ∨ q = 69 ∨ q = 70 ∨ q = 71 ∨ q = 72) (V := fun q j => (q = 61 ∧ j = 8) ∨ q = 64 ∨ q = 65 ∨ q = 66 ∨ q = 67) FI121 (fun q j h => (h.elim (fun h => (Or.inr (Or.inl h))) (fun h => (h.elim (fun h => (Or.inr (Or.inr (Or.inr (Or.inr (Or.inr (Or.inl h))))))) (fun h => (h.elim (fun h => (Or.inr (Or.inr (Or.inr (Or.inr (Or.inr (Or.inr (Or.inl h)))))))) (fun h => (h.elim (fun h => (Or.inr (Or.inr (Or.inr (Or.inr (Or.inr (Or.inr (Or.inr (Or.inl h))))))))) (fun h => (Or.inr (Or.inr (Or.inr (Or.inr (Or.inr (Or.inr (Or.inr (Or.inr (Or.inl h)))))))))))))))))) g133
      have t136 := (g133 61 9).resolve_left (fun h => h.elim (fun h => absurd h.2 (by decide)) (fun h => h.elim (fun h => absurd h (by decide)) (fun h => h.elim (fun h => absurd h (by decide)) (fun h => h.elim (fun h => absurd h (by decide)) (fun h => absurd h (by decide))))))
      have t137 := (g133 61 10).resolve_left (fun h => h.elim (fun h => absurd h.2 (by decide)) (fun h => h.elim (fun h => absurd h (by decide)) (fun h => h.elim (fun h => absurd h (by decide)) (fun h => h.elim (fun h => absurd h (by decide)) (fun h => absurd h (by decide))))))
      have t138 := (g133 48 6).resolve_left (fun h => h.elim (fun h => absurd h.2 (by decide)) (fun h => h.elim (fun h => absurd h (by decide)) (fun h => h.elim (fun h => absurd h (by decide)) (fun h => h.elim (fun h => absurd h (by decide)) (fun h => absurd h (by decide))))))
      have t139 := (g133 48 3).resolve_left (fun h => h.elim (fun h => absurd h.2 (by decide)) (fun h => h.elim (fun h => absurd h (by decide)) (fun h => h.elim (fun h => absurd h (by decide)) (fun h => h.elim (fun h => absurd h (by decide)) (fun h => absurd h (by decide))))))
      have t140 := (g133 48 10).resolve_left (fun h => h.elim (fun h => absurd h.2 (by decide)) (fun h => h.elim (fun h => absurd h (by decide)) (fun h => h.elim (fun h => absurd h (by decide)) (fun h => h.elim (fun h => absurd h (by decide)) (fun h => absurd h (by decide))))))
      have t141 := (g133 61 15).resolve_left (fun h => h.elim (fun h => absurd h.2 (by decide)) (fun h => h.elim (fun h => absurd h (by decide)) (fun h => h.elim (fun h => absurd h (by decide)) (fun h => h.elim (fun h => absurd h (by decide)) (fun h => absurd h (by decide))))))
      have t142 := (g133 61 4).resolve_left (fun h => h.elim (fun h => absurd h.2 (by decide)) (fun h => h.elim (fun h => absurd h (by decide)) (fun h => h.elim (fun h => absurd h (by decide)) (fun h => h.elim (fun h => absurd h (by decide)) (fun h => absurd h (by decide))))))
      have t143 := (g133 t 13).resolve_left (fun h => h.elim (fun h => absurd h.2 (by decide)) (fun h => h.elim (fun h => absurd h N_t__64) (fun h => h.elim (fun h => absurd h N_t__65) (fun h => h.elim (fun h => absurd h N_t__66) (fun h => absurd h N_t__67)))))
      have t144 := (g133 61 2).resolve_left (fun h => h.elim (fun h => absurd h.2 (by decide)) (fun h => h.elim (fun h => absurd h (by decide)) (fun h => h.elim (fun h => absurd h (by decide)) (fun h => h.elim (fun h => absurd h (by decide)) (fun h => absurd h (by decide))))))
      have f145 := (show 0 ≤ I134 61 8 ∧ I134 61 8 ≤ 9000 from gc_in hI134 R_61 rfl rfl)
      obtain rfl : J = J135 := funext fun q => funext fun j => ((k133 q j).resolve_left id).symm
      have KOR_I134 : gc_OR I134 := q133.1
      have KLH_I134 : gc_LH σ (-1) I134 := (gc_LH_0 q133.2)
      refine gv_callV hD rfl (As := []) (st := []) rfl B_61 S_61 rfl (gc_lV5 hws rfl) (Nat.le_of_ble_eq_true rfl) (gz_Ev_mono (d := 3) (by decide) E133) ?_
      show gv_X _ _ (24, [(0, .inr (.inr (some 61)))], [], sh, gc_h sh I134 J A)
      refine gv_run 1 true hD (pc' := 25) (lv' := [(0, .inr (.inr (some 61)))]) (st' := [.inr (.inr (some 61))]) (h' := gc_h sh I134 J A) (C := (True ∧ True)) rfl ⟨trivial, trivial⟩ ?_
      obtain ⟨r146, h146, E146, P146⟩ := d_X5_sortWays (ws0 := ws0) (tb := tb) hws htb sh ro I134 J A hI134  t  hb  h_t G_t   (gc_Ls_fr x0 ((FI134 t 13).resolve_left (by omega)) (fun q hL hq d k hd => (FI134 (q + d) k).resolve_left (by have := gc_dj_LT hL h_t; omega))) (gc_WV_fr x1 ((FI134 48 6).resolve_left (by omega)) ((FI134 t 13).resolve_left (by omega)) (fun k => (FI134 54 k).resolve_left (by omega))) (by omega) KOR_I134
      obtain ⟨I147, J148, rfl, hI147, g146, k146, KOR_I147, rfl⟩ := P146
      have FI147 := gc_frc (W := fun q j => (q = 61 ∧ j = 4) ∨ (q = 61 ∧ j = 8) ∨ (q = 61 ∧ j = 9) ∨ (q = 61 ∧ j = 10) ∨ (q = 61 ∧ j = 15) ∨ q = 64 ∨ q = 65 ∨ q = 66 ∨ q = 67 ∨ q = 68 ∨ q = 69 ∨ q = 70 ∨ q = 71 ∨ q = 72) (V := fun q j => q = 65 ∨ q = 66 ∨ (q = 61 ∧ j = 9) ∨ (q = 61 ∧ j = 10)) FI134 (fun q j h => (h.elim (fun h => (Or.inr (Or.inr (Or.inr (Or.inr (Or.inr (Or.inr (Or.inl h)))))))) (fun h => (h.elim (fun h => (Or.inr (Or.inr (Or.inr (Or.inr (Or.inr (Or.inr (Or.inr (Or.inl h))))))))) (fun h => (h.elim (fun h => (Or.inr (Or.inr (Or.inl h)))) (fun h => (Or.inr (Or.inr (Or.inr (Or.inl h))))))))))) g146
      have t149 := (g146 61 8).resolve_left (fun h => h.elim (fun h => absurd h (by decide)) (fun h => h.elim (fun h => absurd h (by decide)) (fun h => h.elim (fun h => absurd h.2 (by decide)) (fun h => absurd h.2 (by decide)))))
      have t150 := (g146 48 6).resolve_left (fun h => h.elim (fun h => absurd h (by decide)) (fun h => h.elim (fun h => absurd h (by decide)) (fun h => h.elim (fun h => absurd h.2 (by decide)) (fun h => absurd h.2 (by decide)))))
      have t151 := (g146 48 3).resolve_left (fun h => h.elim (fun h => absurd h (by decide)) (fun h => h.elim (fun h => absurd h (by decide)) (fun h => h.elim (fun h => absurd h.2 (by decide)) (fun h => absurd h.2 (by decide)))))
      have t152 := (g146 48 10).resolve_left (fun h => h.elim (fun h => absurd h (by decide)) (fun h => h.elim (fun h => absurd h (by decide)) (fun h => h.elim (fun h => absurd h.2 (by decide)) (fun h => absurd h.1 (by decide)))))
      have t153 := (g146 61 15).resolve_left (fun h => h.elim (fun h => absurd h (by decide)) (fun h => h.elim (fun h => absurd h (by decide)) (fun h => h.elim (fun h => absurd h.2 (by decide)) (fun h => absurd h.2 (by decide)))))
      have t154 := (g146 61 4).resolve_left (fun h => h.elim (fun h => absurd h (by decide)) (fun h => h.elim (fun h => absurd h (by decide)) (fun h => h.elim (fun h => absurd h.2 (by decide)) (fun h => absurd h.2 (by decide)))))
      have t155 := (g146 t 13).resolve_left (fun h => h.elim (fun h => absurd h N_t__65) (fun h => h.elim (fun h => absurd h N_t__66) (fun h => h.elim (fun h => absurd h.2 (by decide)) (fun h => absurd h.2 (by decide)))))
      have t156 := (g146 61 2).resolve_left (fun h => h.elim (fun h => absurd h (by decide)) (fun h => h.elim (fun h => absurd h (by decide)) (fun h => h.elim (fun h => absurd h.2 (by decide)) (fun h => absurd h.2 (by decide)))))
      have f157 := (show 0 ≤ I147 61 9 ∧ I147 61 9 ≤ 1 from gc_in hI147 R_61 rfl rfl)
      have f158 := (show 0 ≤ I147 61 10 ∧ I147 61 10 ≤ 1 from gc_in hI147 R_61 rfl rfl)
      obtain rfl : J = J148 := funext fun q => funext fun j => ((k146 q j).resolve_left id).symm
      have KLH_I147 := gc_LH_fr KLH_I134 ((g146 48 6).resolve_left (fun h => h.elim (fun h => absurd h (by decide)) (fun h => h.elim (fun h => absurd h (by decide)) (fun h => h.elim (fun h => absurd h.2 (by decide)) (fun h => absurd h.2 (by decide)))))) ((g146 48 3).resolve_left (fun h => h.elim (fun h => absurd h (by decide)) (fun h => h.elim (fun h => absurd h (by decide)) (fun h => h.elim (fun h => absurd h.2 (by decide)) (fun h => absurd h.2 (by decide)))))) (fun k => (g146 54 k).resolve_left (fun h => h.elim (fun h => absurd h (by decide)) (fun h => h.elim (fun h => absurd h (by decide)) (fun h => h.elim (fun h => absurd h.1 (by decide)) (fun h => absurd h.1 (by decide)))))) (fun k => (g146 55 k).resolve_left (fun h => h.elim (fun h => absurd h (by decide)) (fun h => h.elim (fun h => absurd h (by decide)) (fun h => h.elim (fun h => absurd h.1 (by decide)) (fun h => absurd h.1 (by decide)))))) (fun k => (g146 67 k).resolve_left (fun h => h.elim (fun h => absurd h (by decide)) (fun h => h.elim (fun h => absurd h (by decide)) (fun h => h.elim (fun h => absurd h.1 (by decide)) (fun h => absurd h.1 (by decide)))))) (fun k => (g146 69 k).resolve_left (fun h => h.elim (fun h => absurd h (by decide)) (fun h => h.elim (fun h => absurd h (by decide)) (fun h => h.elim (fun h => absurd h.1 (by decide)) (fun h => absurd h.1 (by decide)))))) (fun k => (g146 70 k).resolve_left (fun h => h.elim (fun h => absurd h (by decide)) (fun h => h.elim (fun h => absurd h (by decide)) (fun h => h.elim (fun h => absurd h.1 (by decide)) (fun h => absurd h.1 (by decide))))))
      refine gv_callV hD rfl (As := []) (st := []) rfl B_61 S_61 rfl (gc_lV5 hws rfl) (Nat.le_of_ble_eq_true rfl) (gz_Ev_mono (d := 4) (by decide) E146) ?_
      show gv_X _ _ (28, [(0, .inr (.inr (some 61)))], [], sh, gc_h sh I147 J A)
      refine gv_run 2 true hD (pc' := 30) (lv' := [(1, .inl 0), (0, .inr (.inr (some 61)))]) (st' := []) (h' := gc_h sh I147 J A) (C := ((True ∧ True) ∧ True)) rfl ⟨⟨trivial, trivial⟩, trivial⟩ ?_
      refine gv_pick [1, 0] rfl ?_
      exact L30 _ I147 J 0 (Nat.lt_succ_self _) hI147 FI147 FJ KOR_I147 KLH_I147 (by omega)
    · show gv_X _ _ (14, [(0, .inr (.inr (some 61)))], [], sh, gc_h sh I J A)
      refine gv_pick [] rfl ?_
      exact L14 (by omega)
