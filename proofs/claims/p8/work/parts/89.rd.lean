theorem gc_pw_le (k : Nat) : gc_pw k ≤ 65536 := by
  unfold gc_pw
  split <;> decide
set_option maxHeartbeats 8000000 in
set_option maxRecDepth 100000 in
theorem d_X5_choose {ws0 : List Cond} {tb : String → gz_T} (hws : gc_Ws ws0) (htb : gc_tbs tb) (sh : gz_Sh) (ro : Nat → Nat) (A : gc_A) (t : Nat) (σ : Nat → Int)  (hb : gc_Base sh ro A) (h_t : gc_isTongue sh ro A t) (G_t : 144 ≤ t) : ∀ (nr : Nat) (I : gr_I) (J : gr_J) (hI : gc_Inv ro I) (a1 : Int) (a2 : Int) (a3 : Int) (a4 : Int) (a5 : Int) (ha1 : 0 ≤ a1 ∧ a1 ≤ 8999) (ha2 : 0 ≤ a2 ∧ a2 ≤ 4) (ha3 : 1 ≤ a3 ∧ a3 ≤ 16) (ha4 : (-2147483648) ≤ a4 ∧ a4 ≤ 2147483647) (ha5 : 0 ≤ a5 ∧ a5 ≤ 65535) (x0 : gc_Ls sh ro A t I) (x1 : gc_WV t I) (x2 : ∀ i q : Nat, (i : Int) < I t 13 → A (t + 16) i = some q → I q 8 = σ i) (x3 : gc_WA σ I) (x4 : gc_LH σ (-1) I) (x5 : gc_RK a1 a2 a5 I) (x6 : a1 < I 48 6) (x7 : I 61 2 = (t : Int)) (_ : (5 - a2).toNat < nr), ∃ r h', gz_Ev ws0 tb (1 + nr) (yX5_choose, cX5_choose, 9, none) [.inr (.inr (some 61)), .inl a1, .inl a2, .inl a3, .inl a4, .inl a5] sh (gc_h sh I J A) r sh h' 0 0 ∧ (∃ (I' : gr_I) (J' : gr_J), h' = gc_h sh I' J' A ∧ gc_Inv ro I' ∧ (∀ q j : Nat, (q = 67 ∨ q = 68 ∨ q = 69 ∨ q = 70) ∨ I' q j = I q j) ∧ (∀ q j : Nat, (False) ∨ J' q j = J q j) ∧ r = none ∧ (gc_LH σ (-1) I') ∧ (∀ k : Nat, I 67 k ≤ I' 67 k)) := by
  intro nr
  induction nr with
  | zero => intro I J hI a1 a2 a3 a4 a5 ha1 ha2 ha3 ha4 ha5 x0 x1 x2 x3 x4 x5 x6 x7 hnr; exact gz_m 0 (by omega)
  | succ nr ihR =>
  intro I J hI a1 a2 a3 a4 a5 ha1 ha2 ha3 ha4 ha5 x0 x1 x2 x3 x4 x5 x6 x7 hnr
  have FI : ∀ q j : Nat, (q = 67 ∨ q = 68 ∨ q = 69 ∨ q = 70) ∨ I q j = I q j := fun _ _ => Or.inr rfl
  have FJ : ∀ q j : Nat, (False) ∨ J q j = J q j := fun _ _ => Or.inr rfl
  have A_48_9 : A 48 9 = some 55 := gc_bA hb rfl
  have A_61_1 : A 61 1 = some 48 := gc_bA hb rfl
  have A_61_11 : A 61 11 = some 67 := gc_bA hb rfl
  have A_61_12 : A 61 12 = some 68 := gc_bA hb rfl
  have B_48 : 48 < 1000000 := by decide
  have B_55 : 55 < 1000000 := by decide
  have B_61 : 61 < 1000000 := by decide
  have B_67 : 67 < 1000000 := by decide
  have B_68 : 68 < 1000000 := by decide
  have R_48 : ro 48 = 49 := gc_bR hb (by decide) rfl
  have R_55 : ro 55 = 44 := gc_bR hb (by decide) rfl
  have R_61 : ro 61 = 72 := gc_bR hb (by decide) rfl
  have R_67 : ro 67 = 52 := gc_bR hb (by decide) rfl
  have R_68 : ro 68 = 0 := gc_bR hb (by decide) rfl
  have S_48 : sh[48]? = some (false, 0, 22) := gc_bS hb rfl
  have S_55 : sh[55]? = some (true, 1, 36000) := gc_bS hb rfl
  have S_61 : sh[61]? = some (false, 5, 19) := gc_bS hb rfl
  have S_67 : sh[67]? = some (true, 1, 3000) := gc_bS hb rfl
  have S_68 : sh[68]? = some (true, 1, 48000) := gc_bS hb rfl
  obtain ⟨S_t, R_t, B_t, A_t_0, h_t_1, A_t_1, h_t_3, A_t_2, S_t_5, R_t_5, B_t_5, A_t_3, S_t_6, R_t_6, B_t_6, A_t_4, h_t_7, A_t_5, S_t_9, R_t_9, B_t_9, A_t_7, S_t_10, R_t_10, B_t_10, A_t_8, h_t_11, A_t_9, S_t_13, R_t_13, B_t_13, A_t_10, S_t_14, R_t_14, B_t_14, A_t_12, S_t_15, R_t_15, B_t_15, A_t_14, S_t_16, R_t_16, B_t_16, A_t_15, h_t_17⟩ := id h_t
  obtain ⟨S_t_1, R_t_1, B_t_1, A_t_1_0, S_t_1_1, R_t_1_1, B_t_1_1, Q0_t_1, Q1_t_1, Q2_t_1⟩ := id h_t_1
  obtain ⟨S_t_3, R_t_3, B_t_3, A_t_3_0, S_t_3_1, R_t_3_1, B_t_3_1, Q0_t_3, Q1_t_3, Q2_t_3⟩ := id h_t_3
  obtain ⟨S_t_7, R_t_7, B_t_7, A_t_7_0, S_t_7_1, R_t_7_1, B_t_7_1, Q0_t_7, Q1_t_7, Q2_t_7⟩ := id h_t_7
  obtain ⟨S_t_11, R_t_11, B_t_11, A_t_11_0, S_t_11_1, R_t_11_1, B_t_11_1, Q0_t_11, Q1_t_11, Q2_t_11⟩ := id h_t_11
  obtain ⟨S_t_17, R_t_17, B_t_17, A_t_17_0, S_20, R_20, B_20, A_t_17_1, S_t_17_1, R_t_17_1, B_t_17_1, A_t_17_2, S_t_17_2, R_t_17_2, B_t_17_2, A_t_17_3, S_t_17_3, R_t_17_3, B_t_17_3, A_t_17_4, S_t_17_4, R_t_17_4, B_t_17_4, A_t_17_5, S_t_17_5, R_t_17_5, B_t_17_5, S_t_17_6, R_t_17_6, B_t_17_6, S_t_17_7, R_t_17_7, B_t_17_7⟩ := id h_t_17
  have hD : gv_D (gc_E5 ws0 tb (1 + nr) (yX5_choose, cX5_choose, 9, none) kX5_choose) := gq_of oX5_choose
  refine gc_ev5 (d := (1 + nr)) (l := kX5_choose) (Po := fun r h' => (∃ (I' : gr_I) (J' : gr_J), h' = gc_h sh I' J' A ∧ gc_Inv ro I' ∧ (∀ q j : Nat, (q = 67 ∨ q = 68 ∨ q = 69 ∨ q = 70) ∨ I' q j = I q j) ∧ (∀ q j : Nat, (False) ∨ J' q j = J q j) ∧ r = none ∧ (gc_LH σ (-1) I') ∧ (∀ k : Nat, I 67 k ≤ I' 67 k))) htb rfl (Nat.le_of_ble_eq_true rfl) ?_
  have N_t__67 : ¬ (t = 67) := by exact gz_m 1 (by omega)
  have N_t__68 : ¬ (t = 68) := by exact gz_m 2 (by omega)
  have N_t__69 : ¬ (t = 69) := by exact gz_m 3 (by omega)
  have N_t__70 : ¬ (t = 70) := by exact gz_m 4 (by omega)
  have f1 := (show 0 ≤ I 48 3 ∧ I 48 3 ≤ 3000 from gc_in hI R_48 rfl rfl)
  have f2 := (show 0 ≤ I 48 6 ∧ I 48 6 ≤ 9000 from gc_in hI R_48 rfl rfl)
  have f3 := (show 0 ≤ I t 13 ∧ I t 13 ≤ 384 from gc_in hI R_t rfl rfl)
  have f4 := (show (-1) ≤ I 61 2 ∧ I 61 2 ≤ 999999 from gc_in hI R_61 rfl rfl)
  have L37 : ∀ (n9 : Nat) (I5 : gr_I) (J6 : gr_J) (v6_7 : Int) (v7_7 : Int), (17 - v7_7).toNat < n9 → gc_Inv ro I5 → (∀ q j : Nat, (q = 67 ∨ q = 68 ∨ q = 69 ∨ q = 70) ∨ I5 q j = I q j) → (∀ q j : Nat, (False) ∨ J6 q j = J q j) → ((0 ≤ a1 ∧ a1 ≤ 8999) ∧ (0 ≤ a2 ∧ a2 ≤ 3) ∧ (1 ≤ a3 ∧ a3 ≤ 16) ∧ ((-2147483648) ≤ a4 ∧ a4 ≤ 2147483647) ∧ (0 ≤ a5 ∧ a5 ≤ 65535) ∧ (0 ≤ v6_7 ∧ v6_7 ≤ 2999) ∧ (0 ≤ v7_7 ∧ v7_7 ≤ 16) ∧ (v6_7 = I 55 (Int.toNat (a1 * 4 + a2))) ∧ (a2 ≤ 3) ∧ (a2 < gc_ws σ I (Int.toNat a1)) ∧ (I5 48 3 = I 48 3) ∧ (I5 48 6 = I 48 6) ∧ (I5 t 13 = I t 13) ∧ (I5 61 2 = (t : Int))) → (gc_LH σ (-1) I5) → (∀ k : Nat, I 67 k ≤ I5 67 k) → gv_X (gc_E5 ws0 tb (1 + nr) (yX5_choose, cX5_choose, 9, none) kX5_choose) (gv_Q cX5_choose none sh (fun r h' => (∃ (I' : gr_I) (J' : gr_J), h' = gc_h sh I' J' A ∧ gc_Inv ro I' ∧ (∀ q j : Nat, (q = 67 ∨ q = 68 ∨ q = 69 ∨ q = 70) ∨ I' q j = I q j) ∧ (∀ q j : Nat, (False) ∨ J' q j = J q j) ∧ r = none ∧ (gc_LH σ (-1) I') ∧ (∀ k : Nat, I 67 k ≤ I' 67 k)))) (37, [(0, .inr (.inr (some 61))), (1, .inl a1), (2, .inl a2), (3, .inl a3), (4, .inl a4), (5, .inl a5), (6, .inl v6_7), (7, .inl v7_7)], [], sh, gc_h sh I5 J6 A) := by
    intro n9
    induction n9 with
    | zero => intro I5 J6 v6_7 v7_7 hn; exact gz_m 5 (by omega)
    | succ n9 ih37 =>
      intro I5 J6 v6_7 v7_7 hn hI5 FI5 FJ6 m_7 e0_7 e1_7
      obtain ⟨ha1_7, ha2_7, ha3_7, ha4_7, ha5_7, hv6_7, hv7_7, e2_7, e3_7, e4_7, e5_7, e6_7, e7_7, e8_7⟩ := m_7
      have f8 := (show 0 ≤ I5 48 3 ∧ I5 48 3 ≤ 3000 from gc_in hI5 R_48 rfl rfl)
      have f9 := (show 0 ≤ I5 48 6 ∧ I5 48 6 ≤ 9000 from gc_in hI5 R_48 rfl rfl)
      have f10 := (show 0 ≤ I5 t 13 ∧ I5 t 13 ≤ 384 from gc_in hI5 R_t rfl rfl)
      have f11 := (show (-1) ≤ I5 61 2 ∧ I5 61 2 ≤ 999999 from gc_in hI5 R_61 rfl rfl)
      have L109 : ((I5 61 2 = (t : Int))) → gv_X (gc_E5 ws0 tb (1 + nr) (yX5_choose, cX5_choose, 9, none) kX5_choose) (gv_Q cX5_choose none sh (fun r h' => (∃ (I' : gr_I) (J' : gr_J), h' = gc_h sh I' J' A ∧ gc_Inv ro I' ∧ (∀ q j : Nat, (q = 67 ∨ q = 68 ∨ q = 69 ∨ q = 70) ∨ I' q j = I q j) ∧ (∀ q j : Nat, (False) ∨ J' q j = J q j) ∧ r = none ∧ (gc_LH σ (-1) I') ∧ (∀ k : Nat, I 67 k ≤ I' 67 k)))) (109, [], [], sh, gc_h sh I5 J6 A) := by
        intro m_12
        have e0_12 := m_12
        have f13 := (show 0 ≤ I5 48 3 ∧ I5 48 3 ≤ 3000 from gc_in hI5 R_48 rfl rfl)
        have f14 := (show 0 ≤ I5 48 6 ∧ I5 48 6 ≤ 9000 from gc_in hI5 R_48 rfl rfl)
        have f15 := (show 0 ≤ I5 t 13 ∧ I5 t 13 ≤ 384 from gc_in hI5 R_t rfl rfl)
        have f16 := (show (-1) ≤ I5 61 2 ∧ I5 61 2 ≤ 999999 from gc_in hI5 R_61 rfl rfl)
        exact gv_vret hD rfl ⟨I5, J6, rfl, hI5, FI5, FJ6, ⟨rfl, e0_7, e1_7⟩⟩
      refine gv_run 2 true hD (pc' := 40) (lv' := [(0, .inr (.inr (some 61))), (1, .inl a1), (2, .inl a2), (3, .inl a3), (4, .inl a4), (5, .inl a5), (6, .inl v6_7), (7, .inl v7_7)]) (st' := [.inr (.inr (some 61)), .inl v7_7]) (h' := gc_h sh I5 J6 A) (C := ((True ∧ True) ∧ True)) rfl ⟨⟨trivial, trivial⟩, trivial⟩ ?_
      refine gv_get hD rfl rfl S_61 ⟨by decide, B_61⟩ (gc_hA S_61 rfl A_61_11) ?_
      show gv_X _ _ (43, [(0, .inr (.inr (some 61))), (1, .inl a1), (2, .inl a2), (3, .inl a3), (4, .inl a4), (5, .inl a5), (6, .inl v6_7), (7, .inl v7_7)], [.inr (.inr (some 67)), .inl v7_7], sh, gc_h sh I5 J6 A)
      refine gv_run 1 true hD (pc' := 45) (lv' := [(0, .inr (.inr (some 61))), (1, .inl a1), (2, .inl a2), (3, .inl a3), (4, .inl a4), (5, .inl a5), (6, .inl v6_7), (7, .inl v7_7)]) (st' := [.inl v6_7, .inr (.inr (some 67)), .inl v7_7]) (h' := gc_h sh I5 J6 A) (C := (True ∧ True)) rfl ⟨trivial, trivial⟩ ?_
      have f17 := (show 0 ≤ I5 67 (Int.toNat v6_7) ∧ I5 67 (Int.toNat v6_7) ≤ 16 from gc_in hI5 R_67 rfl rfl)
      refine gv_iald hD rfl S_67 rfl ⟨by decide, B_67⟩ ⟨by exact gz_m 6 (by omega), by exact gz_m 7 (by omega)⟩ (gc_iI S_67 rfl) ?_
      show gv_X _ _ (46, [(0, .inr (.inr (some 61))), (1, .inl a1), (2, .inl a2), (3, .inl a3), (4, .inl a4), (5, .inl a5), (6, .inl v6_7), (7, .inl v7_7)], [.inl (I5 67 (Int.toNat v6_7)), .inl v7_7], sh, gc_h sh I5 J6 A)
      refine gv_icmp_ge (t := 109) hD rfl rfl ⟨⟨by exact gz_m 8 (by omega), by exact gz_m 9 (by omega)⟩, ⟨by exact gz_m 10 (by omega), by exact gz_m 11 (by omega)⟩⟩ (fun c18 => ?_) (fun c18 => ?_)
      · show gv_X _ _ (109, [(0, .inr (.inr (some 61))), (1, .inl a1), (2, .inl a2), (3, .inl a3), (4, .inl a4), (5, .inl a5), (6, .inl v6_7), (7, .inl v7_7)], [], sh, gc_h sh I5 J6 A)
        refine gv_pick [] rfl ?_
        exact L109 (by exact gz_m 12 (by omega))
      · show gv_X _ _ (49, [(0, .inr (.inr (some 61))), (1, .inl a1), (2, .inl a2), (3, .inl a3), (4, .inl a4), (5, .inl a5), (6, .inl v6_7), (7, .inl v7_7)], [], sh, gc_h sh I5 J6 A)
        have f19 := gc_mulb (x := a3) (y := (v7_7 + 1)) ⟨by exact gz_m 13 (by omega), by exact gz_m 14 (by omega)⟩ ⟨by exact gz_m 15 (by omega), by exact gz_m 16 (by omega)⟩
        refine gv_run 6 true hD (pc' := 57) (lv' := [(0, .inr (.inr (some 61))), (1, .inl a1), (2, .inl a2), (3, .inl a3), (4, .inl a4), (5, .inl a5), (6, .inl v6_7), (7, .inl v7_7)]) (st' := [.inl 16, .inl (a3 * (v7_7 + 1))]) (h' := gc_h sh I5 J6 A) (C := ((((((True ∧ True) ∧ True) ∧ True) ∧ True) ∧ True) ∧ True)) rfl ⟨⟨⟨⟨⟨⟨trivial, trivial⟩, trivial⟩, trivial⟩, trivial⟩, trivial⟩, trivial⟩ ?_
        refine gv_icmp_gt (t := 109) hD rfl rfl ⟨⟨by exact gz_m 17 (by omega), by exact gz_m 18 (by omega)⟩, ⟨by exact gz_m 19 (by omega), by exact gz_m 20 (by omega)⟩⟩ (fun c20 => ?_) (fun c20 => ?_)
        · show gv_X _ _ (109, [(0, .inr (.inr (some 61))), (1, .inl a1), (2, .inl a2), (3, .inl a3), (4, .inl a4), (5, .inl a5), (6, .inl v6_7), (7, .inl v7_7)], [], sh, gc_h sh I5 J6 A)
          refine gv_pick [] rfl ?_
          exact L109 (by exact gz_m 21 (by omega))
        · show gv_X _ _ (60, [(0, .inr (.inr (some 61))), (1, .inl a1), (2, .inl a2), (3, .inl a3), (4, .inl a4), (5, .inl a5), (6, .inl v6_7), (7, .inl v7_7)], [], sh, gc_h sh I5 J6 A)
          refine gv_run 1 true hD (pc' := 61) (lv' := [(0, .inr (.inr (some 61))), (1, .inl a1), (2, .inl a2), (3, .inl a3), (4, .inl a4), (5, .inl a5), (6, .inl v6_7), (7, .inl v7_7)]) (st' := [.inr (.inr (some 61))]) (h' := gc_h sh I5 J6 A) (C := (True ∧ True)) rfl ⟨trivial, trivial⟩ ?_
          refine gv_get hD rfl rfl S_61 ⟨by decide, B_61⟩ (gc_hA S_61 rfl A_61_12) ?_
          show gv_X _ _ (64, [(0, .inr (.inr (some 61))), (1, .inl a1), (2, .inl a2), (3, .inl a3), (4, .inl a4), (5, .inl a5), (6, .inl v6_7), (7, .inl v7_7)], [.inr (.inr (some 68))], sh, gc_h sh I5 J6 A)
          refine gv_run 5 true hD (pc' := 72) (lv' := [(0, .inr (.inr (some 61))), (1, .inl a1), (2, .inl a2), (3, .inl a3), (4, .inl a4), (5, .inl a5), (6, .inl v6_7), (7, .inl v7_7)]) (st' := [.inl ((v6_7 * 16) + v7_7), .inr (.inr (some 68))]) (h' := gc_h sh I5 J6 A) (C := (((((True ∧ True) ∧ True) ∧ True) ∧ True) ∧ True)) rfl ⟨⟨⟨⟨⟨trivial, trivial⟩, trivial⟩, trivial⟩, trivial⟩, trivial⟩ ?_
          have f21 := (show (-2147483648) ≤ I5 68 (Int.toNat (((v6_7 * 16) + v7_7))) ∧ I5 68 (Int.toNat (((v6_7 * 16) + v7_7))) ≤ 2147483647 from gc_in hI5 R_68 rfl rfl)
          refine gv_iald hD rfl S_68 rfl ⟨by decide, B_68⟩ ⟨by exact gz_m 22 (by omega), by exact gz_m 23 (by omega)⟩ (gc_iI S_68 rfl) ?_
          show gv_X _ _ (73, [(0, .inr (.inr (some 61))), (1, .inl a1), (2, .inl a2), (3, .inl a3), (4, .inl a4), (5, .inl a5), (6, .inl v6_7), (7, .inl v7_7)], [.inl (I5 68 (Int.toNat (((v6_7 * 16) + v7_7))))], sh, gc_h sh I5 J6 A)
          refine gv_run 7 true hD (pc' := 81) (lv' := [(8, .inl (I5 68 (Int.toNat (((v6_7 * 16) + v7_7))))), (0, .inr (.inr (some 61))), (1, .inl a1), (2, .inl a2), (3, .inl a3), (4, .inl a4), (5, .inl a5), (6, .inl v6_7), (7, .inl v7_7)]) (st' := [.inl a3, .inl (a2 + 1), .inl a1, .inr (.inr (some 61))]) (h' := gc_h sh I5 J6 A) (C := (((((((True ∧ True) ∧ True) ∧ True) ∧ True) ∧ True) ∧ True) ∧ True)) rfl ⟨⟨⟨⟨⟨⟨⟨trivial, trivial⟩, trivial⟩, trivial⟩, trivial⟩, trivial⟩, trivial⟩, trivial⟩ ?_
          have f22 := gc_mulb (x := a3) (y := (v7_7 + 1)) ⟨by exact gz_m 24 (by omega), by exact gz_m 25 (by omega)⟩ ⟨by exact gz_m 26 (by omega), by exact gz_m 27 (by omega)⟩
          refine gv_run 7 true hD (pc' := 91) (lv' := [(8, .inl (I5 68 (Int.toNat (((v6_7 * 16) + v7_7))))), (0, .inr (.inr (some 61))), (1, .inl a1), (2, .inl a2), (3, .inl a3), (4, .inl a4), (5, .inl a5), (6, .inl v6_7), (7, .inl v7_7)]) (st' := [.inl (a4 + ((I5 68 (Int.toNat (((v6_7 * 16) + v7_7)))))), .inl (a3 * (v7_7 + 1)), .inl (a2 + 1), .inl a1, .inr (.inr (some 61))]) (h' := gc_h sh I5 J6 A) (C := (((((((True ∧ True) ∧ True) ∧ True) ∧ True) ∧ True) ∧ True) ∧ True)) rfl ⟨⟨⟨⟨⟨⟨⟨trivial, trivial⟩, trivial⟩, trivial⟩, trivial⟩, trivial⟩, trivial⟩, trivial⟩ ?_
          have f23 := gw_any (Int32.ofInt (a4 + ((I5 68 (Int.toNat (((v6_7 * 16) + v7_7)))))))
          refine gv_wr ?_
          show gv_X _ _ (91, [(8, .inl (I5 68 (Int.toNat (((v6_7 * 16) + v7_7))))), (0, .inr (.inr (some 61))), (1, .inl a1), (2, .inl a2), (3, .inl a3), (4, .inl a4), (5, .inl a5), (6, .inl v6_7), (7, .inl v7_7)], [.inl ((Int32.ofInt (a4 + ((I5 68 (Int.toNat (((v6_7 * 16) + v7_7))))))).toInt), .inl (a3 * (v7_7 + 1)), .inl (a2 + 1), .inl a1, .inr (.inr (some 61))], sh, gc_h sh I5 J6 A)
          have f24 := gw_any (Int32.ofInt v7_7 <<< (Int32.ofInt (4 * a2) &&& 31))
          have f25 := gw_any ((Int32.ofInt a5 ||| Int32.ofInt (((Int32.ofInt v7_7 <<< (Int32.ofInt (4 * a2) &&& 31)).toInt))))
          refine gv_run 7 true hD (pc' := 100) (lv' := [(8, .inl (I5 68 (Int.toNat (((v6_7 * 16) + v7_7))))), (0, .inr (.inr (some 61))), (1, .inl a1), (2, .inl a2), (3, .inl a3), (4, .inl a4), (5, .inl a5), (6, .inl v6_7), (7, .inl v7_7)]) (st' := [.inl ((Int32.ofInt a5 ||| Int32.ofInt (((Int32.ofInt v7_7 <<< (Int32.ofInt (4 * a2) &&& 31)).toInt))).toInt), .inl ((Int32.ofInt (a4 + ((I5 68 (Int.toNat (((v6_7 * 16) + v7_7))))))).toInt), .inl (a3 * (v7_7 + 1)), .inl (a2 + 1), .inl a1, .inr (.inr (some 61))]) (h' := gc_h sh I5 J6 A) (C := (((((((True ∧ True) ∧ True) ∧ True) ∧ True) ∧ True) ∧ True) ∧ True)) rfl ⟨⟨⟨⟨⟨⟨⟨trivial, trivial⟩, trivial⟩, trivial⟩, trivial⟩, trivial⟩, trivial⟩, trivial⟩ ?_
          have t26 := (gc_RK_nx (r := v7_7) (gc_RK_mo x5 (fun k => (FI5 55 k).resolve_left (fun h => h.elim (fun h => absurd h (by decide)) (fun h => h.elim (fun h => absurd h (by decide)) (fun h => h.elim (fun h => absurd h (by decide)) (fun h => absurd h (by decide)))))) e1_7) (by exact gz_m 28 (by omega)) (by exact gz_m 29 (by omega)) (by rw [show I5 55 (Int.toNat (a1 * 4 + a2)) = v6_7 from ((FI5 55 _).resolve_left (fun h => h.elim (fun h => absurd h (by decide)) (fun h => h.elim (fun h => absurd h (by decide)) (fun h => h.elim (fun h => absurd h (by decide)) (fun h => absurd h (by decide)))))).trans e2_7.symm]; exact gz_m 30 (by omega))).1
          have t27 := (gc_RK_nx (r := v7_7) (gc_RK_mo x5 (fun k => (FI5 55 k).resolve_left (fun h => h.elim (fun h => absurd h (by decide)) (fun h => h.elim (fun h => absurd h (by decide)) (fun h => h.elim (fun h => absurd h (by decide)) (fun h => absurd h (by decide)))))) e1_7) (by exact gz_m 31 (by omega)) (by exact gz_m 32 (by omega)) (by rw [show I5 55 (Int.toNat (a1 * 4 + a2)) = v6_7 from ((FI5 55 _).resolve_left (fun h => h.elim (fun h => absurd h (by decide)) (fun h => h.elim (fun h => absurd h (by decide)) (fun h => h.elim (fun h => absurd h (by decide)) (fun h => absurd h (by decide)))))).trans e2_7.symm]; exact gz_m 33 (by omega))).2.1
          have t28 := gc_pw_le (Int.toNat (a2 + 1))
          obtain ⟨r29, h29, E29, P29⟩ := ihR I5 J6 hI5 a1 (a2 + 1) ((a3 * (v7_7 + 1))) (((Int32.ofInt (a4 + ((I5 68 (Int.toNat (((v6_7 * 16) + v7_7))))))).toInt)) (((Int32.ofInt a5 ||| Int32.ofInt (((Int32.ofInt v7_7 <<< (Int32.ofInt (4 * a2) &&& 31)).toInt))).toInt)) ⟨by exact gz_m 34 (by omega), by exact gz_m 35 (by omega)⟩ ⟨by exact gz_m 36 (by omega), by exact gz_m 37 (by omega)⟩ ⟨by exact gz_m 38 (by omega), by exact gz_m 39 (by omega)⟩ ⟨by exact gz_m 40 (by omega), by exact gz_m 41 (by omega)⟩ ⟨by exact gz_m 42 (by omega), by exact gz_m 43 (by omega)⟩ (gc_Ls_fr x0 ((FI5 t 13).resolve_left (by exact gz_m 44 (by omega))) (fun q hL hq d k hd => (FI5 (q + d) k).resolve_left (by have := gc_dj_LT hL h_t; exact gz_m 45 (by omega)))) (gc_WV_fr x1 ((FI5 48 6).resolve_left (fun h => h.elim (fun h => absurd h (by decide)) (fun h => h.elim (fun h => absurd h (by decide)) (fun h => h.elim (fun h => absurd h (by decide)) (fun h => absurd h (by decide)))))) ((FI5 t 13).resolve_left (fun h => h.elim (fun h => absurd h N_t__67) (fun h => h.elim (fun h => absurd h N_t__68) (fun h => h.elim (fun h => absurd h N_t__69) (fun h => absurd h N_t__70))))) (fun k => (FI5 54 k).resolve_left (fun h => h.elim (fun h => absurd h (by decide)) (fun h => h.elim (fun h => absurd h (by decide)) (fun h => h.elim (fun h => absurd h (by decide)) (fun h => absurd h (by decide))))))) (fun i q hi hA => by obtain ⟨q9, b1, b2, b3, _, _⟩ := x0 i (by exact gz_m 46 (by omega)); cases b1.symm.trans hA; have b4 := gc_dj_LT b2 h_t; exact ((FI5 _ 8).resolve_left (by exact gz_m 47 (by omega))).trans (x2 i _ (by exact gz_m 48 (by omega)) hA)) (gc_WA_fr x3 ((FI5 48 6).resolve_left (fun h => h.elim (fun h => absurd h (by decide)) (fun h => h.elim (fun h => absurd h (by decide)) (fun h => h.elim (fun h => absurd h (by decide)) (fun h => absurd h (by decide)))))) (by exact gz_m 49 (by omega)) (fun k => (FI5 53 k).resolve_left (fun h => h.elim (fun h => absurd h (by decide)) (fun h => h.elim (fun h => absurd h (by decide)) (fun h => h.elim (fun h => absurd h (by decide)) (fun h => absurd h (by decide)))))) (fun k => (FI5 54 k).resolve_left (fun h => h.elim (fun h => absurd h (by decide)) (fun h => h.elim (fun h => absurd h (by decide)) (fun h => h.elim (fun h => absurd h (by decide)) (fun h => absurd h (by decide)))))) (fun k => (FI5 55 k).resolve_left (fun h => h.elim (fun h => absurd h (by decide)) (fun h => h.elim (fun h => absurd h (by decide)) (fun h => h.elim (fun h => absurd h (by decide)) (fun h => absurd h (by decide))))))) e0_7 (gc_RK_nx (r := v7_7) (gc_RK_mo x5 (fun k => (FI5 55 k).resolve_left (fun h => h.elim (fun h => absurd h (by decide)) (fun h => h.elim (fun h => absurd h (by decide)) (fun h => h.elim (fun h => absurd h (by decide)) (fun h => absurd h (by decide)))))) e1_7) (by exact gz_m 50 (by omega)) (by exact gz_m 51 (by omega)) (by rw [show I5 55 (Int.toNat (a1 * 4 + a2)) = v6_7 from ((FI5 55 _).resolve_left (fun h => h.elim (fun h => absurd h (by decide)) (fun h => h.elim (fun h => absurd h (by decide)) (fun h => h.elim (fun h => absurd h (by decide)) (fun h => absurd h (by decide)))))).trans e2_7.symm]; exact gz_m 52 (by omega))) (by exact gz_m 53 (by omega)) (by exact gz_m 54 (by omega))  (by exact gz_m 55 (by omega))
          obtain ⟨I30, J31, rfl, hI30, g29, k29, ⟨rfl, q29⟩⟩ := P29
          have FI30 := gc_frc (W := fun q j => q = 67 ∨ q = 68 ∨ q = 69 ∨ q = 70) (V := fun q j => q = 67 ∨ q = 68 ∨ q = 69 ∨ q = 70) FI5 (fun q j h => (h.elim (fun h => (Or.inl h)) (fun h => (h.elim (fun h => (Or.inr (Or.inl h))) (fun h => (h.elim (fun h => (Or.inr (Or.inr (Or.inl h)))) (fun h => (Or.inr (Or.inr (Or.inr h)))))))))) g29
          have t32 := (g29 48 3).resolve_left (fun h => h.elim (fun h => absurd h (by decide)) (fun h => h.elim (fun h => absurd h (by decide)) (fun h => h.elim (fun h => absurd h (by decide)) (fun h => absurd h (by decide)))))
          have t33 := (g29 48 6).resolve_left (fun h => h.elim (fun h => absurd h (by decide)) (fun h => h.elim (fun h => absurd h (by decide)) (fun h => h.elim (fun h => absurd h (by decide)) (fun h => absurd h (by decide)))))
          have t34 := (g29 t 13).resolve_left (fun h => h.elim (fun h => absurd h N_t__67) (fun h => h.elim (fun h => absurd h N_t__68) (fun h => h.elim (fun h => absurd h N_t__69) (fun h => absurd h N_t__70))))
          have t35 := (g29 61 2).resolve_left (fun h => h.elim (fun h => absurd h (by decide)) (fun h => h.elim (fun h => absurd h (by decide)) (fun h => h.elim (fun h => absurd h (by decide)) (fun h => absurd h (by decide)))))
          obtain rfl : J6 = J31 := funext fun q => funext fun j => ((k29 q j).resolve_left id).symm
          refine gv_callV hD rfl (As := [.inl a1, .inl (a2 + 1), .inl (a3 * (v7_7 + 1)), .inl ((Int32.ofInt (a4 + ((I5 68 (Int.toNat (((v6_7 * 16) + v7_7))))))).toInt), .inl ((Int32.ofInt a5 ||| Int32.ofInt (((Int32.ofInt v7_7 <<< (Int32.ofInt (4 * a2) &&& 31)).toInt))).toInt)]) (st := []) rfl B_61 S_61 rfl (gc_lV5 hws rfl) (Nat.le_of_ble_eq_true rfl) (gz_Ev_mono (d := (1 + nr)) (Nat.le_refl _) E29) ?_
          show gv_X _ _ (103, [(8, .inl (I5 68 (Int.toNat (((v6_7 * 16) + v7_7))))), (0, .inr (.inr (some 61))), (1, .inl a1), (2, .inl a2), (3, .inl a3), (4, .inl a4), (5, .inl a5), (6, .inl v6_7), (7, .inl v7_7)], [], sh, gc_h sh I30 J6 A)
          refine gv_run 2 true hD (pc' := 37) (lv' := [(7, .inl (v7_7 + 1)), (8, .inl (I5 68 (Int.toNat (((v6_7 * 16) + v7_7))))), (0, .inr (.inr (some 61))), (1, .inl a1), (2, .inl a2), (3, .inl a3), (4, .inl a4), (5, .inl a5), (6, .inl v6_7)]) (st' := []) (h' := gc_h sh I30 J6 A) (C := ((True ∧ True) ∧ True)) rfl ⟨⟨trivial, trivial⟩, trivial⟩ ?_
          refine gv_pick [2, 3, 4, 5, 6, 7, 8, 0] rfl ?_
          exact ih37 I30 J6 v6_7 (v7_7 + 1) (by exact gz_m 56 (by omega)) hI30 FI30 FJ6 (by exact gz_m 57 (by omega)) q29.1 (fun k => Int.le_trans (e1_7 k) (q29.2 k))
  refine gv_run 3 true hD (pc' := 3) (lv' := [(0, .inr (.inr (some 61))), (1, .inl a1), (2, .inl a2), (3, .inl a3), (4, .inl a4), (5, .inl a5)]) (st' := [.inl a1, .inr (.inr (some 61)), .inl a2]) (h' := gc_h sh I J A) (C := (((True ∧ True) ∧ True) ∧ True)) rfl ⟨⟨⟨trivial, trivial⟩, trivial⟩, trivial⟩ ?_
  obtain ⟨r36, h36, E36, P36⟩ := d_X5_slotsOf (ws0 := ws0) (tb := tb) hws htb sh ro I J A hI  t a1 hb  h_t G_t  ⟨by exact gz_m 58 (by omega), by exact gz_m 59 (by omega)⟩ x0 x1 (by exact gz_m 60 (by omega)) (by exact gz_m 61 (by omega)) 
  obtain ⟨rfl, ⟨z36, rfl, q36⟩⟩ := P36
  refine gv_callV hD rfl (As := [.inl a1]) (st := [.inl a2]) rfl B_61 S_61 rfl (gc_lV5 hws rfl) (Nat.le_of_ble_eq_true rfl) (gz_Ev_mono (d := 1) (by exact gz_m 62 (by omega)) E36) ?_
  show gv_X _ _ (6, [(0, .inr (.inr (some 61))), (1, .inl a1), (2, .inl a2), (3, .inl a3), (4, .inl a4), (5, .inl a5)], [.inl z36, .inl a2], sh, gc_h sh I J A)
  have t37 := gc_sl_ws (k := Int.toNat a1) x0 x1 x2 (by exact gz_m 63 (by omega))
  refine gv_icmp_lt (t := 19) hD rfl rfl ⟨⟨by exact gz_m 64 (by omega), by exact gz_m 65 (by omega)⟩, ⟨by exact gz_m 66 (by omega), by exact gz_m 67 (by omega)⟩⟩ (fun c38 => ?_) (fun c38 => ?_)
  · show gv_X _ _ (19, [(0, .inr (.inr (some 61))), (1, .inl a1), (2, .inl a2), (3, .inl a3), (4, .inl a4), (5, .inl a5)], [], sh, gc_h sh I J A)
    refine gv_run 1 true hD (pc' := 20) (lv' := [(0, .inr (.inr (some 61))), (1, .inl a1), (2, .inl a2), (3, .inl a3), (4, .inl a4), (5, .inl a5)]) (st' := [.inr (.inr (some 61))]) (h' := gc_h sh I J A) (C := (True ∧ True)) rfl ⟨trivial, trivial⟩ ?_
    refine gv_get hD rfl rfl S_61 ⟨by decide, B_61⟩ (gc_hA S_61 rfl A_61_1) ?_
    show gv_X _ _ (23, [(0, .inr (.inr (some 61))), (1, .inl a1), (2, .inl a2), (3, .inl a3), (4, .inl a4), (5, .inl a5)], [.inr (.inr (some 48))], sh, gc_h sh I J A)
    refine gv_get hD rfl rfl S_48 ⟨by decide, B_48⟩ (gc_hA S_48 rfl A_48_9) ?_
    show gv_X _ _ (26, [(0, .inr (.inr (some 61))), (1, .inl a1), (2, .inl a2), (3, .inl a3), (4, .inl a4), (5, .inl a5)], [.inr (.inr (some 55))], sh, gc_h sh I J A)
    refine gv_run 5 true hD (pc' := 31) (lv' := [(0, .inr (.inr (some 61))), (1, .inl a1), (2, .inl a2), (3, .inl a3), (4, .inl a4), (5, .inl a5)]) (st' := [.inl ((a1 * 4) + a2), .inr (.inr (some 55))]) (h' := gc_h sh I J A) (C := (((((True ∧ True) ∧ True) ∧ True) ∧ True) ∧ True)) rfl ⟨⟨⟨⟨⟨trivial, trivial⟩, trivial⟩, trivial⟩, trivial⟩, trivial⟩ ?_
    have f39 := (show 0 ≤ I 55 (Int.toNat (((a1 * 4) + a2))) ∧ I 55 (Int.toNat (((a1 * 4) + a2))) ≤ 2999 from gc_in hI R_55 rfl rfl)
    refine gv_iald hD rfl S_55 rfl ⟨by decide, B_55⟩ ⟨by exact gz_m 68 (by omega), by exact gz_m 69 (by omega)⟩ (gc_iI S_55 rfl) ?_
    show gv_X _ _ (32, [(0, .inr (.inr (some 61))), (1, .inl a1), (2, .inl a2), (3, .inl a3), (4, .inl a4), (5, .inl a5)], [.inl (I 55 (Int.toNat (((a1 * 4) + a2))))], sh, gc_h sh I J A)
    refine gv_run 3 true hD (pc' := 37) (lv' := [(7, .inl 0), (6, .inl (I 55 (Int.toNat (((a1 * 4) + a2))))), (0, .inr (.inr (some 61))), (1, .inl a1), (2, .inl a2), (3, .inl a3), (4, .inl a4), (5, .inl a5)]) (st' := []) (h' := gc_h sh I J A) (C := (((True ∧ True) ∧ True) ∧ True)) rfl ⟨⟨⟨trivial, trivial⟩, trivial⟩, trivial⟩ ?_
    refine gv_pick [2, 3, 4, 5, 6, 7, 1, 0] rfl ?_
    exact L37 _ I J ((I 55 (Int.toNat (((a1 * 4) + a2))))) 0 (Nat.lt_succ_self _) hI FI FJ (by exact gz_m 70 (by omega)) x4 (fun k => Int.le_refl _)
  · show gv_X _ _ (9, [(0, .inr (.inr (some 61))), (1, .inl a1), (2, .inl a2), (3, .inl a3), (4, .inl a4), (5, .inl a5)], [], sh, gc_h sh I J A)
    refine gv_run 4 true hD (pc' := 15) (lv' := [(0, .inr (.inr (some 61))), (1, .inl a1), (2, .inl a2), (3, .inl a3), (4, .inl a4), (5, .inl a5)]) (st' := [.inl a5, .inl a4, .inl a1, .inr (.inr (some 61))]) (h' := gc_h sh I J A) (C := ((((True ∧ True) ∧ True) ∧ True) ∧ True)) rfl ⟨⟨⟨⟨trivial, trivial⟩, trivial⟩, trivial⟩, trivial⟩ ?_
    obtain ⟨r40, h40, E40, P40⟩ := d_X5_putList (ws0 := ws0) (tb := tb) hws htb sh ro I J A hI  σ a1 a4 a5 hb   ⟨by exact gz_m 71 (by omega), by exact gz_m 72 (by omega)⟩ ⟨by exact gz_m 73 (by omega), by exact gz_m 74 (by omega)⟩ ⟨by exact gz_m 75 (by omega), by exact gz_m 76 (by omega)⟩ x4 (show gc_va σ I a1 a5 from ⟨by exact gz_m 77 (by omega), fun s h0 h4 hs => x5.2.2 s h0 (by exact gz_m 78 (by omega))⟩) (x3 (Int.toNat a1) (by exact gz_m 79 (by omega))).1 
    obtain ⟨I41, J42, rfl, hI41, g40, k40, ⟨rfl, q40⟩⟩ := P40
    have FI41 := gc_frc (W := fun q j => q = 67 ∨ q = 68 ∨ q = 69 ∨ q = 70) (V := fun q j => q = 67 ∨ q = 68 ∨ q = 69 ∨ q = 70) FI (fun q j h => (h.elim (fun h => (Or.inl h)) (fun h => (h.elim (fun h => (Or.inr (Or.inl h))) (fun h => (h.elim (fun h => (Or.inr (Or.inr (Or.inl h)))) (fun h => (Or.inr (Or.inr (Or.inr h)))))))))) g40
    have t43 := (g40 48 3).resolve_left (fun h => h.elim (fun h => absurd h (by decide)) (fun h => h.elim (fun h => absurd h (by decide)) (fun h => h.elim (fun h => absurd h (by decide)) (fun h => absurd h (by decide)))))
    have t44 := (g40 48 6).resolve_left (fun h => h.elim (fun h => absurd h (by decide)) (fun h => h.elim (fun h => absurd h (by decide)) (fun h => h.elim (fun h => absurd h (by decide)) (fun h => absurd h (by decide)))))
    have t45 := (g40 t 13).resolve_left (fun h => h.elim (fun h => absurd h N_t__67) (fun h => h.elim (fun h => absurd h N_t__68) (fun h => h.elim (fun h => absurd h N_t__69) (fun h => absurd h N_t__70))))
    have t46 := (g40 61 2).resolve_left (fun h => h.elim (fun h => absurd h (by decide)) (fun h => h.elim (fun h => absurd h (by decide)) (fun h => h.elim (fun h => absurd h (by decide)) (fun h => absurd h (by decide)))))
    obtain rfl : J = J42 := funext fun q => funext fun j => ((k40 q j).resolve_left id).symm
    refine gv_callV hD rfl (As := [.inl a1, .inl a4, .inl a5]) (st := []) rfl B_61 S_61 rfl (gc_lV5 hws rfl) (Nat.le_of_ble_eq_true rfl) (gz_Ev_mono (d := 1) (by exact gz_m 80 (by omega)) E40) ?_
    show gv_X _ _ (18, [(0, .inr (.inr (some 61))), (1, .inl a1), (2, .inl a2), (3, .inl a3), (4, .inl a4), (5, .inl a5)], [], sh, gc_h sh I41 J A)
    exact gv_vret hD rfl ⟨I41, J, rfl, hI41, FI41, FJ, ⟨rfl, q40.1, q40.2⟩⟩
