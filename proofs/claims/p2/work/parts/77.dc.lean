set_option maxHeartbeats 4000000 in
set_option maxRecDepth 100000 in
theorem d_X0_fill {ws0 : List Cond} {tb : String → gz_T} (hws : gc_Ws ws0) (htb : gc_tbs tb) (sh : gz_Sh) (ro : Nat → Nat) (I : gr_I) (J : gr_J) (A : gc_A) (hI : gc_Inv ro I) (a1 : Nat) (a2 : Nat) (a3 : Int) (hb : gc_Base sh ro A) (h_a1 : gc_isTongue sh ro A a1) (G_a1 : 144 ≤ a1) (h_a2 : gc_isText sh ro A a2) (G_a2 : a2 + 3 < 39 ∨ (100 ≤ a2 ∧ a2 < 140)) (ha3 : 0 ≤ a3 ∧ a3 ≤ 31) (x0 : gc_Ls sh ro A a1 I) (x1 : gc_SP a2 I) (x2 : I 48 11 ≤ 400000) (x3 : a3 < I 2 1) (x4 : 1 ≤ I a2 4) (x5 : ∀ i q : Nat, (i : Int) < I a1 13 → A (a1 + 16) i = some q → gc_un q (gc_lk A I a1 i) I) (KFN_I : gc_FN I) (KFZ_I : gc_FZ I) : ∃ r h', gz_Ev ws0 tb 12 (yX0_fill, cX0_fill, 9, (some .int)) [.inr (.inr (some 48)), .inr (.inr (some a1)), .inr (.inr (some a2)), .inl a3] sh (gc_h sh I J A) r sh h' 0 0 ∧ (∃ (I' : gr_I) (J' : gr_J), h' = gc_h sh I' J' A ∧ gc_Inv ro I' ∧ (∀ q j : Nat, ((q = 48 ∧ j = 3) ∨ (q = 48 ∧ j = 6) ∨ (q = 48 ∧ j = 12) ∨ q = 51 ∨ q = 52 ∨ q = 53 ∨ q = 54 ∨ q = 55 ∨ (q = 48 ∧ j = 11) ∨ q = 58 ∨ q = 59 ∨ q = 60 ∨ (q = 48 ∧ j = 17) ∨ (q = 48 ∧ j = 18) ∨ q = 49 ∨ q = 50 ∨ (q = 48 ∧ j = 13) ∨ (q = 48 ∧ j = 14) ∨ (q = 48 ∧ j = 10) ∨ q = 56 ∨ q = 57 ∨ q = (a1 + 22)) ∨ I' q j = I q j) ∧ (∀ q j : Nat, (False) ∨ J' q j = J q j) ∧ gc_FN I' ∧ gc_FZ I' ∧ (∃ z : Int, r = some (.inl z) ∧ (-1) ≤ z ∧ z ≤ 1 ∧ (gc_WV a1 I') ∧ (I' 48 12 = 1 ∨ I' 48 11 ≤ 400000) ∧ (gc_WA (gc_lsl A I a1) I') ∧ (z = -1 ∨ I' 49 (Int.toNat (I' 48 10)) + I' 50 (Int.toNat (I' 48 10)) ≤ I' 48 3))) := by
  have FI : ∀ q j : Nat, ((q = 48 ∧ j = 3) ∨ (q = 48 ∧ j = 6) ∨ (q = 48 ∧ j = 12) ∨ q = 51 ∨ q = 52 ∨ q = 53 ∨ q = 54 ∨ q = 55 ∨ (q = 48 ∧ j = 11) ∨ q = 58 ∨ q = 59 ∨ q = 60 ∨ (q = 48 ∧ j = 17) ∨ (q = 48 ∧ j = 18) ∨ q = 49 ∨ q = 50 ∨ (q = 48 ∧ j = 13) ∨ (q = 48 ∧ j = 14) ∨ (q = 48 ∧ j = 10) ∨ q = 56 ∨ q = 57 ∨ q = (a1 + 22)) ∨ I q j = I q j := fun _ _ => Or.inr rfl
  have FJ : ∀ q j : Nat, (False) ∨ J q j = J q j := fun _ _ => Or.inr rfl
  have A_1_0 : A 1 0 = some 2 := gc_bA hb rfl
  have A_48_0 : A 48 0 = some 1 := gc_bA hb rfl
  have A_48_2 : A 48 2 = some 50 := gc_bA hb rfl
  have B_1 : 1 < 1000000 := by decide
  have B_2 : 2 < 1000000 := by decide
  have B_48 : 48 < 1000000 := by decide
  have B_50 : 50 < 1000000 := by decide
  have R_2 : ro 2 = 9 := gc_bR hb (by decide) rfl
  have R_48 : ro 48 = 49 := gc_bR hb (by decide) rfl
  have R_50 : ro 50 = 43 := gc_bR hb (by decide) rfl
  have S_1 : sh[1]? = some (false, 8, 21) := gc_bS hb rfl
  have S_2 : sh[2]? = some (false, 4, 2) := gc_bS hb rfl
  have S_48 : sh[48]? = some (false, 0, 22) := gc_bS hb rfl
  have S_50 : sh[50]? = some (true, 1, 18432) := gc_bS hb rfl
  obtain ⟨S_a1, R_a1, B_a1, A_a1_0, h_a1_1, A_a1_1, h_a1_3, A_a1_2, S_a1_5, R_a1_5, B_a1_5, A_a1_3, S_a1_6, R_a1_6, B_a1_6, A_a1_4, h_a1_7, A_a1_5, S_a1_9, R_a1_9, B_a1_9, A_a1_7, S_a1_10, R_a1_10, B_a1_10, A_a1_8, h_a1_11, A_a1_9, S_a1_13, R_a1_13, B_a1_13, A_a1_10, S_a1_14, R_a1_14, B_a1_14, A_a1_12, S_a1_15, R_a1_15, B_a1_15, A_a1_14, S_a1_16, R_a1_16, B_a1_16, A_a1_15, h_a1_17⟩ := id h_a1
  obtain ⟨S_a1_1, R_a1_1, B_a1_1, A_a1_1_0, S_a1_1_1, R_a1_1_1, B_a1_1_1, Q0_a1_1, Q1_a1_1, Q2_a1_1⟩ := id h_a1_1
  obtain ⟨S_a1_3, R_a1_3, B_a1_3, A_a1_3_0, S_a1_3_1, R_a1_3_1, B_a1_3_1, Q0_a1_3, Q1_a1_3, Q2_a1_3⟩ := id h_a1_3
  obtain ⟨S_a1_7, R_a1_7, B_a1_7, A_a1_7_0, S_a1_7_1, R_a1_7_1, B_a1_7_1, Q0_a1_7, Q1_a1_7, Q2_a1_7⟩ := id h_a1_7
  obtain ⟨S_a1_11, R_a1_11, B_a1_11, A_a1_11_0, S_a1_11_1, R_a1_11_1, B_a1_11_1, Q0_a1_11, Q1_a1_11, Q2_a1_11⟩ := id h_a1_11
  obtain ⟨S_a1_17, R_a1_17, B_a1_17, A_a1_17_0, S_20, R_20, B_20, A_a1_17_1, S_a1_17_1, R_a1_17_1, B_a1_17_1, A_a1_17_2, S_a1_17_2, R_a1_17_2, B_a1_17_2, A_a1_17_3, S_a1_17_3, R_a1_17_3, B_a1_17_3, A_a1_17_4, S_a1_17_4, R_a1_17_4, B_a1_17_4, A_a1_17_5, S_a1_17_5, R_a1_17_5, B_a1_17_5, S_a1_17_6, R_a1_17_6, B_a1_17_6, S_a1_17_7, R_a1_17_7, B_a1_17_7⟩ := id h_a1_17
  obtain ⟨S_a2, R_a2, B_a2, A_a2_0, S_a2_1, R_a2_1, B_a2_1, A_a2_2, S_a2_2, R_a2_2, B_a2_2, A_a2_3, S_a2_3, R_a2_3, B_a2_3⟩ := id h_a2
  have hD : gv_D (gc_E0 ws0 tb 11 (yX0_fill, cX0_fill, 9, (some .int)) kX0_fill) := gq_ok oX0_fill
  refine gc_ev0 (d := 11) (l := kX0_fill) (Po := fun r h' => (∃ (I' : gr_I) (J' : gr_J), h' = gc_h sh I' J' A ∧ gc_Inv ro I' ∧ (∀ q j : Nat, ((q = 48 ∧ j = 3) ∨ (q = 48 ∧ j = 6) ∨ (q = 48 ∧ j = 12) ∨ q = 51 ∨ q = 52 ∨ q = 53 ∨ q = 54 ∨ q = 55 ∨ (q = 48 ∧ j = 11) ∨ q = 58 ∨ q = 59 ∨ q = 60 ∨ (q = 48 ∧ j = 17) ∨ (q = 48 ∧ j = 18) ∨ q = 49 ∨ q = 50 ∨ (q = 48 ∧ j = 13) ∨ (q = 48 ∧ j = 14) ∨ (q = 48 ∧ j = 10) ∨ q = 56 ∨ q = 57 ∨ q = (a1 + 22)) ∨ I' q j = I q j) ∧ (∀ q j : Nat, (False) ∨ J' q j = J q j) ∧ gc_FN I' ∧ gc_FZ I' ∧ (∃ z : Int, r = some (.inl z) ∧ (-1) ≤ z ∧ z ≤ 1 ∧ (gc_WV a1 I') ∧ (I' 48 12 = 1 ∨ I' 48 11 ≤ 400000) ∧ (gc_WA (gc_lsl A I a1) I') ∧ (z = -1 ∨ I' 49 (Int.toNat (I' 48 10)) + I' 50 (Int.toNat (I' 48 10)) ≤ I' 48 3)))) htb rfl (Nat.le_of_ble_eq_true rfl) ?_
  have N_a2__51 : ¬ (a2 = 51) := by omega
  have N_a2__52 : ¬ (a2 = 52) := by omega
  have N_a2__53 : ¬ (a2 = 53) := by omega
  have N_a2__54 : ¬ (a2 = 54) := by omega
  have N_a2__55 : ¬ (a2 = 55) := by omega
  have N_a2__58 : ¬ (a2 = 58) := by omega
  have N_a2__59 : ¬ (a2 = 59) := by omega
  have N_a2__60 : ¬ (a2 = 60) := by omega
  have N_a2__49 : ¬ (a2 = 49) := by omega
  have N_a2__50 : ¬ (a2 = 50) := by omega
  have N_a2__56 : ¬ (a2 = 56) := by omega
  have N_a2__57 : ¬ (a2 = 57) := by omega
  have N_a2__a1_22 : ¬ (a2 = (a1 + 22)) := by omega
  have N_a2_2__48 : ¬ ((a2 + 2) = 48) := by omega
  have N_a2_2__51 : ¬ ((a2 + 2) = 51) := by omega
  have N_a2_2__52 : ¬ ((a2 + 2) = 52) := by omega
  have N_a2_2__53 : ¬ ((a2 + 2) = 53) := by omega
  have N_a2_2__54 : ¬ ((a2 + 2) = 54) := by omega
  have N_a2_2__55 : ¬ ((a2 + 2) = 55) := by omega
  have N_a2_2__58 : ¬ ((a2 + 2) = 58) := by omega
  have N_a2_2__59 : ¬ ((a2 + 2) = 59) := by omega
  have N_a2_2__60 : ¬ ((a2 + 2) = 60) := by omega
  have N_a2_2__49 : ¬ ((a2 + 2) = 49) := by omega
  have N_a2_2__50 : ¬ ((a2 + 2) = 50) := by omega
  have N_a2_2__56 : ¬ ((a2 + 2) = 56) := by omega
  have N_a2_2__57 : ¬ ((a2 + 2) = 57) := by omega
  have N_a2_2__a1_22 : ¬ ((a2 + 2) = (a1 + 22)) := by omega
  have N_a2_3__48 : ¬ ((a2 + 3) = 48) := by omega
  have N_a2_3__51 : ¬ ((a2 + 3) = 51) := by omega
  have N_a2_3__52 : ¬ ((a2 + 3) = 52) := by omega
  have N_a2_3__53 : ¬ ((a2 + 3) = 53) := by omega
  have N_a2_3__54 : ¬ ((a2 + 3) = 54) := by omega
  have N_a2_3__55 : ¬ ((a2 + 3) = 55) := by omega
  have N_a2_3__58 : ¬ ((a2 + 3) = 58) := by omega
  have N_a2_3__59 : ¬ ((a2 + 3) = 59) := by omega
  have N_a2_3__60 : ¬ ((a2 + 3) = 60) := by omega
  have N_a2_3__49 : ¬ ((a2 + 3) = 49) := by omega
  have N_a2_3__50 : ¬ ((a2 + 3) = 50) := by omega
  have N_a2_3__56 : ¬ ((a2 + 3) = 56) := by omega
  have N_a2_3__57 : ¬ ((a2 + 3) = 57) := by omega
  have N_a2_3__a1_22 : ¬ ((a2 + 3) = (a1 + 22)) := by omega
  have N_13__a1_22 : ¬ (13 = (a1 + 22)) := by omega
  have N_a1__51 : ¬ (a1 = 51) := by omega
  have N_a1__52 : ¬ (a1 = 52) := by omega
  have N_a1__53 : ¬ (a1 = 53) := by omega
  have N_a1__54 : ¬ (a1 = 54) := by omega
  have N_a1__55 : ¬ (a1 = 55) := by omega
  have N_a1__58 : ¬ (a1 = 58) := by omega
  have N_a1__59 : ¬ (a1 = 59) := by omega
  have N_a1__60 : ¬ (a1 = 60) := by omega
  have N_a1__49 : ¬ (a1 = 49) := by omega
  have N_a1__50 : ¬ (a1 = 50) := by omega
  have N_48__a1_22 : ¬ (48 = (a1 + 22)) := by omega
  have N_a1__a1_22 : ¬ (a1 = (a1 + 22)) := by omega
  have N_2__a1_22 : ¬ (2 = (a1 + 22)) := by omega
  have N_49__a1_22 : ¬ (49 = (a1 + 22)) := by omega
  have N_50__a1_22 : ¬ (50 = (a1 + 22)) := by omega
  have N_54__a1_22 : ¬ (54 = (a1 + 22)) := by omega
  have N_56__a1_22 : ¬ (56 = (a1 + 22)) := by omega
  have N_57__a1_22 : ¬ (57 = (a1 + 22)) := by omega
  have N_53__a1_22 : ¬ (53 = (a1 + 22)) := by omega
  have N_55__a1_22 : ¬ (55 = (a1 + 22)) := by omega
  have N_a1__48 : ¬ (a1 = 48) := by omega
  have N_a1__56 : ¬ (a1 = 56) := by omega
  have N_a1__57 : ¬ (a1 = 57) := by omega
  have f1 := (show 0 ≤ I 48 3 ∧ I 48 3 ≤ 3000 from gc_in hI R_48 rfl rfl)
  have f2 := (show 0 ≤ I 48 6 ∧ I 48 6 ≤ 9000 from gc_in hI R_48 rfl rfl)
  have f3 := (show 0 ≤ I 48 11 ∧ I 48 11 ≤ 1000000 from gc_in hI R_48 rfl rfl)
  have f4 := (show 0 ≤ I 48 12 ∧ I 48 12 ≤ 1 from gc_in hI R_48 rfl rfl)
  have f5 := (show 0 ≤ I 48 17 ∧ I 48 17 ≤ 3000 from gc_in hI R_48 rfl rfl)
  have f6 := (show 0 ≤ I 48 18 ∧ I 48 18 ≤ 24 from gc_in hI R_48 rfl rfl)
  have f7 := (show 0 ≤ I 48 10 ∧ I 48 10 ≤ 18431 from gc_in hI R_48 rfl rfl)
  have f8 := (show (-1) ≤ I 48 13 ∧ I 48 13 ≤ 999999 from gc_in hI R_48 rfl rfl)
  have f9 := (show (-1) ≤ I 48 14 ∧ I 48 14 ≤ 999999 from gc_in hI R_48 rfl rfl)
  have f10 := (show 0 ≤ I a1 13 ∧ I a1 13 ≤ 384 from gc_in hI R_a1 rfl rfl)
  have f11 := (show 0 ≤ I a2 4 ∧ I a2 4 ≤ 24 from gc_in hI R_a2 rfl rfl)
  have f12 := (show 0 ≤ I 2 1 ∧ I 2 1 ≤ 32 from gc_in hI R_2 rfl rfl)
  have L32 : ∀ (n9 : Nat) (I13 : gr_I) (J14 : gr_J) (v4_15 : Int) (v5_15 : Int), (26 - v5_15).toNat < n9 → gc_Inv ro I13 → (∀ q j : Nat, ((q = 48 ∧ j = 3) ∨ (q = 48 ∧ j = 6) ∨ (q = 48 ∧ j = 12) ∨ q = 51 ∨ q = 52 ∨ q = 53 ∨ q = 54 ∨ q = 55 ∨ (q = 48 ∧ j = 11) ∨ q = 58 ∨ q = 59 ∨ q = 60 ∨ (q = 48 ∧ j = 17) ∨ (q = 48 ∧ j = 18) ∨ q = 49 ∨ q = 50 ∨ (q = 48 ∧ j = 13) ∨ (q = 48 ∧ j = 14) ∨ (q = 48 ∧ j = 10) ∨ q = 56 ∨ q = 57 ∨ q = (a1 + 22)) ∨ I13 q j = I q j) → (∀ q j : Nat, (False) ∨ J14 q j = J q j) → gc_FN I13 → gc_FZ I13 → gc_WV a1 I13 → gc_LO a1 I13 → gc_WA (gc_lsl A I a1) I13 → gc_LK (gc_lk A I a1) I13 → gc_TR I13 → ((0 ≤ a3 ∧ a3 ≤ 31) ∧ (1 ≤ v4_15 ∧ v4_15 ≤ 24) ∧ (1 ≤ v5_15 ∧ v5_15 ≤ 25) ∧ (v4_15 = I a2 4) ∧ (v5_15 ≤ v4_15 + 1) ∧ (I13 48 11 ≤ 400001) ∧ (I13 48 13 = (a1 : Int)) ∧ (I13 48 14 = (a2 : Int)) ∧ (I13 2 1 = I 2 1) ∧ (I13 a2 4 = I a2 4) ∧ (I13 a1 13 = I a1 13)) → (gc_OF (I a2 4) (I 2 1) v5_15 0 0 I13) → gv_X (gc_E0 ws0 tb 11 (yX0_fill, cX0_fill, 9, (some .int)) kX0_fill) (gv_Q cX0_fill (some .int) sh (fun r h' => (∃ (I' : gr_I) (J' : gr_J), h' = gc_h sh I' J' A ∧ gc_Inv ro I' ∧ (∀ q j : Nat, ((q = 48 ∧ j = 3) ∨ (q = 48 ∧ j = 6) ∨ (q = 48 ∧ j = 12) ∨ q = 51 ∨ q = 52 ∨ q = 53 ∨ q = 54 ∨ q = 55 ∨ (q = 48 ∧ j = 11) ∨ q = 58 ∨ q = 59 ∨ q = 60 ∨ (q = 48 ∧ j = 17) ∨ (q = 48 ∧ j = 18) ∨ q = 49 ∨ q = 50 ∨ (q = 48 ∧ j = 13) ∨ (q = 48 ∧ j = 14) ∨ (q = 48 ∧ j = 10) ∨ q = 56 ∨ q = 57 ∨ q = (a1 + 22)) ∨ I' q j = I q j) ∧ (∀ q j : Nat, (False) ∨ J' q j = J q j) ∧ gc_FN I' ∧ gc_FZ I' ∧ (∃ z : Int, r = some (.inl z) ∧ (-1) ≤ z ∧ z ≤ 1 ∧ (gc_WV a1 I') ∧ (I' 48 12 = 1 ∨ I' 48 11 ≤ 400000) ∧ (gc_WA (gc_lsl A I a1) I') ∧ (z = -1 ∨ I' 49 (Int.toNat (I' 48 10)) + I' 50 (Int.toNat (I' 48 10)) ≤ I' 48 3))))) (32, [(0, .inr (.inr (some 48))), (1, .inr (.inr (some a1))), (2, .inr (.inr (some a2))), (3, .inl a3), (4, .inl v4_15), (5, .inl v5_15)], [], sh, gc_h sh I13 J14 A) := by
    intro n9
    induction n9 with
    | zero => intro I13 J14 v4_15 v5_15 hn; omega
    | succ n9 ih32 =>
      intro I13 J14 v4_15 v5_15 hn hI13 FI13 FJ14 KFN_I13 KFZ_I13 KWV_I13 KLO_I13 KWA_I13 KLK_I13 KTR_I13 m_15 e0_15
      obtain ⟨ha3_15, hv4_15, hv5_15, e1_15, e2_15, e3_15, e4_15, e5_15, e6_15, e7_15, e8_15⟩ := m_15
      have f16 := (show 0 ≤ I13 48 3 ∧ I13 48 3 ≤ 3000 from gc_in hI13 R_48 rfl rfl)
      have f17 := (show 0 ≤ I13 48 6 ∧ I13 48 6 ≤ 9000 from gc_in hI13 R_48 rfl rfl)
      have f18 := (show 0 ≤ I13 48 11 ∧ I13 48 11 ≤ 1000000 from gc_in hI13 R_48 rfl rfl)
      have f19 := (show 0 ≤ I13 48 12 ∧ I13 48 12 ≤ 1 from gc_in hI13 R_48 rfl rfl)
      have f20 := (show 0 ≤ I13 48 17 ∧ I13 48 17 ≤ 3000 from gc_in hI13 R_48 rfl rfl)
      have f21 := (show 0 ≤ I13 48 18 ∧ I13 48 18 ≤ 24 from gc_in hI13 R_48 rfl rfl)
      have f22 := (show 0 ≤ I13 48 10 ∧ I13 48 10 ≤ 18431 from gc_in hI13 R_48 rfl rfl)
      have f23 := (show (-1) ≤ I13 48 13 ∧ I13 48 13 ≤ 999999 from gc_in hI13 R_48 rfl rfl)
      have f24 := (show (-1) ≤ I13 48 14 ∧ I13 48 14 ≤ 999999 from gc_in hI13 R_48 rfl rfl)
      have f25 := (show 0 ≤ I13 a1 13 ∧ I13 a1 13 ≤ 384 from gc_in hI13 R_a1 rfl rfl)
      have f26 := (show 0 ≤ I13 a2 4 ∧ I13 a2 4 ≤ 24 from gc_in hI13 R_a2 rfl rfl)
      have f27 := (show 0 ≤ I13 2 1 ∧ I13 2 1 ≤ 32 from gc_in hI13 R_2 rfl rfl)
      have L49 : ∀ (n9 : Nat) (I28 : gr_I) (J29 : gr_J) (v6_30 : Int), (25 - v6_30).toNat < n9 → gc_Inv ro I28 → (∀ q j : Nat, ((q = 48 ∧ j = 3) ∨ (q = 48 ∧ j = 6) ∨ (q = 48 ∧ j = 12) ∨ q = 51 ∨ q = 52 ∨ q = 53 ∨ q = 54 ∨ q = 55 ∨ (q = 48 ∧ j = 11) ∨ q = 58 ∨ q = 59 ∨ q = 60 ∨ (q = 48 ∧ j = 17) ∨ (q = 48 ∧ j = 18) ∨ q = 49 ∨ q = 50 ∨ (q = 48 ∧ j = 13) ∨ (q = 48 ∧ j = 14) ∨ (q = 48 ∧ j = 10) ∨ q = 56 ∨ q = 57 ∨ q = (a1 + 22)) ∨ I28 q j = I q j) → (∀ q j : Nat, (False) ∨ J29 q j = J q j) → gc_FN I28 → gc_FZ I28 → gc_WV a1 I28 → gc_LO a1 I28 → gc_WA (gc_lsl A I a1) I28 → gc_LK (gc_lk A I a1) I28 → gc_TR I28 → ((0 ≤ a3 ∧ a3 ≤ 31) ∧ (1 ≤ v4_15 ∧ v4_15 ≤ 24) ∧ (1 ≤ v5_15 ∧ v5_15 ≤ 24) ∧ (0 ≤ v6_30 ∧ v6_30 ≤ 24) ∧ (v4_15 = I a2 4) ∧ (v6_30 + v5_15 ≤ v4_15 + 1) ∧ (v5_15 ≤ v4_15) ∧ (I28 48 11 ≤ 400001) ∧ (I28 48 13 = (a1 : Int)) ∧ (I28 48 14 = (a2 : Int)) ∧ (I28 2 1 = I 2 1) ∧ (I28 a2 4 = I a2 4) ∧ (I28 a1 13 = I a1 13)) → (gc_OF (I a2 4) (I 2 1) v5_15 v6_30 0 I28) → gv_X (gc_E0 ws0 tb 11 (yX0_fill, cX0_fill, 9, (some .int)) kX0_fill) (gv_Q cX0_fill (some .int) sh (fun r h' => (∃ (I' : gr_I) (J' : gr_J), h' = gc_h sh I' J' A ∧ gc_Inv ro I' ∧ (∀ q j : Nat, ((q = 48 ∧ j = 3) ∨ (q = 48 ∧ j = 6) ∨ (q = 48 ∧ j = 12) ∨ q = 51 ∨ q = 52 ∨ q = 53 ∨ q = 54 ∨ q = 55 ∨ (q = 48 ∧ j = 11) ∨ q = 58 ∨ q = 59 ∨ q = 60 ∨ (q = 48 ∧ j = 17) ∨ (q = 48 ∧ j = 18) ∨ q = 49 ∨ q = 50 ∨ (q = 48 ∧ j = 13) ∨ (q = 48 ∧ j = 14) ∨ (q = 48 ∧ j = 10) ∨ q = 56 ∨ q = 57 ∨ q = (a1 + 22)) ∨ I' q j = I q j) ∧ (∀ q j : Nat, (False) ∨ J' q j = J q j) ∧ gc_FN I' ∧ gc_FZ I' ∧ (∃ z : Int, r = some (.inl z) ∧ (-1) ≤ z ∧ z ≤ 1 ∧ (gc_WV a1 I') ∧ (I' 48 12 = 1 ∨ I' 48 11 ≤ 400000) ∧ (gc_WA (gc_lsl A I a1) I') ∧ (z = -1 ∨ I' 49 (Int.toNat (I' 48 10)) + I' 50 (Int.toNat (I' 48 10)) ≤ I' 48 3))))) (49, [(0, .inr (.inr (some 48))), (1, .inr (.inr (some a1))), (2, .inr (.inr (some a2))), (3, .inl a3), (4, .inl v4_15), (5, .inl v5_15), (6, .inl v6_30)], [], sh, gc_h sh I28 J29 A) := by
        intro n9
        induction n9 with
        | zero => intro I28 J29 v6_30 hn; omega
        | succ n9 ih49 =>
          intro I28 J29 v6_30 hn hI28 FI28 FJ29 KFN_I28 KFZ_I28 KWV_I28 KLO_I28 KWA_I28 KLK_I28 KTR_I28 m_30 e0_30
          clear ha3_15 hv4_15 hv5_15 e1_15 e2_15 e3_15 e4_15 e5_15 e6_15 e7_15 e8_15 f16 f17 f18 f19 f20 f21 f22 f23 f24 f25 f26 f27
          obtain ⟨ha3_30, hv4_15_30, hv5_15_30, hv6_30, e1_30, e2_30, e3_30, e4_30, e5_30, e6_30, e7_30, e8_30, e9_30⟩ := m_30
          have f31 := (show 0 ≤ I28 48 3 ∧ I28 48 3 ≤ 3000 from gc_in hI28 R_48 rfl rfl)
          have f32 := (show 0 ≤ I28 48 6 ∧ I28 48 6 ≤ 9000 from gc_in hI28 R_48 rfl rfl)
          have f33 := (show 0 ≤ I28 48 11 ∧ I28 48 11 ≤ 1000000 from gc_in hI28 R_48 rfl rfl)
          have f34 := (show 0 ≤ I28 48 12 ∧ I28 48 12 ≤ 1 from gc_in hI28 R_48 rfl rfl)
          have f35 := (show 0 ≤ I28 48 17 ∧ I28 48 17 ≤ 3000 from gc_in hI28 R_48 rfl rfl)
          have f36 := (show 0 ≤ I28 48 18 ∧ I28 48 18 ≤ 24 from gc_in hI28 R_48 rfl rfl)
          have f37 := (show 0 ≤ I28 48 10 ∧ I28 48 10 ≤ 18431 from gc_in hI28 R_48 rfl rfl)
          have f38 := (show (-1) ≤ I28 48 13 ∧ I28 48 13 ≤ 999999 from gc_in hI28 R_48 rfl rfl)
          have f39 := (show (-1) ≤ I28 48 14 ∧ I28 48 14 ≤ 999999 from gc_in hI28 R_48 rfl rfl)
          have f40 := (show 0 ≤ I28 a1 13 ∧ I28 a1 13 ≤ 384 from gc_in hI28 R_a1 rfl rfl)
          have f41 := (show 0 ≤ I28 a2 4 ∧ I28 a2 4 ≤ 24 from gc_in hI28 R_a2 rfl rfl)
          have f42 := (show 0 ≤ I28 2 1 ∧ I28 2 1 ≤ 32 from gc_in hI28 R_2 rfl rfl)
          have L101 : ∀ (I43 : gr_I) (J44 : gr_J) (s0_45 : Int), gc_Inv ro I43 → (∀ q j : Nat, ((q = 48 ∧ j = 3) ∨ (q = 48 ∧ j = 6) ∨ (q = 48 ∧ j = 12) ∨ q = 51 ∨ q = 52 ∨ q = 53 ∨ q = 54 ∨ q = 55 ∨ (q = 48 ∧ j = 11) ∨ q = 58 ∨ q = 59 ∨ q = 60 ∨ (q = 48 ∧ j = 17) ∨ (q = 48 ∧ j = 18) ∨ q = 49 ∨ q = 50 ∨ (q = 48 ∧ j = 13) ∨ (q = 48 ∧ j = 14) ∨ (q = 48 ∧ j = 10) ∨ q = 56 ∨ q = 57 ∨ q = (a1 + 22)) ∨ I43 q j = I q j) → (∀ q j : Nat, (False) ∨ J44 q j = J q j) → gc_FN I43 → gc_FZ I43 → gc_WV a1 I43 → gc_LO a1 I43 → gc_WA (gc_lsl A I a1) I43 → gc_LK (gc_lk A I a1) I43 → gc_TR I43 → ((0 ≤ a3 ∧ a3 ≤ 31) ∧ (1 ≤ v4_15 ∧ v4_15 ≤ 24) ∧ (1 ≤ v5_15 ∧ v5_15 ≤ 24) ∧ (0 ≤ v6_30 ∧ v6_30 ≤ 24) ∧ (0 ≤ s0_45 ∧ s0_45 ≤ 1536) ∧ (v4_15 = I a2 4) ∧ (v6_30 + v5_15 ≤ v4_15) ∧ (I43 48 11 ≤ 400001) ∧ (I43 48 13 = (a1 : Int)) ∧ (I43 48 14 = (a2 : Int)) ∧ (I43 2 1 = I 2 1) ∧ (I43 a2 4 = I a2 4) ∧ (I43 a1 13 = I a1 13)) → (gc_FD (I a2 4) (I 2 1) v5_15 v6_30 0 I43) → gv_X (gc_E0 ws0 tb 11 (yX0_fill, cX0_fill, 9, (some .int)) kX0_fill) (gv_Q cX0_fill (some .int) sh (fun r h' => (∃ (I' : gr_I) (J' : gr_J), h' = gc_h sh I' J' A ∧ gc_Inv ro I' ∧ (∀ q j : Nat, ((q = 48 ∧ j = 3) ∨ (q = 48 ∧ j = 6) ∨ (q = 48 ∧ j = 12) ∨ q = 51 ∨ q = 52 ∨ q = 53 ∨ q = 54 ∨ q = 55 ∨ (q = 48 ∧ j = 11) ∨ q = 58 ∨ q = 59 ∨ q = 60 ∨ (q = 48 ∧ j = 17) ∨ (q = 48 ∧ j = 18) ∨ q = 49 ∨ q = 50 ∨ (q = 48 ∧ j = 13) ∨ (q = 48 ∧ j = 14) ∨ (q = 48 ∧ j = 10) ∨ q = 56 ∨ q = 57 ∨ q = (a1 + 22)) ∨ I' q j = I q j) ∧ (∀ q j : Nat, (False) ∨ J' q j = J q j) ∧ gc_FN I' ∧ gc_FZ I' ∧ (∃ z : Int, r = some (.inl z) ∧ (-1) ≤ z ∧ z ≤ 1 ∧ (gc_WV a1 I') ∧ (I' 48 12 = 1 ∨ I' 48 11 ≤ 400000) ∧ (gc_WA (gc_lsl A I a1) I') ∧ (z = -1 ∨ I' 49 (Int.toNat (I' 48 10)) + I' 50 (Int.toNat (I' 48 10)) ≤ I' 48 3))))) (101, [(0, .inr (.inr (some 48))), (1, .inr (.inr (some a1))), (2, .inr (.inr (some a2))), (3, .inl a3), (4, .inl v4_15), (5, .inl v5_15), (6, .inl v6_30)], [.inl s0_45], sh, gc_h sh I43 J44 A) := by
            intro I43 J44 s0_45 hI43 FI43 FJ44 KFN_I43 KFZ_I43 KWV_I43 KLO_I43 KWA_I43 KLK_I43 KTR_I43 m_45 e0_45
            clear ha3_30 hv4_15_30 hv5_15_30 hv6_30 e1_30 e2_30 e3_30 e4_30 e5_30 e6_30 e7_30 e8_30 e9_30 f31 f32 f33 f34 f35 f36 f37 f38 f39 f40 f41 f42
            obtain ⟨ha3_45, hv4_15_45, hv5_15_45, hv6_30_45, hs0_45, e1_45, e2_45, e3_45, e4_45, e5_45, e6_45, e7_45, e8_45⟩ := m_45
            have f46 := (show 0 ≤ I43 48 3 ∧ I43 48 3 ≤ 3000 from gc_in hI43 R_48 rfl rfl)
            have f47 := (show 0 ≤ I43 48 6 ∧ I43 48 6 ≤ 9000 from gc_in hI43 R_48 rfl rfl)
            have f48 := (show 0 ≤ I43 48 11 ∧ I43 48 11 ≤ 1000000 from gc_in hI43 R_48 rfl rfl)
            have f49 := (show 0 ≤ I43 48 12 ∧ I43 48 12 ≤ 1 from gc_in hI43 R_48 rfl rfl)
            have f50 := (show 0 ≤ I43 48 17 ∧ I43 48 17 ≤ 3000 from gc_in hI43 R_48 rfl rfl)
            have f51 := (show 0 ≤ I43 48 18 ∧ I43 48 18 ≤ 24 from gc_in hI43 R_48 rfl rfl)
            have f52 := (show 0 ≤ I43 48 10 ∧ I43 48 10 ≤ 18431 from gc_in hI43 R_48 rfl rfl)
            have f53 := (show (-1) ≤ I43 48 13 ∧ I43 48 13 ≤ 999999 from gc_in hI43 R_48 rfl rfl)
            have f54 := (show (-1) ≤ I43 48 14 ∧ I43 48 14 ≤ 999999 from gc_in hI43 R_48 rfl rfl)
            have f55 := (show 0 ≤ I43 a1 13 ∧ I43 a1 13 ≤ 384 from gc_in hI43 R_a1 rfl rfl)
            have f56 := (show 0 ≤ I43 a2 4 ∧ I43 a2 4 ≤ 24 from gc_in hI43 R_a2 rfl rfl)
            have f57 := (show 0 ≤ I43 2 1 ∧ I43 2 1 ≤ 32 from gc_in hI43 R_2 rfl rfl)
            have L106 : ∀ (n9 : Nat) (I58 : gr_I) (J59 : gr_J) (v7_60 : Int) (v8_60 : Int), (33 - v8_60).toNat < n9 → gc_Inv ro I58 → (∀ q j : Nat, ((q = 48 ∧ j = 3) ∨ (q = 48 ∧ j = 6) ∨ (q = 48 ∧ j = 12) ∨ q = 51 ∨ q = 52 ∨ q = 53 ∨ q = 54 ∨ q = 55 ∨ (q = 48 ∧ j = 11) ∨ q = 58 ∨ q = 59 ∨ q = 60 ∨ (q = 48 ∧ j = 17) ∨ (q = 48 ∧ j = 18) ∨ q = 49 ∨ q = 50 ∨ (q = 48 ∧ j = 13) ∨ (q = 48 ∧ j = 14) ∨ (q = 48 ∧ j = 10) ∨ q = 56 ∨ q = 57 ∨ q = (a1 + 22)) ∨ I58 q j = I q j) → (∀ q j : Nat, (False) ∨ J59 q j = J q j) → gc_FN I58 → gc_FZ I58 → gc_WV a1 I58 → gc_LO a1 I58 → gc_WA (gc_lsl A I a1) I58 → gc_LK (gc_lk A I a1) I58 → gc_TR I58 → ((0 ≤ a3 ∧ a3 ≤ 31) ∧ (1 ≤ v4_15 ∧ v4_15 ≤ 24) ∧ (1 ≤ v5_15 ∧ v5_15 ≤ 24) ∧ (0 ≤ v6_30 ∧ v6_30 ≤ 24) ∧ (0 ≤ v7_60 ∧ v7_60 ≤ 1536) ∧ (0 ≤ v8_60 ∧ v8_60 ≤ 32) ∧ (v4_15 = I a2 4) ∧ (v6_30 + v5_15 ≤ v4_15) ∧ (I58 48 11 ≤ 400001) ∧ (I58 48 13 = (a1 : Int)) ∧ (I58 48 14 = (a2 : Int)) ∧ (I58 2 1 = I 2 1) ∧ (I58 a2 4 = I a2 4) ∧ (I58 a1 13 = I a1 13)) → (gc_FD (I a2 4) (I 2 1) v5_15 v6_30 v8_60 I58) → gv_X (gc_E0 ws0 tb 11 (yX0_fill, cX0_fill, 9, (some .int)) kX0_fill) (gv_Q cX0_fill (some .int) sh (fun r h' => (∃ (I' : gr_I) (J' : gr_J), h' = gc_h sh I' J' A ∧ gc_Inv ro I' ∧ (∀ q j : Nat, ((q = 48 ∧ j = 3) ∨ (q = 48 ∧ j = 6) ∨ (q = 48 ∧ j = 12) ∨ q = 51 ∨ q = 52 ∨ q = 53 ∨ q = 54 ∨ q = 55 ∨ (q = 48 ∧ j = 11) ∨ q = 58 ∨ q = 59 ∨ q = 60 ∨ (q = 48 ∧ j = 17) ∨ (q = 48 ∧ j = 18) ∨ q = 49 ∨ q = 50 ∨ (q = 48 ∧ j = 13) ∨ (q = 48 ∧ j = 14) ∨ (q = 48 ∧ j = 10) ∨ q = 56 ∨ q = 57 ∨ q = (a1 + 22)) ∨ I' q j = I q j) ∧ (∀ q j : Nat, (False) ∨ J' q j = J q j) ∧ gc_FN I' ∧ gc_FZ I' ∧ (∃ z : Int, r = some (.inl z) ∧ (-1) ≤ z ∧ z ≤ 1 ∧ (gc_WV a1 I') ∧ (I' 48 12 = 1 ∨ I' 48 11 ≤ 400000) ∧ (gc_WA (gc_lsl A I a1) I') ∧ (z = -1 ∨ I' 49 (Int.toNat (I' 48 10)) + I' 50 (Int.toNat (I' 48 10)) ≤ I' 48 3))))) (106, [(0, .inr (.inr (some 48))), (1, .inr (.inr (some a1))), (2, .inr (.inr (some a2))), (3, .inl a3), (4, .inl v4_15), (5, .inl v5_15), (6, .inl v6_30), (7, .inl v7_60), (8, .inl v8_60)], [], sh, gc_h sh I58 J59 A) := by
              intro n9
              induction n9 with
              | zero => intro I58 J59 v7_60 v8_60 hn; omega
              | succ n9 ih106 =>
                intro I58 J59 v7_60 v8_60 hn hI58 FI58 FJ59 KFN_I58 KFZ_I58 KWV_I58 KLO_I58 KWA_I58 KLK_I58 KTR_I58 m_60 e0_60
                clear ha3_45 hv4_15_45 hv5_15_45 hv6_30_45 hs0_45 e1_45 e2_45 e3_45 e4_45 e5_45 e6_45 e7_45 e8_45 f46 f47 f48 f49 f50 f51 f52 f53 f54 f55 f56 f57
                obtain ⟨ha3_60, hv4_15_60, hv5_15_60, hv6_30_60, hv7_60, hv8_60, e1_60, e2_60, e3_60, e4_60, e5_60, e6_60, e7_60, e8_60⟩ := m_60
                have f61 := (show 0 ≤ I58 48 3 ∧ I58 48 3 ≤ 3000 from gc_in hI58 R_48 rfl rfl)
                have f62 := (show 0 ≤ I58 48 6 ∧ I58 48 6 ≤ 9000 from gc_in hI58 R_48 rfl rfl)
                have f63 := (show 0 ≤ I58 48 11 ∧ I58 48 11 ≤ 1000000 from gc_in hI58 R_48 rfl rfl)
                have f64 := (show 0 ≤ I58 48 12 ∧ I58 48 12 ≤ 1 from gc_in hI58 R_48 rfl rfl)
                have f65 := (show 0 ≤ I58 48 17 ∧ I58 48 17 ≤ 3000 from gc_in hI58 R_48 rfl rfl)
                have f66 := (show 0 ≤ I58 48 18 ∧ I58 48 18 ≤ 24 from gc_in hI58 R_48 rfl rfl)
                have f67 := (show 0 ≤ I58 48 10 ∧ I58 48 10 ≤ 18431 from gc_in hI58 R_48 rfl rfl)
                have f68 := (show (-1) ≤ I58 48 13 ∧ I58 48 13 ≤ 999999 from gc_in hI58 R_48 rfl rfl)
                have f69 := (show (-1) ≤ I58 48 14 ∧ I58 48 14 ≤ 999999 from gc_in hI58 R_48 rfl rfl)
                have f70 := (show 0 ≤ I58 a1 13 ∧ I58 a1 13 ≤ 384 from gc_in hI58 R_a1 rfl rfl)
                have f71 := (show 0 ≤ I58 a2 4 ∧ I58 a2 4 ≤ 24 from gc_in hI58 R_a2 rfl rfl)
                have f72 := (show 0 ≤ I58 2 1 ∧ I58 2 1 ≤ 32 from gc_in hI58 R_2 rfl rfl)
                have L146 : ((0 ≤ a3 ∧ a3 ≤ 31) ∧ (1 ≤ v4_15 ∧ v4_15 ≤ 24) ∧ (1 ≤ v5_15 ∧ v5_15 ≤ 24) ∧ (0 ≤ v6_30 ∧ v6_30 ≤ 24) ∧ (v4_15 = I a2 4) ∧ (v6_30 + v5_15 ≤ v4_15) ∧ (I58 48 11 ≤ 400001) ∧ (I58 48 13 = (a1 : Int)) ∧ (I58 48 14 = (a2 : Int)) ∧ (I58 2 1 = I 2 1) ∧ (I58 a2 4 = I a2 4) ∧ (I58 a1 13 = I a1 13)) → (gc_OF (I a2 4) (I 2 1) v5_15 (v6_30 + 1) 0 I58) → gv_X (gc_E0 ws0 tb 11 (yX0_fill, cX0_fill, 9, (some .int)) kX0_fill) (gv_Q cX0_fill (some .int) sh (fun r h' => (∃ (I' : gr_I) (J' : gr_J), h' = gc_h sh I' J' A ∧ gc_Inv ro I' ∧ (∀ q j : Nat, ((q = 48 ∧ j = 3) ∨ (q = 48 ∧ j = 6) ∨ (q = 48 ∧ j = 12) ∨ q = 51 ∨ q = 52 ∨ q = 53 ∨ q = 54 ∨ q = 55 ∨ (q = 48 ∧ j = 11) ∨ q = 58 ∨ q = 59 ∨ q = 60 ∨ (q = 48 ∧ j = 17) ∨ (q = 48 ∧ j = 18) ∨ q = 49 ∨ q = 50 ∨ (q = 48 ∧ j = 13) ∨ (q = 48 ∧ j = 14) ∨ (q = 48 ∧ j = 10) ∨ q = 56 ∨ q = 57 ∨ q = (a1 + 22)) ∨ I' q j = I q j) ∧ (∀ q j : Nat, (False) ∨ J' q j = J q j) ∧ gc_FN I' ∧ gc_FZ I' ∧ (∃ z : Int, r = some (.inl z) ∧ (-1) ≤ z ∧ z ≤ 1 ∧ (gc_WV a1 I') ∧ (I' 48 12 = 1 ∨ I' 48 11 ≤ 400000) ∧ (gc_WA (gc_lsl A I a1) I') ∧ (z = -1 ∨ I' 49 (Int.toNat (I' 48 10)) + I' 50 (Int.toNat (I' 48 10)) ≤ I' 48 3))))) (146, [(0, .inr (.inr (some 48))), (1, .inr (.inr (some a1))), (2, .inr (.inr (some a2))), (3, .inl a3), (4, .inl v4_15), (5, .inl v5_15), (6, .inl v6_30)], [], sh, gc_h sh I58 J59 A) := by
                  intro m_73 e0_73
                  obtain ⟨ha3_73, hv4_15_73, hv5_15_73, hv6_30_73, e1_73, e2_73, e3_73, e4_73, e5_73, e6_73, e7_73, e8_73⟩ := m_73
                  have f74 := (show 0 ≤ I58 48 3 ∧ I58 48 3 ≤ 3000 from gc_in hI58 R_48 rfl rfl)
                  have f75 := (show 0 ≤ I58 48 6 ∧ I58 48 6 ≤ 9000 from gc_in hI58 R_48 rfl rfl)
                  have f76 := (show 0 ≤ I58 48 11 ∧ I58 48 11 ≤ 1000000 from gc_in hI58 R_48 rfl rfl)
                  have f77 := (show 0 ≤ I58 48 12 ∧ I58 48 12 ≤ 1 from gc_in hI58 R_48 rfl rfl)
                  have f78 := (show 0 ≤ I58 48 17 ∧ I58 48 17 ≤ 3000 from gc_in hI58 R_48 rfl rfl)
                  have f79 := (show 0 ≤ I58 48 18 ∧ I58 48 18 ≤ 24 from gc_in hI58 R_48 rfl rfl)
                  have f80 := (show 0 ≤ I58 48 10 ∧ I58 48 10 ≤ 18431 from gc_in hI58 R_48 rfl rfl)
                  have f81 := (show (-1) ≤ I58 48 13 ∧ I58 48 13 ≤ 999999 from gc_in hI58 R_48 rfl rfl)
                  have f82 := (show (-1) ≤ I58 48 14 ∧ I58 48 14 ≤ 999999 from gc_in hI58 R_48 rfl rfl)
                  have f83 := (show 0 ≤ I58 a1 13 ∧ I58 a1 13 ≤ 384 from gc_in hI58 R_a1 rfl rfl)
                  have f84 := (show 0 ≤ I58 a2 4 ∧ I58 a2 4 ≤ 24 from gc_in hI58 R_a2 rfl rfl)
                  have f85 := (show 0 ≤ I58 2 1 ∧ I58 2 1 ≤ 32 from gc_in hI58 R_2 rfl rfl)
                  refine gv_run 2 true hD (pc' := 49) (lv' := [(6, .inl (v6_30 + 1)), (0, .inr (.inr (some 48))), (1, .inr (.inr (some a1))), (2, .inr (.inr (some a2))), (3, .inl a3), (4, .inl v4_15), (5, .inl v5_15)]) (st' := []) (h' := gc_h sh I58 J59 A) (C := ((True ∧ True) ∧ True)) rfl ⟨⟨trivial, trivial⟩, trivial⟩ ?_
                  refine gv_pick [1, 2, 3, 4, 5, 6, 0] rfl ?_
                  exact ih49 I58 J59 (v6_30 + 1) (by omega) hI58 FI58 FJ59 KFN_I58 KFZ_I58 KWV_I58 KLO_I58 KWA_I58 KLK_I58 KTR_I58 (by omega) e0_73
                refine gv_run 2 true hD (pc' := 109) (lv' := [(0, .inr (.inr (some 48))), (1, .inr (.inr (some a1))), (2, .inr (.inr (some a2))), (3, .inl a3), (4, .inl v4_15), (5, .inl v5_15), (6, .inl v6_30), (7, .inl v7_60), (8, .inl v8_60)]) (st' := [.inr (.inr (some 48)), .inl v8_60]) (h' := gc_h sh I58 J59 A) (C := ((True ∧ True) ∧ True)) rfl ⟨⟨trivial, trivial⟩, trivial⟩ ?_
                refine gv_get hD rfl rfl S_48 ⟨by decide, B_48⟩ (gc_hA S_48 rfl A_48_0) ?_
                show gv_X _ _ (112, [(0, .inr (.inr (some 48))), (1, .inr (.inr (some a1))), (2, .inr (.inr (some a2))), (3, .inl a3), (4, .inl v4_15), (5, .inl v5_15), (6, .inl v6_30), (7, .inl v7_60), (8, .inl v8_60)], [.inr (.inr (some 1)), .inl v8_60], sh, gc_h sh I58 J59 A)
                refine gv_get hD rfl rfl S_1 ⟨by decide, B_1⟩ (gc_hA S_1 rfl A_1_0) ?_
                show gv_X _ _ (115, [(0, .inr (.inr (some 48))), (1, .inr (.inr (some a1))), (2, .inr (.inr (some a2))), (3, .inl a3), (4, .inl v4_15), (5, .inl v5_15), (6, .inl v6_30), (7, .inl v7_60), (8, .inl v8_60)], [.inr (.inr (some 2)), .inl v8_60], sh, gc_h sh I58 J59 A)
                have f86 := (show 0 ≤ I58 2 1 ∧ I58 2 1 ≤ 32 from gc_in hI58 R_2 rfl rfl)
                refine gv_get hD rfl rfl S_2 ⟨by decide, B_2⟩ (gc_hI S_2 rfl) ?_
                show gv_X _ _ (118, [(0, .inr (.inr (some 48))), (1, .inr (.inr (some a1))), (2, .inr (.inr (some a2))), (3, .inl a3), (4, .inl v4_15), (5, .inl v5_15), (6, .inl v6_30), (7, .inl v7_60), (8, .inl v8_60)], [.inl (I58 2 1), .inl v8_60], sh, gc_h sh I58 J59 A)
                refine gv_icmp_ge (t := 146) hD rfl rfl ⟨⟨by omega, by omega⟩, ⟨by omega, by omega⟩⟩ (fun c87 => ?_) (fun c87 => ?_)
                · show gv_X _ _ (146, [(0, .inr (.inr (some 48))), (1, .inr (.inr (some a1))), (2, .inr (.inr (some a2))), (3, .inl a3), (4, .inl v4_15), (5, .inl v5_15), (6, .inl v6_30), (7, .inl v7_60), (8, .inl v8_60)], [], sh, gc_h sh I58 J59 A)
                  refine gv_pick [0, 1, 2, 3, 4, 5, 6] rfl ?_
                  exact L146 (by omega) (by by_cases h9 : I58 48 12 = 1; (· exact Or.inl h9); (· exact Or.inr (gc_FD_k e0_60 (by omega))))
                · show gv_X _ _ (121, [(0, .inr (.inr (some 48))), (1, .inr (.inr (some a1))), (2, .inr (.inr (some a2))), (3, .inl a3), (4, .inl v4_15), (5, .inl v5_15), (6, .inl v6_30), (7, .inl v7_60), (8, .inl v8_60)], [], sh, gc_h sh I58 J59 A)
                  refine gv_run 1 true hD (pc' := 122) (lv' := [(0, .inr (.inr (some 48))), (1, .inr (.inr (some a1))), (2, .inr (.inr (some a2))), (3, .inl a3), (4, .inl v4_15), (5, .inl v5_15), (6, .inl v6_30), (7, .inl v7_60), (8, .inl v8_60)]) (st' := [.inr (.inr (some 48))]) (h' := gc_h sh I58 J59 A) (C := (True ∧ True)) rfl ⟨trivial, trivial⟩ ?_
                  have f88 := (show 0 ≤ I58 48 12 ∧ I58 48 12 ≤ 1 from gc_in hI58 R_48 rfl rfl)
                  refine gv_get hD rfl rfl S_48 ⟨by decide, B_48⟩ (gc_hI S_48 rfl) ?_
                  show gv_X _ _ (125, [(0, .inr (.inr (some 48))), (1, .inr (.inr (some a1))), (2, .inr (.inr (some a2))), (3, .inl a3), (4, .inl v4_15), (5, .inl v5_15), (6, .inl v6_30), (7, .inl v7_60), (8, .inl v8_60)], [.inl (I58 48 12)], sh, gc_h sh I58 J59 A)
                  refine gv_if_ne (t := 146) hD rfl rfl ⟨by omega, by omega⟩ (fun c89 => ?_) (fun c89 => ?_)
                  · show gv_X _ _ (146, [(0, .inr (.inr (some 48))), (1, .inr (.inr (some a1))), (2, .inr (.inr (some a2))), (3, .inl a3), (4, .inl v4_15), (5, .inl v5_15), (6, .inl v6_30), (7, .inl v7_60), (8, .inl v8_60)], [], sh, gc_h sh I58 J59 A)
                    refine gv_pick [0, 1, 2, 3, 4, 5, 6] rfl ?_
                    exact L146 (by omega) (by by_cases h9 : I58 48 12 = 1; (· exact Or.inl h9); (· exact Or.inr (gc_FD_k e0_60 (by omega))))
                  · show gv_X _ _ (128, [(0, .inr (.inr (some 48))), (1, .inr (.inr (some a1))), (2, .inr (.inr (some a2))), (3, .inl a3), (4, .inl v4_15), (5, .inl v5_15), (6, .inl v6_30), (7, .inl v7_60), (8, .inl v8_60)], [], sh, gc_h sh I58 J59 A)
                    refine gv_run 5 true hD (pc' := 137) (lv' := [(0, .inr (.inr (some 48))), (1, .inr (.inr (some a1))), (2, .inr (.inr (some a2))), (3, .inl a3), (4, .inl v4_15), (5, .inl v5_15), (6, .inl v6_30), (7, .inl v7_60), (8, .inl v8_60)]) (st' := [.inl v7_60, .inl v8_60, .inl v5_15, .inl v6_30, .inr (.inr (some 48))]) (h' := gc_h sh I58 J59 A) (C := (((((True ∧ True) ∧ True) ∧ True) ∧ True) ∧ True)) rfl ⟨⟨⟨⟨⟨trivial, trivial⟩, trivial⟩, trivial⟩, trivial⟩, trivial⟩ ?_
                    obtain ⟨r90, h90, E90, P90⟩ := d_X0_fillSpan (ws0 := ws0) (tb := tb) hws htb sh ro I58 J59 A hI58  a1 a2 (gc_lsl A I a1) (gc_lk A I a1) (I a2 4) (I 2 1) v6_30 v5_15 v8_60 v7_60 hb  h_a1 G_a1 h_a2 G_a2  ⟨by omega, by omega⟩ ⟨by omega, by omega⟩ ⟨by omega, by omega⟩ ⟨by omega, by omega⟩ (by omega) (gc_SP_fr x1 ((FI58 a2 4).resolve_left (fun h => h.elim (fun h => absurd h.2 (by decide)) (fun h => h.elim (fun h => absurd h.2 (by decide)) (fun h => h.elim (fun h => absurd h.2 (by decide)) (fun h => h.elim (fun h => absurd h N_a2__51) (fun h => h.elim (fun h => absurd h N_a2__52) (fun h => h.elim (fun h => absurd h N_a2__53) (fun h => h.elim (fun h => absurd h N_a2__54) (fun h => h.elim (fun h => absurd h N_a2__55) (fun h => h.elim (fun h => absurd h.2 (by decide)) (fun h => h.elim (fun h => absurd h N_a2__58) (fun h => h.elim (fun h => absurd h N_a2__59) (fun h => h.elim (fun h => absurd h N_a2__60) (fun h => h.elim (fun h => absurd h.2 (by decide)) (fun h => h.elim (fun h => absurd h.2 (by decide)) (fun h => h.elim (fun h => absurd h N_a2__49) (fun h => h.elim (fun h => absurd h N_a2__50) (fun h => h.elim (fun h => absurd h.2 (by decide)) (fun h => h.elim (fun h => absurd h.2 (by decide)) (fun h => h.elim (fun h => absurd h.2 (by decide)) (fun h => h.elim (fun h => absurd h N_a2__56) (fun h => h.elim (fun h => absurd h N_a2__57) (fun h => absurd h N_a2__a1_22))))))))))))))))))))))) (fun k => (FI58 (a2 + 2) k).resolve_left (fun h => h.elim (fun h => absurd h.1 N_a2_2__48) (fun h => h.elim (fun h => absurd h.1 N_a2_2__48) (fun h => h.elim (fun h => absurd h.1 N_a2_2__48) (fun h => h.elim (fun h => absurd h N_a2_2__51) (fun h => h.elim (fun h => absurd h N_a2_2__52) (fun h => h.elim (fun h => absurd h N_a2_2__53) (fun h => h.elim (fun h => absurd h N_a2_2__54) (fun h => h.elim (fun h => absurd h N_a2_2__55) (fun h => h.elim (fun h => absurd h.1 N_a2_2__48) (fun h => h.elim (fun h => absurd h N_a2_2__58) (fun h => h.elim (fun h => absurd h N_a2_2__59) (fun h => h.elim (fun h => absurd h N_a2_2__60) (fun h => h.elim (fun h => absurd h.1 N_a2_2__48) (fun h => h.elim (fun h => absurd h.1 N_a2_2__48) (fun h => h.elim (fun h => absurd h N_a2_2__49) (fun h => h.elim (fun h => absurd h N_a2_2__50) (fun h => h.elim (fun h => absurd h.1 N_a2_2__48) (fun h => h.elim (fun h => absurd h.1 N_a2_2__48) (fun h => h.elim (fun h => absurd h.1 N_a2_2__48) (fun h => h.elim (fun h => absurd h N_a2_2__56) (fun h => h.elim (fun h => absurd h N_a2_2__57) (fun h => absurd h N_a2_2__a1_22))))))))))))))))))))))) (fun k => (FI58 (a2 + 3) k).resolve_left (fun h => h.elim (fun h => absurd h.1 N_a2_3__48) (fun h => h.elim (fun h => absurd h.1 N_a2_3__48) (fun h => h.elim (fun h => absurd h.1 N_a2_3__48) (fun h => h.elim (fun h => absurd h N_a2_3__51) (fun h => h.elim (fun h => absurd h N_a2_3__52) (fun h => h.elim (fun h => absurd h N_a2_3__53) (fun h => h.elim (fun h => absurd h N_a2_3__54) (fun h => h.elim (fun h => absurd h N_a2_3__55) (fun h => h.elim (fun h => absurd h.1 N_a2_3__48) (fun h => h.elim (fun h => absurd h N_a2_3__58) (fun h => h.elim (fun h => absurd h N_a2_3__59) (fun h => h.elim (fun h => absurd h N_a2_3__60) (fun h => h.elim (fun h => absurd h.1 N_a2_3__48) (fun h => h.elim (fun h => absurd h.1 N_a2_3__48) (fun h => h.elim (fun h => absurd h N_a2_3__49) (fun h => h.elim (fun h => absurd h N_a2_3__50) (fun h => h.elim (fun h => absurd h.1 N_a2_3__48) (fun h => h.elim (fun h => absurd h.1 N_a2_3__48) (fun h => h.elim (fun h => absurd h.1 N_a2_3__48) (fun h => h.elim (fun h => absurd h N_a2_3__56) (fun h => h.elim (fun h => absurd h N_a2_3__57) (fun h => absurd h N_a2_3__a1_22)))))))))))))))))))))))) (gc_Ls_fr x0 ((FI58 a1 13).resolve_left (by omega)) (fun q hL hq d k hd => (FI58 (q + d) k).resolve_left (by have := gc_dj_LT hL h_a1; omega))) (by omega) (by omega) (by omega) (by omega) (by omega) (fun i q hi hA => by rw [gc_lsl_at hA]; obtain ⟨q9, b1, b2, b3, _, _⟩ := x0 i (by omega); cases b1.symm.trans hA; have b4 := gc_dj_LT b2 h_a1; exact (FI58 _ 8).resolve_left (by omega)) (fun i q hi hA => by have b5 := x5 i q (by omega) hA; obtain ⟨q9, b1, b2, b3, _, _⟩ := x0 i (by omega); cases b1.symm.trans hA; have b4 := gc_dj_LT b2 h_a1; exact gc_un_fr b5 ((FI58 _ 4).resolve_left (by omega)) ((FI58 _ 1).resolve_left (by omega)) ((FI58 _ 0).resolve_left (by omega)) (fun k => (FI58 13 k).resolve_left (fun h => h.elim (fun h => absurd h.1 (by decide)) (fun h => h.elim (fun h => absurd h.1 (by decide)) (fun h => h.elim (fun h => absurd h.1 (by decide)) (fun h => h.elim (fun h => absurd h (by decide)) (fun h => h.elim (fun h => absurd h (by decide)) (fun h => h.elim (fun h => absurd h (by decide)) (fun h => h.elim (fun h => absurd h (by decide)) (fun h => h.elim (fun h => absurd h (by decide)) (fun h => h.elim (fun h => absurd h.1 (by decide)) (fun h => h.elim (fun h => absurd h (by decide)) (fun h => h.elim (fun h => absurd h (by decide)) (fun h => h.elim (fun h => absurd h (by decide)) (fun h => h.elim (fun h => absurd h.1 (by decide)) (fun h => h.elim (fun h => absurd h.1 (by decide)) (fun h => h.elim (fun h => absurd h (by decide)) (fun h => h.elim (fun h => absurd h (by decide)) (fun h => h.elim (fun h => absurd h.1 (by decide)) (fun h => h.elim (fun h => absurd h.1 (by decide)) (fun h => h.elim (fun h => absurd h.1 (by decide)) (fun h => h.elim (fun h => absurd h (by decide)) (fun h => h.elim (fun h => absurd h (by decide)) (fun h => absurd h N_13__a1_22)))))))))))))))))))))))) e0_60 (by omega) (by omega) KWV_I58 KFN_I58 KLO_I58 KWA_I58 KFZ_I58 KLK_I58 KTR_I58
                    obtain ⟨I91, J92, rfl, hI91, g90, k90, KWV_I91, KFN_I91, KLO_I91, KWA_I91, KFZ_I91, KLK_I91, KTR_I91, ⟨rfl, q90⟩⟩ := P90
                    have FI91 := gc_frc (W := fun q j => (q = 48 ∧ j = 3) ∨ (q = 48 ∧ j = 6) ∨ (q = 48 ∧ j = 12) ∨ q = 51 ∨ q = 52 ∨ q = 53 ∨ q = 54 ∨ q = 55 ∨ (q = 48 ∧ j = 11) ∨ q = 58 ∨ q = 59 ∨ q = 60 ∨ (q = 48 ∧ j = 17) ∨ (q = 48 ∧ j = 18) ∨ q = 49 ∨ q = 50 ∨ (q = 48 ∧ j = 13) ∨ (q = 48 ∧ j = 14) ∨ (q = 48 ∧ j = 10) ∨ q = 56 ∨ q = 57 ∨ q = (a1 + 22)) (V := fun q j => (q = 48 ∧ j = 3) ∨ (q = 48 ∧ j = 6) ∨ (q = 48 ∧ j = 12) ∨ q = 51 ∨ q = 52 ∨ q = 53 ∨ q = 54 ∨ q = 55 ∨ (q = 48 ∧ j = 11) ∨ q = 58 ∨ q = 59 ∨ q = 60 ∨ (q = 48 ∧ j = 17) ∨ (q = 48 ∧ j = 18) ∨ q = 49 ∨ q = 50) FI58 (fun q j h => (h.elim (fun h => (Or.inl h)) (fun h => (h.elim (fun h => (Or.inr (Or.inl h))) (fun h => (h.elim (fun h => (Or.inr (Or.inr (Or.inl h)))) (fun h => (h.elim (fun h => (Or.inr (Or.inr (Or.inr (Or.inl h))))) (fun h => (h.elim (fun h => (Or.inr (Or.inr (Or.inr (Or.inr (Or.inl h)))))) (fun h => (h.elim (fun h => (Or.inr (Or.inr (Or.inr (Or.inr (Or.inr (Or.inl h))))))) (fun h => (h.elim (fun h => (Or.inr (Or.inr (Or.inr (Or.inr (Or.inr (Or.inr (Or.inl h)))))))) (fun h => (h.elim (fun h => (Or.inr (Or.inr (Or.inr (Or.inr (Or.inr (Or.inr (Or.inr (Or.inl h))))))))) (fun h => (h.elim (fun h => (Or.inr (Or.inr (Or.inr (Or.inr (Or.inr (Or.inr (Or.inr (Or.inr (Or.inl h)))))))))) (fun h => (h.elim (fun h => (Or.inr (Or.inr (Or.inr (Or.inr (Or.inr (Or.inr (Or.inr (Or.inr (Or.inr (Or.inl h))))))))))) (fun h => (h.elim (fun h => (Or.inr (Or.inr (Or.inr (Or.inr (Or.inr (Or.inr (Or.inr (Or.inr (Or.inr (Or.inr (Or.inl h)))))))))))) (fun h => (h.elim (fun h => (Or.inr (Or.inr (Or.inr (Or.inr (Or.inr (Or.inr (Or.inr (Or.inr (Or.inr (Or.inr (Or.inr (Or.inl h))))))))))))) (fun h => (h.elim (fun h => (Or.inr (Or.inr (Or.inr (Or.inr (Or.inr (Or.inr (Or.inr (Or.inr (Or.inr (Or.inr (Or.inr (Or.inr (Or.inl h)))))))))))))) (fun h => (h.elim (fun h => (Or.inr (Or.inr (Or.inr (Or.inr (Or.inr (Or.inr (Or.inr (Or.inr (Or.inr (Or.inr (Or.inr (Or.inr (Or.inr (Or.inl h))))))))))))))) (fun h => (h.elim (fun h => (Or.inr (Or.inr (Or.inr (Or.inr (Or.inr (Or.inr (Or.inr (Or.inr (Or.inr (Or.inr (Or.inr (Or.inr (Or.inr (Or.inr (Or.inl h)))))))))))))))) (fun h => (Or.inr (Or.inr (Or.inr (Or.inr (Or.inr (Or.inr (Or.inr (Or.inr (Or.inr (Or.inr (Or.inr (Or.inr (Or.inr (Or.inr (Or.inr (Or.inl h))))))))))))))))))))))))))))))))))))))))))))))) g90
                    have t93 := (g90 48 10).resolve_left (fun h => h.elim (fun h => absurd h.2 (by decide)) (fun h => h.elim (fun h => absurd h.2 (by decide)) (fun h => h.elim (fun h => absurd h.2 (by decide)) (fun h => h.elim (fun h => absurd h (by decide)) (fun h => h.elim (fun h => absurd h (by decide)) (fun h => h.elim (fun h => absurd h (by decide)) (fun h => h.elim (fun h => absurd h (by decide)) (fun h => h.elim (fun h => absurd h (by decide)) (fun h => h.elim (fun h => absurd h.2 (by decide)) (fun h => h.elim (fun h => absurd h (by decide)) (fun h => h.elim (fun h => absurd h (by decide)) (fun h => h.elim (fun h => absurd h (by decide)) (fun h => h.elim (fun h => absurd h.2 (by decide)) (fun h => h.elim (fun h => absurd h.2 (by decide)) (fun h => h.elim (fun h => absurd h (by decide)) (fun h => absurd h (by decide)))))))))))))))))
                    have t94 := (g90 48 13).resolve_left (fun h => h.elim (fun h => absurd h.2 (by decide)) (fun h => h.elim (fun h => absurd h.2 (by decide)) (fun h => h.elim (fun h => absurd h.2 (by decide)) (fun h => h.elim (fun h => absurd h (by decide)) (fun h => h.elim (fun h => absurd h (by decide)) (fun h => h.elim (fun h => absurd h (by decide)) (fun h => h.elim (fun h => absurd h (by decide)) (fun h => h.elim (fun h => absurd h (by decide)) (fun h => h.elim (fun h => absurd h.2 (by decide)) (fun h => h.elim (fun h => absurd h (by decide)) (fun h => h.elim (fun h => absurd h (by decide)) (fun h => h.elim (fun h => absurd h (by decide)) (fun h => h.elim (fun h => absurd h.2 (by decide)) (fun h => h.elim (fun h => absurd h.2 (by decide)) (fun h => h.elim (fun h => absurd h (by decide)) (fun h => absurd h (by decide)))))))))))))))))
                    have t95 := (g90 48 14).resolve_left (fun h => h.elim (fun h => absurd h.2 (by decide)) (fun h => h.elim (fun h => absurd h.2 (by decide)) (fun h => h.elim (fun h => absurd h.2 (by decide)) (fun h => h.elim (fun h => absurd h (by decide)) (fun h => h.elim (fun h => absurd h (by decide)) (fun h => h.elim (fun h => absurd h (by decide)) (fun h => h.elim (fun h => absurd h (by decide)) (fun h => h.elim (fun h => absurd h (by decide)) (fun h => h.elim (fun h => absurd h.2 (by decide)) (fun h => h.elim (fun h => absurd h (by decide)) (fun h => h.elim (fun h => absurd h (by decide)) (fun h => h.elim (fun h => absurd h (by decide)) (fun h => h.elim (fun h => absurd h.2 (by decide)) (fun h => h.elim (fun h => absurd h.2 (by decide)) (fun h => h.elim (fun h => absurd h (by decide)) (fun h => absurd h (by decide)))))))))))))))))
                    have t96 := (g90 a1 13).resolve_left (fun h => h.elim (fun h => absurd h.2 (by decide)) (fun h => h.elim (fun h => absurd h.2 (by decide)) (fun h => h.elim (fun h => absurd h.2 (by decide)) (fun h => h.elim (fun h => absurd h N_a1__51) (fun h => h.elim (fun h => absurd h N_a1__52) (fun h => h.elim (fun h => absurd h N_a1__53) (fun h => h.elim (fun h => absurd h N_a1__54) (fun h => h.elim (fun h => absurd h N_a1__55) (fun h => h.elim (fun h => absurd h.2 (by decide)) (fun h => h.elim (fun h => absurd h N_a1__58) (fun h => h.elim (fun h => absurd h N_a1__59) (fun h => h.elim (fun h => absurd h N_a1__60) (fun h => h.elim (fun h => absurd h.2 (by decide)) (fun h => h.elim (fun h => absurd h.2 (by decide)) (fun h => h.elim (fun h => absurd h N_a1__49) (fun h => absurd h N_a1__50))))))))))))))))
                    have t97 := (g90 a2 4).resolve_left (fun h => h.elim (fun h => absurd h.2 (by decide)) (fun h => h.elim (fun h => absurd h.2 (by decide)) (fun h => h.elim (fun h => absurd h.2 (by decide)) (fun h => h.elim (fun h => absurd h N_a2__51) (fun h => h.elim (fun h => absurd h N_a2__52) (fun h => h.elim (fun h => absurd h N_a2__53) (fun h => h.elim (fun h => absurd h N_a2__54) (fun h => h.elim (fun h => absurd h N_a2__55) (fun h => h.elim (fun h => absurd h.2 (by decide)) (fun h => h.elim (fun h => absurd h N_a2__58) (fun h => h.elim (fun h => absurd h N_a2__59) (fun h => h.elim (fun h => absurd h N_a2__60) (fun h => h.elim (fun h => absurd h.2 (by decide)) (fun h => h.elim (fun h => absurd h.2 (by decide)) (fun h => h.elim (fun h => absurd h N_a2__49) (fun h => absurd h N_a2__50))))))))))))))))
                    have t98 := (g90 2 1).resolve_left (fun h => h.elim (fun h => absurd h.2 (by decide)) (fun h => h.elim (fun h => absurd h.2 (by decide)) (fun h => h.elim (fun h => absurd h.2 (by decide)) (fun h => h.elim (fun h => absurd h (by decide)) (fun h => h.elim (fun h => absurd h (by decide)) (fun h => h.elim (fun h => absurd h (by decide)) (fun h => h.elim (fun h => absurd h (by decide)) (fun h => h.elim (fun h => absurd h (by decide)) (fun h => h.elim (fun h => absurd h.2 (by decide)) (fun h => h.elim (fun h => absurd h (by decide)) (fun h => h.elim (fun h => absurd h (by decide)) (fun h => h.elim (fun h => absurd h (by decide)) (fun h => h.elim (fun h => absurd h.2 (by decide)) (fun h => h.elim (fun h => absurd h.2 (by decide)) (fun h => h.elim (fun h => absurd h (by decide)) (fun h => absurd h (by decide)))))))))))))))))
                    have f99 := (show 0 ≤ I91 48 3 ∧ I91 48 3 ≤ 3000 from gc_in hI91 R_48 rfl rfl)
                    have f100 := (show 0 ≤ I91 48 6 ∧ I91 48 6 ≤ 9000 from gc_in hI91 R_48 rfl rfl)
                    have f101 := (show 0 ≤ I91 48 11 ∧ I91 48 11 ≤ 1000000 from gc_in hI91 R_48 rfl rfl)
                    have f102 := (show 0 ≤ I91 48 12 ∧ I91 48 12 ≤ 1 from gc_in hI91 R_48 rfl rfl)
                    have f103 := (show 0 ≤ I91 48 17 ∧ I91 48 17 ≤ 3000 from gc_in hI91 R_48 rfl rfl)
                    have f104 := (show 0 ≤ I91 48 18 ∧ I91 48 18 ≤ 24 from gc_in hI91 R_48 rfl rfl)
                    obtain rfl : J59 = J92 := funext fun q => funext fun j => ((k90 q j).resolve_left id).symm
                    refine gv_callV hD rfl (As := [.inl v6_30, .inl v5_15, .inl v8_60, .inl v7_60]) (st := []) rfl B_48 S_48 rfl (gc_lV0 hws rfl) (Nat.le_of_ble_eq_true rfl) (gz_Ev_mono (d := 11) (by decide) E90) ?_
                    show gv_X _ _ (140, [(0, .inr (.inr (some 48))), (1, .inr (.inr (some a1))), (2, .inr (.inr (some a2))), (3, .inl a3), (4, .inl v4_15), (5, .inl v5_15), (6, .inl v6_30), (7, .inl v7_60), (8, .inl v8_60)], [], sh, gc_h sh I91 J59 A)
                    refine gv_run 2 true hD (pc' := 106) (lv' := [(8, .inl (v8_60 + 1)), (0, .inr (.inr (some 48))), (1, .inr (.inr (some a1))), (2, .inr (.inr (some a2))), (3, .inl a3), (4, .inl v4_15), (5, .inl v5_15), (6, .inl v6_30), (7, .inl v7_60)]) (st' := []) (h' := gc_h sh I91 J59 A) (C := ((True ∧ True) ∧ True)) rfl ⟨⟨trivial, trivial⟩, trivial⟩ ?_
                    refine gv_pick [1, 2, 3, 4, 5, 6, 7, 8, 0] rfl ?_
                    exact ih106 I91 J59 v7_60 (v8_60 + 1) (by omega) hI91 FI91 FJ59 KFN_I91 KFZ_I91 KWV_I91 KLO_I91 KWA_I91 KLK_I91 KTR_I91 (by omega) q90.2.2
            refine gv_run 3 true hD (pc' := 106) (lv' := [(8, .inl 0), (7, .inl s0_45), (0, .inr (.inr (some 48))), (1, .inr (.inr (some a1))), (2, .inr (.inr (some a2))), (3, .inl a3), (4, .inl v4_15), (5, .inl v5_15), (6, .inl v6_30)]) (st' := []) (h' := gc_h sh I43 J44 A) (C := (((True ∧ True) ∧ True) ∧ True)) rfl ⟨⟨⟨trivial, trivial⟩, trivial⟩, trivial⟩ ?_
            refine gv_pick [2, 3, 4, 5, 6, 7, 8, 1, 0] rfl ?_
            exact L106 _ I43 J44 s0_45 0 (Nat.lt_succ_self _) hI43 FI43 FJ44 KFN_I43 KFZ_I43 KWV_I43 KLO_I43 KWA_I43 KLK_I43 KTR_I43 (by omega) e0_45
          have L152 : ((0 ≤ a3 ∧ a3 ≤ 31) ∧ (1 ≤ v4_15 ∧ v4_15 ≤ 24) ∧ (1 ≤ v5_15 ∧ v5_15 ≤ 24) ∧ (v4_15 = I a2 4) ∧ (v5_15 ≤ v4_15) ∧ (I28 48 11 ≤ 400001) ∧ (I28 48 13 = (a1 : Int)) ∧ (I28 48 14 = (a2 : Int)) ∧ (I28 2 1 = I 2 1) ∧ (I28 a2 4 = I a2 4) ∧ (I28 a1 13 = I a1 13)) → (gc_OF (I a2 4) (I 2 1) (v5_15 + 1) 0 0 I28) → gv_X (gc_E0 ws0 tb 11 (yX0_fill, cX0_fill, 9, (some .int)) kX0_fill) (gv_Q cX0_fill (some .int) sh (fun r h' => (∃ (I' : gr_I) (J' : gr_J), h' = gc_h sh I' J' A ∧ gc_Inv ro I' ∧ (∀ q j : Nat, ((q = 48 ∧ j = 3) ∨ (q = 48 ∧ j = 6) ∨ (q = 48 ∧ j = 12) ∨ q = 51 ∨ q = 52 ∨ q = 53 ∨ q = 54 ∨ q = 55 ∨ (q = 48 ∧ j = 11) ∨ q = 58 ∨ q = 59 ∨ q = 60 ∨ (q = 48 ∧ j = 17) ∨ (q = 48 ∧ j = 18) ∨ q = 49 ∨ q = 50 ∨ (q = 48 ∧ j = 13) ∨ (q = 48 ∧ j = 14) ∨ (q = 48 ∧ j = 10) ∨ q = 56 ∨ q = 57 ∨ q = (a1 + 22)) ∨ I' q j = I q j) ∧ (∀ q j : Nat, (False) ∨ J' q j = J q j) ∧ gc_FN I' ∧ gc_FZ I' ∧ (∃ z : Int, r = some (.inl z) ∧ (-1) ≤ z ∧ z ≤ 1 ∧ (gc_WV a1 I') ∧ (I' 48 12 = 1 ∨ I' 48 11 ≤ 400000) ∧ (gc_WA (gc_lsl A I a1) I') ∧ (z = -1 ∨ I' 49 (Int.toNat (I' 48 10)) + I' 50 (Int.toNat (I' 48 10)) ≤ I' 48 3))))) (152, [(0, .inr (.inr (some 48))), (1, .inr (.inr (some a1))), (2, .inr (.inr (some a2))), (3, .inl a3), (4, .inl v4_15), (5, .inl v5_15)], [], sh, gc_h sh I28 J29 A) := by
            intro m_105 e0_105
            obtain ⟨ha3_105, hv4_15_105, hv5_15_105, e1_105, e2_105, e3_105, e4_105, e5_105, e6_105, e7_105, e8_105⟩ := m_105
            have f106 := (show 0 ≤ I28 48 3 ∧ I28 48 3 ≤ 3000 from gc_in hI28 R_48 rfl rfl)
            have f107 := (show 0 ≤ I28 48 6 ∧ I28 48 6 ≤ 9000 from gc_in hI28 R_48 rfl rfl)
            have f108 := (show 0 ≤ I28 48 11 ∧ I28 48 11 ≤ 1000000 from gc_in hI28 R_48 rfl rfl)
            have f109 := (show 0 ≤ I28 48 12 ∧ I28 48 12 ≤ 1 from gc_in hI28 R_48 rfl rfl)
            have f110 := (show 0 ≤ I28 48 17 ∧ I28 48 17 ≤ 3000 from gc_in hI28 R_48 rfl rfl)
            have f111 := (show 0 ≤ I28 48 18 ∧ I28 48 18 ≤ 24 from gc_in hI28 R_48 rfl rfl)
            have f112 := (show 0 ≤ I28 48 10 ∧ I28 48 10 ≤ 18431 from gc_in hI28 R_48 rfl rfl)
            have f113 := (show (-1) ≤ I28 48 13 ∧ I28 48 13 ≤ 999999 from gc_in hI28 R_48 rfl rfl)
            have f114 := (show (-1) ≤ I28 48 14 ∧ I28 48 14 ≤ 999999 from gc_in hI28 R_48 rfl rfl)
            have f115 := (show 0 ≤ I28 a1 13 ∧ I28 a1 13 ≤ 384 from gc_in hI28 R_a1 rfl rfl)
            have f116 := (show 0 ≤ I28 a2 4 ∧ I28 a2 4 ≤ 24 from gc_in hI28 R_a2 rfl rfl)
            have f117 := (show 0 ≤ I28 2 1 ∧ I28 2 1 ≤ 32 from gc_in hI28 R_2 rfl rfl)
            refine gv_run 2 true hD (pc' := 32) (lv' := [(5, .inl (v5_15 + 1)), (0, .inr (.inr (some 48))), (1, .inr (.inr (some a1))), (2, .inr (.inr (some a2))), (3, .inl a3), (4, .inl v4_15)]) (st' := []) (h' := gc_h sh I28 J29 A) (C := ((True ∧ True) ∧ True)) rfl ⟨⟨trivial, trivial⟩, trivial⟩ ?_
            refine gv_pick [1, 2, 3, 4, 5, 0] rfl ?_
            exact ih32 I28 J29 v4_15 (v5_15 + 1) (by omega) hI28 FI28 FJ29 KFN_I28 KFZ_I28 KWV_I28 KLO_I28 KWA_I28 KLK_I28 KTR_I28 (by omega) e0_105
          refine gv_run 4 true hD (pc' := 56) (lv' := [(0, .inr (.inr (some 48))), (1, .inr (.inr (some a1))), (2, .inr (.inr (some a2))), (3, .inl a3), (4, .inl v4_15), (5, .inl v5_15), (6, .inl v6_30)]) (st' := [.inl v4_15, .inl (v6_30 + v5_15)]) (h' := gc_h sh I28 J29 A) (C := ((((True ∧ True) ∧ True) ∧ True) ∧ True)) rfl ⟨⟨⟨⟨trivial, trivial⟩, trivial⟩, trivial⟩, trivial⟩ ?_
          refine gv_icmp_gt (t := 152) hD rfl rfl ⟨⟨by omega, by omega⟩, ⟨by omega, by omega⟩⟩ (fun c118 => ?_) (fun c118 => ?_)
          · show gv_X _ _ (152, [(0, .inr (.inr (some 48))), (1, .inr (.inr (some a1))), (2, .inr (.inr (some a2))), (3, .inl a3), (4, .inl v4_15), (5, .inl v5_15), (6, .inl v6_30)], [], sh, gc_h sh I28 J29 A)
            refine gv_pick [0, 1, 2, 3, 4, 5] rfl ?_
            exact L152 (by omega) (by by_cases h9 : I28 48 12 = 1; (· exact Or.inl h9); (· exact Or.inr (gc_FD_b (Or.resolve_left e0_30 h9) (by omega))))
          · show gv_X _ _ (59, [(0, .inr (.inr (some 48))), (1, .inr (.inr (some a1))), (2, .inr (.inr (some a2))), (3, .inl a3), (4, .inl v4_15), (5, .inl v5_15), (6, .inl v6_30)], [], sh, gc_h sh I28 J29 A)
            refine gv_run 1 true hD (pc' := 60) (lv' := [(0, .inr (.inr (some 48))), (1, .inr (.inr (some a1))), (2, .inr (.inr (some a2))), (3, .inl a3), (4, .inl v4_15), (5, .inl v5_15), (6, .inl v6_30)]) (st' := [.inr (.inr (some 48))]) (h' := gc_h sh I28 J29 A) (C := (True ∧ True)) rfl ⟨trivial, trivial⟩ ?_
            have f119 := (show 0 ≤ I28 48 12 ∧ I28 48 12 ≤ 1 from gc_in hI28 R_48 rfl rfl)
            refine gv_get hD rfl rfl S_48 ⟨by decide, B_48⟩ (gc_hI S_48 rfl) ?_
            show gv_X _ _ (63, [(0, .inr (.inr (some 48))), (1, .inr (.inr (some a1))), (2, .inr (.inr (some a2))), (3, .inl a3), (4, .inl v4_15), (5, .inl v5_15), (6, .inl v6_30)], [.inl (I28 48 12)], sh, gc_h sh I28 J29 A)
            refine gv_if_ne (t := 152) hD rfl rfl ⟨by omega, by omega⟩ (fun c120 => ?_) (fun c120 => ?_)
            · show gv_X _ _ (152, [(0, .inr (.inr (some 48))), (1, .inr (.inr (some a1))), (2, .inr (.inr (some a2))), (3, .inl a3), (4, .inl v4_15), (5, .inl v5_15), (6, .inl v6_30)], [], sh, gc_h sh I28 J29 A)
              refine gv_pick [0, 1, 2, 3, 4, 5] rfl ?_
              exact L152 (by omega) (by by_cases h9 : I28 48 12 = 1; (· exact Or.inl h9); (· exact Or.inr (gc_FD_b (Or.resolve_left e0_30 h9) (by omega))))
            · show gv_X _ _ (66, [(0, .inr (.inr (some 48))), (1, .inr (.inr (some a1))), (2, .inr (.inr (some a2))), (3, .inl a3), (4, .inl v4_15), (5, .inl v5_15), (6, .inl v6_30)], [], sh, gc_h sh I28 J29 A)
              refine gv_run 2 true hD (pc' := 69) (lv' := [(0, .inr (.inr (some 48))), (1, .inr (.inr (some a1))), (2, .inr (.inr (some a2))), (3, .inl a3), (4, .inl v4_15), (5, .inl v5_15), (6, .inl v6_30)]) (st' := [.inl 1, .inl v5_15]) (h' := gc_h sh I28 J29 A) (C := ((True ∧ True) ∧ True)) rfl ⟨⟨trivial, trivial⟩, trivial⟩ ?_
              refine gv_icmp_ne (t := 100) hD rfl rfl ⟨⟨by omega, by omega⟩, ⟨by omega, by omega⟩⟩ (fun c121 => ?_) (fun c121 => ?_)
              · show gv_X _ _ (100, [(0, .inr (.inr (some 48))), (1, .inr (.inr (some a1))), (2, .inr (.inr (some a2))), (3, .inl a3), (4, .inl v4_15), (5, .inl v5_15), (6, .inl v6_30)], [], sh, gc_h sh I28 J29 A)
                refine gv_run 1 true hD (pc' := 101) (lv' := [(0, .inr (.inr (some 48))), (1, .inr (.inr (some a1))), (2, .inr (.inr (some a2))), (3, .inl a3), (4, .inl v4_15), (5, .inl v5_15), (6, .inl v6_30)]) (st' := [.inl 0]) (h' := gc_h sh I28 J29 A) (C := (True ∧ True)) rfl ⟨trivial, trivial⟩ ?_
                exact L101 I28 J29 0 hI28 FI28 FJ29 KFN_I28 KFZ_I28 KWV_I28 KLO_I28 KWA_I28 KLK_I28 KTR_I28 (by omega) (Or.resolve_left e0_30 (by omega))
              · show gv_X _ _ (72, [(0, .inr (.inr (some 48))), (1, .inr (.inr (some a1))), (2, .inr (.inr (some a2))), (3, .inl a3), (4, .inl v4_15), (5, .inl v5_15), (6, .inl v6_30)], [], sh, gc_h sh I28 J29 A)
                refine gv_run 1 true hD (pc' := 73) (lv' := [(0, .inr (.inr (some 48))), (1, .inr (.inr (some a1))), (2, .inr (.inr (some a2))), (3, .inl a3), (4, .inl v4_15), (5, .inl v5_15), (6, .inl v6_30)]) (st' := [.inr (.inr (some a1))]) (h' := gc_h sh I28 J29 A) (C := (True ∧ True)) rfl ⟨trivial, trivial⟩ ?_
                refine gv_get hD rfl rfl S_a1 ⟨by decide, B_a1⟩ (gc_hA S_a1 rfl A_a1_15) ?_
                show gv_X _ _ (76, [(0, .inr (.inr (some 48))), (1, .inr (.inr (some a1))), (2, .inr (.inr (some a2))), (3, .inl a3), (4, .inl v4_15), (5, .inl v5_15), (6, .inl v6_30)], [.inr (.inr (some (a1 + 17)))], sh, gc_h sh I28 J29 A)
                refine gv_run 1 true hD (pc' := 77) (lv' := [(0, .inr (.inr (some 48))), (1, .inr (.inr (some a1))), (2, .inr (.inr (some a2))), (3, .inl a3), (4, .inl v4_15), (5, .inl v5_15), (6, .inl v6_30)]) (st' := [.inr (.inr (some a2)), .inr (.inr (some (a1 + 17)))]) (h' := gc_h sh I28 J29 A) (C := (True ∧ True)) rfl ⟨trivial, trivial⟩ ?_
                refine gv_get hD rfl rfl S_a2 ⟨by decide, B_a2⟩ (gc_hA S_a2 rfl A_a2_0) ?_
                show gv_X _ _ (80, [(0, .inr (.inr (some 48))), (1, .inr (.inr (some a1))), (2, .inr (.inr (some a2))), (3, .inl a3), (4, .inl v4_15), (5, .inl v5_15), (6, .inl v6_30)], [.inr (.inr (some (a2 + 1))), .inr (.inr (some (a1 + 17)))], sh, gc_h sh I28 J29 A)
                refine gv_run 1 true hD (pc' := 81) (lv' := [(0, .inr (.inr (some 48))), (1, .inr (.inr (some a1))), (2, .inr (.inr (some a2))), (3, .inl a3), (4, .inl v4_15), (5, .inl v5_15), (6, .inl v6_30)]) (st' := [.inr (.inr (some a2)), .inr (.inr (some (a2 + 1))), .inr (.inr (some (a1 + 17)))]) (h' := gc_h sh I28 J29 A) (C := (True ∧ True)) rfl ⟨trivial, trivial⟩ ?_
                refine gv_get hD rfl rfl S_a2 ⟨by decide, B_a2⟩ (gc_hA S_a2 rfl A_a2_2) ?_
                show gv_X _ _ (84, [(0, .inr (.inr (some 48))), (1, .inr (.inr (some a1))), (2, .inr (.inr (some a2))), (3, .inl a3), (4, .inl v4_15), (5, .inl v5_15), (6, .inl v6_30)], [.inr (.inr (some (a2 + 2))), .inr (.inr (some (a2 + 1))), .inr (.inr (some (a1 + 17)))], sh, gc_h sh I28 J29 A)
                refine gv_run 1 true hD (pc' := 86) (lv' := [(0, .inr (.inr (some 48))), (1, .inr (.inr (some a1))), (2, .inr (.inr (some a2))), (3, .inl a3), (4, .inl v4_15), (5, .inl v5_15), (6, .inl v6_30)]) (st' := [.inl v6_30, .inr (.inr (some (a2 + 2))), .inr (.inr (some (a2 + 1))), .inr (.inr (some (a1 + 17)))]) (h' := gc_h sh I28 J29 A) (C := (True ∧ True)) rfl ⟨trivial, trivial⟩ ?_
                have f122 := (show 0 ≤ I28 (a2 + 2) (Int.toNat v6_30) ∧ I28 (a2 + 2) (Int.toNat v6_30) ≤ 1000 from gc_in hI28 R_a2_2 rfl rfl)
                refine gv_iald hD rfl S_a2_2 rfl ⟨by decide, B_a2_2⟩ ⟨by omega, by omega⟩ (gc_iI S_a2_2 rfl) ?_
                show gv_X _ _ (87, [(0, .inr (.inr (some 48))), (1, .inr (.inr (some a1))), (2, .inr (.inr (some a2))), (3, .inl a3), (4, .inl v4_15), (5, .inl v5_15), (6, .inl v6_30)], [.inl (I28 (a2 + 2) (Int.toNat v6_30)), .inr (.inr (some (a2 + 1))), .inr (.inr (some (a1 + 17)))], sh, gc_h sh I28 J29 A)
                refine gv_run 1 true hD (pc' := 88) (lv' := [(0, .inr (.inr (some 48))), (1, .inr (.inr (some a1))), (2, .inr (.inr (some a2))), (3, .inl a3), (4, .inl v4_15), (5, .inl v5_15), (6, .inl v6_30)]) (st' := [.inr (.inr (some a2)), .inl (I28 (a2 + 2) (Int.toNat v6_30)), .inr (.inr (some (a2 + 1))), .inr (.inr (some (a1 + 17)))]) (h' := gc_h sh I28 J29 A) (C := (True ∧ True)) rfl ⟨trivial, trivial⟩ ?_
                refine gv_get hD rfl rfl S_a2 ⟨by decide, B_a2⟩ (gc_hA S_a2 rfl A_a2_3) ?_
                show gv_X _ _ (91, [(0, .inr (.inr (some 48))), (1, .inr (.inr (some a1))), (2, .inr (.inr (some a2))), (3, .inl a3), (4, .inl v4_15), (5, .inl v5_15), (6, .inl v6_30)], [.inr (.inr (some (a2 + 3))), .inl (I28 (a2 + 2) (Int.toNat v6_30)), .inr (.inr (some (a2 + 1))), .inr (.inr (some (a1 + 17)))], sh, gc_h sh I28 J29 A)
                refine gv_run 1 true hD (pc' := 93) (lv' := [(0, .inr (.inr (some 48))), (1, .inr (.inr (some a1))), (2, .inr (.inr (some a2))), (3, .inl a3), (4, .inl v4_15), (5, .inl v5_15), (6, .inl v6_30)]) (st' := [.inl v6_30, .inr (.inr (some (a2 + 3))), .inl (I28 (a2 + 2) (Int.toNat v6_30)), .inr (.inr (some (a2 + 1))), .inr (.inr (some (a1 + 17)))]) (h' := gc_h sh I28 J29 A) (C := (True ∧ True)) rfl ⟨trivial, trivial⟩ ?_
                have f123 := (show 0 ≤ I28 (a2 + 3) (Int.toNat v6_30) ∧ I28 (a2 + 3) (Int.toNat v6_30) ≤ 24 from gc_in hI28 R_a2_3 rfl rfl)
                refine gv_iald hD rfl S_a2_3 rfl ⟨by decide, B_a2_3⟩ ⟨by omega, by omega⟩ (gc_iI S_a2_3 rfl) ?_
                show gv_X _ _ (94, [(0, .inr (.inr (some 48))), (1, .inr (.inr (some a1))), (2, .inr (.inr (some a2))), (3, .inl a3), (4, .inl v4_15), (5, .inl v5_15), (6, .inl v6_30)], [.inl (I28 (a2 + 3) (Int.toNat v6_30)), .inl (I28 (a2 + 2) (Int.toNat v6_30)), .inr (.inr (some (a2 + 1))), .inr (.inr (some (a1 + 17)))], sh, gc_h sh I28 J29 A)
                have t124 := (gc_SP_fr x1 ((FI28 a2 4).resolve_left (fun h => h.elim (fun h => absurd h.2 (by decide)) (fun h => h.elim (fun h => absurd h.2 (by decide)) (fun h => h.elim (fun h => absurd h.2 (by decide)) (fun h => h.elim (fun h => absurd h N_a2__51) (fun h => h.elim (fun h => absurd h N_a2__52) (fun h => h.elim (fun h => absurd h N_a2__53) (fun h => h.elim (fun h => absurd h N_a2__54) (fun h => h.elim (fun h => absurd h N_a2__55) (fun h => h.elim (fun h => absurd h.2 (by decide)) (fun h => h.elim (fun h => absurd h N_a2__58) (fun h => h.elim (fun h => absurd h N_a2__59) (fun h => h.elim (fun h => absurd h N_a2__60) (fun h => h.elim (fun h => absurd h.2 (by decide)) (fun h => h.elim (fun h => absurd h.2 (by decide)) (fun h => h.elim (fun h => absurd h N_a2__49) (fun h => h.elim (fun h => absurd h N_a2__50) (fun h => h.elim (fun h => absurd h.2 (by decide)) (fun h => h.elim (fun h => absurd h.2 (by decide)) (fun h => h.elim (fun h => absurd h.2 (by decide)) (fun h => h.elim (fun h => absurd h N_a2__56) (fun h => h.elim (fun h => absurd h N_a2__57) (fun h => absurd h N_a2__a1_22))))))))))))))))))))))) (fun k => (FI28 (a2 + 2) k).resolve_left (fun h => h.elim (fun h => absurd h.1 N_a2_2__48) (fun h => h.elim (fun h => absurd h.1 N_a2_2__48) (fun h => h.elim (fun h => absurd h.1 N_a2_2__48) (fun h => h.elim (fun h => absurd h N_a2_2__51) (fun h => h.elim (fun h => absurd h N_a2_2__52) (fun h => h.elim (fun h => absurd h N_a2_2__53) (fun h => h.elim (fun h => absurd h N_a2_2__54) (fun h => h.elim (fun h => absurd h N_a2_2__55) (fun h => h.elim (fun h => absurd h.1 N_a2_2__48) (fun h => h.elim (fun h => absurd h N_a2_2__58) (fun h => h.elim (fun h => absurd h N_a2_2__59) (fun h => h.elim (fun h => absurd h N_a2_2__60) (fun h => h.elim (fun h => absurd h.1 N_a2_2__48) (fun h => h.elim (fun h => absurd h.1 N_a2_2__48) (fun h => h.elim (fun h => absurd h N_a2_2__49) (fun h => h.elim (fun h => absurd h N_a2_2__50) (fun h => h.elim (fun h => absurd h.1 N_a2_2__48) (fun h => h.elim (fun h => absurd h.1 N_a2_2__48) (fun h => h.elim (fun h => absurd h.1 N_a2_2__48) (fun h => h.elim (fun h => absurd h N_a2_2__56) (fun h => h.elim (fun h => absurd h N_a2_2__57) (fun h => absurd h N_a2_2__a1_22))))))))))))))))))))))) (fun k => (FI28 (a2 + 3) k).resolve_left (fun h => h.elim (fun h => absurd h.1 N_a2_3__48) (fun h => h.elim (fun h => absurd h.1 N_a2_3__48) (fun h => h.elim (fun h => absurd h.1 N_a2_3__48) (fun h => h.elim (fun h => absurd h N_a2_3__51) (fun h => h.elim (fun h => absurd h N_a2_3__52) (fun h => h.elim (fun h => absurd h N_a2_3__53) (fun h => h.elim (fun h => absurd h N_a2_3__54) (fun h => h.elim (fun h => absurd h N_a2_3__55) (fun h => h.elim (fun h => absurd h.1 N_a2_3__48) (fun h => h.elim (fun h => absurd h N_a2_3__58) (fun h => h.elim (fun h => absurd h N_a2_3__59) (fun h => h.elim (fun h => absurd h N_a2_3__60) (fun h => h.elim (fun h => absurd h.1 N_a2_3__48) (fun h => h.elim (fun h => absurd h.1 N_a2_3__48) (fun h => h.elim (fun h => absurd h N_a2_3__49) (fun h => h.elim (fun h => absurd h N_a2_3__50) (fun h => h.elim (fun h => absurd h.1 N_a2_3__48) (fun h => h.elim (fun h => absurd h.1 N_a2_3__48) (fun h => h.elim (fun h => absurd h.1 N_a2_3__48) (fun h => h.elim (fun h => absurd h N_a2_3__56) (fun h => h.elim (fun h => absurd h N_a2_3__57) (fun h => absurd h N_a2_3__a1_22)))))))))))))))))))))))) (Int.toNat v6_30) (by omega)
                obtain ⟨r125, h125, E125, P125⟩ := d_X2_findSame (ws0 := ws0) (tb := tb) hws htb sh ro I28 J29 A hI28 (a1 + 17) 1000 (a2 + 1) ((I28 (a2 + 2) (Int.toNat v6_30))) ((I28 (a2 + 3) (Int.toNat v6_30))) h_a1_17 S_a2_1 R_a2_1 B_a2_1 (by decide)  ⟨by omega, by omega⟩ ⟨by omega, by omega⟩ (by omega) 
                obtain ⟨I126, J127, rfl, hI126, g125, k125, ⟨z125, rfl, q125⟩⟩ := P125
                have FI126 := gc_frc (W := fun q j => (q = 48 ∧ j = 3) ∨ (q = 48 ∧ j = 6) ∨ (q = 48 ∧ j = 12) ∨ q = 51 ∨ q = 52 ∨ q = 53 ∨ q = 54 ∨ q = 55 ∨ (q = 48 ∧ j = 11) ∨ q = 58 ∨ q = 59 ∨ q = 60 ∨ (q = 48 ∧ j = 17) ∨ (q = 48 ∧ j = 18) ∨ q = 49 ∨ q = 50 ∨ (q = 48 ∧ j = 13) ∨ (q = 48 ∧ j = 14) ∨ (q = 48 ∧ j = 10) ∨ q = 56 ∨ q = 57 ∨ q = (a1 + 22)) (V := fun q j => q = (a1 + 22)) FI28 (fun q j h => (Or.inr (Or.inr (Or.inr (Or.inr (Or.inr (Or.inr (Or.inr (Or.inr (Or.inr (Or.inr (Or.inr (Or.inr (Or.inr (Or.inr (Or.inr (Or.inr (Or.inr (Or.inr (Or.inr (Or.inr (Or.inr h)))))))))))))))))))))) g125
                have t128 := (g125 48 3).resolve_left (fun h => absurd h N_48__a1_22)
                have t129 := (g125 48 6).resolve_left (fun h => absurd h N_48__a1_22)
                have t130 := (g125 48 11).resolve_left (fun h => absurd h N_48__a1_22)
                have t131 := (g125 48 12).resolve_left (fun h => absurd h N_48__a1_22)
                have t132 := (g125 48 17).resolve_left (fun h => absurd h N_48__a1_22)
                have t133 := (g125 48 18).resolve_left (fun h => absurd h N_48__a1_22)
                have t134 := (g125 48 10).resolve_left (fun h => absurd h N_48__a1_22)
                have t135 := (g125 48 13).resolve_left (fun h => absurd h N_48__a1_22)
                have t136 := (g125 48 14).resolve_left (fun h => absurd h N_48__a1_22)
                have t137 := (g125 a1 13).resolve_left (fun h => absurd h N_a1__a1_22)
                have t138 := (g125 a2 4).resolve_left (fun h => absurd h N_a2__a1_22)
                have t139 := (g125 2 1).resolve_left (fun h => absurd h N_2__a1_22)
                obtain rfl : J29 = J127 := funext fun q => funext fun j => ((k125 q j).resolve_left id).symm
                have KFN_I126 := gc_FN_fr KFN_I28 (fun k => (g125 49 k).resolve_left (fun h => absurd h N_49__a1_22)) (fun k => (g125 50 k).resolve_left (fun h => absurd h N_50__a1_22))
                have KFZ_I126 := gc_FZ_fr KFZ_I28 ((g125 2 1).resolve_left (fun h => absurd h N_2__a1_22)) (fun k => (g125 49 k).resolve_left (fun h => absurd h N_49__a1_22)) (fun k => (g125 50 k).resolve_left (fun h => absurd h N_50__a1_22))
                have KWV_I126 := gc_WV_fr KWV_I28 ((g125 48 6).resolve_left (fun h => absurd h N_48__a1_22)) ((g125 a1 13).resolve_left (fun h => absurd h N_a1__a1_22)) (fun k => (g125 54 k).resolve_left (fun h => absurd h N_54__a1_22))
                have KLO_I126 := gc_LO_fr KLO_I28 ((g125 2 1).resolve_left (fun h => absurd h N_2__a1_22)) ((g125 a1 13).resolve_left (fun h => absurd h N_a1__a1_22)) (fun k => (g125 56 k).resolve_left (fun h => absurd h N_56__a1_22)) (fun k => (g125 57 k).resolve_left (fun h => absurd h N_57__a1_22))
                have KWA_I126 := gc_WA_fr KWA_I28 ((g125 48 6).resolve_left (fun h => absurd h N_48__a1_22)) (Int.le_of_eq ((g125 48 3).resolve_left (fun h => absurd h N_48__a1_22)).symm) (fun k => (g125 53 k).resolve_left (fun h => absurd h N_53__a1_22)) (fun k => (g125 54 k).resolve_left (fun h => absurd h N_54__a1_22)) (fun k => (g125 55 k).resolve_left (fun h => absurd h N_55__a1_22))
                have KLK_I126 := gc_LK_fr KLK_I28 ((g125 2 1).resolve_left (fun h => absurd h N_2__a1_22)) (fun k => (g125 56 k).resolve_left (fun h => absurd h N_56__a1_22)) (fun k => (g125 57 k).resolve_left (fun h => absurd h N_57__a1_22))
                have KTR_I126 := gc_TR_fr KTR_I28 ((g125 48 11).resolve_left (fun h => absurd h N_48__a1_22)) ((g125 48 12).resolve_left (fun h => absurd h N_48__a1_22))
                refine gv_callV hD rfl (As := [.inr (.inr (some (a2 + 1))), .inl (I28 (a2 + 2) (Int.toNat v6_30)), .inl (I28 (a2 + 3) (Int.toNat v6_30))]) (st := []) rfl B_a1_17 S_a1_17 rfl (gc_lV0 hws rfl) (Nat.le_of_ble_eq_true rfl) (gz_Ev_mono (d := 2) (by decide) E125) ?_
                show gv_X _ _ (97, [(0, .inr (.inr (some 48))), (1, .inr (.inr (some a1))), (2, .inr (.inr (some a2))), (3, .inl a3), (4, .inl v4_15), (5, .inl v5_15), (6, .inl v6_30)], [.inl z125], sh, gc_h sh I126 J29 A)
                refine gv_run 1 true hD (pc' := 101) (lv' := [(0, .inr (.inr (some 48))), (1, .inr (.inr (some a1))), (2, .inr (.inr (some a2))), (3, .inl a3), (4, .inl v4_15), (5, .inl v5_15), (6, .inl v6_30)]) (st' := [.inl z125]) (h' := gc_h sh I126 J29 A) (C := (True ∧ True)) rfl ⟨trivial, trivial⟩ ?_
                exact L101 I126 J29 z125 hI126 FI126 FJ29 KFN_I126 KFZ_I126 KWV_I126 KLO_I126 KWA_I126 KLK_I126 KTR_I126 (by omega) (gc_FD_fr (Or.resolve_left e0_30 (by omega)) (by omega) (fun k => (g125 49 k).resolve_left (by omega)) (fun k => (g125 50 k).resolve_left (by omega)))
      have L158 : ((0 ≤ a3 ∧ a3 ≤ 31) ∧ (1 ≤ v4_15 ∧ v4_15 ≤ 24) ∧ (v4_15 = I a2 4) ∧ (I13 48 11 ≤ 400001) ∧ (I13 48 13 = (a1 : Int)) ∧ (I13 48 14 = (a2 : Int)) ∧ (I13 2 1 = I 2 1) ∧ (I13 a2 4 = I a2 4) ∧ (I13 a1 13 = I a1 13)) → (gc_OF (I a2 4) (I 2 1) (I a2 4 + 1) 0 0 I13) → gv_X (gc_E0 ws0 tb 11 (yX0_fill, cX0_fill, 9, (some .int)) kX0_fill) (gv_Q cX0_fill (some .int) sh (fun r h' => (∃ (I' : gr_I) (J' : gr_J), h' = gc_h sh I' J' A ∧ gc_Inv ro I' ∧ (∀ q j : Nat, ((q = 48 ∧ j = 3) ∨ (q = 48 ∧ j = 6) ∨ (q = 48 ∧ j = 12) ∨ q = 51 ∨ q = 52 ∨ q = 53 ∨ q = 54 ∨ q = 55 ∨ (q = 48 ∧ j = 11) ∨ q = 58 ∨ q = 59 ∨ q = 60 ∨ (q = 48 ∧ j = 17) ∨ (q = 48 ∧ j = 18) ∨ q = 49 ∨ q = 50 ∨ (q = 48 ∧ j = 13) ∨ (q = 48 ∧ j = 14) ∨ (q = 48 ∧ j = 10) ∨ q = 56 ∨ q = 57 ∨ q = (a1 + 22)) ∨ I' q j = I q j) ∧ (∀ q j : Nat, (False) ∨ J' q j = J q j) ∧ gc_FN I' ∧ gc_FZ I' ∧ (∃ z : Int, r = some (.inl z) ∧ (-1) ≤ z ∧ z ≤ 1 ∧ (gc_WV a1 I') ∧ (I' 48 12 = 1 ∨ I' 48 11 ≤ 400000) ∧ (gc_WA (gc_lsl A I a1) I') ∧ (z = -1 ∨ I' 49 (Int.toNat (I' 48 10)) + I' 50 (Int.toNat (I' 48 10)) ≤ I' 48 3))))) (158, [(0, .inr (.inr (some 48))), (3, .inl a3), (4, .inl v4_15)], [], sh, gc_h sh I13 J14 A) := by
        intro m_140 e0_140
        obtain ⟨ha3_140, hv4_15_140, e1_140, e2_140, e3_140, e4_140, e5_140, e6_140, e7_140⟩ := m_140
        have f141 := (show 0 ≤ I13 48 3 ∧ I13 48 3 ≤ 3000 from gc_in hI13 R_48 rfl rfl)
        have f142 := (show 0 ≤ I13 48 6 ∧ I13 48 6 ≤ 9000 from gc_in hI13 R_48 rfl rfl)
        have f143 := (show 0 ≤ I13 48 11 ∧ I13 48 11 ≤ 1000000 from gc_in hI13 R_48 rfl rfl)
        have f144 := (show 0 ≤ I13 48 12 ∧ I13 48 12 ≤ 1 from gc_in hI13 R_48 rfl rfl)
        have f145 := (show 0 ≤ I13 48 17 ∧ I13 48 17 ≤ 3000 from gc_in hI13 R_48 rfl rfl)
        have f146 := (show 0 ≤ I13 48 18 ∧ I13 48 18 ≤ 24 from gc_in hI13 R_48 rfl rfl)
        have f147 := (show 0 ≤ I13 48 10 ∧ I13 48 10 ≤ 18431 from gc_in hI13 R_48 rfl rfl)
        have f148 := (show (-1) ≤ I13 48 13 ∧ I13 48 13 ≤ 999999 from gc_in hI13 R_48 rfl rfl)
        have f149 := (show (-1) ≤ I13 48 14 ∧ I13 48 14 ≤ 999999 from gc_in hI13 R_48 rfl rfl)
        have f150 := (show 0 ≤ I13 a1 13 ∧ I13 a1 13 ≤ 384 from gc_in hI13 R_a1 rfl rfl)
        have f151 := (show 0 ≤ I13 a2 4 ∧ I13 a2 4 ≤ 24 from gc_in hI13 R_a2 rfl rfl)
        have f152 := (show 0 ≤ I13 2 1 ∧ I13 2 1 ≤ 32 from gc_in hI13 R_2 rfl rfl)
        have L199 : ∀ (I153 : gr_I) (J154 : gr_J) (s0_155 : Int), gc_Inv ro I153 → (∀ q j : Nat, ((q = 48 ∧ j = 3) ∨ (q = 48 ∧ j = 6) ∨ (q = 48 ∧ j = 12) ∨ q = 51 ∨ q = 52 ∨ q = 53 ∨ q = 54 ∨ q = 55 ∨ (q = 48 ∧ j = 11) ∨ q = 58 ∨ q = 59 ∨ q = 60 ∨ (q = 48 ∧ j = 17) ∨ (q = 48 ∧ j = 18) ∨ q = 49 ∨ q = 50 ∨ (q = 48 ∧ j = 13) ∨ (q = 48 ∧ j = 14) ∨ (q = 48 ∧ j = 10) ∨ q = 56 ∨ q = 57 ∨ q = (a1 + 22)) ∨ I153 q j = I q j) → (∀ q j : Nat, (False) ∨ J154 q j = J q j) → gc_FN I153 → gc_FZ I153 → gc_WV a1 I153 → gc_LO a1 I153 → gc_WA (gc_lsl A I a1) I153 → gc_LK (gc_lk A I a1) I153 → gc_TR I153 → ((0 ≤ s0_155 ∧ s0_155 ≤ 1) ∧ (I153 48 11 ≤ 400001) ∧ (I153 48 13 = (a1 : Int)) ∧ (I153 48 14 = (a2 : Int)) ∧ (I153 2 1 = I 2 1) ∧ (I153 a2 4 = I a2 4) ∧ (I153 a1 13 = I a1 13)) → (I153 49 (Int.toNat (I153 48 10)) + I153 50 (Int.toNat (I153 48 10)) ≤ I153 48 3) → gv_X (gc_E0 ws0 tb 11 (yX0_fill, cX0_fill, 9, (some .int)) kX0_fill) (gv_Q cX0_fill (some .int) sh (fun r h' => (∃ (I' : gr_I) (J' : gr_J), h' = gc_h sh I' J' A ∧ gc_Inv ro I' ∧ (∀ q j : Nat, ((q = 48 ∧ j = 3) ∨ (q = 48 ∧ j = 6) ∨ (q = 48 ∧ j = 12) ∨ q = 51 ∨ q = 52 ∨ q = 53 ∨ q = 54 ∨ q = 55 ∨ (q = 48 ∧ j = 11) ∨ q = 58 ∨ q = 59 ∨ q = 60 ∨ (q = 48 ∧ j = 17) ∨ (q = 48 ∧ j = 18) ∨ q = 49 ∨ q = 50 ∨ (q = 48 ∧ j = 13) ∨ (q = 48 ∧ j = 14) ∨ (q = 48 ∧ j = 10) ∨ q = 56 ∨ q = 57 ∨ q = (a1 + 22)) ∨ I' q j = I q j) ∧ (∀ q j : Nat, (False) ∨ J' q j = J q j) ∧ gc_FN I' ∧ gc_FZ I' ∧ (∃ z : Int, r = some (.inl z) ∧ (-1) ≤ z ∧ z ≤ 1 ∧ (gc_WV a1 I') ∧ (I' 48 12 = 1 ∨ I' 48 11 ≤ 400000) ∧ (gc_WA (gc_lsl A I a1) I') ∧ (z = -1 ∨ I' 49 (Int.toNat (I' 48 10)) + I' 50 (Int.toNat (I' 48 10)) ≤ I' 48 3))))) (199, [], [.inl s0_155], sh, gc_h sh I153 J154 A) := by
          intro I153 J154 s0_155 hI153 FI153 FJ154 KFN_I153 KFZ_I153 KWV_I153 KLO_I153 KWA_I153 KLK_I153 KTR_I153 m_155 e0_155
          clear ha3_140 hv4_15_140 e1_140 e2_140 e3_140 e4_140 e5_140 e6_140 e7_140 f141 f142 f143 f144 f145 f146 f147 f148 f149 f150 f151 f152 ha3_15 hv4_15 hv5_15 e1_15 e2_15 e3_15 e4_15 e5_15 e6_15 e7_15 e8_15 f16 f17 f18 f19 f20 f21 f22 f23 f24 f25 f26 f27
          obtain ⟨hs0_155, e1_155, e2_155, e3_155, e4_155, e5_155, e6_155⟩ := m_155
          have f156 := (show 0 ≤ I153 48 3 ∧ I153 48 3 ≤ 3000 from gc_in hI153 R_48 rfl rfl)
          have f157 := (show 0 ≤ I153 48 6 ∧ I153 48 6 ≤ 9000 from gc_in hI153 R_48 rfl rfl)
          have f158 := (show 0 ≤ I153 48 11 ∧ I153 48 11 ≤ 1000000 from gc_in hI153 R_48 rfl rfl)
          have f159 := (show 0 ≤ I153 48 12 ∧ I153 48 12 ≤ 1 from gc_in hI153 R_48 rfl rfl)
          have f160 := (show 0 ≤ I153 48 17 ∧ I153 48 17 ≤ 3000 from gc_in hI153 R_48 rfl rfl)
          have f161 := (show 0 ≤ I153 48 18 ∧ I153 48 18 ≤ 24 from gc_in hI153 R_48 rfl rfl)
          have f162 := (show 0 ≤ I153 48 10 ∧ I153 48 10 ≤ 18431 from gc_in hI153 R_48 rfl rfl)
          have f163 := (show (-1) ≤ I153 48 13 ∧ I153 48 13 ≤ 999999 from gc_in hI153 R_48 rfl rfl)
          have f164 := (show (-1) ≤ I153 48 14 ∧ I153 48 14 ≤ 999999 from gc_in hI153 R_48 rfl rfl)
          have f165 := (show 0 ≤ I153 a1 13 ∧ I153 a1 13 ≤ 384 from gc_in hI153 R_a1 rfl rfl)
          have f166 := (show 0 ≤ I153 a2 4 ∧ I153 a2 4 ≤ 24 from gc_in hI153 R_a2 rfl rfl)
          have f167 := (show 0 ≤ I153 2 1 ∧ I153 2 1 ≤ 32 from gc_in hI153 R_2 rfl rfl)
          exact gv_iret hD rfl ⟨I153, J154, rfl, hI153, FI153, FJ154, KFN_I153, KFZ_I153, ⟨_, rfl, by omega, by omega, KWV_I153, KTR_I153, KWA_I153, (Or.inr e0_155)⟩⟩
        refine gv_run 1 true hD (pc' := 159) (lv' := [(0, .inr (.inr (some 48))), (3, .inl a3), (4, .inl v4_15)]) (st' := [.inr (.inr (some 48))]) (h' := gc_h sh I13 J14 A) (C := (True ∧ True)) rfl ⟨trivial, trivial⟩ ?_
        have f168 := (show 0 ≤ I13 48 12 ∧ I13 48 12 ≤ 1 from gc_in hI13 R_48 rfl rfl)
        refine gv_get hD rfl rfl S_48 ⟨by decide, B_48⟩ (gc_hI S_48 rfl) ?_
        show gv_X _ _ (162, [(0, .inr (.inr (some 48))), (3, .inl a3), (4, .inl v4_15)], [.inl (I13 48 12)], sh, gc_h sh I13 J14 A)
        refine gv_if_eq (t := 171) hD rfl rfl ⟨by omega, by omega⟩ (fun c169 => ?_) (fun c169 => ?_)
        · show gv_X _ _ (171, [(0, .inr (.inr (some 48))), (3, .inl a3), (4, .inl v4_15)], [], sh, gc_h sh I13 J14 A)
          refine gv_run 4 true hD (pc' := 176) (lv' := [(0, .inr (.inr (some 48))), (3, .inl a3), (4, .inl v4_15)]) (st' := [.inl a3, .inl v4_15, .inl 0, .inr (.inr (some 48))]) (h' := gc_h sh I13 J14 A) (C := ((((True ∧ True) ∧ True) ∧ True) ∧ True)) rfl ⟨⟨⟨⟨trivial, trivial⟩, trivial⟩, trivial⟩, trivial⟩ ?_
          obtain ⟨r170, h170, E170, P170⟩ := d_X0_spanAt (ws0 := ws0) (tb := tb) hws htb sh ro I13 J14 A hI13  0 v4_15 a3 hb   ⟨by omega, by omega⟩ ⟨by omega, by omega⟩ ⟨by omega, by omega⟩  
          obtain ⟨rfl, ⟨z170, rfl, q170⟩⟩ := P170
          refine gv_callS hD rfl (As := [.inl 0, .inl v4_15, .inl a3]) (st := [.inr (.inr (some 48))]) rfl (gc_lS0 hws rfl) (Nat.le_of_ble_eq_true rfl) (gz_Ev_mono (d := 1) (by decide) E170) ?_
          show gv_X _ _ (179, [(0, .inr (.inr (some 48))), (3, .inl a3), (4, .inl v4_15)], [.inl z170, .inr (.inr (some 48))], sh, gc_h sh I13 J14 A)
          refine gv_put hD rfl rfl S_48 ⟨by decide, B_48⟩ rfl trivial ?_
          refine gc_st (k := 10) hI13 S_48 rfl R_48 (lo := 0) (hi := 18431) rfl rfl (by omega) (by omega) (fun I171 hI171 q172 p172 => ?_)
          have FI171 := gc_frs (W := fun q j => (q = 48 ∧ j = 3) ∨ (q = 48 ∧ j = 6) ∨ (q = 48 ∧ j = 12) ∨ q = 51 ∨ q = 52 ∨ q = 53 ∨ q = 54 ∨ q = 55 ∨ (q = 48 ∧ j = 11) ∨ q = 58 ∨ q = 59 ∨ q = 60 ∨ (q = 48 ∧ j = 17) ∨ (q = 48 ∧ j = 18) ∨ q = 49 ∨ q = 50 ∨ (q = 48 ∧ j = 13) ∨ (q = 48 ∧ j = 14) ∨ (q = 48 ∧ j = 10) ∨ q = 56 ∨ q = 57 ∨ q = (a1 + 22)) FI13 (Or.inr (Or.inr (Or.inr (Or.inr (Or.inr (Or.inr (Or.inr (Or.inr (Or.inr (Or.inr (Or.inr (Or.inr (Or.inr (Or.inr (Or.inr (Or.inr (Or.inr (Or.inr (Or.inl ⟨rfl, rfl⟩))))))))))))))))))) p172
          have t173 := p172 48 3 (fun h => absurd h.2 (by decide))
          have t174 := p172 48 6 (fun h => absurd h.2 (by decide))
          have t175 := p172 48 11 (fun h => absurd h.2 (by decide))
          have t176 := p172 48 12 (fun h => absurd h.2 (by decide))
          have t177 := p172 48 17 (fun h => absurd h.2 (by decide))
          have t178 := p172 48 18 (fun h => absurd h.2 (by decide))
          have t179 := p172 48 13 (fun h => absurd h.2 (by decide))
          have t180 := p172 48 14 (fun h => absurd h.2 (by decide))
          have t181 := p172 a1 13 (fun h => absurd h.2 (by decide))
          have t182 := p172 a2 4 (fun h => absurd h.2 (by decide))
          have t183 := p172 2 1 (fun h => absurd h.2 (by decide))
          have f184 := (show 0 ≤ I171 48 10 ∧ I171 48 10 ≤ 18431 from gc_in hI171 R_48 rfl rfl)
          have KFN_I171 := gc_FN_fr KFN_I13 (fun k => p172 49 k (fun h => absurd h.1 (by decide))) (fun k => p172 50 k (fun h => absurd h.1 (by decide)))
          have KFZ_I171 := gc_FZ_fr KFZ_I13 (p172 2 1 (fun h => absurd h.2 (by decide))) (fun k => p172 49 k (fun h => absurd h.1 (by decide))) (fun k => p172 50 k (fun h => absurd h.1 (by decide)))
          have KWV_I171 := gc_WV_fr KWV_I13 (p172 48 6 (fun h => absurd h.2 (by decide))) (p172 a1 13 (fun h => absurd h.2 (by decide))) (fun k => p172 54 k (fun h => absurd h.1 (by decide)))
          have KLO_I171 := gc_LO_fr KLO_I13 (p172 2 1 (fun h => absurd h.2 (by decide))) (p172 a1 13 (fun h => absurd h.2 (by decide))) (fun k => p172 56 k (fun h => absurd h.1 (by decide))) (fun k => p172 57 k (fun h => absurd h.1 (by decide)))
          have KWA_I171 := gc_WA_fr KWA_I13 (p172 48 6 (fun h => absurd h.2 (by decide))) (Int.le_of_eq (p172 48 3 (fun h => absurd h.2 (by decide))).symm) (fun k => p172 53 k (fun h => absurd h.1 (by decide))) (fun k => p172 54 k (fun h => absurd h.1 (by decide))) (fun k => p172 55 k (fun h => absurd h.1 (by decide)))
          have KLK_I171 := gc_LK_fr KLK_I13 (p172 2 1 (fun h => absurd h.2 (by decide))) (fun k => p172 56 k (fun h => absurd h.1 (by decide))) (fun k => p172 57 k (fun h => absurd h.1 (by decide)))
          have KTR_I171 := gc_TR_fr KTR_I13 (p172 48 11 (fun h => absurd h.2 (by decide))) (p172 48 12 (fun h => absurd h.2 (by decide)))
          show gv_X _ _ (182, [(0, .inr (.inr (some 48))), (3, .inl a3), (4, .inl v4_15)], [], sh, gc_h sh I171 J14 A)
          refine gv_run 1 true hD (pc' := 183) (lv' := [(0, .inr (.inr (some 48))), (3, .inl a3), (4, .inl v4_15)]) (st' := [.inr (.inr (some 48))]) (h' := gc_h sh I171 J14 A) (C := (True ∧ True)) rfl ⟨trivial, trivial⟩ ?_
          refine gv_get hD rfl rfl S_48 ⟨by decide, B_48⟩ (gc_hA S_48 rfl A_48_2) ?_
          show gv_X _ _ (186, [(0, .inr (.inr (some 48))), (3, .inl a3), (4, .inl v4_15)], [.inr (.inr (some 50))], sh, gc_h sh I171 J14 A)
          refine gv_run 1 true hD (pc' := 187) (lv' := [(0, .inr (.inr (some 48))), (3, .inl a3), (4, .inl v4_15)]) (st' := [.inr (.inr (some 48)), .inr (.inr (some 50))]) (h' := gc_h sh I171 J14 A) (C := (True ∧ True)) rfl ⟨trivial, trivial⟩ ?_
          have f185 := (show 0 ≤ I171 48 10 ∧ I171 48 10 ≤ 18431 from gc_in hI171 R_48 rfl rfl)
          refine gv_get hD rfl rfl S_48 ⟨by decide, B_48⟩ (gc_hI S_48 rfl) ?_
          show gv_X _ _ (190, [(0, .inr (.inr (some 48))), (3, .inl a3), (4, .inl v4_15)], [.inl (I171 48 10), .inr (.inr (some 50))], sh, gc_h sh I171 J14 A)
          have f186 := (show 0 ≤ I171 50 (Int.toNat (I171 48 10)) ∧ I171 50 (Int.toNat (I171 48 10)) ≤ 3000 from gc_in hI171 R_50 rfl rfl)
          refine gv_iald hD rfl S_50 rfl ⟨by decide, B_50⟩ ⟨by omega, by omega⟩ (gc_iI S_50 rfl) ?_
          show gv_X _ _ (191, [(0, .inr (.inr (some 48))), (3, .inl a3), (4, .inl v4_15)], [.inl (I171 50 (Int.toNat (I171 48 10)))], sh, gc_h sh I171 J14 A)
          refine gv_if_le (t := 198) hD rfl rfl ⟨by omega, by omega⟩ (fun c187 => ?_) (fun c187 => ?_)
          · show gv_X _ _ (198, [(0, .inr (.inr (some 48))), (3, .inl a3), (4, .inl v4_15)], [], sh, gc_h sh I171 J14 A)
            refine gv_run 1 true hD (pc' := 199) (lv' := [(0, .inr (.inr (some 48))), (3, .inl a3), (4, .inl v4_15)]) (st' := [.inl 0]) (h' := gc_h sh I171 J14 A) (C := (True ∧ True)) rfl ⟨trivial, trivial⟩ ?_
            refine gv_pick [] rfl ?_
            exact L199 I171 J14 0 hI171 FI171 FJ14 KFN_I171 KFZ_I171 KWV_I171 KLO_I171 KWA_I171 KLK_I171 KTR_I171 (by omega) (by have h9 := (Or.resolve_left e0_140 (by omega)) 0 (I a2 4) a3 (by omega) (by omega) (by omega) (by omega) (by omega) (by omega); rw [show I171 48 10 = (0 * 24 + I a2 4 - 1) * 32 + a3 from by omega, p172 49 _ (fun h => absurd h.1 (by decide)), p172 50 _ (fun h => absurd h.1 (by decide)), p172 48 3 (fun h => absurd h.2 (by decide))]; exact h9)
          · show gv_X _ _ (194, [(0, .inr (.inr (some 48))), (3, .inl a3), (4, .inl v4_15)], [], sh, gc_h sh I171 J14 A)
            refine gv_run 2 true hD (pc' := 199) (lv' := [(0, .inr (.inr (some 48))), (3, .inl a3), (4, .inl v4_15)]) (st' := [.inl 1]) (h' := gc_h sh I171 J14 A) (C := ((True ∧ True) ∧ True)) rfl ⟨⟨trivial, trivial⟩, trivial⟩ ?_
            refine gv_pick [] rfl ?_
            exact L199 I171 J14 1 hI171 FI171 FJ14 KFN_I171 KFZ_I171 KWV_I171 KLO_I171 KWA_I171 KLK_I171 KTR_I171 (by omega) (by have h9 := (Or.resolve_left e0_140 (by omega)) 0 (I a2 4) a3 (by omega) (by omega) (by omega) (by omega) (by omega) (by omega); rw [show I171 48 10 = (0 * 24 + I a2 4 - 1) * 32 + a3 from by omega, p172 49 _ (fun h => absurd h.1 (by decide)), p172 50 _ (fun h => absurd h.1 (by decide)), p172 48 3 (fun h => absurd h.2 (by decide))]; exact h9)
        · show gv_X _ _ (165, [(0, .inr (.inr (some 48))), (3, .inl a3), (4, .inl v4_15)], [], sh, gc_h sh I13 J14 A)
          refine gv_run 1 true hD (pc' := 166) (lv' := [(0, .inr (.inr (some 48))), (3, .inl a3), (4, .inl v4_15)]) (st' := [.inr (.inr (some 48))]) (h' := gc_h sh I13 J14 A) (C := (True ∧ True)) rfl ⟨trivial, trivial⟩ ?_
          obtain ⟨r188, h188, E188, P188⟩ := d_X0_forget (ws0 := ws0) (tb := tb) hws htb sh ro I13 J14 A hI13   hb     
          obtain ⟨I189, J190, rfl, hI189, g188, k188, ⟨rfl, q188⟩⟩ := P188
          have FI189 := gc_frc (W := fun q j => (q = 48 ∧ j = 3) ∨ (q = 48 ∧ j = 6) ∨ (q = 48 ∧ j = 12) ∨ q = 51 ∨ q = 52 ∨ q = 53 ∨ q = 54 ∨ q = 55 ∨ (q = 48 ∧ j = 11) ∨ q = 58 ∨ q = 59 ∨ q = 60 ∨ (q = 48 ∧ j = 17) ∨ (q = 48 ∧ j = 18) ∨ q = 49 ∨ q = 50 ∨ (q = 48 ∧ j = 13) ∨ (q = 48 ∧ j = 14) ∨ (q = 48 ∧ j = 10) ∨ q = 56 ∨ q = 57 ∨ q = (a1 + 22)) (V := fun q j => (q = 48 ∧ j = 3) ∨ (q = 48 ∧ j = 6)) FI13 (fun q j h => (h.elim (fun h => (Or.inl h)) (fun h => (Or.inr (Or.inl h))))) g188
          have t191 := (g188 48 11).resolve_left (fun h => h.elim (fun h => absurd h.2 (by decide)) (fun h => absurd h.2 (by decide)))
          have t192 := (g188 48 12).resolve_left (fun h => h.elim (fun h => absurd h.2 (by decide)) (fun h => absurd h.2 (by decide)))
          have t193 := (g188 48 17).resolve_left (fun h => h.elim (fun h => absurd h.2 (by decide)) (fun h => absurd h.2 (by decide)))
          have t194 := (g188 48 18).resolve_left (fun h => h.elim (fun h => absurd h.2 (by decide)) (fun h => absurd h.2 (by decide)))
          have t195 := (g188 48 10).resolve_left (fun h => h.elim (fun h => absurd h.2 (by decide)) (fun h => absurd h.2 (by decide)))
          have t196 := (g188 48 13).resolve_left (fun h => h.elim (fun h => absurd h.2 (by decide)) (fun h => absurd h.2 (by decide)))
          have t197 := (g188 48 14).resolve_left (fun h => h.elim (fun h => absurd h.2 (by decide)) (fun h => absurd h.2 (by decide)))
          have t198 := (g188 a1 13).resolve_left (fun h => h.elim (fun h => absurd h.2 (by decide)) (fun h => absurd h.2 (by decide)))
          have t199 := (g188 a2 4).resolve_left (fun h => h.elim (fun h => absurd h.2 (by decide)) (fun h => absurd h.2 (by decide)))
          have t200 := (g188 2 1).resolve_left (fun h => h.elim (fun h => absurd h.2 (by decide)) (fun h => absurd h.2 (by decide)))
          have f201 := (show 0 ≤ I189 48 3 ∧ I189 48 3 ≤ 3000 from gc_in hI189 R_48 rfl rfl)
          have f202 := (show 0 ≤ I189 48 6 ∧ I189 48 6 ≤ 9000 from gc_in hI189 R_48 rfl rfl)
          obtain rfl : J14 = J190 := funext fun q => funext fun j => ((k188 q j).resolve_left id).symm
          have KFN_I189 := gc_FN_fr KFN_I13 (fun k => (g188 49 k).resolve_left (fun h => h.elim (fun h => absurd h.1 (by decide)) (fun h => absurd h.1 (by decide)))) (fun k => (g188 50 k).resolve_left (fun h => h.elim (fun h => absurd h.1 (by decide)) (fun h => absurd h.1 (by decide))))
          have KFZ_I189 := gc_FZ_fr KFZ_I13 ((g188 2 1).resolve_left (fun h => h.elim (fun h => absurd h.2 (by decide)) (fun h => absurd h.2 (by decide)))) (fun k => (g188 49 k).resolve_left (fun h => h.elim (fun h => absurd h.1 (by decide)) (fun h => absurd h.1 (by decide)))) (fun k => (g188 50 k).resolve_left (fun h => h.elim (fun h => absurd h.1 (by decide)) (fun h => absurd h.1 (by decide))))
          have KLO_I189 := gc_LO_fr KLO_I13 ((g188 2 1).resolve_left (fun h => h.elim (fun h => absurd h.2 (by decide)) (fun h => absurd h.2 (by decide)))) ((g188 a1 13).resolve_left (fun h => h.elim (fun h => absurd h.2 (by decide)) (fun h => absurd h.2 (by decide)))) (fun k => (g188 56 k).resolve_left (fun h => h.elim (fun h => absurd h.1 (by decide)) (fun h => absurd h.1 (by decide)))) (fun k => (g188 57 k).resolve_left (fun h => h.elim (fun h => absurd h.1 (by decide)) (fun h => absurd h.1 (by decide))))
          have KLK_I189 := gc_LK_fr KLK_I13 ((g188 2 1).resolve_left (fun h => h.elim (fun h => absurd h.2 (by decide)) (fun h => absurd h.2 (by decide)))) (fun k => (g188 56 k).resolve_left (fun h => h.elim (fun h => absurd h.1 (by decide)) (fun h => absurd h.1 (by decide)))) (fun k => (g188 57 k).resolve_left (fun h => h.elim (fun h => absurd h.1 (by decide)) (fun h => absurd h.1 (by decide))))
          have KTR_I189 := gc_TR_fr KTR_I13 ((g188 48 11).resolve_left (fun h => h.elim (fun h => absurd h.2 (by decide)) (fun h => absurd h.2 (by decide)))) ((g188 48 12).resolve_left (fun h => h.elim (fun h => absurd h.2 (by decide)) (fun h => absurd h.2 (by decide))))
          refine gv_callV hD rfl (As := []) (st := []) rfl B_48 S_48 rfl (gc_lV0 hws rfl) (Nat.le_of_ble_eq_true rfl) (gz_Ev_mono (d := 1) (by decide) E188) ?_
          show gv_X _ _ (169, [(0, .inr (.inr (some 48))), (3, .inl a3), (4, .inl v4_15)], [], sh, gc_h sh I189 J14 A)
          refine gv_run 1 true hD (pc' := 170) (lv' := [(0, .inr (.inr (some 48))), (3, .inl a3), (4, .inl v4_15)]) (st' := [.inl (-1)]) (h' := gc_h sh I189 J14 A) (C := (True ∧ True)) rfl ⟨trivial, trivial⟩ ?_
          exact gv_iret hD rfl ⟨I189, J14, rfl, hI189, FI189, FJ14, KFN_I189, KFZ_I189, ⟨_, rfl, by omega, by omega, (gc_WV_0 (by omega)), KTR_I189, (gc_WA_0 (by omega)), (Or.inl (by omega))⟩⟩
      refine gv_run 2 true hD (pc' := 36) (lv' := [(0, .inr (.inr (some 48))), (1, .inr (.inr (some a1))), (2, .inr (.inr (some a2))), (3, .inl a3), (4, .inl v4_15), (5, .inl v5_15)]) (st' := [.inl v4_15, .inl v5_15]) (h' := gc_h sh I13 J14 A) (C := ((True ∧ True) ∧ True)) rfl ⟨⟨trivial, trivial⟩, trivial⟩ ?_
      refine gv_icmp_gt (t := 158) hD rfl rfl ⟨⟨by omega, by omega⟩, ⟨by omega, by omega⟩⟩ (fun c203 => ?_) (fun c203 => ?_)
      · show gv_X _ _ (158, [(0, .inr (.inr (some 48))), (1, .inr (.inr (some a1))), (2, .inr (.inr (some a2))), (3, .inl a3), (4, .inl v4_15), (5, .inl v5_15)], [], sh, gc_h sh I13 J14 A)
        refine gv_pick [0, 3, 4] rfl ?_
        exact L158 (by omega) (by by_cases h9 : I13 48 12 = 1; (· exact Or.inl h9); (· exact Or.inr (fun a l k h1 h2 h3 h4 h5 h6 => (Or.resolve_left e0_15 h9) a l k h1 h2 h3 h4 h5 (by omega))))
      · show gv_X _ _ (39, [(0, .inr (.inr (some 48))), (1, .inr (.inr (some a1))), (2, .inr (.inr (some a2))), (3, .inl a3), (4, .inl v4_15), (5, .inl v5_15)], [], sh, gc_h sh I13 J14 A)
        refine gv_run 1 true hD (pc' := 40) (lv' := [(0, .inr (.inr (some 48))), (1, .inr (.inr (some a1))), (2, .inr (.inr (some a2))), (3, .inl a3), (4, .inl v4_15), (5, .inl v5_15)]) (st' := [.inr (.inr (some 48))]) (h' := gc_h sh I13 J14 A) (C := (True ∧ True)) rfl ⟨trivial, trivial⟩ ?_
        have f204 := (show 0 ≤ I13 48 12 ∧ I13 48 12 ≤ 1 from gc_in hI13 R_48 rfl rfl)
        refine gv_get hD rfl rfl S_48 ⟨by decide, B_48⟩ (gc_hI S_48 rfl) ?_
        show gv_X _ _ (43, [(0, .inr (.inr (some 48))), (1, .inr (.inr (some a1))), (2, .inr (.inr (some a2))), (3, .inl a3), (4, .inl v4_15), (5, .inl v5_15)], [.inl (I13 48 12)], sh, gc_h sh I13 J14 A)
        refine gv_if_ne (t := 158) hD rfl rfl ⟨by omega, by omega⟩ (fun c205 => ?_) (fun c205 => ?_)
        · show gv_X _ _ (158, [(0, .inr (.inr (some 48))), (1, .inr (.inr (some a1))), (2, .inr (.inr (some a2))), (3, .inl a3), (4, .inl v4_15), (5, .inl v5_15)], [], sh, gc_h sh I13 J14 A)
          refine gv_pick [0, 3, 4] rfl ?_
          exact L158 (by omega) (by by_cases h9 : I13 48 12 = 1; (· exact Or.inl h9); (· exact Or.inr (fun a l k h1 h2 h3 h4 h5 h6 => (Or.resolve_left e0_15 h9) a l k h1 h2 h3 h4 h5 (by omega))))
        · show gv_X _ _ (46, [(0, .inr (.inr (some 48))), (1, .inr (.inr (some a1))), (2, .inr (.inr (some a2))), (3, .inl a3), (4, .inl v4_15), (5, .inl v5_15)], [], sh, gc_h sh I13 J14 A)
          refine gv_run 2 true hD (pc' := 49) (lv' := [(6, .inl 0), (0, .inr (.inr (some 48))), (1, .inr (.inr (some a1))), (2, .inr (.inr (some a2))), (3, .inl a3), (4, .inl v4_15), (5, .inl v5_15)]) (st' := []) (h' := gc_h sh I13 J14 A) (C := ((True ∧ True) ∧ True)) rfl ⟨⟨trivial, trivial⟩, trivial⟩ ?_
          refine gv_pick [1, 2, 3, 4, 5, 6, 0] rfl ?_
          exact L49 _ I13 J14 0 (Nat.lt_succ_self _) hI13 FI13 FJ14 KFN_I13 KFZ_I13 KWV_I13 KLO_I13 KWA_I13 KLK_I13 KTR_I13 (by omega) (Or.inr (Or.resolve_left e0_15 (by omega)))
  refine gv_run 2 true hD (pc' := 2) (lv' := [(0, .inr (.inr (some 48))), (1, .inr (.inr (some a1))), (2, .inr (.inr (some a2))), (3, .inl a3)]) (st' := [.inr (.inr (some a1)), .inr (.inr (some 48))]) (h' := gc_h sh I J A) (C := ((True ∧ True) ∧ True)) rfl ⟨⟨trivial, trivial⟩, trivial⟩ ?_
  refine gv_put hD rfl rfl S_48 ⟨by decide, B_48⟩ rfl trivial ?_
  refine gc_st5 hI S_48 rfl R_48 (lo := -1) (hi := 999999) rfl rfl (by omega) (by omega) (fun I206 hI206 q207 p207 => ?_)
  have FI206 := gc_frs (W := fun q j => (q = 48 ∧ j = 3) ∨ (q = 48 ∧ j = 6) ∨ (q = 48 ∧ j = 12) ∨ q = 51 ∨ q = 52 ∨ q = 53 ∨ q = 54 ∨ q = 55 ∨ (q = 48 ∧ j = 11) ∨ q = 58 ∨ q = 59 ∨ q = 60 ∨ (q = 48 ∧ j = 17) ∨ (q = 48 ∧ j = 18) ∨ q = 49 ∨ q = 50 ∨ (q = 48 ∧ j = 13) ∨ (q = 48 ∧ j = 14) ∨ (q = 48 ∧ j = 10) ∨ q = 56 ∨ q = 57 ∨ q = (a1 + 22)) FI (Or.inr (Or.inr (Or.inr (Or.inr (Or.inr (Or.inr (Or.inr (Or.inr (Or.inr (Or.inr (Or.inr (Or.inr (Or.inr (Or.inr (Or.inr (Or.inr (Or.inl ⟨rfl, rfl⟩))))))))))))))))) p207
  have t208 := p207 48 3 (fun h => absurd h.2 (by decide))
  have t209 := p207 48 6 (fun h => absurd h.2 (by decide))
  have t210 := p207 48 11 (fun h => absurd h.2 (by decide))
  have t211 := p207 48 12 (fun h => absurd h.2 (by decide))
  have t212 := p207 48 17 (fun h => absurd h.2 (by decide))
  have t213 := p207 48 18 (fun h => absurd h.2 (by decide))
  have t214 := p207 48 10 (fun h => absurd h.2 (by decide))
  have t215 := p207 48 14 (fun h => absurd h.2 (by decide))
  have t216 := p207 a1 13 (fun h => absurd h.1 N_a1__48)
  have t217 := p207 a2 4 (fun h => absurd h.2 (by decide))
  have t218 := p207 2 1 (fun h => absurd h.2 (by decide))
  have f219 := (show (-1) ≤ I206 48 13 ∧ I206 48 13 ≤ 999999 from gc_in hI206 R_48 rfl rfl)
  have KFN_I206 := gc_FN_fr KFN_I (fun k => p207 49 k (fun h => absurd h.1 (by decide))) (fun k => p207 50 k (fun h => absurd h.1 (by decide)))
  have KFZ_I206 := gc_FZ_fr KFZ_I (p207 2 1 (fun h => absurd h.2 (by decide))) (fun k => p207 49 k (fun h => absurd h.1 (by decide))) (fun k => p207 50 k (fun h => absurd h.1 (by decide)))
  show gv_X _ _ (5, [(0, .inr (.inr (some 48))), (1, .inr (.inr (some a1))), (2, .inr (.inr (some a2))), (3, .inl a3)], [], sh, gc_h sh I206 J A)
  refine gv_run 2 true hD (pc' := 7) (lv' := [(0, .inr (.inr (some 48))), (1, .inr (.inr (some a1))), (2, .inr (.inr (some a2))), (3, .inl a3)]) (st' := [.inr (.inr (some a2)), .inr (.inr (some 48))]) (h' := gc_h sh I206 J A) (C := ((True ∧ True) ∧ True)) rfl ⟨⟨trivial, trivial⟩, trivial⟩ ?_
  refine gv_put hD rfl rfl S_48 ⟨by decide, B_48⟩ rfl trivial ?_
  refine gc_st5 hI206 S_48 rfl R_48 (lo := -1) (hi := 999999) rfl rfl (by omega) (by omega) (fun I220 hI220 q221 p221 => ?_)
  have FI220 := gc_frs (W := fun q j => (q = 48 ∧ j = 3) ∨ (q = 48 ∧ j = 6) ∨ (q = 48 ∧ j = 12) ∨ q = 51 ∨ q = 52 ∨ q = 53 ∨ q = 54 ∨ q = 55 ∨ (q = 48 ∧ j = 11) ∨ q = 58 ∨ q = 59 ∨ q = 60 ∨ (q = 48 ∧ j = 17) ∨ (q = 48 ∧ j = 18) ∨ q = 49 ∨ q = 50 ∨ (q = 48 ∧ j = 13) ∨ (q = 48 ∧ j = 14) ∨ (q = 48 ∧ j = 10) ∨ q = 56 ∨ q = 57 ∨ q = (a1 + 22)) FI206 (Or.inr (Or.inr (Or.inr (Or.inr (Or.inr (Or.inr (Or.inr (Or.inr (Or.inr (Or.inr (Or.inr (Or.inr (Or.inr (Or.inr (Or.inr (Or.inr (Or.inr (Or.inl ⟨rfl, rfl⟩)))))))))))))))))) p221
  have t222 := p221 48 3 (fun h => absurd h.2 (by decide))
  have t223 := p221 48 6 (fun h => absurd h.2 (by decide))
  have t224 := p221 48 11 (fun h => absurd h.2 (by decide))
  have t225 := p221 48 12 (fun h => absurd h.2 (by decide))
  have t226 := p221 48 17 (fun h => absurd h.2 (by decide))
  have t227 := p221 48 18 (fun h => absurd h.2 (by decide))
  have t228 := p221 48 10 (fun h => absurd h.2 (by decide))
  have t229 := p221 48 13 (fun h => absurd h.2 (by decide))
  have t230 := p221 a1 13 (fun h => absurd h.2 (by decide))
  have t231 := p221 a2 4 (fun h => absurd h.2 (by decide))
  have t232 := p221 2 1 (fun h => absurd h.2 (by decide))
  have f233 := (show (-1) ≤ I220 48 14 ∧ I220 48 14 ≤ 999999 from gc_in hI220 R_48 rfl rfl)
  have KFN_I220 := gc_FN_fr KFN_I206 (fun k => p221 49 k (fun h => absurd h.1 (by decide))) (fun k => p221 50 k (fun h => absurd h.1 (by decide)))
  have KFZ_I220 := gc_FZ_fr KFZ_I206 (p221 2 1 (fun h => absurd h.2 (by decide))) (fun k => p221 49 k (fun h => absurd h.1 (by decide))) (fun k => p221 50 k (fun h => absurd h.1 (by decide)))
  show gv_X _ _ (10, [(0, .inr (.inr (some 48))), (1, .inr (.inr (some a1))), (2, .inr (.inr (some a2))), (3, .inl a3)], [], sh, gc_h sh I220 J A)
  refine gv_run 2 true hD (pc' := 12) (lv' := [(0, .inr (.inr (some 48))), (1, .inr (.inr (some a1))), (2, .inr (.inr (some a2))), (3, .inl a3)]) (st' := [.inl 0, .inr (.inr (some 48))]) (h' := gc_h sh I220 J A) (C := ((True ∧ True) ∧ True)) rfl ⟨⟨trivial, trivial⟩, trivial⟩ ?_
  refine gv_put hD rfl rfl S_48 ⟨by decide, B_48⟩ rfl (by omega) ?_
  refine gc_st (k := 12) hI220 S_48 rfl R_48 (lo := 0) (hi := 1) rfl rfl (by omega) (by omega) (fun I234 hI234 q235 p235 => ?_)
  have FI234 := gc_frs (W := fun q j => (q = 48 ∧ j = 3) ∨ (q = 48 ∧ j = 6) ∨ (q = 48 ∧ j = 12) ∨ q = 51 ∨ q = 52 ∨ q = 53 ∨ q = 54 ∨ q = 55 ∨ (q = 48 ∧ j = 11) ∨ q = 58 ∨ q = 59 ∨ q = 60 ∨ (q = 48 ∧ j = 17) ∨ (q = 48 ∧ j = 18) ∨ q = 49 ∨ q = 50 ∨ (q = 48 ∧ j = 13) ∨ (q = 48 ∧ j = 14) ∨ (q = 48 ∧ j = 10) ∨ q = 56 ∨ q = 57 ∨ q = (a1 + 22)) FI220 (Or.inr (Or.inr (Or.inl ⟨rfl, rfl⟩))) p235
  have t236 := p235 48 3 (fun h => absurd h.2 (by decide))
  have t237 := p235 48 6 (fun h => absurd h.2 (by decide))
  have t238 := p235 48 11 (fun h => absurd h.2 (by decide))
  have t239 := p235 48 17 (fun h => absurd h.2 (by decide))
  have t240 := p235 48 18 (fun h => absurd h.2 (by decide))
  have t241 := p235 48 10 (fun h => absurd h.2 (by decide))
  have t242 := p235 48 13 (fun h => absurd h.2 (by decide))
  have t243 := p235 48 14 (fun h => absurd h.2 (by decide))
  have t244 := p235 a1 13 (fun h => absurd h.2 (by decide))
  have t245 := p235 a2 4 (fun h => absurd h.2 (by decide))
  have t246 := p235 2 1 (fun h => absurd h.2 (by decide))
  have f247 := (show 0 ≤ I234 48 12 ∧ I234 48 12 ≤ 1 from gc_in hI234 R_48 rfl rfl)
  have KFN_I234 := gc_FN_fr KFN_I220 (fun k => p235 49 k (fun h => absurd h.1 (by decide))) (fun k => p235 50 k (fun h => absurd h.1 (by decide)))
  have KFZ_I234 := gc_FZ_fr KFZ_I220 (p235 2 1 (fun h => absurd h.2 (by decide))) (fun k => p235 49 k (fun h => absurd h.1 (by decide))) (fun k => p235 50 k (fun h => absurd h.1 (by decide)))
  have KTR_I234 : gc_TR I234 := (by unfold gc_TR; omega)
  show gv_X _ _ (15, [(0, .inr (.inr (some 48))), (1, .inr (.inr (some a1))), (2, .inr (.inr (some a2))), (3, .inl a3)], [], sh, gc_h sh I234 J A)
  refine gv_run 1 true hD (pc' := 16) (lv' := [(0, .inr (.inr (some 48))), (1, .inr (.inr (some a1))), (2, .inr (.inr (some a2))), (3, .inl a3)]) (st' := [.inr (.inr (some 48))]) (h' := gc_h sh I234 J A) (C := (True ∧ True)) rfl ⟨trivial, trivial⟩ ?_
  obtain ⟨r248, h248, E248, P248⟩ := d_X0_forget (ws0 := ws0) (tb := tb) hws htb sh ro I234 J A hI234   hb     
  obtain ⟨I249, J250, rfl, hI249, g248, k248, ⟨rfl, q248⟩⟩ := P248
  have FI249 := gc_frc (W := fun q j => (q = 48 ∧ j = 3) ∨ (q = 48 ∧ j = 6) ∨ (q = 48 ∧ j = 12) ∨ q = 51 ∨ q = 52 ∨ q = 53 ∨ q = 54 ∨ q = 55 ∨ (q = 48 ∧ j = 11) ∨ q = 58 ∨ q = 59 ∨ q = 60 ∨ (q = 48 ∧ j = 17) ∨ (q = 48 ∧ j = 18) ∨ q = 49 ∨ q = 50 ∨ (q = 48 ∧ j = 13) ∨ (q = 48 ∧ j = 14) ∨ (q = 48 ∧ j = 10) ∨ q = 56 ∨ q = 57 ∨ q = (a1 + 22)) (V := fun q j => (q = 48 ∧ j = 3) ∨ (q = 48 ∧ j = 6)) FI234 (fun q j h => (h.elim (fun h => (Or.inl h)) (fun h => (Or.inr (Or.inl h))))) g248
  have t251 := (g248 48 11).resolve_left (fun h => h.elim (fun h => absurd h.2 (by decide)) (fun h => absurd h.2 (by decide)))
  have t252 := (g248 48 12).resolve_left (fun h => h.elim (fun h => absurd h.2 (by decide)) (fun h => absurd h.2 (by decide)))
  have t253 := (g248 48 17).resolve_left (fun h => h.elim (fun h => absurd h.2 (by decide)) (fun h => absurd h.2 (by decide)))
  have t254 := (g248 48 18).resolve_left (fun h => h.elim (fun h => absurd h.2 (by decide)) (fun h => absurd h.2 (by decide)))
  have t255 := (g248 48 10).resolve_left (fun h => h.elim (fun h => absurd h.2 (by decide)) (fun h => absurd h.2 (by decide)))
  have t256 := (g248 48 13).resolve_left (fun h => h.elim (fun h => absurd h.2 (by decide)) (fun h => absurd h.2 (by decide)))
  have t257 := (g248 48 14).resolve_left (fun h => h.elim (fun h => absurd h.2 (by decide)) (fun h => absurd h.2 (by decide)))
  have t258 := (g248 a1 13).resolve_left (fun h => h.elim (fun h => absurd h.2 (by decide)) (fun h => absurd h.2 (by decide)))
  have t259 := (g248 a2 4).resolve_left (fun h => h.elim (fun h => absurd h.2 (by decide)) (fun h => absurd h.2 (by decide)))
  have t260 := (g248 2 1).resolve_left (fun h => h.elim (fun h => absurd h.2 (by decide)) (fun h => absurd h.2 (by decide)))
  have f261 := (show 0 ≤ I249 48 3 ∧ I249 48 3 ≤ 3000 from gc_in hI249 R_48 rfl rfl)
  have f262 := (show 0 ≤ I249 48 6 ∧ I249 48 6 ≤ 9000 from gc_in hI249 R_48 rfl rfl)
  obtain rfl : J = J250 := funext fun q => funext fun j => ((k248 q j).resolve_left id).symm
  have KWV_I249 : gc_WV a1 I249 := gc_WV_0 (by omega)
  have KWA_I249 : gc_WA (gc_lsl A I a1) I249 := gc_WA_0 (by omega)
  have KFN_I249 := gc_FN_fr KFN_I234 (fun k => (g248 49 k).resolve_left (fun h => h.elim (fun h => absurd h.1 (by decide)) (fun h => absurd h.1 (by decide)))) (fun k => (g248 50 k).resolve_left (fun h => h.elim (fun h => absurd h.1 (by decide)) (fun h => absurd h.1 (by decide))))
  have KFZ_I249 := gc_FZ_fr KFZ_I234 ((g248 2 1).resolve_left (fun h => h.elim (fun h => absurd h.2 (by decide)) (fun h => absurd h.2 (by decide)))) (fun k => (g248 49 k).resolve_left (fun h => h.elim (fun h => absurd h.1 (by decide)) (fun h => absurd h.1 (by decide)))) (fun k => (g248 50 k).resolve_left (fun h => h.elim (fun h => absurd h.1 (by decide)) (fun h => absurd h.1 (by decide))))
  have KTR_I249 := gc_TR_fr KTR_I234 ((g248 48 11).resolve_left (fun h => h.elim (fun h => absurd h.2 (by decide)) (fun h => absurd h.2 (by decide)))) ((g248 48 12).resolve_left (fun h => h.elim (fun h => absurd h.2 (by decide)) (fun h => absurd h.2 (by decide))))
  refine gv_callV hD rfl (As := []) (st := []) rfl B_48 S_48 rfl (gc_lV0 hws rfl) (Nat.le_of_ble_eq_true rfl) (gz_Ev_mono (d := 1) (by decide) E248) ?_
  show gv_X _ _ (19, [(0, .inr (.inr (some 48))), (1, .inr (.inr (some a1))), (2, .inr (.inr (some a2))), (3, .inl a3)], [], sh, gc_h sh I249 J A)
  refine gv_run 1 true hD (pc' := 20) (lv' := [(0, .inr (.inr (some 48))), (1, .inr (.inr (some a1))), (2, .inr (.inr (some a2))), (3, .inl a3)]) (st' := [.inr (.inr (some 48))]) (h' := gc_h sh I249 J A) (C := (True ∧ True)) rfl ⟨trivial, trivial⟩ ?_
  obtain ⟨r263, h263, E263, P263⟩ := d_X0_orderLins (ws0 := ws0) (tb := tb) hws htb sh ro I249 J A hI249  a1  hb  h_a1 G_a1   (gc_Ls_fr x0 ((FI249 a1 13).resolve_left (by omega)) (fun q hL hq d k hd => (FI249 (q + d) k).resolve_left (by have := gc_dj_LT hL h_a1; omega))) (by omega) 
  obtain ⟨I264, J265, rfl, hI264, g263, k263, ⟨rfl, q263⟩⟩ := P263
  have FI264 := gc_frc (W := fun q j => (q = 48 ∧ j = 3) ∨ (q = 48 ∧ j = 6) ∨ (q = 48 ∧ j = 12) ∨ q = 51 ∨ q = 52 ∨ q = 53 ∨ q = 54 ∨ q = 55 ∨ (q = 48 ∧ j = 11) ∨ q = 58 ∨ q = 59 ∨ q = 60 ∨ (q = 48 ∧ j = 17) ∨ (q = 48 ∧ j = 18) ∨ q = 49 ∨ q = 50 ∨ (q = 48 ∧ j = 13) ∨ (q = 48 ∧ j = 14) ∨ (q = 48 ∧ j = 10) ∨ q = 56 ∨ q = 57 ∨ q = (a1 + 22)) (V := fun q j => q = 56 ∨ q = 57) FI249 (fun q j h => (h.elim (fun h => (Or.inr (Or.inr (Or.inr (Or.inr (Or.inr (Or.inr (Or.inr (Or.inr (Or.inr (Or.inr (Or.inr (Or.inr (Or.inr (Or.inr (Or.inr (Or.inr (Or.inr (Or.inr (Or.inr (Or.inl h))))))))))))))))))))) (fun h => (Or.inr (Or.inr (Or.inr (Or.inr (Or.inr (Or.inr (Or.inr (Or.inr (Or.inr (Or.inr (Or.inr (Or.inr (Or.inr (Or.inr (Or.inr (Or.inr (Or.inr (Or.inr (Or.inr (Or.inr (Or.inl h)))))))))))))))))))))))) g263
  have t266 := (g263 48 3).resolve_left (fun h => h.elim (fun h => absurd h (by decide)) (fun h => absurd h (by decide)))
  have t267 := (g263 48 6).resolve_left (fun h => h.elim (fun h => absurd h (by decide)) (fun h => absurd h (by decide)))
  have t268 := (g263 48 11).resolve_left (fun h => h.elim (fun h => absurd h (by decide)) (fun h => absurd h (by decide)))
  have t269 := (g263 48 12).resolve_left (fun h => h.elim (fun h => absurd h (by decide)) (fun h => absurd h (by decide)))
  have t270 := (g263 48 17).resolve_left (fun h => h.elim (fun h => absurd h (by decide)) (fun h => absurd h (by decide)))
  have t271 := (g263 48 18).resolve_left (fun h => h.elim (fun h => absurd h (by decide)) (fun h => absurd h (by decide)))
  have t272 := (g263 48 10).resolve_left (fun h => h.elim (fun h => absurd h (by decide)) (fun h => absurd h (by decide)))
  have t273 := (g263 48 13).resolve_left (fun h => h.elim (fun h => absurd h (by decide)) (fun h => absurd h (by decide)))
  have t274 := (g263 48 14).resolve_left (fun h => h.elim (fun h => absurd h (by decide)) (fun h => absurd h (by decide)))
  have t275 := (g263 a1 13).resolve_left (fun h => h.elim (fun h => absurd h N_a1__56) (fun h => absurd h N_a1__57))
  have t276 := (g263 a2 4).resolve_left (fun h => h.elim (fun h => absurd h N_a2__56) (fun h => absurd h N_a2__57))
  have t277 := (g263 2 1).resolve_left (fun h => h.elim (fun h => absurd h (by decide)) (fun h => absurd h (by decide)))
  obtain rfl : J = J265 := funext fun q => funext fun j => ((k263 q j).resolve_left id).symm
  have KLO_I264 : gc_LO a1 I264 := q263.1
  have KLK_I264 : gc_LK (gc_lk A I a1) I264 := (by rw [← gc_lk_fr (A := A) (t := a1) (I := I) (I' := I249) (fun k => (((((g248 11 k).resolve_left (by omega)).trans (p235 11 k (fun h => absurd h.1 (by decide)))).trans (p221 11 k (fun h => absurd h.1 (by decide)))).trans (p207 11 k (fun h => absurd h.1 (by decide))))) (fun q => (((((g248 q 1).resolve_left (by omega)).trans (p235 q 1 (fun h => absurd h.2 (by decide)))).trans (p221 q 1 (fun h => absurd h.2 (by decide)))).trans (p207 q 1 (fun h => absurd h.2 (by decide)))))]; exact q263.2)
  have KFN_I264 := gc_FN_fr KFN_I249 (fun k => (g263 49 k).resolve_left (fun h => h.elim (fun h => absurd h (by decide)) (fun h => absurd h (by decide)))) (fun k => (g263 50 k).resolve_left (fun h => h.elim (fun h => absurd h (by decide)) (fun h => absurd h (by decide))))
  have KFZ_I264 := gc_FZ_fr KFZ_I249 ((g263 2 1).resolve_left (fun h => h.elim (fun h => absurd h (by decide)) (fun h => absurd h (by decide)))) (fun k => (g263 49 k).resolve_left (fun h => h.elim (fun h => absurd h (by decide)) (fun h => absurd h (by decide)))) (fun k => (g263 50 k).resolve_left (fun h => h.elim (fun h => absurd h (by decide)) (fun h => absurd h (by decide))))
  have KWV_I264 := gc_WV_fr KWV_I249 ((g263 48 6).resolve_left (fun h => h.elim (fun h => absurd h (by decide)) (fun h => absurd h (by decide)))) ((g263 a1 13).resolve_left (fun h => h.elim (fun h => absurd h N_a1__56) (fun h => absurd h N_a1__57))) (fun k => (g263 54 k).resolve_left (fun h => h.elim (fun h => absurd h (by decide)) (fun h => absurd h (by decide))))
  have KWA_I264 := gc_WA_fr KWA_I249 ((g263 48 6).resolve_left (fun h => h.elim (fun h => absurd h (by decide)) (fun h => absurd h (by decide)))) (Int.le_of_eq ((g263 48 3).resolve_left (fun h => h.elim (fun h => absurd h (by decide)) (fun h => absurd h (by decide)))).symm) (fun k => (g263 53 k).resolve_left (fun h => h.elim (fun h => absurd h (by decide)) (fun h => absurd h (by decide)))) (fun k => (g263 54 k).resolve_left (fun h => h.elim (fun h => absurd h (by decide)) (fun h => absurd h (by decide)))) (fun k => (g263 55 k).resolve_left (fun h => h.elim (fun h => absurd h (by decide)) (fun h => absurd h (by decide))))
  have KTR_I264 := gc_TR_fr KTR_I249 ((g263 48 11).resolve_left (fun h => h.elim (fun h => absurd h (by decide)) (fun h => absurd h (by decide)))) ((g263 48 12).resolve_left (fun h => h.elim (fun h => absurd h (by decide)) (fun h => absurd h (by decide))))
  refine gv_callV hD rfl (As := []) (st := []) rfl B_48 S_48 rfl (gc_lV0 hws rfl) (Nat.le_of_ble_eq_true rfl) (gz_Ev_mono (d := 1) (by decide) E263) ?_
  show gv_X _ _ (23, [(0, .inr (.inr (some 48))), (1, .inr (.inr (some a1))), (2, .inr (.inr (some a2))), (3, .inl a3)], [], sh, gc_h sh I264 J A)
  refine gv_run 1 true hD (pc' := 24) (lv' := [(0, .inr (.inr (some 48))), (1, .inr (.inr (some a1))), (2, .inr (.inr (some a2))), (3, .inl a3)]) (st' := [.inr (.inr (some a2))]) (h' := gc_h sh I264 J A) (C := (True ∧ True)) rfl ⟨trivial, trivial⟩ ?_
  have f278 := (show 0 ≤ I264 a2 4 ∧ I264 a2 4 ≤ 24 from gc_in hI264 R_a2 rfl rfl)
  refine gv_get hD rfl rfl S_a2 ⟨by decide, B_a2⟩ (gc_hI S_a2 rfl) ?_
  show gv_X _ _ (27, [(0, .inr (.inr (some 48))), (1, .inr (.inr (some a1))), (2, .inr (.inr (some a2))), (3, .inl a3)], [.inl (I264 a2 4)], sh, gc_h sh I264 J A)
  refine gv_run 3 true hD (pc' := 32) (lv' := [(5, .inl 1), (4, .inl (I264 a2 4)), (0, .inr (.inr (some 48))), (1, .inr (.inr (some a1))), (2, .inr (.inr (some a2))), (3, .inl a3)]) (st' := []) (h' := gc_h sh I264 J A) (C := (((True ∧ True) ∧ True) ∧ True)) rfl ⟨⟨⟨trivial, trivial⟩, trivial⟩, trivial⟩ ?_
  refine gv_pick [2, 3, 4, 5, 1, 0] rfl ?_
  exact L32 _ I264 J (I264 a2 4) 1 (Nat.lt_succ_self _) hI264 FI264 FJ KFN_I264 KFZ_I264 KWV_I264 KLO_I264 KWA_I264 KLK_I264 KTR_I264 (by omega) (Or.inr gc_FD_0)
