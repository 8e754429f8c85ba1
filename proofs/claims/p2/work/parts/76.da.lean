set_option maxHeartbeats 4000000 in
set_option maxRecDepth 100000 in
theorem d_X0_lay {ws0 : List Cond} {tb : String → gz_T} (hws : gc_Ws ws0) (htb : gc_tbs tb) (sh : gz_Sh) (ro : Nat → Nat) (A : gc_A) (t : Nat) (x : Nat) (a1 : Nat) (hb : gc_Base sh ro A) (h_a1 : gc_isLin sh ro A a1) (G_a1 : 144 ≤ a1) (h_t : gc_isTongue sh ro A t) (G_t : 144 ≤ t) (h_x : gc_isText sh ro A x) (G_x : x + 3 < 39 ∨ (100 ≤ x ∧ x < 140)) : ∀ (nr : Nat) (I : gr_I) (J : gr_J) (hI : gc_Inv ro I) (a2 : Int) (a3 : Int) (a4 : Int) (ha2 : 0 ≤ a2 ∧ a2 ≤ 6) (ha3 : 0 ≤ a3 ∧ a3 ≤ 24) (ha4 : 0 ≤ a4 ∧ a4 ≤ 4) (x0 : a2 ≤ I a1 4) (x1 : a4 = gc_ac (I (a1 + 1)) (Int.toNat a2)) (x2 : gc_lv a1 I) (x3 : I a1 0 < I t 13) (x4 : a3 + I a1 4 - a2 ≤ I 48 18) (x5 : I 48 18 ≤ I x 4) (x6 : gc_SP x I) (x7 : I 48 12 = 1 ∨ I 48 11 ≤ 400000) (x8 : I 48 17 ≤ I 48 3) (x9 : I 48 11 ≤ 400001) (x10 : I 48 13 = (t : Int)) (x11 : I 48 14 = (x : Int)) (KWV_I : gc_WV t I) (KFN_I : gc_FN I) (_ : (7 - a2).toNat < nr), ∃ r h', gz_Ev ws0 tb (2 + nr) (yX0_lay, cX0_lay, 11, none) [.inr (.inr (some 48)), .inr (.inr (some a1)), .inl a2, .inl a3, .inl a4] sh (gc_h sh I J A) r sh h' 0 0 ∧ (∃ (I' : gr_I) (J' : gr_J), h' = gc_h sh I' J' A ∧ gc_Inv ro I' ∧ (∀ q j : Nat, ((q = 48 ∧ j = 3) ∨ (q = 48 ∧ j = 6) ∨ (q = 48 ∧ j = 12) ∨ q = 51 ∨ q = 52 ∨ q = 53 ∨ q = 54 ∨ q = 55 ∨ (q = 48 ∧ j = 11) ∨ q = 58 ∨ q = 59 ∨ q = 60) ∨ I' q j = I q j) ∧ (∀ q j : Nat, (False) ∨ J' q j = J q j) ∧ gc_WV t I' ∧ gc_FN I' ∧ r = none ∧ (I' 48 12 = 1 ∨ I' 48 11 ≤ 400000) ∧ (I' 48 11 ≤ 400001) ∧ (I 48 3 ≤ I' 48 3)) := by
  intro nr
  induction nr with
  | zero => intro I J hI a2 a3 a4 ha2 ha3 ha4 x0 x1 x2 x3 x4 x5 x6 x7 x8 x9 x10 x11 KWV_I KFN_I hnr; omega
  | succ nr ihR =>
  intro I J hI a2 a3 a4 ha2 ha3 ha4 x0 x1 x2 x3 x4 x5 x6 x7 x8 x9 x10 x11 KWV_I KFN_I hnr
  have FI : ∀ q j : Nat, ((q = 48 ∧ j = 3) ∨ (q = 48 ∧ j = 6) ∨ (q = 48 ∧ j = 12) ∨ q = 51 ∨ q = 52 ∨ q = 53 ∨ q = 54 ∨ q = 55 ∨ (q = 48 ∧ j = 11) ∨ q = 58 ∨ q = 59 ∨ q = 60) ∨ I q j = I q j := fun _ _ => Or.inr rfl
  have FJ : ∀ q j : Nat, (False) ∨ J q j = J q j := fun _ _ => Or.inr rfl
  have A_1_8 : A 1 8 = some 13 := gc_bA hb rfl
  have A_48_0 : A 48 0 = some 1 := gc_bA hb rfl
  have A_48_1 : A 48 1 = some 49 := gc_bA hb rfl
  have A_48_19 : A 48 19 = some 58 := gc_bA hb rfl
  have A_48_2 : A 48 2 = some 50 := gc_bA hb rfl
  have A_48_20 : A 48 20 = some 59 := gc_bA hb rfl
  have A_48_21 : A 48 21 = some 60 := gc_bA hb rfl
  have A_48_5 : A 48 5 = some 52 := gc_bA hb rfl
  have B_1 : 1 < 1000000 := by decide
  have B_13 : 13 < 1000000 := by decide
  have B_48 : 48 < 1000000 := by decide
  have B_49 : 49 < 1000000 := by decide
  have B_50 : 50 < 1000000 := by decide
  have B_52 : 52 < 1000000 := by decide
  have B_58 : 58 < 1000000 := by decide
  have B_59 : 59 < 1000000 := by decide
  have B_60 : 60 < 1000000 := by decide
  have R_13 : ro 13 = 25 := gc_bR hb (by decide) rfl
  have R_48 : ro 48 = 49 := gc_bR hb (by decide) rfl
  have R_49 : ro 49 = 43 := gc_bR hb (by decide) rfl
  have R_50 : ro 50 = 43 := gc_bR hb (by decide) rfl
  have R_52 : ro 52 = 13 := gc_bR hb (by decide) rfl
  have R_58 : ro 58 = 44 := gc_bR hb (by decide) rfl
  have R_59 : ro 59 = 13 := gc_bR hb (by decide) rfl
  have R_60 : ro 60 = 13 := gc_bR hb (by decide) rfl
  have S_1 : sh[1]? = some (false, 8, 21) := gc_bS hb rfl
  have S_13 : sh[13]? = some (true, 1, 384) := gc_bS hb rfl
  have S_48 : sh[48]? = some (false, 0, 22) := gc_bS hb rfl
  have S_49 : sh[49]? = some (true, 1, 18432) := gc_bS hb rfl
  have S_50 : sh[50]? = some (true, 1, 18432) := gc_bS hb rfl
  have S_52 : sh[52]? = some (true, 1, 3000) := gc_bS hb rfl
  have S_58 : sh[58]? = some (true, 1, 4) := gc_bS hb rfl
  have S_59 : sh[59]? = some (true, 1, 4) := gc_bS hb rfl
  have S_60 : sh[60]? = some (true, 1, 4) := gc_bS hb rfl
  obtain ⟨S_a1, R_a1, B_a1, A_a1_5, S_a1_1, R_a1_1, B_a1_1, A_a1_6, S_a1_2, R_a1_2, B_a1_2, A_a1_7, S_a1_3, R_a1_3, B_a1_3, A_a1_9, S_a1_4, R_a1_4, B_a1_4, A_a1_10, S_a1_5, R_a1_5, B_a1_5, A_a1_11, S_a1_6, R_a1_6, B_a1_6, A_a1_13, S_a1_7, R_a1_7, B_a1_7, A_a1_15, S_a1_8, R_a1_8, B_a1_8⟩ := id h_a1
  obtain ⟨S_t, R_t, B_t, A_t_0, h_t_1, A_t_1, h_t_3, A_t_2, S_t_5, R_t_5, B_t_5, A_t_3, S_t_6, R_t_6, B_t_6, A_t_4, h_t_7, A_t_5, S_t_9, R_t_9, B_t_9, A_t_7, S_t_10, R_t_10, B_t_10, A_t_8, h_t_11, A_t_9, S_t_13, R_t_13, B_t_13, A_t_10, S_t_14, R_t_14, B_t_14, A_t_12, S_t_15, R_t_15, B_t_15, A_t_14, S_t_16, R_t_16, B_t_16, A_t_15, h_t_17⟩ := id h_t
  obtain ⟨S_t_1, R_t_1, B_t_1, A_t_1_0, S_t_1_1, R_t_1_1, B_t_1_1, Q0_t_1, Q1_t_1, Q2_t_1⟩ := id h_t_1
  obtain ⟨S_t_3, R_t_3, B_t_3, A_t_3_0, S_t_3_1, R_t_3_1, B_t_3_1, Q0_t_3, Q1_t_3, Q2_t_3⟩ := id h_t_3
  obtain ⟨S_t_7, R_t_7, B_t_7, A_t_7_0, S_t_7_1, R_t_7_1, B_t_7_1, Q0_t_7, Q1_t_7, Q2_t_7⟩ := id h_t_7
  obtain ⟨S_t_11, R_t_11, B_t_11, A_t_11_0, S_t_11_1, R_t_11_1, B_t_11_1, Q0_t_11, Q1_t_11, Q2_t_11⟩ := id h_t_11
  obtain ⟨S_t_17, R_t_17, B_t_17, A_t_17_0, S_20, R_20, B_20, A_t_17_1, S_t_17_1, R_t_17_1, B_t_17_1, A_t_17_2, S_t_17_2, R_t_17_2, B_t_17_2, A_t_17_3, S_t_17_3, R_t_17_3, B_t_17_3, A_t_17_4, S_t_17_4, R_t_17_4, B_t_17_4, A_t_17_5, S_t_17_5, R_t_17_5, B_t_17_5, S_t_17_6, R_t_17_6, B_t_17_6, S_t_17_7, R_t_17_7, B_t_17_7⟩ := id h_t_17
  obtain ⟨S_x, R_x, B_x, A_x_0, S_x_1, R_x_1, B_x_1, A_x_2, S_x_2, R_x_2, B_x_2, A_x_3, S_x_3, R_x_3, B_x_3⟩ := id h_x
  have N1 := gc_dj_LT h_a1 h_t
  have hD : gv_D (gc_E0 ws0 tb (2 + nr) (yX0_lay, cX0_lay, 11, none) kX0_lay) := gq_ok oX0_lay
  refine gc_ev0 (d := (2 + nr)) (l := kX0_lay) (Po := fun r h' => (∃ (I' : gr_I) (J' : gr_J), h' = gc_h sh I' J' A ∧ gc_Inv ro I' ∧ (∀ q j : Nat, ((q = 48 ∧ j = 3) ∨ (q = 48 ∧ j = 6) ∨ (q = 48 ∧ j = 12) ∨ q = 51 ∨ q = 52 ∨ q = 53 ∨ q = 54 ∨ q = 55 ∨ (q = 48 ∧ j = 11) ∨ q = 58 ∨ q = 59 ∨ q = 60) ∨ I' q j = I q j) ∧ (∀ q j : Nat, (False) ∨ J' q j = J q j) ∧ gc_WV t I' ∧ gc_FN I' ∧ r = none ∧ (I' 48 12 = 1 ∨ I' 48 11 ≤ 400000) ∧ (I' 48 11 ≤ 400001) ∧ (I 48 3 ≤ I' 48 3))) htb rfl (Nat.le_of_ble_eq_true rfl) ?_
  have N_t__51 : ¬ (t = 51) := by omega
  have N_t__52 : ¬ (t = 52) := by omega
  have N_t__53 : ¬ (t = 53) := by omega
  have N_t__54 : ¬ (t = 54) := by omega
  have N_t__55 : ¬ (t = 55) := by omega
  have N_t__58 : ¬ (t = 58) := by omega
  have N_t__59 : ¬ (t = 59) := by omega
  have N_t__60 : ¬ (t = 60) := by omega
  have N_x__51 : ¬ (x = 51) := by omega
  have N_x__52 : ¬ (x = 52) := by omega
  have N_x__53 : ¬ (x = 53) := by omega
  have N_x__54 : ¬ (x = 54) := by omega
  have N_x__55 : ¬ (x = 55) := by omega
  have N_x__58 : ¬ (x = 58) := by omega
  have N_x__59 : ¬ (x = 59) := by omega
  have N_x__60 : ¬ (x = 60) := by omega
  have N_a1__51 : ¬ (a1 = 51) := by omega
  have N_a1__52 : ¬ (a1 = 52) := by omega
  have N_a1__53 : ¬ (a1 = 53) := by omega
  have N_a1__54 : ¬ (a1 = 54) := by omega
  have N_a1__55 : ¬ (a1 = 55) := by omega
  have N_a1__58 : ¬ (a1 = 58) := by omega
  have N_a1__59 : ¬ (a1 = 59) := by omega
  have N_a1__60 : ¬ (a1 = 60) := by omega
  have f1 := (show 0 ≤ I 48 3 ∧ I 48 3 ≤ 3000 from gc_in hI R_48 rfl rfl)
  have f2 := (show 0 ≤ I 48 6 ∧ I 48 6 ≤ 9000 from gc_in hI R_48 rfl rfl)
  have f3 := (show 0 ≤ I 48 11 ∧ I 48 11 ≤ 1000000 from gc_in hI R_48 rfl rfl)
  have f4 := (show 0 ≤ I 48 12 ∧ I 48 12 ≤ 1 from gc_in hI R_48 rfl rfl)
  have f5 := (show 0 ≤ I 48 17 ∧ I 48 17 ≤ 3000 from gc_in hI R_48 rfl rfl)
  have f6 := (show 0 ≤ I 48 18 ∧ I 48 18 ≤ 24 from gc_in hI R_48 rfl rfl)
  have f7 := (show 0 ≤ I t 13 ∧ I t 13 ≤ 384 from gc_in hI R_t rfl rfl)
  have f8 := (show 0 ≤ I x 4 ∧ I x 4 ≤ 24 from gc_in hI R_x rfl rfl)
  have f9 := (show 0 ≤ I a1 4 ∧ I a1 4 ≤ 6 from gc_in hI R_a1 rfl rfl)
  have f10 := (show 0 ≤ I a1 0 ∧ I a1 0 ≤ 384 from gc_in hI R_a1 rfl rfl)
  have f11 := (show (-1) ≤ I 48 13 ∧ I 48 13 ≤ 999999 from gc_in hI R_48 rfl rfl)
  have f12 := (show (-1) ≤ I 48 14 ∧ I 48 14 ≤ 999999 from gc_in hI R_48 rfl rfl)
  have L41 : ∀ (I13 : gr_I) (J14 : gr_J) , gc_Inv ro I13 → (∀ q j : Nat, ((q = 48 ∧ j = 3) ∨ (q = 48 ∧ j = 6) ∨ (q = 48 ∧ j = 12) ∨ q = 51 ∨ q = 52 ∨ q = 53 ∨ q = 54 ∨ q = 55 ∨ (q = 48 ∧ j = 11) ∨ q = 58 ∨ q = 59 ∨ q = 60) ∨ I13 q j = I q j) → (∀ q j : Nat, (False) ∨ J14 q j = J q j) → gc_WV t I13 → gc_FN I13 → ((I13 48 11 ≤ 400001) ∧ (I 48 3 ≤ I13 48 3) ∧ (I13 48 12 = 1 ∨ I13 48 11 ≤ 400000) ∧ (I13 a1 4 = I a1 4) ∧ (I13 a1 0 = I a1 0) ∧ (I13 t 13 = I t 13) ∧ (I13 48 18 = I 48 18) ∧ (I13 x 4 = I x 4) ∧ (I13 48 17 = I 48 17) ∧ (I13 48 13 = (t : Int)) ∧ (I13 48 14 = (x : Int))) → gv_X (gc_E0 ws0 tb (2 + nr) (yX0_lay, cX0_lay, 11, none) kX0_lay) (gv_Q cX0_lay none sh (fun r h' => (∃ (I' : gr_I) (J' : gr_J), h' = gc_h sh I' J' A ∧ gc_Inv ro I' ∧ (∀ q j : Nat, ((q = 48 ∧ j = 3) ∨ (q = 48 ∧ j = 6) ∨ (q = 48 ∧ j = 12) ∨ q = 51 ∨ q = 52 ∨ q = 53 ∨ q = 54 ∨ q = 55 ∨ (q = 48 ∧ j = 11) ∨ q = 58 ∨ q = 59 ∨ q = 60) ∨ I' q j = I q j) ∧ (∀ q j : Nat, (False) ∨ J' q j = J q j) ∧ gc_WV t I' ∧ gc_FN I' ∧ r = none ∧ (I' 48 12 = 1 ∨ I' 48 11 ≤ 400000) ∧ (I' 48 11 ≤ 400001) ∧ (I 48 3 ≤ I' 48 3)))) (41, [], [], sh, gc_h sh I13 J14 A) := by
    intro I13 J14 hI13 FI13 FJ14 KWV_I13 KFN_I13 m_15
    obtain ⟨e0_15, e1_15, e2_15, e3_15, e4_15, e5_15, e6_15, e7_15, e8_15, e9_15, e10_15⟩ := m_15
    have f16 := (show 0 ≤ I13 48 3 ∧ I13 48 3 ≤ 3000 from gc_in hI13 R_48 rfl rfl)
    have f17 := (show 0 ≤ I13 48 6 ∧ I13 48 6 ≤ 9000 from gc_in hI13 R_48 rfl rfl)
    have f18 := (show 0 ≤ I13 48 11 ∧ I13 48 11 ≤ 1000000 from gc_in hI13 R_48 rfl rfl)
    have f19 := (show 0 ≤ I13 48 12 ∧ I13 48 12 ≤ 1 from gc_in hI13 R_48 rfl rfl)
    have f20 := (show 0 ≤ I13 48 17 ∧ I13 48 17 ≤ 3000 from gc_in hI13 R_48 rfl rfl)
    have f21 := (show 0 ≤ I13 48 18 ∧ I13 48 18 ≤ 24 from gc_in hI13 R_48 rfl rfl)
    have f22 := (show 0 ≤ I13 t 13 ∧ I13 t 13 ≤ 384 from gc_in hI13 R_t rfl rfl)
    have f23 := (show 0 ≤ I13 x 4 ∧ I13 x 4 ≤ 24 from gc_in hI13 R_x rfl rfl)
    have f24 := (show 0 ≤ I13 a1 4 ∧ I13 a1 4 ≤ 6 from gc_in hI13 R_a1 rfl rfl)
    have f25 := (show 0 ≤ I13 a1 0 ∧ I13 a1 0 ≤ 384 from gc_in hI13 R_a1 rfl rfl)
    have f26 := (show (-1) ≤ I13 48 13 ∧ I13 48 13 ≤ 999999 from gc_in hI13 R_48 rfl rfl)
    have f27 := (show (-1) ≤ I13 48 14 ∧ I13 48 14 ≤ 999999 from gc_in hI13 R_48 rfl rfl)
    exact gv_vret hD rfl ⟨I13, J14, rfl, hI13, FI13, FJ14, KWV_I13, KFN_I13, ⟨rfl, by omega⟩⟩
  have L102 : ∀ (s0_28 : Int), ((0 ≤ a2 ∧ a2 ≤ 5) ∧ (0 ≤ a3 ∧ a3 ≤ 24) ∧ (0 ≤ a4 ∧ a4 ≤ 4) ∧ (0 ≤ s0_28 ∧ s0_28 ≤ 1) ∧ (a2 < I a1 4) ∧ (I 48 11 ≤ 400001) ∧ (I 48 3 ≤ I 48 3) ∧ (I 48 12 = 1 ∨ I 48 11 ≤ 400000) ∧ (I (a1 + 1) (Int.toNat a2) < 0) ∧ (s0_28 = 0 ∨ a3 + I a1 4 - a2 ≤ I 48 18) ∧ (I a1 4 = I a1 4) ∧ (I a1 0 = I a1 0) ∧ (I t 13 = I t 13) ∧ (I 48 18 = I 48 18) ∧ (I x 4 = I x 4) ∧ (I 48 17 = I 48 17) ∧ (I 48 13 = (t : Int)) ∧ (I 48 14 = (x : Int))) → gv_X (gc_E0 ws0 tb (2 + nr) (yX0_lay, cX0_lay, 11, none) kX0_lay) (gv_Q cX0_lay none sh (fun r h' => (∃ (I' : gr_I) (J' : gr_J), h' = gc_h sh I' J' A ∧ gc_Inv ro I' ∧ (∀ q j : Nat, ((q = 48 ∧ j = 3) ∨ (q = 48 ∧ j = 6) ∨ (q = 48 ∧ j = 12) ∨ q = 51 ∨ q = 52 ∨ q = 53 ∨ q = 54 ∨ q = 55 ∨ (q = 48 ∧ j = 11) ∨ q = 58 ∨ q = 59 ∨ q = 60) ∨ I' q j = I q j) ∧ (∀ q j : Nat, (False) ∨ J' q j = J q j) ∧ gc_WV t I' ∧ gc_FN I' ∧ r = none ∧ (I' 48 12 = 1 ∨ I' 48 11 ≤ 400000) ∧ (I' 48 11 ≤ 400001) ∧ (I 48 3 ≤ I' 48 3)))) (102, [(0, .inr (.inr (some 48))), (1, .inr (.inr (some a1))), (2, .inl a2), (3, .inl a3), (4, .inl a4)], [.inl s0_28], sh, gc_h sh I J A) := by
    intro s0_28 m_28
    obtain ⟨ha2_28, ha3_28, ha4_28, hs0_28, e0_28, e1_28, e2_28, e3_28, e4_28, e5_28, e6_28, e7_28, e8_28, e9_28, e10_28, e11_28, e12_28, e13_28⟩ := m_28
    have f29 := (show 0 ≤ I 48 3 ∧ I 48 3 ≤ 3000 from gc_in hI R_48 rfl rfl)
    have f30 := (show 0 ≤ I 48 6 ∧ I 48 6 ≤ 9000 from gc_in hI R_48 rfl rfl)
    have f31 := (show 0 ≤ I 48 11 ∧ I 48 11 ≤ 1000000 from gc_in hI R_48 rfl rfl)
    have f32 := (show 0 ≤ I 48 12 ∧ I 48 12 ≤ 1 from gc_in hI R_48 rfl rfl)
    have f33 := (show 0 ≤ I 48 17 ∧ I 48 17 ≤ 3000 from gc_in hI R_48 rfl rfl)
    have f34 := (show 0 ≤ I 48 18 ∧ I 48 18 ≤ 24 from gc_in hI R_48 rfl rfl)
    have f35 := (show 0 ≤ I t 13 ∧ I t 13 ≤ 384 from gc_in hI R_t rfl rfl)
    have f36 := (show 0 ≤ I x 4 ∧ I x 4 ≤ 24 from gc_in hI R_x rfl rfl)
    have f37 := (show 0 ≤ I a1 4 ∧ I a1 4 ≤ 6 from gc_in hI R_a1 rfl rfl)
    have f38 := (show 0 ≤ I a1 0 ∧ I a1 0 ≤ 384 from gc_in hI R_a1 rfl rfl)
    have f39 := (show (-1) ≤ I 48 13 ∧ I 48 13 ≤ 999999 from gc_in hI R_48 rfl rfl)
    have f40 := (show (-1) ≤ I 48 14 ∧ I 48 14 ≤ 999999 from gc_in hI R_48 rfl rfl)
    have L142 : ∀ (I41 : gr_I) (J42 : gr_J) , gc_Inv ro I41 → (∀ q j : Nat, ((q = 48 ∧ j = 3) ∨ (q = 48 ∧ j = 6) ∨ (q = 48 ∧ j = 12) ∨ q = 51 ∨ q = 52 ∨ q = 53 ∨ q = 54 ∨ q = 55 ∨ (q = 48 ∧ j = 11) ∨ q = 58 ∨ q = 59 ∨ q = 60) ∨ I41 q j = I q j) → (∀ q j : Nat, (False) ∨ J42 q j = J q j) → gc_WV t I41 → gc_FN I41 → ((I41 48 11 ≤ 400001) ∧ (I 48 3 ≤ I41 48 3) ∧ (I41 48 12 = 1 ∨ I41 48 11 ≤ 400000) ∧ (I41 a1 4 = I a1 4) ∧ (I41 a1 0 = I a1 0) ∧ (I41 t 13 = I t 13) ∧ (I41 48 18 = I 48 18) ∧ (I41 x 4 = I x 4) ∧ (I41 48 17 = I 48 17) ∧ (I41 48 13 = (t : Int)) ∧ (I41 48 14 = (x : Int))) → gv_X (gc_E0 ws0 tb (2 + nr) (yX0_lay, cX0_lay, 11, none) kX0_lay) (gv_Q cX0_lay none sh (fun r h' => (∃ (I' : gr_I) (J' : gr_J), h' = gc_h sh I' J' A ∧ gc_Inv ro I' ∧ (∀ q j : Nat, ((q = 48 ∧ j = 3) ∨ (q = 48 ∧ j = 6) ∨ (q = 48 ∧ j = 12) ∨ q = 51 ∨ q = 52 ∨ q = 53 ∨ q = 54 ∨ q = 55 ∨ (q = 48 ∧ j = 11) ∨ q = 58 ∨ q = 59 ∨ q = 60) ∨ I' q j = I q j) ∧ (∀ q j : Nat, (False) ∨ J' q j = J q j) ∧ gc_WV t I' ∧ gc_FN I' ∧ r = none ∧ (I' 48 12 = 1 ∨ I' 48 11 ≤ 400000) ∧ (I' 48 11 ≤ 400001) ∧ (I 48 3 ≤ I' 48 3)))) (142, [], [], sh, gc_h sh I41 J42 A) := by
      intro I41 J42 hI41 FI41 FJ42 KWV_I41 KFN_I41 m_43
      clear ha2_28 ha3_28 ha4_28 hs0_28 e0_28 e1_28 e2_28 e3_28 e4_28 e5_28 e6_28 e7_28 e8_28 e9_28 e10_28 e11_28 e12_28 e13_28 f29 f30 f31 f32 f33 f34 f35 f36 f37 f38 f39 f40
      obtain ⟨e0_43, e1_43, e2_43, e3_43, e4_43, e5_43, e6_43, e7_43, e8_43, e9_43, e10_43⟩ := m_43
      have f44 := (show 0 ≤ I41 48 3 ∧ I41 48 3 ≤ 3000 from gc_in hI41 R_48 rfl rfl)
      have f45 := (show 0 ≤ I41 48 6 ∧ I41 48 6 ≤ 9000 from gc_in hI41 R_48 rfl rfl)
      have f46 := (show 0 ≤ I41 48 11 ∧ I41 48 11 ≤ 1000000 from gc_in hI41 R_48 rfl rfl)
      have f47 := (show 0 ≤ I41 48 12 ∧ I41 48 12 ≤ 1 from gc_in hI41 R_48 rfl rfl)
      have f48 := (show 0 ≤ I41 48 17 ∧ I41 48 17 ≤ 3000 from gc_in hI41 R_48 rfl rfl)
      have f49 := (show 0 ≤ I41 48 18 ∧ I41 48 18 ≤ 24 from gc_in hI41 R_48 rfl rfl)
      have f50 := (show 0 ≤ I41 t 13 ∧ I41 t 13 ≤ 384 from gc_in hI41 R_t rfl rfl)
      have f51 := (show 0 ≤ I41 x 4 ∧ I41 x 4 ≤ 24 from gc_in hI41 R_x rfl rfl)
      have f52 := (show 0 ≤ I41 a1 4 ∧ I41 a1 4 ≤ 6 from gc_in hI41 R_a1 rfl rfl)
      have f53 := (show 0 ≤ I41 a1 0 ∧ I41 a1 0 ≤ 384 from gc_in hI41 R_a1 rfl rfl)
      have f54 := (show (-1) ≤ I41 48 13 ∧ I41 48 13 ≤ 999999 from gc_in hI41 R_48 rfl rfl)
      have f55 := (show (-1) ≤ I41 48 14 ∧ I41 48 14 ≤ 999999 from gc_in hI41 R_48 rfl rfl)
      exact gv_vret hD rfl ⟨I41, J42, rfl, hI41, FI41, FJ42, KWV_I41, KFN_I41, ⟨rfl, by omega⟩⟩
    refine gv_run 2 true hD (pc' := 106) (lv' := [(6, .inl s0_28), (0, .inr (.inr (some 48))), (1, .inr (.inr (some a1))), (2, .inl a2), (3, .inl a3), (4, .inl a4)]) (st' := [.inl s0_28]) (h' := gc_h sh I J A) (C := ((True ∧ True) ∧ True)) rfl ⟨⟨trivial, trivial⟩, trivial⟩ ?_
    refine gv_if_eq (t := 142) hD rfl rfl ⟨by omega, by omega⟩ (fun c56 => ?_) (fun c56 => ?_)
    · show gv_X _ _ (142, [(6, .inl s0_28), (0, .inr (.inr (some 48))), (1, .inr (.inr (some a1))), (2, .inl a2), (3, .inl a3), (4, .inl a4)], [], sh, gc_h sh I J A)
      refine gv_pick [] rfl ?_
      exact L142 I J hI FI FJ KWV_I KFN_I (by omega)
    · show gv_X _ _ (109, [(6, .inl s0_28), (0, .inr (.inr (some 48))), (1, .inr (.inr (some a1))), (2, .inl a2), (3, .inl a3), (4, .inl a4)], [], sh, gc_h sh I J A)
      refine gv_run 3 true hD (pc' := 112) (lv' := [(6, .inl s0_28), (0, .inr (.inr (some 48))), (1, .inr (.inr (some a1))), (2, .inl a2), (3, .inl a3), (4, .inl a4)]) (st' := [.inr (.inr (some a1)), .inl a3, .inr (.inr (some 48))]) (h' := gc_h sh I J A) (C := (((True ∧ True) ∧ True) ∧ True)) rfl ⟨⟨⟨trivial, trivial⟩, trivial⟩, trivial⟩ ?_
      refine gv_get hD rfl rfl S_a1 ⟨by decide, B_a1⟩ (gc_hA S_a1 rfl A_a1_6) ?_
      show gv_X _ _ (115, [(6, .inl s0_28), (0, .inr (.inr (some 48))), (1, .inr (.inr (some a1))), (2, .inl a2), (3, .inl a3), (4, .inl a4)], [.inr (.inr (some (a1 + 2))), .inl a3, .inr (.inr (some 48))], sh, gc_h sh I J A)
      refine gv_run 1 true hD (pc' := 116) (lv' := [(6, .inl s0_28), (0, .inr (.inr (some 48))), (1, .inr (.inr (some a1))), (2, .inl a2), (3, .inl a3), (4, .inl a4)]) (st' := [.inl a2, .inr (.inr (some (a1 + 2))), .inl a3, .inr (.inr (some 48))]) (h' := gc_h sh I J A) (C := (True ∧ True)) rfl ⟨trivial, trivial⟩ ?_
      have f57 := (show 0 ≤ I (a1 + 2) (Int.toNat a2) ∧ I (a1 + 2) (Int.toNat a2) ≤ 2000 from gc_in hI R_a1_2 rfl rfl)
      refine gv_iald hD rfl S_a1_2 rfl ⟨by decide, B_a1_2⟩ ⟨by omega, by omega⟩ (gc_iI S_a1_2 rfl) ?_
      show gv_X _ _ (117, [(6, .inl s0_28), (0, .inr (.inr (some 48))), (1, .inr (.inr (some a1))), (2, .inl a2), (3, .inl a3), (4, .inl a4)], [.inl (I (a1 + 2) (Int.toNat a2)), .inl a3, .inr (.inr (some 48))], sh, gc_h sh I J A)
      refine gv_run 1 true hD (pc' := 118) (lv' := [(6, .inl s0_28), (0, .inr (.inr (some 48))), (1, .inr (.inr (some a1))), (2, .inl a2), (3, .inl a3), (4, .inl a4)]) (st' := [.inr (.inr (some a1)), .inl (I (a1 + 2) (Int.toNat a2)), .inl a3, .inr (.inr (some 48))]) (h' := gc_h sh I J A) (C := (True ∧ True)) rfl ⟨trivial, trivial⟩ ?_
      refine gv_get hD rfl rfl S_a1 ⟨by decide, B_a1⟩ (gc_hA S_a1 rfl A_a1_7) ?_
      show gv_X _ _ (121, [(6, .inl s0_28), (0, .inr (.inr (some 48))), (1, .inr (.inr (some a1))), (2, .inl a2), (3, .inl a3), (4, .inl a4)], [.inr (.inr (some (a1 + 3))), .inl (I (a1 + 2) (Int.toNat a2)), .inl a3, .inr (.inr (some 48))], sh, gc_h sh I J A)
      refine gv_run 1 true hD (pc' := 122) (lv' := [(6, .inl s0_28), (0, .inr (.inr (some 48))), (1, .inr (.inr (some a1))), (2, .inl a2), (3, .inl a3), (4, .inl a4)]) (st' := [.inl a2, .inr (.inr (some (a1 + 3))), .inl (I (a1 + 2) (Int.toNat a2)), .inl a3, .inr (.inr (some 48))]) (h' := gc_h sh I J A) (C := (True ∧ True)) rfl ⟨trivial, trivial⟩ ?_
      have f58 := (show 0 ≤ I (a1 + 3) (Int.toNat a2) ∧ I (a1 + 3) (Int.toNat a2) ≤ 24 from gc_in hI R_a1_3 rfl rfl)
      refine gv_iald hD rfl S_a1_3 rfl ⟨by decide, B_a1_3⟩ ⟨by omega, by omega⟩ (gc_iI S_a1_3 rfl) ?_
      show gv_X _ _ (123, [(6, .inl s0_28), (0, .inr (.inr (some 48))), (1, .inr (.inr (some a1))), (2, .inl a2), (3, .inl a3), (4, .inl a4)], [.inl (I (a1 + 3) (Int.toNat a2)), .inl (I (a1 + 2) (Int.toNat a2)), .inl a3, .inr (.inr (some 48))], sh, gc_h sh I J A)
      obtain ⟨r59, h59, E59, P59⟩ := d_X0_isAt (ws0 := ws0) (tb := tb) hws htb sh ro I J A hI  x a3 ((I (a1 + 2) (Int.toNat a2))) ((I (a1 + 3) (Int.toNat a2))) hb  h_x G_x  ⟨by omega, by omega⟩ ⟨by omega, by omega⟩ ⟨by omega, by omega⟩ x6 (by omega) (by omega) 
      obtain ⟨rfl, ⟨z59, rfl, q59⟩⟩ := P59
      refine gv_callV hD rfl (As := [.inl a3, .inl (I (a1 + 2) (Int.toNat a2)), .inl (I (a1 + 3) (Int.toNat a2))]) (st := []) rfl B_48 S_48 rfl (gc_lV0 hws rfl) (Nat.le_of_ble_eq_true rfl) (gz_Ev_mono (d := 1) (by omega) E59) ?_
      show gv_X _ _ (126, [(6, .inl s0_28), (0, .inr (.inr (some 48))), (1, .inr (.inr (some a1))), (2, .inl a2), (3, .inl a3), (4, .inl a4)], [.inl z59], sh, gc_h sh I J A)
      refine gv_if_eq (t := 142) hD rfl rfl ⟨by omega, by omega⟩ (fun c60 => ?_) (fun c60 => ?_)
      · show gv_X _ _ (142, [(6, .inl s0_28), (0, .inr (.inr (some 48))), (1, .inr (.inr (some a1))), (2, .inl a2), (3, .inl a3), (4, .inl a4)], [], sh, gc_h sh I J A)
        refine gv_pick [] rfl ?_
        exact L142 I J hI FI FJ KWV_I KFN_I (by omega)
      · show gv_X _ _ (129, [(6, .inl s0_28), (0, .inr (.inr (some 48))), (1, .inr (.inr (some a1))), (2, .inl a2), (3, .inl a3), (4, .inl a4)], [], sh, gc_h sh I J A)
        refine gv_run 7 true hD (pc' := 136) (lv' := [(6, .inl s0_28), (0, .inr (.inr (some 48))), (1, .inr (.inr (some a1))), (2, .inl a2), (3, .inl a3), (4, .inl a4)]) (st' := [.inl 1, .inl a3, .inl (a2 + 1), .inr (.inr (some a1)), .inr (.inr (some 48))]) (h' := gc_h sh I J A) (C := (((((((True ∧ True) ∧ True) ∧ True) ∧ True) ∧ True) ∧ True) ∧ True)) rfl ⟨⟨⟨⟨⟨⟨⟨trivial, trivial⟩, trivial⟩, trivial⟩, trivial⟩, trivial⟩, trivial⟩, trivial⟩ ?_
        refine gv_run 2 true hD (pc' := 139) (lv' := [(6, .inl s0_28), (0, .inr (.inr (some 48))), (1, .inr (.inr (some a1))), (2, .inl a2), (3, .inl a3), (4, .inl a4)]) (st' := [.inl a4, .inl (a3 + 1), .inl (a2 + 1), .inr (.inr (some a1)), .inr (.inr (some 48))]) (h' := gc_h sh I J A) (C := ((True ∧ True) ∧ True)) rfl ⟨⟨trivial, trivial⟩, trivial⟩ ?_
        obtain ⟨r61, h61, E61, P61⟩ := ihR I J hI (a2 + 1) (a3 + 1) a4 ⟨by omega, by omega⟩ ⟨by omega, by omega⟩ ⟨by omega, by omega⟩ (by omega) (by rw [show Int.toNat (a2 + 1) = Int.toNat a2 + 1 from by omega, gc_ac_nx0 (by omega)]; omega) x2 (by omega) (by omega) (by omega) x6 (by omega) (by omega) (by omega) (by omega) (by omega) KWV_I KFN_I (by omega)
        obtain ⟨I62, J63, rfl, hI62, g61, k61, KWV_I62, KFN_I62, ⟨rfl, q61⟩⟩ := P61
        have FI62 := gc_frc (W := fun q j => (q = 48 ∧ j = 3) ∨ (q = 48 ∧ j = 6) ∨ (q = 48 ∧ j = 12) ∨ q = 51 ∨ q = 52 ∨ q = 53 ∨ q = 54 ∨ q = 55 ∨ (q = 48 ∧ j = 11) ∨ q = 58 ∨ q = 59 ∨ q = 60) (V := fun q j => (q = 48 ∧ j = 3) ∨ (q = 48 ∧ j = 6) ∨ (q = 48 ∧ j = 12) ∨ q = 51 ∨ q = 52 ∨ q = 53 ∨ q = 54 ∨ q = 55 ∨ (q = 48 ∧ j = 11) ∨ q = 58 ∨ q = 59 ∨ q = 60) FI (fun q j h => (h.elim (fun h => (Or.inl h)) (fun h => (h.elim (fun h => (Or.inr (Or.inl h))) (fun h => (h.elim (fun h => (Or.inr (Or.inr (Or.inl h)))) (fun h => (h.elim (fun h => (Or.inr (Or.inr (Or.inr (Or.inl h))))) (fun h => (h.elim (fun h => (Or.inr (Or.inr (Or.inr (Or.inr (Or.inl h)))))) (fun h => (h.elim (fun h => (Or.inr (Or.inr (Or.inr (Or.inr (Or.inr (Or.inl h))))))) (fun h => (h.elim (fun h => (Or.inr (Or.inr (Or.inr (Or.inr (Or.inr (Or.inr (Or.inl h)))))))) (fun h => (h.elim (fun h => (Or.inr (Or.inr (Or.inr (Or.inr (Or.inr (Or.inr (Or.inr (Or.inl h))))))))) (fun h => (h.elim (fun h => (Or.inr (Or.inr (Or.inr (Or.inr (Or.inr (Or.inr (Or.inr (Or.inr (Or.inl h)))))))))) (fun h => (h.elim (fun h => (Or.inr (Or.inr (Or.inr (Or.inr (Or.inr (Or.inr (Or.inr (Or.inr (Or.inr (Or.inl h))))))))))) (fun h => (h.elim (fun h => (Or.inr (Or.inr (Or.inr (Or.inr (Or.inr (Or.inr (Or.inr (Or.inr (Or.inr (Or.inr (Or.inl h)))))))))))) (fun h => (Or.inr (Or.inr (Or.inr (Or.inr (Or.inr (Or.inr (Or.inr (Or.inr (Or.inr (Or.inr (Or.inr h)))))))))))))))))))))))))))))))))) g61
        have t64 := (g61 48 17).resolve_left (fun h => h.elim (fun h => absurd h.2 (by decide)) (fun h => h.elim (fun h => absurd h.2 (by decide)) (fun h => h.elim (fun h => absurd h.2 (by decide)) (fun h => h.elim (fun h => absurd h (by decide)) (fun h => h.elim (fun h => absurd h (by decide)) (fun h => h.elim (fun h => absurd h (by decide)) (fun h => h.elim (fun h => absurd h (by decide)) (fun h => h.elim (fun h => absurd h (by decide)) (fun h => h.elim (fun h => absurd h.2 (by decide)) (fun h => h.elim (fun h => absurd h (by decide)) (fun h => h.elim (fun h => absurd h (by decide)) (fun h => absurd h (by decide)))))))))))))
        have t65 := (g61 48 18).resolve_left (fun h => h.elim (fun h => absurd h.2 (by decide)) (fun h => h.elim (fun h => absurd h.2 (by decide)) (fun h => h.elim (fun h => absurd h.2 (by decide)) (fun h => h.elim (fun h => absurd h (by decide)) (fun h => h.elim (fun h => absurd h (by decide)) (fun h => h.elim (fun h => absurd h (by decide)) (fun h => h.elim (fun h => absurd h (by decide)) (fun h => h.elim (fun h => absurd h (by decide)) (fun h => h.elim (fun h => absurd h.2 (by decide)) (fun h => h.elim (fun h => absurd h (by decide)) (fun h => h.elim (fun h => absurd h (by decide)) (fun h => absurd h (by decide)))))))))))))
        have t66 := (g61 t 13).resolve_left (fun h => h.elim (fun h => absurd h.2 (by decide)) (fun h => h.elim (fun h => absurd h.2 (by decide)) (fun h => h.elim (fun h => absurd h.2 (by decide)) (fun h => h.elim (fun h => absurd h N_t__51) (fun h => h.elim (fun h => absurd h N_t__52) (fun h => h.elim (fun h => absurd h N_t__53) (fun h => h.elim (fun h => absurd h N_t__54) (fun h => h.elim (fun h => absurd h N_t__55) (fun h => h.elim (fun h => absurd h.2 (by decide)) (fun h => h.elim (fun h => absurd h N_t__58) (fun h => h.elim (fun h => absurd h N_t__59) (fun h => absurd h N_t__60))))))))))))
        have t67 := (g61 x 4).resolve_left (fun h => h.elim (fun h => absurd h.2 (by decide)) (fun h => h.elim (fun h => absurd h.2 (by decide)) (fun h => h.elim (fun h => absurd h.2 (by decide)) (fun h => h.elim (fun h => absurd h N_x__51) (fun h => h.elim (fun h => absurd h N_x__52) (fun h => h.elim (fun h => absurd h N_x__53) (fun h => h.elim (fun h => absurd h N_x__54) (fun h => h.elim (fun h => absurd h N_x__55) (fun h => h.elim (fun h => absurd h.2 (by decide)) (fun h => h.elim (fun h => absurd h N_x__58) (fun h => h.elim (fun h => absurd h N_x__59) (fun h => absurd h N_x__60))))))))))))
        have t68 := (g61 a1 4).resolve_left (fun h => h.elim (fun h => absurd h.2 (by decide)) (fun h => h.elim (fun h => absurd h.2 (by decide)) (fun h => h.elim (fun h => absurd h.2 (by decide)) (fun h => h.elim (fun h => absurd h N_a1__51) (fun h => h.elim (fun h => absurd h N_a1__52) (fun h => h.elim (fun h => absurd h N_a1__53) (fun h => h.elim (fun h => absurd h N_a1__54) (fun h => h.elim (fun h => absurd h N_a1__55) (fun h => h.elim (fun h => absurd h.2 (by decide)) (fun h => h.elim (fun h => absurd h N_a1__58) (fun h => h.elim (fun h => absurd h N_a1__59) (fun h => absurd h N_a1__60))))))))))))
        have t69 := (g61 a1 0).resolve_left (fun h => h.elim (fun h => absurd h.2 (by decide)) (fun h => h.elim (fun h => absurd h.2 (by decide)) (fun h => h.elim (fun h => absurd h.2 (by decide)) (fun h => h.elim (fun h => absurd h N_a1__51) (fun h => h.elim (fun h => absurd h N_a1__52) (fun h => h.elim (fun h => absurd h N_a1__53) (fun h => h.elim (fun h => absurd h N_a1__54) (fun h => h.elim (fun h => absurd h N_a1__55) (fun h => h.elim (fun h => absurd h.2 (by decide)) (fun h => h.elim (fun h => absurd h N_a1__58) (fun h => h.elim (fun h => absurd h N_a1__59) (fun h => absurd h N_a1__60))))))))))))
        have t70 := (g61 48 13).resolve_left (fun h => h.elim (fun h => absurd h.2 (by decide)) (fun h => h.elim (fun h => absurd h.2 (by decide)) (fun h => h.elim (fun h => absurd h.2 (by decide)) (fun h => h.elim (fun h => absurd h (by decide)) (fun h => h.elim (fun h => absurd h (by decide)) (fun h => h.elim (fun h => absurd h (by decide)) (fun h => h.elim (fun h => absurd h (by decide)) (fun h => h.elim (fun h => absurd h (by decide)) (fun h => h.elim (fun h => absurd h.2 (by decide)) (fun h => h.elim (fun h => absurd h (by decide)) (fun h => h.elim (fun h => absurd h (by decide)) (fun h => absurd h (by decide)))))))))))))
        have t71 := (g61 48 14).resolve_left (fun h => h.elim (fun h => absurd h.2 (by decide)) (fun h => h.elim (fun h => absurd h.2 (by decide)) (fun h => h.elim (fun h => absurd h.2 (by decide)) (fun h => h.elim (fun h => absurd h (by decide)) (fun h => h.elim (fun h => absurd h (by decide)) (fun h => h.elim (fun h => absurd h (by decide)) (fun h => h.elim (fun h => absurd h (by decide)) (fun h => h.elim (fun h => absurd h (by decide)) (fun h => h.elim (fun h => absurd h.2 (by decide)) (fun h => h.elim (fun h => absurd h (by decide)) (fun h => h.elim (fun h => absurd h (by decide)) (fun h => absurd h (by decide)))))))))))))
        have f72 := (show 0 ≤ I62 48 3 ∧ I62 48 3 ≤ 3000 from gc_in hI62 R_48 rfl rfl)
        have f73 := (show 0 ≤ I62 48 6 ∧ I62 48 6 ≤ 9000 from gc_in hI62 R_48 rfl rfl)
        have f74 := (show 0 ≤ I62 48 11 ∧ I62 48 11 ≤ 1000000 from gc_in hI62 R_48 rfl rfl)
        have f75 := (show 0 ≤ I62 48 12 ∧ I62 48 12 ≤ 1 from gc_in hI62 R_48 rfl rfl)
        obtain rfl : J = J63 := funext fun q => funext fun j => ((k61 q j).resolve_left id).symm
        refine gv_callV hD rfl (As := [.inr (.inr (some a1)), .inl (a2 + 1), .inl (a3 + 1), .inl a4]) (st := []) rfl B_48 S_48 rfl (gc_lV0 hws rfl) (Nat.le_of_ble_eq_true rfl) (gz_Ev_mono (d := (2 + nr)) (Nat.le_refl _) E61) ?_
        show gv_X _ _ (142, [(6, .inl s0_28), (0, .inr (.inr (some 48))), (1, .inr (.inr (some a1))), (2, .inl a2), (3, .inl a3), (4, .inl a4)], [], sh, gc_h sh I62 J A)
        refine gv_pick [] rfl ?_
        exact L142 I62 J hI62 FI62 FJ KWV_I62 KFN_I62 (by omega)
  have L181 : ∀ (v5_76 : Int) (v6_76 : Int) (s0_76 : Int), ((0 ≤ a2 ∧ a2 ≤ 5) ∧ (0 ≤ a3 ∧ a3 ≤ 24) ∧ (0 ≤ a4 ∧ a4 ≤ 4) ∧ (0 ≤ v5_76 ∧ v5_76 ≤ 5) ∧ (0 ≤ v6_76 ∧ v6_76 ≤ 31) ∧ (0 ≤ s0_76 ∧ s0_76 ≤ 25) ∧ (v5_76 = I a1 4 - a2 - 1) ∧ (a2 < I a1 4) ∧ (a4 ≤ 3) ∧ (0 ≤ I (a1 + 1) (Int.toNat a2)) ∧ (I 48 11 ≤ 400001) ∧ (I 48 3 ≤ I 48 3) ∧ (I 48 12 = 1 ∨ I 48 11 ≤ 400000) ∧ (a3 < s0_76) ∧ (s0_76 ≤ I 48 18) ∧ (I a1 4 = I a1 4) ∧ (I a1 0 = I a1 0) ∧ (I t 13 = I t 13) ∧ (I 48 18 = I 48 18) ∧ (I x 4 = I x 4) ∧ (I 48 17 = I 48 17) ∧ (I 48 13 = (t : Int)) ∧ (I 48 14 = (x : Int))) → gv_X (gc_E0 ws0 tb (2 + nr) (yX0_lay, cX0_lay, 11, none) kX0_lay) (gv_Q cX0_lay none sh (fun r h' => (∃ (I' : gr_I) (J' : gr_J), h' = gc_h sh I' J' A ∧ gc_Inv ro I' ∧ (∀ q j : Nat, ((q = 48 ∧ j = 3) ∨ (q = 48 ∧ j = 6) ∨ (q = 48 ∧ j = 12) ∨ q = 51 ∨ q = 52 ∨ q = 53 ∨ q = 54 ∨ q = 55 ∨ (q = 48 ∧ j = 11) ∨ q = 58 ∨ q = 59 ∨ q = 60) ∨ I' q j = I q j) ∧ (∀ q j : Nat, (False) ∨ J' q j = J q j) ∧ gc_WV t I' ∧ gc_FN I' ∧ r = none ∧ (I' 48 12 = 1 ∨ I' 48 11 ≤ 400000) ∧ (I' 48 11 ≤ 400001) ∧ (I 48 3 ≤ I' 48 3)))) (181, [(0, .inr (.inr (some 48))), (1, .inr (.inr (some a1))), (2, .inl a2), (3, .inl a3), (4, .inl a4), (5, .inl v5_76), (6, .inl v6_76)], [.inl s0_76], sh, gc_h sh I J A) := by
    intro v5_76 v6_76 s0_76 m_76
    obtain ⟨ha2_76, ha3_76, ha4_76, hv5_76, hv6_76, hs0_76, e0_76, e1_76, e2_76, e3_76, e4_76, e5_76, e6_76, e7_76, e8_76, e9_76, e10_76, e11_76, e12_76, e13_76, e14_76, e15_76, e16_76⟩ := m_76
    have f77 := (show 0 ≤ I 48 3 ∧ I 48 3 ≤ 3000 from gc_in hI R_48 rfl rfl)
    have f78 := (show 0 ≤ I 48 6 ∧ I 48 6 ≤ 9000 from gc_in hI R_48 rfl rfl)
    have f79 := (show 0 ≤ I 48 11 ∧ I 48 11 ≤ 1000000 from gc_in hI R_48 rfl rfl)
    have f80 := (show 0 ≤ I 48 12 ∧ I 48 12 ≤ 1 from gc_in hI R_48 rfl rfl)
    have f81 := (show 0 ≤ I 48 17 ∧ I 48 17 ≤ 3000 from gc_in hI R_48 rfl rfl)
    have f82 := (show 0 ≤ I 48 18 ∧ I 48 18 ≤ 24 from gc_in hI R_48 rfl rfl)
    have f83 := (show 0 ≤ I t 13 ∧ I t 13 ≤ 384 from gc_in hI R_t rfl rfl)
    have f84 := (show 0 ≤ I x 4 ∧ I x 4 ≤ 24 from gc_in hI R_x rfl rfl)
    have f85 := (show 0 ≤ I a1 4 ∧ I a1 4 ≤ 6 from gc_in hI R_a1 rfl rfl)
    have f86 := (show 0 ≤ I a1 0 ∧ I a1 0 ≤ 384 from gc_in hI R_a1 rfl rfl)
    have f87 := (show (-1) ≤ I 48 13 ∧ I 48 13 ≤ 999999 from gc_in hI R_48 rfl rfl)
    have f88 := (show (-1) ≤ I 48 14 ∧ I 48 14 ≤ 999999 from gc_in hI R_48 rfl rfl)
    have L183 : ∀ (n9 : Nat) (I89 : gr_I) (J90 : gr_J) (v7_91 : Int), (26 - v7_91).toNat < n9 → gc_Inv ro I89 → (∀ q j : Nat, ((q = 48 ∧ j = 3) ∨ (q = 48 ∧ j = 6) ∨ (q = 48 ∧ j = 12) ∨ q = 51 ∨ q = 52 ∨ q = 53 ∨ q = 54 ∨ q = 55 ∨ (q = 48 ∧ j = 11) ∨ q = 58 ∨ q = 59 ∨ q = 60) ∨ I89 q j = I q j) → (∀ q j : Nat, (False) ∨ J90 q j = J q j) → gc_WV t I89 → gc_FN I89 → ((0 ≤ a2 ∧ a2 ≤ 5) ∧ (0 ≤ a3 ∧ a3 ≤ 24) ∧ (0 ≤ a4 ∧ a4 ≤ 4) ∧ (0 ≤ v5_76 ∧ v5_76 ≤ 5) ∧ (0 ≤ v6_76 ∧ v6_76 ≤ 31) ∧ (1 ≤ v7_91 ∧ v7_91 ≤ 25) ∧ (v5_76 = I a1 4 - a2 - 1) ∧ (a2 < I a1 4) ∧ (a4 ≤ 3) ∧ (0 ≤ I (a1 + 1) (Int.toNat a2)) ∧ (I89 48 11 ≤ 400001) ∧ (I 48 3 ≤ I89 48 3) ∧ (I89 48 12 = 1 ∨ I89 48 11 ≤ 400000) ∧ (a3 < v7_91) ∧ (I89 a1 4 = I a1 4) ∧ (I89 a1 0 = I a1 0) ∧ (I89 t 13 = I t 13) ∧ (I89 48 18 = I 48 18) ∧ (I89 x 4 = I x 4) ∧ (I89 48 17 = I 48 17) ∧ (I89 48 13 = (t : Int)) ∧ (I89 48 14 = (x : Int))) → gv_X (gc_E0 ws0 tb (2 + nr) (yX0_lay, cX0_lay, 11, none) kX0_lay) (gv_Q cX0_lay none sh (fun r h' => (∃ (I' : gr_I) (J' : gr_J), h' = gc_h sh I' J' A ∧ gc_Inv ro I' ∧ (∀ q j : Nat, ((q = 48 ∧ j = 3) ∨ (q = 48 ∧ j = 6) ∨ (q = 48 ∧ j = 12) ∨ q = 51 ∨ q = 52 ∨ q = 53 ∨ q = 54 ∨ q = 55 ∨ (q = 48 ∧ j = 11) ∨ q = 58 ∨ q = 59 ∨ q = 60) ∨ I' q j = I q j) ∧ (∀ q j : Nat, (False) ∨ J' q j = J q j) ∧ gc_WV t I' ∧ gc_FN I' ∧ r = none ∧ (I' 48 12 = 1 ∨ I' 48 11 ≤ 400000) ∧ (I' 48 11 ≤ 400001) ∧ (I 48 3 ≤ I' 48 3)))) (183, [(0, .inr (.inr (some 48))), (1, .inr (.inr (some a1))), (2, .inl a2), (3, .inl a3), (4, .inl a4), (5, .inl v5_76), (6, .inl v6_76), (7, .inl v7_91)], [], sh, gc_h sh I89 J90 A) := by
      intro n9
      induction n9 with
      | zero => intro I89 J90 v7_91 hn; omega
      | succ n9 ih183 =>
        intro I89 J90 v7_91 hn hI89 FI89 FJ90 KWV_I89 KFN_I89 m_91
        clear ha2_76 ha3_76 ha4_76 hv5_76 hv6_76 hs0_76 e0_76 e1_76 e2_76 e3_76 e4_76 e5_76 e6_76 e7_76 e8_76 e9_76 e10_76 e11_76 e12_76 e13_76 e14_76 e15_76 e16_76 f77 f78 f79 f80 f81 f82 f83 f84 f85 f86 f87 f88
        obtain ⟨ha2_91, ha3_91, ha4_91, hv5_76_91, hv6_76_91, hv7_91, e0_91, e1_91, e2_91, e3_91, e4_91, e5_91, e6_91, e7_91, e8_91, e9_91, e10_91, e11_91, e12_91, e13_91, e14_91, e15_91⟩ := m_91
        have f92 := (show 0 ≤ I89 48 3 ∧ I89 48 3 ≤ 3000 from gc_in hI89 R_48 rfl rfl)
        have f93 := (show 0 ≤ I89 48 6 ∧ I89 48 6 ≤ 9000 from gc_in hI89 R_48 rfl rfl)
        have f94 := (show 0 ≤ I89 48 11 ∧ I89 48 11 ≤ 1000000 from gc_in hI89 R_48 rfl rfl)
        have f95 := (show 0 ≤ I89 48 12 ∧ I89 48 12 ≤ 1 from gc_in hI89 R_48 rfl rfl)
        have f96 := (show 0 ≤ I89 48 17 ∧ I89 48 17 ≤ 3000 from gc_in hI89 R_48 rfl rfl)
        have f97 := (show 0 ≤ I89 48 18 ∧ I89 48 18 ≤ 24 from gc_in hI89 R_48 rfl rfl)
        have f98 := (show 0 ≤ I89 t 13 ∧ I89 t 13 ≤ 384 from gc_in hI89 R_t rfl rfl)
        have f99 := (show 0 ≤ I89 x 4 ∧ I89 x 4 ≤ 24 from gc_in hI89 R_x rfl rfl)
        have f100 := (show 0 ≤ I89 a1 4 ∧ I89 a1 4 ≤ 6 from gc_in hI89 R_a1 rfl rfl)
        have f101 := (show 0 ≤ I89 a1 0 ∧ I89 a1 0 ≤ 384 from gc_in hI89 R_a1 rfl rfl)
        have f102 := (show (-1) ≤ I89 48 13 ∧ I89 48 13 ≤ 999999 from gc_in hI89 R_48 rfl rfl)
        have f103 := (show (-1) ≤ I89 48 14 ∧ I89 48 14 ≤ 999999 from gc_in hI89 R_48 rfl rfl)
        have L223 : ∀ (n9 : Nat) (I104 : gr_I) (J105 : gr_J) (v8_106 : Int) (v9_106 : Int), (3001 - v9_106).toNat < n9 → gc_Inv ro I104 → (∀ q j : Nat, ((q = 48 ∧ j = 3) ∨ (q = 48 ∧ j = 6) ∨ (q = 48 ∧ j = 12) ∨ q = 51 ∨ q = 52 ∨ q = 53 ∨ q = 54 ∨ q = 55 ∨ (q = 48 ∧ j = 11) ∨ q = 58 ∨ q = 59 ∨ q = 60) ∨ I104 q j = I q j) → (∀ q j : Nat, (False) ∨ J105 q j = J q j) → gc_WV t I104 → gc_FN I104 → ((0 ≤ a2 ∧ a2 ≤ 5) ∧ (0 ≤ a3 ∧ a3 ≤ 24) ∧ (0 ≤ a4 ∧ a4 ≤ 4) ∧ (0 ≤ v5_76 ∧ v5_76 ≤ 5) ∧ (0 ≤ v6_76 ∧ v6_76 ≤ 31) ∧ (1 ≤ v7_91 ∧ v7_91 ≤ 24) ∧ (0 ≤ v8_106 ∧ v8_106 ≤ 18431) ∧ (0 ≤ v9_106 ∧ v9_106 ≤ 3000) ∧ (v5_76 = I a1 4 - a2 - 1) ∧ (a2 < I a1 4) ∧ (a4 ≤ 3) ∧ (0 ≤ I (a1 + 1) (Int.toNat a2)) ∧ (I104 48 11 ≤ 400001) ∧ (I 48 3 ≤ I104 48 3) ∧ (I104 48 12 = 1 ∨ I104 48 11 ≤ 400000) ∧ (a3 < v7_91) ∧ (v7_91 + v5_76 ≤ I104 48 18) ∧ (I104 a1 4 = I a1 4) ∧ (I104 a1 0 = I a1 0) ∧ (I104 t 13 = I t 13) ∧ (I104 48 18 = I 48 18) ∧ (I104 x 4 = I x 4) ∧ (I104 48 17 = I 48 17) ∧ (I104 48 13 = (t : Int)) ∧ (I104 48 14 = (x : Int))) → gv_X (gc_E0 ws0 tb (2 + nr) (yX0_lay, cX0_lay, 11, none) kX0_lay) (gv_Q cX0_lay none sh (fun r h' => (∃ (I' : gr_I) (J' : gr_J), h' = gc_h sh I' J' A ∧ gc_Inv ro I' ∧ (∀ q j : Nat, ((q = 48 ∧ j = 3) ∨ (q = 48 ∧ j = 6) ∨ (q = 48 ∧ j = 12) ∨ q = 51 ∨ q = 52 ∨ q = 53 ∨ q = 54 ∨ q = 55 ∨ (q = 48 ∧ j = 11) ∨ q = 58 ∨ q = 59 ∨ q = 60) ∨ I' q j = I q j) ∧ (∀ q j : Nat, (False) ∨ J' q j = J q j) ∧ gc_WV t I' ∧ gc_FN I' ∧ r = none ∧ (I' 48 12 = 1 ∨ I' 48 11 ≤ 400000) ∧ (I' 48 11 ≤ 400001) ∧ (I 48 3 ≤ I' 48 3)))) (223, [(0, .inr (.inr (some 48))), (1, .inr (.inr (some a1))), (2, .inl a2), (3, .inl a3), (4, .inl a4), (5, .inl v5_76), (6, .inl v6_76), (7, .inl v7_91), (8, .inl v8_106), (9, .inl v9_106)], [], sh, gc_h sh I104 J105 A) := by
          intro n9
          induction n9 with
          | zero => intro I104 J105 v8_106 v9_106 hn; omega
          | succ n9 ih223 =>
            intro I104 J105 v8_106 v9_106 hn hI104 FI104 FJ105 KWV_I104 KFN_I104 m_106
            clear ha2_91 ha3_91 ha4_91 hv5_76_91 hv6_76_91 hv7_91 e0_91 e1_91 e2_91 e3_91 e4_91 e5_91 e6_91 e7_91 e8_91 e9_91 e10_91 e11_91 e12_91 e13_91 e14_91 e15_91 f92 f93 f94 f95 f96 f97 f98 f99 f100 f101 f102 f103
            obtain ⟨ha2_106, ha3_106, ha4_106, hv5_76_106, hv6_76_106, hv7_91_106, hv8_106, hv9_106, e0_106, e1_106, e2_106, e3_106, e4_106, e5_106, e6_106, e7_106, e8_106, e9_106, e10_106, e11_106, e12_106, e13_106, e14_106, e15_106, e16_106⟩ := m_106
            have f107 := (show 0 ≤ I104 48 3 ∧ I104 48 3 ≤ 3000 from gc_in hI104 R_48 rfl rfl)
            have f108 := (show 0 ≤ I104 48 6 ∧ I104 48 6 ≤ 9000 from gc_in hI104 R_48 rfl rfl)
            have f109 := (show 0 ≤ I104 48 11 ∧ I104 48 11 ≤ 1000000 from gc_in hI104 R_48 rfl rfl)
            have f110 := (show 0 ≤ I104 48 12 ∧ I104 48 12 ≤ 1 from gc_in hI104 R_48 rfl rfl)
            have f111 := (show 0 ≤ I104 48 17 ∧ I104 48 17 ≤ 3000 from gc_in hI104 R_48 rfl rfl)
            have f112 := (show 0 ≤ I104 48 18 ∧ I104 48 18 ≤ 24 from gc_in hI104 R_48 rfl rfl)
            have f113 := (show 0 ≤ I104 t 13 ∧ I104 t 13 ≤ 384 from gc_in hI104 R_t rfl rfl)
            have f114 := (show 0 ≤ I104 x 4 ∧ I104 x 4 ≤ 24 from gc_in hI104 R_x rfl rfl)
            have f115 := (show 0 ≤ I104 a1 4 ∧ I104 a1 4 ≤ 6 from gc_in hI104 R_a1 rfl rfl)
            have f116 := (show 0 ≤ I104 a1 0 ∧ I104 a1 0 ≤ 384 from gc_in hI104 R_a1 rfl rfl)
            have f117 := (show (-1) ≤ I104 48 13 ∧ I104 48 13 ≤ 999999 from gc_in hI104 R_48 rfl rfl)
            have f118 := (show (-1) ≤ I104 48 14 ∧ I104 48 14 ≤ 999999 from gc_in hI104 R_48 rfl rfl)
            have L282 : ∀ (I119 : gr_I) (J120 : gr_J) (s1_121 : Int), gc_Inv ro I119 → (∀ q j : Nat, ((q = 48 ∧ j = 3) ∨ (q = 48 ∧ j = 6) ∨ (q = 48 ∧ j = 12) ∨ q = 51 ∨ q = 52 ∨ q = 53 ∨ q = 54 ∨ q = 55 ∨ (q = 48 ∧ j = 11) ∨ q = 58 ∨ q = 59 ∨ q = 60) ∨ I119 q j = I q j) → (∀ q j : Nat, (False) ∨ J120 q j = J q j) → gc_WV t I119 → gc_FN I119 → ((0 ≤ a2 ∧ a2 ≤ 5) ∧ (0 ≤ a3 ∧ a3 ≤ 24) ∧ (0 ≤ a4 ∧ a4 ≤ 4) ∧ (0 ≤ v5_76 ∧ v5_76 ≤ 5) ∧ (0 ≤ v6_76 ∧ v6_76 ≤ 31) ∧ (1 ≤ v7_91 ∧ v7_91 ≤ 24) ∧ (0 ≤ v8_106 ∧ v8_106 ≤ 18431) ∧ (0 ≤ v9_106 ∧ v9_106 ≤ 2999) ∧ (0 ≤ s1_121 ∧ s1_121 ≤ 1) ∧ (v5_76 = I a1 4 - a2 - 1) ∧ (a2 < I a1 4) ∧ (a4 ≤ 3) ∧ (0 ≤ I (a1 + 1) (Int.toNat a2)) ∧ (I119 48 11 ≤ 400001) ∧ (I 48 3 ≤ I119 48 3) ∧ (s1_121 = 1 ∨ I119 48 11 ≤ 400000) ∧ (a3 < v7_91) ∧ (v7_91 + v5_76 ≤ I119 48 18) ∧ (v9_106 ≤ 2999) ∧ (I119 a1 4 = I a1 4) ∧ (I119 a1 0 = I a1 0) ∧ (I119 t 13 = I t 13) ∧ (I119 48 18 = I 48 18) ∧ (I119 x 4 = I x 4) ∧ (I119 48 17 = I 48 17) ∧ (I119 48 13 = (t : Int)) ∧ (I119 48 14 = (x : Int))) → gv_X (gc_E0 ws0 tb (2 + nr) (yX0_lay, cX0_lay, 11, none) kX0_lay) (gv_Q cX0_lay none sh (fun r h' => (∃ (I' : gr_I) (J' : gr_J), h' = gc_h sh I' J' A ∧ gc_Inv ro I' ∧ (∀ q j : Nat, ((q = 48 ∧ j = 3) ∨ (q = 48 ∧ j = 6) ∨ (q = 48 ∧ j = 12) ∨ q = 51 ∨ q = 52 ∨ q = 53 ∨ q = 54 ∨ q = 55 ∨ (q = 48 ∧ j = 11) ∨ q = 58 ∨ q = 59 ∨ q = 60) ∨ I' q j = I q j) ∧ (∀ q j : Nat, (False) ∨ J' q j = J q j) ∧ gc_WV t I' ∧ gc_FN I' ∧ r = none ∧ (I' 48 12 = 1 ∨ I' 48 11 ≤ 400000) ∧ (I' 48 11 ≤ 400001) ∧ (I 48 3 ≤ I' 48 3)))) (282, [(0, .inr (.inr (some 48))), (1, .inr (.inr (some a1))), (2, .inl a2), (3, .inl a3), (4, .inl a4), (5, .inl v5_76), (6, .inl v6_76), (7, .inl v7_91), (8, .inl v8_106), (9, .inl v9_106)], [.inl s1_121, .inr (.inr (some 48))], sh, gc_h sh I119 J120 A) := by
              intro I119 J120 s1_121 hI119 FI119 FJ120 KWV_I119 KFN_I119 m_121
              clear ha2_106 ha3_106 ha4_106 hv5_76_106 hv6_76_106 hv7_91_106 hv8_106 hv9_106 e0_106 e1_106 e2_106 e3_106 e4_106 e5_106 e6_106 e7_106 e8_106 e9_106 e10_106 e11_106 e12_106 e13_106 e14_106 e15_106 e16_106 f107 f108 f109 f110 f111 f112 f113 f114 f115 f116 f117 f118
              obtain ⟨ha2_121, ha3_121, ha4_121, hv5_76_121, hv6_76_121, hv7_91_121, hv8_106_121, hv9_106_121, hs1_121, e0_121, e1_121, e2_121, e3_121, e4_121, e5_121, e6_121, e7_121, e8_121, e9_121, e10_121, e11_121, e12_121, e13_121, e14_121, e15_121, e16_121, e17_121⟩ := m_121
              have f122 := (show 0 ≤ I119 48 3 ∧ I119 48 3 ≤ 3000 from gc_in hI119 R_48 rfl rfl)
              have f123 := (show 0 ≤ I119 48 6 ∧ I119 48 6 ≤ 9000 from gc_in hI119 R_48 rfl rfl)
              have f124 := (show 0 ≤ I119 48 11 ∧ I119 48 11 ≤ 1000000 from gc_in hI119 R_48 rfl rfl)
              have f125 := (show 0 ≤ I119 48 12 ∧ I119 48 12 ≤ 1 from gc_in hI119 R_48 rfl rfl)
              have f126 := (show 0 ≤ I119 48 17 ∧ I119 48 17 ≤ 3000 from gc_in hI119 R_48 rfl rfl)
              have f127 := (show 0 ≤ I119 48 18 ∧ I119 48 18 ≤ 24 from gc_in hI119 R_48 rfl rfl)
              have f128 := (show 0 ≤ I119 t 13 ∧ I119 t 13 ≤ 384 from gc_in hI119 R_t rfl rfl)
              have f129 := (show 0 ≤ I119 x 4 ∧ I119 x 4 ≤ 24 from gc_in hI119 R_x rfl rfl)
              have f130 := (show 0 ≤ I119 a1 4 ∧ I119 a1 4 ≤ 6 from gc_in hI119 R_a1 rfl rfl)
              have f131 := (show 0 ≤ I119 a1 0 ∧ I119 a1 0 ≤ 384 from gc_in hI119 R_a1 rfl rfl)
              have f132 := (show (-1) ≤ I119 48 13 ∧ I119 48 13 ≤ 999999 from gc_in hI119 R_48 rfl rfl)
              have f133 := (show (-1) ≤ I119 48 14 ∧ I119 48 14 ≤ 999999 from gc_in hI119 R_48 rfl rfl)
              have L348 : ∀ (I134 : gr_I) (J135 : gr_J) , gc_Inv ro I134 → (∀ q j : Nat, ((q = 48 ∧ j = 3) ∨ (q = 48 ∧ j = 6) ∨ (q = 48 ∧ j = 12) ∨ q = 51 ∨ q = 52 ∨ q = 53 ∨ q = 54 ∨ q = 55 ∨ (q = 48 ∧ j = 11) ∨ q = 58 ∨ q = 59 ∨ q = 60) ∨ I134 q j = I q j) → (∀ q j : Nat, (False) ∨ J135 q j = J q j) → gc_WV t I134 → gc_FN I134 → ((0 ≤ a2 ∧ a2 ≤ 5) ∧ (0 ≤ a3 ∧ a3 ≤ 24) ∧ (0 ≤ a4 ∧ a4 ≤ 4) ∧ (0 ≤ v5_76 ∧ v5_76 ≤ 5) ∧ (0 ≤ v6_76 ∧ v6_76 ≤ 31) ∧ (1 ≤ v7_91 ∧ v7_91 ≤ 24) ∧ (0 ≤ v8_106 ∧ v8_106 ≤ 18431) ∧ (0 ≤ v9_106 ∧ v9_106 ≤ 2999) ∧ (v5_76 = I a1 4 - a2 - 1) ∧ (a2 < I a1 4) ∧ (a4 ≤ 3) ∧ (0 ≤ I (a1 + 1) (Int.toNat a2)) ∧ (I134 48 11 ≤ 400001) ∧ (I 48 3 ≤ I134 48 3) ∧ (I134 48 12 = 1 ∨ I134 48 11 ≤ 400000) ∧ (a3 < v7_91) ∧ (v7_91 + v5_76 ≤ I134 48 18) ∧ (v9_106 ≤ 2999) ∧ (I134 a1 4 = I a1 4) ∧ (I134 a1 0 = I a1 0) ∧ (I134 t 13 = I t 13) ∧ (I134 48 18 = I 48 18) ∧ (I134 x 4 = I x 4) ∧ (I134 48 17 = I 48 17) ∧ (I134 48 13 = (t : Int)) ∧ (I134 48 14 = (x : Int))) → gv_X (gc_E0 ws0 tb (2 + nr) (yX0_lay, cX0_lay, 11, none) kX0_lay) (gv_Q cX0_lay none sh (fun r h' => (∃ (I' : gr_I) (J' : gr_J), h' = gc_h sh I' J' A ∧ gc_Inv ro I' ∧ (∀ q j : Nat, ((q = 48 ∧ j = 3) ∨ (q = 48 ∧ j = 6) ∨ (q = 48 ∧ j = 12) ∨ q = 51 ∨ q = 52 ∨ q = 53 ∨ q = 54 ∨ q = 55 ∨ (q = 48 ∧ j = 11) ∨ q = 58 ∨ q = 59 ∨ q = 60) ∨ I' q j = I q j) ∧ (∀ q j : Nat, (False) ∨ J' q j = J q j) ∧ gc_WV t I' ∧ gc_FN I' ∧ r = none ∧ (I' 48 12 = 1 ∨ I' 48 11 ≤ 400000) ∧ (I' 48 11 ≤ 400001) ∧ (I 48 3 ≤ I' 48 3)))) (348, [(0, .inr (.inr (some 48))), (1, .inr (.inr (some a1))), (2, .inl a2), (3, .inl a3), (4, .inl a4), (5, .inl v5_76), (6, .inl v6_76), (7, .inl v7_91), (8, .inl v8_106), (9, .inl v9_106)], [], sh, gc_h sh I134 J135 A) := by
                intro I134 J135 hI134 FI134 FJ135 KWV_I134 KFN_I134 m_136
                clear ha2_121 ha3_121 ha4_121 hv5_76_121 hv6_76_121 hv7_91_121 hv8_106_121 hv9_106_121 hs1_121 e0_121 e1_121 e2_121 e3_121 e4_121 e5_121 e6_121 e7_121 e8_121 e9_121 e10_121 e11_121 e12_121 e13_121 e14_121 e15_121 e16_121 e17_121 f122 f123 f124 f125 f126 f127 f128 f129 f130 f131 f132 f133
                obtain ⟨ha2_136, ha3_136, ha4_136, hv5_76_136, hv6_76_136, hv7_91_136, hv8_106_136, hv9_106_136, e0_136, e1_136, e2_136, e3_136, e4_136, e5_136, e6_136, e7_136, e8_136, e9_136, e10_136, e11_136, e12_136, e13_136, e14_136, e15_136, e16_136, e17_136⟩ := m_136
                have f137 := (show 0 ≤ I134 48 3 ∧ I134 48 3 ≤ 3000 from gc_in hI134 R_48 rfl rfl)
                have f138 := (show 0 ≤ I134 48 6 ∧ I134 48 6 ≤ 9000 from gc_in hI134 R_48 rfl rfl)
                have f139 := (show 0 ≤ I134 48 11 ∧ I134 48 11 ≤ 1000000 from gc_in hI134 R_48 rfl rfl)
                have f140 := (show 0 ≤ I134 48 12 ∧ I134 48 12 ≤ 1 from gc_in hI134 R_48 rfl rfl)
                have f141 := (show 0 ≤ I134 48 17 ∧ I134 48 17 ≤ 3000 from gc_in hI134 R_48 rfl rfl)
                have f142 := (show 0 ≤ I134 48 18 ∧ I134 48 18 ≤ 24 from gc_in hI134 R_48 rfl rfl)
                have f143 := (show 0 ≤ I134 t 13 ∧ I134 t 13 ≤ 384 from gc_in hI134 R_t rfl rfl)
                have f144 := (show 0 ≤ I134 x 4 ∧ I134 x 4 ≤ 24 from gc_in hI134 R_x rfl rfl)
                have f145 := (show 0 ≤ I134 a1 4 ∧ I134 a1 4 ≤ 6 from gc_in hI134 R_a1 rfl rfl)
                have f146 := (show 0 ≤ I134 a1 0 ∧ I134 a1 0 ≤ 384 from gc_in hI134 R_a1 rfl rfl)
                have f147 := (show (-1) ≤ I134 48 13 ∧ I134 48 13 ≤ 999999 from gc_in hI134 R_48 rfl rfl)
                have f148 := (show (-1) ≤ I134 48 14 ∧ I134 48 14 ≤ 999999 from gc_in hI134 R_48 rfl rfl)
                refine gv_run 2 true hD (pc' := 223) (lv' := [(9, .inl (v9_106 + 1)), (0, .inr (.inr (some 48))), (1, .inr (.inr (some a1))), (2, .inl a2), (3, .inl a3), (4, .inl a4), (5, .inl v5_76), (6, .inl v6_76), (7, .inl v7_91), (8, .inl v8_106)]) (st' := []) (h' := gc_h sh I134 J135 A) (C := ((True ∧ True) ∧ True)) rfl ⟨⟨trivial, trivial⟩, trivial⟩ ?_
                refine gv_pick [1, 2, 3, 4, 5, 6, 7, 8, 9, 0] rfl ?_
                exact ih223 I134 J135 v8_106 (v9_106 + 1) (by omega) hI134 FI134 FJ135 KWV_I134 KFN_I134 (by omega)
              refine gv_put hD rfl rfl S_48 ⟨by decide, B_48⟩ rfl (by omega) ?_
              refine gc_st (k := 12) hI119 S_48 rfl R_48 (lo := 0) (hi := 1) rfl rfl (by omega) (by omega) (fun I149 hI149 q150 p150 => ?_)
              have FI149 := gc_frs (W := fun q j => (q = 48 ∧ j = 3) ∨ (q = 48 ∧ j = 6) ∨ (q = 48 ∧ j = 12) ∨ q = 51 ∨ q = 52 ∨ q = 53 ∨ q = 54 ∨ q = 55 ∨ (q = 48 ∧ j = 11) ∨ q = 58 ∨ q = 59 ∨ q = 60) FI119 (Or.inr (Or.inr (Or.inl ⟨rfl, rfl⟩))) p150
              have t151 := p150 48 3 (fun h => absurd h.2 (by decide))
              have t152 := p150 48 6 (fun h => absurd h.2 (by decide))
              have t153 := p150 48 11 (fun h => absurd h.2 (by decide))
              have t154 := p150 48 17 (fun h => absurd h.2 (by decide))
              have t155 := p150 48 18 (fun h => absurd h.2 (by decide))
              have t156 := p150 t 13 (fun h => absurd h.2 (by decide))
              have t157 := p150 x 4 (fun h => absurd h.2 (by decide))
              have t158 := p150 a1 4 (fun h => absurd h.2 (by decide))
              have t159 := p150 a1 0 (fun h => absurd h.2 (by decide))
              have t160 := p150 48 13 (fun h => absurd h.2 (by decide))
              have t161 := p150 48 14 (fun h => absurd h.2 (by decide))
              have f162 := (show 0 ≤ I149 48 12 ∧ I149 48 12 ≤ 1 from gc_in hI149 R_48 rfl rfl)
              have KWV_I149 := gc_WV_fr KWV_I119 (p150 48 6 (fun h => absurd h.2 (by decide))) (p150 t 13 (fun h => absurd h.2 (by decide))) (fun k => p150 54 k (fun h => absurd h.1 (by decide)))
              have KFN_I149 := gc_FN_fr KFN_I119 (fun k => p150 49 k (fun h => absurd h.1 (by decide))) (fun k => p150 50 k (fun h => absurd h.1 (by decide)))
              show gv_X _ _ (285, [(0, .inr (.inr (some 48))), (1, .inr (.inr (some a1))), (2, .inl a2), (3, .inl a3), (4, .inl a4), (5, .inl v5_76), (6, .inl v6_76), (7, .inl v7_91), (8, .inl v8_106), (9, .inl v9_106)], [], sh, gc_h sh I149 J120 A)
              refine gv_run 1 true hD (pc' := 286) (lv' := [(0, .inr (.inr (some 48))), (1, .inr (.inr (some a1))), (2, .inl a2), (3, .inl a3), (4, .inl a4), (5, .inl v5_76), (6, .inl v6_76), (7, .inl v7_91), (8, .inl v8_106), (9, .inl v9_106)]) (st' := [.inr (.inr (some 48))]) (h' := gc_h sh I149 J120 A) (C := (True ∧ True)) rfl ⟨trivial, trivial⟩ ?_
              refine gv_get hD rfl rfl S_48 ⟨by decide, B_48⟩ (gc_hA S_48 rfl A_48_5) ?_
              show gv_X _ _ (289, [(0, .inr (.inr (some 48))), (1, .inr (.inr (some a1))), (2, .inl a2), (3, .inl a3), (4, .inl a4), (5, .inl v5_76), (6, .inl v6_76), (7, .inl v7_91), (8, .inl v8_106), (9, .inl v9_106)], [.inr (.inr (some 52))], sh, gc_h sh I149 J120 A)
              refine gv_run 1 true hD (pc' := 291) (lv' := [(0, .inr (.inr (some 48))), (1, .inr (.inr (some a1))), (2, .inl a2), (3, .inl a3), (4, .inl a4), (5, .inl v5_76), (6, .inl v6_76), (7, .inl v7_91), (8, .inl v8_106), (9, .inl v9_106)]) (st' := [.inl v9_106, .inr (.inr (some 52))]) (h' := gc_h sh I149 J120 A) (C := (True ∧ True)) rfl ⟨trivial, trivial⟩ ?_
              have f163 := (show 0 ≤ I149 52 (Int.toNat v9_106) ∧ I149 52 (Int.toNat v9_106) ≤ 16777215 from gc_in hI149 R_52 rfl rfl)
              refine gv_iald hD rfl S_52 rfl ⟨by decide, B_52⟩ ⟨by omega, by omega⟩ (gc_iI S_52 rfl) ?_
              show gv_X _ _ (292, [(0, .inr (.inr (some 48))), (1, .inr (.inr (some a1))), (2, .inl a2), (3, .inl a3), (4, .inl a4), (5, .inl v5_76), (6, .inl v6_76), (7, .inl v7_91), (8, .inl v8_106), (9, .inl v9_106)], [.inl (I149 52 (Int.toNat v9_106))], sh, gc_h sh I149 J120 A)
              refine gv_run 1 true hD (pc' := 293) (lv' := [(0, .inr (.inr (some 48))), (1, .inr (.inr (some a1))), (2, .inl a2), (3, .inl a3), (4, .inl a4), (5, .inl v5_76), (6, .inl v6_76), (7, .inl v7_91), (8, .inl v8_106), (9, .inl v9_106)]) (st' := [.inr (.inr (some a1)), .inl (I149 52 (Int.toNat v9_106))]) (h' := gc_h sh I149 J120 A) (C := (True ∧ True)) rfl ⟨trivial, trivial⟩ ?_
              refine gv_get hD rfl rfl S_a1 ⟨by decide, B_a1⟩ (gc_hA S_a1 rfl A_a1_10) ?_
              show gv_X _ _ (296, [(0, .inr (.inr (some 48))), (1, .inr (.inr (some a1))), (2, .inl a2), (3, .inl a3), (4, .inl a4), (5, .inl v5_76), (6, .inl v6_76), (7, .inl v7_91), (8, .inl v8_106), (9, .inl v9_106)], [.inr (.inr (some (a1 + 5))), .inl (I149 52 (Int.toNat v9_106))], sh, gc_h sh I149 J120 A)
              refine gv_run 1 true hD (pc' := 298) (lv' := [(0, .inr (.inr (some 48))), (1, .inr (.inr (some a1))), (2, .inl a2), (3, .inl a3), (4, .inl a4), (5, .inl v5_76), (6, .inl v6_76), (7, .inl v7_91), (8, .inl v8_106), (9, .inl v9_106)]) (st' := [.inl a4, .inr (.inr (some (a1 + 5))), .inl (I149 52 (Int.toNat v9_106))]) (h' := gc_h sh I149 J120 A) (C := (True ∧ True)) rfl ⟨trivial, trivial⟩ ?_
              have f164 := (show 0 ≤ I149 (a1 + 5) (Int.toNat a4) ∧ I149 (a1 + 5) (Int.toNat a4) ≤ 16777215 from gc_in hI149 R_a1_5 rfl rfl)
              refine gv_iald hD rfl S_a1_5 rfl ⟨by decide, B_a1_5⟩ ⟨by omega, by omega⟩ (gc_iI S_a1_5 rfl) ?_
              show gv_X _ _ (299, [(0, .inr (.inr (some 48))), (1, .inr (.inr (some a1))), (2, .inl a2), (3, .inl a3), (4, .inl a4), (5, .inl v5_76), (6, .inl v6_76), (7, .inl v7_91), (8, .inl v8_106), (9, .inl v9_106)], [.inl (I149 (a1 + 5) (Int.toNat a4)), .inl (I149 52 (Int.toNat v9_106))], sh, gc_h sh I149 J120 A)
              obtain ⟨r165, h165, E165, P165⟩ := d_X3_fit (ws0 := ws0) (tb := tb) hws htb sh ro I149 J120 A hI149  ((I149 52 (Int.toNat v9_106))) ((I149 (a1 + 5) (Int.toNat a4)))    ⟨by omega, by omega⟩ ⟨by omega, by omega⟩  
              obtain ⟨rfl, ⟨z165, rfl, q165⟩⟩ := P165
              refine gv_callS hD rfl (As := [.inl (I149 52 (Int.toNat v9_106)), .inl (I149 (a1 + 5) (Int.toNat a4))]) (st := []) rfl (gc_lS0 hws rfl) (Nat.le_of_ble_eq_true rfl) (gz_Ev_mono (d := 1) (by omega) E165) ?_
              show gv_X _ _ (302, [(0, .inr (.inr (some 48))), (1, .inr (.inr (some a1))), (2, .inl a2), (3, .inl a3), (4, .inl a4), (5, .inl v5_76), (6, .inl v6_76), (7, .inl v7_91), (8, .inl v8_106), (9, .inl v9_106)], [.inl z165], sh, gc_h sh I149 J120 A)
              refine gv_run 2 true hD (pc' := 306) (lv' := [(10, .inl z165), (0, .inr (.inr (some 48))), (1, .inr (.inr (some a1))), (2, .inl a2), (3, .inl a3), (4, .inl a4), (5, .inl v5_76), (6, .inl v6_76), (7, .inl v7_91), (8, .inl v8_106), (9, .inl v9_106)]) (st' := [.inl z165]) (h' := gc_h sh I149 J120 A) (C := ((True ∧ True) ∧ True)) rfl ⟨⟨trivial, trivial⟩, trivial⟩ ?_
              refine gv_if_lt (t := 348) hD rfl rfl ⟨by omega, by omega⟩ (fun c166 => ?_) (fun c166 => ?_)
              · show gv_X _ _ (348, [(10, .inl z165), (0, .inr (.inr (some 48))), (1, .inr (.inr (some a1))), (2, .inl a2), (3, .inl a3), (4, .inl a4), (5, .inl v5_76), (6, .inl v6_76), (7, .inl v7_91), (8, .inl v8_106), (9, .inl v9_106)], [], sh, gc_h sh I149 J120 A)
                refine gv_pick [1, 2, 3, 4, 5, 6, 7, 8, 9, 10] rfl ?_
                exact L348 I149 J120 hI149 FI149 FJ120 KWV_I149 KFN_I149 (by omega)
              · show gv_X _ _ (309, [(10, .inl z165), (0, .inr (.inr (some 48))), (1, .inr (.inr (some a1))), (2, .inl a2), (3, .inl a3), (4, .inl a4), (5, .inl v5_76), (6, .inl v6_76), (7, .inl v7_91), (8, .inl v8_106), (9, .inl v9_106)], [], sh, gc_h sh I149 J120 A)
                refine gv_run 1 true hD (pc' := 310) (lv' := [(10, .inl z165), (0, .inr (.inr (some 48))), (1, .inr (.inr (some a1))), (2, .inl a2), (3, .inl a3), (4, .inl a4), (5, .inl v5_76), (6, .inl v6_76), (7, .inl v7_91), (8, .inl v8_106), (9, .inl v9_106)]) (st' := [.inr (.inr (some 48))]) (h' := gc_h sh I149 J120 A) (C := (True ∧ True)) rfl ⟨trivial, trivial⟩ ?_
                have f167 := (show 0 ≤ I149 48 12 ∧ I149 48 12 ≤ 1 from gc_in hI149 R_48 rfl rfl)
                refine gv_get hD rfl rfl S_48 ⟨by decide, B_48⟩ (gc_hI S_48 rfl) ?_
                show gv_X _ _ (313, [(10, .inl z165), (0, .inr (.inr (some 48))), (1, .inr (.inr (some a1))), (2, .inl a2), (3, .inl a3), (4, .inl a4), (5, .inl v5_76), (6, .inl v6_76), (7, .inl v7_91), (8, .inl v8_106), (9, .inl v9_106)], [.inl (I149 48 12)], sh, gc_h sh I149 J120 A)
                refine gv_if_ne (t := 348) hD rfl rfl ⟨by omega, by omega⟩ (fun c168 => ?_) (fun c168 => ?_)
                · show gv_X _ _ (348, [(10, .inl z165), (0, .inr (.inr (some 48))), (1, .inr (.inr (some a1))), (2, .inl a2), (3, .inl a3), (4, .inl a4), (5, .inl v5_76), (6, .inl v6_76), (7, .inl v7_91), (8, .inl v8_106), (9, .inl v9_106)], [], sh, gc_h sh I149 J120 A)
                  refine gv_pick [1, 2, 3, 4, 5, 6, 7, 8, 9, 10] rfl ?_
                  exact L348 I149 J120 hI149 FI149 FJ120 KWV_I149 KFN_I149 (by omega)
                · show gv_X _ _ (316, [(10, .inl z165), (0, .inr (.inr (some 48))), (1, .inr (.inr (some a1))), (2, .inl a2), (3, .inl a3), (4, .inl a4), (5, .inl v5_76), (6, .inl v6_76), (7, .inl v7_91), (8, .inl v8_106), (9, .inl v9_106)], [], sh, gc_h sh I149 J120 A)
                  refine gv_run 1 true hD (pc' := 317) (lv' := [(10, .inl z165), (0, .inr (.inr (some 48))), (1, .inr (.inr (some a1))), (2, .inl a2), (3, .inl a3), (4, .inl a4), (5, .inl v5_76), (6, .inl v6_76), (7, .inl v7_91), (8, .inl v8_106), (9, .inl v9_106)]) (st' := [.inr (.inr (some 48))]) (h' := gc_h sh I149 J120 A) (C := (True ∧ True)) rfl ⟨trivial, trivial⟩ ?_
                  refine gv_get hD rfl rfl S_48 ⟨by decide, B_48⟩ (gc_hA S_48 rfl A_48_19) ?_
                  show gv_X _ _ (320, [(10, .inl z165), (0, .inr (.inr (some 48))), (1, .inr (.inr (some a1))), (2, .inl a2), (3, .inl a3), (4, .inl a4), (5, .inl v5_76), (6, .inl v6_76), (7, .inl v7_91), (8, .inl v8_106), (9, .inl v9_106)], [.inr (.inr (some 58))], sh, gc_h sh I149 J120 A)
                  refine gv_run 2 true hD (pc' := 324) (lv' := [(10, .inl z165), (0, .inr (.inr (some 48))), (1, .inr (.inr (some a1))), (2, .inl a2), (3, .inl a3), (4, .inl a4), (5, .inl v5_76), (6, .inl v6_76), (7, .inl v7_91), (8, .inl v8_106), (9, .inl v9_106)]) (st' := [.inl v9_106, .inl a4, .inr (.inr (some 58))]) (h' := gc_h sh I149 J120 A) (C := ((True ∧ True) ∧ True)) rfl ⟨⟨trivial, trivial⟩, trivial⟩ ?_
                  refine gv_iast hD rfl S_58 ⟨by decide, B_58⟩ ⟨by omega, by omega⟩ ?_
                  refine gc_st hI149 S_58 rfl R_58 (lo := 0) (hi := 2999) rfl rfl (by omega) (by omega) (fun I169 hI169 q170 p170 => ?_)
                  have FI169 := gc_frs (W := fun q j => (q = 48 ∧ j = 3) ∨ (q = 48 ∧ j = 6) ∨ (q = 48 ∧ j = 12) ∨ q = 51 ∨ q = 52 ∨ q = 53 ∨ q = 54 ∨ q = 55 ∨ (q = 48 ∧ j = 11) ∨ q = 58 ∨ q = 59 ∨ q = 60) FI149 (Or.inr (Or.inr (Or.inr (Or.inr (Or.inr (Or.inr (Or.inr (Or.inr (Or.inr (Or.inl rfl)))))))))) p170
                  have t171 := p170 48 3 (fun h => absurd h.1 (by decide))
                  have t172 := p170 48 6 (fun h => absurd h.1 (by decide))
                  have t173 := p170 48 11 (fun h => absurd h.1 (by decide))
                  have t174 := p170 48 12 (fun h => absurd h.1 (by decide))
                  have t175 := p170 48 17 (fun h => absurd h.1 (by decide))
                  have t176 := p170 48 18 (fun h => absurd h.1 (by decide))
                  have t177 := p170 t 13 (fun h => absurd h.1 N_t__58)
                  have t178 := p170 x 4 (fun h => absurd h.1 N_x__58)
                  have t179 := p170 a1 4 (fun h => absurd h.1 N_a1__58)
                  have t180 := p170 a1 0 (fun h => absurd h.1 N_a1__58)
                  have t181 := p170 48 13 (fun h => absurd h.1 (by decide))
                  have t182 := p170 48 14 (fun h => absurd h.1 (by decide))
                  have KWV_I169 := gc_WV_fr KWV_I149 (p170 48 6 (fun h => absurd h.1 (by decide))) (p170 t 13 (fun h => absurd h.1 N_t__58)) (fun k => p170 54 k (fun h => absurd h.1 (by decide)))
                  have KFN_I169 := gc_FN_fr KFN_I149 (fun k => p170 49 k (fun h => absurd h.1 (by decide))) (fun k => p170 50 k (fun h => absurd h.1 (by decide)))
                  show gv_X _ _ (325, [(10, .inl z165), (0, .inr (.inr (some 48))), (1, .inr (.inr (some a1))), (2, .inl a2), (3, .inl a3), (4, .inl a4), (5, .inl v5_76), (6, .inl v6_76), (7, .inl v7_91), (8, .inl v8_106), (9, .inl v9_106)], [], sh, gc_h sh I169 J120 A)
                  refine gv_run 1 true hD (pc' := 326) (lv' := [(10, .inl z165), (0, .inr (.inr (some 48))), (1, .inr (.inr (some a1))), (2, .inl a2), (3, .inl a3), (4, .inl a4), (5, .inl v5_76), (6, .inl v6_76), (7, .inl v7_91), (8, .inl v8_106), (9, .inl v9_106)]) (st' := [.inr (.inr (some 48))]) (h' := gc_h sh I169 J120 A) (C := (True ∧ True)) rfl ⟨trivial, trivial⟩ ?_
                  refine gv_get hD rfl rfl S_48 ⟨by decide, B_48⟩ (gc_hA S_48 rfl A_48_20) ?_
                  show gv_X _ _ (329, [(10, .inl z165), (0, .inr (.inr (some 48))), (1, .inr (.inr (some a1))), (2, .inl a2), (3, .inl a3), (4, .inl a4), (5, .inl v5_76), (6, .inl v6_76), (7, .inl v7_91), (8, .inl v8_106), (9, .inl v9_106)], [.inr (.inr (some 59))], sh, gc_h sh I169 J120 A)
                  refine gv_run 2 true hD (pc' := 333) (lv' := [(10, .inl z165), (0, .inr (.inr (some 48))), (1, .inr (.inr (some a1))), (2, .inl a2), (3, .inl a3), (4, .inl a4), (5, .inl v5_76), (6, .inl v6_76), (7, .inl v7_91), (8, .inl v8_106), (9, .inl v9_106)]) (st' := [.inl z165, .inl a4, .inr (.inr (some 59))]) (h' := gc_h sh I169 J120 A) (C := ((True ∧ True) ∧ True)) rfl ⟨⟨trivial, trivial⟩, trivial⟩ ?_
                  refine gv_iast hD rfl S_59 ⟨by decide, B_59⟩ ⟨by omega, by omega⟩ ?_
                  refine gc_st hI169 S_59 rfl R_59 (lo := 0) (hi := 16777215) rfl rfl (by omega) (by omega) (fun I183 hI183 q184 p184 => ?_)
                  have FI183 := gc_frs (W := fun q j => (q = 48 ∧ j = 3) ∨ (q = 48 ∧ j = 6) ∨ (q = 48 ∧ j = 12) ∨ q = 51 ∨ q = 52 ∨ q = 53 ∨ q = 54 ∨ q = 55 ∨ (q = 48 ∧ j = 11) ∨ q = 58 ∨ q = 59 ∨ q = 60) FI169 (Or.inr (Or.inr (Or.inr (Or.inr (Or.inr (Or.inr (Or.inr (Or.inr (Or.inr (Or.inr (Or.inl rfl))))))))))) p184
                  have t185 := p184 48 3 (fun h => absurd h.1 (by decide))
                  have t186 := p184 48 6 (fun h => absurd h.1 (by decide))
                  have t187 := p184 48 11 (fun h => absurd h.1 (by decide))
                  have t188 := p184 48 12 (fun h => absurd h.1 (by decide))
                  have t189 := p184 48 17 (fun h => absurd h.1 (by decide))
                  have t190 := p184 48 18 (fun h => absurd h.1 (by decide))
                  have t191 := p184 t 13 (fun h => absurd h.1 N_t__59)
                  have t192 := p184 x 4 (fun h => absurd h.1 N_x__59)
                  have t193 := p184 a1 4 (fun h => absurd h.1 N_a1__59)
                  have t194 := p184 a1 0 (fun h => absurd h.1 N_a1__59)
                  have t195 := p184 48 13 (fun h => absurd h.1 (by decide))
                  have t196 := p184 48 14 (fun h => absurd h.1 (by decide))
                  have KWV_I183 := gc_WV_fr KWV_I169 (p184 48 6 (fun h => absurd h.1 (by decide))) (p184 t 13 (fun h => absurd h.1 N_t__59)) (fun k => p184 54 k (fun h => absurd h.1 (by decide)))
                  have KFN_I183 := gc_FN_fr KFN_I169 (fun k => p184 49 k (fun h => absurd h.1 (by decide))) (fun k => p184 50 k (fun h => absurd h.1 (by decide)))
                  show gv_X _ _ (334, [(10, .inl z165), (0, .inr (.inr (some 48))), (1, .inr (.inr (some a1))), (2, .inl a2), (3, .inl a3), (4, .inl a4), (5, .inl v5_76), (6, .inl v6_76), (7, .inl v7_91), (8, .inl v8_106), (9, .inl v9_106)], [], sh, gc_h sh I183 J120 A)
                  refine gv_run 7 true hD (pc' := 343) (lv' := [(10, .inl z165), (0, .inr (.inr (some 48))), (1, .inr (.inr (some a1))), (2, .inl a2), (3, .inl a3), (4, .inl a4), (5, .inl v5_76), (6, .inl v6_76), (7, .inl v7_91), (8, .inl v8_106), (9, .inl v9_106)]) (st' := [.inl a4, .inl v7_91, .inl (a2 + 1), .inr (.inr (some a1)), .inr (.inr (some 48))]) (h' := gc_h sh I183 J120 A) (C := (((((((True ∧ True) ∧ True) ∧ True) ∧ True) ∧ True) ∧ True) ∧ True)) rfl ⟨⟨⟨⟨⟨⟨⟨trivial, trivial⟩, trivial⟩, trivial⟩, trivial⟩, trivial⟩, trivial⟩, trivial⟩ ?_
                  refine gv_run 2 true hD (pc' := 345) (lv' := [(10, .inl z165), (0, .inr (.inr (some 48))), (1, .inr (.inr (some a1))), (2, .inl a2), (3, .inl a3), (4, .inl a4), (5, .inl v5_76), (6, .inl v6_76), (7, .inl v7_91), (8, .inl v8_106), (9, .inl v9_106)]) (st' := [.inl (a4 + 1), .inl v7_91, .inl (a2 + 1), .inr (.inr (some a1)), .inr (.inr (some 48))]) (h' := gc_h sh I183 J120 A) (C := ((True ∧ True) ∧ True)) rfl ⟨⟨trivial, trivial⟩, trivial⟩ ?_
                  obtain ⟨r197, h197, E197, P197⟩ := ihR I183 J120 hI183 (a2 + 1) v7_91 (a4 + 1) ⟨by omega, by omega⟩ ⟨by omega, by omega⟩ ⟨by omega, by omega⟩ (by omega) (by rw [show I183 (a1 + 1) = I (a1 + 1) from funext (fun k => (FI183 (a1 + 1) k).resolve_left (by omega)), show Int.toNat (a2 + 1) = Int.toNat a2 + 1 from by omega, gc_ac_nx1 (by omega)]; omega) (gc_lv_fr x2 ((FI183 a1 8).resolve_left (by omega)) ((FI183 a1 4).resolve_left (by omega)) (fun k => (FI183 (a1 + 1) k).resolve_left (by omega))) (by omega) (by omega) (by omega) (gc_SP_fr x6 ((FI183 x 4).resolve_left (by omega)) (fun k => (FI183 (x + 2) k).resolve_left (by omega)) (fun k => (FI183 (x + 3) k).resolve_left (by omega))) (by omega) (by omega) (by omega) (by omega) (by omega) KWV_I183 KFN_I183 (by omega)
                  obtain ⟨I198, J199, rfl, hI198, g197, k197, KWV_I198, KFN_I198, ⟨rfl, q197⟩⟩ := P197
                  have FI198 := gc_frc (W := fun q j => (q = 48 ∧ j = 3) ∨ (q = 48 ∧ j = 6) ∨ (q = 48 ∧ j = 12) ∨ q = 51 ∨ q = 52 ∨ q = 53 ∨ q = 54 ∨ q = 55 ∨ (q = 48 ∧ j = 11) ∨ q = 58 ∨ q = 59 ∨ q = 60) (V := fun q j => (q = 48 ∧ j = 3) ∨ (q = 48 ∧ j = 6) ∨ (q = 48 ∧ j = 12) ∨ q = 51 ∨ q = 52 ∨ q = 53 ∨ q = 54 ∨ q = 55 ∨ (q = 48 ∧ j = 11) ∨ q = 58 ∨ q = 59 ∨ q = 60) FI183 (fun q j h => (h.elim (fun h => (Or.inl h)) (fun h => (h.elim (fun h => (Or.inr (Or.inl h))) (fun h => (h.elim (fun h => (Or.inr (Or.inr (Or.inl h)))) (fun h => (h.elim (fun h => (Or.inr (Or.inr (Or.inr (Or.inl h))))) (fun h => (h.elim (fun h => (Or.inr (Or.inr (Or.inr (Or.inr (Or.inl h)))))) (fun h => (h.elim (fun h => (Or.inr (Or.inr (Or.inr (Or.inr (Or.inr (Or.inl h))))))) (fun h => (h.elim (fun h => (Or.inr (Or.inr (Or.inr (Or.inr (Or.inr (Or.inr (Or.inl h)))))))) (fun h => (h.elim (fun h => (Or.inr (Or.inr (Or.inr (Or.inr (Or.inr (Or.inr (Or.inr (Or.inl h))))))))) (fun h => (h.elim (fun h => (Or.inr (Or.inr (Or.inr (Or.inr (Or.inr (Or.inr (Or.inr (Or.inr (Or.inl h)))))))))) (fun h => (h.elim (fun h => (Or.inr (Or.inr (Or.inr (Or.inr (Or.inr (Or.inr (Or.inr (Or.inr (Or.inr (Or.inl h))))))))))) (fun h => (h.elim (fun h => (Or.inr (Or.inr (Or.inr (Or.inr (Or.inr (Or.inr (Or.inr (Or.inr (Or.inr (Or.inr (Or.inl h)))))))))))) (fun h => (Or.inr (Or.inr (Or.inr (Or.inr (Or.inr (Or.inr (Or.inr (Or.inr (Or.inr (Or.inr (Or.inr h)))))))))))))))))))))))))))))))))) g197
                  have t200 := (g197 48 17).resolve_left (fun h => h.elim (fun h => absurd h.2 (by decide)) (fun h => h.elim (fun h => absurd h.2 (by decide)) (fun h => h.elim (fun h => absurd h.2 (by decide)) (fun h => h.elim (fun h => absurd h (by decide)) (fun h => h.elim (fun h => absurd h (by decide)) (fun h => h.elim (fun h => absurd h (by decide)) (fun h => h.elim (fun h => absurd h (by decide)) (fun h => h.elim (fun h => absurd h (by decide)) (fun h => h.elim (fun h => absurd h.2 (by decide)) (fun h => h.elim (fun h => absurd h (by decide)) (fun h => h.elim (fun h => absurd h (by decide)) (fun h => absurd h (by decide)))))))))))))
                  have t201 := (g197 48 18).resolve_left (fun h => h.elim (fun h => absurd h.2 (by decide)) (fun h => h.elim (fun h => absurd h.2 (by decide)) (fun h => h.elim (fun h => absurd h.2 (by decide)) (fun h => h.elim (fun h => absurd h (by decide)) (fun h => h.elim (fun h => absurd h (by decide)) (fun h => h.elim (fun h => absurd h (by decide)) (fun h => h.elim (fun h => absurd h (by decide)) (fun h => h.elim (fun h => absurd h (by decide)) (fun h => h.elim (fun h => absurd h.2 (by decide)) (fun h => h.elim (fun h => absurd h (by decide)) (fun h => h.elim (fun h => absurd h (by decide)) (fun h => absurd h (by decide)))))))))))))
                  have t202 := (g197 t 13).resolve_left (fun h => h.elim (fun h => absurd h.2 (by decide)) (fun h => h.elim (fun h => absurd h.2 (by decide)) (fun h => h.elim (fun h => absurd h.2 (by decide)) (fun h => h.elim (fun h => absurd h N_t__51) (fun h => h.elim (fun h => absurd h N_t__52) (fun h => h.elim (fun h => absurd h N_t__53) (fun h => h.elim (fun h => absurd h N_t__54) (fun h => h.elim (fun h => absurd h N_t__55) (fun h => h.elim (fun h => absurd h.2 (by decide)) (fun h => h.elim (fun h => absurd h N_t__58) (fun h => h.elim (fun h => absurd h N_t__59) (fun h => absurd h N_t__60))))))))))))
                  have t203 := (g197 x 4).resolve_left (fun h => h.elim (fun h => absurd h.2 (by decide)) (fun h => h.elim (fun h => absurd h.2 (by decide)) (fun h => h.elim (fun h => absurd h.2 (by decide)) (fun h => h.elim (fun h => absurd h N_x__51) (fun h => h.elim (fun h => absurd h N_x__52) (fun h => h.elim (fun h => absurd h N_x__53) (fun h => h.elim (fun h => absurd h N_x__54) (fun h => h.elim (fun h => absurd h N_x__55) (fun h => h.elim (fun h => absurd h.2 (by decide)) (fun h => h.elim (fun h => absurd h N_x__58) (fun h => h.elim (fun h => absurd h N_x__59) (fun h => absurd h N_x__60))))))))))))
                  have t204 := (g197 a1 4).resolve_left (fun h => h.elim (fun h => absurd h.2 (by decide)) (fun h => h.elim (fun h => absurd h.2 (by decide)) (fun h => h.elim (fun h => absurd h.2 (by decide)) (fun h => h.elim (fun h => absurd h N_a1__51) (fun h => h.elim (fun h => absurd h N_a1__52) (fun h => h.elim (fun h => absurd h N_a1__53) (fun h => h.elim (fun h => absurd h N_a1__54) (fun h => h.elim (fun h => absurd h N_a1__55) (fun h => h.elim (fun h => absurd h.2 (by decide)) (fun h => h.elim (fun h => absurd h N_a1__58) (fun h => h.elim (fun h => absurd h N_a1__59) (fun h => absurd h N_a1__60))))))))))))
                  have t205 := (g197 a1 0).resolve_left (fun h => h.elim (fun h => absurd h.2 (by decide)) (fun h => h.elim (fun h => absurd h.2 (by decide)) (fun h => h.elim (fun h => absurd h.2 (by decide)) (fun h => h.elim (fun h => absurd h N_a1__51) (fun h => h.elim (fun h => absurd h N_a1__52) (fun h => h.elim (fun h => absurd h N_a1__53) (fun h => h.elim (fun h => absurd h N_a1__54) (fun h => h.elim (fun h => absurd h N_a1__55) (fun h => h.elim (fun h => absurd h.2 (by decide)) (fun h => h.elim (fun h => absurd h N_a1__58) (fun h => h.elim (fun h => absurd h N_a1__59) (fun h => absurd h N_a1__60))))))))))))
                  have t206 := (g197 48 13).resolve_left (fun h => h.elim (fun h => absurd h.2 (by decide)) (fun h => h.elim (fun h => absurd h.2 (by decide)) (fun h => h.elim (fun h => absurd h.2 (by decide)) (fun h => h.elim (fun h => absurd h (by decide)) (fun h => h.elim (fun h => absurd h (by decide)) (fun h => h.elim (fun h => absurd h (by decide)) (fun h => h.elim (fun h => absurd h (by decide)) (fun h => h.elim (fun h => absurd h (by decide)) (fun h => h.elim (fun h => absurd h.2 (by decide)) (fun h => h.elim (fun h => absurd h (by decide)) (fun h => h.elim (fun h => absurd h (by decide)) (fun h => absurd h (by decide)))))))))))))
                  have t207 := (g197 48 14).resolve_left (fun h => h.elim (fun h => absurd h.2 (by decide)) (fun h => h.elim (fun h => absurd h.2 (by decide)) (fun h => h.elim (fun h => absurd h.2 (by decide)) (fun h => h.elim (fun h => absurd h (by decide)) (fun h => h.elim (fun h => absurd h (by decide)) (fun h => h.elim (fun h => absurd h (by decide)) (fun h => h.elim (fun h => absurd h (by decide)) (fun h => h.elim (fun h => absurd h (by decide)) (fun h => h.elim (fun h => absurd h.2 (by decide)) (fun h => h.elim (fun h => absurd h (by decide)) (fun h => h.elim (fun h => absurd h (by decide)) (fun h => absurd h (by decide)))))))))))))
                  have f208 := (show 0 ≤ I198 48 3 ∧ I198 48 3 ≤ 3000 from gc_in hI198 R_48 rfl rfl)
                  have f209 := (show 0 ≤ I198 48 6 ∧ I198 48 6 ≤ 9000 from gc_in hI198 R_48 rfl rfl)
                  have f210 := (show 0 ≤ I198 48 11 ∧ I198 48 11 ≤ 1000000 from gc_in hI198 R_48 rfl rfl)
                  have f211 := (show 0 ≤ I198 48 12 ∧ I198 48 12 ≤ 1 from gc_in hI198 R_48 rfl rfl)
                  obtain rfl : J120 = J199 := funext fun q => funext fun j => ((k197 q j).resolve_left id).symm
                  refine gv_callV hD rfl (As := [.inr (.inr (some a1)), .inl (a2 + 1), .inl v7_91, .inl (a4 + 1)]) (st := []) rfl B_48 S_48 rfl (gc_lV0 hws rfl) (Nat.le_of_ble_eq_true rfl) (gz_Ev_mono (d := (2 + nr)) (Nat.le_refl _) E197) ?_
                  show gv_X _ _ (348, [(10, .inl z165), (0, .inr (.inr (some 48))), (1, .inr (.inr (some a1))), (2, .inl a2), (3, .inl a3), (4, .inl a4), (5, .inl v5_76), (6, .inl v6_76), (7, .inl v7_91), (8, .inl v8_106), (9, .inl v9_106)], [], sh, gc_h sh I198 J120 A)
                  refine gv_pick [1, 2, 3, 4, 5, 6, 7, 8, 9, 10] rfl ?_
                  exact L348 I198 J120 hI198 FI198 FJ120 KWV_I198 KFN_I198 (by omega)
            have L277 : ∀ (I212 : gr_I) (J213 : gr_J) , gc_Inv ro I212 → (∀ q j : Nat, ((q = 48 ∧ j = 3) ∨ (q = 48 ∧ j = 6) ∨ (q = 48 ∧ j = 12) ∨ q = 51 ∨ q = 52 ∨ q = 53 ∨ q = 54 ∨ q = 55 ∨ (q = 48 ∧ j = 11) ∨ q = 58 ∨ q = 59 ∨ q = 60) ∨ I212 q j = I q j) → (∀ q j : Nat, (False) ∨ J213 q j = J q j) → gc_WV t I212 → gc_FN I212 → ((0 ≤ a2 ∧ a2 ≤ 5) ∧ (0 ≤ a3 ∧ a3 ≤ 24) ∧ (0 ≤ a4 ∧ a4 ≤ 4) ∧ (0 ≤ v5_76 ∧ v5_76 ≤ 5) ∧ (0 ≤ v6_76 ∧ v6_76 ≤ 31) ∧ (1 ≤ v7_91 ∧ v7_91 ≤ 24) ∧ (0 ≤ v8_106 ∧ v8_106 ≤ 18431) ∧ (0 ≤ v9_106 ∧ v9_106 ≤ 2999) ∧ (v5_76 = I a1 4 - a2 - 1) ∧ (a2 < I a1 4) ∧ (a4 ≤ 3) ∧ (0 ≤ I (a1 + 1) (Int.toNat a2)) ∧ (I212 48 11 ≤ 400001) ∧ (I 48 3 ≤ I212 48 3) ∧ (a3 < v7_91) ∧ (v7_91 + v5_76 ≤ I212 48 18) ∧ (v9_106 ≤ 2999) ∧ (I212 a1 4 = I a1 4) ∧ (I212 a1 0 = I a1 0) ∧ (I212 t 13 = I t 13) ∧ (I212 48 18 = I 48 18) ∧ (I212 x 4 = I x 4) ∧ (I212 48 17 = I 48 17) ∧ (I212 48 13 = (t : Int)) ∧ (I212 48 14 = (x : Int))) → gv_X (gc_E0 ws0 tb (2 + nr) (yX0_lay, cX0_lay, 11, none) kX0_lay) (gv_Q cX0_lay none sh (fun r h' => (∃ (I' : gr_I) (J' : gr_J), h' = gc_h sh I' J' A ∧ gc_Inv ro I' ∧ (∀ q j : Nat, ((q = 48 ∧ j = 3) ∨ (q = 48 ∧ j = 6) ∨ (q = 48 ∧ j = 12) ∨ q = 51 ∨ q = 52 ∨ q = 53 ∨ q = 54 ∨ q = 55 ∨ (q = 48 ∧ j = 11) ∨ q = 58 ∨ q = 59 ∨ q = 60) ∨ I' q j = I q j) ∧ (∀ q j : Nat, (False) ∨ J' q j = J q j) ∧ gc_WV t I' ∧ gc_FN I' ∧ r = none ∧ (I' 48 12 = 1 ∨ I' 48 11 ≤ 400000) ∧ (I' 48 11 ≤ 400001) ∧ (I 48 3 ≤ I' 48 3)))) (277, [(0, .inr (.inr (some 48))), (1, .inr (.inr (some a1))), (2, .inl a2), (3, .inl a3), (4, .inl a4), (5, .inl v5_76), (6, .inl v6_76), (7, .inl v7_91), (8, .inl v8_106), (9, .inl v9_106)], [.inr (.inr (some 48))], sh, gc_h sh I212 J213 A) := by
              intro I212 J213 hI212 FI212 FJ213 KWV_I212 KFN_I212 m_214
              clear ha2_106 ha3_106 ha4_106 hv5_76_106 hv6_76_106 hv7_91_106 hv8_106 hv9_106 e0_106 e1_106 e2_106 e3_106 e4_106 e5_106 e6_106 e7_106 e8_106 e9_106 e10_106 e11_106 e12_106 e13_106 e14_106 e15_106 e16_106 f107 f108 f109 f110 f111 f112 f113 f114 f115 f116 f117 f118
              obtain ⟨ha2_214, ha3_214, ha4_214, hv5_76_214, hv6_76_214, hv7_91_214, hv8_106_214, hv9_106_214, e0_214, e1_214, e2_214, e3_214, e4_214, e5_214, e6_214, e7_214, e8_214, e9_214, e10_214, e11_214, e12_214, e13_214, e14_214, e15_214, e16_214⟩ := m_214
              have f215 := (show 0 ≤ I212 48 3 ∧ I212 48 3 ≤ 3000 from gc_in hI212 R_48 rfl rfl)
              have f216 := (show 0 ≤ I212 48 6 ∧ I212 48 6 ≤ 9000 from gc_in hI212 R_48 rfl rfl)
              have f217 := (show 0 ≤ I212 48 11 ∧ I212 48 11 ≤ 1000000 from gc_in hI212 R_48 rfl rfl)
              have f218 := (show 0 ≤ I212 48 12 ∧ I212 48 12 ≤ 1 from gc_in hI212 R_48 rfl rfl)
              have f219 := (show 0 ≤ I212 48 17 ∧ I212 48 17 ≤ 3000 from gc_in hI212 R_48 rfl rfl)
              have f220 := (show 0 ≤ I212 48 18 ∧ I212 48 18 ≤ 24 from gc_in hI212 R_48 rfl rfl)
              have f221 := (show 0 ≤ I212 t 13 ∧ I212 t 13 ≤ 384 from gc_in hI212 R_t rfl rfl)
              have f222 := (show 0 ≤ I212 x 4 ∧ I212 x 4 ≤ 24 from gc_in hI212 R_x rfl rfl)
              have f223 := (show 0 ≤ I212 a1 4 ∧ I212 a1 4 ≤ 6 from gc_in hI212 R_a1 rfl rfl)
              have f224 := (show 0 ≤ I212 a1 0 ∧ I212 a1 0 ≤ 384 from gc_in hI212 R_a1 rfl rfl)
              have f225 := (show (-1) ≤ I212 48 13 ∧ I212 48 13 ≤ 999999 from gc_in hI212 R_48 rfl rfl)
              have f226 := (show (-1) ≤ I212 48 14 ∧ I212 48 14 ≤ 999999 from gc_in hI212 R_48 rfl rfl)
              refine gv_run 2 true hD (pc' := 282) (lv' := [(0, .inr (.inr (some 48))), (1, .inr (.inr (some a1))), (2, .inl a2), (3, .inl a3), (4, .inl a4), (5, .inl v5_76), (6, .inl v6_76), (7, .inl v7_91), (8, .inl v8_106), (9, .inl v9_106)]) (st' := [.inl 1, .inr (.inr (some 48))]) (h' := gc_h sh I212 J213 A) (C := ((True ∧ True) ∧ True)) rfl ⟨⟨trivial, trivial⟩, trivial⟩ ?_
              exact L282 I212 J213 1 hI212 FI212 FJ213 KWV_I212 KFN_I212 (by omega)
            have L354 : ((0 ≤ a2 ∧ a2 ≤ 5) ∧ (0 ≤ a3 ∧ a3 ≤ 24) ∧ (0 ≤ a4 ∧ a4 ≤ 4) ∧ (0 ≤ v5_76 ∧ v5_76 ≤ 5) ∧ (0 ≤ v6_76 ∧ v6_76 ≤ 31) ∧ (1 ≤ v7_91 ∧ v7_91 ≤ 24) ∧ (v5_76 = I a1 4 - a2 - 1) ∧ (a2 < I a1 4) ∧ (a4 ≤ 3) ∧ (0 ≤ I (a1 + 1) (Int.toNat a2)) ∧ (I104 48 11 ≤ 400001) ∧ (I 48 3 ≤ I104 48 3) ∧ (I104 48 12 = 1 ∨ I104 48 11 ≤ 400000) ∧ (a3 < v7_91) ∧ (v7_91 + v5_76 ≤ I104 48 18) ∧ (I104 a1 4 = I a1 4) ∧ (I104 a1 0 = I a1 0) ∧ (I104 t 13 = I t 13) ∧ (I104 48 18 = I 48 18) ∧ (I104 x 4 = I x 4) ∧ (I104 48 17 = I 48 17) ∧ (I104 48 13 = (t : Int)) ∧ (I104 48 14 = (x : Int))) → gv_X (gc_E0 ws0 tb (2 + nr) (yX0_lay, cX0_lay, 11, none) kX0_lay) (gv_Q cX0_lay none sh (fun r h' => (∃ (I' : gr_I) (J' : gr_J), h' = gc_h sh I' J' A ∧ gc_Inv ro I' ∧ (∀ q j : Nat, ((q = 48 ∧ j = 3) ∨ (q = 48 ∧ j = 6) ∨ (q = 48 ∧ j = 12) ∨ q = 51 ∨ q = 52 ∨ q = 53 ∨ q = 54 ∨ q = 55 ∨ (q = 48 ∧ j = 11) ∨ q = 58 ∨ q = 59 ∨ q = 60) ∨ I' q j = I q j) ∧ (∀ q j : Nat, (False) ∨ J' q j = J q j) ∧ gc_WV t I' ∧ gc_FN I' ∧ r = none ∧ (I' 48 12 = 1 ∨ I' 48 11 ≤ 400000) ∧ (I' 48 11 ≤ 400001) ∧ (I 48 3 ≤ I' 48 3)))) (354, [(0, .inr (.inr (some 48))), (1, .inr (.inr (some a1))), (2, .inl a2), (3, .inl a3), (4, .inl a4), (5, .inl v5_76), (6, .inl v6_76), (7, .inl v7_91)], [], sh, gc_h sh I104 J105 A) := by
              intro m_227
              obtain ⟨ha2_227, ha3_227, ha4_227, hv5_76_227, hv6_76_227, hv7_91_227, e0_227, e1_227, e2_227, e3_227, e4_227, e5_227, e6_227, e7_227, e8_227, e9_227, e10_227, e11_227, e12_227, e13_227, e14_227, e15_227, e16_227⟩ := m_227
              have f228 := (show 0 ≤ I104 48 3 ∧ I104 48 3 ≤ 3000 from gc_in hI104 R_48 rfl rfl)
              have f229 := (show 0 ≤ I104 48 6 ∧ I104 48 6 ≤ 9000 from gc_in hI104 R_48 rfl rfl)
              have f230 := (show 0 ≤ I104 48 11 ∧ I104 48 11 ≤ 1000000 from gc_in hI104 R_48 rfl rfl)
              have f231 := (show 0 ≤ I104 48 12 ∧ I104 48 12 ≤ 1 from gc_in hI104 R_48 rfl rfl)
              have f232 := (show 0 ≤ I104 48 17 ∧ I104 48 17 ≤ 3000 from gc_in hI104 R_48 rfl rfl)
              have f233 := (show 0 ≤ I104 48 18 ∧ I104 48 18 ≤ 24 from gc_in hI104 R_48 rfl rfl)
              have f234 := (show 0 ≤ I104 t 13 ∧ I104 t 13 ≤ 384 from gc_in hI104 R_t rfl rfl)
              have f235 := (show 0 ≤ I104 x 4 ∧ I104 x 4 ≤ 24 from gc_in hI104 R_x rfl rfl)
              have f236 := (show 0 ≤ I104 a1 4 ∧ I104 a1 4 ≤ 6 from gc_in hI104 R_a1 rfl rfl)
              have f237 := (show 0 ≤ I104 a1 0 ∧ I104 a1 0 ≤ 384 from gc_in hI104 R_a1 rfl rfl)
              have f238 := (show (-1) ≤ I104 48 13 ∧ I104 48 13 ≤ 999999 from gc_in hI104 R_48 rfl rfl)
              have f239 := (show (-1) ≤ I104 48 14 ∧ I104 48 14 ≤ 999999 from gc_in hI104 R_48 rfl rfl)
              refine gv_run 2 true hD (pc' := 183) (lv' := [(7, .inl (v7_91 + 1)), (0, .inr (.inr (some 48))), (1, .inr (.inr (some a1))), (2, .inl a2), (3, .inl a3), (4, .inl a4), (5, .inl v5_76), (6, .inl v6_76)]) (st' := []) (h' := gc_h sh I104 J105 A) (C := ((True ∧ True) ∧ True)) rfl ⟨⟨trivial, trivial⟩, trivial⟩ ?_
              refine gv_pick [1, 2, 3, 4, 5, 6, 7, 0] rfl ?_
              exact ih183 I104 J105 (v7_91 + 1) (by omega) hI104 FI104 FJ105 KWV_I104 KFN_I104 (by omega)
            have t240 := KFN_I104 (Int.toNat v8_106) (by omega)
            refine gv_run 2 true hD (pc' := 226) (lv' := [(0, .inr (.inr (some 48))), (1, .inr (.inr (some a1))), (2, .inl a2), (3, .inl a3), (4, .inl a4), (5, .inl v5_76), (6, .inl v6_76), (7, .inl v7_91), (8, .inl v8_106), (9, .inl v9_106)]) (st' := [.inr (.inr (some 48)), .inl v9_106]) (h' := gc_h sh I104 J105 A) (C := ((True ∧ True) ∧ True)) rfl ⟨⟨trivial, trivial⟩, trivial⟩ ?_
            refine gv_get hD rfl rfl S_48 ⟨by decide, B_48⟩ (gc_hA S_48 rfl A_48_1) ?_
            show gv_X _ _ (229, [(0, .inr (.inr (some 48))), (1, .inr (.inr (some a1))), (2, .inl a2), (3, .inl a3), (4, .inl a4), (5, .inl v5_76), (6, .inl v6_76), (7, .inl v7_91), (8, .inl v8_106), (9, .inl v9_106)], [.inr (.inr (some 49)), .inl v9_106], sh, gc_h sh I104 J105 A)
            refine gv_run 1 true hD (pc' := 231) (lv' := [(0, .inr (.inr (some 48))), (1, .inr (.inr (some a1))), (2, .inl a2), (3, .inl a3), (4, .inl a4), (5, .inl v5_76), (6, .inl v6_76), (7, .inl v7_91), (8, .inl v8_106), (9, .inl v9_106)]) (st' := [.inl v8_106, .inr (.inr (some 49)), .inl v9_106]) (h' := gc_h sh I104 J105 A) (C := (True ∧ True)) rfl ⟨trivial, trivial⟩ ?_
            have f241 := (show 0 ≤ I104 49 (Int.toNat v8_106) ∧ I104 49 (Int.toNat v8_106) ≤ 3000 from gc_in hI104 R_49 rfl rfl)
            refine gv_iald hD rfl S_49 rfl ⟨by decide, B_49⟩ ⟨by omega, by omega⟩ (gc_iI S_49 rfl) ?_
            show gv_X _ _ (232, [(0, .inr (.inr (some 48))), (1, .inr (.inr (some a1))), (2, .inl a2), (3, .inl a3), (4, .inl a4), (5, .inl v5_76), (6, .inl v6_76), (7, .inl v7_91), (8, .inl v8_106), (9, .inl v9_106)], [.inl (I104 49 (Int.toNat v8_106)), .inl v9_106], sh, gc_h sh I104 J105 A)
            refine gv_run 1 true hD (pc' := 233) (lv' := [(0, .inr (.inr (some 48))), (1, .inr (.inr (some a1))), (2, .inl a2), (3, .inl a3), (4, .inl a4), (5, .inl v5_76), (6, .inl v6_76), (7, .inl v7_91), (8, .inl v8_106), (9, .inl v9_106)]) (st' := [.inr (.inr (some 48)), .inl (I104 49 (Int.toNat v8_106)), .inl v9_106]) (h' := gc_h sh I104 J105 A) (C := (True ∧ True)) rfl ⟨trivial, trivial⟩ ?_
            refine gv_get hD rfl rfl S_48 ⟨by decide, B_48⟩ (gc_hA S_48 rfl A_48_2) ?_
            show gv_X _ _ (236, [(0, .inr (.inr (some 48))), (1, .inr (.inr (some a1))), (2, .inl a2), (3, .inl a3), (4, .inl a4), (5, .inl v5_76), (6, .inl v6_76), (7, .inl v7_91), (8, .inl v8_106), (9, .inl v9_106)], [.inr (.inr (some 50)), .inl (I104 49 (Int.toNat v8_106)), .inl v9_106], sh, gc_h sh I104 J105 A)
            refine gv_run 1 true hD (pc' := 238) (lv' := [(0, .inr (.inr (some 48))), (1, .inr (.inr (some a1))), (2, .inl a2), (3, .inl a3), (4, .inl a4), (5, .inl v5_76), (6, .inl v6_76), (7, .inl v7_91), (8, .inl v8_106), (9, .inl v9_106)]) (st' := [.inl v8_106, .inr (.inr (some 50)), .inl (I104 49 (Int.toNat v8_106)), .inl v9_106]) (h' := gc_h sh I104 J105 A) (C := (True ∧ True)) rfl ⟨trivial, trivial⟩ ?_
            have f242 := (show 0 ≤ I104 50 (Int.toNat v8_106) ∧ I104 50 (Int.toNat v8_106) ≤ 3000 from gc_in hI104 R_50 rfl rfl)
            refine gv_iald hD rfl S_50 rfl ⟨by decide, B_50⟩ ⟨by omega, by omega⟩ (gc_iI S_50 rfl) ?_
            show gv_X _ _ (239, [(0, .inr (.inr (some 48))), (1, .inr (.inr (some a1))), (2, .inl a2), (3, .inl a3), (4, .inl a4), (5, .inl v5_76), (6, .inl v6_76), (7, .inl v7_91), (8, .inl v8_106), (9, .inl v9_106)], [.inl (I104 50 (Int.toNat v8_106)), .inl (I104 49 (Int.toNat v8_106)), .inl v9_106], sh, gc_h sh I104 J105 A)
            refine gv_run 1 true hD (pc' := 240) (lv' := [(0, .inr (.inr (some 48))), (1, .inr (.inr (some a1))), (2, .inl a2), (3, .inl a3), (4, .inl a4), (5, .inl v5_76), (6, .inl v6_76), (7, .inl v7_91), (8, .inl v8_106), (9, .inl v9_106)]) (st' := [.inl ((I104 49 (Int.toNat v8_106)) + (I104 50 (Int.toNat v8_106))), .inl v9_106]) (h' := gc_h sh I104 J105 A) (C := (True ∧ True)) rfl ⟨trivial, trivial⟩ ?_
            refine gv_icmp_ge (t := 354) hD rfl rfl ⟨⟨by omega, by omega⟩, ⟨by omega, by omega⟩⟩ (fun c243 => ?_) (fun c243 => ?_)
            · show gv_X _ _ (354, [(0, .inr (.inr (some 48))), (1, .inr (.inr (some a1))), (2, .inl a2), (3, .inl a3), (4, .inl a4), (5, .inl v5_76), (6, .inl v6_76), (7, .inl v7_91), (8, .inl v8_106), (9, .inl v9_106)], [], sh, gc_h sh I104 J105 A)
              refine gv_pick [0, 1, 2, 3, 4, 5, 6, 7] rfl ?_
              exact L354 (by omega)
            · show gv_X _ _ (243, [(0, .inr (.inr (some 48))), (1, .inr (.inr (some a1))), (2, .inl a2), (3, .inl a3), (4, .inl a4), (5, .inl v5_76), (6, .inl v6_76), (7, .inl v7_91), (8, .inl v8_106), (9, .inl v9_106)], [], sh, gc_h sh I104 J105 A)
              refine gv_run 1 true hD (pc' := 244) (lv' := [(0, .inr (.inr (some 48))), (1, .inr (.inr (some a1))), (2, .inl a2), (3, .inl a3), (4, .inl a4), (5, .inl v5_76), (6, .inl v6_76), (7, .inl v7_91), (8, .inl v8_106), (9, .inl v9_106)]) (st' := [.inr (.inr (some 48))]) (h' := gc_h sh I104 J105 A) (C := (True ∧ True)) rfl ⟨trivial, trivial⟩ ?_
              have f244 := (show 0 ≤ I104 48 12 ∧ I104 48 12 ≤ 1 from gc_in hI104 R_48 rfl rfl)
              refine gv_get hD rfl rfl S_48 ⟨by decide, B_48⟩ (gc_hI S_48 rfl) ?_
              show gv_X _ _ (247, [(0, .inr (.inr (some 48))), (1, .inr (.inr (some a1))), (2, .inl a2), (3, .inl a3), (4, .inl a4), (5, .inl v5_76), (6, .inl v6_76), (7, .inl v7_91), (8, .inl v8_106), (9, .inl v9_106)], [.inl (I104 48 12)], sh, gc_h sh I104 J105 A)
              refine gv_if_ne (t := 354) hD rfl rfl ⟨by omega, by omega⟩ (fun c245 => ?_) (fun c245 => ?_)
              · show gv_X _ _ (354, [(0, .inr (.inr (some 48))), (1, .inr (.inr (some a1))), (2, .inl a2), (3, .inl a3), (4, .inl a4), (5, .inl v5_76), (6, .inl v6_76), (7, .inl v7_91), (8, .inl v8_106), (9, .inl v9_106)], [], sh, gc_h sh I104 J105 A)
                refine gv_pick [0, 1, 2, 3, 4, 5, 6, 7] rfl ?_
                exact L354 (by omega)
              · show gv_X _ _ (250, [(0, .inr (.inr (some 48))), (1, .inr (.inr (some a1))), (2, .inl a2), (3, .inl a3), (4, .inl a4), (5, .inl v5_76), (6, .inl v6_76), (7, .inl v7_91), (8, .inl v8_106), (9, .inl v9_106)], [], sh, gc_h sh I104 J105 A)
                refine gv_run 2 true hD (pc' := 252) (lv' := [(0, .inr (.inr (some 48))), (1, .inr (.inr (some a1))), (2, .inl a2), (3, .inl a3), (4, .inl a4), (5, .inl v5_76), (6, .inl v6_76), (7, .inl v7_91), (8, .inl v8_106), (9, .inl v9_106)]) (st' := [.inr (.inr (some 48)), .inr (.inr (some 48))]) (h' := gc_h sh I104 J105 A) (C := ((True ∧ True) ∧ True)) rfl ⟨⟨trivial, trivial⟩, trivial⟩ ?_
                have f246 := (show 0 ≤ I104 48 11 ∧ I104 48 11 ≤ 1000000 from gc_in hI104 R_48 rfl rfl)
                refine gv_get hD rfl rfl S_48 ⟨by decide, B_48⟩ (gc_hI S_48 rfl) ?_
                show gv_X _ _ (255, [(0, .inr (.inr (some 48))), (1, .inr (.inr (some a1))), (2, .inl a2), (3, .inl a3), (4, .inl a4), (5, .inl v5_76), (6, .inl v6_76), (7, .inl v7_91), (8, .inl v8_106), (9, .inl v9_106)], [.inl (I104 48 11), .inr (.inr (some 48))], sh, gc_h sh I104 J105 A)
                refine gv_run 2 true hD (pc' := 257) (lv' := [(0, .inr (.inr (some 48))), (1, .inr (.inr (some a1))), (2, .inl a2), (3, .inl a3), (4, .inl a4), (5, .inl v5_76), (6, .inl v6_76), (7, .inl v7_91), (8, .inl v8_106), (9, .inl v9_106)]) (st' := [.inl ((I104 48 11) + 1), .inr (.inr (some 48))]) (h' := gc_h sh I104 J105 A) (C := ((True ∧ True) ∧ True)) rfl ⟨⟨trivial, trivial⟩, trivial⟩ ?_
                refine gv_put hD rfl rfl S_48 ⟨by decide, B_48⟩ rfl trivial ?_
                refine gc_st (k := 11) hI104 S_48 rfl R_48 (lo := 0) (hi := 1000000) rfl rfl (by omega) (by omega) (fun I247 hI247 q248 p248 => ?_)
                have FI247 := gc_frs (W := fun q j => (q = 48 ∧ j = 3) ∨ (q = 48 ∧ j = 6) ∨ (q = 48 ∧ j = 12) ∨ q = 51 ∨ q = 52 ∨ q = 53 ∨ q = 54 ∨ q = 55 ∨ (q = 48 ∧ j = 11) ∨ q = 58 ∨ q = 59 ∨ q = 60) FI104 (Or.inr (Or.inr (Or.inr (Or.inr (Or.inr (Or.inr (Or.inr (Or.inr (Or.inl ⟨rfl, rfl⟩))))))))) p248
                have t249 := p248 48 3 (fun h => absurd h.2 (by decide))
                have t250 := p248 48 6 (fun h => absurd h.2 (by decide))
                have t251 := p248 48 12 (fun h => absurd h.2 (by decide))
                have t252 := p248 48 17 (fun h => absurd h.2 (by decide))
                have t253 := p248 48 18 (fun h => absurd h.2 (by decide))
                have t254 := p248 t 13 (fun h => absurd h.2 (by decide))
                have t255 := p248 x 4 (fun h => absurd h.2 (by decide))
                have t256 := p248 a1 4 (fun h => absurd h.2 (by decide))
                have t257 := p248 a1 0 (fun h => absurd h.2 (by decide))
                have t258 := p248 48 13 (fun h => absurd h.2 (by decide))
                have t259 := p248 48 14 (fun h => absurd h.2 (by decide))
                have f260 := (show 0 ≤ I247 48 11 ∧ I247 48 11 ≤ 1000000 from gc_in hI247 R_48 rfl rfl)
                have KWV_I247 := gc_WV_fr KWV_I104 (p248 48 6 (fun h => absurd h.2 (by decide))) (p248 t 13 (fun h => absurd h.2 (by decide))) (fun k => p248 54 k (fun h => absurd h.1 (by decide)))
                have KFN_I247 := gc_FN_fr KFN_I104 (fun k => p248 49 k (fun h => absurd h.1 (by decide))) (fun k => p248 50 k (fun h => absurd h.1 (by decide)))
                show gv_X _ _ (260, [(0, .inr (.inr (some 48))), (1, .inr (.inr (some a1))), (2, .inl a2), (3, .inl a3), (4, .inl a4), (5, .inl v5_76), (6, .inl v6_76), (7, .inl v7_91), (8, .inl v8_106), (9, .inl v9_106)], [], sh, gc_h sh I247 J105 A)
                refine gv_run 2 true hD (pc' := 262) (lv' := [(0, .inr (.inr (some 48))), (1, .inr (.inr (some a1))), (2, .inl a2), (3, .inl a3), (4, .inl a4), (5, .inl v5_76), (6, .inl v6_76), (7, .inl v7_91), (8, .inl v8_106), (9, .inl v9_106)]) (st' := [.inr (.inr (some 48)), .inr (.inr (some 48))]) (h' := gc_h sh I247 J105 A) (C := ((True ∧ True) ∧ True)) rfl ⟨⟨trivial, trivial⟩, trivial⟩ ?_
                have f261 := (show 0 ≤ I247 48 12 ∧ I247 48 12 ≤ 1 from gc_in hI247 R_48 rfl rfl)
                refine gv_get hD rfl rfl S_48 ⟨by decide, B_48⟩ (gc_hI S_48 rfl) ?_
                show gv_X _ _ (265, [(0, .inr (.inr (some 48))), (1, .inr (.inr (some a1))), (2, .inl a2), (3, .inl a3), (4, .inl a4), (5, .inl v5_76), (6, .inl v6_76), (7, .inl v7_91), (8, .inl v8_106), (9, .inl v9_106)], [.inl (I247 48 12), .inr (.inr (some 48))], sh, gc_h sh I247 J105 A)
                refine gv_if_ne (t := 277) hD rfl rfl ⟨by omega, by omega⟩ (fun c262 => ?_) (fun c262 => ?_)
                · show gv_X _ _ (277, [(0, .inr (.inr (some 48))), (1, .inr (.inr (some a1))), (2, .inl a2), (3, .inl a3), (4, .inl a4), (5, .inl v5_76), (6, .inl v6_76), (7, .inl v7_91), (8, .inl v8_106), (9, .inl v9_106)], [.inr (.inr (some 48))], sh, gc_h sh I247 J105 A)
                  exact L277 I247 J105 hI247 FI247 FJ105 KWV_I247 KFN_I247 (by omega)
                · show gv_X _ _ (268, [(0, .inr (.inr (some 48))), (1, .inr (.inr (some a1))), (2, .inl a2), (3, .inl a3), (4, .inl a4), (5, .inl v5_76), (6, .inl v6_76), (7, .inl v7_91), (8, .inl v8_106), (9, .inl v9_106)], [.inr (.inr (some 48))], sh, gc_h sh I247 J105 A)
                  refine gv_run 1 true hD (pc' := 269) (lv' := [(0, .inr (.inr (some 48))), (1, .inr (.inr (some a1))), (2, .inl a2), (3, .inl a3), (4, .inl a4), (5, .inl v5_76), (6, .inl v6_76), (7, .inl v7_91), (8, .inl v8_106), (9, .inl v9_106)]) (st' := [.inr (.inr (some 48)), .inr (.inr (some 48))]) (h' := gc_h sh I247 J105 A) (C := (True ∧ True)) rfl ⟨trivial, trivial⟩ ?_
                  have f263 := (show 0 ≤ I247 48 11 ∧ I247 48 11 ≤ 1000000 from gc_in hI247 R_48 rfl rfl)
                  refine gv_get hD rfl rfl S_48 ⟨by decide, B_48⟩ (gc_hI S_48 rfl) ?_
                  show gv_X _ _ (272, [(0, .inr (.inr (some 48))), (1, .inr (.inr (some a1))), (2, .inl a2), (3, .inl a3), (4, .inl a4), (5, .inl v5_76), (6, .inl v6_76), (7, .inl v7_91), (8, .inl v8_106), (9, .inl v9_106)], [.inl (I247 48 11), .inr (.inr (some 48))], sh, gc_h sh I247 J105 A)
                  refine gv_run 1 true hD (pc' := 274) (lv' := [(0, .inr (.inr (some 48))), (1, .inr (.inr (some a1))), (2, .inl a2), (3, .inl a3), (4, .inl a4), (5, .inl v5_76), (6, .inl v6_76), (7, .inl v7_91), (8, .inl v8_106), (9, .inl v9_106)]) (st' := [.inl 400000, .inl (I247 48 11), .inr (.inr (some 48))]) (h' := gc_h sh I247 J105 A) (C := (True ∧ True)) rfl ⟨trivial, trivial⟩ ?_
                  refine gv_icmp_le (t := 281) hD rfl rfl ⟨⟨by omega, by omega⟩, ⟨by omega, by omega⟩⟩ (fun c264 => ?_) (fun c264 => ?_)
                  · show gv_X _ _ (281, [(0, .inr (.inr (some 48))), (1, .inr (.inr (some a1))), (2, .inl a2), (3, .inl a3), (4, .inl a4), (5, .inl v5_76), (6, .inl v6_76), (7, .inl v7_91), (8, .inl v8_106), (9, .inl v9_106)], [.inr (.inr (some 48))], sh, gc_h sh I247 J105 A)
                    refine gv_run 1 true hD (pc' := 282) (lv' := [(0, .inr (.inr (some 48))), (1, .inr (.inr (some a1))), (2, .inl a2), (3, .inl a3), (4, .inl a4), (5, .inl v5_76), (6, .inl v6_76), (7, .inl v7_91), (8, .inl v8_106), (9, .inl v9_106)]) (st' := [.inl 0, .inr (.inr (some 48))]) (h' := gc_h sh I247 J105 A) (C := (True ∧ True)) rfl ⟨trivial, trivial⟩ ?_
                    exact L282 I247 J105 0 hI247 FI247 FJ105 KWV_I247 KFN_I247 (by omega)
                  · show gv_X _ _ (277, [(0, .inr (.inr (some 48))), (1, .inr (.inr (some a1))), (2, .inl a2), (3, .inl a3), (4, .inl a4), (5, .inl v5_76), (6, .inl v6_76), (7, .inl v7_91), (8, .inl v8_106), (9, .inl v9_106)], [.inr (.inr (some 48))], sh, gc_h sh I247 J105 A)
                    exact L277 I247 J105 hI247 FI247 FJ105 KWV_I247 KFN_I247 (by omega)
        have L360 : ((I89 48 11 ≤ 400001) ∧ (I 48 3 ≤ I89 48 3) ∧ (I89 48 12 = 1 ∨ I89 48 11 ≤ 400000) ∧ (I89 a1 4 = I a1 4) ∧ (I89 a1 0 = I a1 0) ∧ (I89 t 13 = I t 13) ∧ (I89 48 18 = I 48 18) ∧ (I89 x 4 = I x 4) ∧ (I89 48 17 = I 48 17) ∧ (I89 48 13 = (t : Int)) ∧ (I89 48 14 = (x : Int))) → gv_X (gc_E0 ws0 tb (2 + nr) (yX0_lay, cX0_lay, 11, none) kX0_lay) (gv_Q cX0_lay none sh (fun r h' => (∃ (I' : gr_I) (J' : gr_J), h' = gc_h sh I' J' A ∧ gc_Inv ro I' ∧ (∀ q j : Nat, ((q = 48 ∧ j = 3) ∨ (q = 48 ∧ j = 6) ∨ (q = 48 ∧ j = 12) ∨ q = 51 ∨ q = 52 ∨ q = 53 ∨ q = 54 ∨ q = 55 ∨ (q = 48 ∧ j = 11) ∨ q = 58 ∨ q = 59 ∨ q = 60) ∨ I' q j = I q j) ∧ (∀ q j : Nat, (False) ∨ J' q j = J q j) ∧ gc_WV t I' ∧ gc_FN I' ∧ r = none ∧ (I' 48 12 = 1 ∨ I' 48 11 ≤ 400000) ∧ (I' 48 11 ≤ 400001) ∧ (I 48 3 ≤ I' 48 3)))) (360, [], [], sh, gc_h sh I89 J90 A) := by
          intro m_265
          obtain ⟨e0_265, e1_265, e2_265, e3_265, e4_265, e5_265, e6_265, e7_265, e8_265, e9_265, e10_265⟩ := m_265
          have f266 := (show 0 ≤ I89 48 3 ∧ I89 48 3 ≤ 3000 from gc_in hI89 R_48 rfl rfl)
          have f267 := (show 0 ≤ I89 48 6 ∧ I89 48 6 ≤ 9000 from gc_in hI89 R_48 rfl rfl)
          have f268 := (show 0 ≤ I89 48 11 ∧ I89 48 11 ≤ 1000000 from gc_in hI89 R_48 rfl rfl)
          have f269 := (show 0 ≤ I89 48 12 ∧ I89 48 12 ≤ 1 from gc_in hI89 R_48 rfl rfl)
          have f270 := (show 0 ≤ I89 48 17 ∧ I89 48 17 ≤ 3000 from gc_in hI89 R_48 rfl rfl)
          have f271 := (show 0 ≤ I89 48 18 ∧ I89 48 18 ≤ 24 from gc_in hI89 R_48 rfl rfl)
          have f272 := (show 0 ≤ I89 t 13 ∧ I89 t 13 ≤ 384 from gc_in hI89 R_t rfl rfl)
          have f273 := (show 0 ≤ I89 x 4 ∧ I89 x 4 ≤ 24 from gc_in hI89 R_x rfl rfl)
          have f274 := (show 0 ≤ I89 a1 4 ∧ I89 a1 4 ≤ 6 from gc_in hI89 R_a1 rfl rfl)
          have f275 := (show 0 ≤ I89 a1 0 ∧ I89 a1 0 ≤ 384 from gc_in hI89 R_a1 rfl rfl)
          have f276 := (show (-1) ≤ I89 48 13 ∧ I89 48 13 ≤ 999999 from gc_in hI89 R_48 rfl rfl)
          have f277 := (show (-1) ≤ I89 48 14 ∧ I89 48 14 ≤ 999999 from gc_in hI89 R_48 rfl rfl)
          exact gv_vret hD rfl ⟨I89, J90, rfl, hI89, FI89, FJ90, KWV_I89, KFN_I89, ⟨rfl, by omega⟩⟩
        refine gv_run 2 true hD (pc' := 186) (lv' := [(0, .inr (.inr (some 48))), (1, .inr (.inr (some a1))), (2, .inl a2), (3, .inl a3), (4, .inl a4), (5, .inl v5_76), (6, .inl v6_76), (7, .inl v7_91)]) (st' := [.inr (.inr (some 48)), .inl v7_91]) (h' := gc_h sh I89 J90 A) (C := ((True ∧ True) ∧ True)) rfl ⟨⟨trivial, trivial⟩, trivial⟩ ?_
        have f278 := (show 0 ≤ I89 48 18 ∧ I89 48 18 ≤ 24 from gc_in hI89 R_48 rfl rfl)
        refine gv_get hD rfl rfl S_48 ⟨by decide, B_48⟩ (gc_hI S_48 rfl) ?_
        show gv_X _ _ (189, [(0, .inr (.inr (some 48))), (1, .inr (.inr (some a1))), (2, .inl a2), (3, .inl a3), (4, .inl a4), (5, .inl v5_76), (6, .inl v6_76), (7, .inl v7_91)], [.inl (I89 48 18), .inl v7_91], sh, gc_h sh I89 J90 A)
        refine gv_run 2 true hD (pc' := 192) (lv' := [(0, .inr (.inr (some 48))), (1, .inr (.inr (some a1))), (2, .inl a2), (3, .inl a3), (4, .inl a4), (5, .inl v5_76), (6, .inl v6_76), (7, .inl v7_91)]) (st' := [.inl ((I89 48 18) - v5_76), .inl v7_91]) (h' := gc_h sh I89 J90 A) (C := ((True ∧ True) ∧ True)) rfl ⟨⟨trivial, trivial⟩, trivial⟩ ?_
        refine gv_icmp_gt (t := 360) hD rfl rfl ⟨⟨by omega, by omega⟩, ⟨by omega, by omega⟩⟩ (fun c279 => ?_) (fun c279 => ?_)
        · show gv_X _ _ (360, [(0, .inr (.inr (some 48))), (1, .inr (.inr (some a1))), (2, .inl a2), (3, .inl a3), (4, .inl a4), (5, .inl v5_76), (6, .inl v6_76), (7, .inl v7_91)], [], sh, gc_h sh I89 J90 A)
          refine gv_pick [] rfl ?_
          exact L360 (by omega)
        · show gv_X _ _ (195, [(0, .inr (.inr (some 48))), (1, .inr (.inr (some a1))), (2, .inl a2), (3, .inl a3), (4, .inl a4), (5, .inl v5_76), (6, .inl v6_76), (7, .inl v7_91)], [], sh, gc_h sh I89 J90 A)
          refine gv_run 1 true hD (pc' := 196) (lv' := [(0, .inr (.inr (some 48))), (1, .inr (.inr (some a1))), (2, .inl a2), (3, .inl a3), (4, .inl a4), (5, .inl v5_76), (6, .inl v6_76), (7, .inl v7_91)]) (st' := [.inr (.inr (some 48))]) (h' := gc_h sh I89 J90 A) (C := (True ∧ True)) rfl ⟨trivial, trivial⟩ ?_
          have f280 := (show 0 ≤ I89 48 12 ∧ I89 48 12 ≤ 1 from gc_in hI89 R_48 rfl rfl)
          refine gv_get hD rfl rfl S_48 ⟨by decide, B_48⟩ (gc_hI S_48 rfl) ?_
          show gv_X _ _ (199, [(0, .inr (.inr (some 48))), (1, .inr (.inr (some a1))), (2, .inl a2), (3, .inl a3), (4, .inl a4), (5, .inl v5_76), (6, .inl v6_76), (7, .inl v7_91)], [.inl (I89 48 12)], sh, gc_h sh I89 J90 A)
          refine gv_if_ne (t := 360) hD rfl rfl ⟨by omega, by omega⟩ (fun c281 => ?_) (fun c281 => ?_)
          · show gv_X _ _ (360, [(0, .inr (.inr (some 48))), (1, .inr (.inr (some a1))), (2, .inl a2), (3, .inl a3), (4, .inl a4), (5, .inl v5_76), (6, .inl v6_76), (7, .inl v7_91)], [], sh, gc_h sh I89 J90 A)
            refine gv_pick [] rfl ?_
            exact L360 (by omega)
          · show gv_X _ _ (202, [(0, .inr (.inr (some 48))), (1, .inr (.inr (some a1))), (2, .inl a2), (3, .inl a3), (4, .inl a4), (5, .inl v5_76), (6, .inl v6_76), (7, .inl v7_91)], [], sh, gc_h sh I89 J90 A)
            refine gv_run 5 true hD (pc' := 209) (lv' := [(0, .inr (.inr (some 48))), (1, .inr (.inr (some a1))), (2, .inl a2), (3, .inl a3), (4, .inl a4), (5, .inl v5_76), (6, .inl v6_76), (7, .inl v7_91)]) (st' := [.inl v6_76, .inl (v7_91 - a3), .inl a3]) (h' := gc_h sh I89 J90 A) (C := (((((True ∧ True) ∧ True) ∧ True) ∧ True) ∧ True)) rfl ⟨⟨⟨⟨⟨trivial, trivial⟩, trivial⟩, trivial⟩, trivial⟩, trivial⟩ ?_
            obtain ⟨r282, h282, E282, P282⟩ := d_X0_spanAt (ws0 := ws0) (tb := tb) hws htb sh ro I89 J90 A hI89  a3 (v7_91 - a3) v6_76 hb   ⟨by omega, by omega⟩ ⟨by omega, by omega⟩ ⟨by omega, by omega⟩  
            obtain ⟨rfl, ⟨z282, rfl, q282⟩⟩ := P282
            refine gv_callS hD rfl (As := [.inl a3, .inl (v7_91 - a3), .inl v6_76]) (st := []) rfl (gc_lS0 hws rfl) (Nat.le_of_ble_eq_true rfl) (gz_Ev_mono (d := 1) (by omega) E282) ?_
            show gv_X _ _ (212, [(0, .inr (.inr (some 48))), (1, .inr (.inr (some a1))), (2, .inl a2), (3, .inl a3), (4, .inl a4), (5, .inl v5_76), (6, .inl v6_76), (7, .inl v7_91)], [.inl z282], sh, gc_h sh I89 J90 A)
            refine gv_run 2 true hD (pc' := 215) (lv' := [(8, .inl z282), (0, .inr (.inr (some 48))), (1, .inr (.inr (some a1))), (2, .inl a2), (3, .inl a3), (4, .inl a4), (5, .inl v5_76), (6, .inl v6_76), (7, .inl v7_91)]) (st' := [.inr (.inr (some 48))]) (h' := gc_h sh I89 J90 A) (C := ((True ∧ True) ∧ True)) rfl ⟨⟨trivial, trivial⟩, trivial⟩ ?_
            refine gv_get hD rfl rfl S_48 ⟨by decide, B_48⟩ (gc_hA S_48 rfl A_48_1) ?_
            show gv_X _ _ (218, [(8, .inl z282), (0, .inr (.inr (some 48))), (1, .inr (.inr (some a1))), (2, .inl a2), (3, .inl a3), (4, .inl a4), (5, .inl v5_76), (6, .inl v6_76), (7, .inl v7_91)], [.inr (.inr (some 49))], sh, gc_h sh I89 J90 A)
            refine gv_run 1 true hD (pc' := 220) (lv' := [(8, .inl z282), (0, .inr (.inr (some 48))), (1, .inr (.inr (some a1))), (2, .inl a2), (3, .inl a3), (4, .inl a4), (5, .inl v5_76), (6, .inl v6_76), (7, .inl v7_91)]) (st' := [.inl z282, .inr (.inr (some 49))]) (h' := gc_h sh I89 J90 A) (C := (True ∧ True)) rfl ⟨trivial, trivial⟩ ?_
            have f283 := (show 0 ≤ I89 49 (Int.toNat z282) ∧ I89 49 (Int.toNat z282) ≤ 3000 from gc_in hI89 R_49 rfl rfl)
            refine gv_iald hD rfl S_49 rfl ⟨by decide, B_49⟩ ⟨by omega, by omega⟩ (gc_iI S_49 rfl) ?_
            show gv_X _ _ (221, [(8, .inl z282), (0, .inr (.inr (some 48))), (1, .inr (.inr (some a1))), (2, .inl a2), (3, .inl a3), (4, .inl a4), (5, .inl v5_76), (6, .inl v6_76), (7, .inl v7_91)], [.inl (I89 49 (Int.toNat z282))], sh, gc_h sh I89 J90 A)
            refine gv_run 1 true hD (pc' := 223) (lv' := [(9, .inl (I89 49 (Int.toNat z282))), (8, .inl z282), (0, .inr (.inr (some 48))), (1, .inr (.inr (some a1))), (2, .inl a2), (3, .inl a3), (4, .inl a4), (5, .inl v5_76), (6, .inl v6_76), (7, .inl v7_91)]) (st' := []) (h' := gc_h sh I89 J90 A) (C := (True ∧ True)) rfl ⟨trivial, trivial⟩ ?_
            refine gv_pick [2, 3, 4, 5, 6, 7, 8, 9, 1, 0] rfl ?_
            exact L223 _ I89 J90 z282 ((I89 49 (Int.toNat z282))) (Nat.lt_succ_self _) hI89 FI89 FJ90 KWV_I89 KFN_I89 (by omega)
    refine gv_run 1 true hD (pc' := 183) (lv' := [(7, .inl s0_76), (0, .inr (.inr (some 48))), (1, .inr (.inr (some a1))), (2, .inl a2), (3, .inl a3), (4, .inl a4), (5, .inl v5_76), (6, .inl v6_76)]) (st' := []) (h' := gc_h sh I J A) (C := (True ∧ True)) rfl ⟨trivial, trivial⟩ ?_
    refine gv_pick [1, 2, 3, 4, 5, 6, 7, 0] rfl ?_
    exact L183 _ I J s0_76 (Nat.lt_succ_self _) hI FI FJ KWV_I KFN_I (by omega)
  refine gv_run 2 true hD (pc' := 2) (lv' := [(0, .inr (.inr (some 48))), (1, .inr (.inr (some a1))), (2, .inl a2), (3, .inl a3), (4, .inl a4)]) (st' := [.inr (.inr (some a1)), .inl a2]) (h' := gc_h sh I J A) (C := ((True ∧ True) ∧ True)) rfl ⟨⟨trivial, trivial⟩, trivial⟩ ?_
  have f284 := (show 0 ≤ I a1 4 ∧ I a1 4 ≤ 6 from gc_in hI R_a1 rfl rfl)
  refine gv_get hD rfl rfl S_a1 ⟨by decide, B_a1⟩ (gc_hI S_a1 rfl) ?_
  show gv_X _ _ (5, [(0, .inr (.inr (some 48))), (1, .inr (.inr (some a1))), (2, .inl a2), (3, .inl a3), (4, .inl a4)], [.inl (I a1 4), .inl a2], sh, gc_h sh I J A)
  refine gv_icmp_lt (t := 42) hD rfl rfl ⟨⟨by omega, by omega⟩, ⟨by omega, by omega⟩⟩ (fun c285 => ?_) (fun c285 => ?_)
  · show gv_X _ _ (42, [(0, .inr (.inr (some 48))), (1, .inr (.inr (some a1))), (2, .inl a2), (3, .inl a3), (4, .inl a4)], [], sh, gc_h sh I J A)
    refine gv_run 1 true hD (pc' := 43) (lv' := [(0, .inr (.inr (some 48))), (1, .inr (.inr (some a1))), (2, .inl a2), (3, .inl a3), (4, .inl a4)]) (st' := [.inr (.inr (some a1))]) (h' := gc_h sh I J A) (C := (True ∧ True)) rfl ⟨trivial, trivial⟩ ?_
    have f286 := (show 0 ≤ I a1 4 ∧ I a1 4 ≤ 6 from gc_in hI R_a1 rfl rfl)
    refine gv_get hD rfl rfl S_a1 ⟨by decide, B_a1⟩ (gc_hI S_a1 rfl) ?_
    show gv_X _ _ (46, [(0, .inr (.inr (some 48))), (1, .inr (.inr (some a1))), (2, .inl a2), (3, .inl a3), (4, .inl a4)], [.inl (I a1 4)], sh, gc_h sh I J A)
    refine gv_run 6 true hD (pc' := 53) (lv' := [(5, .inl (((I a1 4) - a2) - 1)), (0, .inr (.inr (some 48))), (1, .inr (.inr (some a1))), (2, .inl a2), (3, .inl a3), (4, .inl a4)]) (st' := [.inr (.inr (some a1))]) (h' := gc_h sh I J A) (C := ((((((True ∧ True) ∧ True) ∧ True) ∧ True) ∧ True) ∧ True)) rfl ⟨⟨⟨⟨⟨⟨trivial, trivial⟩, trivial⟩, trivial⟩, trivial⟩, trivial⟩, trivial⟩ ?_
    refine gv_get hD rfl rfl S_a1 ⟨by decide, B_a1⟩ (gc_hA S_a1 rfl A_a1_5) ?_
    show gv_X _ _ (56, [(5, .inl (((I a1 4) - a2) - 1)), (0, .inr (.inr (some 48))), (1, .inr (.inr (some a1))), (2, .inl a2), (3, .inl a3), (4, .inl a4)], [.inr (.inr (some (a1 + 1)))], sh, gc_h sh I J A)
    refine gv_run 1 true hD (pc' := 57) (lv' := [(5, .inl (((I a1 4) - a2) - 1)), (0, .inr (.inr (some 48))), (1, .inr (.inr (some a1))), (2, .inl a2), (3, .inl a3), (4, .inl a4)]) (st' := [.inl a2, .inr (.inr (some (a1 + 1)))]) (h' := gc_h sh I J A) (C := (True ∧ True)) rfl ⟨trivial, trivial⟩ ?_
    have f287 := (show (-1) ≤ I (a1 + 1) (Int.toNat a2) ∧ I (a1 + 1) (Int.toNat a2) ≤ 3 from gc_in hI R_a1_1 rfl rfl)
    refine gv_iald hD rfl S_a1_1 rfl ⟨by decide, B_a1_1⟩ ⟨by omega, by omega⟩ (gc_iI S_a1_1 rfl) ?_
    show gv_X _ _ (58, [(5, .inl (((I a1 4) - a2) - 1)), (0, .inr (.inr (some 48))), (1, .inr (.inr (some a1))), (2, .inl a2), (3, .inl a3), (4, .inl a4)], [.inl (I (a1 + 1) (Int.toNat a2))], sh, gc_h sh I J A)
    refine gv_if_ge (t := 143) hD rfl rfl ⟨by omega, by omega⟩ (fun c288 => ?_) (fun c288 => ?_)
    · show gv_X _ _ (143, [(5, .inl (((I a1 4) - a2) - 1)), (0, .inr (.inr (some 48))), (1, .inr (.inr (some a1))), (2, .inl a2), (3, .inl a3), (4, .inl a4)], [], sh, gc_h sh I J A)
      have t289 := gc_ac_lt (f := I (a1 + 1)) (n := Int.toNat a2) (m := Int.toNat (I a1 4)) (by omega) (by omega)
      have t290 := (show I a1 8 = gc_ac (I (a1 + 1)) (Int.toNat (I a1 4)) from x2)
      have t291 := (show 0 ≤ I a1 8 ∧ I a1 8 ≤ 4 from gc_in hI R_a1 rfl rfl)
      refine gv_run 1 true hD (pc' := 144) (lv' := [(5, .inl (((I a1 4) - a2) - 1)), (0, .inr (.inr (some 48))), (1, .inr (.inr (some a1))), (2, .inl a2), (3, .inl a3), (4, .inl a4)]) (st' := [.inr (.inr (some 48))]) (h' := gc_h sh I J A) (C := (True ∧ True)) rfl ⟨trivial, trivial⟩ ?_
      refine gv_get hD rfl rfl S_48 ⟨by decide, B_48⟩ (gc_hA S_48 rfl A_48_0) ?_
      show gv_X _ _ (147, [(5, .inl (((I a1 4) - a2) - 1)), (0, .inr (.inr (some 48))), (1, .inr (.inr (some a1))), (2, .inl a2), (3, .inl a3), (4, .inl a4)], [.inr (.inr (some 1))], sh, gc_h sh I J A)
      refine gv_get hD rfl rfl S_1 ⟨by decide, B_1⟩ (gc_hA S_1 rfl A_1_8) ?_
      show gv_X _ _ (150, [(5, .inl (((I a1 4) - a2) - 1)), (0, .inr (.inr (some 48))), (1, .inr (.inr (some a1))), (2, .inl a2), (3, .inl a3), (4, .inl a4)], [.inr (.inr (some 13))], sh, gc_h sh I J A)
      refine gv_run 1 true hD (pc' := 151) (lv' := [(5, .inl (((I a1 4) - a2) - 1)), (0, .inr (.inr (some 48))), (1, .inr (.inr (some a1))), (2, .inl a2), (3, .inl a3), (4, .inl a4)]) (st' := [.inr (.inr (some a1)), .inr (.inr (some 13))]) (h' := gc_h sh I J A) (C := (True ∧ True)) rfl ⟨trivial, trivial⟩ ?_
      have f292 := (show 0 ≤ I a1 1 ∧ I a1 1 ≤ 95 from gc_in hI R_a1 rfl rfl)
      refine gv_get hD rfl rfl S_a1 ⟨by decide, B_a1⟩ (gc_hI S_a1 rfl) ?_
      show gv_X _ _ (154, [(5, .inl (((I a1 4) - a2) - 1)), (0, .inr (.inr (some 48))), (1, .inr (.inr (some a1))), (2, .inl a2), (3, .inl a3), (4, .inl a4)], [.inl (I a1 1), .inr (.inr (some 13))], sh, gc_h sh I J A)
      refine gv_run 3 true hD (pc' := 157) (lv' := [(5, .inl (((I a1 4) - a2) - 1)), (0, .inr (.inr (some 48))), (1, .inr (.inr (some a1))), (2, .inl a2), (3, .inl a3), (4, .inl a4)]) (st' := [.inr (.inr (some a1)), .inl ((I a1 1) * 4), .inr (.inr (some 13))]) (h' := gc_h sh I J A) (C := (((True ∧ True) ∧ True) ∧ True)) rfl ⟨⟨⟨trivial, trivial⟩, trivial⟩, trivial⟩ ?_
      refine gv_get hD rfl rfl S_a1 ⟨by decide, B_a1⟩ (gc_hA S_a1 rfl A_a1_5) ?_
      show gv_X _ _ (160, [(5, .inl (((I a1 4) - a2) - 1)), (0, .inr (.inr (some 48))), (1, .inr (.inr (some a1))), (2, .inl a2), (3, .inl a3), (4, .inl a4)], [.inr (.inr (some (a1 + 1))), .inl ((I a1 1) * 4), .inr (.inr (some 13))], sh, gc_h sh I J A)
      refine gv_run 1 true hD (pc' := 161) (lv' := [(5, .inl (((I a1 4) - a2) - 1)), (0, .inr (.inr (some 48))), (1, .inr (.inr (some a1))), (2, .inl a2), (3, .inl a3), (4, .inl a4)]) (st' := [.inl a2, .inr (.inr (some (a1 + 1))), .inl ((I a1 1) * 4), .inr (.inr (some 13))]) (h' := gc_h sh I J A) (C := (True ∧ True)) rfl ⟨trivial, trivial⟩ ?_
      have f293 := (show (-1) ≤ I (a1 + 1) (Int.toNat a2) ∧ I (a1 + 1) (Int.toNat a2) ≤ 3 from gc_in hI R_a1_1 rfl rfl)
      refine gv_iald hD rfl S_a1_1 rfl ⟨by decide, B_a1_1⟩ ⟨by omega, by omega⟩ (gc_iI S_a1_1 rfl) ?_
      show gv_X _ _ (162, [(5, .inl (((I a1 4) - a2) - 1)), (0, .inr (.inr (some 48))), (1, .inr (.inr (some a1))), (2, .inl a2), (3, .inl a3), (4, .inl a4)], [.inl (I (a1 + 1) (Int.toNat a2)), .inl ((I a1 1) * 4), .inr (.inr (some 13))], sh, gc_h sh I J A)
      refine gv_run 1 true hD (pc' := 163) (lv' := [(5, .inl (((I a1 4) - a2) - 1)), (0, .inr (.inr (some 48))), (1, .inr (.inr (some a1))), (2, .inl a2), (3, .inl a3), (4, .inl a4)]) (st' := [.inl (((I a1 1) * 4) + (I (a1 + 1) (Int.toNat a2))), .inr (.inr (some 13))]) (h' := gc_h sh I J A) (C := (True ∧ True)) rfl ⟨trivial, trivial⟩ ?_
      have f294 := (show 0 ≤ I 13 (Int.toNat ((((I a1 1) * 4) + (I (a1 + 1) (Int.toNat a2))))) ∧ I 13 (Int.toNat ((((I a1 1) * 4) + (I (a1 + 1) (Int.toNat a2))))) ≤ 31 from gc_in hI R_13 rfl rfl)
      refine gv_iald hD rfl S_13 rfl ⟨by decide, B_13⟩ ⟨by omega, by omega⟩ (gc_iI S_13 rfl) ?_
      show gv_X _ _ (164, [(5, .inl (((I a1 4) - a2) - 1)), (0, .inr (.inr (some 48))), (1, .inr (.inr (some a1))), (2, .inl a2), (3, .inl a3), (4, .inl a4)], [.inl (I 13 (Int.toNat ((((I a1 1) * 4) + (I (a1 + 1) (Int.toNat a2))))))], sh, gc_h sh I J A)
      refine gv_run 2 true hD (pc' := 168) (lv' := [(6, .inl (I 13 (Int.toNat ((((I a1 1) * 4) + (I (a1 + 1) (Int.toNat a2))))))), (5, .inl (((I a1 4) - a2) - 1)), (0, .inr (.inr (some 48))), (1, .inr (.inr (some a1))), (2, .inl a2), (3, .inl a3), (4, .inl a4)]) (st' := [.inl (((I a1 4) - a2) - 1)]) (h' := gc_h sh I J A) (C := ((True ∧ True) ∧ True)) rfl ⟨⟨trivial, trivial⟩, trivial⟩ ?_
      refine gv_if_ne (t := 178) hD rfl rfl ⟨by omega, by omega⟩ (fun c295 => ?_) (fun c295 => ?_)
      · show gv_X _ _ (178, [(6, .inl (I 13 (Int.toNat ((((I a1 1) * 4) + (I (a1 + 1) (Int.toNat a2))))))), (5, .inl (((I a1 4) - a2) - 1)), (0, .inr (.inr (some 48))), (1, .inr (.inr (some a1))), (2, .inl a2), (3, .inl a3), (4, .inl a4)], [], sh, gc_h sh I J A)
        refine gv_run 3 true hD (pc' := 181) (lv' := [(6, .inl (I 13 (Int.toNat ((((I a1 1) * 4) + (I (a1 + 1) (Int.toNat a2))))))), (5, .inl (((I a1 4) - a2) - 1)), (0, .inr (.inr (some 48))), (1, .inr (.inr (some a1))), (2, .inl a2), (3, .inl a3), (4, .inl a4)]) (st' := [.inl (a3 + 1)]) (h' := gc_h sh I J A) (C := (((True ∧ True) ∧ True) ∧ True)) rfl ⟨⟨⟨trivial, trivial⟩, trivial⟩, trivial⟩ ?_
        refine gv_pick [2, 3, 4, 5, 6, 1, 0] rfl ?_
        exact L181 ((((I a1 4) - a2) - 1)) ((I 13 (Int.toNat ((((I a1 1) * 4) + (I (a1 + 1) (Int.toNat a2))))))) (a3 + 1) (by omega)
      · show gv_X _ _ (171, [(6, .inl (I 13 (Int.toNat ((((I a1 1) * 4) + (I (a1 + 1) (Int.toNat a2))))))), (5, .inl (((I a1 4) - a2) - 1)), (0, .inr (.inr (some 48))), (1, .inr (.inr (some a1))), (2, .inl a2), (3, .inl a3), (4, .inl a4)], [], sh, gc_h sh I J A)
        refine gv_run 1 true hD (pc' := 172) (lv' := [(6, .inl (I 13 (Int.toNat ((((I a1 1) * 4) + (I (a1 + 1) (Int.toNat a2))))))), (5, .inl (((I a1 4) - a2) - 1)), (0, .inr (.inr (some 48))), (1, .inr (.inr (some a1))), (2, .inl a2), (3, .inl a3), (4, .inl a4)]) (st' := [.inr (.inr (some 48))]) (h' := gc_h sh I J A) (C := (True ∧ True)) rfl ⟨trivial, trivial⟩ ?_
        have f296 := (show 0 ≤ I 48 18 ∧ I 48 18 ≤ 24 from gc_in hI R_48 rfl rfl)
        refine gv_get hD rfl rfl S_48 ⟨by decide, B_48⟩ (gc_hI S_48 rfl) ?_
        show gv_X _ _ (175, [(6, .inl (I 13 (Int.toNat ((((I a1 1) * 4) + (I (a1 + 1) (Int.toNat a2))))))), (5, .inl (((I a1 4) - a2) - 1)), (0, .inr (.inr (some 48))), (1, .inr (.inr (some a1))), (2, .inl a2), (3, .inl a3), (4, .inl a4)], [.inl (I 48 18)], sh, gc_h sh I J A)
        refine gv_run 1 true hD (pc' := 181) (lv' := [(6, .inl (I 13 (Int.toNat ((((I a1 1) * 4) + (I (a1 + 1) (Int.toNat a2))))))), (5, .inl (((I a1 4) - a2) - 1)), (0, .inr (.inr (some 48))), (1, .inr (.inr (some a1))), (2, .inl a2), (3, .inl a3), (4, .inl a4)]) (st' := [.inl (I 48 18)]) (h' := gc_h sh I J A) (C := (True ∧ True)) rfl ⟨trivial, trivial⟩ ?_
        refine gv_pick [2, 3, 4, 5, 6, 1, 0] rfl ?_
        exact L181 ((((I a1 4) - a2) - 1)) ((I 13 (Int.toNat ((((I a1 1) * 4) + (I (a1 + 1) (Int.toNat a2))))))) (I 48 18) (by omega)
    · show gv_X _ _ (61, [(5, .inl (((I a1 4) - a2) - 1)), (0, .inr (.inr (some 48))), (1, .inr (.inr (some a1))), (2, .inl a2), (3, .inl a3), (4, .inl a4)], [], sh, gc_h sh I J A)
      refine gv_run 1 true hD (pc' := 63) (lv' := [(5, .inl (((I a1 4) - a2) - 1)), (0, .inr (.inr (some 48))), (1, .inr (.inr (some a1))), (2, .inl a2), (3, .inl a3), (4, .inl a4)]) (st' := [.inl (((I a1 4) - a2) - 1)]) (h' := gc_h sh I J A) (C := (True ∧ True)) rfl ⟨trivial, trivial⟩ ?_
      refine gv_if_ne (t := 84) hD rfl rfl ⟨by omega, by omega⟩ (fun c297 => ?_) (fun c297 => ?_)
      · show gv_X _ _ (84, [(5, .inl (((I a1 4) - a2) - 1)), (0, .inr (.inr (some 48))), (1, .inr (.inr (some a1))), (2, .inl a2), (3, .inl a3), (4, .inl a4)], [], sh, gc_h sh I J A)
        refine gv_run 6 true hD (pc' := 91) (lv' := [(5, .inl (((I a1 4) - a2) - 1)), (0, .inr (.inr (some 48))), (1, .inr (.inr (some a1))), (2, .inl a2), (3, .inl a3), (4, .inl a4)]) (st' := [.inr (.inr (some 48)), .inl ((a3 + 1) + (((I a1 4) - a2) - 1))]) (h' := gc_h sh I J A) (C := ((((((True ∧ True) ∧ True) ∧ True) ∧ True) ∧ True) ∧ True)) rfl ⟨⟨⟨⟨⟨⟨trivial, trivial⟩, trivial⟩, trivial⟩, trivial⟩, trivial⟩, trivial⟩ ?_
        have f298 := (show 0 ≤ I 48 18 ∧ I 48 18 ≤ 24 from gc_in hI R_48 rfl rfl)
        refine gv_get hD rfl rfl S_48 ⟨by decide, B_48⟩ (gc_hI S_48 rfl) ?_
        show gv_X _ _ (94, [(5, .inl (((I a1 4) - a2) - 1)), (0, .inr (.inr (some 48))), (1, .inr (.inr (some a1))), (2, .inl a2), (3, .inl a3), (4, .inl a4)], [.inl (I 48 18), .inl ((a3 + 1) + (((I a1 4) - a2) - 1))], sh, gc_h sh I J A)
        refine gv_icmp_gt (t := 101) hD rfl rfl ⟨⟨by omega, by omega⟩, ⟨by omega, by omega⟩⟩ (fun c299 => ?_) (fun c299 => ?_)
        · show gv_X _ _ (101, [(5, .inl (((I a1 4) - a2) - 1)), (0, .inr (.inr (some 48))), (1, .inr (.inr (some a1))), (2, .inl a2), (3, .inl a3), (4, .inl a4)], [], sh, gc_h sh I J A)
          refine gv_run 1 true hD (pc' := 102) (lv' := [(5, .inl (((I a1 4) - a2) - 1)), (0, .inr (.inr (some 48))), (1, .inr (.inr (some a1))), (2, .inl a2), (3, .inl a3), (4, .inl a4)]) (st' := [.inl 0]) (h' := gc_h sh I J A) (C := (True ∧ True)) rfl ⟨trivial, trivial⟩ ?_
          refine gv_pick [1, 2, 3, 4, 5] rfl ?_
          exact L102 0 (by omega)
        · show gv_X _ _ (97, [(5, .inl (((I a1 4) - a2) - 1)), (0, .inr (.inr (some 48))), (1, .inr (.inr (some a1))), (2, .inl a2), (3, .inl a3), (4, .inl a4)], [], sh, gc_h sh I J A)
          refine gv_run 2 true hD (pc' := 102) (lv' := [(5, .inl (((I a1 4) - a2) - 1)), (0, .inr (.inr (some 48))), (1, .inr (.inr (some a1))), (2, .inl a2), (3, .inl a3), (4, .inl a4)]) (st' := [.inl 1]) (h' := gc_h sh I J A) (C := ((True ∧ True) ∧ True)) rfl ⟨⟨trivial, trivial⟩, trivial⟩ ?_
          refine gv_pick [1, 2, 3, 4, 5] rfl ?_
          exact L102 1 (by omega)
      · show gv_X _ _ (66, [(5, .inl (((I a1 4) - a2) - 1)), (0, .inr (.inr (some 48))), (1, .inr (.inr (some a1))), (2, .inl a2), (3, .inl a3), (4, .inl a4)], [], sh, gc_h sh I J A)
        refine gv_run 4 true hD (pc' := 70) (lv' := [(5, .inl (((I a1 4) - a2) - 1)), (0, .inr (.inr (some 48))), (1, .inr (.inr (some a1))), (2, .inl a2), (3, .inl a3), (4, .inl a4)]) (st' := [.inr (.inr (some 48)), .inl (a3 + 1)]) (h' := gc_h sh I J A) (C := ((((True ∧ True) ∧ True) ∧ True) ∧ True)) rfl ⟨⟨⟨⟨trivial, trivial⟩, trivial⟩, trivial⟩, trivial⟩ ?_
        have f300 := (show 0 ≤ I 48 18 ∧ I 48 18 ≤ 24 from gc_in hI R_48 rfl rfl)
        refine gv_get hD rfl rfl S_48 ⟨by decide, B_48⟩ (gc_hI S_48 rfl) ?_
        show gv_X _ _ (73, [(5, .inl (((I a1 4) - a2) - 1)), (0, .inr (.inr (some 48))), (1, .inr (.inr (some a1))), (2, .inl a2), (3, .inl a3), (4, .inl a4)], [.inl (I 48 18), .inl (a3 + 1)], sh, gc_h sh I J A)
        refine gv_icmp_ne (t := 80) hD rfl rfl ⟨⟨by omega, by omega⟩, ⟨by omega, by omega⟩⟩ (fun c301 => ?_) (fun c301 => ?_)
        · show gv_X _ _ (80, [(5, .inl (((I a1 4) - a2) - 1)), (0, .inr (.inr (some 48))), (1, .inr (.inr (some a1))), (2, .inl a2), (3, .inl a3), (4, .inl a4)], [], sh, gc_h sh I J A)
          refine gv_run 2 true hD (pc' := 102) (lv' := [(5, .inl (((I a1 4) - a2) - 1)), (0, .inr (.inr (some 48))), (1, .inr (.inr (some a1))), (2, .inl a2), (3, .inl a3), (4, .inl a4)]) (st' := [.inl 0]) (h' := gc_h sh I J A) (C := ((True ∧ True) ∧ True)) rfl ⟨⟨trivial, trivial⟩, trivial⟩ ?_
          refine gv_pick [1, 2, 3, 4, 5] rfl ?_
          exact L102 0 (by omega)
        · show gv_X _ _ (76, [(5, .inl (((I a1 4) - a2) - 1)), (0, .inr (.inr (some 48))), (1, .inr (.inr (some a1))), (2, .inl a2), (3, .inl a3), (4, .inl a4)], [], sh, gc_h sh I J A)
          refine gv_run 2 true hD (pc' := 102) (lv' := [(5, .inl (((I a1 4) - a2) - 1)), (0, .inr (.inr (some 48))), (1, .inr (.inr (some a1))), (2, .inl a2), (3, .inl a3), (4, .inl a4)]) (st' := [.inl 1]) (h' := gc_h sh I J A) (C := ((True ∧ True) ∧ True)) rfl ⟨⟨trivial, trivial⟩, trivial⟩ ?_
          refine gv_pick [1, 2, 3, 4, 5] rfl ?_
          exact L102 1 (by omega)
  · show gv_X _ _ (8, [(0, .inr (.inr (some 48))), (1, .inr (.inr (some a1))), (2, .inl a2), (3, .inl a3), (4, .inl a4)], [], sh, gc_h sh I J A)
    refine gv_run 2 true hD (pc' := 10) (lv' := [(0, .inr (.inr (some 48))), (1, .inr (.inr (some a1))), (2, .inl a2), (3, .inl a3), (4, .inl a4)]) (st' := [.inr (.inr (some 48)), .inr (.inr (some a1))]) (h' := gc_h sh I J A) (C := ((True ∧ True) ∧ True)) rfl ⟨⟨trivial, trivial⟩, trivial⟩ ?_
    refine gv_get hD rfl rfl S_48 ⟨by decide, B_48⟩ (gc_hA S_48 rfl A_48_20) ?_
    show gv_X _ _ (13, [(0, .inr (.inr (some 48))), (1, .inr (.inr (some a1))), (2, .inl a2), (3, .inl a3), (4, .inl a4)], [.inr (.inr (some 59)), .inr (.inr (some a1))], sh, gc_h sh I J A)
    refine gv_run 1 true hD (pc' := 14) (lv' := [(0, .inr (.inr (some 48))), (1, .inr (.inr (some a1))), (2, .inl a2), (3, .inl a3), (4, .inl a4)]) (st' := [.inr (.inr (some 48)), .inr (.inr (some 59)), .inr (.inr (some a1))]) (h' := gc_h sh I J A) (C := (True ∧ True)) rfl ⟨trivial, trivial⟩ ?_
    refine gv_get hD rfl rfl S_48 ⟨by decide, B_48⟩ (gc_hA S_48 rfl A_48_21) ?_
    show gv_X _ _ (17, [(0, .inr (.inr (some 48))), (1, .inr (.inr (some a1))), (2, .inl a2), (3, .inl a3), (4, .inl a4)], [.inr (.inr (some 60)), .inr (.inr (some 59)), .inr (.inr (some a1))], sh, gc_h sh I J A)
    obtain ⟨r302, h302, E302, P302⟩ := d_X3_unite (ws0 := ws0) (tb := tb) hws htb sh ro I J A hI a1 4 4 59 60 h_a1 S_59 R_59 B_59 (by decide) S_60 R_60 B_60 (by decide)   (by omega) (by omega) 
    obtain ⟨I303, J304, rfl, hI303, g302, k302, ⟨z302, rfl, q302⟩⟩ := P302
    have FI303 := gc_frc (W := fun q j => (q = 48 ∧ j = 3) ∨ (q = 48 ∧ j = 6) ∨ (q = 48 ∧ j = 12) ∨ q = 51 ∨ q = 52 ∨ q = 53 ∨ q = 54 ∨ q = 55 ∨ (q = 48 ∧ j = 11) ∨ q = 58 ∨ q = 59 ∨ q = 60) (V := fun q j => q = 60) FI (fun q j h => (Or.inr (Or.inr (Or.inr (Or.inr (Or.inr (Or.inr (Or.inr (Or.inr (Or.inr (Or.inr (Or.inr h)))))))))))) g302
    have t305 := (g302 48 3).resolve_left (fun h => absurd h (by decide))
    have t306 := (g302 48 6).resolve_left (fun h => absurd h (by decide))
    have t307 := (g302 48 11).resolve_left (fun h => absurd h (by decide))
    have t308 := (g302 48 12).resolve_left (fun h => absurd h (by decide))
    have t309 := (g302 48 17).resolve_left (fun h => absurd h (by decide))
    have t310 := (g302 48 18).resolve_left (fun h => absurd h (by decide))
    have t311 := (g302 t 13).resolve_left (fun h => absurd h N_t__60)
    have t312 := (g302 x 4).resolve_left (fun h => absurd h N_x__60)
    have t313 := (g302 a1 4).resolve_left (fun h => absurd h N_a1__60)
    have t314 := (g302 a1 0).resolve_left (fun h => absurd h N_a1__60)
    have t315 := (g302 48 13).resolve_left (fun h => absurd h (by decide))
    have t316 := (g302 48 14).resolve_left (fun h => absurd h (by decide))
    obtain rfl : J = J304 := funext fun q => funext fun j => ((k302 q j).resolve_left id).symm
    have KWV_I303 := gc_WV_fr KWV_I ((g302 48 6).resolve_left (fun h => absurd h (by decide))) ((g302 t 13).resolve_left (fun h => absurd h N_t__60)) (fun k => (g302 54 k).resolve_left (fun h => absurd h (by decide)))
    have KFN_I303 := gc_FN_fr KFN_I (fun k => (g302 49 k).resolve_left (fun h => absurd h (by decide))) (fun k => (g302 50 k).resolve_left (fun h => absurd h (by decide)))
    refine gv_callV hD rfl (As := [.inr (.inr (some 59)), .inr (.inr (some 60))]) (st := []) rfl B_a1 S_a1 rfl (gc_lV0 hws rfl) (Nat.le_of_ble_eq_true rfl) (gz_Ev_mono (d := 1) (by omega) E302) ?_
    show gv_X _ _ (20, [(0, .inr (.inr (some 48))), (1, .inr (.inr (some a1))), (2, .inl a2), (3, .inl a3), (4, .inl a4)], [.inl z302], sh, gc_h sh I303 J A)
    refine gv_run 2 true hD (pc' := 24) (lv' := [(5, .inl z302), (0, .inr (.inr (some 48))), (1, .inr (.inr (some a1))), (2, .inl a2), (3, .inl a3), (4, .inl a4)]) (st' := [.inl z302]) (h' := gc_h sh I303 J A) (C := ((True ∧ True) ∧ True)) rfl ⟨⟨trivial, trivial⟩, trivial⟩ ?_
    refine gv_if_lt (t := 41) hD rfl rfl ⟨by omega, by omega⟩ (fun c317 => ?_) (fun c317 => ?_)
    · show gv_X _ _ (41, [(5, .inl z302), (0, .inr (.inr (some 48))), (1, .inr (.inr (some a1))), (2, .inl a2), (3, .inl a3), (4, .inl a4)], [], sh, gc_h sh I303 J A)
      refine gv_pick [] rfl ?_
      exact L41 I303 J hI303 FI303 FJ KWV_I303 KFN_I303 (by omega)
    · show gv_X _ _ (27, [(5, .inl z302), (0, .inr (.inr (some 48))), (1, .inr (.inr (some a1))), (2, .inl a2), (3, .inl a3), (4, .inl a4)], [], sh, gc_h sh I303 J A)
      refine gv_run 3 true hD (pc' := 30) (lv' := [(5, .inl z302), (0, .inr (.inr (some 48))), (1, .inr (.inr (some a1))), (2, .inl a2), (3, .inl a3), (4, .inl a4)]) (st' := [.inr (.inr (some a1)), .inl (-1), .inr (.inr (some 48))]) (h' := gc_h sh I303 J A) (C := (((True ∧ True) ∧ True) ∧ True)) rfl ⟨⟨⟨trivial, trivial⟩, trivial⟩, trivial⟩ ?_
      have f318 := (show 0 ≤ I303 a1 0 ∧ I303 a1 0 ≤ 384 from gc_in hI303 R_a1 rfl rfl)
      refine gv_get hD rfl rfl S_a1 ⟨by decide, B_a1⟩ (gc_hI S_a1 rfl) ?_
      show gv_X _ _ (33, [(5, .inl z302), (0, .inr (.inr (some 48))), (1, .inr (.inr (some a1))), (2, .inl a2), (3, .inl a3), (4, .inl a4)], [.inl (I303 a1 0), .inl (-1), .inr (.inr (some 48))], sh, gc_h sh I303 J A)
      refine gv_run 3 true hD (pc' := 38) (lv' := [(5, .inl z302), (0, .inr (.inr (some 48))), (1, .inr (.inr (some a1))), (2, .inl a2), (3, .inl a3), (4, .inl a4)]) (st' := [.inl a4, .inl z302, .inl ((-1) - (I303 a1 0)), .inr (.inr (some 48))]) (h' := gc_h sh I303 J A) (C := (((True ∧ True) ∧ True) ∧ True)) rfl ⟨⟨⟨trivial, trivial⟩, trivial⟩, trivial⟩ ?_
      obtain ⟨r319, h319, E319, P319⟩ := d_X0_putWay (ws0 := ws0) (tb := tb) hws htb sh ro I303 J A hI303  t (((-1) - (I303 a1 0))) z302 a4 hb  h_t G_t  ⟨by omega, by omega⟩ ⟨by omega, by omega⟩ ⟨by omega, by omega⟩ (by omega) (by omega) (by omega) KWV_I303
      obtain ⟨I320, J321, rfl, hI320, g319, k319, KWV_I320, ⟨rfl, q319⟩⟩ := P319
      have FI320 := gc_frc (W := fun q j => (q = 48 ∧ j = 3) ∨ (q = 48 ∧ j = 6) ∨ (q = 48 ∧ j = 12) ∨ q = 51 ∨ q = 52 ∨ q = 53 ∨ q = 54 ∨ q = 55 ∨ (q = 48 ∧ j = 11) ∨ q = 58 ∨ q = 59 ∨ q = 60) (V := fun q j => (q = 48 ∧ j = 3) ∨ (q = 48 ∧ j = 6) ∨ (q = 48 ∧ j = 12) ∨ q = 51 ∨ q = 52 ∨ q = 53 ∨ q = 54 ∨ q = 55) FI303 (fun q j h => (h.elim (fun h => (Or.inl h)) (fun h => (h.elim (fun h => (Or.inr (Or.inl h))) (fun h => (h.elim (fun h => (Or.inr (Or.inr (Or.inl h)))) (fun h => (h.elim (fun h => (Or.inr (Or.inr (Or.inr (Or.inl h))))) (fun h => (h.elim (fun h => (Or.inr (Or.inr (Or.inr (Or.inr (Or.inl h)))))) (fun h => (h.elim (fun h => (Or.inr (Or.inr (Or.inr (Or.inr (Or.inr (Or.inl h))))))) (fun h => (h.elim (fun h => (Or.inr (Or.inr (Or.inr (Or.inr (Or.inr (Or.inr (Or.inl h)))))))) (fun h => (Or.inr (Or.inr (Or.inr (Or.inr (Or.inr (Or.inr (Or.inr (Or.inl h))))))))))))))))))))))) g319
      have t322 := (g319 48 11).resolve_left (fun h => h.elim (fun h => absurd h.2 (by decide)) (fun h => h.elim (fun h => absurd h.2 (by decide)) (fun h => h.elim (fun h => absurd h.2 (by decide)) (fun h => h.elim (fun h => absurd h (by decide)) (fun h => h.elim (fun h => absurd h (by decide)) (fun h => h.elim (fun h => absurd h (by decide)) (fun h => h.elim (fun h => absurd h (by decide)) (fun h => absurd h (by decide)))))))))
      have t323 := (g319 48 17).resolve_left (fun h => h.elim (fun h => absurd h.2 (by decide)) (fun h => h.elim (fun h => absurd h.2 (by decide)) (fun h => h.elim (fun h => absurd h.2 (by decide)) (fun h => h.elim (fun h => absurd h (by decide)) (fun h => h.elim (fun h => absurd h (by decide)) (fun h => h.elim (fun h => absurd h (by decide)) (fun h => h.elim (fun h => absurd h (by decide)) (fun h => absurd h (by decide)))))))))
      have t324 := (g319 48 18).resolve_left (fun h => h.elim (fun h => absurd h.2 (by decide)) (fun h => h.elim (fun h => absurd h.2 (by decide)) (fun h => h.elim (fun h => absurd h.2 (by decide)) (fun h => h.elim (fun h => absurd h (by decide)) (fun h => h.elim (fun h => absurd h (by decide)) (fun h => h.elim (fun h => absurd h (by decide)) (fun h => h.elim (fun h => absurd h (by decide)) (fun h => absurd h (by decide)))))))))
      have t325 := (g319 t 13).resolve_left (fun h => h.elim (fun h => absurd h.2 (by decide)) (fun h => h.elim (fun h => absurd h.2 (by decide)) (fun h => h.elim (fun h => absurd h.2 (by decide)) (fun h => h.elim (fun h => absurd h N_t__51) (fun h => h.elim (fun h => absurd h N_t__52) (fun h => h.elim (fun h => absurd h N_t__53) (fun h => h.elim (fun h => absurd h N_t__54) (fun h => absurd h N_t__55))))))))
      have t326 := (g319 x 4).resolve_left (fun h => h.elim (fun h => absurd h.2 (by decide)) (fun h => h.elim (fun h => absurd h.2 (by decide)) (fun h => h.elim (fun h => absurd h.2 (by decide)) (fun h => h.elim (fun h => absurd h N_x__51) (fun h => h.elim (fun h => absurd h N_x__52) (fun h => h.elim (fun h => absurd h N_x__53) (fun h => h.elim (fun h => absurd h N_x__54) (fun h => absurd h N_x__55))))))))
      have t327 := (g319 a1 4).resolve_left (fun h => h.elim (fun h => absurd h.2 (by decide)) (fun h => h.elim (fun h => absurd h.2 (by decide)) (fun h => h.elim (fun h => absurd h.2 (by decide)) (fun h => h.elim (fun h => absurd h N_a1__51) (fun h => h.elim (fun h => absurd h N_a1__52) (fun h => h.elim (fun h => absurd h N_a1__53) (fun h => h.elim (fun h => absurd h N_a1__54) (fun h => absurd h N_a1__55))))))))
      have t328 := (g319 a1 0).resolve_left (fun h => h.elim (fun h => absurd h.2 (by decide)) (fun h => h.elim (fun h => absurd h.2 (by decide)) (fun h => h.elim (fun h => absurd h.2 (by decide)) (fun h => h.elim (fun h => absurd h N_a1__51) (fun h => h.elim (fun h => absurd h N_a1__52) (fun h => h.elim (fun h => absurd h N_a1__53) (fun h => h.elim (fun h => absurd h N_a1__54) (fun h => absurd h N_a1__55))))))))
      have t329 := (g319 48 13).resolve_left (fun h => h.elim (fun h => absurd h.2 (by decide)) (fun h => h.elim (fun h => absurd h.2 (by decide)) (fun h => h.elim (fun h => absurd h.2 (by decide)) (fun h => h.elim (fun h => absurd h (by decide)) (fun h => h.elim (fun h => absurd h (by decide)) (fun h => h.elim (fun h => absurd h (by decide)) (fun h => h.elim (fun h => absurd h (by decide)) (fun h => absurd h (by decide)))))))))
      have t330 := (g319 48 14).resolve_left (fun h => h.elim (fun h => absurd h.2 (by decide)) (fun h => h.elim (fun h => absurd h.2 (by decide)) (fun h => h.elim (fun h => absurd h.2 (by decide)) (fun h => h.elim (fun h => absurd h (by decide)) (fun h => h.elim (fun h => absurd h (by decide)) (fun h => h.elim (fun h => absurd h (by decide)) (fun h => h.elim (fun h => absurd h (by decide)) (fun h => absurd h (by decide)))))))))
      have f331 := (show 0 ≤ I320 48 3 ∧ I320 48 3 ≤ 3000 from gc_in hI320 R_48 rfl rfl)
      have f332 := (show 0 ≤ I320 48 6 ∧ I320 48 6 ≤ 9000 from gc_in hI320 R_48 rfl rfl)
      have f333 := (show 0 ≤ I320 48 12 ∧ I320 48 12 ≤ 1 from gc_in hI320 R_48 rfl rfl)
      obtain rfl : J = J321 := funext fun q => funext fun j => ((k319 q j).resolve_left id).symm
      have KFN_I320 := gc_FN_fr KFN_I303 (fun k => (g319 49 k).resolve_left (fun h => h.elim (fun h => absurd h.1 (by decide)) (fun h => h.elim (fun h => absurd h.1 (by decide)) (fun h => h.elim (fun h => absurd h.1 (by decide)) (fun h => h.elim (fun h => absurd h (by decide)) (fun h => h.elim (fun h => absurd h (by decide)) (fun h => h.elim (fun h => absurd h (by decide)) (fun h => h.elim (fun h => absurd h (by decide)) (fun h => absurd h (by decide)))))))))) (fun k => (g319 50 k).resolve_left (fun h => h.elim (fun h => absurd h.1 (by decide)) (fun h => h.elim (fun h => absurd h.1 (by decide)) (fun h => h.elim (fun h => absurd h.1 (by decide)) (fun h => h.elim (fun h => absurd h (by decide)) (fun h => h.elim (fun h => absurd h (by decide)) (fun h => h.elim (fun h => absurd h (by decide)) (fun h => h.elim (fun h => absurd h (by decide)) (fun h => absurd h (by decide))))))))))
      refine gv_callV hD rfl (As := [.inl ((-1) - (I303 a1 0)), .inl z302, .inl a4]) (st := []) rfl B_48 S_48 rfl (gc_lV0 hws rfl) (Nat.le_of_ble_eq_true rfl) (gz_Ev_mono (d := 2) (by omega) E319) ?_
      show gv_X _ _ (41, [(5, .inl z302), (0, .inr (.inr (some 48))), (1, .inr (.inr (some a1))), (2, .inl a2), (3, .inl a3), (4, .inl a4)], [], sh, gc_h sh I320 J A)
      refine gv_pick [] rfl ?_
      exact L41 I320 J hI320 FI320 FJ KWV_I320 KFN_I320 (by omega)
