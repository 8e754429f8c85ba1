set_option maxHeartbeats 4000000 in
set_option maxRecDepth 100000 in
theorem d_X0_lay {ws0 : List Cond} {tb : String → gz_T} (hws : gc_Ws ws0) (htb : gc_tbs tb) (sh : gz_Sh) (ro : Nat → Nat) (A : gc_A) (t : Nat) (x : Nat) (a1 : Nat) (hb : gc_Base sh ro A) (h_a1 : gc_isLin sh ro A a1) (G_a1 : 144 ≤ a1) (h_t : gc_isTongue sh ro A t) (G_t : 144 ≤ t) (h_x : gc_isText sh ro A x) (G_x : x + 3 < 39 ∨ (100 ≤ x ∧ x < 140)) : ∀ (nr : Nat) (I : gr_I) (J : gr_J) (hI : gc_Inv ro I) (a2 : Int) (a3 : Int) (a4 : Int) (ha2 : 0 ≤ a2 ∧ a2 ≤ 6) (ha3 : 0 ≤ a3 ∧ a3 ≤ 24) (ha4 : 0 ≤ a4 ∧ a4 ≤ 4) (x0 : a2 ≤ I a1 4) (x1 : a4 = gc_ac (I (a1 + 1)) (Int.toNat a2)) (x2 : gc_lv a1 I) (x3 : I a1 0 < I t 13) (x4 : a3 + I a1 4 - a2 ≤ I 48 18) (x5 : I 48 18 ≤ I x 4) (x6 : gc_SP x I) (x7 : I 48 12 = 1 ∨ I 48 11 ≤ 400000) (x8 : I 48 17 ≤ I 48 3) (x9 : I 48 11 ≤ 400001) (x10 : I 48 13 = (t : Int)) (x11 : I 48 14 = (x : Int)) (KWV_I : gc_WV t I) (KFN_I : gc_FN I) (_ : (7 - a2).toNat < nr), ∃ r h', gz_Ev ws0 tb (2 + nr) (yX0_lay, cX0_lay, 11, none) [.inr (.inr (some 48)), .inr (.inr (some a1)), .inl a2, .inl a3, .inl a4] sh (gc_h sh I J A) r sh h' 0 0 ∧ (∃ (I' : gr_I) (J' : gr_J), h' = gc_h sh I' J' A ∧ gc_Inv ro I' ∧ (∀ q j : Nat, ((q = 48 ∧ j = 3) ∨ (q = 48 ∧ j = 6) ∨ (q = 48 ∧ j = 12) ∨ q = 51 ∨ q = 52 ∨ q = 53 ∨ q = 54 ∨ q = 55 ∨ (q = 48 ∧ j = 11) ∨ q = 58 ∨ q = 59 ∨ q = 60) ∨ I' q j = I q j) ∧ (∀ q j : Nat, (False) ∨ J' q j = J q j) ∧ gc_WV t I' ∧ gc_FN I' ∧ r = none ∧ (I' 48 12 = 1 ∨ I' 48 11 ≤ 400000) ∧ (I' 48 11 ≤ 400001) ∧ (I 48 3 ≤ I' 48 3)) := by
  intro nr
  induction nr with
  | zero => intro I J hI a2 a3 a4 ha2 ha3 ha4 x0 x1 x2 x3 x4 x5 x6 x7 x8 x9 x10 x11 KWV_I KFN_I hnr; omega
  | succ nr ihR =>
  intro I J hI a2 a3 a4 ha2 ha3 ha4 x0 x1 x2 x3 x4 x5 x6 x7 x8 x9 x10 x11 KWV_I KFN_I hnr
  have FI : ∀ q j : Nat, ((q = 48 ∧ j = 3) ∨ (q = 48 ∧ j = 6) ∨ (q = 48 ∧ j = 12) ∨ q = 51 ∨ q = 52 ∨ q = 53 ∨ q = 54 ∨ q = 55 ∨ (q = 48 ∧ j = 11) ∨ q = 58 ∨ q = 59 ∨ q = 60) ∨ I q j = I q j := fun _ _ => Or.inr rfl
  have FJ : ∀ q j : Nat, (False) ∨ J q j = J q j := fun _ _ => Or.inr rfl
  have A_1_8 : A 1 8 = some 13 := gc_bA hb rfl
  have A_48_0 : A 48 0 = some 1 := gc_bA hb rfl
  have A_48_1 : A 48 1 = some 49 := gc_bA hb rfl
  have A_48_19 : A 48 19 = some 58 := gc_bA hb rfl
  have A_48_2 : A 48 2 = some 50 := gc_bA hb rfl
  have A_48_20 : A 48 20 = some 59 := gc_bA hb rfl
  have A_48_21 : A 48 21 = some 60 := gc_bA hb rfl
  have A_48_5 : A 48 5 = some 52 := gc_bA hb rfl
  have B_1 : 1 < 1000000 := by decide
  have B_13 : 13 < 1000000 := by decide
  have B_48 : 48 < 1000000 := by decide
  have B_49 : 49 < 1000000 := by decide
  have B_50 : 50 < 1000000 := by decide
  have B_52 : 52 < 1000000 := by decide
  have B_58 : 58 < 1000000 := by decide
  have B_59 : 59 < 1000000 := by decide
  have B_60 : 60 < 1000000 := by decide
  have R_13 : ro 13 = 25 := gc_bR hb (by decide) rfl
  have R_48 : ro 48 = 49 := gc_bR hb (by decide) rfl
  have R_49 : ro 49 = 43 := gc_bR hb (by decide) rfl
  have R_50 : ro 50 = 43 := gc_bR hb (by decide) rfl
  have R_52 : ro 52 = 13 := gc_bR hb (by decide) rfl
  have R_58 : ro 58 = 44 := gc_bR hb (by decide) rfl
  have R_59 : ro 59 = 13 := gc_bR hb (by decide) rfl
  have R_60 : ro 60 = 13 := gc_bR hb (by decide) rfl
  have S_1 : sh[1]? = some (false, 8, 21) := gc_bS hb rfl
  have S_13 : sh[13]? = some (true, 1, 384) := gc_bS hb rfl
  have S_48 : sh[48]? = some (false, 0, 22) := gc_bS hb rfl
  have S_49 : sh[49]? = some (true, 1, 18432) := gc_bS hb rfl
  have S_50 : sh[50]? = some (true, 1, 18432) := gc_bS hb rfl
  have S_52 : sh[52]? = some (true, 1, 3000) := gc_bS hb rfl
  have S_58 : sh[58]? = some (true, 1, 4) := gc_bS hb rfl
  have S_59 : sh[59]? = some (true, 1, 4) := gc_bS hb rfl
  have S_60 : sh[60]? = some (true, 1, 4) := gc_bS hb rfl
  obtain ⟨S_a1, R_a1, B_a1, A_a1_5, S_a1_1, R_a1_1, B_a1_1, A_a1_6, S_a1_2, R_a1_2, B_a1_2, A_a1_7, S_a1_3, R_a1_3, B_a1_3, A_a1_9, S_a1_4, R_a1_4, B_a1_4, A_a1_10, S_a1_5, R_a1_5, B_a1_5, A_a1_11, S_a1_6, R_a1_6, B_a1_6, A_a1_13, S_a1_7, R_a1_7, B_a1_7, A_a1_15, S_a1_8, R_a1_8, B_a1_8⟩ := id h_a1
  obtain ⟨S_t, R_t, B_t, A_t_0, h_t_1, A_t_1, h_t_3, A_t_2, S_t_5, R_t_5, B_t_5, A_t_3, S_t_6, R_t_6, B_t_6, A_t_4, h_t_7, A_t_5, S_t_9, R_t_9, B_t_9, A_t_7, S_t_10, R_t_10, B_t_10, A_t_8, h_t_11, A_t_9, S_t_13, R_t_13, B_t_13, A_t_10, S_t_14, R_t_14, B_t_14, A_t_12, S_t_15, R_t_15, B_t_15, A_t_14, S_t_16, R_t_16, B_t_16, A_t_15, h_t_17⟩ := id h_t
  obtain ⟨S_t_1, R_t_1, B_t_1, A_t_1_0, S_t_1_1, R_t_1_1, B_t_1_1, Q0_t_1, Q1_t_1, Q2_t_1⟩ := id h_t_1
  obtain ⟨S_t_3, R_t_3, B_t_3, A_t_3_0, S_t_3_1, R_t_3_1, B_t_3_1, Q0_t_3, Q1_t_3, Q2_t_3⟩ := id h_t_3
  obtain ⟨S_t_7, R_t_7, B_t_7, A_t_7_0, S_t_7_1, R_t_7_1, B_t_7_1, Q0_t_7, Q1_t_7, Q2_t_7⟩ := id h_t_7
  obtain ⟨S_t_11, R_t_11, B_t_11, A_t_11_0, S_t_11_1, R_t_11_1, B_t_11_1, Q0_t_11, Q1_t_11, Q2_t_11⟩ := id h_t_11
  obtain ⟨S_t_17, R_t_17, B_t_17, A_t_17_0, S_20, R_20, B_20, A_t_17_1, S_t_17_1, R_t_17_1, B_t_17_1, A_t_17_2, S_t_17_2, R_t_17_2, B_t_17_2, A_t_17_3, S_t_17_3, R_t_17_3, B_t_17_3, A_t_17_4, S_t_17_4, R_t_17_4, B_t_17_4, A_t_17_5, S_t_17_5, R_t_17_5, B_t_17_5, S_t_17_6, R_t_17_6, B_t_17_6, S_t_17_7, R_t_17_7, B_t_17_7⟩ := id h_t_17
  obtain ⟨S_x, R_x, B_x, A_x_0, S_x_1, R_x_1, B_x_1, A_x_2, S_x_2, R_x_2, B_x_2, A_x_3, S_x_3, R_x_3, B_x_3⟩ := id h_x
  have N1 := gc_dj_LT h_a1 h_t
  have hD : gv_D (gc_E0 ws0 tb (2 + nr) (yX0_lay, cX0_lay, 11, none) kX0_lay) := gq_ok oX0_lay
  refine gc_ev0 (d := (2 + nr)) (l := kX0_lay) (Po := fun r h' => (∃ (I' : gr_I) (J' : gr_J), h' = gc_h sh I' J' A ∧ gc_Inv ro I' ∧ (∀ q j : Nat, ((q = 48 ∧ j = 3) ∨ (q = 48 ∧ j = 6) ∨ (q = 48 ∧ j = 12) ∨ q = 51 ∨ q = 52 ∨ q = 53 ∨ q = 54 ∨ q = 55 ∨ (q = 48 ∧ j = 11) ∨ q = 58 ∨ q = 59 ∨ q = 60) ∨ I' q j = I q j) ∧ (∀ q j : Nat, (False) ∨ J' q j = J q j) ∧ gc_WV t I' ∧ gc_FN I' ∧ r = none ∧ (I' 48 12 = 1 ∨ I' 48 11 ≤ 400000) ∧ (I' 48 11 ≤ 400001) ∧ (I 48 3 ≤ I' 48 3))) htb rfl (Nat.le_of_ble_eq_true rfl) ?_
  have N_t__51 : ¬ (t = 51) := by omega
  have N_t__52 : ¬ (t = 52) := by omega
  have N_t__53 : ¬ (t = 53) := by omega
  have N_t__54 : ¬ (t = 54) := by omega
  have N_t__55 : ¬ (t = 55) := by omega
  have N_t__58 : ¬ (t = 58) := by omega
  have N_t__59 : ¬ (t = 59) := by omega
  have N_t__60 : ¬ (t = 60) := by omega
  have N_x__51 : ¬ (x = 51) := by omega
  have N_x__52 : ¬ (x = 52) := by omega
  have N_x__53 : ¬ (x = 53) := by omega
  have N_x__54 : ¬ (x = 54) := by omega
  have N_x__55 : ¬ (x = 55) := by omega
  have N_x__58 : ¬ (x = 58) := by omega
  have N_x__59 : ¬ (x = 59) := by omega
  have N_x__60 : ¬ (x = 60) := by omega
  have N_a1__51 : ¬ (a1 = 51) := by omega
  have N_a1__52 : ¬ (a1 = 52) := by omega
  have N_a1__53 : ¬ (a1 = 53) := by omega
  have N_a1__54 : ¬ (a1 = 54) := by omega
  have N_a1__55 : ¬ (a1 = 55) := by omega
  have N_a1__58 : ¬ (a1 = 58) := by omega
  have N_a1__59 : ¬ (a1 = 59) := by omega
  have N_a1__60 : ¬ (a1 = 60) := by omega
  have f1 := (show 0 ≤ I 48 3 ∧ I 48 3 ≤ 3000 from gc_in hI R_48 rfl rfl)
  have f2 := (show 0 ≤ I 48 6 ∧ I 48 6 ≤ 9000 from gc_in hI R_48 rfl rfl)
  have f3 := (show 0 ≤ I 48 11 ∧ I 48 11 ≤ 1000000 from gc_in hI R_48 rfl rfl)
  have f4 := (show 0 ≤ I 48 12 ∧ I 48 12 ≤ 1 from gc_in hI R_48 rfl rfl)
  have f5 := (show 0 ≤ I 48 17 ∧ I 48 17 ≤ 3000 from gc_in hI R_48 rfl rfl)
  have f6 := (show 0 ≤ I 48 18 ∧ I 48 18 ≤ 24 from gc_in hI R_48 rfl rfl)
  have f7 := (show 0 ≤ I t 13 ∧ I t 13 ≤ 384 from gc_in hI R_t rfl rfl)
  have f8 := (show 0 ≤ I x 4 ∧ I x 4 ≤ 24 from gc_in hI R_x rfl rfl)
  have f9 := (show 0 ≤ I a1 4 ∧ I a1 4 ≤ 6 from gc_in hI R_a1 rfl rfl)
  have f10 := (show 0 ≤ I a1 0 ∧ I a1 0 ≤ 384 from gc_in hI R_a1 rfl rfl)
  have f11 := (show (-1) ≤ I 48 13 ∧ I 48 13 ≤ 999999 from gc_in hI R_48 rfl rfl)
  have f12 := (show (-1) ≤ I 48 14 ∧ I 48 14 ≤ 999999 from gc_in hI R_48 rfl rfl)
  have L41 : ∀ (I13 : gr_I) (J14 : gr_J) , gc_Inv ro I13 → (∀ q j : Nat, ((q = 48 ∧ j = 3) ∨ (q = 48 ∧ j = 6) ∨ (q = 48 ∧ j = 12) ∨ q = 51 ∨ q = 52 ∨ q = 53 ∨ q = 54 ∨ q = 55 ∨ (q = 48 ∧ j = 11) ∨ q = 58 ∨ q = 59 ∨ q = 60) ∨ I13 q j = I q j) → (∀ q j : Nat, (False) ∨ J14 q j = J q j) → gc_WV t I13 → gc_FN I13 → ((I13 48 11 ≤ 400001) ∧ (I 48 3 ≤ I13 48 3) ∧ (I13 48 12 = 1 ∨ I13 48 11 ≤ 400000) ∧ (I13 a1 4 = I a1 4) ∧ (I13 a1 0 = I a1 0) ∧ (I13 t 13 = I t 13) ∧ (I13 48 18 = I 48 18) ∧ (I13 x 4 = I x 4) ∧ (I13 48 17 = I 48 17) ∧ (I13 48 13 = (t : Int)) ∧ (I13 48 14 = (x : Int))) → gv_X (gc_E0 ws0 tb (2 + nr) (yX0_lay, cX0_lay, 11, none) kX0_lay) (gv_Q cX0_lay none sh (fun r h' => (∃ (I' : gr_I) (J' : gr_J), h' = gc_h sh I' J' A ∧ gc_Inv ro I' ∧ (∀ q j : Nat, ((q = 48 ∧ j = 3) ∨ (q = 48 ∧ j = 6) ∨ (q = 48 ∧ j = 12) ∨ q = 51 ∨ q = 52 ∨ q = 53 ∨ q = 54 ∨ q = 55 ∨ (q = 48 ∧ j = 11) ∨ q = 58 ∨ q = 59 ∨ q = 60) ∨ I' q j = I q j) ∧ (∀ q j : Nat, (False) ∨ J' q j = J q j) ∧ gc_WV t I' ∧ gc_FN I' ∧ r = none ∧ (I' 48 12 = 1 ∨ I' 48 11 ≤ 400000) ∧ (I' 48 11 ≤ 400001) ∧ (I 48 3 ≤ I' 48 3)))) (41, [], [], sh, gc_h sh I13 J14 A) := by
    intro I13 J14 hI13 FI13 FJ14 KWV_I13 KFN_I13 m_15
    obtain ⟨e0_15, e1_15, e2_15, e3_15, e4_15, e5_15, e6_15, e7_15, e8_15, e9_15, e10_15⟩ := m_15
    have f16 := (show 0 ≤ I13 48 3 ∧ I13 48 3 ≤ 3000 from gc_in hI13 R_48 rfl rfl)
    have f17 := (show 0 ≤ I13 48 6 ∧ I13 48 6 ≤ 9000 from gc_in hI13 R_48 rfl rfl)
    have f18 := (show 0 ≤ I13 48 11 ∧ I13 48 11 ≤ 1000000 from gc_in hI13 R_48 rfl rfl)
    have f19 := (show 0 ≤ I13 48 12 ∧ I13 48 12 ≤ 1 from gc_in hI13 R_48 rfl rfl)
    have f20 := (show 0 ≤ I13 48 17 ∧ I13 48 17 ≤ 3000 from gc_in hI13 R_48 rfl rfl)
    have f21 := (show 0 ≤ I13 48 18 ∧ I13 48 18 ≤ 24 from gc_in hI13 R_48 rfl rfl)
    have f22 := (show 0 ≤ I13 t 13 ∧ I13 t 13 ≤ 384 from gc_in hI13 R_t rfl rfl)
    have f23 := (show 0 ≤ I13 x 4 ∧ I13 x 4 ≤ 24 from gc_in hI13 R_x rfl rfl)
    have f24 := (show 0 ≤ I13 a1 4 ∧ I13 a1 4 ≤ 6 from gc_in hI13 R_a1 rfl rfl)
    have f25 := (show 0 ≤ I13 a1 0 ∧ I13 a1 0 ≤ 384 from gc_in hI13 R_a1 rfl rfl)
    have f26 := (show (-1) ≤ I13 48 13 ∧ I13 48 13 ≤ 999999 from gc_in hI13 R_48 rfl rfl)
    have f27 := (show (-1) ≤ I13 48 14 ∧ I13 48 14 ≤ 999999 from gc_in hI13 R_48 rfl rfl)
    exact gv_vret hD rfl ⟨I13, J14, rfl, hI13, FI13, FJ14, KWV_I13, KFN_I13, ⟨rfl, by omega⟩⟩
  have L102 : ∀ (s0_28 : Int), ((0 ≤ a2 ∧ a2 ≤ 5) ∧ (0 ≤ a3 ∧ a3 ≤ 24) ∧ (0 ≤ a4 ∧ a4 ≤ 4) ∧ (0 ≤ s0_28 ∧ s0_28 ≤ 1) ∧ (a2 < I a1 4) ∧ (I 48 11 ≤ 400001) ∧ (I 48 3 ≤ I 48 3) ∧ (I 48 12 = 1 ∨ I 48 11 ≤ 400000) ∧ (I (a1 + 1) (Int.toNat a2) < 0) ∧ (s0_28 = 0 ∨ a3 + I a1 4 - a2 ≤ I 48 18) ∧ (I a1 4 = I a1 4) ∧ (I a1 0 = I a1 0) ∧ (I t 13 = I t 13) ∧ (I 48 18 = I 48 18) ∧ (I x 4 = I x 4) ∧ (I 48 17 = I 48 17) ∧ (I 48 13 = (t : Int)) ∧ (I 48 14 = (x : Int))) → gv_X (gc_E0 ws0 tb (2 + nr) (yX0_lay, cX0_lay, 11, none) kX0_lay) (gv_Q cX0_lay none sh (fun r h' => (∃ (I' : gr_I) (J' : gr_J), h' = gc_h sh I' J' A ∧ gc_Inv ro I' ∧ (∀ q j : Nat, ((q = 48 ∧ j = 3) ∨ (q = 48 ∧ j = 6) ∨ (q = 48 ∧ j = 12) ∨ q = 51 ∨ q = 52 ∨ q = 53 ∨ q = 54 ∨ q = 55 ∨ (q = 48 ∧ j = 11) ∨ q = 58 ∨ q = 59 ∨ q = 60) ∨ I' q j = I q j) ∧ (∀ q j : Nat, (False) ∨ J' q j = J q j) ∧ gc_WV t I' ∧ gc_FN I' ∧ r = none ∧ (I' 48 12 = 1 ∨ I' 48 11 ≤ 400000) ∧ (I' 48 11 ≤ 400001) ∧ (I 48 3 ≤ I' 48 3)))) (102, [(0, .inr (.inr (some 48))), (1, .inr (.inr (some a1))), (2, .inl a2), (3, .inl a3), (4, .inl a4)], [.inl s0_28], sh, gc_h sh I J A) := by
    intro s0_28 m_28
    obtain ⟨ha2_28, ha3_28, ha4_28, hs0_28, e0_28, e1_28, e2_28, e3_28, e4_28, e5_28, e6_28, e7_28, e8_28, e9_28, e10_28, e11_28, e12_28, e13_28⟩ := m_28
    have f29 := (show 0 ≤ I 48 3 ∧ I 48 3 ≤ 3000 from gc_in hI R_48 rfl rfl)
    have f30 := (show 0 ≤ I 48 6 ∧ I 48 6 ≤ 9000 from gc_in hI R_48 rfl rfl)
    have f31 := (show 0 ≤ I 48 11 ∧ I 48 11 ≤ 1000000 from gc_in hI R_48 rfl rfl)
    have f32 := (show 0 ≤ I 48 12 ∧ I 48 12 ≤ 1 from gc_in hI R_48 rfl rfl)
    have f33 := (show 0 ≤ I 48 17 ∧ I 48 17 ≤ 3000 from gc_in hI R_48 rfl rfl)
    have f34 := (show 0 ≤ I 48 18 ∧ I 48 18 ≤ 24 from gc_in hI R_48 rfl rfl)
    have f35 := (show 0 ≤ I t 13 ∧ I t 13 ≤ 384 from gc_in hI R_t rfl rfl)
    have f36 := (show 0 ≤ I x 4 ∧ I x 4 ≤ 24 from gc_in hI R_x rfl rfl)
    have f37 := (show 0 ≤ I a1 4 ∧ I a1 4 ≤ 6 from gc_in hI R_a1 rfl rfl)
    have f38 := (show 0 ≤ I a1 0 ∧ I a1 0 ≤ 384 from gc_in hI R_a1 rfl rfl)
    have f39 := (show (-1) ≤ I 48 13 ∧ I 48 13 ≤ 999999 from gc_in hI R_48 rfl rfl)
    have f40 := (show (-1) ≤ I 48 14 ∧ I 48 14 ≤ 999999 from gc_in hI R_48 rfl rfl)
    have L142 : ∀ (I41 : gr_I) (J42 : gr_J) , gc_Inv ro I41 → (∀ q j : Nat, ((q = 48 ∧ j = 3) ∨ (q = 48 ∧ j = 6) ∨ (q = 48 ∧ j = 12) ∨ q = 51 ∨ q = 52 ∨ q = 53 ∨ q = 54 ∨ q = 55 ∨ (q = 48 ∧ j = 11) ∨ q = 58 ∨ q = 59 ∨ q = 60) ∨ I41 q j = I q j) → (∀ q j : Nat, (False) ∨ J42 q j = J q j) → gc_WV t I41 → gc_FN I41 → ((I41 48 11 ≤ 400001) ∧ (I 48 3 ≤ I41 48 3) ∧ (I41 48 12 = 1 ∨ I41 48 11 ≤ 400000) ∧ (I41 a1 4 = I a1 4) ∧ (I41 a1 0 = I a1 0) ∧ (I41 t 13 = I t 13) ∧ (I41 48 18 = I 48 18) ∧ (I41 x 4 = I x 4) ∧ (I41 48 17 = I 48 17) ∧ (I41 48 13 = (t : Int)) ∧ (I41 48 14 = (x : Int))) → gv_X (gc_E0 ws0 tb (2 + nr) (yX0_lay, cX0_lay, 11, none) kX0_lay) (gv_Q cX0_lay none sh (fun r h' => (∃ (I' : gr_I) (J' : gr_J), h' = gc_h sh I' J' A ∧ gc_Inv ro I' ∧ (∀ q j : Nat, ((q = 48 ∧ j = 3) ∨ (q = 48 ∧ j = 6) ∨ (q = 48 ∧ j = 12) ∨ q = 51 ∨ q = 52 ∨ q = 53 ∨ q = 54 ∨ q = 55 ∨ (q = 48 ∧ j = 11) ∨ q = 58 ∨ q = 59 ∨ q = 60) ∨ I' q j = I q j) ∧ (∀ q j : Nat, (False) ∨ J' q j = J q j) ∧ gc_WV t I' ∧ gc_FN I' ∧ r = none ∧ (I' 48 12 = 1 ∨ I' 48 11 ≤ 400000) ∧ (I' 48 11 ≤ 400001) ∧ (I 48 3 ≤ I' 48 3)))) (142, [], [], sh, gc_h sh I41 J42 A) := by
      intro I41 J42 hI41 FI41 FJ42 KWV_I41 KFN_I41 m_43
      clear ha2_28 ha3_28 ha4_28 hs0_28 e0_28 e1_28 e2_28 e3_28 e4_28 e5_28 e6_28 e7_28 e8_28 e9_28 e10_28 e11_28 e12_28 e13_28 f29 f30 f31 f32 f33 f34 f35 f36 f37 f38 f39 f40
      obtain ⟨e0_43, e1_43, e2_43, e3_43, e4_43, e5_43, e6_43, e7_43, e8_43, e9_43, e10_43⟩ := m_43
      have f44 := (show 0 ≤ I41 48 3 ∧ I41 48 3 ≤ 3000 from gc_in hI41 R_48 rfl rfl)
      have f45 := (show 0 ≤ I41 48 6 ∧ I41 48 6 ≤ 9000 from gc_in hI41 R_48 rfl rfl)
      have f46 := (show 0 ≤ I41 48 11 ∧ I41 48 11 ≤ 1000000 from gc_in hI41 R_48 rfl rfl)
      have f47 := (show 0 ≤ I41 48 12 ∧ I41 48 12 ≤ 1 from gc_in hI41 R_48 rfl rfl)
      have f48 := (show 0 ≤ I41 48 17 ∧ I41 48 17 ≤ 3000 from gc_in hI41 R_48 rfl rfl)
      have f49 := (show 0 ≤ I41 48 18 ∧ I41 48 18 ≤ 24 from gc_in hI41 R_48 rfl rfl)
      have f50 := (show 0 ≤ I41 t 13 ∧ I41 t 13 ≤ 384 from gc_in hI41 R_t rfl rfl)
      have f51 := (show 0 ≤ I41 x 4 ∧ I41 x 4 ≤ 24 from gc_in hI41 R_x rfl rfl)
      have f52 := (show 0 ≤ I41 a1 4 ∧ I41 a1 4 ≤ 6 from gc_in hI41 R_a1 rfl rfl)
      have f53 := (show 0 ≤ I41 a1 0 ∧ I41 a1 0 ≤ 384 from gc_in hI41 R_a1 rfl rfl)
      have f54 := (show (-1) ≤ I41 48 13 ∧ I41 48 13 ≤ 999999 from gc_in hI41 R_48 rfl rfl)
      have f55 := (show (-1) ≤ I41 48 14 ∧ I41 48 14 ≤ 999999 from gc_in hI41 R_48 rfl rfl)
      exact gv_vret hD rfl ⟨I41, J42, rfl, hI41, FI41, FJ42, KWV_I41, KFN_I41, ⟨rfl, by omega⟩⟩
    refine gv_run 2 true hD (pc' := 106) (lv' := [(6, .inl s0_28), (0, .inr (.inr (some 48))), (1, .inr (.inr (some a1))), (2, .inl a2), (3, .inl a3), (4, .inl a4)]) (st' := [.inl s0_28]) (h' := gc_h sh I J A) (C := ((True ∧ True) ∧ True)) rfl ⟨⟨trivial, trivial⟩, trivial⟩ ?_
    refine gv_if_eq (t := 142) hD rfl rfl ⟨by omega, by omega⟩ (fun c56 => ?_) (fun c56 => ?_)
    · show gv_X _ _ (142, [(6, .inl s0_28), (0, .inr (.inr (some 48))), (1, .inr (.inr (some a1))), (2, .inl a2), (3, .inl a3), (4, .inl a4)], [], sh, gc_h sh I J A)
      refine gv_pick [] rfl ?_
      exact L142 I J hI FI FJ KWV_I KFN_I (by omega)
    · show gv_X _ _ (109, [(6, .inl s0_28), (0, .inr (.inr (some 48))), (1, .inr (.inr (some a1))), (2, .inl a2), (3, .inl a3), (4, .inl a4)], [], sh, gc_h sh I J A)
      refine gv_run 3 true hD (pc' := 112) (lv' := [(6, .inl s0_28), (0, .inr (.inr (some 48))), (1, .inr (.inr (some a1))), (2, .inl a2), (3, .inl a3), (4, .inl a4)]) (st' := [.inr (.inr (some a1)), .inl a3, .inr (.inr (some 48))]) (h' := gc_h sh I J A) (C := (((True ∧ True) ∧ True) ∧ True)) rfl ⟨⟨⟨trivial, trivial⟩, trivial⟩, trivial⟩ ?_
      refine gv_get hD rfl rfl S_a1 ⟨by decide, B_a1⟩ (gc_hA S_a1 rfl A_a1_6) ?_
      show gv_X _ _ (115, [(6, .inl s0_28), (0, .inr (.inr (some 48))), (1, .inr (.inr (some a1))), (2, .inl a2), (3, .inl a3), (4, .inl a4)], [.inr (.inr (some (a1 + 2))), .inl a3, .inr (.inr (some 48))], sh, gc_h sh I J A)
      refine gv_run 1 true hD (pc' := 116) (lv' := [(6, .inl s0_28), (0, .inr (.inr (some 48))), (1, .inr (.inr (some a1))), (2, .inl a2), (3, .inl a3), (4, .inl a4)]) (st' := [.inl a2, .inr (.inr (some (a1 + 2))), .inl a3, .inr (.inr (some 48))]) (h' := gc_h sh I J A) (C := (True ∧ True)) rfl ⟨trivial, trivial⟩ ?_
      have f57 := (show 0 ≤ I (a1 + 2) (Int.toNat a2) ∧ I (a1 + 2) (Int.toNat a2) ≤ 2000 from gc_in hI R_a1_2 rfl rfl)
      refine gv_iald hD rfl S_a1_2 rfl ⟨by decide, B_a1_2⟩ ⟨by omega, by omega⟩ (gc_iI S_a1_2 rfl) ?_
      show gv_X _ _ (117, [(6, .inl s0_28), (0, .inr (.inr (some 48))), (1, .inr (.inr (some a1))), (2, .inl a2), (3, .inl a3), (4, .inl a4)], [.inl (I (a1 + 2) (Int.toNat a2)), .inl a3, .inr (.inr (some 48))], sh, gc_h sh I J A)
      refine gv_run 1 true hD (pc' := 118) (lv' := [(6, .inl s0_28), (0, .inr (.inr (some 48))), (1, .inr (.inr (some a1))), (2, .inl a2), (3, .inl a3), (4, .inl a4)]) (st' := [.inr (.inr (some a1)), .inl (I (a1 + 2) (Int.toNat a2)), .inl a3, .inr (.inr (some 48))]) (h' := gc_h sh I J A) (C := (True ∧ True)) rfl ⟨trivial, trivial⟩ ?_
      refine gv_get hD rfl rfl S_a1 ⟨by decide, B_a1⟩ (gc_hA S_a1 rfl A_a1_7) ?_
      show gv_X _ _ (121, [(6, .inl s0_28), (0, .inr (.inr (some 48))), (1, .inr (.inr (some a1))), (2, .inl a2), (3, .inl a3), (4, .inl a4)], [.inr (.inr (some (a1 + 3))), .inl (I (a1 + 2) (Int.toNat a2)), .inl a3, .inr (.inr (some 48))], sh, gc_h sh I J A)
      refine gv_run 1 true hD (pc' := 122) (lv' := [(6, .inl s0_28), (0, .inr (.inr (some 48))), (1, .inr (.inr (some a1))), (2, .inl a2), (3, .inl a3), (4, .inl a4)]) (st' := [.inl a2, .inr (.inr (some (a1 + 3))), .inl (I (a1 + 2) (Int.toNat a2)), .inl a3, .inr (.inr (some 48))]) (h' := gc_h sh I J A) (C := (True ∧ True)) rfl ⟨trivial, trivial⟩ ?_
      have f58 := (show 0 ≤ I (a1 + 3) (Int.toNat a2) ∧ I (a1 + 3) (Int.toNat a2) ≤ 24 from gc_in hI R_a1_3 rfl rfl)
      refine gv_iald hD rfl S_a1_3 rfl ⟨by decide, B_a1_3⟩ ⟨by omega, by omega⟩ (gc_iI S_a1_3 rfl) ?_
      show gv_X _ _ (123, [(6, .inl s0_28), (0, .inr (.inr (some 48))), (1, .inr (.inr (some a1))), (2, .inl a2), (3, .inl a3), (4, .inl a4)], [.inl (I (a1 + 3) (Int.toNat a2)), .inl (I (a1 + 2) (Int.toNat a2)), .inl a3, .inr (.inr (some 48))], sh, gc_h sh I J A)
      obtain ⟨r59, h59, E59, P59⟩ := d_X0_isAt (ws0 := ws0) (tb := tb) hws htb sh ro I J A hI  x a3 ((I (a1 + 2) (Int.toNat a2))) ((I (a1 + 3) (Int.toNat a2))) hb  h_x G_x  ⟨by omega, by omega⟩ ⟨by omega, by omega⟩ ⟨by omega, by omega⟩ x6 (by omega) (by omega) 
      obtain ⟨rfl, ⟨z59, rfl, q59⟩⟩ := P59
      refine gv_callV hD rfl (As := [.inl a3, .inl (I (a1 + 2) (Int.toNat a2)), .inl (I (a1 + 3) (Int.toNat a2))]) (st := []) rfl B_48 S_48 rfl (gc_lV0 hws rfl) (Nat.le_of_ble_eq_true rfl) (gz_Ev_mono (d := 1) (by omega) E59) ?_
      show gv_X _ _ (126, [(6, .inl s0_28), (0, .inr (.inr (some 48))), (1, .inr (.inr (some a1))), (2, .inl a2), (3, .inl a3), (4, .inl a4)], [.inl z59], sh, gc_h sh I J A)
      refine gv_if_eq (t := 142) hD rfl rfl ⟨by omega, by omega⟩ (fun c60 => ?_) (fun c60 => ?_)
      · show gv_X _ _ (142, [(6, .inl s0_28), (0, .inr (.inr (some 48))), (1, .inr (.inr (some a1))), (2, .inl a2), (3, .inl a3), (4, .inl a4)], [], sh, gc_h sh I J A)
        refine gv_pick [] rfl ?_
        exact L142 I J hI FI FJ KWV_I KFN_I (by omega)
      · show gv_X _ _ (129, [(6, .inl s0_28), (0, .inr (.inr (some 48))), (1, .inr (.inr (some a1))), (2, .inl a2), (3, .inl a3), (4, .inl a4)], [], sh, gc_h sh I J A)
        refine gv_run 7 true hD (pc' := 136) (lv' := [(6, .inl s0_28), (0, .inr (.inr (some 48))), (1, .inr (.inr (some a1))), (2, .inl a2), (3, .inl a3), (4, .inl a4)]) (st' := [.inl 1, .inl a3, .inl (a2 + 1), .inr (.inr (some a1)), .inr (.inr (some 48))]) (h' := gc_h sh I J A) (C := (((((((True ∧ True) ∧ True) ∧ True) ∧ True) ∧ True) ∧ True) ∧ True)) rfl ⟨⟨⟨⟨⟨⟨⟨trivial, trivial⟩, trivial⟩, trivial⟩, trivial⟩, trivial⟩, trivial⟩, trivial⟩ ?_
        refine gv_run 2 true hD (pc' := 139) (lv' := [(6, .inl s0_28), (0, .inr (.inr (some 48))), (1, .inr (.inr (some a1))), (2, .inl a2), (3, .inl a3), (4, .inl a4)]) (st' := [.inl a4, .inl (a3 + 1), .inl (a2 + 1), .inr (.inr (some a1)), .inr (.inr (some 48))]) (h' := gc_h sh I J A) (C := ((True ∧ True) ∧ True)) rfl ⟨⟨trivial, trivial⟩, trivial⟩ ?_
        obtain ⟨r61, h61, E61, P61⟩ := ihR I J hI (a2 + 1) (a3 + 1) a4 ⟨by omega, by omega⟩ ⟨by omega, by omega⟩ ⟨by omega, by omega⟩ (by omega) (by rw [show Int.toNat (a2 + 1) = Int.toNat a2 + 1 from by omega, gc_ac_nx0 (by omega)]; omega) x2 (by omega) (by omega) (by omega) x6 (by omega) (by omega) (by omega) (by omega) (by omega) KWV_I KFN_I (by omega)
        obtain ⟨I62, J63, rfl, hI62, g61, k61, KWV_I62, KFN_I62, ⟨rfl, q61⟩⟩ := P61
        have FI62 := gc_frc (W := fun q j => (q = 48 ∧ j = 3) ∨ (q = 48 ∧ j = 6) ∨ (q = 48 ∧ j = 12) ∨ q = 51 ∨ q = 52 ∨ q = 53 ∨ q = 54 ∨ q = 55 ∨ (q = 48 ∧ j = 11) ∨ q = 58 ∨ q = 59 ∨ q = 60) (V := fun q j => (q = 48 ∧ j = 3) ∨ (q = 48 ∧ j = 6) ∨ (q = 48 ∧ j = 12) ∨ q = 51 ∨ q = 52 ∨ q = 53 ∨ q = 54 ∨ q = 55 ∨ (q = 48 ∧ j = 11) ∨ q = 58 ∨ q = 59 ∨ q = 60) FI (fun q j h => (h.elim (fun h => (Or.inl h)) (fun h => (h.elim (fun h => (Or.inr (Or.inl h))) (fun h => (h.elim (fun h => (Or.inr (Or.inr (Or.inl h)))) (fun h => (h.elim (fun h => (Or.inr (Or.inr (Or.inr (Or.inl h))))) (fun h => (h.elim (fun h => (Or.inr (Or.inr (Or.inr (Or.inr (Or.inl h)))))) (fun h => (h.elim (fun h => (Or.inr (Or.inr (Or.inr (Or.inr (Or.inr (Or.inl h))))))) (fun h => (h.elim (fun h => (Or.inr (Or.inr (Or.inr (Or.inr (Or.inr (Or.inr (Or.inl h)))))))) (fun h => (h.elim (fun h => (Or.inr (Or.inr (Or.inr (Or.inr (Or.inr (Or.inr (Or.inr (Or.inl h))))))))) (fun h => (h.elim (fun h => (Or.inr (Or.inr (Or.inr (Or.inr (Or.inr (Or.inr (Or.inr (Or.inr (Or.inl h)))))))))) (fun h => (h.elim (fun h => (Or.inr (Or.inr (Or.inr (Or.inr (Or.inr (Or.inr (Or.inr (Or.inr (Or.inr (Or.inl h))))))))))) (fun h => (h.elim (fun h => (Or.inr (Or.inr (Or.inr (Or.inr (Or.inr (Or.inr (Or.inr (Or.inr (Or.inr (Or.inr (Or.inl h)))))))))))) (fun h => (Or.inr (Or.inr (Or.inr (Or.inr (Or.inr (Or.inr (Or.inr (Or.inr (Or.inr (Or.inr (Or.inr h)))))))))))))))))))))))))))))))))) g61
        have t64 := (g61 48 17).resolve_left (fun h => h.elim (fun h => absurd h.2 (by decide)) (fun h => h.elim (fun h => absurd h.2 (by decide)) (fun h => h.elim (fun h => absurd h.2 (by decide)) (fun h => h.elim (fun h => absurd h (by decide)) (fun h => h.elim (fun h => absurd h (by decide)) (fun h => h.elim (fun h => absurd h (by decide)) (fun h => h.elim (fun h => absurd h (by decide)) (fun h => h.elim (fun h => absurd h (by decide)) (fun h => h.elim (fun h => absurd h.2 (by decide)) (fun h => h.elim (fun h => absurd h (by decide)) (fun h => h.elim (fun h => absurd h (by decide)) (fun h => absurd h (by decide)))))))))))))
        have t65 := (g61 48 18).resolve_left (fun h => h.elim (fun h => absurd h.2 (by decide)) (fun h => h.elim (fun h => absurd h.2 (by decide)) (fun h => h.elim (fun h => absurd h.2 (by decide)) (fun h => h.elim (fun h => absurd h (by decide)) (fun h => h.elim (fun h => absurd h (by decide)) (fun h => h.elim (fun h => absurd h (by decide)) (fun h => h.elim (fun h => absurd h (by decide)) (fun h => h.elim (fun h => absurd h (by decide)) (fun h => h.elim (fun h => absurd h.2 (by decide)) (fun h => h.elim (fun h => absurd h (by decide)) (fun h => h.elim (fun h => absurd h (by decide)) (fun h => absurd h (by decide)))))))))))))
        have t66 := (g61 t 13).resolve_left (fun h => h.elim (fun h => absurd h.2 (by decide)) (fun h => h.elim (fun h => absurd h.2 (by decide)) (fun h => h.elim (fun h => absurd h.2 (by decide)) (fun h => h.elim (fun h => absurd h N_t__51) (fun h => h.elim (fun h => absurd h N_t__52) (fun h => h.elim (fun h => absurd h N_t__53) (fun h => h.elim (fun h => absurd h N_t__54) (fun h => h.elim (fun h => absurd h N_t__55) (fun h => h.elim (fun h => absurd h.2 (by decide)) (fun h => h.elim (fun h => absurd h N_t__58) (fun h => h.elim (fun h => absurd h N_t__59) (fun h => absurd h N_t__60))))))))))))
        have t67 := (g61 x 4).resolve_left (fun h => h.elim (fun h => absurd h.2 (by decide)) (fun h => h.elim (fun h => absurd h.2 (by decide)) (fun h => h.elim (fun h => absurd h.2 (by decide)) (fun h => h.elim (fun h => absurd h N_x__51) (fun h => h.elim (fun h => absurd h N_x__52) (fun h => h.elim (fun h => absurd h N_x__53) (fun h => h.elim (fun h => absurd h N_x__54) (fun h => h.elim (fun h => absurd h N_x__55) (fun h => h.elim (fun h => absurd h.2 (by decide)) (fun h => h.elim (fun h => absurd h N_x__58) (fun h => h.elim (fun h => absurd h N_x__59) (fun h => absurd h N_x__60))))))))))))
        have t68 := (g61 a1 4).resolve_left (fun h => h.elim (fun h => absurd h.2 (by decide)) (fun h => h.elim (fun h => absurd h.2 (by decide)) (fun h => h.elim (fun h => absurd h.2 (by decide)) (fun h => h.elim (fun h => absurd h N_a1__51) (fun h => h.elim (fun h => absurd h N_a1__52) (fun h => h.elim (fun h => absurd h N_a1__53) (fun h => h.elim (fun h => absurd h N_a1__54) (fun h => h.elim (fun h => absurd h N_a1__55) (fun h => h.elim (fun h => absurd h.2 (by decide)) (fun h => h.elim (fun h => absurd h N_a1__58) (fun h => h.elim (fun h => absurd h N_a1__59) (fun h => absurd h N_a1__60))))))))))))
        have t69 := (g61 a1 0).resolve_left (fun h => h.elim (fun h => absurd h.2 (by decide)) (fun h => h.elim (fun h => absurd h.2 (by decide)) (fun h => h.elim (fun h => absurd h.2 (by decide)) (fun h => h.elim (fun h => absurd h N_a1__51) (fun h => h.elim (fun h => absurd h N_a1__52) (fun h => h.elim (fun h => absurd h N_a1__53) (fun h => h.elim (fun h => absurd h N_a1__54) (fun h => h.elim (fun h => absurd h N_a1__55) (fun h => h.elim (fun h => absurd h.2 (by decide)) (fun h => h.elim (fun h => absurd h N_a1__58) (fun h => h.elim (fun h => absurd h N_a1__59) (fun h => absurd h N_a1__60))))))))))))
        have t70 := (g61 48 13).resolve_left (fun h => h.elim (fun h => absurd h.2 (by decide)) (fun h => h.elim (fun h => absurd h.2 (by decide)) (fun h => h.elim (fun h => absurd h.2 (by decide)) (fun h => h.elim (fun h => absurd h (by decide)) (fun h => h.elim (fun h => absurd h (by decide)) (fun h => h.elim (fun h => absurd h (by decide)) (fun h => h.elim (fun h => absurd h (by decide)) (fun h => h.elim (fun h => absurd h (by decide)) (fun h => h.elim (fun h => absurd h.2 (by decide)) (fun h => h.elim (fun h => absurd h (by decide)) (fun h => h.elim (fun h => absurd h (by decide)) (fun h => absurd h (by decide)))))))))))))
        have t71 := (g61 48 14).resolve_left (fun h => h.elim (fun h => absurd h.2 (by decide)) (fun h => h.elim (fun h => absurd h.2 (by decide)) (fun h => h.elim (fun h => absurd h.2 (by decide)) (fun h => h.elim (fun h => absurd h (by decide)) (fun h => h.elim (fun h => absurd h (by decide)) (fun h => h.elim (fun h => absurd h (by decide)) (fun h => h.elim (fun h => absurd h (by decide)) (fun h => h.elim (fun h => absurd h (by decide)) (fun h => h.elim (fun h => absurd h.2 (by decide)) (fun h => h.elim (fun h => absurd h (by decide)) (fun h => h.elim (fun h => absurd h (by decide)) (fun h => absurd h (by decide)))))))))))))
        have f72 := (show 0 ≤ I62 48 3 ∧ I62 48 3 ≤ 3000 from gc_in hI62 R_48 rfl rfl)
        have f73 := (show 0 ≤ I62 48 6 ∧ I62 48 6 ≤ 9000 from gc_in hI62 R_48 rfl rfl)
        have f74 := (show 0 ≤ I62 48 11 ∧ I62 48 11 ≤ 1000000 from gc_in hI62 R_48 rfl rfl)
        have f75 := (show 0 ≤ I62 48 12 ∧ I62 48 12 ≤ 1 from gc_in hI62 R_48 rfl rfl)
        have f76 := (show 0 ≤ I62 48 17 ∧ I62 48 17 ≤ 3000 from gc_in hI62 R_48 rfl rfl)
        have f77 := (show 0 ≤ I62 48 18 ∧ I62 48 18 ≤ 24 from gc_in hI62 R_48 rfl rfl)
        have f78 := (show 0 ≤ I62 t 13 ∧ I62 t 13 ≤ 384 from gc_in hI62 R_t rfl rfl)
        have f79 := (show 0 ≤ I62 x 4 ∧ I62 x 4 ≤ 24 from gc_in hI62 R_x rfl rfl)
        have f80 := (show 0 ≤ I62 a1 4 ∧ I62 a1 4 ≤ 6 from gc_in hI62 R_a1 rfl rfl)
        have f81 := (show 0 ≤ I62 a1 0 ∧ I62 a1 0 ≤ 384 from gc_in hI62 R_a1 rfl rfl)
        have f82 := (show (-1) ≤ I62 48 13 ∧ I62 48 13 ≤ 999999 from gc_in hI62 R_48 rfl rfl)
        have f83 := (show (-1) ≤ I62 48 14 ∧ I62 48 14 ≤ 999999 from gc_in hI62 R_48 rfl rfl)
        obtain rfl : J = J63 := funext fun q => funext fun j => ((k61 q j).resolve_left id).symm
        refine gv_callV hD rfl (As := [.inr (.inr (some a1)), .inl (a2 + 1), .inl (a3 + 1), .inl a4]) (st := []) rfl B_48 S_48 rfl (gc_lV0 hws rfl) (Nat.le_of_ble_eq_true rfl) (gz_Ev_mono (d := (2 + nr)) (Nat.le_refl _) E61) ?_
        show gv_X _ _ (142, [(6, .inl s0_28), (0, .inr (.inr (some 48))), (1, .inr (.inr (some a1))), (2, .inl a2), (3, .inl a3), (4, .inl a4)], [], sh, gc_h sh I62 J A)
        refine gv_pick [] rfl ?_
        exact L142 I62 J hI62 FI62 FJ KWV_I62 KFN_I62 (by omega)
  have L181 : ∀ (v5_84 : Int) (v6_84 : Int) (s0_84 : Int), ((0 ≤ a2 ∧ a2 ≤ 5) ∧ (0 ≤ a3 ∧ a3 ≤ 24) ∧ (0 ≤ a4 ∧ a4 ≤ 4) ∧ (0 ≤ v5_84 ∧ v5_84 ≤ 5) ∧ (0 ≤ v6_84 ∧ v6_84 ≤ 31) ∧ (0 ≤ s0_84 ∧ s0_84 ≤ 25) ∧ (v5_84 = I a1 4 - a2 - 1) ∧ (a2 < I a1 4) ∧ (a4 ≤ 3) ∧ (0 ≤ I (a1 + 1) (Int.toNat a2)) ∧ (I 48 11 ≤ 400001) ∧ (I 48 3 ≤ I 48 3) ∧ (I 48 12 = 1 ∨ I 48 11 ≤ 400000) ∧ (a3 < s0_84) ∧ (s0_84 ≤ I 48 18) ∧ (I a1 4 = I a1 4) ∧ (I a1 0 = I a1 0) ∧ (I t 13 = I t 13) ∧ (I 48 18 = I 48 18) ∧ (I x 4 = I x 4) ∧ (I 48 17 = I 48 17) ∧ (I 48 13 = (t : Int)) ∧ (I 48 14 = (x : Int))) → gv_X (gc_E0 ws0 tb (2 + nr) (yX0_lay, cX0_lay, 11, none) kX0_lay) (gv_Q cX0_lay none sh (fun r h' => (∃ (I' : gr_I) (J' : gr_J), h' = gc_h sh I' J' A ∧ gc_Inv ro I' ∧ (∀ q j : Nat, ((q = 48 ∧ j = 3) ∨ (q = 48 ∧ j = 6) ∨ (q = 48 ∧ j = 12) ∨ q = 51 ∨ q = 52 ∨ q = 53 ∨ q = 54 ∨ q = 55 ∨ (q = 48 ∧ j = 11) ∨ q = 58 ∨ q = 59 ∨ q = 60) ∨ I' q j = I q j) ∧ (∀ q j : Nat, (False) ∨ J' q j = J q j) ∧ gc_WV t I' ∧ gc_FN I' ∧ r = none ∧ (I' 48 12 = 1 ∨ I' 48 11 ≤ 400000) ∧ (I' 48 11 ≤ 400001) ∧ (I 48 3 ≤ I' 48 3)))) (181, [(0, .inr (.inr (some 48))), (1, .inr (.inr (some a1))), (2, .inl a2), (3, .inl a3), (4, .inl a4), (5, .inl v5_84), (6, .inl v6_84)], [.inl s0_84], sh, gc_h sh I J A) := by
    intro v5_84 v6_84 s0_84 m_84
    obtain ⟨ha2_84, ha3_84, ha4_84, hv5_84, hv6_84, hs0_84, e0_84, e1_84, e2_84, e3_84, e4_84, e5_84, e6_84, e7_84, e8_84, e9_84, e10_84, e11_84, e12_84, e13_84, e14_84, e15_84, e16_84⟩ := m_84
    have f85 := (show 0 ≤ I 48 3 ∧ I 48 3 ≤ 3000 from gc_in hI R_48 rfl rfl)
    have f86 := (show 0 ≤ I 48 6 ∧ I 48 6 ≤ 9000 from gc_in hI R_48 rfl rfl)
    have f87 := (show 0 ≤ I 48 11 ∧ I 48 11 ≤ 1000000 from gc_in hI R_48 rfl rfl)
    have f88 := (show 0 ≤ I 48 12 ∧ I 48 12 ≤ 1 from gc_in hI R_48 rfl rfl)
    have f89 := (show 0 ≤ I 48 17 ∧ I 48 17 ≤ 3000 from gc_in hI R_48 rfl rfl)
    have f90 := (show 0 ≤ I 48 18 ∧ I 48 18 ≤ 24 from gc_in hI R_48 rfl rfl)
    have f91 := (show 0 ≤ I t 13 ∧ I t 13 ≤ 384 from gc_in hI R_t rfl rfl)
    have f92 := (show 0 ≤ I x 4 ∧ I x 4 ≤ 24 from gc_in hI R_x rfl rfl)
    have f93 := (show 0 ≤ I a1 4 ∧ I a1 4 ≤ 6 from gc_in hI R_a1 rfl rfl)
    have f94 := (show 0 ≤ I a1 0 ∧ I a1 0 ≤ 384 from gc_in hI R_a1 rfl rfl)
    have f95 := (show (-1) ≤ I 48 13 ∧ I 48 13 ≤ 999999 from gc_in hI R_48 rfl rfl)
    have f96 := (show (-1) ≤ I 48 14 ∧ I 48 14 ≤ 999999 from gc_in hI R_48 rfl rfl)
    have L183 : ∀ (n9 : Nat) (I97 : gr_I) (J98 : gr_J) (v7_99 : Int), (26 - v7_99).toNat < n9 → gc_Inv ro I97 → (∀ q j : Nat, ((q = 48 ∧ j = 3) ∨ (q = 48 ∧ j = 6) ∨ (q = 48 ∧ j = 12) ∨ q = 51 ∨ q = 52 ∨ q = 53 ∨ q = 54 ∨ q = 55 ∨ (q = 48 ∧ j = 11) ∨ q = 58 ∨ q = 59 ∨ q = 60) ∨ I97 q j = I q j) → (∀ q j : Nat, (False) ∨ J98 q j = J q j) → gc_WV t I97 → gc_FN I97 → ((0 ≤ a2 ∧ a2 ≤ 5) ∧ (0 ≤ a3 ∧ a3 ≤ 24) ∧ (0 ≤ a4 ∧ a4 ≤ 4) ∧ (0 ≤ v5_84 ∧ v5_84 ≤ 5) ∧ (0 ≤ v6_84 ∧ v6_84 ≤ 31) ∧ (1 ≤ v7_99 ∧ v7_99 ≤ 25) ∧ (v5_84 = I a1 4 - a2 - 1) ∧ (a2 < I a1 4) ∧ (a4 ≤ 3) ∧ (0 ≤ I (a1 + 1) (Int.toNat a2)) ∧ (I97 48 11 ≤ 400001) ∧ (I 48 3 ≤ I97 48 3) ∧ (I97 48 12 = 1 ∨ I97 48 11 ≤ 400000) ∧ (a3 < v7_99) ∧ (I97 a1 4 = I a1 4) ∧ (I97 a1 0 = I a1 0) ∧ (I97 t 13 = I t 13) ∧ (I97 48 18 = I 48 18) ∧ (I97 x 4 = I x 4) ∧ (I97 48 17 = I 48 17) ∧ (I97 48 13 = (t : Int)) ∧ (I97 48 14 = (x : Int))) → gv_X (gc_E0 ws0 tb (2 + nr) (yX0_lay, cX0_lay, 11, none) kX0_lay) (gv_Q cX0_lay none sh (fun r h' => (∃ (I' : gr_I) (J' : gr_J), h' = gc_h sh I' J' A ∧ gc_Inv ro I' ∧ (∀ q j : Nat, ((q = 48 ∧ j = 3) ∨ (q = 48 ∧ j = 6) ∨ (q = 48 ∧ j = 12) ∨ q = 51 ∨ q = 52 ∨ q = 53 ∨ q = 54 ∨ q = 55 ∨ (q = 48 ∧ j = 11) ∨ q = 58 ∨ q = 59 ∨ q = 60) ∨ I' q j = I q j) ∧ (∀ q j : Nat, (False) ∨ J' q j = J q j) ∧ gc_WV t I' ∧ gc_FN I' ∧ r = none ∧ (I' 48 12 = 1 ∨ I' 48 11 ≤ 400000) ∧ (I' 48 11 ≤ 400001) ∧ (I 48 3 ≤ I' 48 3)))) (183, [(0, .inr (.inr (some 48))), (1, .inr (.inr (some a1))), (2, .inl a2), (3, .inl a3), (4, .inl a4), (5, .inl v5_84), (6, .inl v6_84), (7, .inl v7_99)], [], sh, gc_h sh I97 J98 A) := by
      intro n9
      induction n9 with
      | zero => intro I97 J98 v7_99 hn; omega
      | succ n9 ih183 =>
        intro I97 J98 v7_99 hn hI97 FI97 FJ98 KWV_I97 KFN_I97 m_99
        clear ha2_84 ha3_84 ha4_84 hv5_84 hv6_84 hs0_84 e0_84 e1_84 e2_84 e3_84 e4_84 e5_84 e6_84 e7_84 e8_84 e9_84 e10_84 e11_84 e12_84 e13_84 e14_84 e15_84 e16_84 f85 f86 f87 f88 f89 f90 f91 f92 f93 f94 f95 f96
        obtain ⟨ha2_99, ha3_99, ha4_99, hv5_84_99, hv6_84_99, hv7_99, e0_99, e1_99, e2_99, e3_99, e4_99, e5_99, e6_99, e7_99, e8_99, e9_99, e10_99, e11_99, e12_99, e13_99, e14_99, e15_99⟩ := m_99
        have f100 := (show 0 ≤ I97 48 3 ∧ I97 48 3 ≤ 3000 from gc_in hI97 R_48 rfl rfl)
        have f101 := (show 0 ≤ I97 48 6 ∧ I97 48 6 ≤ 9000 from gc_in hI97 R_48 rfl rfl)
        have f102 := (show 0 ≤ I97 48 11 ∧ I97 48 11 ≤ 1000000 from gc_in hI97 R_48 rfl rfl)
        have f103 := (show 0 ≤ I97 48 12 ∧ I97 48 12 ≤ 1 from gc_in hI97 R_48 rfl rfl)
        have f104 := (show 0 ≤ I97 48 17 ∧ I97 48 17 ≤ 3000 from gc_in hI97 R_48 rfl rfl)
        have f105 := (show 0 ≤ I97 48 18 ∧ I97 48 18 ≤ 24 from gc_in hI97 R_48 rfl rfl)
        have f106 := (show 0 ≤ I97 t 13 ∧ I97 t 13 ≤ 384 from gc_in hI97 R_t rfl rfl)
        have f107 := (show 0 ≤ I97 x 4 ∧ I97 x 4 ≤ 24 from gc_in hI97 R_x rfl rfl)
        have f108 := (show 0 ≤ I97 a1 4 ∧ I97 a1 4 ≤ 6 from gc_in hI97 R_a1 rfl rfl)
        have f109 := (show 0 ≤ I97 a1 0 ∧ I97 a1 0 ≤ 384 from gc_in hI97 R_a1 rfl rfl)
        have f110 := (show (-1) ≤ I97 48 13 ∧ I97 48 13 ≤ 999999 from gc_in hI97 R_48 rfl rfl)
        have f111 := (show (-1) ≤ I97 48 14 ∧ I97 48 14 ≤ 999999 from gc_in hI97 R_48 rfl rfl)
        have L223 : ∀ (n9 : Nat) (I112 : gr_I) (J113 : gr_J) (v8_114 : Int) (v9_114 : Int), (3001 - v9_114).toNat < n9 → gc_Inv ro I112 → (∀ q j : Nat, ((q = 48 ∧ j = 3) ∨ (q = 48 ∧ j = 6) ∨ (q = 48 ∧ j = 12) ∨ q = 51 ∨ q = 52 ∨ q = 53 ∨ q = 54 ∨ q = 55 ∨ (q = 48 ∧ j = 11) ∨ q = 58 ∨ q = 59 ∨ q = 60) ∨ I112 q j = I q j) → (∀ q j : Nat, (False) ∨ J113 q j = J q j) → gc_WV t I112 → gc_FN I112 → ((0 ≤ a2 ∧ a2 ≤ 5) ∧ (0 ≤ a3 ∧ a3 ≤ 24) ∧ (0 ≤ a4 ∧ a4 ≤ 4) ∧ (0 ≤ v5_84 ∧ v5_84 ≤ 5) ∧ (0 ≤ v6_84 ∧ v6_84 ≤ 31) ∧ (1 ≤ v7_99 ∧ v7_99 ≤ 24) ∧ (0 ≤ v8_114 ∧ v8_114 ≤ 18431) ∧ (0 ≤ v9_114 ∧ v9_114 ≤ 3000) ∧ (v5_84 = I a1 4 - a2 - 1) ∧ (a2 < I a1 4) ∧ (a4 ≤ 3) ∧ (0 ≤ I (a1 + 1) (Int.toNat a2)) ∧ (I112 48 11 ≤ 400001) ∧ (I 48 3 ≤ I112 48 3) ∧ (I112 48 12 = 1 ∨ I112 48 11 ≤ 400000) ∧ (a3 < v7_99) ∧ (v7_99 + v5_84 ≤ I112 48 18) ∧ (I112 a1 4 = I a1 4) ∧ (I112 a1 0 = I a1 0) ∧ (I112 t 13 = I t 13) ∧ (I112 48 18 = I 48 18) ∧ (I112 x 4 = I x 4) ∧ (I112 48 17 = I 48 17) ∧ (I112 48 13 = (t : Int)) ∧ (I112 48 14 = (x : Int))) → gv_X (gc_E0 ws0 tb (2 + nr) (yX0_lay, cX0_lay, 11, none) kX0_lay) (gv_Q cX0_lay none sh (fun r h' => (∃ (I' : gr_I) (J' : gr_J), h' = gc_h sh I' J' A ∧ gc_Inv ro I' ∧ (∀ q j : Nat, ((q = 48 ∧ j = 3) ∨ (q = 48 ∧ j = 6) ∨ (q = 48 ∧ j = 12) ∨ q = 51 ∨ q = 52 ∨ q = 53 ∨ q = 54 ∨ q = 55 ∨ (q = 48 ∧ j = 11) ∨ q = 58 ∨ q = 59 ∨ q = 60) ∨ I' q j = I q j) ∧ (∀ q j : Nat, (False) ∨ J' q j = J q j) ∧ gc_WV t I' ∧ gc_FN I' ∧ r = none ∧ (I' 48 12 = 1 ∨ I' 48 11 ≤ 400000) ∧ (I' 48 11 ≤ 400001) ∧ (I 48 3 ≤ I' 48 3)))) (223, [(0, .inr (.inr (some 48))), (1, .inr (.inr (some a1))), (2, .inl a2), (3, .inl a3), (4, .inl a4), (5, .inl v5_84), (6, .inl v6_84), (7, .inl v7_99), (8, .inl v8_114), (9, .inl v9_114)], [], sh, gc_h sh I112 J113 A) := by
          intro n9
          induction n9 with
          | zero => intro I112 J113 v8_114 v9_114 hn; omega
          | succ n9 ih223 =>
            intro I112 J113 v8_114 v9_114 hn hI112 FI112 FJ113 KWV_I112 KFN_I112 m_114
            clear ha2_99 ha3_99 ha4_99 hv5_84_99 hv6_84_99 hv7_99 e0_99 e1_99 e2_99 e3_99 e4_99 e5_99 e6_99 e7_99 e8_99 e9_99 e10_99 e11_99 e12_99 e13_99 e14_99 e15_99 f100 f101 f102 f103 f104 f105 f106 f107 f108 f109 f110 f111
            obtain ⟨ha2_114, ha3_114, ha4_114, hv5_84_114, hv6_84_114, hv7_99_114, hv8_114, hv9_114, e0_114, e1_114, e2_114, e3_114, e4_114, e5_114, e6_114, e7_114, e8_114, e9_114, e10_114, e11_114, e12_114, e13_114, e14_114, e15_114, e16_114⟩ := m_114
            have f115 := (show 0 ≤ I112 48 3 ∧ I112 48 3 ≤ 3000 from gc_in hI112 R_48 rfl rfl)
            have f116 := (show 0 ≤ I112 48 6 ∧ I112 48 6 ≤ 9000 from gc_in hI112 R_48 rfl rfl)
            have f117 := (show 0 ≤ I112 48 11 ∧ I112 48 11 ≤ 1000000 from gc_in hI112 R_48 rfl rfl)
            have f118 := (show 0 ≤ I112 48 12 ∧ I112 48 12 ≤ 1 from gc_in hI112 R_48 rfl rfl)
            have f119 := (show 0 ≤ I112 48 17 ∧ I112 48 17 ≤ 3000 from gc_in hI112 R_48 rfl rfl)
            have f120 := (show 0 ≤ I112 48 18 ∧ I112 48 18 ≤ 24 from gc_in hI112 R_48 rfl rfl)
            have f121 := (show 0 ≤ I112 t 13 ∧ I112 t 13 ≤ 384 from gc_in hI112 R_t rfl rfl)
            have f122 := (show 0 ≤ I112 x 4 ∧ I112 x 4 ≤ 24 from gc_in hI112 R_x rfl rfl)
            have f123 := (show 0 ≤ I112 a1 4 ∧ I112 a1 4 ≤ 6 from gc_in hI112 R_a1 rfl rfl)
            have f124 := (show 0 ≤ I112 a1 0 ∧ I112 a1 0 ≤ 384 from gc_in hI112 R_a1 rfl rfl)
            have f125 := (show (-1) ≤ I112 48 13 ∧ I112 48 13 ≤ 999999 from gc_in hI112 R_48 rfl rfl)
            have f126 := (show (-1) ≤ I112 48 14 ∧ I112 48 14 ≤ 999999 from gc_in hI112 R_48 rfl rfl)
            have L282 : ∀ (I127 : gr_I) (J128 : gr_J) (s1_129 : Int), gc_Inv ro I127 → (∀ q j : Nat, ((q = 48 ∧ j = 3) ∨ (q = 48 ∧ j = 6) ∨ (q = 48 ∧ j = 12) ∨ q = 51 ∨ q = 52 ∨ q = 53 ∨ q = 54 ∨ q = 55 ∨ (q = 48 ∧ j = 11) ∨ q = 58 ∨ q = 59 ∨ q = 60) ∨ I127 q j = I q j) → (∀ q j : Nat, (False) ∨ J128 q j = J q j) → gc_WV t I127 → gc_FN I127 → ((0 ≤ a2 ∧ a2 ≤ 5) ∧ (0 ≤ a3 ∧ a3 ≤ 24) ∧ (0 ≤ a4 ∧ a4 ≤ 4) ∧ (0 ≤ v5_84 ∧ v5_84 ≤ 5) ∧ (0 ≤ v6_84 ∧ v6_84 ≤ 31) ∧ (1 ≤ v7_99 ∧ v7_99 ≤ 24) ∧ (0 ≤ v8_114 ∧ v8_114 ≤ 18431) ∧ (0 ≤ v9_114 ∧ v9_114 ≤ 2999) ∧ (0 ≤ s1_129 ∧ s1_129 ≤ 1) ∧ (v5_84 = I a1 4 - a2 - 1) ∧ (a2 < I a1 4) ∧ (a4 ≤ 3) ∧ (0 ≤ I (a1 + 1) (Int.toNat a2)) ∧ (I127 48 11 ≤ 400001) ∧ (I 48 3 ≤ I127 48 3) ∧ (s1_129 = 1 ∨ I127 48 11 ≤ 400000) ∧ (a3 < v7_99) ∧ (v7_99 + v5_84 ≤ I127 48 18) ∧ (v9_114 ≤ 2999) ∧ (I127 a1 4 = I a1 4) ∧ (I127 a1 0 = I a1 0) ∧ (I127 t 13 = I t 13) ∧ (I127 48 18 = I 48 18) ∧ (I127 x 4 = I x 4) ∧ (I127 48 17 = I 48 17) ∧ (I127 48 13 = (t : Int)) ∧ (I127 48 14 = (x : Int))) → gv_X (gc_E0 ws0 tb (2 + nr) (yX0_lay, cX0_lay, 11, none) kX0_lay) (gv_Q cX0_lay none sh (fun r h' => (∃ (I' : gr_I) (J' : gr_J), h' = gc_h sh I' J' A ∧ gc_Inv ro I' ∧ (∀ q j : Nat, ((q = 48 ∧ j = 3) ∨ (q = 48 ∧ j = 6) ∨ (q = 48 ∧ j = 12) ∨ q = 51 ∨ q = 52 ∨ q = 53 ∨ q = 54 ∨ q = 55 ∨ (q = 48 ∧ j = 11) ∨ q = 58 ∨ q = 59 ∨ q = 60) ∨ I' q j = I q j) ∧ (∀ q j : Nat, (False) ∨ J' q j = J q j) ∧ gc_WV t I' ∧ gc_FN I' ∧ r = none ∧ (I' 48 12 = 1 ∨ I' 48 11 ≤ 400000) ∧ (I' 48 11 ≤ 400001) ∧ (I 48 3 ≤ I' 48 3)))) (282, [(0, .inr (.inr (some 48))), (1, .inr (.inr (some a1))), (2, .inl a2), (3, .inl a3), (4, .inl a4), (5, .inl v5_84), (6, .inl v6_84), (7, .inl v7_99), (8, .inl v8_114), (9, .inl v9_114)], [.inl s1_129, .inr (.inr (some 48))], sh, gc_h sh I127 J128 A) := by
              intro I127 J128 s1_129 hI127 FI127 FJ128 KWV_I127 KFN_I127 m_129
              clear ha2_114 ha3_114 ha4_114 hv5_84_114 hv6_84_114 hv7_99_114 hv8_114 hv9_114 e0_114 e1_114 e2_114 e3_114 e4_114 e5_114 e6_114 e7_114 e8_114 e9_114 e10_114 e11_114 e12_114 e13_114 e14_114 e15_114 e16_114 f115 f116 f117 f118 f119 f120 f121 f122 f123 f124 f125 f126
              obtain ⟨ha2_129, ha3_129, ha4_129, hv5_84_129, hv6_84_129, hv7_99_129, hv8_114_129, hv9_114_129, hs1_129, e0_129, e1_129, e2_129, e3_129, e4_129, e5_129, e6_129, e7_129, e8_129, e9_129, e10_129, e11_129, e12_129, e13_129, e14_129, e15_129, e16_129, e17_129⟩ := m_129
              have f130 := (show 0 ≤ I127 48 3 ∧ I127 48 3 ≤ 3000 from gc_in hI127 R_48 rfl rfl)
              have f131 := (show 0 ≤ I127 48 6 ∧ I127 48 6 ≤ 9000 from gc_in hI127 R_48 rfl rfl)
              have f132 := (show 0 ≤ I127 48 11 ∧ I127 48 11 ≤ 1000000 from gc_in hI127 R_48 rfl rfl)
              have f133 := (show 0 ≤ I127 48 12 ∧ I127 48 12 ≤ 1 from gc_in hI127 R_48 rfl rfl)
              have f134 := (show 0 ≤ I127 48 17 ∧ I127 48 17 ≤ 3000 from gc_in hI127 R_48 rfl rfl)
              have f135 := (show 0 ≤ I127 48 18 ∧ I127 48 18 ≤ 24 from gc_in hI127 R_48 rfl rfl)
              have f136 := (show 0 ≤ I127 t 13 ∧ I127 t 13 ≤ 384 from gc_in hI127 R_t rfl rfl)
              have f137 := (show 0 ≤ I127 x 4 ∧ I127 x 4 ≤ 24 from gc_in hI127 R_x rfl rfl)
              have f138 := (show 0 ≤ I127 a1 4 ∧ I127 a1 4 ≤ 6 from gc_in hI127 R_a1 rfl rfl)
              have f139 := (show 0 ≤ I127 a1 0 ∧ I127 a1 0 ≤ 384 from gc_in hI127 R_a1 rfl rfl)
              have f140 := (show (-1) ≤ I127 48 13 ∧ I127 48 13 ≤ 999999 from gc_in hI127 R_48 rfl rfl)
              have f141 := (show (-1) ≤ I127 48 14 ∧ I127 48 14 ≤ 999999 from gc_in hI127 R_48 rfl rfl)
              have L348 : ∀ (I142 : gr_I) (J143 : gr_J) , gc_Inv ro I142 → (∀ q j : Nat, ((q = 48 ∧ j = 3) ∨ (q = 48 ∧ j = 6) ∨ (q = 48 ∧ j = 12) ∨ q = 51 ∨ q = 52 ∨ q = 53 ∨ q = 54 ∨ q = 55 ∨ (q = 48 ∧ j = 11) ∨ q = 58 ∨ q = 59 ∨ q = 60) ∨ I142 q j = I q j) → (∀ q j : Nat, (False) ∨ J143 q j = J q j) → gc_WV t I142 → gc_FN I142 → ((0 ≤ a2 ∧ a2 ≤ 5) ∧ (0 ≤ a3 ∧ a3 ≤ 24) ∧ (0 ≤ a4 ∧ a4 ≤ 4) ∧ (0 ≤ v5_84 ∧ v5_84 ≤ 5) ∧ (0 ≤ v6_84 ∧ v6_84 ≤ 31) ∧ (1 ≤ v7_99 ∧ v7_99 ≤ 24) ∧ (0 ≤ v8_114 ∧ v8_114 ≤ 18431) ∧ (0 ≤ v9_114 ∧ v9_114 ≤ 2999) ∧ (v5_84 = I a1 4 - a2 - 1) ∧ (a2 < I a1 4) ∧ (a4 ≤ 3) ∧ (0 ≤ I (a1 + 1) (Int.toNat a2)) ∧ (I142 48 11 ≤ 400001) ∧ (I 48 3 ≤ I142 48 3) ∧ (I142 48 12 = 1 ∨ I142 48 11 ≤ 400000) ∧ (a3 < v7_99) ∧ (v7_99 + v5_84 ≤ I142 48 18) ∧ (v9_114 ≤ 2999) ∧ (I142 a1 4 = I a1 4) ∧ (I142 a1 0 = I a1 0) ∧ (I142 t 13 = I t 13) ∧ (I142 48 18 = I 48 18) ∧ (I142 x 4 = I x 4) ∧ (I142 48 17 = I 48 17) ∧ (I142 48 13 = (t : Int)) ∧ (I142 48 14 = (x : Int))) → gv_X (gc_E0 ws0 tb (2 + nr) (yX0_lay, cX0_lay, 11, none) kX0_lay) (gv_Q cX0_lay none sh (fun r h' => (∃ (I' : gr_I) (J' : gr_J), h' = gc_h sh I' J' A ∧ gc_Inv ro I' ∧ (∀ q j : Nat, ((q = 48 ∧ j = 3) ∨ (q = 48 ∧ j = 6) ∨ (q = 48 ∧ j = 12) ∨ q = 51 ∨ q = 52 ∨ q = 53 ∨ q = 54 ∨ q = 55 ∨ (q = 48 ∧ j = 11) ∨ q = 58 ∨ q = 59 ∨ q = 60) ∨ I' q j = I q j) ∧ (∀ q j : Nat, (False) ∨ J' q j = J q j) ∧ gc_WV t I' ∧ gc_FN I' ∧ r = none ∧ (I' 48 12 = 1 ∨ I' 48 11 ≤ 400000) ∧ (I' 48 11 ≤ 400001) ∧ (I 48 3 ≤ I' 48 3)))) (348, [(0, .inr (.inr (some 48))), (1, .inr (.inr (some a1))), (2, .inl a2), (3, .inl a3), (4, .inl a4), (5, .inl v5_84), (6, .inl v6_84), (7, .inl v7_99), (8, .inl v8_114), (9, .inl v9_114)], [], sh, gc_h sh I142 J143 A) := by
                intro I142 J143 hI142 FI142 FJ143 KWV_I142 KFN_I142 m_144
                clear ha2_129 ha3_129 ha4_129 hv5_84_129 hv6_84_129 hv7_99_129 hv8_114_129 hv9_114_129 hs1_129 e0_129 e1_129 e2_129 e3_129 e4_129 e5_129 e6_129 e7_129 e8_129 e9_129 e10_129 e11_129 e12_129 e13_129 e14_129 e15_129 e16_129 e17_129 f130 f131 f132 f133 f134 f135 f136 f137 f138 f139 f140 f141
                obtain ⟨ha2_144, ha3_144, ha4_144, hv5_84_144, hv6_84_144, hv7_99_144, hv8_114_144, hv9_114_144, e0_144, e1_144, e2_144, e3_144, e4_144, e5_144, e6_144, e7_144, e8_144, e9_144, e10_144, e11_144, e12_144, e13_144, e14_144, e15_144, e16_144, e17_144⟩ := m_144
                have f145 := (show 0 ≤ I142 48 3 ∧ I142 48 3 ≤ 3000 from gc_in hI142 R_48 rfl rfl)
                have f146 := (show 0 ≤ I142 48 6 ∧ I142 48 6 ≤ 9000 from gc_in hI142 R_48 rfl rfl)
                have f147 := (show 0 ≤ I142 48 11 ∧ I142 48 11 ≤ 1000000 from gc_in hI142 R_48 rfl rfl)
                have f148 := (show 0 ≤ I142 48 12 ∧ I142 48 12 ≤ 1 from gc_in hI142 R_48 rfl rfl)
                have f149 := (show 0 ≤ I142 48 17 ∧ I142 48 17 ≤ 3000 from gc_in hI142 R_48 rfl rfl)
                have f150 := (show 0 ≤ I142 48 18 ∧ I142 48 18 ≤ 24 from gc_in hI142 R_48 rfl rfl)
                have f151 := (show 0 ≤ I142 t 13 ∧ I142 t 13 ≤ 384 from gc_in hI142 R_t rfl rfl)
                have f152 := (show 0 ≤ I142 x 4 ∧ I142 x 4 ≤ 24 from gc_in hI142 R_x rfl rfl)
                have f153 := (show 0 ≤ I142 a1 4 ∧ I142 a1 4 ≤ 6 from gc_in hI142 R_a1 rfl rfl)
                have f154 := (show 0 ≤ I142 a1 0 ∧ I142 a1 0 ≤ 384 from gc_in hI142 R_a1 rfl rfl)
                have f155 := (show (-1) ≤ I142 48 13 ∧ I142 48 13 ≤ 999999 from gc_in hI142 R_48 rfl rfl)
                have f156 := (show (-1) ≤ I142 48 14 ∧ I142 48 14 ≤ 999999 from gc_in hI142 R_48 rfl rfl)
                refine gv_run 2 true hD (pc' := 223) (lv' := [(9, .inl (v9_114 + 1)), (0, .inr (.inr (some 48))), (1, .inr (.inr (some a1))), (2, .inl a2), (3, .inl a3), (4, .inl a4), (5, .inl v5_84), (6, .inl v6_84), (7, .inl v7_99), (8, .inl v8_114)]) (st' := []) (h' := gc_h sh I142 J143 A) (C := ((True ∧ True) ∧ True)) rfl ⟨⟨trivial, trivial⟩, trivial⟩ ?_
                refine gv_pick [1, 2, 3, 4, 5, 6, 7, 8, 9, 0] rfl ?_
                exact ih223 I142 J143 v8_114 (v9_114 + 1) (by omega) hI142 FI142 FJ143 KWV_I142 KFN_I142 (by omega)
              refine gv_put hD rfl rfl S_48 ⟨by decide, B_48⟩ rfl (by omega) ?_
              refine gc_st (k := 12) hI127 S_48 rfl R_48 (lo := 0) (hi := 1) rfl rfl (by omega) (by omega) (fun I157 hI157 q158 p158 => ?_)
              have FI157 := gc_frs (W := fun q j => (q = 48 ∧ j = 3) ∨ (q = 48 ∧ j = 6) ∨ (q = 48 ∧ j = 12) ∨ q = 51 ∨ q = 52 ∨ q = 53 ∨ q = 54 ∨ q = 55 ∨ (q = 48 ∧ j = 11) ∨ q = 58 ∨ q = 59 ∨ q = 60) FI127 (Or.inr (Or.inr (Or.inl ⟨rfl, rfl⟩))) p158
              have t159 := p158 48 3 (fun h => absurd h.2 (by decide))
              have t160 := p158 48 6 (fun h => absurd h.2 (by decide))
              have t161 := p158 48 11 (fun h => absurd h.2 (by decide))
              have t162 := p158 48 17 (fun h => absurd h.2 (by decide))
              have t163 := p158 48 18 (fun h => absurd h.2 (by decide))
              have t164 := p158 t 13 (fun h => absurd h.2 (by decide))
              have t165 := p158 x 4 (fun h => absurd h.2 (by decide))
              have t166 := p158 a1 4 (fun h => absurd h.2 (by decide))
              have t167 := p158 a1 0 (fun h => absurd h.2 (by decide))
              have t168 := p158 48 13 (fun h => absurd h.2 (by decide))
              have t169 := p158 48 14 (fun h => absurd h.2 (by decide))
              have f170 := (show 0 ≤ I157 48 3 ∧ I157 48 3 ≤ 3000 from gc_in hI157 R_48 rfl rfl)
              have f171 := (show 0 ≤ I157 48 6 ∧ I157 48 6 ≤ 9000 from gc_in hI157 R_48 rfl rfl)
              have f172 := (show 0 ≤ I157 48 11 ∧ I157 48 11 ≤ 1000000 from gc_in hI157 R_48 rfl rfl)
              have f173 := (show 0 ≤ I157 48 12 ∧ I157 48 12 ≤ 1 from gc_in hI157 R_48 rfl rfl)
              have f174 := (show 0 ≤ I157 48 17 ∧ I157 48 17 ≤ 3000 from gc_in hI157 R_48 rfl rfl)
              have f175 := (show 0 ≤ I157 48 18 ∧ I157 48 18 ≤ 24 from gc_in hI157 R_48 rfl rfl)
              have f176 := (show 0 ≤ I157 t 13 ∧ I157 t 13 ≤ 384 from gc_in hI157 R_t rfl rfl)
              have f177 := (show 0 ≤ I157 x 4 ∧ I157 x 4 ≤ 24 from gc_in hI157 R_x rfl rfl)
              have f178 := (show 0 ≤ I157 a1 4 ∧ I157 a1 4 ≤ 6 from gc_in hI157 R_a1 rfl rfl)
              have f179 := (show 0 ≤ I157 a1 0 ∧ I157 a1 0 ≤ 384 from gc_in hI157 R_a1 rfl rfl)
              have f180 := (show (-1) ≤ I157 48 13 ∧ I157 48 13 ≤ 999999 from gc_in hI157 R_48 rfl rfl)
              have f181 := (show (-1) ≤ I157 48 14 ∧ I157 48 14 ≤ 999999 from gc_in hI157 R_48 rfl rfl)
              have KWV_I157 := gc_WV_fr KWV_I127 (p158 48 6 (fun h => absurd h.2 (by decide))) (p158 t 13 (fun h => absurd h.2 (by decide))) (fun k => p158 54 k (fun h => absurd h.1 (by decide)))
              have KFN_I157 := gc_FN_fr KFN_I127 (fun k => p158 49 k (fun h => absurd h.1 (by decide))) (fun k => p158 50 k (fun h => absurd h.1 (by decide)))
              show gv_X _ _ (285, [(0, .inr (.inr (some 48))), (1, .inr (.inr (some a1))), (2, .inl a2), (3, .inl a3), (4, .inl a4), (5, .inl v5_84), (6, .inl v6_84), (7, .inl v7_99), (8, .inl v8_114), (9, .inl v9_114)], [], sh, gc_h sh I157 J128 A)
              refine gv_run 1 true hD (pc' := 286) (lv' := [(0, .inr (.inr (some 48))), (1, .inr (.inr (some a1))), (2, .inl a2), (3, .inl a3), (4, .inl a4), (5, .inl v5_84), (6, .inl v6_84), (7, .inl v7_99), (8, .inl v8_114), (9, .inl v9_114)]) (st' := [.inr (.inr (some 48))]) (h' := gc_h sh I157 J128 A) (C := (True ∧ True)) rfl ⟨trivial, trivial⟩ ?_
              refine gv_get hD rfl rfl S_48 ⟨by decide, B_48⟩ (gc_hA S_48 rfl A_48_5) ?_
              show gv_X _ _ (289, [(0, .inr (.inr (some 48))), (1, .inr (.inr (some a1))), (2, .inl a2), (3, .inl a3), (4, .inl a4), (5, .inl v5_84), (6, .inl v6_84), (7, .inl v7_99), (8, .inl v8_114), (9, .inl v9_114)], [.inr (.inr (some 52))], sh, gc_h sh I157 J128 A)
              refine gv_run 1 true hD (pc' := 291) (lv' := [(0, .inr (.inr (some 48))), (1, .inr (.inr (some a1))), (2, .inl a2), (3, .inl a3), (4, .inl a4), (5, .inl v5_84), (6, .inl v6_84), (7, .inl v7_99), (8, .inl v8_114), (9, .inl v9_114)]) (st' := [.inl v9_114, .inr (.inr (some 52))]) (h' := gc_h sh I157 J128 A) (C := (True ∧ True)) rfl ⟨trivial, trivial⟩ ?_
              have f182 := (show 0 ≤ I157 52 (Int.toNat v9_114) ∧ I157 52 (Int.toNat v9_114) ≤ 16777215 from gc_in hI157 R_52 rfl rfl)
              refine gv_iald hD rfl S_52 rfl ⟨by decide, B_52⟩ ⟨by omega, by omega⟩ (gc_iI S_52 rfl) ?_
              show gv_X _ _ (292, [(0, .inr (.inr (some 48))), (1, .inr (.inr (some a1))), (2, .inl a2), (3, .inl a3), (4, .inl a4), (5, .inl v5_84), (6, .inl v6_84), (7, .inl v7_99), (8, .inl v8_114), (9, .inl v9_114)], [.inl (I157 52 (Int.toNat v9_114))], sh, gc_h sh I157 J128 A)
              refine gv_run 1 true hD (pc' := 293) (lv' := [(0, .inr (.inr (some 48))), (1, .inr (.inr (some a1))), (2, .inl a2), (3, .inl a3), (4, .inl a4), (5, .inl v5_84), (6, .inl v6_84), (7, .inl v7_99), (8, .inl v8_114), (9, .inl v9_114)]) (st' := [.inr (.inr (some a1)), .inl (I157 52 (Int.toNat v9_114))]) (h' := gc_h sh I157 J128 A) (C := (True ∧ True)) rfl ⟨trivial, trivial⟩ ?_
              refine gv_get hD rfl rfl S_a1 ⟨by decide, B_a1⟩ (gc_hA S_a1 rfl A_a1_10) ?_
              show gv_X _ _ (296, [(0, .inr (.inr (some 48))), (1, .inr (.inr (some a1))), (2, .inl a2), (3, .inl a3), (4, .inl a4), (5, .inl v5_84), (6, .inl v6_84), (7, .inl v7_99), (8, .inl v8_114), (9, .inl v9_114)], [.inr (.inr (some (a1 + 5))), .inl (I157 52 (Int.toNat v9_114))], sh, gc_h sh I157 J128 A)
              refine gv_run 1 true hD (pc' := 298) (lv' := [(0, .inr (.inr (some 48))), (1, .inr (.inr (some a1))), (2, .inl a2), (3, .inl a3), (4, .inl a4), (5, .inl v5_84), (6, .inl v6_84), (7, .inl v7_99), (8, .inl v8_114), (9, .inl v9_114)]) (st' := [.inl a4, .inr (.inr (some (a1 + 5))), .inl (I157 52 (Int.toNat v9_114))]) (h' := gc_h sh I157 J128 A) (C := (True ∧ True)) rfl ⟨trivial, trivial⟩ ?_
              have f183 := (show 0 ≤ I157 (a1 + 5) (Int.toNat a4) ∧ I157 (a1 + 5) (Int.toNat a4) ≤ 16777215 from gc_in hI157 R_a1_5 rfl rfl)
              refine gv_iald hD rfl S_a1_5 rfl ⟨by decide, B_a1_5⟩ ⟨by omega, by omega⟩ (gc_iI S_a1_5 rfl) ?_
              show gv_X _ _ (299, [(0, .inr (.inr (some 48))), (1, .inr (.inr (some a1))), (2, .inl a2), (3, .inl a3), (4, .inl a4), (5, .inl v5_84), (6, .inl v6_84), (7, .inl v7_99), (8, .inl v8_114), (9, .inl v9_114)], [.inl (I157 (a1 + 5) (Int.toNat a4)), .inl (I157 52 (Int.toNat v9_114))], sh, gc_h sh I157 J128 A)
              obtain ⟨r184, h184, E184, P184⟩ := d_X3_fit (ws0 := ws0) (tb := tb) hws htb sh ro I157 J128 A hI157  ((I157 52 (Int.toNat v9_114))) ((I157 (a1 + 5) (Int.toNat a4)))    ⟨by omega, by omega⟩ ⟨by omega, by omega⟩  
              obtain ⟨rfl, ⟨z184, rfl, q184⟩⟩ := P184
              refine gv_callS hD rfl (As := [.inl (I157 52 (Int.toNat v9_114)), .inl (I157 (a1 + 5) (Int.toNat a4))]) (st := []) rfl (gc_lS0 hws rfl) (Nat.le_of_ble_eq_true rfl) (gz_Ev_mono (d := 1) (by omega) E184) ?_
              show gv_X _ _ (302, [(0, .inr (.inr (some 48))), (1, .inr (.inr (some a1))), (2, .inl a2), (3, .inl a3), (4, .inl a4), (5, .inl v5_84), (6, .inl v6_84), (7, .inl v7_99), (8, .inl v8_114), (9, .inl v9_114)], [.inl z184], sh, gc_h sh I157 J128 A)
              refine gv_run 2 true hD (pc' := 306) (lv' := [(10, .inl z184), (0, .inr (.inr (some 48))), (1, .inr (.inr (some a1))), (2, .inl a2), (3, .inl a3), (4, .inl a4), (5, .inl v5_84), (6, .inl v6_84), (7, .inl v7_99), (8, .inl v8_114), (9, .inl v9_114)]) (st' := [.inl z184]) (h' := gc_h sh I157 J128 A) (C := ((True ∧ True) ∧ True)) rfl ⟨⟨trivial, trivial⟩, trivial⟩ ?_
              refine gv_if_lt (t := 348) hD rfl rfl ⟨by omega, by omega⟩ (fun c185 => ?_) (fun c185 => ?_)
              · show gv_X _ _ (348, [(10, .inl z184), (0, .inr (.inr (some 48))), (1, .inr (.inr (some a1))), (2, .inl a2), (3, .inl a3), (4, .inl a4), (5, .inl v5_84), (6, .inl v6_84), (7, .inl v7_99), (8, .inl v8_114), (9, .inl v9_114)], [], sh, gc_h sh I157 J128 A)
                refine gv_pick [1, 2, 3, 4, 5, 6, 7, 8, 9, 10] rfl ?_
                exact L348 I157 J128 hI157 FI157 FJ128 KWV_I157 KFN_I157 (by omega)
              · show gv_X _ _ (309, [(10, .inl z184), (0, .inr (.inr (some 48))), (1, .inr (.inr (some a1))), (2, .inl a2), (3, .inl a3), (4, .inl a4), (5, .inl v5_84), (6, .inl v6_84), (7, .inl v7_99), (8, .inl v8_114), (9, .inl v9_114)], [], sh, gc_h sh I157 J128 A)
                refine gv_run 1 true hD (pc' := 310) (lv' := [(10, .inl z184), (0, .inr (.inr (some 48))), (1, .inr (.inr (some a1))), (2, .inl a2), (3, .inl a3), (4, .inl a4), (5, .inl v5_84), (6, .inl v6_84), (7, .inl v7_99), (8, .inl v8_114), (9, .inl v9_114)]) (st' := [.inr (.inr (some 48))]) (h' := gc_h sh I157 J128 A) (C := (True ∧ True)) rfl ⟨trivial, trivial⟩ ?_
                have f186 := (show 0 ≤ I157 48 12 ∧ I157 48 12 ≤ 1 from gc_in hI157 R_48 rfl rfl)
                refine gv_get hD rfl rfl S_48 ⟨by decide, B_48⟩ (gc_hI S_48 rfl) ?_
                show gv_X _ _ (313, [(10, .inl z184), (0, .inr (.inr (some 48))), (1, .inr (.inr (some a1))), (2, .inl a2), (3, .inl a3), (4, .inl a4), (5, .inl v5_84), (6, .inl v6_84), (7, .inl v7_99), (8, .inl v8_114), (9, .inl v9_114)], [.inl (I157 48 12)], sh, gc_h sh I157 J128 A)
                refine gv_if_ne (t := 348) hD rfl rfl ⟨by omega, by omega⟩ (fun c187 => ?_) (fun c187 => ?_)
                · show gv_X _ _ (348, [(10, .inl z184), (0, .inr (.inr (some 48))), (1, .inr (.inr (some a1))), (2, .inl a2), (3, .inl a3), (4, .inl a4), (5, .inl v5_84), (6, .inl v6_84), (7, .inl v7_99), (8, .inl v8_114), (9, .inl v9_114)], [], sh, gc_h sh I157 J128 A)
                  refine gv_pick [1, 2, 3, 4, 5, 6, 7, 8, 9, 10] rfl ?_
                  exact L348 I157 J128 hI157 FI157 FJ128 KWV_I157 KFN_I157 (by omega)
                · show gv_X _ _ (316, [(10, .inl z184), (0, .inr (.inr (some 48))), (1, .inr (.inr (some a1))), (2, .inl a2), (3, .inl a3), (4, .inl a4), (5, .inl v5_84), (6, .inl v6_84), (7, .inl v7_99), (8, .inl v8_114), (9, .inl v9_114)], [], sh, gc_h sh I157 J128 A)
                  refine gv_run 1 true hD (pc' := 317) (lv' := [(10, .inl z184), (0, .inr (.inr (some 48))), (1, .inr (.inr (some a1))), (2, .inl a2), (3, .inl a3), (4, .inl a4), (5, .inl v5_84), (6, .inl v6_84), (7, .inl v7_99), (8, .inl v8_114), (9, .inl v9_114)]) (st' := [.inr (.inr (some 48))]) (h' := gc_h sh I157 J128 A) (C := (True ∧ True)) rfl ⟨trivial, trivial⟩ ?_
                  refine gv_get hD rfl rfl S_48 ⟨by decide, B_48⟩ (gc_hA S_48 rfl A_48_19) ?_
                  show gv_X _ _ (320, [(10, .inl z184), (0, .inr (.inr (some 48))), (1, .inr (.inr (some a1))), (2, .inl a2), (3, .inl a3), (4, .inl a4), (5, .inl v5_84), (6, .inl v6_84), (7, .inl v7_99), (8, .inl v8_114), (9, .inl v9_114)], [.inr (.inr (some 58))], sh, gc_h sh I157 J128 A)
                  refine gv_run 2 true hD (pc' := 324) (lv' := [(10, .inl z184), (0, .inr (.inr (some 48))), (1, .inr (.inr (some a1))), (2, .inl a2), (3, .inl a3), (4, .inl a4), (5, .inl v5_84), (6, .inl v6_84), (7, .inl v7_99), (8, .inl v8_114), (9, .inl v9_114)]) (st' := [.inl v9_114, .inl a4, .inr (.inr (some 58))]) (h' := gc_h sh I157 J128 A) (C := ((True ∧ True) ∧ True)) rfl ⟨⟨trivial, trivial⟩, trivial⟩ ?_
                  refine gv_iast hD rfl S_58 ⟨by decide, B_58⟩ ⟨by omega, by omega⟩ ?_
                  refine gc_st hI157 S_58 rfl R_58 (lo := 0) (hi := 2999) rfl rfl (by omega) (by omega) (fun I188 hI188 q189 p189 => ?_)
                  have FI188 := gc_frs (W := fun q j => (q = 48 ∧ j = 3) ∨ (q = 48 ∧ j = 6) ∨ (q = 48 ∧ j = 12) ∨ q = 51 ∨ q = 52 ∨ q = 53 ∨ q = 54 ∨ q = 55 ∨ (q = 48 ∧ j = 11) ∨ q = 58 ∨ q = 59 ∨ q = 60) FI157 (Or.inr (Or.inr (Or.inr (Or.inr (Or.inr (Or.inr (Or.inr (Or.inr (Or.inr (Or.inl rfl)))))))))) p189
                  have t190 := p189 48 3 (fun h => absurd h.1 (by decide))
                  have t191 := p189 48 6 (fun h => absurd h.1 (by decide))
                  have t192 := p189 48 11 (fun h => absurd h.1 (by decide))
                  have t193 := p189 48 12 (fun h => absurd h.1 (by decide))
                  have t194 := p189 48 17 (fun h => absurd h.1 (by decide))
                  have t195 := p189 48 18 (fun h => absurd h.1 (by decide))
                  have t196 := p189 t 13 (fun h => absurd h.1 N_t__58)
                  have t197 := p189 x 4 (fun h => absurd h.1 N_x__58)
                  have t198 := p189 a1 4 (fun h => absurd h.1 N_a1__58)
                  have t199 := p189 a1 0 (fun h => absurd h.1 N_a1__58)
                  have t200 := p189 48 13 (fun h => absurd h.1 (by decide))
                  have t201 := p189 48 14 (fun h => absurd h.1 (by decide))
                  have f202 := (show 0 ≤ I188 48 3 ∧ I188 48 3 ≤ 3000 from gc_in hI188 R_48 rfl rfl)
                  have f203 := (show 0 ≤ I188 48 6 ∧ I188 48 6 ≤ 9000 from gc_in hI188 R_48 rfl rfl)
                  have f204 := (show 0 ≤ I188 48 11 ∧ I188 48 11 ≤ 1000000 from gc_in hI188 R_48 rfl rfl)
                  have f205 := (show 0 ≤ I188 48 12 ∧ I188 48 12 ≤ 1 from gc_in hI188 R_48 rfl rfl)
                  have f206 := (show 0 ≤ I188 48 17 ∧ I188 48 17 ≤ 3000 from gc_in hI188 R_48 rfl rfl)
                  have f207 := (show 0 ≤ I188 48 18 ∧ I188 48 18 ≤ 24 from gc_in hI188 R_48 rfl rfl)
                  have f208 := (show 0 ≤ I188 t 13 ∧ I188 t 13 ≤ 384 from gc_in hI188 R_t rfl rfl)
                  have f209 := (show 0 ≤ I188 x 4 ∧ I188 x 4 ≤ 24 from gc_in hI188 R_x rfl rfl)
                  have f210 := (show 0 ≤ I188 a1 4 ∧ I188 a1 4 ≤ 6 from gc_in hI188 R_a1 rfl rfl)
                  have f211 := (show 0 ≤ I188 a1 0 ∧ I188 a1 0 ≤ 384 from gc_in hI188 R_a1 rfl rfl)
                  have f212 := (show (-1) ≤ I188 48 13 ∧ I188 48 13 ≤ 999999 from gc_in hI188 R_48 rfl rfl)
                  have f213 := (show (-1) ≤ I188 48 14 ∧ I188 48 14 ≤ 999999 from gc_in hI188 R_48 rfl rfl)
                  have KWV_I188 := gc_WV_fr KWV_I157 (p189 48 6 (fun h => absurd h.1 (by decide))) (p189 t 13 (fun h => absurd h.1 N_t__58)) (fun k => p189 54 k (fun h => absurd h.1 (by decide)))
                  have KFN_I188 := gc_FN_fr KFN_I157 (fun k => p189 49 k (fun h => absurd h.1 (by decide))) (fun k => p189 50 k (fun h => absurd h.1 (by decide)))
                  show gv_X _ _ (325, [(10, .inl z184), (0, .inr (.inr (some 48))), (1, .inr (.inr (some a1))), (2, .inl a2), (3, .inl a3), (4, .inl a4), (5, .inl v5_84), (6, .inl v6_84), (7, .inl v7_99), (8, .inl v8_114), (9, .inl v9_114)], [], sh, gc_h sh I188 J128 A)
                  refine gv_run 1 true hD (pc' := 326) (lv' := [(10, .inl z184), (0, .inr (.inr (some 48))), (1, .inr (.inr (some a1))), (2, .inl a2), (3, .inl a3), (4, .inl a4), (5, .inl v5_84), (6, .inl v6_84), (7, .inl v7_99), (8, .inl v8_114), (9, .inl v9_114)]) (st' := [.inr (.inr (some 48))]) (h' := gc_h sh I188 J128 A) (C := (True ∧ True)) rfl ⟨trivial, trivial⟩ ?_
                  refine gv_get hD rfl rfl S_48 ⟨by decide, B_48⟩ (gc_hA S_48 rfl A_48_20) ?_
                  show gv_X _ _ (329, [(10, .inl z184), (0, .inr (.inr (some 48))), (1, .inr (.inr (some a1))), (2, .inl a2), (3, .inl a3), (4, .inl a4), (5, .inl v5_84), (6, .inl v6_84), (7, .inl v7_99), (8, .inl v8_114), (9, .inl v9_114)], [.inr (.inr (some 59))], sh, gc_h sh I188 J128 A)
                  refine gv_run 2 true hD (pc' := 333) (lv' := [(10, .inl z184), (0, .inr (.inr (some 48))), (1, .inr (.inr (some a1))), (2, .inl a2), (3, .inl a3), (4, .inl a4), (5, .inl v5_84), (6, .inl v6_84), (7, .inl v7_99), (8, .inl v8_114), (9, .inl v9_114)]) (st' := [.inl z184, .inl a4, .inr (.inr (some 59))]) (h' := gc_h sh I188 J128 A) (C := ((True ∧ True) ∧ True)) rfl ⟨⟨trivial, trivial⟩, trivial⟩ ?_
                  refine gv_iast hD rfl S_59 ⟨by decide, B_59⟩ ⟨by omega, by omega⟩ ?_
                  refine gc_st hI188 S_59 rfl R_59 (lo := 0) (hi := 16777215) rfl rfl (by omega) (by omega) (fun I214 hI214 q215 p215 => ?_)
                  have FI214 := gc_frs (W := fun q j => (q = 48 ∧ j = 3) ∨ (q = 48 ∧ j = 6) ∨ (q = 48 ∧ j = 12) ∨ q = 51 ∨ q = 52 ∨ q = 53 ∨ q = 54 ∨ q = 55 ∨ (q = 48 ∧ j = 11) ∨ q = 58 ∨ q = 59 ∨ q = 60) FI188 (Or.inr (Or.inr (Or.inr (Or.inr (Or.inr (Or.inr (Or.inr (Or.inr (Or.inr (Or.inr (Or.inl rfl))))))))))) p215
                  have t216 := p215 48 3 (fun h => absurd h.1 (by decide))
                  have t217 := p215 48 6 (fun h => absurd h.1 (by decide))
                  have t218 := p215 48 11 (fun h => absurd h.1 (by decide))
                  have t219 := p215 48 12 (fun h => absurd h.1 (by decide))
                  have t220 := p215 48 17 (fun h => absurd h.1 (by decide))
                  have t221 := p215 48 18 (fun h => absurd h.1 (by decide))
                  have t222 := p215 t 13 (fun h => absurd h.1 N_t__59)
                  have t223 := p215 x 4 (fun h => absurd h.1 N_x__59)
                  have t224 := p215 a1 4 (fun h => absurd h.1 N_a1__59)
                  have t225 := p215 a1 0 (fun h => absurd h.1 N_a1__59)
                  have t226 := p215 48 13 (fun h => absurd h.1 (by decide))
                  have t227 := p215 48 14 (fun h => absurd h.1 (by decide))
                  have f228 := (show 0 ≤ I214 48 3 ∧ I214 48 3 ≤ 3000 from gc_in hI214 R_48 rfl rfl)
                  have f229 := (show 0 ≤ I214 48 6 ∧ I214 48 6 ≤ 9000 from gc_in hI214 R_48 rfl rfl)
                  have f230 := (show 0 ≤ I214 48 11 ∧ I214 48 11 ≤ 1000000 from gc_in hI214 R_48 rfl rfl)
                  have f231 := (show 0 ≤ I214 48 12 ∧ I214 48 12 ≤ 1 from gc_in hI214 R_48 rfl rfl)
                  have f232 := (show 0 ≤ I214 48 17 ∧ I214 48 17 ≤ 3000 from gc_in hI214 R_48 rfl rfl)
                  have f233 := (show 0 ≤ I214 48 18 ∧ I214 48 18 ≤ 24 from gc_in hI214 R_48 rfl rfl)
                  have f234 := (show 0 ≤ I214 t 13 ∧ I214 t 13 ≤ 384 from gc_in hI214 R_t rfl rfl)
                  have f235 := (show 0 ≤ I214 x 4 ∧ I214 x 4 ≤ 24 from gc_in hI214 R_x rfl rfl)
                  have f236 := (show 0 ≤ I214 a1 4 ∧ I214 a1 4 ≤ 6 from gc_in hI214 R_a1 rfl rfl)
                  have f237 := (show 0 ≤ I214 a1 0 ∧ I214 a1 0 ≤ 384 from gc_in hI214 R_a1 rfl rfl)
                  have f238 := (show (-1) ≤ I214 48 13 ∧ I214 48 13 ≤ 999999 from gc_in hI214 R_48 rfl rfl)
                  have f239 := (show (-1) ≤ I214 48 14 ∧ I214 48 14 ≤ 999999 from gc_in hI214 R_48 rfl rfl)
                  have KWV_I214 := gc_WV_fr KWV_I188 (p215 48 6 (fun h => absurd h.1 (by decide))) (p215 t 13 (fun h => absurd h.1 N_t__59)) (fun k => p215 54 k (fun h => absurd h.1 (by decide)))
                  have KFN_I214 := gc_FN_fr KFN_I188 (fun k => p215 49 k (fun h => absurd h.1 (by decide))) (fun k => p215 50 k (fun h => absurd h.1 (by decide)))
                  show gv_X _ _ (334, [(10, .inl z184), (0, .inr (.inr (some 48))), (1, .inr (.inr (some a1))), (2, .inl a2), (3, .inl a3), (4, .inl a4), (5, .inl v5_84), (6, .inl v6_84), (7, .inl v7_99), (8, .inl v8_114), (9, .inl v9_114)], [], sh, gc_h sh I214 J128 A)
                  refine gv_run 7 true hD (pc' := 343) (lv' := [(10, .inl z184), (0, .inr (.inr (some 48))), (1, .inr (.inr (some a1))), (2, .inl a2), (3, .inl a3), (4, .inl a4), (5, .inl v5_84), (6, .inl v6_84), (7, .inl v7_99), (8, .inl v8_114), (9, .inl v9_114)]) (st' := [.inl a4, .inl v7_99, .inl (a2 + 1), .inr (.inr (some a1)), .inr (.inr (some 48))]) (h' := gc_h sh I214 J128 A) (C := (((((((True ∧ True) ∧ True) ∧ True) ∧ True) ∧ True) ∧ True) ∧ True)) rfl ⟨⟨⟨⟨⟨⟨⟨trivial, trivial⟩, trivial⟩, trivial⟩, trivial⟩, trivial⟩, trivial⟩, trivial⟩ ?_
                  refine gv_run 2 true hD (pc' := 345) (lv' := [(10, .inl z184), (0, .inr (.inr (some 48))), (1, .inr (.inr (some a1))), (2, .inl a2), (3, .inl a3), (4, .inl a4), (5, .inl v5_84), (6, .inl v6_84), (7, .inl v7_99), (8, .inl v8_114), (9, .inl v9_114)]) (st' := [.inl (a4 + 1), .inl v7_99, .inl (a2 + 1), .inr (.inr (some a1)), .inr (.inr (some 48))]) (h' := gc_h sh I214 J128 A) (C := ((True ∧ True) ∧ True)) rfl ⟨⟨trivial, trivial⟩, trivial⟩ ?_
                  obtain ⟨r240, h240, E240, P240⟩ := ihR I214 J128 hI214 (a2 + 1) v7_99 (a4 + 1) ⟨by omega, by omega⟩ ⟨by omega, by omega⟩ ⟨by omega, by omega⟩ (by omega) (by rw [show I214 (a1 + 1) = I (a1 + 1) from funext (fun k => (FI214 (a1 + 1) k).resolve_left (by omega)), show Int.toNat (a2 + 1) = Int.toNat a2 + 1 from by omega, gc_ac_nx1 (by omega)]; omega) (gc_lv_fr x2 ((FI214 a1 8).resolve_left (by omega)) ((FI214 a1 4).resolve_left (by omega)) (fun k => (FI214 (a1 + 1) k).resolve_left (by omega))) (by omega) (by omega) (by omega) (gc_SP_fr x6 ((FI214 x 4).resolve_left (by omega)) (fun k => (FI214 (x + 2) k).resolve_left (by omega)) (fun k => (FI214 (x + 3) k).resolve_left (by omega))) (by omega) (by omega) (by omega) (by omega) (by omega) KWV_I214 KFN_I214 (by omega)
                  obtain ⟨I241, J242, rfl, hI241, g240, k240, KWV_I241, KFN_I241, ⟨rfl, q240⟩⟩ := P240
                  have FI241 := gc_frc (W := fun q j => (q = 48 ∧ j = 3) ∨ (q = 48 ∧ j = 6) ∨ (q = 48 ∧ j = 12) ∨ q = 51 ∨ q = 52 ∨ q = 53 ∨ q = 54 ∨ q = 55 ∨ (q = 48 ∧ j = 11) ∨ q = 58 ∨ q = 59 ∨ q = 60) (V := fun q j => (q = 48 ∧ j = 3) ∨ (q = 48 ∧ j = 6) ∨ (q = 48 ∧ j = 12) ∨ q = 51 ∨ q = 52 ∨ q = 53 ∨ q = 54 ∨ q = 55 ∨ (q = 48 ∧ j = 11) ∨ q = 58 ∨ q = 59 ∨ q = 60) FI214 (fun q j h => (h.elim (fun h => (Or.inl h)) (fun h => (h.elim (fun h => (Or.inr (Or.inl h))) (fun h => (h.elim (fun h => (Or.inr (Or.inr (Or.inl h)))) (fun h => (h.elim (fun h => (Or.inr (Or.inr (Or.inr (Or.inl h))))) (fun h => (h.elim (fun h => (Or.inr (Or.inr (Or.inr (Or.inr (Or.inl h)))))) (fun h => (h.elim (fun h => (Or.inr (Or.inr (Or.inr (Or.inr (Or.inr (Or.inl h))))))) (fun h => (h.elim (fun h => (Or.inr (Or.inr (Or.inr (Or.inr (Or.inr (Or.inr (Or.inl h)))))))) (fun h => (h.elim (fun h => (Or.inr (Or.inr (Or.inr (Or.inr (Or.inr (Or.inr (Or.inr (Or.inl h))))))))) (fun h => (h.elim (fun h => (Or.inr (Or.inr (Or.inr (Or.inr (Or.inr (Or.inr (Or.inr (Or.inr (Or.inl h)))))))))) (fun h => (h.elim (fun h => (Or.inr (Or.inr (Or.inr (Or.inr (Or.inr (Or.inr (Or.inr (Or.inr (Or.inr (Or.inl h))))))))))) (fun h => (h.elim (fun h => (Or.inr (Or.inr (Or.inr (Or.inr (Or.inr (Or.inr (Or.inr (Or.inr (Or.inr (Or.inr (Or.inl h)))))))))))) (fun h => (Or.inr (Or.inr (Or.inr (Or.inr (Or.inr (Or.inr (Or.inr (Or.inr (Or.inr (Or.inr (Or.inr h)))))))))))))))))))))))))))))))))) g240
                  have t243 := (g240 48 17).resolve_left (fun h => h.elim (fun h => absurd h.2 (by decide)) (fun h => h.elim (fun h => absurd h.2 (by decide)) (fun h => h.elim (fun h => absurd h.2 (by decide)) (fun h => h.elim (fun h => absurd h (by decide)) (fun h => h.elim (fun h => absurd h (by decide)) (fun h => h.elim (fun h => absurd h (by decide)) (fun h => h.elim (fun h => absurd h (by decide)) (fun h => h.elim (fun h => absurd h (by decide)) (fun h => h.elim (fun h => absurd h.2 (by decide)) (fun h => h.elim (fun h => absurd h (by decide)) (fun h => h.elim (fun h => absurd h (by decide)) (fun h => absurd h (by decide)))))))))))))
                  have t244 := (g240 48 18).resolve_left (fun h => h.elim (fun h => absurd h.2 (by decide)) (fun h => h.elim (fun h => absurd h.2 (by decide)) (fun h => h.elim (fun h => absurd h.2 (by decide)) (fun h => h.elim (fun h => absurd h (by decide)) (fun h => h.elim (fun h => absurd h (by decide)) (fun h => h.elim (fun h => absurd h (by decide)) (fun h => h.elim (fun h => absurd h (by decide)) (fun h => h.elim (fun h => absurd h (by decide)) (fun h => h.elim (fun h => absurd h.2 (by decide)) (fun h => h.elim (fun h => absurd h (by decide)) (fun h => h.elim (fun h => absurd h (by decide)) (fun h => absurd h (by decide)))))))))))))
                  have t245 := (g240 t 13).resolve_left (fun h => h.elim (fun h => absurd h.2 (by decide)) (fun h => h.elim (fun h => absurd h.2 (by decide)) (fun h => h.elim (fun h => absurd h.2 (by decide)) (fun h => h.elim (fun h => absurd h N_t__51) (fun h => h.elim (fun h => absurd h N_t__52) (fun h => h.elim (fun h => absurd h N_t__53) (fun h => h.elim (fun h => absurd h N_t__54) (fun h => h.elim (fun h => absurd h N_t__55) (fun h => h.elim (fun h => absurd h.2 (by decide)) (fun h => h.elim (fun h => absurd h N_t__58) (fun h => h.elim (fun h => absurd h N_t__59) (fun h => absurd h N_t__60))))))))))))
                  have t246 := (g240 x 4).resolve_left (fun h => h.elim (fun h => absurd h.2 (by decide)) (fun h => h.elim (fun h => absurd h.2 (by decide)) (fun h => h.elim (fun h => absurd h.2 (by decide)) (fun h => h.elim (fun h => absurd h N_x__51) (fun h => h.elim (fun h => absurd h N_x__52) (fun h => h.elim (fun h => absurd h N_x__53) (fun h => h.elim (fun h => absurd h N_x__54) (fun h => h.elim (fun h => absurd h N_x__55) (fun h => h.elim (fun h => absurd h.2 (by decide)) (fun h => h.elim (fun h => absurd h N_x__58) (fun h => h.elim (fun h => absurd h N_x__59) (fun h => absurd h N_x__60))))))))))))
                  have t247 := (g240 a1 4).resolve_left (fun h => h.elim (fun h => absurd h.2 (by decide)) (fun h => h.elim (fun h => absurd h.2 (by decide)) (fun h => h.elim (fun h => absurd h.2 (by decide)) (fun h => h.elim (fun h => absurd h N_a1__51) (fun h => h.elim (fun h => absurd h N_a1__52) (fun h => h.elim (fun h => absurd h N_a1__53) (fun h => h.elim (fun h => absurd h N_a1__54) (fun h => h.elim (fun h => absurd h N_a1__55) (fun h => h.elim (fun h => absurd h.2 (by decide)) (fun h => h.elim (fun h => absurd h N_a1__58) (fun h => h.elim (fun h => absurd h N_a1__59) (fun h => absurd h N_a1__60))))))))))))
                  have t248 := (g240 a1 0).resolve_left (fun h => h.elim (fun h => absurd h.2 (by decide)) (fun h => h.elim (fun h => absurd h.2 (by decide)) (fun h => h.elim (fun h => absurd h.2 (by decide)) (fun h => h.elim (fun h => absurd h N_a1__51) (fun h => h.elim (fun h => absurd h N_a1__52) (fun h => h.elim (fun h => absurd h N_a1__53) (fun h => h.elim (fun h => absurd h N_a1__54) (fun h => h.elim (fun h => absurd h N_a1__55) (fun h => h.elim (fun h => absurd h.2 (by decide)) (fun h => h.elim (fun h => absurd h N_a1__58) (fun h => h.elim (fun h => absurd h N_a1__59) (fun h => absurd h N_a1__60))))))))))))
                  have t249 := (g240 48 13).resolve_left (fun h => h.elim (fun h => absurd h.2 (by decide)) (fun h => h.elim (fun h => absurd h.2 (by decide)) (fun h => h.elim (fun h => absurd h.2 (by decide)) (fun h => h.elim (fun h => absurd h (by decide)) (fun h => h.elim (fun h => absurd h (by decide)) (fun h => h.elim (fun h => absurd h (by decide)) (fun h => h.elim (fun h => absurd h (by decide)) (fun h => h.elim (fun h => absurd h (by decide)) (fun h => h.elim (fun h => absurd h.2 (by decide)) (fun h => h.elim (fun h => absurd h (by decide)) (fun h => h.elim (fun h => absurd h (by decide)) (fun h => absurd h (by decide)))))))))))))
                  have t250 := (g240 48 14).resolve_left (fun h => h.elim (fun h => absurd h.2 (by decide)) (fun h => h.elim (fun h => absurd h.2 (by decide)) (fun h => h.elim (fun h => absurd h.2 (by decide)) (fun h => h.elim (fun h => absurd h (by decide)) (fun h => h.elim (fun h => absurd h (by decide)) (fun h => h.elim (fun h => absurd h (by decide)) (fun h => h.elim (fun h => absurd h (by decide)) (fun h => h.elim (fun h => absurd h (by decide)) (fun h => h.elim (fun h => absurd h.2 (by decide)) (fun h => h.elim (fun h => absurd h (by decide)) (fun h => h.elim (fun h => absurd h (by decide)) (fun h => absurd h (by decide)))))))))))))
                  have f251 := (show 0 ≤ I241 48 3 ∧ I241 48 3 ≤ 3000 from gc_in hI241 R_48 rfl rfl)
                  have f252 := (show 0 ≤ I241 48 6 ∧ I241 48 6 ≤ 9000 from gc_in hI241 R_48 rfl rfl)
                  have f253 := (show 0 ≤ I241 48 11 ∧ I241 48 11 ≤ 1000000 from gc_in hI241 R_48 rfl rfl)
                  have f254 := (show 0 ≤ I241 48 12 ∧ I241 48 12 ≤ 1 from gc_in hI241 R_48 rfl rfl)
                  have f255 := (show 0 ≤ I241 48 17 ∧ I241 48 17 ≤ 3000 from gc_in hI241 R_48 rfl rfl)
                  have f256 := (show 0 ≤ I241 48 18 ∧ I241 48 18 ≤ 24 from gc_in hI241 R_48 rfl rfl)
                  have f257 := (show 0 ≤ I241 t 13 ∧ I241 t 13 ≤ 384 from gc_in hI241 R_t rfl rfl)
                  have f258 := (show 0 ≤ I241 x 4 ∧ I241 x 4 ≤ 24 from gc_in hI241 R_x rfl rfl)
                  have f259 := (show 0 ≤ I241 a1 4 ∧ I241 a1 4 ≤ 6 from gc_in hI241 R_a1 rfl rfl)
                  have f260 := (show 0 ≤ I241 a1 0 ∧ I241 a1 0 ≤ 384 from gc_in hI241 R_a1 rfl rfl)
                  have f261 := (show (-1) ≤ I241 48 13 ∧ I241 48 13 ≤ 999999 from gc_in hI241 R_48 rfl rfl)
                  have f262 := (show (-1) ≤ I241 48 14 ∧ I241 48 14 ≤ 999999 from gc_in hI241 R_48 rfl rfl)
                  obtain rfl : J128 = J242 := funext fun q => funext fun j => ((k240 q j).resolve_left id).symm
                  refine gv_callV hD rfl (As := [.inr (.inr (some a1)), .inl (a2 + 1), .inl v7_99, .inl (a4 + 1)]) (st := []) rfl B_48 S_48 rfl (gc_lV0 hws rfl) (Nat.le_of_ble_eq_true rfl) (gz_Ev_mono (d := (2 + nr)) (Nat.le_refl _) E240) ?_
                  show gv_X _ _ (348, [(10, .inl z184), (0, .inr (.inr (some 48))), (1, .inr (.inr (some a1))), (2, .inl a2), (3, .inl a3), (4, .inl a4), (5, .inl v5_84), (6, .inl v6_84), (7, .inl v7_99), (8, .inl v8_114), (9, .inl v9_114)], [], sh, gc_h sh I241 J128 A)
                  refine gv_pick [1, 2, 3, 4, 5, 6, 7, 8, 9, 10] rfl ?_
                  exact L348 I241 J128 hI241 FI241 FJ128 KWV_I241 KFN_I241 (by omega)
            have L277 : ∀ (I263 : gr_I) (J264 : gr_J) , gc_Inv ro I263 → (∀ q j : Nat, ((q = 48 ∧ j = 3) ∨ (q = 48 ∧ j = 6) ∨ (q = 48 ∧ j = 12) ∨ q = 51 ∨ q = 52 ∨ q = 53 ∨ q = 54 ∨ q = 55 ∨ (q = 48 ∧ j = 11) ∨ q = 58 ∨ q = 59 ∨ q = 60) ∨ I263 q j = I q j) → (∀ q j : Nat, (False) ∨ J264 q j = J q j) → gc_WV t I263 → gc_FN I263 → ((0 ≤ a2 ∧ a2 ≤ 5) ∧ (0 ≤ a3 ∧ a3 ≤ 24) ∧ (0 ≤ a4 ∧ a4 ≤ 4) ∧ (0 ≤ v5_84 ∧ v5_84 ≤ 5) ∧ (0 ≤ v6_84 ∧ v6_84 ≤ 31) ∧ (1 ≤ v7_99 ∧ v7_99 ≤ 24) ∧ (0 ≤ v8_114 ∧ v8_114 ≤ 18431) ∧ (0 ≤ v9_114 ∧ v9_114 ≤ 2999) ∧ (v5_84 = I a1 4 - a2 - 1) ∧ (a2 < I a1 4) ∧ (a4 ≤ 3) ∧ (0 ≤ I (a1 + 1) (Int.toNat a2)) ∧ (I263 48 11 ≤ 400001) ∧ (I 48 3 ≤ I263 48 3) ∧ (a3 < v7_99) ∧ (v7_99 + v5_84 ≤ I263 48 18) ∧ (v9_114 ≤ 2999) ∧ (I263 a1 4 = I a1 4) ∧ (I263 a1 0 = I a1 0) ∧ (I263 t 13 = I t 13) ∧ (I263 48 18 = I 48 18) ∧ (I263 x 4 = I x 4) ∧ (I263 48 17 = I 48 17) ∧ (I263 48 13 = (t : Int)) ∧ (I263 48 14 = (x : Int))) → gv_X (gc_E0 ws0 tb (2 + nr) (yX0_lay, cX0_lay, 11, none) kX0_lay) (gv_Q cX0_lay none sh (fun r h' => (∃ (I' : gr_I) (J' : gr_J), h' = gc_h sh I' J' A ∧ gc_Inv ro I' ∧ (∀ q j : Nat, ((q = 48 ∧ j = 3) ∨ (q = 48 ∧ j = 6) ∨ (q = 48 ∧ j = 12) ∨ q = 51 ∨ q = 52 ∨ q = 53 ∨ q = 54 ∨ q = 55 ∨ (q = 48 ∧ j = 11) ∨ q = 58 ∨ q = 59 ∨ q = 60) ∨ I' q j = I q j) ∧ (∀ q j : Nat, (False) ∨ J' q j = J q j) ∧ gc_WV t I' ∧ gc_FN I' ∧ r = none ∧ (I' 48 12 = 1 ∨ I' 48 11 ≤ 400000) ∧ (I' 48 11 ≤ 400001) ∧ (I 48 3 ≤ I' 48 3)))) (277, [(0, .inr (.inr (some 48))), (1, .inr (.inr (some a1))), (2, .inl a2), (3, .inl a3), (4, .inl a4), (5, .inl v5_84), (6, .inl v6_84), (7, .inl v7_99), (8, .inl v8_114), (9, .inl v9_114)], [.inr (.inr (some 48))], sh, gc_h sh I263 J264 A) := by
              intro I263 J264 hI263 FI263 FJ264 KWV_I263 KFN_I263 m_265
              clear ha2_114 ha3_114 ha4_114 hv5_84_114 hv6_84_114 hv7_99_114 hv8_114 hv9_114 e0_114 e1_114 e2_114 e3_114 e4_114 e5_114 e6_114 e7_114 e8_114 e9_114 e10_114 e11_114 e12_114 e13_114 e14_114 e15_114 e16_114 f115 f116 f117 f118 f119 f120 f121 f122 f123 f124 f125 f126
              obtain ⟨ha2_265, ha3_265, ha4_265, hv5_84_265, hv6_84_265, hv7_99_265, hv8_114_265, hv9_114_265, e0_265, e1_265, e2_265, e3_265, e4_265, e5_265, e6_265, e7_265, e8_265, e9_265, e10_265, e11_265, e12_265, e13_265, e14_265, e15_265, e16_265⟩ := m_265
              have f266 := (show 0 ≤ I263 48 3 ∧ I263 48 3 ≤ 3000 from gc_in hI263 R_48 rfl rfl)
              have f267 := (show 0 ≤ I263 48 6 ∧ I263 48 6 ≤ 9000 from gc_in hI263 R_48 rfl rfl)
              have f268 := (show 0 ≤ I263 48 11 ∧ I263 48 11 ≤ 1000000 from gc_in hI263 R_48 rfl rfl)
              have f269 := (show 0 ≤ I263 48 12 ∧ I263 48 12 ≤ 1 from gc_in hI263 R_48 rfl rfl)
              have f270 := (show 0 ≤ I263 48 17 ∧ I263 48 17 ≤ 3000 from gc_in hI263 R_48 rfl rfl)
              have f271 := (show 0 ≤ I263 48 18 ∧ I263 48 18 ≤ 24 from gc_in hI263 R_48 rfl rfl)
              have f272 := (show 0 ≤ I263 t 13 ∧ I263 t 13 ≤ 384 from gc_in hI263 R_t rfl rfl)
              have f273 := (show 0 ≤ I263 x 4 ∧ I263 x 4 ≤ 24 from gc_in hI263 R_x rfl rfl)
              have f274 := (show 0 ≤ I263 a1 4 ∧ I263 a1 4 ≤ 6 from gc_in hI263 R_a1 rfl rfl)
              have f275 := (show 0 ≤ I263 a1 0 ∧ I263 a1 0 ≤ 384 from gc_in hI263 R_a1 rfl rfl)
              have f276 := (show (-1) ≤ I263 48 13 ∧ I263 48 13 ≤ 999999 from gc_in hI263 R_48 rfl rfl)
              have f277 := (show (-1) ≤ I263 48 14 ∧ I263 48 14 ≤ 999999 from gc_in hI263 R_48 rfl rfl)
              refine gv_run 2 true hD (pc' := 282) (lv' := [(0, .inr (.inr (some 48))), (1, .inr (.inr (some a1))), (2, .inl a2), (3, .inl a3), (4, .inl a4), (5, .inl v5_84), (6, .inl v6_84), (7, .inl v7_99), (8, .inl v8_114), (9, .inl v9_114)]) (st' := [.inl 1, .inr (.inr (some 48))]) (h' := gc_h sh I263 J264 A) (C := ((True ∧ True) ∧ True)) rfl ⟨⟨trivial, trivial⟩, trivial⟩ ?_
              exact L282 I263 J264 1 hI263 FI263 FJ264 KWV_I263 KFN_I263 (by omega)
            have L354 : ((0 ≤ a2 ∧ a2 ≤ 5) ∧ (0 ≤ a3 ∧ a3 ≤ 24) ∧ (0 ≤ a4 ∧ a4 ≤ 4) ∧ (0 ≤ v5_84 ∧ v5_84 ≤ 5) ∧ (0 ≤ v6_84 ∧ v6_84 ≤ 31) ∧ (1 ≤ v7_99 ∧ v7_99 ≤ 24) ∧ (v5_84 = I a1 4 - a2 - 1) ∧ (a2 < I a1 4) ∧ (a4 ≤ 3) ∧ (0 ≤ I (a1 + 1) (Int.toNat a2)) ∧ (I112 48 11 ≤ 400001) ∧ (I 48 3 ≤ I112 48 3) ∧ (I112 48 12 = 1 ∨ I112 48 11 ≤ 400000) ∧ (a3 < v7_99) ∧ (v7_99 + v5_84 ≤ I112 48 18) ∧ (I112 a1 4 = I a1 4) ∧ (I112 a1 0 = I a1 0) ∧ (I112 t 13 = I t 13) ∧ (I112 48 18 = I 48 18) ∧ (I112 x 4 = I x 4) ∧ (I112 48 17 = I 48 17) ∧ (I112 48 13 = (t : Int)) ∧ (I112 48 14 = (x : Int))) → gv_X (gc_E0 ws0 tb (2 + nr) (yX0_lay, cX0_lay, 11, none) kX0_lay) (gv_Q cX0_lay none sh (fun r h' => (∃ (I' : gr_I) (J' : gr_J), h' = gc_h sh I' J' A ∧ gc_Inv ro I' ∧ (∀ q j : Nat, ((q = 48 ∧ j = 3) ∨ (q = 48 ∧ j = 6) ∨ (q = 48 ∧ j = 12) ∨ q = 51 ∨ q = 52 ∨ q = 53 ∨ q = 54 ∨ q = 55 ∨ (q = 48 ∧ j = 11) ∨ q = 58 ∨ q = 59 ∨ q = 60) ∨ I' q j = I q j) ∧ (∀ q j : Nat, (False) ∨ J' q j = J q j) ∧ gc_WV t I' ∧ gc_FN I' ∧ r = none ∧ (I' 48 12 = 1 ∨ I' 48 11 ≤ 400000) ∧ (I' 48 11 ≤ 400001) ∧ (I 48 3 ≤ I' 48 3)))) (354, [(0, .inr (.inr (some 48))), (1, .inr (.inr (some a1))), (2, .inl a2), (3, .inl a3), (4, .inl a4), (5, .inl v5_84), (6, .inl v6_84), (7, .inl v7_99)], [], sh, gc_h sh I112 J113 A) := by
              intro m_278
              obtain ⟨ha2_278, ha3_278, ha4_278, hv5_84_278, hv6_84_278, hv7_99_278, e0_278, e1_278, e2_278, e3_278, e4_278, e5_278, e6_278, e7_278, e8_278, e9_278, e10_278, e11_278, e12_278, e13_278, e14_278, e15_278, e16_278⟩ := m_278
              have f279 := (show 0 ≤ I112 48 3 ∧ I112 48 3 ≤ 3000 from gc_in hI112 R_48 rfl rfl)
              have f280 := (show 0 ≤ I112 48 6 ∧ I112 48 6 ≤ 9000 from gc_in hI112 R_48 rfl rfl)
              have f281 := (show 0 ≤ I112 48 11 ∧ I112 48 11 ≤ 1000000 from gc_in hI112 R_48 rfl rfl)
              have f282 := (show 0 ≤ I112 48 12 ∧ I112 48 12 ≤ 1 from gc_in hI112 R_48 rfl rfl)
              have f283 := (show 0 ≤ I112 48 17 ∧ I112 48 17 ≤ 3000 from gc_in hI112 R_48 rfl rfl)
              have f284 := (show 0 ≤ I112 48 18 ∧ I112 48 18 ≤ 24 from gc_in hI112 R_48 rfl rfl)
              have f285 := (show 0 ≤ I112 t 13 ∧ I112 t 13 ≤ 384 from gc_in hI112 R_t rfl rfl)
              have f286 := (show 0 ≤ I112 x 4 ∧ I112 x 4 ≤ 24 from gc_in hI112 R_x rfl rfl)
              have f287 := (show 0 ≤ I112 a1 4 ∧ I112 a1 4 ≤ 6 from gc_in hI112 R_a1 rfl rfl)
              have f288 := (show 0 ≤ I112 a1 0 ∧ I112 a1 0 ≤ 384 from gc_in hI112 R_a1 rfl rfl)
              have f289 := (show (-1) ≤ I112 48 13 ∧ I112 48 13 ≤ 999999 from gc_in hI112 R_48 rfl rfl)
              have f290 := (show (-1) ≤ I112 48 14 ∧ I112 48 14 ≤ 999999 from gc_in hI112 R_48 rfl rfl)
              refine gv_run 2 true hD (pc' := 183) (lv' := [(7, .inl (v7_99 + 1)), (0, .inr (.inr (some 48))), (1, .inr (.inr (some a1))), (2, .inl a2), (3, .inl a3), (4, .inl a4), (5, .inl v5_84), (6, .inl v6_84)]) (st' := []) (h' := gc_h sh I112 J113 A) (C := ((True ∧ True) ∧ True)) rfl ⟨⟨trivial, trivial⟩, trivial⟩ ?_
              refine gv_pick [1, 2, 3, 4, 5, 6, 7, 0] rfl ?_
              exact ih183 I112 J113 (v7_99 + 1) (by omega) hI112 FI112 FJ113 KWV_I112 KFN_I112 (by omega)
            have t291 := KFN_I112 (Int.toNat v8_114) (by omega)
            refine gv_run 2 true hD (pc' := 226) (lv' := [(0, .inr (.inr (some 48))), (1, .inr (.inr (some a1))), (2, .inl a2), (3, .inl a3), (4, .inl a4), (5, .inl v5_84), (6, .inl v6_84), (7, .inl v7_99), (8, .inl v8_114), (9, .inl v9_114)]) (st' := [.inr (.inr (some 48)), .inl v9_114]) (h' := gc_h sh I112 J113 A) (C := ((True ∧ True) ∧ True)) rfl ⟨⟨trivial, trivial⟩, trivial⟩ ?_
            refine gv_get hD rfl rfl S_48 ⟨by decide, B_48⟩ (gc_hA S_48 rfl A_48_1) ?_
            show gv_X _ _ (229, [(0, .inr (.inr (some 48))), (1, .inr (.inr (some a1))), (2, .inl a2), (3, .inl a3), (4, .inl a4), (5, .inl v5_84), (6, .inl v6_84), (7, .inl v7_99), (8, .inl v8_114), (9, .inl v9_114)], [.inr (.inr (some 49)), .inl v9_114], sh, gc_h sh I112 J113 A)
            refine gv_run 1 true hD (pc' := 231) (lv' := [(0, .inr (.inr (some 48))), (1, .inr (.inr (some a1))), (2, .inl a2), (3, .inl a3), (4, .inl a4), (5, .inl v5_84), (6, .inl v6_84), (7, .inl v7_99), (8, .inl v8_114), (9, .inl v9_114)]) (st' := [.inl v8_114, .inr (.inr (some 49)), .inl v9_114]) (h' := gc_h sh I112 J113 A) (C := (True ∧ True)) rfl ⟨trivial, trivial⟩ ?_
            have f292 := (show 0 ≤ I112 49 (Int.toNat v8_114) ∧ I112 49 (Int.toNat v8_114) ≤ 3000 from gc_in hI112 R_49 rfl rfl)
            refine gv_iald hD rfl S_49 rfl ⟨by decide, B_49⟩ ⟨by omega, by omega⟩ (gc_iI S_49 rfl) ?_
            show gv_X _ _ (232, [(0, .inr (.inr (some 48))), (1, .inr (.inr (some a1))), (2, .inl a2), (3, .inl a3), (4, .inl a4), (5, .inl v5_84), (6, .inl v6_84), (7, .inl v7_99), (8, .inl v8_114), (9, .inl v9_114)], [.inl (I112 49 (Int.toNat v8_114)), .inl v9_114], sh, gc_h sh I112 J113 A)
            refine gv_run 1 true hD (pc' := 233) (lv' := [(0, .inr (.inr (some 48))), (1, .inr (.inr (some a1))), (2, .inl a2), (3, .inl a3), (4, .inl a4), (5, .inl v5_84), (6, .inl v6_84), (7, .inl v7_99), (8, .inl v8_114), (9, .inl v9_114)]) (st' := [.inr (.inr (some 48)), .inl (I112 49 (Int.toNat v8_114)), .inl v9_114]) (h' := gc_h sh I112 J113 A) (C := (True ∧ True)) rfl ⟨trivial, trivial⟩ ?_
            refine gv_get hD rfl rfl S_48 ⟨by decide, B_48⟩ (gc_hA S_48 rfl A_48_2) ?_
            show gv_X _ _ (236, [(0, .inr (.inr (some 48))), (1, .inr (.inr (some a1))), (2, .inl a2), (3, .inl a3), (4, .inl a4), (5, .inl v5_84), (6, .inl v6_84), (7, .inl v7_99), (8, .inl v8_114), (9, .inl v9_114)], [.inr (.inr (some 50)), .inl (I112 49 (Int.toNat v8_114)), .inl v9_114], sh, gc_h sh I112 J113 A)
            refine gv_run 1 true hD (pc' := 238) (lv' := [(0, .inr (.inr (some 48))), (1, .inr (.inr (some a1))), (2, .inl a2), (3, .inl a3), (4, .inl a4), (5, .inl v5_84), (6, .inl v6_84), (7, .inl v7_99), (8, .inl v8_114), (9, .inl v9_114)]) (st' := [.inl v8_114, .inr (.inr (some 50)), .inl (I112 49 (Int.toNat v8_114)), .inl v9_114]) (h' := gc_h sh I112 J113 A) (C := (True ∧ True)) rfl ⟨trivial, trivial⟩ ?_
            have f293 := (show 0 ≤ I112 50 (Int.toNat v8_114) ∧ I112 50 (Int.toNat v8_114) ≤ 3000 from gc_in hI112 R_50 rfl rfl)
            refine gv_iald hD rfl S_50 rfl ⟨by decide, B_50⟩ ⟨by omega, by omega⟩ (gc_iI S_50 rfl) ?_
            show gv_X _ _ (239, [(0, .inr (.inr (some 48))), (1, .inr (.inr (some a1))), (2, .inl a2), (3, .inl a3), (4, .inl a4), (5, .inl v5_84), (6, .inl v6_84), (7, .inl v7_99), (8, .inl v8_114), (9, .inl v9_114)], [.inl (I112 50 (Int.toNat v8_114)), .inl (I112 49 (Int.toNat v8_114)), .inl v9_114], sh, gc_h sh I112 J113 A)
            refine gv_run 1 true hD (pc' := 240) (lv' := [(0, .inr (.inr (some 48))), (1, .inr (.inr (some a1))), (2, .inl a2), (3, .inl a3), (4, .inl a4), (5, .inl v5_84), (6, .inl v6_84), (7, .inl v7_99), (8, .inl v8_114), (9, .inl v9_114)]) (st' := [.inl ((I112 49 (Int.toNat v8_114)) + (I112 50 (Int.toNat v8_114))), .inl v9_114]) (h' := gc_h sh I112 J113 A) (C := (True ∧ True)) rfl ⟨trivial, trivial⟩ ?_
            refine gv_icmp_ge (t := 354) hD rfl rfl ⟨⟨by omega, by omega⟩, ⟨by omega, by omega⟩⟩ (fun c294 => ?_) (fun c294 => ?_)
            · show gv_X _ _ (354, [(0, .inr (.inr (some 48))), (1, .inr (.inr (some a1))), (2, .inl a2), (3, .inl a3), (4, .inl a4), (5, .inl v5_84), (6, .inl v6_84), (7, .inl v7_99), (8, .inl v8_114), (9, .inl v9_114)], [], sh, gc_h sh I112 J113 A)
              refine gv_pick [0, 1, 2, 3, 4, 5, 6, 7] rfl ?_
              exact L354 (by omega)
            · show gv_X _ _ (243, [(0, .inr (.inr (some 48))), (1, .inr (.inr (some a1))), (2, .inl a2), (3, .inl a3), (4, .inl a4), (5, .inl v5_84), (6, .inl v6_84), (7, .inl v7_99), (8, .inl v8_114), (9, .inl v9_114)], [], sh, gc_h sh I112 J113 A)
              refine gv_run 1 true hD (pc' := 244) (lv' := [(0, .inr (.inr (some 48))), (1, .inr (.inr (some a1))), (2, .inl a2), (3, .inl a3), (4, .inl a4), (5, .inl v5_84), (6, .inl v6_84), (7, .inl v7_99), (8, .inl v8_114), (9, .inl v9_114)]) (st' := [.inr (.inr (some 48))]) (h' := gc_h sh I112 J113 A) (C := (True ∧ True)) rfl ⟨trivial, trivial⟩ ?_
              have f295 := (show 0 ≤ I112 48 12 ∧ I112 48 12 ≤ 1 from gc_in hI112 R_48 rfl rfl)
              refine gv_get hD rfl rfl S_48 ⟨by decide, B_48⟩ (gc_hI S_48 rfl) ?_
              show gv_X _ _ (247, [(0, .inr (.inr (some 48))), (1, .inr (.inr (some a1))), (2, .inl a2), (3, .inl a3), (4, .inl a4), (5, .inl v5_84), (6, .inl v6_84), (7, .inl v7_99), (8, .inl v8_114), (9, .inl v9_114)], [.inl (I112 48 12)], sh, gc_h sh I112 J113 A)
              refine gv_if_ne (t := 354) hD rfl rfl ⟨by omega, by omega⟩ (fun c296 => ?_) (fun c296 => ?_)
              · show gv_X _ _ (354, [(0, .inr (.inr (some 48))), (1, .inr (.inr (some a1))), (2, .inl a2), (3, .inl a3), (4, .inl a4), (5, .inl v5_84), (6, .inl v6_84), (7, .inl v7_99), (8, .inl v8_114), (9, .inl v9_114)], [], sh, gc_h sh I112 J113 A)
                refine gv_pick [0, 1, 2, 3, 4, 5, 6, 7] rfl ?_
                exact L354 (by omega)
              · show gv_X _ _ (250, [(0, .inr (.inr (some 48))), (1, .inr (.inr (some a1))), (2, .inl a2), (3, .inl a3), (4, .inl a4), (5, .inl v5_84), (6, .inl v6_84), (7, .inl v7_99), (8, .inl v8_114), (9, .inl v9_114)], [], sh, gc_h sh I112 J113 A)
                refine gv_run 2 true hD (pc' := 252) (lv' := [(0, .inr (.inr (some 48))), (1, .inr (.inr (some a1))), (2, .inl a2), (3, .inl a3), (4, .inl a4), (5, .inl v5_84), (6, .inl v6_84), (7, .inl v7_99), (8, .inl v8_114), (9, .inl v9_114)]) (st' := [.inr (.inr (some 48)), .inr (.inr (some 48))]) (h' := gc_h sh I112 J113 A) (C := ((True ∧ True) ∧ True)) rfl ⟨⟨trivial, trivial⟩, trivial⟩ ?_
                have f297 := (show 0 ≤ I112 48 11 ∧ I112 48 11 ≤ 1000000 from gc_in hI112 R_48 rfl rfl)
                refine gv_get hD rfl rfl S_48 ⟨by decide, B_48⟩ (gc_hI S_48 rfl) ?_
                show gv_X _ _ (255, [(0, .inr (.inr (some 48))), (1, .inr (.inr (some a1))), (2, .inl a2), (3, .inl a3), (4, .inl a4), (5, .inl v5_84), (6, .inl v6_84), (7, .inl v7_99), (8, .inl v8_114), (9, .inl v9_114)], [.inl (I112 48 11), .inr (.inr (some 48))], sh, gc_h sh I112 J113 A)
                refine gv_run 2 true hD (pc' := 257) (lv' := [(0, .inr (.inr (some 48))), (1, .inr (.inr (some a1))), (2, .inl a2), (3, .inl a3), (4, .inl a4), (5, .inl v5_84), (6, .inl v6_84), (7, .inl v7_99), (8, .inl v8_114), (9, .inl v9_114)]) (st' := [.inl ((I112 48 11) + 1), .inr (.inr (some 48))]) (h' := gc_h sh I112 J113 A) (C := ((True ∧ True) ∧ True)) rfl ⟨⟨trivial, trivial⟩, trivial⟩ ?_
                refine gv_put hD rfl rfl S_48 ⟨by decide, B_48⟩ rfl trivial ?_
                refine gc_st (k := 11) hI112 S_48 rfl R_48 (lo := 0) (hi := 1000000) rfl rfl (by omega) (by omega) (fun I298 hI298 q299 p299 => ?_)
                have FI298 := gc_frs (W := fun q j => (q = 48 ∧ j = 3) ∨ (q = 48 ∧ j = 6) ∨ (q = 48 ∧ j = 12) ∨ q = 51 ∨ q = 52 ∨ q = 53 ∨ q = 54 ∨ q = 55 ∨ (q = 48 ∧ j = 11) ∨ q = 58 ∨ q = 59 ∨ q = 60) FI112 (Or.inr (Or.inr (Or.inr (Or.inr (Or.inr (Or.inr (Or.inr (Or.inr (Or.inl ⟨rfl, rfl⟩))))))))) p299
                have t300 := p299 48 3 (fun h => absurd h.2 (by decide))
                have t301 := p299 48 6 (fun h => absurd h.2 (by decide))
                have t302 := p299 48 12 (fun h => absurd h.2 (by decide))
                have t303 := p299 48 17 (fun h => absurd h.2 (by decide))
                have t304 := p299 48 18 (fun h => absurd h.2 (by decide))
                have t305 := p299 t 13 (fun h => absurd h.2 (by decide))
                have t306 := p299 x 4 (fun h => absurd h.2 (by decide))
                have t307 := p299 a1 4 (fun h => absurd h.2 (by decide))
                have t308 := p299 a1 0 (fun h => absurd h.2 (by decide))
                have t309 := p299 48 13 (fun h => absurd h.2 (by decide))
                have t310 := p299 48 14 (fun h => absurd h.2 (by decide))
                have f311 := (show 0 ≤ I298 48 3 ∧ I298 48 3 ≤ 3000 from gc_in hI298 R_48 rfl rfl)
                have f312 := (show 0 ≤ I298 48 6 ∧ I298 48 6 ≤ 9000 from gc_in hI298 R_48 rfl rfl)
                have f313 := (show 0 ≤ I298 48 11 ∧ I298 48 11 ≤ 1000000 from gc_in hI298 R_48 rfl rfl)
                have f314 := (show 0 ≤ I298 48 12 ∧ I298 48 12 ≤ 1 from gc_in hI298 R_48 rfl rfl)
                have f315 := (show 0 ≤ I298 48 17 ∧ I298 48 17 ≤ 3000 from gc_in hI298 R_48 rfl rfl)
                have f316 := (show 0 ≤ I298 48 18 ∧ I298 48 18 ≤ 24 from gc_in hI298 R_48 rfl rfl)
                have f317 := (show 0 ≤ I298 t 13 ∧ I298 t 13 ≤ 384 from gc_in hI298 R_t rfl rfl)
                have f318 := (show 0 ≤ I298 x 4 ∧ I298 x 4 ≤ 24 from gc_in hI298 R_x rfl rfl)
                have f319 := (show 0 ≤ I298 a1 4 ∧ I298 a1 4 ≤ 6 from gc_in hI298 R_a1 rfl rfl)
                have f320 := (show 0 ≤ I298 a1 0 ∧ I298 a1 0 ≤ 384 from gc_in hI298 R_a1 rfl rfl)
                have f321 := (show (-1) ≤ I298 48 13 ∧ I298 48 13 ≤ 999999 from gc_in hI298 R_48 rfl rfl)
                have f322 := (show (-1) ≤ I298 48 14 ∧ I298 48 14 ≤ 999999 from gc_in hI298 R_48 rfl rfl)
                have KWV_I298 := gc_WV_fr KWV_I112 (p299 48 6 (fun h => absurd h.2 (by decide))) (p299 t 13 (fun h => absurd h.2 (by decide))) (fun k => p299 54 k (fun h => absurd h.1 (by decide)))
                have KFN_I298 := gc_FN_fr KFN_I112 (fun k => p299 49 k (fun h => absurd h.1 (by decide))) (fun k => p299 50 k (fun h => absurd h.1 (by decide)))
                show gv_X _ _ (260, [(0, .inr (.inr (some 48))), (1, .inr (.inr (some a1))), (2, .inl a2), (3, .inl a3), (4, .inl a4), (5, .inl v5_84), (6, .inl v6_84), (7, .inl v7_99), (8, .inl v8_114), (9, .inl v9_114)], [], sh, gc_h sh I298 J113 A)
                refine gv_run 2 true hD (pc' := 262) (lv' := [(0, .inr (.inr (some 48))), (1, .inr (.inr (some a1))), (2, .inl a2), (3, .inl a3), (4, .inl a4), (5, .inl v5_84), (6, .inl v6_84), (7, .inl v7_99), (8, .inl v8_114), (9, .inl v9_114)]) (st' := [.inr (.inr (some 48)), .inr (.inr (some 48))]) (h' := gc_h sh I298 J113 A) (C := ((True ∧ True) ∧ True)) rfl ⟨⟨trivial, trivial⟩, trivial⟩ ?_
                have f323 := (show 0 ≤ I298 48 12 ∧ I298 48 12 ≤ 1 from gc_in hI298 R_48 rfl rfl)
                refine gv_get hD rfl rfl S_48 ⟨by decide, B_48⟩ (gc_hI S_48 rfl) ?_
                show gv_X _ _ (265, [(0, .inr (.inr (some 48))), (1, .inr (.inr (some a1))), (2, .inl a2), (3, .inl a3), (4, .inl a4), (5, .inl v5_84), (6, .inl v6_84), (7, .inl v7_99), (8, .inl v8_114), (9, .inl v9_114)], [.inl (I298 48 12), .inr (.inr (some 48))], sh, gc_h sh I298 J113 A)
                refine gv_if_ne (t := 277) hD rfl rfl ⟨by omega, by omega⟩ (fun c324 => ?_) (fun c324 => ?_)
                · show gv_X _ _ (277, [(0, .inr (.inr (some 48))), (1, .inr (.inr (some a1))), (2, .inl a2), (3, .inl a3), (4, .inl a4), (5, .inl v5_84), (6, .inl v6_84), (7, .inl v7_99), (8, .inl v8_114), (9, .inl v9_114)], [.inr (.inr (some 48))], sh, gc_h sh I298 J113 A)
                  exact L277 I298 J113 hI298 FI298 FJ113 KWV_I298 KFN_I298 (by omega)
                · show gv_X _ _ (268, [(0, .inr (.inr (some 48))), (1, .inr (.inr (some a1))), (2, .inl a2), (3, .inl a3), (4, .inl a4), (5, .inl v5_84), (6, .inl v6_84), (7, .inl v7_99), (8, .inl v8_114), (9, .inl v9_114)], [.inr (.inr (some 48))], sh, gc_h sh I298 J113 A)
                  refine gv_run 1 true hD (pc' := 269) (lv' := [(0, .inr (.inr (some 48))), (1, .inr (.inr (some a1))), (2, .inl a2), (3, .inl a3), (4, .inl a4), (5, .inl v5_84), (6, .inl v6_84), (7, .inl v7_99), (8, .inl v8_114), (9, .inl v9_114)]) (st' := [.inr (.inr (some 48)), .inr (.inr (some 48))]) (h' := gc_h sh I298 J113 A) (C := (True ∧ True)) rfl ⟨trivial, trivial⟩ ?_
                  have f325 := (show 0 ≤ I298 48 11 ∧ I298 48 11 ≤ 1000000 from gc_in hI298 R_48 rfl rfl)
                  refine gv_get hD rfl rfl S_48 ⟨by decide, B_48⟩ (gc_hI S_48 rfl) ?_
                  show gv_X _ _ (272, [(0, .inr (.inr (some 48))), (1, .inr (.inr (some a1))), (2, .inl a2), (3, .inl a3), (4, .inl a4), (5, .inl v5_84), (6, .inl v6_84), (7, .inl v7_99), (8, .inl v8_114), (9, .inl v9_114)], [.inl (I298 48 11), .inr (.inr (some 48))], sh, gc_h sh I298 J113 A)
                  refine gv_run 1 true hD (pc' := 274) (lv' := [(0, .inr (.inr (some 48))), (1, .inr (.inr (some a1))), (2, .inl a2), (3, .inl a3), (4, .inl a4), (5, .inl v5_84), (6, .inl v6_84), (7, .inl v7_99), (8, .inl v8_114), (9, .inl v9_114)]) (st' := [.inl 400000, .inl (I298 48 11), .inr (.inr (some 48))]) (h' := gc_h sh I298 J113 A) (C := (True ∧ True)) rfl ⟨trivial, trivial⟩ ?_
                  refine gv_icmp_le (t := 281) hD rfl rfl ⟨⟨by omega, by omega⟩, ⟨by omega, by omega⟩⟩ (fun c326 => ?_) (fun c326 => ?_)
                  · show gv_X _ _ (281, [(0, .inr (.inr (some 48))), (1, .inr (.inr (some a1))), (2, .inl a2), (3, .inl a3), (4, .inl a4), (5, .inl v5_84), (6, .inl v6_84), (7, .inl v7_99), (8, .inl v8_114), (9, .inl v9_114)], [.inr (.inr (some 48))], sh, gc_h sh I298 J113 A)
                    refine gv_run 1 true hD (pc' := 282) (lv' := [(0, .inr (.inr (some 48))), (1, .inr (.inr (some a1))), (2, .inl a2), (3, .inl a3), (4, .inl a4), (5, .inl v5_84), (6, .inl v6_84), (7, .inl v7_99), (8, .inl v8_114), (9, .inl v9_114)]) (st' := [.inl 0, .inr (.inr (some 48))]) (h' := gc_h sh I298 J113 A) (C := (True ∧ True)) rfl ⟨trivial, trivial⟩ ?_
                    exact L282 I298 J113 0 hI298 FI298 FJ113 KWV_I298 KFN_I298 (by omega)
                  · show gv_X _ _ (277, [(0, .inr (.inr (some 48))), (1, .inr (.inr (some a1))), (2, .inl a2), (3, .inl a3), (4, .inl a4), (5, .inl v5_84), (6, .inl v6_84), (7, .inl v7_99), (8, .inl v8_114), (9, .inl v9_114)], [.inr (.inr (some 48))], sh, gc_h sh I298 J113 A)
                    exact L277 I298 J113 hI298 FI298 FJ113 KWV_I298 KFN_I298 (by omega)
        have L360 : ((I97 48 11 ≤ 400001) ∧ (I 48 3 ≤ I97 48 3) ∧ (I97 48 12 = 1 ∨ I97 48 11 ≤ 400000) ∧ (I97 a1 4 = I a1 4) ∧ (I97 a1 0 = I a1 0) ∧ (I97 t 13 = I t 13) ∧ (I97 48 18 = I 48 18) ∧ (I97 x 4 = I x 4) ∧ (I97 48 17 = I 48 17) ∧ (I97 48 13 = (t : Int)) ∧ (I97 48 14 = (x : Int))) → gv_X (gc_E0 ws0 tb (2 + nr) (yX0_lay, cX0_lay, 11, none) kX0_lay) (gv_Q cX0_lay none sh (fun r h' => (∃ (I' : gr_I) (J' : gr_J), h' = gc_h sh I' J' A ∧ gc_Inv ro I' ∧ (∀ q j : Nat, ((q = 48 ∧ j = 3) ∨ (q = 48 ∧ j = 6) ∨ (q = 48 ∧ j = 12) ∨ q = 51 ∨ q = 52 ∨ q = 53 ∨ q = 54 ∨ q = 55 ∨ (q = 48 ∧ j = 11) ∨ q = 58 ∨ q = 59 ∨ q = 60) ∨ I' q j = I q j) ∧ (∀ q j : Nat, (False) ∨ J' q j = J q j) ∧ gc_WV t I' ∧ gc_FN I' ∧ r = none ∧ (I' 48 12 = 1 ∨ I' 48 11 ≤ 400000) ∧ (I' 48 11 ≤ 400001) ∧ (I 48 3 ≤ I' 48 3)))) (360, [], [], sh, gc_h sh I97 J98 A) := by
          intro m_327
          obtain ⟨e0_327, e1_327, e2_327, e3_327, e4_327, e5_327, e6_327, e7_327, e8_327, e9_327, e10_327⟩ := m_327
          have f328 := (show 0 ≤ I97 48 3 ∧ I97 48 3 ≤ 3000 from gc_in hI97 R_48 rfl rfl)
          have f329 := (show 0 ≤ I97 48 6 ∧ I97 48 6 ≤ 9000 from gc_in hI97 R_48 rfl rfl)
          have f330 := (show 0 ≤ I97 48 11 ∧ I97 48 11 ≤ 1000000 from gc_in hI97 R_48 rfl rfl)
          have f331 := (show 0 ≤ I97 48 12 ∧ I97 48 12 ≤ 1 from gc_in hI97 R_48 rfl rfl)
          have f332 := (show 0 ≤ I97 48 17 ∧ I97 48 17 ≤ 3000 from gc_in hI97 R_48 rfl rfl)
          have f333 := (show 0 ≤ I97 48 18 ∧ I97 48 18 ≤ 24 from gc_in hI97 R_48 rfl rfl)
          have f334 := (show 0 ≤ I97 t 13 ∧ I97 t 13 ≤ 384 from gc_in hI97 R_t rfl rfl)
          have f335 := (show 0 ≤ I97 x 4 ∧ I97 x 4 ≤ 24 from gc_in hI97 R_x rfl rfl)
          have f336 := (show 0 ≤ I97 a1 4 ∧ I97 a1 4 ≤ 6 from gc_in hI97 R_a1 rfl rfl)
          have f337 := (show 0 ≤ I97 a1 0 ∧ I97 a1 0 ≤ 384 from gc_in hI97 R_a1 rfl rfl)
          have f338 := (show (-1) ≤ I97 48 13 ∧ I97 48 13 ≤ 999999 from gc_in hI97 R_48 rfl rfl)
          have f339 := (show (-1) ≤ I97 48 14 ∧ I97 48 14 ≤ 999999 from gc_in hI97 R_48 rfl rfl)
          exact gv_vret hD rfl ⟨I97, J98, rfl, hI97, FI97, FJ98, KWV_I97, KFN_I97, ⟨rfl, by omega⟩⟩
        refine gv_run 2 true hD (pc' := 186) (lv' := [(0, .inr (.inr (some 48))), (1, .inr (.inr (some a1))), (2, .inl a2), (3, .inl a3), (4, .inl a4), (5, .inl v5_84), (6, .inl v6_84), (7, .inl v7_99)]) (st' := [.inr (.inr (some 48)), .inl v7_99]) (h' := gc_h sh I97 J98 A) (C := ((True ∧ True) ∧ True)) rfl ⟨⟨trivial, trivial⟩, trivial⟩ ?_
        have f340 := (show 0 ≤ I97 48 18 ∧ I97 48 18 ≤ 24 from gc_in hI97 R_48 rfl rfl)
        refine gv_get hD rfl rfl S_48 ⟨by decide, B_48⟩ (gc_hI S_48 rfl) ?_
        show gv_X _ _ (189, [(0, .inr (.inr (some 48))), (1, .inr (.inr (some a1))), (2, .inl a2), (3, .inl a3), (4, .inl a4), (5, .inl v5_84), (6, .inl v6_84), (7, .inl v7_99)], [.inl (I97 48 18), .inl v7_99], sh, gc_h sh I97 J98 A)
        refine gv_run 2 true hD (pc' := 192) (lv' := [(0, .inr (.inr (some 48))), (1, .inr (.inr (some a1))), (2, .inl a2), (3, .inl a3), (4, .inl a4), (5, .inl v5_84), (6, .inl v6_84), (7, .inl v7_99)]) (st' := [.inl ((I97 48 18) - v5_84), .inl v7_99]) (h' := gc_h sh I97 J98 A) (C := ((True ∧ True) ∧ True)) rfl ⟨⟨trivial, trivial⟩, trivial⟩ ?_
        refine gv_icmp_gt (t := 360) hD rfl rfl ⟨⟨by omega, by omega⟩, ⟨by omega, by omega⟩⟩ (fun c341 => ?_) (fun c341 => ?_)
        · show gv_X _ _ (360, [(0, .inr (.inr (some 48))), (1, .inr (.inr (some a1))), (2, .inl a2), (3, .inl a3), (4, .inl a4), (5, .inl v5_84), (6, .inl v6_84), (7, .inl v7_99)], [], sh, gc_h sh I97 J98 A)
          refine gv_pick [] rfl ?_
          exact L360 (by omega)
        · show gv_X _ _ (195, [(0, .inr (.inr (some 48))), (1, .inr (.inr (some a1))), (2, .inl a2), (3, .inl a3), (4, .inl a4), (5, .inl v5_84), (6, .inl v6_84), (7, .inl v7_99)], [], sh, gc_h sh I97 J98 A)
          refine gv_run 1 true hD (pc' := 196) (lv' := [(0, .inr (.inr (some 48))), (1, .inr (.inr (some a1))), (2, .inl a2), (3, .inl a3), (4, .inl a4), (5, .inl v5_84), (6, .inl v6_84), (7, .inl v7_99)]) (st' := [.inr (.inr (some 48))]) (h' := gc_h sh I97 J98 A) (C := (True ∧ True)) rfl ⟨trivial, trivial⟩ ?_
          have f342 := (show 0 ≤ I97 48 12 ∧ I97 48 12 ≤ 1 from gc_in hI97 R_48 rfl rfl)
          refine gv_get hD rfl rfl S_48 ⟨by decide, B_48⟩ (gc_hI S_48 rfl) ?_
          show gv_X _ _ (199, [(0, .inr (.inr (some 48))), (1, .inr (.inr (some a1))), (2, .inl a2), (3, .inl a3), (4, .inl a4), (5, .inl v5_84), (6, .inl v6_84), (7, .inl v7_99)], [.inl (I97 48 12)], sh, gc_h sh I97 J98 A)
          refine gv_if_ne (t := 360) hD rfl rfl ⟨by omega, by omega⟩ (fun c343 => ?_) (fun c343 => ?_)
          · show gv_X _ _ (360, [(0, .inr (.inr (some 48))), (1, .inr (.inr (some a1))), (2, .inl a2), (3, .inl a3), (4, .inl a4), (5, .inl v5_84), (6, .inl v6_84), (7, .inl v7_99)], [], sh, gc_h sh I97 J98 A)
            refine gv_pick [] rfl ?_
            exact L360 (by omega)
          · show gv_X _ _ (202, [(0, .inr (.inr (some 48))), (1, .inr (.inr (some a1))), (2, .inl a2), (3, .inl a3), (4, .inl a4), (5, .inl v5_84), (6, .inl v6_84), (7, .inl v7_99)], [], sh, gc_h sh I97 J98 A)
            refine gv_run 5 true hD (pc' := 209) (lv' := [(0, .inr (.inr (some 48))), (1, .inr (.inr (some a1))), (2, .inl a2), (3, .inl a3), (4, .inl a4), (5, .inl v5_84), (6, .inl v6_84), (7, .inl v7_99)]) (st' := [.inl v6_84, .inl (v7_99 - a3), .inl a3]) (h' := gc_h sh I97 J98 A) (C := (((((True ∧ True) ∧ True) ∧ True) ∧ True) ∧ True)) rfl ⟨⟨⟨⟨⟨trivial, trivial⟩, trivial⟩, trivial⟩, trivial⟩, trivial⟩ ?_
            obtain ⟨r344, h344, E344, P344⟩ := d_X0_spanAt (ws0 := ws0) (tb := tb) hws htb sh ro I97 J98 A hI97  a3 (v7_99 - a3) v6_84 hb   ⟨by omega, by omega⟩ ⟨by omega, by omega⟩ ⟨by omega, by omega⟩  
            obtain ⟨rfl, ⟨z344, rfl, q344⟩⟩ := P344
            refine gv_callS hD rfl (As := [.inl a3, .inl (v7_99 - a3), .inl v6_84]) (st := []) rfl (gc_lS0 hws rfl) (Nat.le_of_ble_eq_true rfl) (gz_Ev_mono (d := 1) (by omega) E344) ?_
            show gv_X _ _ (212, [(0, .inr (.inr (some 48))), (1, .inr (.inr (some a1))), (2, .inl a2), (3, .inl a3), (4, .inl a4), (5, .inl v5_84), (6, .inl v6_84), (7, .inl v7_99)], [.inl z344], sh, gc_h sh I97 J98 A)
            refine gv_run 2 true hD (pc' := 215) (lv' := [(8, .inl z344), (0, .inr (.inr (some 48))), (1, .inr (.inr (some a1))), (2, .inl a2), (3, .inl a3), (4, .inl a4), (5, .inl v5_84), (6, .inl v6_84), (7, .inl v7_99)]) (st' := [.inr (.inr (some 48))]) (h' := gc_h sh I97 J98 A) (C := ((True ∧ True) ∧ True)) rfl ⟨⟨trivial, trivial⟩, trivial⟩ ?_
            refine gv_get hD rfl rfl S_48 ⟨by decide, B_48⟩ (gc_hA S_48 rfl A_48_1) ?_
            show gv_X _ _ (218, [(8, .inl z344), (0, .inr (.inr (some 48))), (1, .inr (.inr (some a1))), (2, .inl a2), (3, .inl a3), (4, .inl a4), (5, .inl v5_84), (6, .inl v6_84), (7, .inl v7_99)], [.inr (.inr (some 49))], sh, gc_h sh I97 J98 A)
            refine gv_run 1 true hD (pc' := 220) (lv' := [(8, .inl z344), (0, .inr (.inr (some 48))), (1, .inr (.inr (some a1))), (2, .inl a2), (3, .inl a3), (4, .inl a4), (5, .inl v5_84), (6, .inl v6_84), (7, .inl v7_99)]) (st' := [.inl z344, .inr (.inr (some 49))]) (h' := gc_h sh I97 J98 A) (C := (True ∧ True)) rfl ⟨trivial, trivial⟩ ?_
            have f345 := (show 0 ≤ I97 49 (Int.toNat z344) ∧ I97 49 (Int.toNat z344) ≤ 3000 from gc_in hI97 R_49 rfl rfl)
            refine gv_iald hD rfl S_49 rfl ⟨by decide, B_49⟩ ⟨by omega, by omega⟩ (gc_iI S_49 rfl) ?_
            show gv_X _ _ (221, [(8, .inl z344), (0, .inr (.inr (some 48))), (1, .inr (.inr (some a1))), (2, .inl a2), (3, .inl a3), (4, .inl a4), (5, .inl v5_84), (6, .inl v6_84), (7, .inl v7_99)], [.inl (I97 49 (Int.toNat z344))], sh, gc_h sh I97 J98 A)
            refine gv_run 1 true hD (pc' := 223) (lv' := [(9, .inl (I97 49 (Int.toNat z344))), (8, .inl z344), (0, .inr (.inr (some 48))), (1, .inr (.inr (some a1))), (2, .inl a2), (3, .inl a3), (4, .inl a4), (5, .inl v5_84), (6, .inl v6_84), (7, .inl v7_99)]) (st' := []) (h' := gc_h sh I97 J98 A) (C := (True ∧ True)) rfl ⟨trivial, trivial⟩ ?_
            refine gv_pick [2, 3, 4, 5, 6, 7, 8, 9, 1, 0] rfl ?_
            exact L223 _ I97 J98 z344 ((I97 49 (Int.toNat z344))) (Nat.lt_succ_self _) hI97 FI97 FJ98 KWV_I97 KFN_I97 (by omega)
    refine gv_run 1 true hD (pc' := 183) (lv' := [(7, .inl s0_84), (0, .inr (.inr (some 48))), (1, .inr (.inr (some a1))), (2, .inl a2), (3, .inl a3), (4, .inl a4), (5, .inl v5_84), (6, .inl v6_84)]) (st' := []) (h' := gc_h sh I J A) (C := (True ∧ True)) rfl ⟨trivial, trivial⟩ ?_
    refine gv_pick [1, 2, 3, 4, 5, 6, 7, 0] rfl ?_
    exact L183 _ I J s0_84 (Nat.lt_succ_self _) hI FI FJ KWV_I KFN_I (by omega)
  refine gv_run 2 true hD (pc' := 2) (lv' := [(0, .inr (.inr (some 48))), (1, .inr (.inr (some a1))), (2, .inl a2), (3, .inl a3), (4, .inl a4)]) (st' := [.inr (.inr (some a1)), .inl a2]) (h' := gc_h sh I J A) (C := ((True ∧ True) ∧ True)) rfl ⟨⟨trivial, trivial⟩, trivial⟩ ?_
  have f346 := (show 0 ≤ I a1 4 ∧ I a1 4 ≤ 6 from gc_in hI R_a1 rfl rfl)
  refine gv_get hD rfl rfl S_a1 ⟨by decide, B_a1⟩ (gc_hI S_a1 rfl) ?_
  show gv_X _ _ (5, [(0, .inr (.inr (some 48))), (1, .inr (.inr (some a1))), (2, .inl a2), (3, .inl a3), (4, .inl a4)], [.inl (I a1 4), .inl a2], sh, gc_h sh I J A)
  refine gv_icmp_lt (t := 42) hD rfl rfl ⟨⟨by omega, by omega⟩, ⟨by omega, by omega⟩⟩ (fun c347 => ?_) (fun c347 => ?_)
  · show gv_X _ _ (42, [(0, .inr (.inr (some 48))), (1, .inr (.inr (some a1))), (2, .inl a2), (3, .inl a3), (4, .inl a4)], [], sh, gc_h sh I J A)
    refine gv_run 1 true hD (pc' := 43) (lv' := [(0, .inr (.inr (some 48))), (1, .inr (.inr (some a1))), (2, .inl a2), (3, .inl a3), (4, .inl a4)]) (st' := [.inr (.inr (some a1))]) (h' := gc_h sh I J A) (C := (True ∧ True)) rfl ⟨trivial, trivial⟩ ?_
    have f348 := (show 0 ≤ I a1 4 ∧ I a1 4 ≤ 6 from gc_in hI R_a1 rfl rfl)
    refine gv_get hD rfl rfl S_a1 ⟨by decide, B_a1⟩ (gc_hI S_a1 rfl) ?_
    show gv_X _ _ (46, [(0, .inr (.inr (some 48))), (1, .inr (.inr (some a1))), (2, .inl a2), (3, .inl a3), (4, .inl a4)], [.inl (I a1 4)], sh, gc_h sh I J A)
    refine gv_run 6 true hD (pc' := 53) (lv' := [(5, .inl (((I a1 4) - a2) - 1)), (0, .inr (.inr (some 48))), (1, .inr (.inr (some a1))), (2, .inl a2), (3, .inl a3), (4, .inl a4)]) (st' := [.inr (.inr (some a1))]) (h' := gc_h sh I J A) (C := ((((((True ∧ True) ∧ True) ∧ True) ∧ True) ∧ True) ∧ True)) rfl ⟨⟨⟨⟨⟨⟨trivial, trivial⟩, trivial⟩, trivial⟩, trivial⟩, trivial⟩, trivial⟩ ?_
    refine gv_get hD rfl rfl S_a1 ⟨by decide, B_a1⟩ (gc_hA S_a1 rfl A_a1_5) ?_
    show gv_X _ _ (56, [(5, .inl (((I a1 4) - a2) - 1)), (0, .inr (.inr (some 48))), (1, .inr (.inr (some a1))), (2, .inl a2), (3, .inl a3), (4, .inl a4)], [.inr (.inr (some (a1 + 1)))], sh, gc_h sh I J A)
    refine gv_run 1 true hD (pc' := 57) (lv' := [(5, .inl (((I a1 4) - a2) - 1)), (0, .inr (.inr (some 48))), (1, .inr (.inr (some a1))), (2, .inl a2), (3, .inl a3), (4, .inl a4)]) (st' := [.inl a2, .inr (.inr (some (a1 + 1)))]) (h' := gc_h sh I J A) (C := (True ∧ True)) rfl ⟨trivial, trivial⟩ ?_
    have f349 := (show (-1) ≤ I (a1 + 1) (Int.toNat a2) ∧ I (a1 + 1) (Int.toNat a2) ≤ 3 from gc_in hI R_a1_1 rfl rfl)
    refine gv_iald hD rfl S_a1_1 rfl ⟨by decide, B_a1_1⟩ ⟨by omega, by omega⟩ (gc_iI S_a1_1 rfl) ?_
    show gv_X _ _ (58, [(5, .inl (((I a1 4) - a2) - 1)), (0, .inr (.inr (some 48))), (1, .inr (.inr (some a1))), (2, .inl a2), (3, .inl a3), (4, .inl a4)], [.inl (I (a1 + 1) (Int.toNat a2))], sh, gc_h sh I J A)
    refine gv_if_ge (t := 143) hD rfl rfl ⟨by omega, by omega⟩ (fun c350 => ?_) (fun c350 => ?_)
    · show gv_X _ _ (143, [(5, .inl (((I a1 4) - a2) - 1)), (0, .inr (.inr (some 48))), (1, .inr (.inr (some a1))), (2, .inl a2), (3, .inl a3), (4, .inl a4)], [], sh, gc_h sh I J A)
      have t351 := gc_ac_lt (f := I (a1 + 1)) (n := Int.toNat a2) (m := Int.toNat (I a1 4)) (by omega) (by omega)
      have t352 := (show I a1 8 = gc_ac (I (a1 + 1)) (Int.toNat (I a1 4)) from x2)
      have t353 := (show 0 ≤ I a1 8 ∧ I a1 8 ≤ 4 from gc_in hI R_a1 rfl rfl)
      refine gv_run 1 true hD (pc' := 144) (lv' := [(5, .inl (((I a1 4) - a2) - 1)), (0, .inr (.inr (some 48))), (1, .inr (.inr (some a1))), (2, .inl a2), (3, .inl a3), (4, .inl a4)]) (st' := [.inr (.inr (some 48))]) (h' := gc_h sh I J A) (C := (True ∧ True)) rfl ⟨trivial, trivial⟩ ?_
      refine gv_get hD rfl rfl S_48 ⟨by decide, B_48⟩ (gc_hA S_48 rfl A_48_0) ?_
      show gv_X _ _ (147, [(5, .inl (((I a1 4) - a2) - 1)), (0, .inr (.inr (some 48))), (1, .inr (.inr (some a1))), (2, .inl a2), (3, .inl a3), (4, .inl a4)], [.inr (.inr (some 1))], sh, gc_h sh I J A)
      refine gv_get hD rfl rfl S_1 ⟨by decide, B_1⟩ (gc_hA S_1 rfl A_1_8) ?_
      show gv_X _ _ (150, [(5, .inl (((I a1 4) - a2) - 1)), (0, .inr (.inr (some 48))), (1, .inr (.inr (some a1))), (2, .inl a2), (3, .inl a3), (4, .inl a4)], [.inr (.inr (some 13))], sh, gc_h sh I J A)
      refine gv_run 1 true hD (pc' := 151) (lv' := [(5, .inl (((I a1 4) - a2) - 1)), (0, .inr (.inr (some 48))), (1, .inr (.inr (some a1))), (2, .inl a2), (3, .inl a3), (4, .inl a4)]) (st' := [.inr (.inr (some a1)), .inr (.inr (some 13))]) (h' := gc_h sh I J A) (C := (True ∧ True)) rfl ⟨trivial, trivial⟩ ?_
      have f354 := (show 0 ≤ I a1 1 ∧ I a1 1 ≤ 95 from gc_in hI R_a1 rfl rfl)
      refine gv_get hD rfl rfl S_a1 ⟨by decide, B_a1⟩ (gc_hI S_a1 rfl) ?_
      show gv_X _ _ (154, [(5, .inl (((I a1 4) - a2) - 1)), (0, .inr (.inr (some 48))), (1, .inr (.inr (some a1))), (2, .inl a2), (3, .inl a3), (4, .inl a4)], [.inl (I a1 1), .inr (.inr (some 13))], sh, gc_h sh I J A)
      refine gv_run 3 true hD (pc' := 157) (lv' := [(5, .inl (((I a1 4) - a2) - 1)), (0, .inr (.inr (some 48))), (1, .inr (.inr (some a1))), (2, .inl a2), (3, .inl a3), (4, .inl a4)]) (st' := [.inr (.inr (some a1)), .inl ((I a1 1) * 4), .inr (.inr (some 13))]) (h' := gc_h sh I J A) (C := (((True ∧ True) ∧ True) ∧ True)) rfl ⟨⟨⟨trivial, trivial⟩, trivial⟩, trivial⟩ ?_
      refine gv_get hD rfl rfl S_a1 ⟨by decide, B_a1⟩ (gc_hA S_a1 rfl A_a1_5) ?_
      show gv_X _ _ (160, [(5, .inl (((I a1 4) - a2) - 1)), (0, .inr (.inr (some 48))), (1, .inr (.inr (some a1))), (2, .inl a2), (3, .inl a3), (4, .inl a4)], [.inr (.inr (some (a1 + 1))), .inl ((I a1 1) * 4), .inr (.inr (some 13))], sh, gc_h sh I J A)
      refine gv_run 1 true hD (pc' := 161) (lv' := [(5, .inl (((I a1 4) - a2) - 1)), (0, .inr (.inr (some 48))), (1, .inr (.inr (some a1))), (2, .inl a2), (3, .inl a3), (4, .inl a4)]) (st' := [.inl a2, .inr (.inr (some (a1 + 1))), .inl ((I a1 1) * 4), .inr (.inr (some 13))]) (h' := gc_h sh I J A) (C := (True ∧ True)) rfl ⟨trivial, trivial⟩ ?_
      have f355 := (show (-1) ≤ I (a1 + 1) (Int.toNat a2) ∧ I (a1 + 1) (Int.toNat a2) ≤ 3 from gc_in hI R_a1_1 rfl rfl)
      refine gv_iald hD rfl S_a1_1 rfl ⟨by decide, B_a1_1⟩ ⟨by omega, by omega⟩ (gc_iI S_a1_1 rfl) ?_
      show gv_X _ _ (162, [(5, .inl (((I a1 4) - a2) - 1)), (0, .inr (.inr (some 48))), (1, .inr (.inr (some a1))), (2, .inl a2), (3, .inl a3), (4, .inl a4)], [.inl (I (a1 + 1) (Int.toNat a2)), .inl ((I a1 1) * 4), .inr (.inr (some 13))], sh, gc_h sh I J A)
      refine gv_run 1 true hD (pc' := 163) (lv' := [(5, .inl (((I a1 4) - a2) - 1)), (0, .inr (.inr (some 48))), (1, .inr (.inr (some a1))), (2, .inl a2), (3, .inl a3), (4, .inl a4)]) (st' := [.inl (((I a1 1) * 4) + (I (a1 + 1) (Int.toNat a2))), .inr (.inr (some 13))]) (h' := gc_h sh I J A) (C := (True ∧ True)) rfl ⟨trivial, trivial⟩ ?_
      have f356 := (show 0 ≤ I 13 (Int.toNat ((((I a1 1) * 4) + (I (a1 + 1) (Int.toNat a2))))) ∧ I 13 (Int.toNat ((((I a1 1) * 4) + (I (a1 + 1) (Int.toNat a2))))) ≤ 31 from gc_in hI R_13 rfl rfl)
      refine gv_iald hD rfl S_13 rfl ⟨by decide, B_13⟩ ⟨by omega, by omega⟩ (gc_iI S_13 rfl) ?_
      show gv_X _ _ (164, [(5, .inl (((I a1 4) - a2) - 1)), (0, .inr (.inr (some 48))), (1, .inr (.inr (some a1))), (2, .inl a2), (3, .inl a3), (4, .inl a4)], [.inl (I 13 (Int.toNat ((((I a1 1) * 4) + (I (a1 + 1) (Int.toNat a2))))))], sh, gc_h sh I J A)
      refine gv_run 2 true hD (pc' := 168) (lv' := [(6, .inl (I 13 (Int.toNat ((((I a1 1) * 4) + (I (a1 + 1) (Int.toNat a2))))))), (5, .inl (((I a1 4) - a2) - 1)), (0, .inr (.inr (some 48))), (1, .inr (.inr (some a1))), (2, .inl a2), (3, .inl a3), (4, .inl a4)]) (st' := [.inl (((I a1 4) - a2) - 1)]) (h' := gc_h sh I J A) (C := ((True ∧ True) ∧ True)) rfl ⟨⟨trivial, trivial⟩, trivial⟩ ?_
      refine gv_if_ne (t := 178) hD rfl rfl ⟨by omega, by omega⟩ (fun c357 => ?_) (fun c357 => ?_)
      · show gv_X _ _ (178, [(6, .inl (I 13 (Int.toNat ((((I a1 1) * 4) + (I (a1 + 1) (Int.toNat a2))))))), (5, .inl (((I a1 4) - a2) - 1)), (0, .inr (.inr (some 48))), (1, .inr (.inr (some a1))), (2, .inl a2), (3, .inl a3), (4, .inl a4)], [], sh, gc_h sh I J A)
        refine gv_run 3 true hD (pc' := 181) (lv' := [(6, .inl (I 13 (Int.toNat ((((I a1 1) * 4) + (I (a1 + 1) (Int.toNat a2))))))), (5, .inl (((I a1 4) - a2) - 1)), (0, .inr (.inr (some 48))), (1, .inr (.inr (some a1))), (2, .inl a2), (3, .inl a3), (4, .inl a4)]) (st' := [.inl (a3 + 1)]) (h' := gc_h sh I J A) (C := (((True ∧ True) ∧ True) ∧ True)) rfl ⟨⟨⟨trivial, trivial⟩, trivial⟩, trivial⟩ ?_
        refine gv_pick [2, 3, 4, 5, 6, 1, 0] rfl ?_
        exact L181 ((((I a1 4) - a2) - 1)) ((I 13 (Int.toNat ((((I a1 1) * 4) + (I (a1 + 1) (Int.toNat a2))))))) (a3 + 1) (by omega)
      · show gv_X _ _ (171, [(6, .inl (I 13 (Int.toNat ((((I a1 1) * 4) + (I (a1 + 1) (Int.toNat a2))))))), (5, .inl (((I a1 4) - a2) - 1)), (0, .inr (.inr (some 48))), (1, .inr (.inr (some a1))), (2, .inl a2), (3, .inl a3), (4, .inl a4)], [], sh, gc_h sh I J A)
        refine gv_run 1 true hD (pc' := 172) (lv' := [(6, .inl (I 13 (Int.toNat ((((I a1 1) * 4) + (I (a1 + 1) (Int.toNat a2))))))), (5, .inl (((I a1 4) - a2) - 1)), (0, .inr (.inr (some 48))), (1, .inr (.inr (some a1))), (2, .inl a2), (3, .inl a3), (4, .inl a4)]) (st' := [.inr (.inr (some 48))]) (h' := gc_h sh I J A) (C := (True ∧ True)) rfl ⟨trivial, trivial⟩ ?_
        have f358 := (show 0 ≤ I 48 18 ∧ I 48 18 ≤ 24 from gc_in hI R_48 rfl rfl)
        refine gv_get hD rfl rfl S_48 ⟨by decide, B_48⟩ (gc_hI S_48 rfl) ?_
        show gv_X _ _ (175, [(6, .inl (I 13 (Int.toNat ((((I a1 1) * 4) + (I (a1 + 1) (Int.toNat a2))))))), (5, .inl (((I a1 4) - a2) - 1)), (0, .inr (.inr (some 48))), (1, .inr (.inr (some a1))), (2, .inl a2), (3, .inl a3), (4, .inl a4)], [.inl (I 48 18)], sh, gc_h sh I J A)
        refine gv_run 1 true hD (pc' := 181) (lv' := [(6, .inl (I 13 (Int.toNat ((((I a1 1) * 4) + (I (a1 + 1) (Int.toNat a2))))))), (5, .inl (((I a1 4) - a2) - 1)), (0, .inr (.inr (some 48))), (1, .inr (.inr (some a1))), (2, .inl a2), (3, .inl a3), (4, .inl a4)]) (st' := [.inl (I 48 18)]) (h' := gc_h sh I J A) (C := (True ∧ True)) rfl ⟨trivial, trivial⟩ ?_
        refine gv_pick [2, 3, 4, 5, 6, 1, 0] rfl ?_
        exact L181 ((((I a1 4) - a2) - 1)) ((I 13 (Int.toNat ((((I a1 1) * 4) + (I (a1 + 1) (Int.toNat a2))))))) (I 48 18) (by omega)
    · show gv_X _ _ (61, [(5, .inl (((I a1 4) - a2) - 1)), (0, .inr (.inr (some 48))), (1, .inr (.inr (some a1))), (2, .inl a2), (3, .inl a3), (4, .inl a4)], [], sh, gc_h sh I J A)
      refine gv_run 1 true hD (pc' := 63) (lv' := [(5, .inl (((I a1 4) - a2) - 1)), (0, .inr (.inr (some 48))), (1, .inr (.inr (some a1))), (2, .inl a2), (3, .inl a3), (4, .inl a4)]) (st' := [.inl (((I a1 4) - a2) - 1)]) (h' := gc_h sh I J A) (C := (True ∧ True)) rfl ⟨trivial, trivial⟩ ?_
      refine gv_if_ne (t := 84) hD rfl rfl ⟨by omega, by omega⟩ (fun c359 => ?_) (fun c359 => ?_)
      · show gv_X _ _ (84, [(5, .inl (((I a1 4) - a2) - 1)), (0, .inr (.inr (some 48))), (1, .inr (.inr (some a1))), (2, .inl a2), (3, .inl a3), (4, .inl a4)], [], sh, gc_h sh I J A)
        refine gv_run 6 true hD (pc' := 91) (lv' := [(5, .inl (((I a1 4) - a2) - 1)), (0, .inr (.inr (some 48))), (1, .inr (.inr (some a1))), (2, .inl a2), (3, .inl a3), (4, .inl a4)]) (st' := [.inr (.inr (some 48)), .inl ((a3 + 1) + (((I a1 4) - a2) - 1))]) (h' := gc_h sh I J A) (C := ((((((True ∧ True) ∧ True) ∧ True) ∧ True) ∧ True) ∧ True)) rfl ⟨⟨⟨⟨⟨⟨trivial, trivial⟩, trivial⟩, trivial⟩, trivial⟩, trivial⟩, trivial⟩ ?_
        have f360 := (show 0 ≤ I 48 18 ∧ I 48 18 ≤ 24 from gc_in hI R_48 rfl rfl)
        refine gv_get hD rfl rfl S_48 ⟨by decide, B_48⟩ (gc_hI S_48 rfl) ?_
        show gv_X _ _ (94, [(5, .inl (((I a1 4) - a2) - 1)), (0, .inr (.inr (some 48))), (1, .inr (.inr (some a1))), (2, .inl a2), (3, .inl a3), (4, .inl a4)], [.inl (I 48 18), .inl ((a3 + 1) + (((I a1 4) - a2) - 1))], sh, gc_h sh I J A)
        refine gv_icmp_gt (t := 101) hD rfl rfl ⟨⟨by omega, by omega⟩, ⟨by omega, by omega⟩⟩ (fun c361 => ?_) (fun c361 => ?_)
        · show gv_X _ _ (101, [(5, .inl (((I a1 4) - a2) - 1)), (0, .inr (.inr (some 48))), (1, .inr (.inr (some a1))), (2, .inl a2), (3, .inl a3), (4, .inl a4)], [], sh, gc_h sh I J A)
          refine gv_run 1 true hD (pc' := 102) (lv' := [(5, .inl (((I a1 4) - a2) - 1)), (0, .inr (.inr (some 48))), (1, .inr (.inr (some a1))), (2, .inl a2), (3, .inl a3), (4, .inl a4)]) (st' := [.inl 0]) (h' := gc_h sh I J A) (C := (True ∧ True)) rfl ⟨trivial, trivial⟩ ?_
          refine gv_pick [1, 2, 3, 4, 5] rfl ?_
          exact L102 0 (by omega)
        · show gv_X _ _ (97, [(5, .inl (((I a1 4) - a2) - 1)), (0, .inr (.inr (some 48))), (1, .inr (.inr (some a1))), (2, .inl a2), (3, .inl a3), (4, .inl a4)], [], sh, gc_h sh I J A)
          refine gv_run 2 true hD (pc' := 102) (lv' := [(5, .inl (((I a1 4) - a2) - 1)), (0, .inr (.inr (some 48))), (1, .inr (.inr (some a1))), (2, .inl a2), (3, .inl a3), (4, .inl a4)]) (st' := [.inl 1]) (h' := gc_h sh I J A) (C := ((True ∧ True) ∧ True)) rfl ⟨⟨trivial, trivial⟩, trivial⟩ ?_
          refine gv_pick [1, 2, 3, 4, 5] rfl ?_
          exact L102 1 (by omega)
      · show gv_X _ _ (66, [(5, .inl (((I a1 4) - a2) - 1)), (0, .inr (.inr (some 48))), (1, .inr (.inr (some a1))), (2, .inl a2), (3, .inl a3), (4, .inl a4)], [], sh, gc_h sh I J A)
        refine gv_run 4 true hD (pc' := 70) (lv' := [(5, .inl (((I a1 4) - a2) - 1)), (0, .inr (.inr (some 48))), (1, .inr (.inr (some a1))), (2, .inl a2), (3, .inl a3), (4, .inl a4)]) (st' := [.inr (.inr (some 48)), .inl (a3 + 1)]) (h' := gc_h sh I J A) (C := ((((True ∧ True) ∧ True) ∧ True) ∧ True)) rfl ⟨⟨⟨⟨trivial, trivial⟩, trivial⟩, trivial⟩, trivial⟩ ?_
        have f362 := (show 0 ≤ I 48 18 ∧ I 48 18 ≤ 24 from gc_in hI R_48 rfl rfl)
        refine gv_get hD rfl rfl S_48 ⟨by decide, B_48⟩ (gc_hI S_48 rfl) ?_
        show gv_X _ _ (73, [(5, .inl (((I a1 4) - a2) - 1)), (0, .inr (.inr (some 48))), (1, .inr (.inr (some a1))), (2, .inl a2), (3, .inl a3), (4, .inl a4)], [.inl (I 48 18), .inl (a3 + 1)], sh, gc_h sh I J A)
        refine gv_icmp_ne (t := 80) hD rfl rfl ⟨⟨by omega, by omega⟩, ⟨by omega, by omega⟩⟩ (fun c363 => ?_) (fun c363 => ?_)
        · show gv_X _ _ (80, [(5, .inl (((I a1 4) - a2) - 1)), (0, .inr (.inr (some 48))), (1, .inr (.inr (some a1))), (2, .inl a2), (3, .inl a3), (4, .inl a4)], [], sh, gc_h sh I J A)
          refine gv_run 2 true hD (pc' := 102) (lv' := [(5, .inl (((I a1 4) - a2) - 1)), (0, .inr (.inr (some 48))), (1, .inr (.inr (some a1))), (2, .inl a2), (3, .inl a3), (4, .inl a4)]) (st' := [.inl 0]) (h' := gc_h sh I J A) (C := ((True ∧ True) ∧ True)) rfl ⟨⟨trivial, trivial⟩, trivial⟩ ?_
          refine gv_pick [1, 2, 3, 4, 5] rfl ?_
          exact L102 0 (by omega)
        · show gv_X _ _ (76, [(5, .inl (((I a1 4) - a2) - 1)), (0, .inr (.inr (some 48))), (1, .inr (.inr (some a1))), (2, .inl a2), (3, .inl a3), (4, .inl a4)], [], sh, gc_h sh I J A)
          refine gv_run 2 true hD (pc' := 102) (lv' := [(5, .inl (((I a1 4) - a2) - 1)), (0, .inr (.inr (some 48))), (1, .inr (.inr (some a1))), (2, .inl a2), (3, .inl a3), (4, .inl a4)]) (st' := [.inl 1]) (h' := gc_h sh I J A) (C := ((True ∧ True) ∧ True)) rfl ⟨⟨trivial, trivial⟩, trivial⟩ ?_
          refine gv_pick [1, 2, 3, 4, 5] rfl ?_
          exact L102 1 (by omega)
  · show gv_X _ _ (8, [(0, .inr (.inr (some 48))), (1, .inr (.inr (some a1))), (2, .inl a2), (3, .inl a3), (4, .inl a4)], [], sh, gc_h sh I J A)
    refine gv_run 2 true hD (pc' := 10) (lv' := [(0, .inr (.inr (some 48))), (1, .inr (.inr (some a1))), (2, .inl a2), (3, .inl a3), (4, .inl a4)]) (st' := [.inr (.inr (some 48)), .inr (.inr (some a1))]) (h' := gc_h sh I J A) (C := ((True ∧ True) ∧ True)) rfl ⟨⟨trivial, trivial⟩, trivial⟩ ?_
    refine gv_get hD rfl rfl S_48 ⟨by decide, B_48⟩ (gc_hA S_48 rfl A_48_20) ?_
    show gv_X _ _ (13, [(0, .inr (.inr (some 48))), (1, .inr (.inr (some a1))), (2, .inl a2), (3, .inl a3), (4, .inl a4)], [.inr (.inr (some 59)), .inr (.inr (some a1))], sh, gc_h sh I J A)
    refine gv_run 1 true hD (pc' := 14) (lv' := [(0, .inr (.inr (some 48))), (1, .inr (.inr (some a1))), (2, .inl a2), (3, .inl a3), (4, .inl a4)]) (st' := [.inr (.inr (some 48)), .inr (.inr (some 59)), .inr (.inr (some a1))]) (h' := gc_h sh I J A) (C := (True ∧ True)) rfl ⟨trivial, trivial⟩ ?_
    refine gv_get hD rfl rfl S_48 ⟨by decide, B_48⟩ (gc_hA S_48 rfl A_48_21) ?_
    show gv_X _ _ (17, [(0, .inr (.inr (some 48))), (1, .inr (.inr (some a1))), (2, .inl a2), (3, .inl a3), (4, .inl a4)], [.inr (.inr (some 60)), .inr (.inr (some 59)), .inr (.inr (some a1))], sh, gc_h sh I J A)
    obtain ⟨r364, h364, E364, P364⟩ := d_X3_unite (ws0 := ws0) (tb := tb) hws htb sh ro I J A hI a1 4 4 59 60 h_a1 S_59 R_59 B_59 (by decide) S_60 R_60 B_60 (by decide)   (by omega) (by omega) 
    obtain ⟨I365, J366, rfl, hI365, g364, k364, ⟨z364, rfl, q364⟩⟩ := P364
    have FI365 := gc_frc (W := fun q j => (q = 48 ∧ j = 3) ∨ (q = 48 ∧ j = 6) ∨ (q = 48 ∧ j = 12) ∨ q = 51 ∨ q = 52 ∨ q = 53 ∨ q = 54 ∨ q = 55 ∨ (q = 48 ∧ j = 11) ∨ q = 58 ∨ q = 59 ∨ q = 60) (V := fun q j => q = 60) FI (fun q j h => (Or.inr (Or.inr (Or.inr (Or.inr (Or.inr (Or.inr (Or.inr (Or.inr (Or.inr (Or.inr (Or.inr h)))))))))))) g364
    have t367 := (g364 48 3).resolve_left (fun h => absurd h (by decide))
    have t368 := (g364 48 6).resolve_left (fun h => absurd h (by decide))
    have t369 := (g364 48 11).resolve_left (fun h => absurd h (by decide))
    have t370 := (g364 48 12).resolve_left (fun h => absurd h (by decide))
    have t371 := (g364 48 17).resolve_left (fun h => absurd h (by decide))
    have t372 := (g364 48 18).resolve_left (fun h => absurd h (by decide))
    have t373 := (g364 t 13).resolve_left (fun h => absurd h N_t__60)
    have t374 := (g364 x 4).resolve_left (fun h => absurd h N_x__60)
    have t375 := (g364 a1 4).resolve_left (fun h => absurd h N_a1__60)
    have t376 := (g364 a1 0).resolve_left (fun h => absurd h N_a1__60)
    have t377 := (g364 48 13).resolve_left (fun h => absurd h (by decide))
    have t378 := (g364 48 14).resolve_left (fun h => absurd h (by decide))
    have f379 := (show 0 ≤ I365 48 3 ∧ I365 48 3 ≤ 3000 from gc_in hI365 R_48 rfl rfl)
    have f380 := (show 0 ≤ I365 48 6 ∧ I365 48 6 ≤ 9000 from gc_in hI365 R_48 rfl rfl)
    have f381 := (show 0 ≤ I365 48 11 ∧ I365 48 11 ≤ 1000000 from gc_in hI365 R_48 rfl rfl)
    have f382 := (show 0 ≤ I365 48 12 ∧ I365 48 12 ≤ 1 from gc_in hI365 R_48 rfl rfl)
    have f383 := (show 0 ≤ I365 48 17 ∧ I365 48 17 ≤ 3000 from gc_in hI365 R_48 rfl rfl)
    have f384 := (show 0 ≤ I365 48 18 ∧ I365 48 18 ≤ 24 from gc_in hI365 R_48 rfl rfl)
    have f385 := (show 0 ≤ I365 t 13 ∧ I365 t 13 ≤ 384 from gc_in hI365 R_t rfl rfl)
    have f386 := (show 0 ≤ I365 x 4 ∧ I365 x 4 ≤ 24 from gc_in hI365 R_x rfl rfl)
    have f387 := (show 0 ≤ I365 a1 4 ∧ I365 a1 4 ≤ 6 from gc_in hI365 R_a1 rfl rfl)
    have f388 := (show 0 ≤ I365 a1 0 ∧ I365 a1 0 ≤ 384 from gc_in hI365 R_a1 rfl rfl)
    have f389 := (show (-1) ≤ I365 48 13 ∧ I365 48 13 ≤ 999999 from gc_in hI365 R_48 rfl rfl)
    have f390 := (show (-1) ≤ I365 48 14 ∧ I365 48 14 ≤ 999999 from gc_in hI365 R_48 rfl rfl)
    obtain rfl : J = J366 := funext fun q => funext fun j => ((k364 q j).resolve_left id).symm
    have KWV_I365 := gc_WV_fr KWV_I ((g364 48 6).resolve_left (fun h => absurd h (by decide))) ((g364 t 13).resolve_left (fun h => absurd h N_t__60)) (fun k => (g364 54 k).resolve_left (fun h => absurd h (by decide)))
    have KFN_I365 := gc_FN_fr KFN_I (fun k => (g364 49 k).resolve_left (fun h => absurd h (by decide))) (fun k => (g364 50 k).resolve_left (fun h => absurd h (by decide)))
    refine gv_callV hD rfl (As := [.inr (.inr (some 59)), .inr (.inr (some 60))]) (st := []) rfl B_a1 S_a1 rfl (gc_lV0 hws rfl) (Nat.le_of_ble_eq_true rfl) (gz_Ev_mono (d := 1) (by omega) E364) ?_
    show gv_X _ _ (20, [(0, .inr (.inr (some 48))), (1, .inr (.inr (some a1))), (2, .inl a2), (3, .inl a3), (4, .inl a4)], [.inl z364], sh, gc_h sh I365 J A)
    refine gv_run 2 true hD (pc' := 24) (lv' := [(5, .inl z364), (0, .inr (.inr (some 48))), (1, .inr (.inr (some a1))), (2, .inl a2), (3, .inl a3), (4, .inl a4)]) (st' := [.inl z364]) (h' := gc_h sh I365 J A) (C := ((True ∧ True) ∧ True)) rfl ⟨⟨trivial, trivial⟩, trivial⟩ ?_
    refine gv_if_lt (t := 41) hD rfl rfl ⟨by omega, by omega⟩ (fun c391 => ?_) (fun c391 => ?_)
    · show gv_X _ _ (41, [(5, .inl z364), (0, .inr (.inr (some 48))), (1, .inr (.inr (some a1))), (2, .inl a2), (3, .inl a3), (4, .inl a4)], [], sh, gc_h sh I365 J A)
      refine gv_pick [] rfl ?_
      exact L41 I365 J hI365 FI365 FJ KWV_I365 KFN_I365 (by omega)
    · show gv_X _ _ (27, [(5, .inl z364), (0, .inr (.inr (some 48))), (1, .inr (.inr (some a1))), (2, .inl a2), (3, .inl a3), (4, .inl a4)], [], sh, gc_h sh I365 J A)
      refine gv_run 3 true hD (pc' := 30) (lv' := [(5, .inl z364), (0, .inr (.inr (some 48))), (1, .inr (.inr (some a1))), (2, .inl a2), (3, .inl a3), (4, .inl a4)]) (st' := [.inr (.inr (some a1)), .inl (-1), .inr (.inr (some 48))]) (h' := gc_h sh I365 J A) (C := (((True ∧ True) ∧ True) ∧ True)) rfl ⟨⟨⟨trivial, trivial⟩, trivial⟩, trivial⟩ ?_
      have f392 := (show 0 ≤ I365 a1 0 ∧ I365 a1 0 ≤ 384 from gc_in hI365 R_a1 rfl rfl)
      refine gv_get hD rfl rfl S_a1 ⟨by decide, B_a1⟩ (gc_hI S_a1 rfl) ?_
      show gv_X _ _ (33, [(5, .inl z364), (0, .inr (.inr (some 48))), (1, .inr (.inr (some a1))), (2, .inl a2), (3, .inl a3), (4, .inl a4)], [.inl (I365 a1 0), .inl (-1), .inr (.inr (some 48))], sh, gc_h sh I365 J A)
      refine gv_run 3 true hD (pc' := 38) (lv' := [(5, .inl z364), (0, .inr (.inr (some 48))), (1, .inr (.inr (some a1))), (2, .inl a2), (3, .inl a3), (4, .inl a4)]) (st' := [.inl a4, .inl z364, .inl ((-1) - (I365 a1 0)), .inr (.inr (some 48))]) (h' := gc_h sh I365 J A) (C := (((True ∧ True) ∧ True) ∧ True)) rfl ⟨⟨⟨trivial, trivial⟩, trivial⟩, trivial⟩ ?_
      obtain ⟨r393, h393, E393, P393⟩ := d_X0_putWay (ws0 := ws0) (tb := tb) hws htb sh ro I365 J A hI365  t (((-1) - (I365 a1 0))) z364 a4 hb  h_t G_t  ⟨by omega, by omega⟩ ⟨by omega, by omega⟩ ⟨by omega, by omega⟩ (by omega) (by omega) (by omega) KWV_I365
      obtain ⟨I394, J395, rfl, hI394, g393, k393, KWV_I394, ⟨rfl, q393⟩⟩ := P393
      have FI394 := gc_frc (W := fun q j => (q = 48 ∧ j = 3) ∨ (q = 48 ∧ j = 6) ∨ (q = 48 ∧ j = 12) ∨ q = 51 ∨ q = 52 ∨ q = 53 ∨ q = 54 ∨ q = 55 ∨ (q = 48 ∧ j = 11) ∨ q = 58 ∨ q = 59 ∨ q = 60) (V := fun q j => (q = 48 ∧ j = 3) ∨ (q = 48 ∧ j = 6) ∨ (q = 48 ∧ j = 12) ∨ q = 51 ∨ q = 52 ∨ q = 53 ∨ q = 54 ∨ q = 55) FI365 (fun q j h => (h.elim (fun h => (Or.inl h)) (fun h => (h.elim (fun h => (Or.inr (Or.inl h))) (fun h => (h.elim (fun h => (Or.inr (Or.inr (Or.inl h)))) (fun h => (h.elim (fun h => (Or.inr (Or.inr (Or.inr (Or.inl h))))) (fun h => (h.elim (fun h => (Or.inr (Or.inr (Or.inr (Or.inr (Or.inl h)))))) (fun h => (h.elim (fun h => (Or.inr (Or.inr (Or.inr (Or.inr (Or.inr (Or.inl h))))))) (fun h => (h.elim (fun h => (Or.inr (Or.inr (Or.inr (Or.inr (Or.inr (Or.inr (Or.inl h)))))))) (fun h => (Or.inr (Or.inr (Or.inr (Or.inr (Or.inr (Or.inr (Or.inr (Or.inl h))))))))))))))))))))))) g393
      have t396 := (g393 48 11).resolve_left (fun h => h.elim (fun h => absurd h.2 (by decide)) (fun h => h.elim (fun h => absurd h.2 (by decide)) (fun h => h.elim (fun h => absurd h.2 (by decide)) (fun h => h.elim (fun h => absurd h (by decide)) (fun h => h.elim (fun h => absurd h (by decide)) (fun h => h.elim (fun h => absurd h (by decide)) (fun h => h.elim (fun h => absurd h (by decide)) (fun h => absurd h (by decide)))))))))
      have t397 := (g393 48 17).resolve_left (fun h => h.elim (fun h => absurd h.2 (by decide)) (fun h => h.elim (fun h => absurd h.2 (by decide)) (fun h => h.elim (fun h => absurd h.2 (by decide)) (fun h => h.elim (fun h => absurd h (by decide)) (fun h => h.elim (fun h => absurd h (by decide)) (fun h => h.elim (fun h => absurd h (by decide)) (fun h => h.elim (fun h => absurd h (by decide)) (fun h => absurd h (by decide)))))))))
      have t398 := (g393 48 18).resolve_left (fun h => h.elim (fun h => absurd h.2 (by decide)) (fun h => h.elim (fun h => absurd h.2 (by decide)) (fun h => h.elim (fun h => absurd h.2 (by decide)) (fun h => h.elim (fun h => absurd h (by decide)) (fun h => h.elim (fun h => absurd h (by decide)) (fun h => h.elim (fun h => absurd h (by decide)) (fun h => h.elim (fun h => absurd h (by decide)) (fun h => absurd h (by decide)))))))))
      have t399 := (g393 t 13).resolve_left (fun h => h.elim (fun h => absurd h.2 (by decide)) (fun h => h.elim (fun h => absurd h.2 (by decide)) (fun h => h.elim (fun h => absurd h.2 (by decide)) (fun h => h.elim (fun h => absurd h N_t__51) (fun h => h.elim (fun h => absurd h N_t__52) (fun h => h.elim (fun h => absurd h N_t__53) (fun h => h.elim (fun h => absurd h N_t__54) (fun h => absurd h N_t__55))))))))
      have t400 := (g393 x 4).resolve_left (fun h => h.elim (fun h => absurd h.2 (by decide)) (fun h => h.elim (fun h => absurd h.2 (by decide)) (fun h => h.elim (fun h => absurd h.2 (by decide)) (fun h => h.elim (fun h => absurd h N_x__51) (fun h => h.elim (fun h => absurd h N_x__52) (fun h => h.elim (fun h => absurd h N_x__53) (fun h => h.elim (fun h => absurd h N_x__54) (fun h => absurd h N_x__55))))))))
      have t401 := (g393 a1 4).resolve_left (fun h => h.elim (fun h => absurd h.2 (by decide)) (fun h => h.elim (fun h => absurd h.2 (by decide)) (fun h => h.elim (fun h => absurd h.2 (by decide)) (fun h => h.elim (fun h => absurd h N_a1__51) (fun h => h.elim (fun h => absurd h N_a1__52) (fun h => h.elim (fun h => absurd h N_a1__53) (fun h => h.elim (fun h => absurd h N_a1__54) (fun h => absurd h N_a1__55))))))))
      have t402 := (g393 a1 0).resolve_left (fun h => h.elim (fun h => absurd h.2 (by decide)) (fun h => h.elim (fun h => absurd h.2 (by decide)) (fun h => h.elim (fun h => absurd h.2 (by decide)) (fun h => h.elim (fun h => absurd h N_a1__51) (fun h => h.elim (fun h => absurd h N_a1__52) (fun h => h.elim (fun h => absurd h N_a1__53) (fun h => h.elim (fun h => absurd h N_a1__54) (fun h => absurd h N_a1__55))))))))
      have t403 := (g393 48 13).resolve_left (fun h => h.elim (fun h => absurd h.2 (by decide)) (fun h => h.elim (fun h => absurd h.2 (by decide)) (fun h => h.elim (fun h => absurd h.2 (by decide)) (fun h => h.elim (fun h => absurd h (by decide)) (fun h => h.elim (fun h => absurd h (by decide)) (fun h => h.elim (fun h => absurd h (by decide)) (fun h => h.elim (fun h => absurd h (by decide)) (fun h => absurd h (by decide)))))))))
      have t404 := (g393 48 14).resolve_left (fun h => h.elim (fun h => absurd h.2 (by decide)) (fun h => h.elim (fun h => absurd h.2 (by decide)) (fun h => h.elim (fun h => absurd h.2 (by decide)) (fun h => h.elim (fun h => absurd h (by decide)) (fun h => h.elim (fun h => absurd h (by decide)) (fun h => h.elim (fun h => absurd h (by decide)) (fun h => h.elim (fun h => absurd h (by decide)) (fun h => absurd h (by decide)))))))))
      have f405 := (show 0 ≤ I394 48 3 ∧ I394 48 3 ≤ 3000 from gc_in hI394 R_48 rfl rfl)
      have f406 := (show 0 ≤ I394 48 6 ∧ I394 48 6 ≤ 9000 from gc_in hI394 R_48 rfl rfl)
      have f407 := (show 0 ≤ I394 48 11 ∧ I394 48 11 ≤ 1000000 from gc_in hI394 R_48 rfl rfl)
      have f408 := (show 0 ≤ I394 48 12 ∧ I394 48 12 ≤ 1 from gc_in hI394 R_48 rfl rfl)
      have f409 := (show 0 ≤ I394 48 17 ∧ I394 48 17 ≤ 3000 from gc_in hI394 R_48 rfl rfl)
      have f410 := (show 0 ≤ I394 48 18 ∧ I394 48 18 ≤ 24 from gc_in hI394 R_48 rfl rfl)
      have f411 := (show 0 ≤ I394 t 13 ∧ I394 t 13 ≤ 384 from gc_in hI394 R_t rfl rfl)
      have f412 := (show 0 ≤ I394 x 4 ∧ I394 x 4 ≤ 24 from gc_in hI394 R_x rfl rfl)
      have f413 := (show 0 ≤ I394 a1 4 ∧ I394 a1 4 ≤ 6 from gc_in hI394 R_a1 rfl rfl)
      have f414 := (show 0 ≤ I394 a1 0 ∧ I394 a1 0 ≤ 384 from gc_in hI394 R_a1 rfl rfl)
      have f415 := (show (-1) ≤ I394 48 13 ∧ I394 48 13 ≤ 999999 from gc_in hI394 R_48 rfl rfl)
      have f416 := (show (-1) ≤ I394 48 14 ∧ I394 48 14 ≤ 999999 from gc_in hI394 R_48 rfl rfl)
      obtain rfl : J = J395 := funext fun q => funext fun j => ((k393 q j).resolve_left id).symm
      have KFN_I394 := gc_FN_fr KFN_I365 (fun k => (g393 49 k).resolve_left (fun h => h.elim (fun h => absurd h.1 (by decide)) (fun h => h.elim (fun h => absurd h.1 (by decide)) (fun h => h.elim (fun h => absurd h.1 (by decide)) (fun h => h.elim (fun h => absurd h (by decide)) (fun h => h.elim (fun h => absurd h (by decide)) (fun h => h.elim (fun h => absurd h (by decide)) (fun h => h.elim (fun h => absurd h (by decide)) (fun h => absurd h (by decide)))))))))) (fun k => (g393 50 k).resolve_left (fun h => h.elim (fun h => absurd h.1 (by decide)) (fun h => h.elim (fun h => absurd h.1 (by decide)) (fun h => h.elim (fun h => absurd h.1 (by decide)) (fun h => h.elim (fun h => absurd h (by decide)) (fun h => h.elim (fun h => absurd h (by decide)) (fun h => h.elim (fun h => absurd h (by decide)) (fun h => h.elim (fun h => absurd h (by decide)) (fun h => absurd h (by decide))))))))))
      refine gv_callV hD rfl (As := [.inl ((-1) - (I365 a1 0)), .inl z364, .inl a4]) (st := []) rfl B_48 S_48 rfl (gc_lV0 hws rfl) (Nat.le_of_ble_eq_true rfl) (gz_Ev_mono (d := 2) (by omega) E393) ?_
      show gv_X _ _ (41, [(5, .inl z364), (0, .inr (.inr (some 48))), (1, .inr (.inr (some a1))), (2, .inl a2), (3, .inl a3), (4, .inl a4)], [], sh, gc_h sh I394 J A)
      refine gv_pick [] rfl ?_
      exact L41 I394 J hI394 FI394 FJ KWV_I394 KFN_I394 (by omega)
