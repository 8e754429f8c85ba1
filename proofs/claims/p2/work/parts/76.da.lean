set_option maxHeartbeats 4000000 in
set_option maxRecDepth 100000 in
theorem d_X0_lay {ws0 : List Cond} {tb : String → gz_T} (hws : gc_Ws ws0) (htb : gc_tbs tb) (sh : gz_Sh) (ro : Nat → Nat) (A : gc_A) (t : Nat) (x : Nat) (a1 : Nat) (hb : gc_Base sh ro A) (h_a1 : gc_isLin sh ro A a1) (G_a1 : 144 ≤ a1) (h_t : gc_isTongue sh ro A t) (G_t : 144 ≤ t) (h_x : gc_isText sh ro A x) (G_x : x + 3 < 39 ∨ 100 ≤ x) : ∀ (nr : Nat) (I : gr_I) (J : gr_J) (hI : gc_Inv ro I) (a2 : Int) (a3 : Int) (a4 : Int) (ha2 : 0 ≤ a2 ∧ a2 ≤ 6) (ha3 : 0 ≤ a3 ∧ a3 ≤ 24) (ha4 : 0 ≤ a4 ∧ a4 ≤ 4) (x0 : a2 ≤ I a1 4) (x1 : a4 = gc_ac (I (a1 + 1)) (Int.toNat a2)) (x2 : gc_lv a1 I) (x3 : I a1 0 < I t 13) (x4 : a3 + I a1 4 - a2 ≤ I 48 18) (x5 : I 48 18 ≤ I x 4) (x6 : gc_SP x I) (x7 : I 48 12 = 1 ∨ I 48 11 ≤ 400000) (x8 : I 48 17 ≤ I 48 3) (x9 : I 48 11 ≤ 400001) (x10 : I 48 13 = (t : Int)) (x11 : I 48 14 = (x : Int)) (KWV_I : gc_WV t I) (KFN_I : gc_FN I) (_ : (7 - a2).toNat < nr), ∃ r h', gz_Ev ws0 tb (2 + nr) (yX0_lay, cX0_lay, 11, none) [.inr (.inr (some 48)), .inr (.inr (some a1)), .inl a2, .inl a3, .inl a4] sh (gc_h sh I J A) r sh h' 0 0 ∧ (∃ (I' : gr_I) (J' : gr_J), h' = gc_h sh I' J' A ∧ gc_Inv ro I' ∧ (∀ q j : Nat, ((q = 48 ∧ j = 3) ∨ (q = 48 ∧ j = 6) ∨ (q = 48 ∧ j = 12) ∨ q = 51 ∨ q = 52 ∨ q = 53 ∨ q = 54 ∨ q = 55 ∨ (q = 48 ∧ j = 11) ∨ q = 58 ∨ q = 59 ∨ q = 60) ∨ I' q j = I q j) ∧ (∀ q j : Nat, (False) ∨ J' q j = J q j) ∧ gc_WV t I' ∧ gc_FN I' ∧ r = none ∧ (I' 48 12 = 1 ∨ I' 48 11 ≤ 400000) ∧ (I' 48 11 ≤ 400001) ∧ (I 48 3 ≤ I' 48 3)) := by
  intro nr
  induction nr with
  | zero => intro I J hI a2 a3 a4 ha2 ha3 ha4 x0 x1 x2 x3 x4 x5 x6 x7 x8 x9 x10 x11 KWV_I KFN_I hnr; omega
  | succ nr ihR =>
  intro I J hI a2 a3 a4 ha2 ha3 ha4 x0 x1 x2 x3 x4 x5 x6 x7 x8 x9 x10 x11 KWV_I KFN_I hnr
  have FI : ∀ q j : Nat, ((q = 48 ∧ j = 3) ∨ (q = 48 ∧ j = 6) ∨ (q = 48 ∧ j = 12) ∨ q = 51 ∨ q = 52 ∨ q = 53 ∨ q = 54 ∨ q = 55 ∨ (q = 48 ∧ j = 11) ∨ q = 58 ∨ q = 59 ∨ q = 60) ∨ I q j = I q j := fun _ _ => Or.inr rfl
  have FJ : ∀ q j : Nat, (False) ∨ J q j = J q j := fun _ _ => Or.inr rfl
  have A_1_8 : A 1 8 = some 13 := gc_bA hb rfl
  have A_48_0 : A 48 0 = some 1 := gc_bA hb rfl
  have A_48_1 : A 48 1 = some 49 := gc_bA hb rfl
  have A_48_19 : A 48 19 = some 58 := gc_bA hb rfl
  have A_48_2 : A 48 2 = some 50 := gc_bA hb rfl
  have A_48_20 : A 48 20 = some 59 := gc_bA hb rfl
  have A_48_21 : A 48 21 = some 60 := gc_bA hb rfl
  have A_48_5 : A 48 5 = some 52 := gc_bA hb rfl
  have B_1 : 1 < 1000000 := by decide
  have B_13 : 13 < 1000000 := by decide
  have B_48 : 48 < 1000000 := by decide
  have B_49 : 49 < 1000000 := by decide
  have B_50 : 50 < 1000000 := by decide
  have B_52 : 52 < 1000000 := by decide
  have B_58 : 58 < 1000000 := by decide
  have B_59 : 59 < 1000000 := by decide
  have B_60 : 60 < 1000000 := by decide
  have R_13 : ro 13 = 25 := gc_bR hb (by decide) rfl
  have R_48 : ro 48 = 49 := gc_bR hb (by decide) rfl
  have R_49 : ro 49 = 43 := gc_bR hb (by decide) rfl
  have R_50 : ro 50 = 43 := gc_bR hb (by decide) rfl
  have R_52 : ro 52 = 13 := gc_bR hb (by decide) rfl
  have R_58 : ro 58 = 44 := gc_bR hb (by decide) rfl
  have R_59 : ro 59 = 13 := gc_bR hb (by decide) rfl
  have R_60 : ro 60 = 13 := gc_bR hb (by decide) rfl
  have S_1 : sh[1]? = some (false, 8, 21) := gc_bS hb rfl
  have S_13 : sh[13]? = some (true, 1, 384) := gc_bS hb rfl
  have S_48 : sh[48]? = some (false, 0, 22) := gc_bS hb rfl
  have S_49 : sh[49]? = some (true, 1, 18432) := gc_bS hb rfl
  have S_50 : sh[50]? = some (true, 1, 18432) := gc_bS hb rfl
  have S_52 : sh[52]? = some (true, 1, 3000) := gc_bS hb rfl
  have S_58 : sh[58]? = some (true, 1, 4) := gc_bS hb rfl
  have S_59 : sh[59]? = some (true, 1, 4) := gc_bS hb rfl
  have S_60 : sh[60]? = some (true, 1, 4) := gc_bS hb rfl
  obtain ⟨S_a1, R_a1, B_a1, A_a1_5, S_a1_1, R_a1_1, B_a1_1, A_a1_6, S_a1_2, R_a1_2, B_a1_2, A_a1_7, S_a1_3, R_a1_3, B_a1_3, A_a1_9, S_a1_4, R_a1_4, B_a1_4, A_a1_10, S_a1_5, R_a1_5, B_a1_5, A_a1_11, S_a1_6, R_a1_6, B_a1_6, A_a1_13, S_a1_7, R_a1_7, B_a1_7, A_a1_15, S_a1_8, R_a1_8, B_a1_8⟩ := id h_a1
  obtain ⟨S_t, R_t, B_t, A_t_0, h_t_1, A_t_1, h_t_3, A_t_2, S_t_5, R_t_5, B_t_5, A_t_3, S_t_6, R_t_6, B_t_6, A_t_4, h_t_7, A_t_5, S_t_9, R_t_9, B_t_9, A_t_7, S_t_10, R_t_10, B_t_10, A_t_8, h_t_11, A_t_9, S_t_13, R_t_13, B_t_13, A_t_10, S_t_14, R_t_14, B_t_14, A_t_12, S_t_15, R_t_15, B_t_15, A_t_14, S_t_16, R_t_16, B_t_16, A_t_15, h_t_17⟩ := id h_t
  obtain ⟨S_t_1, R_t_1, B_t_1, A_t_1_0, S_t_1_1, R_t_1_1, B_t_1_1, Q0_t_1, Q1_t_1, Q2_t_1⟩ := id h_t_1
  obtain ⟨S_t_3, R_t_3, B_t_3, A_t_3_0, S_t_3_1, R_t_3_1, B_t_3_1, Q0_t_3, Q1_t_3, Q2_t_3⟩ := id h_t_3
  obtain ⟨S_t_7, R_t_7, B_t_7, A_t_7_0, S_t_7_1, R_t_7_1, B_t_7_1, Q0_t_7, Q1_t_7, Q2_t_7⟩ := id h_t_7
  obtain ⟨S_t_11, R_t_11, B_t_11, A_t_11_0, S_t_11_1, R_t_11_1, B_t_11_1, Q0_t_11, Q1_t_11, Q2_t_11⟩ := id h_t_11
  obtain ⟨S_t_17, R_t_17, B_t_17, A_t_17_0, S_20, R_20, B_20, A_t_17_1, S_t_17_1, R_t_17_1, B_t_17_1, A_t_17_2, S_t_17_2, R_t_17_2, B_t_17_2, A_t_17_3, S_t_17_3, R_t_17_3, B_t_17_3, A_t_17_4, S_t_17_4, R_t_17_4, B_t_17_4, A_t_17_5, S_t_17_5, R_t_17_5, B_t_17_5, S_t_17_6, R_t_17_6, B_t_17_6, S_t_17_7, R_t_17_7, B_t_17_7⟩ := id h_t_17
  obtain ⟨S_x, R_x, B_x, A_x_0, S_x_1, R_x_1, B_x_1, A_x_2, S_x_2, R_x_2, B_x_2, A_x_3, S_x_3, R_x_3, B_x_3⟩ := id h_x
  have N1 := gc_dj_LT h_a1 h_t
  have hD : gv_D (gc_E0 ws0 tb (2 + nr) (yX0_lay, cX0_lay, 11, none) kX0_lay) := gq_ok oX0_lay
  refine gc_ev0 (d := (2 + nr)) (l := kX0_lay) (Po := fun r h' => (∃ (I' : gr_I) (J' : gr_J), h' = gc_h sh I' J' A ∧ gc_Inv ro I' ∧ (∀ q j : Nat, ((q = 48 ∧ j = 3) ∨ (q = 48 ∧ j = 6) ∨ (q = 48 ∧ j = 12) ∨ q = 51 ∨ q = 52 ∨ q = 53 ∨ q = 54 ∨ q = 55 ∨ (q = 48 ∧ j = 11) ∨ q = 58 ∨ q = 59 ∨ q = 60) ∨ I' q j = I q j) ∧ (∀ q j : Nat, (False) ∨ J' q j = J q j) ∧ gc_WV t I' ∧ gc_FN I' ∧ r = none ∧ (I' 48 12 = 1 ∨ I' 48 11 ≤ 400000) ∧ (I' 48 11 ≤ 400001) ∧ (I 48 3 ≤ I' 48 3))) htb rfl (Nat.le_of_ble_eq_true rfl) ?_
  have f1 := (show 0 ≤ I 48 3 ∧ I 48 3 ≤ 3000 from gc_in hI R_48 rfl rfl)
  have f2 := (show 0 ≤ I 48 6 ∧ I 48 6 ≤ 9000 from gc_in hI R_48 rfl rfl)
  have f3 := (show 0 ≤ I 48 11 ∧ I 48 11 ≤ 1000000 from gc_in hI R_48 rfl rfl)
  have f4 := (show 0 ≤ I 48 12 ∧ I 48 12 ≤ 1 from gc_in hI R_48 rfl rfl)
  have f5 := (show 0 ≤ I 48 17 ∧ I 48 17 ≤ 3000 from gc_in hI R_48 rfl rfl)
  have f6 := (show 0 ≤ I 48 18 ∧ I 48 18 ≤ 24 from gc_in hI R_48 rfl rfl)
  have f7 := (show 0 ≤ I t 13 ∧ I t 13 ≤ 384 from gc_in hI R_t rfl rfl)
  have f8 := (show 0 ≤ I x 4 ∧ I x 4 ≤ 24 from gc_in hI R_x rfl rfl)
  have f9 := (show 0 ≤ I a1 4 ∧ I a1 4 ≤ 6 from gc_in hI R_a1 rfl rfl)
  have f10 := (show (-1) ≤ I 48 13 ∧ I 48 13 ≤ 999999 from gc_in hI R_48 rfl rfl)
  have f11 := (show (-1) ≤ I 48 14 ∧ I 48 14 ≤ 999999 from gc_in hI R_48 rfl rfl)
  have L41 : ∀ (I12 : gr_I) (J13 : gr_J) , gc_Inv ro I12 → (∀ q j : Nat, ((q = 48 ∧ j = 3) ∨ (q = 48 ∧ j = 6) ∨ (q = 48 ∧ j = 12) ∨ q = 51 ∨ q = 52 ∨ q = 53 ∨ q = 54 ∨ q = 55 ∨ (q = 48 ∧ j = 11) ∨ q = 58 ∨ q = 59 ∨ q = 60) ∨ I12 q j = I q j) → (∀ q j : Nat, (False) ∨ J13 q j = J q j) → gc_WV t I12 → gc_FN I12 → ((I12 48 11 ≤ 400001) ∧ (I 48 3 ≤ I12 48 3) ∧ (I12 48 12 = 1 ∨ I12 48 11 ≤ 400000) ∧ (I12 48 13 = (t : Int)) ∧ (I12 48 14 = (x : Int))) → gv_X (gc_E0 ws0 tb (2 + nr) (yX0_lay, cX0_lay, 11, none) kX0_lay) (gv_Q cX0_lay none sh (fun r h' => (∃ (I' : gr_I) (J' : gr_J), h' = gc_h sh I' J' A ∧ gc_Inv ro I' ∧ (∀ q j : Nat, ((q = 48 ∧ j = 3) ∨ (q = 48 ∧ j = 6) ∨ (q = 48 ∧ j = 12) ∨ q = 51 ∨ q = 52 ∨ q = 53 ∨ q = 54 ∨ q = 55 ∨ (q = 48 ∧ j = 11) ∨ q = 58 ∨ q = 59 ∨ q = 60) ∨ I' q j = I q j) ∧ (∀ q j : Nat, (False) ∨ J' q j = J q j) ∧ gc_WV t I' ∧ gc_FN I' ∧ r = none ∧ (I' 48 12 = 1 ∨ I' 48 11 ≤ 400000) ∧ (I' 48 11 ≤ 400001) ∧ (I 48 3 ≤ I' 48 3)))) (41, [], [], sh, gc_h sh I12 J13 A) := by
    intro I12 J13 hI12 FI12 FJ13 KWV_I12 KFN_I12 m_14
    obtain ⟨e0_14, e1_14, e2_14, e3_14, e4_14⟩ := m_14
    have f15 := (show 0 ≤ I12 48 3 ∧ I12 48 3 ≤ 3000 from gc_in hI12 R_48 rfl rfl)
    have f16 := (show 0 ≤ I12 48 6 ∧ I12 48 6 ≤ 9000 from gc_in hI12 R_48 rfl rfl)
    have f17 := (show 0 ≤ I12 48 11 ∧ I12 48 11 ≤ 1000000 from gc_in hI12 R_48 rfl rfl)
    have f18 := (show 0 ≤ I12 48 12 ∧ I12 48 12 ≤ 1 from gc_in hI12 R_48 rfl rfl)
    have f19 := (show 0 ≤ I12 48 17 ∧ I12 48 17 ≤ 3000 from gc_in hI12 R_48 rfl rfl)
    have f20 := (show 0 ≤ I12 48 18 ∧ I12 48 18 ≤ 24 from gc_in hI12 R_48 rfl rfl)
    have f21 := (show 0 ≤ I12 t 13 ∧ I12 t 13 ≤ 384 from gc_in hI12 R_t rfl rfl)
    have f22 := (show 0 ≤ I12 x 4 ∧ I12 x 4 ≤ 24 from gc_in hI12 R_x rfl rfl)
    have f23 := (show 0 ≤ I12 a1 4 ∧ I12 a1 4 ≤ 6 from gc_in hI12 R_a1 rfl rfl)
    have f24 := (show (-1) ≤ I12 48 13 ∧ I12 48 13 ≤ 999999 from gc_in hI12 R_48 rfl rfl)
    have f25 := (show (-1) ≤ I12 48 14 ∧ I12 48 14 ≤ 999999 from gc_in hI12 R_48 rfl rfl)
    exact gv_vret hD rfl ⟨I12, J13, rfl, hI12, FI12, FJ13, KWV_I12, KFN_I12, ⟨rfl, by omega⟩⟩
  have L102 : ∀ (s0_26 : Int), ((0 ≤ a2 ∧ a2 ≤ 5) ∧ (0 ≤ a3 ∧ a3 ≤ 24) ∧ (0 ≤ a4 ∧ a4 ≤ 4) ∧ (0 ≤ s0_26 ∧ s0_26 ≤ 1) ∧ (a2 < I a1 4) ∧ (I 48 11 ≤ 400001) ∧ (I 48 3 ≤ I 48 3) ∧ (I 48 12 = 1 ∨ I 48 11 ≤ 400000) ∧ (I (a1 + 1) (Int.toNat a2) < 0) ∧ (s0_26 = 0 ∨ a3 + I a1 4 - a2 ≤ I 48 18) ∧ (I 48 13 = (t : Int)) ∧ (I 48 14 = (x : Int))) → gv_X (gc_E0 ws0 tb (2 + nr) (yX0_lay, cX0_lay, 11, none) kX0_lay) (gv_Q cX0_lay none sh (fun r h' => (∃ (I' : gr_I) (J' : gr_J), h' = gc_h sh I' J' A ∧ gc_Inv ro I' ∧ (∀ q j : Nat, ((q = 48 ∧ j = 3) ∨ (q = 48 ∧ j = 6) ∨ (q = 48 ∧ j = 12) ∨ q = 51 ∨ q = 52 ∨ q = 53 ∨ q = 54 ∨ q = 55 ∨ (q = 48 ∧ j = 11) ∨ q = 58 ∨ q = 59 ∨ q = 60) ∨ I' q j = I q j) ∧ (∀ q j : Nat, (False) ∨ J' q j = J q j) ∧ gc_WV t I' ∧ gc_FN I' ∧ r = none ∧ (I' 48 12 = 1 ∨ I' 48 11 ≤ 400000) ∧ (I' 48 11 ≤ 400001) ∧ (I 48 3 ≤ I' 48 3)))) (102, [(0, .inr (.inr (some 48))), (1, .inr (.inr (some a1))), (2, .inl a2), (3, .inl a3), (4, .inl a4)], [.inl s0_26], sh, gc_h sh I J A) := by
    intro s0_26 m_26
    obtain ⟨ha2_26, ha3_26, ha4_26, hs0_26, e0_26, e1_26, e2_26, e3_26, e4_26, e5_26, e6_26, e7_26⟩ := m_26
    have f27 := (show 0 ≤ I 48 3 ∧ I 48 3 ≤ 3000 from gc_in hI R_48 rfl rfl)
    have f28 := (show 0 ≤ I 48 6 ∧ I 48 6 ≤ 9000 from gc_in hI R_48 rfl rfl)
    have f29 := (show 0 ≤ I 48 11 ∧ I 48 11 ≤ 1000000 from gc_in hI R_48 rfl rfl)
    have f30 := (show 0 ≤ I 48 12 ∧ I 48 12 ≤ 1 from gc_in hI R_48 rfl rfl)
    have f31 := (show 0 ≤ I 48 17 ∧ I 48 17 ≤ 3000 from gc_in hI R_48 rfl rfl)
    have f32 := (show 0 ≤ I 48 18 ∧ I 48 18 ≤ 24 from gc_in hI R_48 rfl rfl)
    have f33 := (show 0 ≤ I t 13 ∧ I t 13 ≤ 384 from gc_in hI R_t rfl rfl)
    have f34 := (show 0 ≤ I x 4 ∧ I x 4 ≤ 24 from gc_in hI R_x rfl rfl)
    have f35 := (show 0 ≤ I a1 4 ∧ I a1 4 ≤ 6 from gc_in hI R_a1 rfl rfl)
    have f36 := (show (-1) ≤ I 48 13 ∧ I 48 13 ≤ 999999 from gc_in hI R_48 rfl rfl)
    have f37 := (show (-1) ≤ I 48 14 ∧ I 48 14 ≤ 999999 from gc_in hI R_48 rfl rfl)
    have L142 : ∀ (I38 : gr_I) (J39 : gr_J) , gc_Inv ro I38 → (∀ q j : Nat, ((q = 48 ∧ j = 3) ∨ (q = 48 ∧ j = 6) ∨ (q = 48 ∧ j = 12) ∨ q = 51 ∨ q = 52 ∨ q = 53 ∨ q = 54 ∨ q = 55 ∨ (q = 48 ∧ j = 11) ∨ q = 58 ∨ q = 59 ∨ q = 60) ∨ I38 q j = I q j) → (∀ q j : Nat, (False) ∨ J39 q j = J q j) → gc_WV t I38 → gc_FN I38 → ((I38 48 11 ≤ 400001) ∧ (I 48 3 ≤ I38 48 3) ∧ (I38 48 12 = 1 ∨ I38 48 11 ≤ 400000) ∧ (I38 48 13 = (t : Int)) ∧ (I38 48 14 = (x : Int))) → gv_X (gc_E0 ws0 tb (2 + nr) (yX0_lay, cX0_lay, 11, none) kX0_lay) (gv_Q cX0_lay none sh (fun r h' => (∃ (I' : gr_I) (J' : gr_J), h' = gc_h sh I' J' A ∧ gc_Inv ro I' ∧ (∀ q j : Nat, ((q = 48 ∧ j = 3) ∨ (q = 48 ∧ j = 6) ∨ (q = 48 ∧ j = 12) ∨ q = 51 ∨ q = 52 ∨ q = 53 ∨ q = 54 ∨ q = 55 ∨ (q = 48 ∧ j = 11) ∨ q = 58 ∨ q = 59 ∨ q = 60) ∨ I' q j = I q j) ∧ (∀ q j : Nat, (False) ∨ J' q j = J q j) ∧ gc_WV t I' ∧ gc_FN I' ∧ r = none ∧ (I' 48 12 = 1 ∨ I' 48 11 ≤ 400000) ∧ (I' 48 11 ≤ 400001) ∧ (I 48 3 ≤ I' 48 3)))) (142, [], [], sh, gc_h sh I38 J39 A) := by
      intro I38 J39 hI38 FI38 FJ39 KWV_I38 KFN_I38 m_40
      clear ha2_26 ha3_26 ha4_26 hs0_26 e0_26 e1_26 e2_26 e3_26 e4_26 e5_26 e6_26 e7_26 f27 f28 f29 f30 f31 f32 f33 f34 f35 f36 f37
      obtain ⟨e0_40, e1_40, e2_40, e3_40, e4_40⟩ := m_40
      have f41 := (show 0 ≤ I38 48 3 ∧ I38 48 3 ≤ 3000 from gc_in hI38 R_48 rfl rfl)
      have f42 := (show 0 ≤ I38 48 6 ∧ I38 48 6 ≤ 9000 from gc_in hI38 R_48 rfl rfl)
      have f43 := (show 0 ≤ I38 48 11 ∧ I38 48 11 ≤ 1000000 from gc_in hI38 R_48 rfl rfl)
      have f44 := (show 0 ≤ I38 48 12 ∧ I38 48 12 ≤ 1 from gc_in hI38 R_48 rfl rfl)
      have f45 := (show 0 ≤ I38 48 17 ∧ I38 48 17 ≤ 3000 from gc_in hI38 R_48 rfl rfl)
      have f46 := (show 0 ≤ I38 48 18 ∧ I38 48 18 ≤ 24 from gc_in hI38 R_48 rfl rfl)
      have f47 := (show 0 ≤ I38 t 13 ∧ I38 t 13 ≤ 384 from gc_in hI38 R_t rfl rfl)
      have f48 := (show 0 ≤ I38 x 4 ∧ I38 x 4 ≤ 24 from gc_in hI38 R_x rfl rfl)
      have f49 := (show 0 ≤ I38 a1 4 ∧ I38 a1 4 ≤ 6 from gc_in hI38 R_a1 rfl rfl)
      have f50 := (show (-1) ≤ I38 48 13 ∧ I38 48 13 ≤ 999999 from gc_in hI38 R_48 rfl rfl)
      have f51 := (show (-1) ≤ I38 48 14 ∧ I38 48 14 ≤ 999999 from gc_in hI38 R_48 rfl rfl)
      exact gv_vret hD rfl ⟨I38, J39, rfl, hI38, FI38, FJ39, KWV_I38, KFN_I38, ⟨rfl, by omega⟩⟩
    refine gv_run 2 true hD (pc' := 106) (lv' := [(6, .inl s0_26), (0, .inr (.inr (some 48))), (1, .inr (.inr (some a1))), (2, .inl a2), (3, .inl a3), (4, .inl a4)]) (st' := [.inl s0_26]) (h' := gc_h sh I J A) (C := ((True ∧ True) ∧ True)) rfl ⟨⟨trivial, trivial⟩, trivial⟩ ?_
    refine gv_if_eq (t := 142) hD rfl rfl ⟨by omega, by omega⟩ (fun c52 => ?_) (fun c52 => ?_)
    · show gv_X _ _ (142, [(6, .inl s0_26), (0, .inr (.inr (some 48))), (1, .inr (.inr (some a1))), (2, .inl a2), (3, .inl a3), (4, .inl a4)], [], sh, gc_h sh I J A)
      refine gv_pick [] rfl ?_
      exact L142 I J hI FI FJ KWV_I KFN_I (by omega)
    · show gv_X _ _ (109, [(6, .inl s0_26), (0, .inr (.inr (some 48))), (1, .inr (.inr (some a1))), (2, .inl a2), (3, .inl a3), (4, .inl a4)], [], sh, gc_h sh I J A)
      refine gv_run 3 true hD (pc' := 112) (lv' := [(6, .inl s0_26), (0, .inr (.inr (some 48))), (1, .inr (.inr (some a1))), (2, .inl a2), (3, .inl a3), (4, .inl a4)]) (st' := [.inr (.inr (some a1)), .inl a3, .inr (.inr (some 48))]) (h' := gc_h sh I J A) (C := (((True ∧ True) ∧ True) ∧ True)) rfl ⟨⟨⟨trivial, trivial⟩, trivial⟩, trivial⟩ ?_
      refine gv_get hD rfl rfl S_a1 ⟨by decide, B_a1⟩ (gc_hA S_a1 rfl A_a1_6) ?_
      show gv_X _ _ (115, [(6, .inl s0_26), (0, .inr (.inr (some 48))), (1, .inr (.inr (some a1))), (2, .inl a2), (3, .inl a3), (4, .inl a4)], [.inr (.inr (some (a1 + 2))), .inl a3, .inr (.inr (some 48))], sh, gc_h sh I J A)
      refine gv_run 1 true hD (pc' := 116) (lv' := [(6, .inl s0_26), (0, .inr (.inr (some 48))), (1, .inr (.inr (some a1))), (2, .inl a2), (3, .inl a3), (4, .inl a4)]) (st' := [.inl a2, .inr (.inr (some (a1 + 2))), .inl a3, .inr (.inr (some 48))]) (h' := gc_h sh I J A) (C := (True ∧ True)) rfl ⟨trivial, trivial⟩ ?_
      have f53 := (show 0 ≤ I (a1 + 2) (Int.toNat a2) ∧ I (a1 + 2) (Int.toNat a2) ≤ 2000 from gc_in hI R_a1_2 rfl rfl)
      refine gv_iald hD rfl S_a1_2 rfl ⟨by decide, B_a1_2⟩ ⟨by omega, by omega⟩ (gc_iI S_a1_2 rfl) ?_
      show gv_X _ _ (117, [(6, .inl s0_26), (0, .inr (.inr (some 48))), (1, .inr (.inr (some a1))), (2, .inl a2), (3, .inl a3), (4, .inl a4)], [.inl (I (a1 + 2) (Int.toNat a2)), .inl a3, .inr (.inr (some 48))], sh, gc_h sh I J A)
      refine gv_run 1 true hD (pc' := 118) (lv' := [(6, .inl s0_26), (0, .inr (.inr (some 48))), (1, .inr (.inr (some a1))), (2, .inl a2), (3, .inl a3), (4, .inl a4)]) (st' := [.inr (.inr (some a1)), .inl (I (a1 + 2) (Int.toNat a2)), .inl a3, .inr (.inr (some 48))]) (h' := gc_h sh I J A) (C := (True ∧ True)) rfl ⟨trivial, trivial⟩ ?_
      refine gv_get hD rfl rfl S_a1 ⟨by decide, B_a1⟩ (gc_hA S_a1 rfl A_a1_7) ?_
      show gv_X _ _ (121, [(6, .inl s0_26), (0, .inr (.inr (some 48))), (1, .inr (.inr (some a1))), (2, .inl a2), (3, .inl a3), (4, .inl a4)], [.inr (.inr (some (a1 + 3))), .inl (I (a1 + 2) (Int.toNat a2)), .inl a3, .inr (.inr (some 48))], sh, gc_h sh I J A)
      refine gv_run 1 true hD (pc' := 122) (lv' := [(6, .inl s0_26), (0, .inr (.inr (some 48))), (1, .inr (.inr (some a1))), (2, .inl a2), (3, .inl a3), (4, .inl a4)]) (st' := [.inl a2, .inr (.inr (some (a1 + 3))), .inl (I (a1 + 2) (Int.toNat a2)), .inl a3, .inr (.inr (some 48))]) (h' := gc_h sh I J A) (C := (True ∧ True)) rfl ⟨trivial, trivial⟩ ?_
      have f54 := (show 0 ≤ I (a1 + 3) (Int.toNat a2) ∧ I (a1 + 3) (Int.toNat a2) ≤ 24 from gc_in hI R_a1_3 rfl rfl)
      refine gv_iald hD rfl S_a1_3 rfl ⟨by decide, B_a1_3⟩ ⟨by omega, by omega⟩ (gc_iI S_a1_3 rfl) ?_
      show gv_X _ _ (123, [(6, .inl s0_26), (0, .inr (.inr (some 48))), (1, .inr (.inr (some a1))), (2, .inl a2), (3, .inl a3), (4, .inl a4)], [.inl (I (a1 + 3) (Int.toNat a2)), .inl (I (a1 + 2) (Int.toNat a2)), .inl a3, .inr (.inr (some 48))], sh, gc_h sh I J A)
      obtain ⟨r55, h55, E55, P55⟩ := d_X0_isAt (ws0 := ws0) (tb := tb) hws htb sh ro I J A hI  x a3 ((I (a1 + 2) (Int.toNat a2))) ((I (a1 + 3) (Int.toNat a2))) hb  h_x G_x  ⟨by omega, by omega⟩ ⟨by omega, by omega⟩ ⟨by omega, by omega⟩ x6 (by omega) (by omega) 
      obtain ⟨rfl, ⟨z55, rfl, q55⟩⟩ := P55
      refine gv_callV hD rfl (As := [.inl a3, .inl (I (a1 + 2) (Int.toNat a2)), .inl (I (a1 + 3) (Int.toNat a2))]) (st := []) rfl B_48 S_48 rfl (gc_lV0 hws rfl) (Nat.le_of_ble_eq_true rfl) (gz_Ev_mono (d := 1) (by omega) E55) ?_
      show gv_X _ _ (126, [(6, .inl s0_26), (0, .inr (.inr (some 48))), (1, .inr (.inr (some a1))), (2, .inl a2), (3, .inl a3), (4, .inl a4)], [.inl z55], sh, gc_h sh I J A)
      refine gv_if_eq (t := 142) hD rfl rfl ⟨by omega, by omega⟩ (fun c56 => ?_) (fun c56 => ?_)
      · show gv_X _ _ (142, [(6, .inl s0_26), (0, .inr (.inr (some 48))), (1, .inr (.inr (some a1))), (2, .inl a2), (3, .inl a3), (4, .inl a4)], [], sh, gc_h sh I J A)
        refine gv_pick [] rfl ?_
        exact L142 I J hI FI FJ KWV_I KFN_I (by omega)
      · show gv_X _ _ (129, [(6, .inl s0_26), (0, .inr (.inr (some 48))), (1, .inr (.inr (some a1))), (2, .inl a2), (3, .inl a3), (4, .inl a4)], [], sh, gc_h sh I J A)
        refine gv_run 7 true hD (pc' := 136) (lv' := [(6, .inl s0_26), (0, .inr (.inr (some 48))), (1, .inr (.inr (some a1))), (2, .inl a2), (3, .inl a3), (4, .inl a4)]) (st' := [.inl 1, .inl a3, .inl (a2 + 1), .inr (.inr (some a1)), .inr (.inr (some 48))]) (h' := gc_h sh I J A) (C := (((((((True ∧ True) ∧ True) ∧ True) ∧ True) ∧ True) ∧ True) ∧ True)) rfl ⟨⟨⟨⟨⟨⟨⟨trivial, trivial⟩, trivial⟩, trivial⟩, trivial⟩, trivial⟩, trivial⟩, trivial⟩ ?_
        refine gv_run 2 true hD (pc' := 139) (lv' := [(6, .inl s0_26), (0, .inr (.inr (some 48))), (1, .inr (.inr (some a1))), (2, .inl a2), (3, .inl a3), (4, .inl a4)]) (st' := [.inl a4, .inl (a3 + 1), .inl (a2 + 1), .inr (.inr (some a1)), .inr (.inr (some 48))]) (h' := gc_h sh I J A) (C := ((True ∧ True) ∧ True)) rfl ⟨⟨trivial, trivial⟩, trivial⟩ ?_
        obtain ⟨r57, h57, E57, P57⟩ := ihR I J hI (a2 + 1) (a3 + 1) a4 ⟨by omega, by omega⟩ ⟨by omega, by omega⟩ ⟨by omega, by omega⟩ (by omega) (by rw [show Int.toNat (a2 + 1) = Int.toNat a2 + 1 from by omega, gc_ac_nx0 (by omega)]; omega) x2 (by omega) (by omega) (by omega) x6 (by omega) (by omega) (by omega) (by omega) (by omega) KWV_I KFN_I (by omega)
        obtain ⟨I58, J59, rfl, hI58, g57, k57, KWV_I58, KFN_I58, ⟨rfl, q57⟩⟩ := P57
        have FI58 := gc_frc (W := fun q j => (q = 48 ∧ j = 3) ∨ (q = 48 ∧ j = 6) ∨ (q = 48 ∧ j = 12) ∨ q = 51 ∨ q = 52 ∨ q = 53 ∨ q = 54 ∨ q = 55 ∨ (q = 48 ∧ j = 11) ∨ q = 58 ∨ q = 59 ∨ q = 60) (V := fun q j => (q = 48 ∧ j = 3) ∨ (q = 48 ∧ j = 6) ∨ (q = 48 ∧ j = 12) ∨ q = 51 ∨ q = 52 ∨ q = 53 ∨ q = 54 ∨ q = 55 ∨ (q = 48 ∧ j = 11) ∨ q = 58 ∨ q = 59 ∨ q = 60) FI (fun q j h => (h.elim (fun h => (Or.inl h)) (fun h => (h.elim (fun h => (Or.inr (Or.inl h))) (fun h => (h.elim (fun h => (Or.inr (Or.inr (Or.inl h)))) (fun h => (h.elim (fun h => (Or.inr (Or.inr (Or.inr (Or.inl h))))) (fun h => (h.elim (fun h => (Or.inr (Or.inr (Or.inr (Or.inr (Or.inl h)))))) (fun h => (h.elim (fun h => (Or.inr (Or.inr (Or.inr (Or.inr (Or.inr (Or.inl h))))))) (fun h => (h.elim (fun h => (Or.inr (Or.inr (Or.inr (Or.inr (Or.inr (Or.inr (Or.inl h)))))))) (fun h => (h.elim (fun h => (Or.inr (Or.inr (Or.inr (Or.inr (Or.inr (Or.inr (Or.inr (Or.inl h))))))))) (fun h => (h.elim (fun h => (Or.inr (Or.inr (Or.inr (Or.inr (Or.inr (Or.inr (Or.inr (Or.inr (Or.inl h)))))))))) (fun h => (h.elim (fun h => (Or.inr (Or.inr (Or.inr (Or.inr (Or.inr (Or.inr (Or.inr (Or.inr (Or.inr (Or.inl h))))))))))) (fun h => (h.elim (fun h => (Or.inr (Or.inr (Or.inr (Or.inr (Or.inr (Or.inr (Or.inr (Or.inr (Or.inr (Or.inr (Or.inl h)))))))))))) (fun h => (Or.inr (Or.inr (Or.inr (Or.inr (Or.inr (Or.inr (Or.inr (Or.inr (Or.inr (Or.inr (Or.inr h)))))))))))))))))))))))))))))))))) g57
        have t60 := (g57 48 17).resolve_left (by omega)
        have t61 := (g57 48 18).resolve_left (by omega)
        have t62 := (g57 t 13).resolve_left (by omega)
        have t63 := (g57 x 4).resolve_left (by omega)
        have t64 := (g57 a1 4).resolve_left (by omega)
        have t65 := (g57 48 13).resolve_left (by omega)
        have t66 := (g57 48 14).resolve_left (by omega)
        have f67 := (show 0 ≤ I58 48 3 ∧ I58 48 3 ≤ 3000 from gc_in hI58 R_48 rfl rfl)
        have f68 := (show 0 ≤ I58 48 6 ∧ I58 48 6 ≤ 9000 from gc_in hI58 R_48 rfl rfl)
        have f69 := (show 0 ≤ I58 48 11 ∧ I58 48 11 ≤ 1000000 from gc_in hI58 R_48 rfl rfl)
        have f70 := (show 0 ≤ I58 48 12 ∧ I58 48 12 ≤ 1 from gc_in hI58 R_48 rfl rfl)
        have f71 := (show 0 ≤ I58 48 17 ∧ I58 48 17 ≤ 3000 from gc_in hI58 R_48 rfl rfl)
        have f72 := (show 0 ≤ I58 48 18 ∧ I58 48 18 ≤ 24 from gc_in hI58 R_48 rfl rfl)
        have f73 := (show 0 ≤ I58 t 13 ∧ I58 t 13 ≤ 384 from gc_in hI58 R_t rfl rfl)
        have f74 := (show 0 ≤ I58 x 4 ∧ I58 x 4 ≤ 24 from gc_in hI58 R_x rfl rfl)
        have f75 := (show 0 ≤ I58 a1 4 ∧ I58 a1 4 ≤ 6 from gc_in hI58 R_a1 rfl rfl)
        have f76 := (show (-1) ≤ I58 48 13 ∧ I58 48 13 ≤ 999999 from gc_in hI58 R_48 rfl rfl)
        have f77 := (show (-1) ≤ I58 48 14 ∧ I58 48 14 ≤ 999999 from gc_in hI58 R_48 rfl rfl)
        obtain rfl : J = J59 := funext fun q => funext fun j => ((k57 q j).resolve_left id).symm
        refine gv_callV hD rfl (As := [.inr (.inr (some a1)), .inl (a2 + 1), .inl (a3 + 1), .inl a4]) (st := []) rfl B_48 S_48 rfl (gc_lV0 hws rfl) (Nat.le_of_ble_eq_true rfl) (gz_Ev_mono (d := (2 + nr)) (Nat.le_refl _) E57) ?_
        show gv_X _ _ (142, [(6, .inl s0_26), (0, .inr (.inr (some 48))), (1, .inr (.inr (some a1))), (2, .inl a2), (3, .inl a3), (4, .inl a4)], [], sh, gc_h sh I58 J A)
        refine gv_pick [] rfl ?_
        exact L142 I58 J hI58 FI58 FJ KWV_I58 KFN_I58 (by omega)
  have L181 : ∀ (v5_78 : Int) (v6_78 : Int) (s0_78 : Int), ((0 ≤ a2 ∧ a2 ≤ 5) ∧ (0 ≤ a3 ∧ a3 ≤ 24) ∧ (0 ≤ a4 ∧ a4 ≤ 4) ∧ (0 ≤ v5_78 ∧ v5_78 ≤ 5) ∧ (0 ≤ v6_78 ∧ v6_78 ≤ 31) ∧ (0 ≤ s0_78 ∧ s0_78 ≤ 25) ∧ (v5_78 = I a1 4 - a2 - 1) ∧ (a2 < I a1 4) ∧ (a4 ≤ 3) ∧ (0 ≤ I (a1 + 1) (Int.toNat a2)) ∧ (I 48 11 ≤ 400001) ∧ (I 48 3 ≤ I 48 3) ∧ (I 48 12 = 1 ∨ I 48 11 ≤ 400000) ∧ (a3 < s0_78) ∧ (s0_78 ≤ I 48 18) ∧ (I 48 13 = (t : Int)) ∧ (I 48 14 = (x : Int))) → gv_X (gc_E0 ws0 tb (2 + nr) (yX0_lay, cX0_lay, 11, none) kX0_lay) (gv_Q cX0_lay none sh (fun r h' => (∃ (I' : gr_I) (J' : gr_J), h' = gc_h sh I' J' A ∧ gc_Inv ro I' ∧ (∀ q j : Nat, ((q = 48 ∧ j = 3) ∨ (q = 48 ∧ j = 6) ∨ (q = 48 ∧ j = 12) ∨ q = 51 ∨ q = 52 ∨ q = 53 ∨ q = 54 ∨ q = 55 ∨ (q = 48 ∧ j = 11) ∨ q = 58 ∨ q = 59 ∨ q = 60) ∨ I' q j = I q j) ∧ (∀ q j : Nat, (False) ∨ J' q j = J q j) ∧ gc_WV t I' ∧ gc_FN I' ∧ r = none ∧ (I' 48 12 = 1 ∨ I' 48 11 ≤ 400000) ∧ (I' 48 11 ≤ 400001) ∧ (I 48 3 ≤ I' 48 3)))) (181, [(0, .inr (.inr (some 48))), (1, .inr (.inr (some a1))), (2, .inl a2), (3, .inl a3), (4, .inl a4), (5, .inl v5_78), (6, .inl v6_78)], [.inl s0_78], sh, gc_h sh I J A) := by
    intro v5_78 v6_78 s0_78 m_78
    obtain ⟨ha2_78, ha3_78, ha4_78, hv5_78, hv6_78, hs0_78, e0_78, e1_78, e2_78, e3_78, e4_78, e5_78, e6_78, e7_78, e8_78, e9_78, e10_78⟩ := m_78
    have f79 := (show 0 ≤ I 48 3 ∧ I 48 3 ≤ 3000 from gc_in hI R_48 rfl rfl)
    have f80 := (show 0 ≤ I 48 6 ∧ I 48 6 ≤ 9000 from gc_in hI R_48 rfl rfl)
    have f81 := (show 0 ≤ I 48 11 ∧ I 48 11 ≤ 1000000 from gc_in hI R_48 rfl rfl)
    have f82 := (show 0 ≤ I 48 12 ∧ I 48 12 ≤ 1 from gc_in hI R_48 rfl rfl)
    have f83 := (show 0 ≤ I 48 17 ∧ I 48 17 ≤ 3000 from gc_in hI R_48 rfl rfl)
    have f84 := (show 0 ≤ I 48 18 ∧ I 48 18 ≤ 24 from gc_in hI R_48 rfl rfl)
    have f85 := (show 0 ≤ I t 13 ∧ I t 13 ≤ 384 from gc_in hI R_t rfl rfl)
    have f86 := (show 0 ≤ I x 4 ∧ I x 4 ≤ 24 from gc_in hI R_x rfl rfl)
    have f87 := (show 0 ≤ I a1 4 ∧ I a1 4 ≤ 6 from gc_in hI R_a1 rfl rfl)
    have f88 := (show (-1) ≤ I 48 13 ∧ I 48 13 ≤ 999999 from gc_in hI R_48 rfl rfl)
    have f89 := (show (-1) ≤ I 48 14 ∧ I 48 14 ≤ 999999 from gc_in hI R_48 rfl rfl)
    have L183 : ∀ (n9 : Nat) (I90 : gr_I) (J91 : gr_J) (v7_92 : Int), (26 - v7_92).toNat < n9 → gc_Inv ro I90 → (∀ q j : Nat, ((q = 48 ∧ j = 3) ∨ (q = 48 ∧ j = 6) ∨ (q = 48 ∧ j = 12) ∨ q = 51 ∨ q = 52 ∨ q = 53 ∨ q = 54 ∨ q = 55 ∨ (q = 48 ∧ j = 11) ∨ q = 58 ∨ q = 59 ∨ q = 60) ∨ I90 q j = I q j) → (∀ q j : Nat, (False) ∨ J91 q j = J q j) → gc_WV t I90 → gc_FN I90 → ((0 ≤ a2 ∧ a2 ≤ 5) ∧ (0 ≤ a3 ∧ a3 ≤ 24) ∧ (0 ≤ a4 ∧ a4 ≤ 4) ∧ (0 ≤ v5_78 ∧ v5_78 ≤ 5) ∧ (0 ≤ v6_78 ∧ v6_78 ≤ 31) ∧ (1 ≤ v7_92 ∧ v7_92 ≤ 25) ∧ (v5_78 = I a1 4 - a2 - 1) ∧ (a2 < I a1 4) ∧ (a4 ≤ 3) ∧ (0 ≤ I (a1 + 1) (Int.toNat a2)) ∧ (I90 48 11 ≤ 400001) ∧ (I 48 3 ≤ I90 48 3) ∧ (I90 48 12 = 1 ∨ I90 48 11 ≤ 400000) ∧ (a3 < v7_92) ∧ (I90 48 13 = (t : Int)) ∧ (I90 48 14 = (x : Int))) → gv_X (gc_E0 ws0 tb (2 + nr) (yX0_lay, cX0_lay, 11, none) kX0_lay) (gv_Q cX0_lay none sh (fun r h' => (∃ (I' : gr_I) (J' : gr_J), h' = gc_h sh I' J' A ∧ gc_Inv ro I' ∧ (∀ q j : Nat, ((q = 48 ∧ j = 3) ∨ (q = 48 ∧ j = 6) ∨ (q = 48 ∧ j = 12) ∨ q = 51 ∨ q = 52 ∨ q = 53 ∨ q = 54 ∨ q = 55 ∨ (q = 48 ∧ j = 11) ∨ q = 58 ∨ q = 59 ∨ q = 60) ∨ I' q j = I q j) ∧ (∀ q j : Nat, (False) ∨ J' q j = J q j) ∧ gc_WV t I' ∧ gc_FN I' ∧ r = none ∧ (I' 48 12 = 1 ∨ I' 48 11 ≤ 400000) ∧ (I' 48 11 ≤ 400001) ∧ (I 48 3 ≤ I' 48 3)))) (183, [(0, .inr (.inr (some 48))), (1, .inr (.inr (some a1))), (2, .inl a2), (3, .inl a3), (4, .inl a4), (5, .inl v5_78), (6, .inl v6_78), (7, .inl v7_92)], [], sh, gc_h sh I90 J91 A) := by
      intro n9
      induction n9 with
      | zero => intro I90 J91 v7_92 hn; omega
      | succ n9 ih183 =>
        intro I90 J91 v7_92 hn hI90 FI90 FJ91 KWV_I90 KFN_I90 m_92
        clear ha2_78 ha3_78 ha4_78 hv5_78 hv6_78 hs0_78 e0_78 e1_78 e2_78 e3_78 e4_78 e5_78 e6_78 e7_78 e8_78 e9_78 e10_78 f79 f80 f81 f82 f83 f84 f85 f86 f87 f88 f89
        obtain ⟨ha2_92, ha3_92, ha4_92, hv5_78_92, hv6_78_92, hv7_92, e0_92, e1_92, e2_92, e3_92, e4_92, e5_92, e6_92, e7_92, e8_92, e9_92⟩ := m_92
        have f93 := (show 0 ≤ I90 48 3 ∧ I90 48 3 ≤ 3000 from gc_in hI90 R_48 rfl rfl)
        have f94 := (show 0 ≤ I90 48 6 ∧ I90 48 6 ≤ 9000 from gc_in hI90 R_48 rfl rfl)
        have f95 := (show 0 ≤ I90 48 11 ∧ I90 48 11 ≤ 1000000 from gc_in hI90 R_48 rfl rfl)
        have f96 := (show 0 ≤ I90 48 12 ∧ I90 48 12 ≤ 1 from gc_in hI90 R_48 rfl rfl)
        have f97 := (show 0 ≤ I90 48 17 ∧ I90 48 17 ≤ 3000 from gc_in hI90 R_48 rfl rfl)
        have f98 := (show 0 ≤ I90 48 18 ∧ I90 48 18 ≤ 24 from gc_in hI90 R_48 rfl rfl)
        have f99 := (show 0 ≤ I90 t 13 ∧ I90 t 13 ≤ 384 from gc_in hI90 R_t rfl rfl)
        have f100 := (show 0 ≤ I90 x 4 ∧ I90 x 4 ≤ 24 from gc_in hI90 R_x rfl rfl)
        have f101 := (show 0 ≤ I90 a1 4 ∧ I90 a1 4 ≤ 6 from gc_in hI90 R_a1 rfl rfl)
        have f102 := (show (-1) ≤ I90 48 13 ∧ I90 48 13 ≤ 999999 from gc_in hI90 R_48 rfl rfl)
        have f103 := (show (-1) ≤ I90 48 14 ∧ I90 48 14 ≤ 999999 from gc_in hI90 R_48 rfl rfl)
        have L223 : ∀ (n9 : Nat) (I104 : gr_I) (J105 : gr_J) (v8_106 : Int) (v9_106 : Int), (3001 - v9_106).toNat < n9 → gc_Inv ro I104 → (∀ q j : Nat, ((q = 48 ∧ j = 3) ∨ (q = 48 ∧ j = 6) ∨ (q = 48 ∧ j = 12) ∨ q = 51 ∨ q = 52 ∨ q = 53 ∨ q = 54 ∨ q = 55 ∨ (q = 48 ∧ j = 11) ∨ q = 58 ∨ q = 59 ∨ q = 60) ∨ I104 q j = I q j) → (∀ q j : Nat, (False) ∨ J105 q j = J q j) → gc_WV t I104 → gc_FN I104 → ((0 ≤ a2 ∧ a2 ≤ 5) ∧ (0 ≤ a3 ∧ a3 ≤ 24) ∧ (0 ≤ a4 ∧ a4 ≤ 4) ∧ (0 ≤ v5_78 ∧ v5_78 ≤ 5) ∧ (0 ≤ v6_78 ∧ v6_78 ≤ 31) ∧ (1 ≤ v7_92 ∧ v7_92 ≤ 24) ∧ (0 ≤ v8_106 ∧ v8_106 ≤ 18431) ∧ (0 ≤ v9_106 ∧ v9_106 ≤ 3000) ∧ (v5_78 = I a1 4 - a2 - 1) ∧ (a2 < I a1 4) ∧ (a4 ≤ 3) ∧ (0 ≤ I (a1 + 1) (Int.toNat a2)) ∧ (I104 48 11 ≤ 400001) ∧ (I 48 3 ≤ I104 48 3) ∧ (I104 48 12 = 1 ∨ I104 48 11 ≤ 400000) ∧ (a3 < v7_92) ∧ (v7_92 + v5_78 ≤ I104 48 18) ∧ (I104 48 13 = (t : Int)) ∧ (I104 48 14 = (x : Int))) → gv_X (gc_E0 ws0 tb (2 + nr) (yX0_lay, cX0_lay, 11, none) kX0_lay) (gv_Q cX0_lay none sh (fun r h' => (∃ (I' : gr_I) (J' : gr_J), h' = gc_h sh I' J' A ∧ gc_Inv ro I' ∧ (∀ q j : Nat, ((q = 48 ∧ j = 3) ∨ (q = 48 ∧ j = 6) ∨ (q = 48 ∧ j = 12) ∨ q = 51 ∨ q = 52 ∨ q = 53 ∨ q = 54 ∨ q = 55 ∨ (q = 48 ∧ j = 11) ∨ q = 58 ∨ q = 59 ∨ q = 60) ∨ I' q j = I q j) ∧ (∀ q j : Nat, (False) ∨ J' q j = J q j) ∧ gc_WV t I' ∧ gc_FN I' ∧ r = none ∧ (I' 48 12 = 1 ∨ I' 48 11 ≤ 400000) ∧ (I' 48 11 ≤ 400001) ∧ (I 48 3 ≤ I' 48 3)))) (223, [(0, .inr (.inr (some 48))), (1, .inr (.inr (some a1))), (2, .inl a2), (3, .inl a3), (4, .inl a4), (5, .inl v5_78), (6, .inl v6_78), (7, .inl v7_92), (8, .inl v8_106), (9, .inl v9_106)], [], sh, gc_h sh I104 J105 A) := by
          intro n9
          induction n9 with
          | zero => intro I104 J105 v8_106 v9_106 hn; omega
          | succ n9 ih223 =>
            intro I104 J105 v8_106 v9_106 hn hI104 FI104 FJ105 KWV_I104 KFN_I104 m_106
            clear ha2_92 ha3_92 ha4_92 hv5_78_92 hv6_78_92 hv7_92 e0_92 e1_92 e2_92 e3_92 e4_92 e5_92 e6_92 e7_92 e8_92 e9_92 f93 f94 f95 f96 f97 f98 f99 f100 f101 f102 f103
            obtain ⟨ha2_106, ha3_106, ha4_106, hv5_78_106, hv6_78_106, hv7_92_106, hv8_106, hv9_106, e0_106, e1_106, e2_106, e3_106, e4_106, e5_106, e6_106, e7_106, e8_106, e9_106, e10_106⟩ := m_106
            have f107 := (show 0 ≤ I104 48 3 ∧ I104 48 3 ≤ 3000 from gc_in hI104 R_48 rfl rfl)
            have f108 := (show 0 ≤ I104 48 6 ∧ I104 48 6 ≤ 9000 from gc_in hI104 R_48 rfl rfl)
            have f109 := (show 0 ≤ I104 48 11 ∧ I104 48 11 ≤ 1000000 from gc_in hI104 R_48 rfl rfl)
            have f110 := (show 0 ≤ I104 48 12 ∧ I104 48 12 ≤ 1 from gc_in hI104 R_48 rfl rfl)
            have f111 := (show 0 ≤ I104 48 17 ∧ I104 48 17 ≤ 3000 from gc_in hI104 R_48 rfl rfl)
            have f112 := (show 0 ≤ I104 48 18 ∧ I104 48 18 ≤ 24 from gc_in hI104 R_48 rfl rfl)
            have f113 := (show 0 ≤ I104 t 13 ∧ I104 t 13 ≤ 384 from gc_in hI104 R_t rfl rfl)
            have f114 := (show 0 ≤ I104 x 4 ∧ I104 x 4 ≤ 24 from gc_in hI104 R_x rfl rfl)
            have f115 := (show 0 ≤ I104 a1 4 ∧ I104 a1 4 ≤ 6 from gc_in hI104 R_a1 rfl rfl)
            have f116 := (show (-1) ≤ I104 48 13 ∧ I104 48 13 ≤ 999999 from gc_in hI104 R_48 rfl rfl)
            have f117 := (show (-1) ≤ I104 48 14 ∧ I104 48 14 ≤ 999999 from gc_in hI104 R_48 rfl rfl)
            have L282 : ∀ (I118 : gr_I) (J119 : gr_J) (s1_120 : Int), gc_Inv ro I118 → (∀ q j : Nat, ((q = 48 ∧ j = 3) ∨ (q = 48 ∧ j = 6) ∨ (q = 48 ∧ j = 12) ∨ q = 51 ∨ q = 52 ∨ q = 53 ∨ q = 54 ∨ q = 55 ∨ (q = 48 ∧ j = 11) ∨ q = 58 ∨ q = 59 ∨ q = 60) ∨ I118 q j = I q j) → (∀ q j : Nat, (False) ∨ J119 q j = J q j) → gc_WV t I118 → gc_FN I118 → ((0 ≤ a2 ∧ a2 ≤ 5) ∧ (0 ≤ a3 ∧ a3 ≤ 24) ∧ (0 ≤ a4 ∧ a4 ≤ 4) ∧ (0 ≤ v5_78 ∧ v5_78 ≤ 5) ∧ (0 ≤ v6_78 ∧ v6_78 ≤ 31) ∧ (1 ≤ v7_92 ∧ v7_92 ≤ 24) ∧ (0 ≤ v8_106 ∧ v8_106 ≤ 18431) ∧ (0 ≤ v9_106 ∧ v9_106 ≤ 2999) ∧ (0 ≤ s1_120 ∧ s1_120 ≤ 1) ∧ (v5_78 = I a1 4 - a2 - 1) ∧ (a2 < I a1 4) ∧ (a4 ≤ 3) ∧ (0 ≤ I (a1 + 1) (Int.toNat a2)) ∧ (I118 48 11 ≤ 400001) ∧ (I 48 3 ≤ I118 48 3) ∧ (s1_120 = 1 ∨ I118 48 11 ≤ 400000) ∧ (a3 < v7_92) ∧ (v7_92 + v5_78 ≤ I118 48 18) ∧ (v9_106 ≤ 2999) ∧ (I118 48 13 = (t : Int)) ∧ (I118 48 14 = (x : Int))) → gv_X (gc_E0 ws0 tb (2 + nr) (yX0_lay, cX0_lay, 11, none) kX0_lay) (gv_Q cX0_lay none sh (fun r h' => (∃ (I' : gr_I) (J' : gr_J), h' = gc_h sh I' J' A ∧ gc_Inv ro I' ∧ (∀ q j : Nat, ((q = 48 ∧ j = 3) ∨ (q = 48 ∧ j = 6) ∨ (q = 48 ∧ j = 12) ∨ q = 51 ∨ q = 52 ∨ q = 53 ∨ q = 54 ∨ q = 55 ∨ (q = 48 ∧ j = 11) ∨ q = 58 ∨ q = 59 ∨ q = 60) ∨ I' q j = I q j) ∧ (∀ q j : Nat, (False) ∨ J' q j = J q j) ∧ gc_WV t I' ∧ gc_FN I' ∧ r = none ∧ (I' 48 12 = 1 ∨ I' 48 11 ≤ 400000) ∧ (I' 48 11 ≤ 400001) ∧ (I 48 3 ≤ I' 48 3)))) (282, [(0, .inr (.inr (some 48))), (1, .inr (.inr (some a1))), (2, .inl a2), (3, .inl a3), (4, .inl a4), (5, .inl v5_78), (6, .inl v6_78), (7, .inl v7_92), (8, .inl v8_106), (9, .inl v9_106)], [.inl s1_120, .inr (.inr (some 48))], sh, gc_h sh I118 J119 A) := by
              intro I118 J119 s1_120 hI118 FI118 FJ119 KWV_I118 KFN_I118 m_120
              clear ha2_106 ha3_106 ha4_106 hv5_78_106 hv6_78_106 hv7_92_106 hv8_106 hv9_106 e0_106 e1_106 e2_106 e3_106 e4_106 e5_106 e6_106 e7_106 e8_106 e9_106 e10_106 f107 f108 f109 f110 f111 f112 f113 f114 f115 f116 f117
              obtain ⟨ha2_120, ha3_120, ha4_120, hv5_78_120, hv6_78_120, hv7_92_120, hv8_106_120, hv9_106_120, hs1_120, e0_120, e1_120, e2_120, e3_120, e4_120, e5_120, e6_120, e7_120, e8_120, e9_120, e10_120, e11_120⟩ := m_120
              have f121 := (show 0 ≤ I118 48 3 ∧ I118 48 3 ≤ 3000 from gc_in hI118 R_48 rfl rfl)
              have f122 := (show 0 ≤ I118 48 6 ∧ I118 48 6 ≤ 9000 from gc_in hI118 R_48 rfl rfl)
              have f123 := (show 0 ≤ I118 48 11 ∧ I118 48 11 ≤ 1000000 from gc_in hI118 R_48 rfl rfl)
              have f124 := (show 0 ≤ I118 48 12 ∧ I118 48 12 ≤ 1 from gc_in hI118 R_48 rfl rfl)
              have f125 := (show 0 ≤ I118 48 17 ∧ I118 48 17 ≤ 3000 from gc_in hI118 R_48 rfl rfl)
              have f126 := (show 0 ≤ I118 48 18 ∧ I118 48 18 ≤ 24 from gc_in hI118 R_48 rfl rfl)
              have f127 := (show 0 ≤ I118 t 13 ∧ I118 t 13 ≤ 384 from gc_in hI118 R_t rfl rfl)
              have f128 := (show 0 ≤ I118 x 4 ∧ I118 x 4 ≤ 24 from gc_in hI118 R_x rfl rfl)
              have f129 := (show 0 ≤ I118 a1 4 ∧ I118 a1 4 ≤ 6 from gc_in hI118 R_a1 rfl rfl)
              have f130 := (show (-1) ≤ I118 48 13 ∧ I118 48 13 ≤ 999999 from gc_in hI118 R_48 rfl rfl)
              have f131 := (show (-1) ≤ I118 48 14 ∧ I118 48 14 ≤ 999999 from gc_in hI118 R_48 rfl rfl)
              have L348 : ∀ (I132 : gr_I) (J133 : gr_J) , gc_Inv ro I132 → (∀ q j : Nat, ((q = 48 ∧ j = 3) ∨ (q = 48 ∧ j = 6) ∨ (q = 48 ∧ j = 12) ∨ q = 51 ∨ q = 52 ∨ q = 53 ∨ q = 54 ∨ q = 55 ∨ (q = 48 ∧ j = 11) ∨ q = 58 ∨ q = 59 ∨ q = 60) ∨ I132 q j = I q j) → (∀ q j : Nat, (False) ∨ J133 q j = J q j) → gc_WV t I132 → gc_FN I132 → ((0 ≤ a2 ∧ a2 ≤ 5) ∧ (0 ≤ a3 ∧ a3 ≤ 24) ∧ (0 ≤ a4 ∧ a4 ≤ 4) ∧ (0 ≤ v5_78 ∧ v5_78 ≤ 5) ∧ (0 ≤ v6_78 ∧ v6_78 ≤ 31) ∧ (1 ≤ v7_92 ∧ v7_92 ≤ 24) ∧ (0 ≤ v8_106 ∧ v8_106 ≤ 18431) ∧ (0 ≤ v9_106 ∧ v9_106 ≤ 2999) ∧ (v5_78 = I a1 4 - a2 - 1) ∧ (a2 < I a1 4) ∧ (a4 ≤ 3) ∧ (0 ≤ I (a1 + 1) (Int.toNat a2)) ∧ (I132 48 11 ≤ 400001) ∧ (I 48 3 ≤ I132 48 3) ∧ (I132 48 12 = 1 ∨ I132 48 11 ≤ 400000) ∧ (a3 < v7_92) ∧ (v7_92 + v5_78 ≤ I132 48 18) ∧ (v9_106 ≤ 2999) ∧ (I132 48 13 = (t : Int)) ∧ (I132 48 14 = (x : Int))) → gv_X (gc_E0 ws0 tb (2 + nr) (yX0_lay, cX0_lay, 11, none) kX0_lay) (gv_Q cX0_lay none sh (fun r h' => (∃ (I' : gr_I) (J' : gr_J), h' = gc_h sh I' J' A ∧ gc_Inv ro I' ∧ (∀ q j : Nat, ((q = 48 ∧ j = 3) ∨ (q = 48 ∧ j = 6) ∨ (q = 48 ∧ j = 12) ∨ q = 51 ∨ q = 52 ∨ q = 53 ∨ q = 54 ∨ q = 55 ∨ (q = 48 ∧ j = 11) ∨ q = 58 ∨ q = 59 ∨ q = 60) ∨ I' q j = I q j) ∧ (∀ q j : Nat, (False) ∨ J' q j = J q j) ∧ gc_WV t I' ∧ gc_FN I' ∧ r = none ∧ (I' 48 12 = 1 ∨ I' 48 11 ≤ 400000) ∧ (I' 48 11 ≤ 400001) ∧ (I 48 3 ≤ I' 48 3)))) (348, [(0, .inr (.inr (some 48))), (1, .inr (.inr (some a1))), (2, .inl a2), (3, .inl a3), (4, .inl a4), (5, .inl v5_78), (6, .inl v6_78), (7, .inl v7_92), (8, .inl v8_106), (9, .inl v9_106)], [], sh, gc_h sh I132 J133 A) := by
                intro I132 J133 hI132 FI132 FJ133 KWV_I132 KFN_I132 m_134
                clear ha2_120 ha3_120 ha4_120 hv5_78_120 hv6_78_120 hv7_92_120 hv8_106_120 hv9_106_120 hs1_120 e0_120 e1_120 e2_120 e3_120 e4_120 e5_120 e6_120 e7_120 e8_120 e9_120 e10_120 e11_120 f121 f122 f123 f124 f125 f126 f127 f128 f129 f130 f131
                obtain ⟨ha2_134, ha3_134, ha4_134, hv5_78_134, hv6_78_134, hv7_92_134, hv8_106_134, hv9_106_134, e0_134, e1_134, e2_134, e3_134, e4_134, e5_134, e6_134, e7_134, e8_134, e9_134, e10_134, e11_134⟩ := m_134
                have f135 := (show 0 ≤ I132 48 3 ∧ I132 48 3 ≤ 3000 from gc_in hI132 R_48 rfl rfl)
                have f136 := (show 0 ≤ I132 48 6 ∧ I132 48 6 ≤ 9000 from gc_in hI132 R_48 rfl rfl)
                have f137 := (show 0 ≤ I132 48 11 ∧ I132 48 11 ≤ 1000000 from gc_in hI132 R_48 rfl rfl)
                have f138 := (show 0 ≤ I132 48 12 ∧ I132 48 12 ≤ 1 from gc_in hI132 R_48 rfl rfl)
                have f139 := (show 0 ≤ I132 48 17 ∧ I132 48 17 ≤ 3000 from gc_in hI132 R_48 rfl rfl)
                have f140 := (show 0 ≤ I132 48 18 ∧ I132 48 18 ≤ 24 from gc_in hI132 R_48 rfl rfl)
                have f141 := (show 0 ≤ I132 t 13 ∧ I132 t 13 ≤ 384 from gc_in hI132 R_t rfl rfl)
                have f142 := (show 0 ≤ I132 x 4 ∧ I132 x 4 ≤ 24 from gc_in hI132 R_x rfl rfl)
                have f143 := (show 0 ≤ I132 a1 4 ∧ I132 a1 4 ≤ 6 from gc_in hI132 R_a1 rfl rfl)
                have f144 := (show (-1) ≤ I132 48 13 ∧ I132 48 13 ≤ 999999 from gc_in hI132 R_48 rfl rfl)
                have f145 := (show (-1) ≤ I132 48 14 ∧ I132 48 14 ≤ 999999 from gc_in hI132 R_48 rfl rfl)
                refine gv_run 2 true hD (pc' := 223) (lv' := [(9, .inl (v9_106 + 1)), (0, .inr (.inr (some 48))), (1, .inr (.inr (some a1))), (2, .inl a2), (3, .inl a3), (4, .inl a4), (5, .inl v5_78), (6, .inl v6_78), (7, .inl v7_92), (8, .inl v8_106)]) (st' := []) (h' := gc_h sh I132 J133 A) (C := ((True ∧ True) ∧ True)) rfl ⟨⟨trivial, trivial⟩, trivial⟩ ?_
                refine gv_pick [1, 2, 3, 4, 5, 6, 7, 8, 9, 0] rfl ?_
                exact ih223 I132 J133 v8_106 (v9_106 + 1) (by omega) hI132 FI132 FJ133 KWV_I132 KFN_I132 (by omega)
              refine gv_put hD rfl rfl S_48 ⟨by decide, B_48⟩ rfl (by omega) ?_
              refine gc_st (k := 12) hI118 S_48 rfl R_48 (lo := 0) (hi := 1) rfl rfl (by omega) (by omega) (fun I146 hI146 q147 p147 => ?_)
              have FI146 := gc_frs (W := fun q j => (q = 48 ∧ j = 3) ∨ (q = 48 ∧ j = 6) ∨ (q = 48 ∧ j = 12) ∨ q = 51 ∨ q = 52 ∨ q = 53 ∨ q = 54 ∨ q = 55 ∨ (q = 48 ∧ j = 11) ∨ q = 58 ∨ q = 59 ∨ q = 60) FI118 (Or.inr (Or.inr (Or.inl ⟨rfl, rfl⟩))) p147
              have t148 := p147 48 3 (fun h => absurd h.2 (by decide))
              have t149 := p147 48 6 (fun h => absurd h.2 (by decide))
              have t150 := p147 48 11 (fun h => absurd h.2 (by decide))
              have t151 := p147 48 17 (fun h => absurd h.2 (by decide))
              have t152 := p147 48 18 (fun h => absurd h.2 (by decide))
              have t153 := p147 t 13 (fun h => absurd h.1 (by omega))
              have t154 := p147 x 4 (fun h => absurd h.1 (by omega))
              have t155 := p147 a1 4 (fun h => absurd h.1 (by omega))
              have t156 := p147 48 13 (fun h => absurd h.2 (by decide))
              have t157 := p147 48 14 (fun h => absurd h.2 (by decide))
              have f158 := (show 0 ≤ I146 48 3 ∧ I146 48 3 ≤ 3000 from gc_in hI146 R_48 rfl rfl)
              have f159 := (show 0 ≤ I146 48 6 ∧ I146 48 6 ≤ 9000 from gc_in hI146 R_48 rfl rfl)
              have f160 := (show 0 ≤ I146 48 11 ∧ I146 48 11 ≤ 1000000 from gc_in hI146 R_48 rfl rfl)
              have f161 := (show 0 ≤ I146 48 12 ∧ I146 48 12 ≤ 1 from gc_in hI146 R_48 rfl rfl)
              have f162 := (show 0 ≤ I146 48 17 ∧ I146 48 17 ≤ 3000 from gc_in hI146 R_48 rfl rfl)
              have f163 := (show 0 ≤ I146 48 18 ∧ I146 48 18 ≤ 24 from gc_in hI146 R_48 rfl rfl)
              have f164 := (show 0 ≤ I146 t 13 ∧ I146 t 13 ≤ 384 from gc_in hI146 R_t rfl rfl)
              have f165 := (show 0 ≤ I146 x 4 ∧ I146 x 4 ≤ 24 from gc_in hI146 R_x rfl rfl)
              have f166 := (show 0 ≤ I146 a1 4 ∧ I146 a1 4 ≤ 6 from gc_in hI146 R_a1 rfl rfl)
              have f167 := (show (-1) ≤ I146 48 13 ∧ I146 48 13 ≤ 999999 from gc_in hI146 R_48 rfl rfl)
              have f168 := (show (-1) ≤ I146 48 14 ∧ I146 48 14 ≤ 999999 from gc_in hI146 R_48 rfl rfl)
              have KWV_I146 := gc_WV_fr KWV_I118 (p147 48 6 (fun h => absurd h.2 (by decide))) (p147 t 13 (fun h => absurd h.1 (by omega))) (fun k => p147 54 k (fun h => absurd h.1 (by omega)))
              have KFN_I146 := gc_FN_fr KFN_I118 (fun k => p147 49 k (fun h => absurd h.1 (by omega))) (fun k => p147 50 k (fun h => absurd h.1 (by omega)))
              show gv_X _ _ (285, [(0, .inr (.inr (some 48))), (1, .inr (.inr (some a1))), (2, .inl a2), (3, .inl a3), (4, .inl a4), (5, .inl v5_78), (6, .inl v6_78), (7, .inl v7_92), (8, .inl v8_106), (9, .inl v9_106)], [], sh, gc_h sh I146 J119 A)
              refine gv_run 1 true hD (pc' := 286) (lv' := [(0, .inr (.inr (some 48))), (1, .inr (.inr (some a1))), (2, .inl a2), (3, .inl a3), (4, .inl a4), (5, .inl v5_78), (6, .inl v6_78), (7, .inl v7_92), (8, .inl v8_106), (9, .inl v9_106)]) (st' := [.inr (.inr (some 48))]) (h' := gc_h sh I146 J119 A) (C := (True ∧ True)) rfl ⟨trivial, trivial⟩ ?_
              refine gv_get hD rfl rfl S_48 ⟨by decide, B_48⟩ (gc_hA S_48 rfl A_48_5) ?_
              show gv_X _ _ (289, [(0, .inr (.inr (some 48))), (1, .inr (.inr (some a1))), (2, .inl a2), (3, .inl a3), (4, .inl a4), (5, .inl v5_78), (6, .inl v6_78), (7, .inl v7_92), (8, .inl v8_106), (9, .inl v9_106)], [.inr (.inr (some 52))], sh, gc_h sh I146 J119 A)
              refine gv_run 1 true hD (pc' := 291) (lv' := [(0, .inr (.inr (some 48))), (1, .inr (.inr (some a1))), (2, .inl a2), (3, .inl a3), (4, .inl a4), (5, .inl v5_78), (6, .inl v6_78), (7, .inl v7_92), (8, .inl v8_106), (9, .inl v9_106)]) (st' := [.inl v9_106, .inr (.inr (some 52))]) (h' := gc_h sh I146 J119 A) (C := (True ∧ True)) rfl ⟨trivial, trivial⟩ ?_
              have f169 := (show 0 ≤ I146 52 (Int.toNat v9_106) ∧ I146 52 (Int.toNat v9_106) ≤ 16777215 from gc_in hI146 R_52 rfl rfl)
              refine gv_iald hD rfl S_52 rfl ⟨by decide, B_52⟩ ⟨by omega, by omega⟩ (gc_iI S_52 rfl) ?_
              show gv_X _ _ (292, [(0, .inr (.inr (some 48))), (1, .inr (.inr (some a1))), (2, .inl a2), (3, .inl a3), (4, .inl a4), (5, .inl v5_78), (6, .inl v6_78), (7, .inl v7_92), (8, .inl v8_106), (9, .inl v9_106)], [.inl (I146 52 (Int.toNat v9_106))], sh, gc_h sh I146 J119 A)
              refine gv_run 1 true hD (pc' := 293) (lv' := [(0, .inr (.inr (some 48))), (1, .inr (.inr (some a1))), (2, .inl a2), (3, .inl a3), (4, .inl a4), (5, .inl v5_78), (6, .inl v6_78), (7, .inl v7_92), (8, .inl v8_106), (9, .inl v9_106)]) (st' := [.inr (.inr (some a1)), .inl (I146 52 (Int.toNat v9_106))]) (h' := gc_h sh I146 J119 A) (C := (True ∧ True)) rfl ⟨trivial, trivial⟩ ?_
              refine gv_get hD rfl rfl S_a1 ⟨by decide, B_a1⟩ (gc_hA S_a1 rfl A_a1_10) ?_
              show gv_X _ _ (296, [(0, .inr (.inr (some 48))), (1, .inr (.inr (some a1))), (2, .inl a2), (3, .inl a3), (4, .inl a4), (5, .inl v5_78), (6, .inl v6_78), (7, .inl v7_92), (8, .inl v8_106), (9, .inl v9_106)], [.inr (.inr (some (a1 + 5))), .inl (I146 52 (Int.toNat v9_106))], sh, gc_h sh I146 J119 A)
              refine gv_run 1 true hD (pc' := 298) (lv' := [(0, .inr (.inr (some 48))), (1, .inr (.inr (some a1))), (2, .inl a2), (3, .inl a3), (4, .inl a4), (5, .inl v5_78), (6, .inl v6_78), (7, .inl v7_92), (8, .inl v8_106), (9, .inl v9_106)]) (st' := [.inl a4, .inr (.inr (some (a1 + 5))), .inl (I146 52 (Int.toNat v9_106))]) (h' := gc_h sh I146 J119 A) (C := (True ∧ True)) rfl ⟨trivial, trivial⟩ ?_
              have f170 := (show 0 ≤ I146 (a1 + 5) (Int.toNat a4) ∧ I146 (a1 + 5) (Int.toNat a4) ≤ 16777215 from gc_in hI146 R_a1_5 rfl rfl)
              refine gv_iald hD rfl S_a1_5 rfl ⟨by decide, B_a1_5⟩ ⟨by omega, by omega⟩ (gc_iI S_a1_5 rfl) ?_
              show gv_X _ _ (299, [(0, .inr (.inr (some 48))), (1, .inr (.inr (some a1))), (2, .inl a2), (3, .inl a3), (4, .inl a4), (5, .inl v5_78), (6, .inl v6_78), (7, .inl v7_92), (8, .inl v8_106), (9, .inl v9_106)], [.inl (I146 (a1 + 5) (Int.toNat a4)), .inl (I146 52 (Int.toNat v9_106))], sh, gc_h sh I146 J119 A)
              obtain ⟨r171, h171, E171, P171⟩ := d_X3_fit (ws0 := ws0) (tb := tb) hws htb sh ro I146 J119 A hI146  ((I146 52 (Int.toNat v9_106))) ((I146 (a1 + 5) (Int.toNat a4)))    ⟨by omega, by omega⟩ ⟨by omega, by omega⟩  
              obtain ⟨rfl, ⟨z171, rfl, q171⟩⟩ := P171
              refine gv_callS hD rfl (As := [.inl (I146 52 (Int.toNat v9_106)), .inl (I146 (a1 + 5) (Int.toNat a4))]) (st := []) rfl (gc_lS0 hws rfl) (Nat.le_of_ble_eq_true rfl) (gz_Ev_mono (d := 1) (by omega) E171) ?_
              show gv_X _ _ (302, [(0, .inr (.inr (some 48))), (1, .inr (.inr (some a1))), (2, .inl a2), (3, .inl a3), (4, .inl a4), (5, .inl v5_78), (6, .inl v6_78), (7, .inl v7_92), (8, .inl v8_106), (9, .inl v9_106)], [.inl z171], sh, gc_h sh I146 J119 A)
              refine gv_run 2 true hD (pc' := 306) (lv' := [(10, .inl z171), (0, .inr (.inr (some 48))), (1, .inr (.inr (some a1))), (2, .inl a2), (3, .inl a3), (4, .inl a4), (5, .inl v5_78), (6, .inl v6_78), (7, .inl v7_92), (8, .inl v8_106), (9, .inl v9_106)]) (st' := [.inl z171]) (h' := gc_h sh I146 J119 A) (C := ((True ∧ True) ∧ True)) rfl ⟨⟨trivial, trivial⟩, trivial⟩ ?_
              refine gv_if_lt (t := 348) hD rfl rfl ⟨by omega, by omega⟩ (fun c172 => ?_) (fun c172 => ?_)
              · show gv_X _ _ (348, [(10, .inl z171), (0, .inr (.inr (some 48))), (1, .inr (.inr (some a1))), (2, .inl a2), (3, .inl a3), (4, .inl a4), (5, .inl v5_78), (6, .inl v6_78), (7, .inl v7_92), (8, .inl v8_106), (9, .inl v9_106)], [], sh, gc_h sh I146 J119 A)
                refine gv_pick [1, 2, 3, 4, 5, 6, 7, 8, 9, 10] rfl ?_
                exact L348 I146 J119 hI146 FI146 FJ119 KWV_I146 KFN_I146 (by omega)
              · show gv_X _ _ (309, [(10, .inl z171), (0, .inr (.inr (some 48))), (1, .inr (.inr (some a1))), (2, .inl a2), (3, .inl a3), (4, .inl a4), (5, .inl v5_78), (6, .inl v6_78), (7, .inl v7_92), (8, .inl v8_106), (9, .inl v9_106)], [], sh, gc_h sh I146 J119 A)
                refine gv_run 1 true hD (pc' := 310) (lv' := [(10, .inl z171), (0, .inr (.inr (some 48))), (1, .inr (.inr (some a1))), (2, .inl a2), (3, .inl a3), (4, .inl a4), (5, .inl v5_78), (6, .inl v6_78), (7, .inl v7_92), (8, .inl v8_106), (9, .inl v9_106)]) (st' := [.inr (.inr (some 48))]) (h' := gc_h sh I146 J119 A) (C := (True ∧ True)) rfl ⟨trivial, trivial⟩ ?_
                have f173 := (show 0 ≤ I146 48 12 ∧ I146 48 12 ≤ 1 from gc_in hI146 R_48 rfl rfl)
                refine gv_get hD rfl rfl S_48 ⟨by decide, B_48⟩ (gc_hI S_48 rfl) ?_
                show gv_X _ _ (313, [(10, .inl z171), (0, .inr (.inr (some 48))), (1, .inr (.inr (some a1))), (2, .inl a2), (3, .inl a3), (4, .inl a4), (5, .inl v5_78), (6, .inl v6_78), (7, .inl v7_92), (8, .inl v8_106), (9, .inl v9_106)], [.inl (I146 48 12)], sh, gc_h sh I146 J119 A)
                refine gv_if_ne (t := 348) hD rfl rfl ⟨by omega, by omega⟩ (fun c174 => ?_) (fun c174 => ?_)
                · show gv_X _ _ (348, [(10, .inl z171), (0, .inr (.inr (some 48))), (1, .inr (.inr (some a1))), (2, .inl a2), (3, .inl a3), (4, .inl a4), (5, .inl v5_78), (6, .inl v6_78), (7, .inl v7_92), (8, .inl v8_106), (9, .inl v9_106)], [], sh, gc_h sh I146 J119 A)
                  refine gv_pick [1, 2, 3, 4, 5, 6, 7, 8, 9, 10] rfl ?_
                  exact L348 I146 J119 hI146 FI146 FJ119 KWV_I146 KFN_I146 (by omega)
                · show gv_X _ _ (316, [(10, .inl z171), (0, .inr (.inr (some 48))), (1, .inr (.inr (some a1))), (2, .inl a2), (3, .inl a3), (4, .inl a4), (5, .inl v5_78), (6, .inl v6_78), (7, .inl v7_92), (8, .inl v8_106), (9, .inl v9_106)], [], sh, gc_h sh I146 J119 A)
                  refine gv_run 1 true hD (pc' := 317) (lv' := [(10, .inl z171), (0, .inr (.inr (some 48))), (1, .inr (.inr (some a1))), (2, .inl a2), (3, .inl a3), (4, .inl a4), (5, .inl v5_78), (6, .inl v6_78), (7, .inl v7_92), (8, .inl v8_106), (9, .inl v9_106)]) (st' := [.inr (.inr (some 48))]) (h' := gc_h sh I146 J119 A) (C := (True ∧ True)) rfl ⟨trivial, trivial⟩ ?_
                  refine gv_get hD rfl rfl S_48 ⟨by decide, B_48⟩ (gc_hA S_48 rfl A_48_19) ?_
                  show gv_X _ _ (320, [(10, .inl z171), (0, .inr (.inr (some 48))), (1, .inr (.inr (some a1))), (2, .inl a2), (3, .inl a3), (4, .inl a4), (5, .inl v5_78), (6, .inl v6_78), (7, .inl v7_92), (8, .inl v8_106), (9, .inl v9_106)], [.inr (.inr (some 58))], sh, gc_h sh I146 J119 A)
                  refine gv_run 2 true hD (pc' := 324) (lv' := [(10, .inl z171), (0, .inr (.inr (some 48))), (1, .inr (.inr (some a1))), (2, .inl a2), (3, .inl a3), (4, .inl a4), (5, .inl v5_78), (6, .inl v6_78), (7, .inl v7_92), (8, .inl v8_106), (9, .inl v9_106)]) (st' := [.inl v9_106, .inl a4, .inr (.inr (some 58))]) (h' := gc_h sh I146 J119 A) (C := ((True ∧ True) ∧ True)) rfl ⟨⟨trivial, trivial⟩, trivial⟩ ?_
                  refine gv_iast hD rfl S_58 ⟨by decide, B_58⟩ ⟨by omega, by omega⟩ ?_
                  refine gc_st hI146 S_58 rfl R_58 (lo := 0) (hi := 2999) rfl rfl (by omega) (by omega) (fun I175 hI175 q176 p176 => ?_)
                  have FI175 := gc_frs (W := fun q j => (q = 48 ∧ j = 3) ∨ (q = 48 ∧ j = 6) ∨ (q = 48 ∧ j = 12) ∨ q = 51 ∨ q = 52 ∨ q = 53 ∨ q = 54 ∨ q = 55 ∨ (q = 48 ∧ j = 11) ∨ q = 58 ∨ q = 59 ∨ q = 60) FI146 (Or.inr (Or.inr (Or.inr (Or.inr (Or.inr (Or.inr (Or.inr (Or.inr (Or.inr (Or.inl rfl)))))))))) p176
                  have t177 := p176 48 3 (fun h => absurd h.1 (by omega))
                  have t178 := p176 48 6 (fun h => absurd h.1 (by omega))
                  have t179 := p176 48 11 (fun h => absurd h.1 (by omega))
                  have t180 := p176 48 12 (fun h => absurd h.1 (by omega))
                  have t181 := p176 48 17 (fun h => absurd h.1 (by omega))
                  have t182 := p176 48 18 (fun h => absurd h.1 (by omega))
                  have t183 := p176 t 13 (fun h => absurd h.1 (by omega))
                  have t184 := p176 x 4 (fun h => absurd h.1 (by omega))
                  have t185 := p176 a1 4 (fun h => absurd h.1 (by omega))
                  have t186 := p176 48 13 (fun h => absurd h.1 (by omega))
                  have t187 := p176 48 14 (fun h => absurd h.1 (by omega))
                  have f188 := (show 0 ≤ I175 48 3 ∧ I175 48 3 ≤ 3000 from gc_in hI175 R_48 rfl rfl)
                  have f189 := (show 0 ≤ I175 48 6 ∧ I175 48 6 ≤ 9000 from gc_in hI175 R_48 rfl rfl)
                  have f190 := (show 0 ≤ I175 48 11 ∧ I175 48 11 ≤ 1000000 from gc_in hI175 R_48 rfl rfl)
                  have f191 := (show 0 ≤ I175 48 12 ∧ I175 48 12 ≤ 1 from gc_in hI175 R_48 rfl rfl)
                  have f192 := (show 0 ≤ I175 48 17 ∧ I175 48 17 ≤ 3000 from gc_in hI175 R_48 rfl rfl)
                  have f193 := (show 0 ≤ I175 48 18 ∧ I175 48 18 ≤ 24 from gc_in hI175 R_48 rfl rfl)
                  have f194 := (show 0 ≤ I175 t 13 ∧ I175 t 13 ≤ 384 from gc_in hI175 R_t rfl rfl)
                  have f195 := (show 0 ≤ I175 x 4 ∧ I175 x 4 ≤ 24 from gc_in hI175 R_x rfl rfl)
                  have f196 := (show 0 ≤ I175 a1 4 ∧ I175 a1 4 ≤ 6 from gc_in hI175 R_a1 rfl rfl)
                  have f197 := (show (-1) ≤ I175 48 13 ∧ I175 48 13 ≤ 999999 from gc_in hI175 R_48 rfl rfl)
                  have f198 := (show (-1) ≤ I175 48 14 ∧ I175 48 14 ≤ 999999 from gc_in hI175 R_48 rfl rfl)
                  have KWV_I175 := gc_WV_fr KWV_I146 (p176 48 6 (fun h => absurd h.1 (by omega))) (p176 t 13 (fun h => absurd h.1 (by omega))) (fun k => p176 54 k (fun h => absurd h.1 (by omega)))
                  have KFN_I175 := gc_FN_fr KFN_I146 (fun k => p176 49 k (fun h => absurd h.1 (by omega))) (fun k => p176 50 k (fun h => absurd h.1 (by omega)))
                  show gv_X _ _ (325, [(10, .inl z171), (0, .inr (.inr (some 48))), (1, .inr (.inr (some a1))), (2, .inl a2), (3, .inl a3), (4, .inl a4), (5, .inl v5_78), (6, .inl v6_78), (7, .inl v7_92), (8, .inl v8_106), (9, .inl v9_106)], [], sh, gc_h sh I175 J119 A)
                  refine gv_run 1 true hD (pc' := 326) (lv' := [(10, .inl z171), (0, .inr (.inr (some 48))), (1, .inr (.inr (some a1))), (2, .inl a2), (3, .inl a3), (4, .inl a4), (5, .inl v5_78), (6, .inl v6_78), (7, .inl v7_92), (8, .inl v8_106), (9, .inl v9_106)]) (st' := [.inr (.inr (some 48))]) (h' := gc_h sh I175 J119 A) (C := (True ∧ True)) rfl ⟨trivial, trivial⟩ ?_
                  refine gv_get hD rfl rfl S_48 ⟨by decide, B_48⟩ (gc_hA S_48 rfl A_48_20) ?_
                  show gv_X _ _ (329, [(10, .inl z171), (0, .inr (.inr (some 48))), (1, .inr (.inr (some a1))), (2, .inl a2), (3, .inl a3), (4, .inl a4), (5, .inl v5_78), (6, .inl v6_78), (7, .inl v7_92), (8, .inl v8_106), (9, .inl v9_106)], [.inr (.inr (some 59))], sh, gc_h sh I175 J119 A)
                  refine gv_run 2 true hD (pc' := 333) (lv' := [(10, .inl z171), (0, .inr (.inr (some 48))), (1, .inr (.inr (some a1))), (2, .inl a2), (3, .inl a3), (4, .inl a4), (5, .inl v5_78), (6, .inl v6_78), (7, .inl v7_92), (8, .inl v8_106), (9, .inl v9_106)]) (st' := [.inl z171, .inl a4, .inr (.inr (some 59))]) (h' := gc_h sh I175 J119 A) (C := ((True ∧ True) ∧ True)) rfl ⟨⟨trivial, trivial⟩, trivial⟩ ?_
                  refine gv_iast hD rfl S_59 ⟨by decide, B_59⟩ ⟨by omega, by omega⟩ ?_
                  refine gc_st hI175 S_59 rfl R_59 (lo := 0) (hi := 16777215) rfl rfl (by omega) (by omega) (fun I199 hI199 q200 p200 => ?_)
                  have FI199 := gc_frs (W := fun q j => (q = 48 ∧ j = 3) ∨ (q = 48 ∧ j = 6) ∨ (q = 48 ∧ j = 12) ∨ q = 51 ∨ q = 52 ∨ q = 53 ∨ q = 54 ∨ q = 55 ∨ (q = 48 ∧ j = 11) ∨ q = 58 ∨ q = 59 ∨ q = 60) FI175 (Or.inr (Or.inr (Or.inr (Or.inr (Or.inr (Or.inr (Or.inr (Or.inr (Or.inr (Or.inr (Or.inl rfl))))))))))) p200
                  have t201 := p200 48 3 (fun h => absurd h.1 (by omega))
                  have t202 := p200 48 6 (fun h => absurd h.1 (by omega))
                  have t203 := p200 48 11 (fun h => absurd h.1 (by omega))
                  have t204 := p200 48 12 (fun h => absurd h.1 (by omega))
                  have t205 := p200 48 17 (fun h => absurd h.1 (by omega))
                  have t206 := p200 48 18 (fun h => absurd h.1 (by omega))
                  have t207 := p200 t 13 (fun h => absurd h.1 (by omega))
                  have t208 := p200 x 4 (fun h => absurd h.1 (by omega))
                  have t209 := p200 a1 4 (fun h => absurd h.1 (by omega))
                  have t210 := p200 48 13 (fun h => absurd h.1 (by omega))
                  have t211 := p200 48 14 (fun h => absurd h.1 (by omega))
                  have f212 := (show 0 ≤ I199 48 3 ∧ I199 48 3 ≤ 3000 from gc_in hI199 R_48 rfl rfl)
                  have f213 := (show 0 ≤ I199 48 6 ∧ I199 48 6 ≤ 9000 from gc_in hI199 R_48 rfl rfl)
                  have f214 := (show 0 ≤ I199 48 11 ∧ I199 48 11 ≤ 1000000 from gc_in hI199 R_48 rfl rfl)
                  have f215 := (show 0 ≤ I199 48 12 ∧ I199 48 12 ≤ 1 from gc_in hI199 R_48 rfl rfl)
                  have f216 := (show 0 ≤ I199 48 17 ∧ I199 48 17 ≤ 3000 from gc_in hI199 R_48 rfl rfl)
                  have f217 := (show 0 ≤ I199 48 18 ∧ I199 48 18 ≤ 24 from gc_in hI199 R_48 rfl rfl)
                  have f218 := (show 0 ≤ I199 t 13 ∧ I199 t 13 ≤ 384 from gc_in hI199 R_t rfl rfl)
                  have f219 := (show 0 ≤ I199 x 4 ∧ I199 x 4 ≤ 24 from gc_in hI199 R_x rfl rfl)
                  have f220 := (show 0 ≤ I199 a1 4 ∧ I199 a1 4 ≤ 6 from gc_in hI199 R_a1 rfl rfl)
                  have f221 := (show (-1) ≤ I199 48 13 ∧ I199 48 13 ≤ 999999 from gc_in hI199 R_48 rfl rfl)
                  have f222 := (show (-1) ≤ I199 48 14 ∧ I199 48 14 ≤ 999999 from gc_in hI199 R_48 rfl rfl)
                  have KWV_I199 := gc_WV_fr KWV_I175 (p200 48 6 (fun h => absurd h.1 (by omega))) (p200 t 13 (fun h => absurd h.1 (by omega))) (fun k => p200 54 k (fun h => absurd h.1 (by omega)))
                  have KFN_I199 := gc_FN_fr KFN_I175 (fun k => p200 49 k (fun h => absurd h.1 (by omega))) (fun k => p200 50 k (fun h => absurd h.1 (by omega)))
                  show gv_X _ _ (334, [(10, .inl z171), (0, .inr (.inr (some 48))), (1, .inr (.inr (some a1))), (2, .inl a2), (3, .inl a3), (4, .inl a4), (5, .inl v5_78), (6, .inl v6_78), (7, .inl v7_92), (8, .inl v8_106), (9, .inl v9_106)], [], sh, gc_h sh I199 J119 A)
                  refine gv_run 7 true hD (pc' := 343) (lv' := [(10, .inl z171), (0, .inr (.inr (some 48))), (1, .inr (.inr (some a1))), (2, .inl a2), (3, .inl a3), (4, .inl a4), (5, .inl v5_78), (6, .inl v6_78), (7, .inl v7_92), (8, .inl v8_106), (9, .inl v9_106)]) (st' := [.inl a4, .inl v7_92, .inl (a2 + 1), .inr (.inr (some a1)), .inr (.inr (some 48))]) (h' := gc_h sh I199 J119 A) (C := (((((((True ∧ True) ∧ True) ∧ True) ∧ True) ∧ True) ∧ True) ∧ True)) rfl ⟨⟨⟨⟨⟨⟨⟨trivial, trivial⟩, trivial⟩, trivial⟩, trivial⟩, trivial⟩, trivial⟩, trivial⟩ ?_
                  refine gv_run 2 true hD (pc' := 345) (lv' := [(10, .inl z171), (0, .inr (.inr (some 48))), (1, .inr (.inr (some a1))), (2, .inl a2), (3, .inl a3), (4, .inl a4), (5, .inl v5_78), (6, .inl v6_78), (7, .inl v7_92), (8, .inl v8_106), (9, .inl v9_106)]) (st' := [.inl (a4 + 1), .inl v7_92, .inl (a2 + 1), .inr (.inr (some a1)), .inr (.inr (some 48))]) (h' := gc_h sh I199 J119 A) (C := ((True ∧ True) ∧ True)) rfl ⟨⟨trivial, trivial⟩, trivial⟩ ?_
                  obtain ⟨r223, h223, E223, P223⟩ := ihR I199 J119 hI199 (a2 + 1) v7_92 (a4 + 1) ⟨by omega, by omega⟩ ⟨by omega, by omega⟩ ⟨by omega, by omega⟩ (by omega) (by rw [show I199 (a1 + 1) = I (a1 + 1) from funext (fun k => (FI199 (a1 + 1) k).resolve_left (by omega)), show Int.toNat (a2 + 1) = Int.toNat a2 + 1 from by omega, gc_ac_nx1 (by omega)]; omega) (gc_lv_fr x2 ((FI199 a1 8).resolve_left (by omega)) ((FI199 a1 4).resolve_left (by omega)) (fun k => (FI199 (a1 + 1) k).resolve_left (by omega))) (by omega) (by omega) (by omega) (gc_SP_fr x6 ((FI199 x 4).resolve_left (by omega)) (fun k => (FI199 (x + 2) k).resolve_left (by omega)) (fun k => (FI199 (x + 3) k).resolve_left (by omega))) (by omega) (by omega) (by omega) (by omega) (by omega) KWV_I199 KFN_I199 (by omega)
                  obtain ⟨I224, J225, rfl, hI224, g223, k223, KWV_I224, KFN_I224, ⟨rfl, q223⟩⟩ := P223
                  have FI224 := gc_frc (W := fun q j => (q = 48 ∧ j = 3) ∨ (q = 48 ∧ j = 6) ∨ (q = 48 ∧ j = 12) ∨ q = 51 ∨ q = 52 ∨ q = 53 ∨ q = 54 ∨ q = 55 ∨ (q = 48 ∧ j = 11) ∨ q = 58 ∨ q = 59 ∨ q = 60) (V := fun q j => (q = 48 ∧ j = 3) ∨ (q = 48 ∧ j = 6) ∨ (q = 48 ∧ j = 12) ∨ q = 51 ∨ q = 52 ∨ q = 53 ∨ q = 54 ∨ q = 55 ∨ (q = 48 ∧ j = 11) ∨ q = 58 ∨ q = 59 ∨ q = 60) FI199 (fun q j h => (h.elim (fun h => (Or.inl h)) (fun h => (h.elim (fun h => (Or.inr (Or.inl h))) (fun h => (h.elim (fun h => (Or.inr (Or.inr (Or.inl h)))) (fun h => (h.elim (fun h => (Or.inr (Or.inr (Or.inr (Or.inl h))))) (fun h => (h.elim (fun h => (Or.inr (Or.inr (Or.inr (Or.inr (Or.inl h)))))) (fun h => (h.elim (fun h => (Or.inr (Or.inr (Or.inr (Or.inr (Or.inr (Or.inl h))))))) (fun h => (h.elim (fun h => (Or.inr (Or.inr (Or.inr (Or.inr (Or.inr (Or.inr (Or.inl h)))))))) (fun h => (h.elim (fun h => (Or.inr (Or.inr (Or.inr (Or.inr (Or.inr (Or.inr (Or.inr (Or.inl h))))))))) (fun h => (h.elim (fun h => (Or.inr (Or.inr (Or.inr (Or.inr (Or.inr (Or.inr (Or.inr (Or.inr (Or.inl h)))))))))) (fun h => (h.elim (fun h => (Or.inr (Or.inr (Or.inr (Or.inr (Or.inr (Or.inr (Or.inr (Or.inr (Or.inr (Or.inl h))))))))))) (fun h => (h.elim (fun h => (Or.inr (Or.inr (Or.inr (Or.inr (Or.inr (Or.inr (Or.inr (Or.inr (Or.inr (Or.inr (Or.inl h)))))))))))) (fun h => (Or.inr (Or.inr (Or.inr (Or.inr (Or.inr (Or.inr (Or.inr (Or.inr (Or.inr (Or.inr (Or.inr h)))))))))))))))))))))))))))))))))) g223
                  have t226 := (g223 48 17).resolve_left (by omega)
                  have t227 := (g223 48 18).resolve_left (by omega)
                  have t228 := (g223 t 13).resolve_left (by omega)
                  have t229 := (g223 x 4).resolve_left (by omega)
                  have t230 := (g223 a1 4).resolve_left (by omega)
                  have t231 := (g223 48 13).resolve_left (by omega)
                  have t232 := (g223 48 14).resolve_left (by omega)
                  have f233 := (show 0 ≤ I224 48 3 ∧ I224 48 3 ≤ 3000 from gc_in hI224 R_48 rfl rfl)
                  have f234 := (show 0 ≤ I224 48 6 ∧ I224 48 6 ≤ 9000 from gc_in hI224 R_48 rfl rfl)
                  have f235 := (show 0 ≤ I224 48 11 ∧ I224 48 11 ≤ 1000000 from gc_in hI224 R_48 rfl rfl)
                  have f236 := (show 0 ≤ I224 48 12 ∧ I224 48 12 ≤ 1 from gc_in hI224 R_48 rfl rfl)
                  have f237 := (show 0 ≤ I224 48 17 ∧ I224 48 17 ≤ 3000 from gc_in hI224 R_48 rfl rfl)
                  have f238 := (show 0 ≤ I224 48 18 ∧ I224 48 18 ≤ 24 from gc_in hI224 R_48 rfl rfl)
                  have f239 := (show 0 ≤ I224 t 13 ∧ I224 t 13 ≤ 384 from gc_in hI224 R_t rfl rfl)
                  have f240 := (show 0 ≤ I224 x 4 ∧ I224 x 4 ≤ 24 from gc_in hI224 R_x rfl rfl)
                  have f241 := (show 0 ≤ I224 a1 4 ∧ I224 a1 4 ≤ 6 from gc_in hI224 R_a1 rfl rfl)
                  have f242 := (show (-1) ≤ I224 48 13 ∧ I224 48 13 ≤ 999999 from gc_in hI224 R_48 rfl rfl)
                  have f243 := (show (-1) ≤ I224 48 14 ∧ I224 48 14 ≤ 999999 from gc_in hI224 R_48 rfl rfl)
                  obtain rfl : J119 = J225 := funext fun q => funext fun j => ((k223 q j).resolve_left id).symm
                  refine gv_callV hD rfl (As := [.inr (.inr (some a1)), .inl (a2 + 1), .inl v7_92, .inl (a4 + 1)]) (st := []) rfl B_48 S_48 rfl (gc_lV0 hws rfl) (Nat.le_of_ble_eq_true rfl) (gz_Ev_mono (d := (2 + nr)) (Nat.le_refl _) E223) ?_
                  show gv_X _ _ (348, [(10, .inl z171), (0, .inr (.inr (some 48))), (1, .inr (.inr (some a1))), (2, .inl a2), (3, .inl a3), (4, .inl a4), (5, .inl v5_78), (6, .inl v6_78), (7, .inl v7_92), (8, .inl v8_106), (9, .inl v9_106)], [], sh, gc_h sh I224 J119 A)
                  refine gv_pick [1, 2, 3, 4, 5, 6, 7, 8, 9, 10] rfl ?_
                  exact L348 I224 J119 hI224 FI224 FJ119 KWV_I224 KFN_I224 (by omega)
            have L277 : ∀ (I244 : gr_I) (J245 : gr_J) , gc_Inv ro I244 → (∀ q j : Nat, ((q = 48 ∧ j = 3) ∨ (q = 48 ∧ j = 6) ∨ (q = 48 ∧ j = 12) ∨ q = 51 ∨ q = 52 ∨ q = 53 ∨ q = 54 ∨ q = 55 ∨ (q = 48 ∧ j = 11) ∨ q = 58 ∨ q = 59 ∨ q = 60) ∨ I244 q j = I q j) → (∀ q j : Nat, (False) ∨ J245 q j = J q j) → gc_WV t I244 → gc_FN I244 → ((0 ≤ a2 ∧ a2 ≤ 5) ∧ (0 ≤ a3 ∧ a3 ≤ 24) ∧ (0 ≤ a4 ∧ a4 ≤ 4) ∧ (0 ≤ v5_78 ∧ v5_78 ≤ 5) ∧ (0 ≤ v6_78 ∧ v6_78 ≤ 31) ∧ (1 ≤ v7_92 ∧ v7_92 ≤ 24) ∧ (0 ≤ v8_106 ∧ v8_106 ≤ 18431) ∧ (0 ≤ v9_106 ∧ v9_106 ≤ 2999) ∧ (v5_78 = I a1 4 - a2 - 1) ∧ (a2 < I a1 4) ∧ (a4 ≤ 3) ∧ (0 ≤ I (a1 + 1) (Int.toNat a2)) ∧ (I244 48 11 ≤ 400001) ∧ (I 48 3 ≤ I244 48 3) ∧ (a3 < v7_92) ∧ (v7_92 + v5_78 ≤ I244 48 18) ∧ (v9_106 ≤ 2999) ∧ (I244 48 13 = (t : Int)) ∧ (I244 48 14 = (x : Int))) → gv_X (gc_E0 ws0 tb (2 + nr) (yX0_lay, cX0_lay, 11, none) kX0_lay) (gv_Q cX0_lay none sh (fun r h' => (∃ (I' : gr_I) (J' : gr_J), h' = gc_h sh I' J' A ∧ gc_Inv ro I' ∧ (∀ q j : Nat, ((q = 48 ∧ j = 3) ∨ (q = 48 ∧ j = 6) ∨ (q = 48 ∧ j = 12) ∨ q = 51 ∨ q = 52 ∨ q = 53 ∨ q = 54 ∨ q = 55 ∨ (q = 48 ∧ j = 11) ∨ q = 58 ∨ q = 59 ∨ q = 60) ∨ I' q j = I q j) ∧ (∀ q j : Nat, (False) ∨ J' q j = J q j) ∧ gc_WV t I' ∧ gc_FN I' ∧ r = none ∧ (I' 48 12 = 1 ∨ I' 48 11 ≤ 400000) ∧ (I' 48 11 ≤ 400001) ∧ (I 48 3 ≤ I' 48 3)))) (277, [(0, .inr (.inr (some 48))), (1, .inr (.inr (some a1))), (2, .inl a2), (3, .inl a3), (4, .inl a4), (5, .inl v5_78), (6, .inl v6_78), (7, .inl v7_92), (8, .inl v8_106), (9, .inl v9_106)], [.inr (.inr (some 48))], sh, gc_h sh I244 J245 A) := by
              intro I244 J245 hI244 FI244 FJ245 KWV_I244 KFN_I244 m_246
              clear ha2_106 ha3_106 ha4_106 hv5_78_106 hv6_78_106 hv7_92_106 hv8_106 hv9_106 e0_106 e1_106 e2_106 e3_106 e4_106 e5_106 e6_106 e7_106 e8_106 e9_106 e10_106 f107 f108 f109 f110 f111 f112 f113 f114 f115 f116 f117
              obtain ⟨ha2_246, ha3_246, ha4_246, hv5_78_246, hv6_78_246, hv7_92_246, hv8_106_246, hv9_106_246, e0_246, e1_246, e2_246, e3_246, e4_246, e5_246, e6_246, e7_246, e8_246, e9_246, e10_246⟩ := m_246
              have f247 := (show 0 ≤ I244 48 3 ∧ I244 48 3 ≤ 3000 from gc_in hI244 R_48 rfl rfl)
              have f248 := (show 0 ≤ I244 48 6 ∧ I244 48 6 ≤ 9000 from gc_in hI244 R_48 rfl rfl)
              have f249 := (show 0 ≤ I244 48 11 ∧ I244 48 11 ≤ 1000000 from gc_in hI244 R_48 rfl rfl)
              have f250 := (show 0 ≤ I244 48 12 ∧ I244 48 12 ≤ 1 from gc_in hI244 R_48 rfl rfl)
              have f251 := (show 0 ≤ I244 48 17 ∧ I244 48 17 ≤ 3000 from gc_in hI244 R_48 rfl rfl)
              have f252 := (show 0 ≤ I244 48 18 ∧ I244 48 18 ≤ 24 from gc_in hI244 R_48 rfl rfl)
              have f253 := (show 0 ≤ I244 t 13 ∧ I244 t 13 ≤ 384 from gc_in hI244 R_t rfl rfl)
              have f254 := (show 0 ≤ I244 x 4 ∧ I244 x 4 ≤ 24 from gc_in hI244 R_x rfl rfl)
              have f255 := (show 0 ≤ I244 a1 4 ∧ I244 a1 4 ≤ 6 from gc_in hI244 R_a1 rfl rfl)
              have f256 := (show (-1) ≤ I244 48 13 ∧ I244 48 13 ≤ 999999 from gc_in hI244 R_48 rfl rfl)
              have f257 := (show (-1) ≤ I244 48 14 ∧ I244 48 14 ≤ 999999 from gc_in hI244 R_48 rfl rfl)
              refine gv_run 2 true hD (pc' := 282) (lv' := [(0, .inr (.inr (some 48))), (1, .inr (.inr (some a1))), (2, .inl a2), (3, .inl a3), (4, .inl a4), (5, .inl v5_78), (6, .inl v6_78), (7, .inl v7_92), (8, .inl v8_106), (9, .inl v9_106)]) (st' := [.inl 1, .inr (.inr (some 48))]) (h' := gc_h sh I244 J245 A) (C := ((True ∧ True) ∧ True)) rfl ⟨⟨trivial, trivial⟩, trivial⟩ ?_
              exact L282 I244 J245 1 hI244 FI244 FJ245 KWV_I244 KFN_I244 (by omega)
            have L354 : ((0 ≤ a2 ∧ a2 ≤ 5) ∧ (0 ≤ a3 ∧ a3 ≤ 24) ∧ (0 ≤ a4 ∧ a4 ≤ 4) ∧ (0 ≤ v5_78 ∧ v5_78 ≤ 5) ∧ (0 ≤ v6_78 ∧ v6_78 ≤ 31) ∧ (1 ≤ v7_92 ∧ v7_92 ≤ 24) ∧ (v5_78 = I a1 4 - a2 - 1) ∧ (a2 < I a1 4) ∧ (a4 ≤ 3) ∧ (0 ≤ I (a1 + 1) (Int.toNat a2)) ∧ (I104 48 11 ≤ 400001) ∧ (I 48 3 ≤ I104 48 3) ∧ (I104 48 12 = 1 ∨ I104 48 11 ≤ 400000) ∧ (a3 < v7_92) ∧ (v7_92 + v5_78 ≤ I104 48 18) ∧ (I104 48 13 = (t : Int)) ∧ (I104 48 14 = (x : Int))) → gv_X (gc_E0 ws0 tb (2 + nr) (yX0_lay, cX0_lay, 11, none) kX0_lay) (gv_Q cX0_lay none sh (fun r h' => (∃ (I' : gr_I) (J' : gr_J), h' = gc_h sh I' J' A ∧ gc_Inv ro I' ∧ (∀ q j : Nat, ((q = 48 ∧ j = 3) ∨ (q = 48 ∧ j = 6) ∨ (q = 48 ∧ j = 12) ∨ q = 51 ∨ q = 52 ∨ q = 53 ∨ q = 54 ∨ q = 55 ∨ (q = 48 ∧ j = 11) ∨ q = 58 ∨ q = 59 ∨ q = 60) ∨ I' q j = I q j) ∧ (∀ q j : Nat, (False) ∨ J' q j = J q j) ∧ gc_WV t I' ∧ gc_FN I' ∧ r = none ∧ (I' 48 12 = 1 ∨ I' 48 11 ≤ 400000) ∧ (I' 48 11 ≤ 400001) ∧ (I 48 3 ≤ I' 48 3)))) (354, [(0, .inr (.inr (some 48))), (1, .inr (.inr (some a1))), (2, .inl a2), (3, .inl a3), (4, .inl a4), (5, .inl v5_78), (6, .inl v6_78), (7, .inl v7_92)], [], sh, gc_h sh I104 J105 A) := by
              intro m_258
              obtain ⟨ha2_258, ha3_258, ha4_258, hv5_78_258, hv6_78_258, hv7_92_258, e0_258, e1_258, e2_258, e3_258, e4_258, e5_258, e6_258, e7_258, e8_258, e9_258, e10_258⟩ := m_258
              have f259 := (show 0 ≤ I104 48 3 ∧ I104 48 3 ≤ 3000 from gc_in hI104 R_48 rfl rfl)
              have f260 := (show 0 ≤ I104 48 6 ∧ I104 48 6 ≤ 9000 from gc_in hI104 R_48 rfl rfl)
              have f261 := (show 0 ≤ I104 48 11 ∧ I104 48 11 ≤ 1000000 from gc_in hI104 R_48 rfl rfl)
              have f262 := (show 0 ≤ I104 48 12 ∧ I104 48 12 ≤ 1 from gc_in hI104 R_48 rfl rfl)
              have f263 := (show 0 ≤ I104 48 17 ∧ I104 48 17 ≤ 3000 from gc_in hI104 R_48 rfl rfl)
              have f264 := (show 0 ≤ I104 48 18 ∧ I104 48 18 ≤ 24 from gc_in hI104 R_48 rfl rfl)
              have f265 := (show 0 ≤ I104 t 13 ∧ I104 t 13 ≤ 384 from gc_in hI104 R_t rfl rfl)
              have f266 := (show 0 ≤ I104 x 4 ∧ I104 x 4 ≤ 24 from gc_in hI104 R_x rfl rfl)
              have f267 := (show 0 ≤ I104 a1 4 ∧ I104 a1 4 ≤ 6 from gc_in hI104 R_a1 rfl rfl)
              have f268 := (show (-1) ≤ I104 48 13 ∧ I104 48 13 ≤ 999999 from gc_in hI104 R_48 rfl rfl)
              have f269 := (show (-1) ≤ I104 48 14 ∧ I104 48 14 ≤ 999999 from gc_in hI104 R_48 rfl rfl)
              refine gv_run 2 true hD (pc' := 183) (lv' := [(7, .inl (v7_92 + 1)), (0, .inr (.inr (some 48))), (1, .inr (.inr (some a1))), (2, .inl a2), (3, .inl a3), (4, .inl a4), (5, .inl v5_78), (6, .inl v6_78)]) (st' := []) (h' := gc_h sh I104 J105 A) (C := ((True ∧ True) ∧ True)) rfl ⟨⟨trivial, trivial⟩, trivial⟩ ?_
              refine gv_pick [1, 2, 3, 4, 5, 6, 7, 0] rfl ?_
              exact ih183 I104 J105 (v7_92 + 1) (by omega) hI104 FI104 FJ105 KWV_I104 KFN_I104 (by omega)
            have t270 := KFN_I104 (Int.toNat v8_106) (by omega)
            refine gv_run 2 true hD (pc' := 226) (lv' := [(0, .inr (.inr (some 48))), (1, .inr (.inr (some a1))), (2, .inl a2), (3, .inl a3), (4, .inl a4), (5, .inl v5_78), (6, .inl v6_78), (7, .inl v7_92), (8, .inl v8_106), (9, .inl v9_106)]) (st' := [.inr (.inr (some 48)), .inl v9_106]) (h' := gc_h sh I104 J105 A) (C := ((True ∧ True) ∧ True)) rfl ⟨⟨trivial, trivial⟩, trivial⟩ ?_
            refine gv_get hD rfl rfl S_48 ⟨by decide, B_48⟩ (gc_hA S_48 rfl A_48_1) ?_
            show gv_X _ _ (229, [(0, .inr (.inr (some 48))), (1, .inr (.inr (some a1))), (2, .inl a2), (3, .inl a3), (4, .inl a4), (5, .inl v5_78), (6, .inl v6_78), (7, .inl v7_92), (8, .inl v8_106), (9, .inl v9_106)], [.inr (.inr (some 49)), .inl v9_106], sh, gc_h sh I104 J105 A)
            refine gv_run 1 true hD (pc' := 231) (lv' := [(0, .inr (.inr (some 48))), (1, .inr (.inr (some a1))), (2, .inl a2), (3, .inl a3), (4, .inl a4), (5, .inl v5_78), (6, .inl v6_78), (7, .inl v7_92), (8, .inl v8_106), (9, .inl v9_106)]) (st' := [.inl v8_106, .inr (.inr (some 49)), .inl v9_106]) (h' := gc_h sh I104 J105 A) (C := (True ∧ True)) rfl ⟨trivial, trivial⟩ ?_
            have f271 := (show 0 ≤ I104 49 (Int.toNat v8_106) ∧ I104 49 (Int.toNat v8_106) ≤ 3000 from gc_in hI104 R_49 rfl rfl)
            refine gv_iald hD rfl S_49 rfl ⟨by decide, B_49⟩ ⟨by omega, by omega⟩ (gc_iI S_49 rfl) ?_
            show gv_X _ _ (232, [(0, .inr (.inr (some 48))), (1, .inr (.inr (some a1))), (2, .inl a2), (3, .inl a3), (4, .inl a4), (5, .inl v5_78), (6, .inl v6_78), (7, .inl v7_92), (8, .inl v8_106), (9, .inl v9_106)], [.inl (I104 49 (Int.toNat v8_106)), .inl v9_106], sh, gc_h sh I104 J105 A)
            refine gv_run 1 true hD (pc' := 233) (lv' := [(0, .inr (.inr (some 48))), (1, .inr (.inr (some a1))), (2, .inl a2), (3, .inl a3), (4, .inl a4), (5, .inl v5_78), (6, .inl v6_78), (7, .inl v7_92), (8, .inl v8_106), (9, .inl v9_106)]) (st' := [.inr (.inr (some 48)), .inl (I104 49 (Int.toNat v8_106)), .inl v9_106]) (h' := gc_h sh I104 J105 A) (C := (True ∧ True)) rfl ⟨trivial, trivial⟩ ?_
            refine gv_get hD rfl rfl S_48 ⟨by decide, B_48⟩ (gc_hA S_48 rfl A_48_2) ?_
            show gv_X _ _ (236, [(0, .inr (.inr (some 48))), (1, .inr (.inr (some a1))), (2, .inl a2), (3, .inl a3), (4, .inl a4), (5, .inl v5_78), (6, .inl v6_78), (7, .inl v7_92), (8, .inl v8_106), (9, .inl v9_106)], [.inr (.inr (some 50)), .inl (I104 49 (Int.toNat v8_106)), .inl v9_106], sh, gc_h sh I104 J105 A)
            refine gv_run 1 true hD (pc' := 238) (lv' := [(0, .inr (.inr (some 48))), (1, .inr (.inr (some a1))), (2, .inl a2), (3, .inl a3), (4, .inl a4), (5, .inl v5_78), (6, .inl v6_78), (7, .inl v7_92), (8, .inl v8_106), (9, .inl v9_106)]) (st' := [.inl v8_106, .inr (.inr (some 50)), .inl (I104 49 (Int.toNat v8_106)), .inl v9_106]) (h' := gc_h sh I104 J105 A) (C := (True ∧ True)) rfl ⟨trivial, trivial⟩ ?_
            have f272 := (show 0 ≤ I104 50 (Int.toNat v8_106) ∧ I104 50 (Int.toNat v8_106) ≤ 3000 from gc_in hI104 R_50 rfl rfl)
            refine gv_iald hD rfl S_50 rfl ⟨by decide, B_50⟩ ⟨by omega, by omega⟩ (gc_iI S_50 rfl) ?_
            show gv_X _ _ (239, [(0, .inr (.inr (some 48))), (1, .inr (.inr (some a1))), (2, .inl a2), (3, .inl a3), (4, .inl a4), (5, .inl v5_78), (6, .inl v6_78), (7, .inl v7_92), (8, .inl v8_106), (9, .inl v9_106)], [.inl (I104 50 (Int.toNat v8_106)), .inl (I104 49 (Int.toNat v8_106)), .inl v9_106], sh, gc_h sh I104 J105 A)
            refine gv_run 1 true hD (pc' := 240) (lv' := [(0, .inr (.inr (some 48))), (1, .inr (.inr (some a1))), (2, .inl a2), (3, .inl a3), (4, .inl a4), (5, .inl v5_78), (6, .inl v6_78), (7, .inl v7_92), (8, .inl v8_106), (9, .inl v9_106)]) (st' := [.inl ((I104 49 (Int.toNat v8_106)) + (I104 50 (Int.toNat v8_106))), .inl v9_106]) (h' := gc_h sh I104 J105 A) (C := (True ∧ True)) rfl ⟨trivial, trivial⟩ ?_
            refine gv_icmp_ge (t := 354) hD rfl rfl ⟨⟨by omega, by omega⟩, ⟨by omega, by omega⟩⟩ (fun c273 => ?_) (fun c273 => ?_)
            · show gv_X _ _ (354, [(0, .inr (.inr (some 48))), (1, .inr (.inr (some a1))), (2, .inl a2), (3, .inl a3), (4, .inl a4), (5, .inl v5_78), (6, .inl v6_78), (7, .inl v7_92), (8, .inl v8_106), (9, .inl v9_106)], [], sh, gc_h sh I104 J105 A)
              refine gv_pick [0, 1, 2, 3, 4, 5, 6, 7] rfl ?_
              exact L354 (by omega)
            · show gv_X _ _ (243, [(0, .inr (.inr (some 48))), (1, .inr (.inr (some a1))), (2, .inl a2), (3, .inl a3), (4, .inl a4), (5, .inl v5_78), (6, .inl v6_78), (7, .inl v7_92), (8, .inl v8_106), (9, .inl v9_106)], [], sh, gc_h sh I104 J105 A)
              refine gv_run 1 true hD (pc' := 244) (lv' := [(0, .inr (.inr (some 48))), (1, .inr (.inr (some a1))), (2, .inl a2), (3, .inl a3), (4, .inl a4), (5, .inl v5_78), (6, .inl v6_78), (7, .inl v7_92), (8, .inl v8_106), (9, .inl v9_106)]) (st' := [.inr (.inr (some 48))]) (h' := gc_h sh I104 J105 A) (C := (True ∧ True)) rfl ⟨trivial, trivial⟩ ?_
              have f274 := (show 0 ≤ I104 48 12 ∧ I104 48 12 ≤ 1 from gc_in hI104 R_48 rfl rfl)
              refine gv_get hD rfl rfl S_48 ⟨by decide, B_48⟩ (gc_hI S_48 rfl) ?_
              show gv_X _ _ (247, [(0, .inr (.inr (some 48))), (1, .inr (.inr (some a1))), (2, .inl a2), (3, .inl a3), (4, .inl a4), (5, .inl v5_78), (6, .inl v6_78), (7, .inl v7_92), (8, .inl v8_106), (9, .inl v9_106)], [.inl (I104 48 12)], sh, gc_h sh I104 J105 A)
              refine gv_if_ne (t := 354) hD rfl rfl ⟨by omega, by omega⟩ (fun c275 => ?_) (fun c275 => ?_)
              · show gv_X _ _ (354, [(0, .inr (.inr (some 48))), (1, .inr (.inr (some a1))), (2, .inl a2), (3, .inl a3), (4, .inl a4), (5, .inl v5_78), (6, .inl v6_78), (7, .inl v7_92), (8, .inl v8_106), (9, .inl v9_106)], [], sh, gc_h sh I104 J105 A)
                refine gv_pick [0, 1, 2, 3, 4, 5, 6, 7] rfl ?_
                exact L354 (by omega)
              · show gv_X _ _ (250, [(0, .inr (.inr (some 48))), (1, .inr (.inr (some a1))), (2, .inl a2), (3, .inl a3), (4, .inl a4), (5, .inl v5_78), (6, .inl v6_78), (7, .inl v7_92), (8, .inl v8_106), (9, .inl v9_106)], [], sh, gc_h sh I104 J105 A)
                refine gv_run 2 true hD (pc' := 252) (lv' := [(0, .inr (.inr (some 48))), (1, .inr (.inr (some a1))), (2, .inl a2), (3, .inl a3), (4, .inl a4), (5, .inl v5_78), (6, .inl v6_78), (7, .inl v7_92), (8, .inl v8_106), (9, .inl v9_106)]) (st' := [.inr (.inr (some 48)), .inr (.inr (some 48))]) (h' := gc_h sh I104 J105 A) (C := ((True ∧ True) ∧ True)) rfl ⟨⟨trivial, trivial⟩, trivial⟩ ?_
                have f276 := (show 0 ≤ I104 48 11 ∧ I104 48 11 ≤ 1000000 from gc_in hI104 R_48 rfl rfl)
                refine gv_get hD rfl rfl S_48 ⟨by decide, B_48⟩ (gc_hI S_48 rfl) ?_
                show gv_X _ _ (255, [(0, .inr (.inr (some 48))), (1, .inr (.inr (some a1))), (2, .inl a2), (3, .inl a3), (4, .inl a4), (5, .inl v5_78), (6, .inl v6_78), (7, .inl v7_92), (8, .inl v8_106), (9, .inl v9_106)], [.inl (I104 48 11), .inr (.inr (some 48))], sh, gc_h sh I104 J105 A)
                refine gv_run 2 true hD (pc' := 257) (lv' := [(0, .inr (.inr (some 48))), (1, .inr (.inr (some a1))), (2, .inl a2), (3, .inl a3), (4, .inl a4), (5, .inl v5_78), (6, .inl v6_78), (7, .inl v7_92), (8, .inl v8_106), (9, .inl v9_106)]) (st' := [.inl ((I104 48 11) + 1), .inr (.inr (some 48))]) (h' := gc_h sh I104 J105 A) (C := ((True ∧ True) ∧ True)) rfl ⟨⟨trivial, trivial⟩, trivial⟩ ?_
                refine gv_put hD rfl rfl S_48 ⟨by decide, B_48⟩ rfl trivial ?_
                refine gc_st (k := 11) hI104 S_48 rfl R_48 (lo := 0) (hi := 1000000) rfl rfl (by omega) (by omega) (fun I277 hI277 q278 p278 => ?_)
                have FI277 := gc_frs (W := fun q j => (q = 48 ∧ j = 3) ∨ (q = 48 ∧ j = 6) ∨ (q = 48 ∧ j = 12) ∨ q = 51 ∨ q = 52 ∨ q = 53 ∨ q = 54 ∨ q = 55 ∨ (q = 48 ∧ j = 11) ∨ q = 58 ∨ q = 59 ∨ q = 60) FI104 (Or.inr (Or.inr (Or.inr (Or.inr (Or.inr (Or.inr (Or.inr (Or.inr (Or.inl ⟨rfl, rfl⟩))))))))) p278
                have t279 := p278 48 3 (fun h => absurd h.2 (by decide))
                have t280 := p278 48 6 (fun h => absurd h.2 (by decide))
                have t281 := p278 48 12 (fun h => absurd h.2 (by decide))
                have t282 := p278 48 17 (fun h => absurd h.2 (by decide))
                have t283 := p278 48 18 (fun h => absurd h.2 (by decide))
                have t284 := p278 t 13 (fun h => absurd h.1 (by omega))
                have t285 := p278 x 4 (fun h => absurd h.1 (by omega))
                have t286 := p278 a1 4 (fun h => absurd h.1 (by omega))
                have t287 := p278 48 13 (fun h => absurd h.2 (by decide))
                have t288 := p278 48 14 (fun h => absurd h.2 (by decide))
                have f289 := (show 0 ≤ I277 48 3 ∧ I277 48 3 ≤ 3000 from gc_in hI277 R_48 rfl rfl)
                have f290 := (show 0 ≤ I277 48 6 ∧ I277 48 6 ≤ 9000 from gc_in hI277 R_48 rfl rfl)
                have f291 := (show 0 ≤ I277 48 11 ∧ I277 48 11 ≤ 1000000 from gc_in hI277 R_48 rfl rfl)
                have f292 := (show 0 ≤ I277 48 12 ∧ I277 48 12 ≤ 1 from gc_in hI277 R_48 rfl rfl)
                have f293 := (show 0 ≤ I277 48 17 ∧ I277 48 17 ≤ 3000 from gc_in hI277 R_48 rfl rfl)
                have f294 := (show 0 ≤ I277 48 18 ∧ I277 48 18 ≤ 24 from gc_in hI277 R_48 rfl rfl)
                have f295 := (show 0 ≤ I277 t 13 ∧ I277 t 13 ≤ 384 from gc_in hI277 R_t rfl rfl)
                have f296 := (show 0 ≤ I277 x 4 ∧ I277 x 4 ≤ 24 from gc_in hI277 R_x rfl rfl)
                have f297 := (show 0 ≤ I277 a1 4 ∧ I277 a1 4 ≤ 6 from gc_in hI277 R_a1 rfl rfl)
                have f298 := (show (-1) ≤ I277 48 13 ∧ I277 48 13 ≤ 999999 from gc_in hI277 R_48 rfl rfl)
                have f299 := (show (-1) ≤ I277 48 14 ∧ I277 48 14 ≤ 999999 from gc_in hI277 R_48 rfl rfl)
                have KWV_I277 := gc_WV_fr KWV_I104 (p278 48 6 (fun h => absurd h.2 (by decide))) (p278 t 13 (fun h => absurd h.1 (by omega))) (fun k => p278 54 k (fun h => absurd h.1 (by omega)))
                have KFN_I277 := gc_FN_fr KFN_I104 (fun k => p278 49 k (fun h => absurd h.1 (by omega))) (fun k => p278 50 k (fun h => absurd h.1 (by omega)))
                show gv_X _ _ (260, [(0, .inr (.inr (some 48))), (1, .inr (.inr (some a1))), (2, .inl a2), (3, .inl a3), (4, .inl a4), (5, .inl v5_78), (6, .inl v6_78), (7, .inl v7_92), (8, .inl v8_106), (9, .inl v9_106)], [], sh, gc_h sh I277 J105 A)
                refine gv_run 2 true hD (pc' := 262) (lv' := [(0, .inr (.inr (some 48))), (1, .inr (.inr (some a1))), (2, .inl a2), (3, .inl a3), (4, .inl a4), (5, .inl v5_78), (6, .inl v6_78), (7, .inl v7_92), (8, .inl v8_106), (9, .inl v9_106)]) (st' := [.inr (.inr (some 48)), .inr (.inr (some 48))]) (h' := gc_h sh I277 J105 A) (C := ((True ∧ True) ∧ True)) rfl ⟨⟨trivial, trivial⟩, trivial⟩ ?_
                have f300 := (show 0 ≤ I277 48 12 ∧ I277 48 12 ≤ 1 from gc_in hI277 R_48 rfl rfl)
                refine gv_get hD rfl rfl S_48 ⟨by decide, B_48⟩ (gc_hI S_48 rfl) ?_
                show gv_X _ _ (265, [(0, .inr (.inr (some 48))), (1, .inr (.inr (some a1))), (2, .inl a2), (3, .inl a3), (4, .inl a4), (5, .inl v5_78), (6, .inl v6_78), (7, .inl v7_92), (8, .inl v8_106), (9, .inl v9_106)], [.inl (I277 48 12), .inr (.inr (some 48))], sh, gc_h sh I277 J105 A)
                refine gv_if_ne (t := 277) hD rfl rfl ⟨by omega, by omega⟩ (fun c301 => ?_) (fun c301 => ?_)
                · show gv_X _ _ (277, [(0, .inr (.inr (some 48))), (1, .inr (.inr (some a1))), (2, .inl a2), (3, .inl a3), (4, .inl a4), (5, .inl v5_78), (6, .inl v6_78), (7, .inl v7_92), (8, .inl v8_106), (9, .inl v9_106)], [.inr (.inr (some 48))], sh, gc_h sh I277 J105 A)
                  exact L277 I277 J105 hI277 FI277 FJ105 KWV_I277 KFN_I277 (by omega)
                · show gv_X _ _ (268, [(0, .inr (.inr (some 48))), (1, .inr (.inr (some a1))), (2, .inl a2), (3, .inl a3), (4, .inl a4), (5, .inl v5_78), (6, .inl v6_78), (7, .inl v7_92), (8, .inl v8_106), (9, .inl v9_106)], [.inr (.inr (some 48))], sh, gc_h sh I277 J105 A)
                  refine gv_run 1 true hD (pc' := 269) (lv' := [(0, .inr (.inr (some 48))), (1, .inr (.inr (some a1))), (2, .inl a2), (3, .inl a3), (4, .inl a4), (5, .inl v5_78), (6, .inl v6_78), (7, .inl v7_92), (8, .inl v8_106), (9, .inl v9_106)]) (st' := [.inr (.inr (some 48)), .inr (.inr (some 48))]) (h' := gc_h sh I277 J105 A) (C := (True ∧ True)) rfl ⟨trivial, trivial⟩ ?_
                  have f302 := (show 0 ≤ I277 48 11 ∧ I277 48 11 ≤ 1000000 from gc_in hI277 R_48 rfl rfl)
                  refine gv_get hD rfl rfl S_48 ⟨by decide, B_48⟩ (gc_hI S_48 rfl) ?_
                  show gv_X _ _ (272, [(0, .inr (.inr (some 48))), (1, .inr (.inr (some a1))), (2, .inl a2), (3, .inl a3), (4, .inl a4), (5, .inl v5_78), (6, .inl v6_78), (7, .inl v7_92), (8, .inl v8_106), (9, .inl v9_106)], [.inl (I277 48 11), .inr (.inr (some 48))], sh, gc_h sh I277 J105 A)
                  refine gv_run 1 true hD (pc' := 274) (lv' := [(0, .inr (.inr (some 48))), (1, .inr (.inr (some a1))), (2, .inl a2), (3, .inl a3), (4, .inl a4), (5, .inl v5_78), (6, .inl v6_78), (7, .inl v7_92), (8, .inl v8_106), (9, .inl v9_106)]) (st' := [.inl 400000, .inl (I277 48 11), .inr (.inr (some 48))]) (h' := gc_h sh I277 J105 A) (C := (True ∧ True)) rfl ⟨trivial, trivial⟩ ?_
                  refine gv_icmp_le (t := 281) hD rfl rfl ⟨⟨by omega, by omega⟩, ⟨by omega, by omega⟩⟩ (fun c303 => ?_) (fun c303 => ?_)
                  · show gv_X _ _ (281, [(0, .inr (.inr (some 48))), (1, .inr (.inr (some a1))), (2, .inl a2), (3, .inl a3), (4, .inl a4), (5, .inl v5_78), (6, .inl v6_78), (7, .inl v7_92), (8, .inl v8_106), (9, .inl v9_106)], [.inr (.inr (some 48))], sh, gc_h sh I277 J105 A)
                    refine gv_run 1 true hD (pc' := 282) (lv' := [(0, .inr (.inr (some 48))), (1, .inr (.inr (some a1))), (2, .inl a2), (3, .inl a3), (4, .inl a4), (5, .inl v5_78), (6, .inl v6_78), (7, .inl v7_92), (8, .inl v8_106), (9, .inl v9_106)]) (st' := [.inl 0, .inr (.inr (some 48))]) (h' := gc_h sh I277 J105 A) (C := (True ∧ True)) rfl ⟨trivial, trivial⟩ ?_
                    exact L282 I277 J105 0 hI277 FI277 FJ105 KWV_I277 KFN_I277 (by omega)
                  · show gv_X _ _ (277, [(0, .inr (.inr (some 48))), (1, .inr (.inr (some a1))), (2, .inl a2), (3, .inl a3), (4, .inl a4), (5, .inl v5_78), (6, .inl v6_78), (7, .inl v7_92), (8, .inl v8_106), (9, .inl v9_106)], [.inr (.inr (some 48))], sh, gc_h sh I277 J105 A)
                    exact L277 I277 J105 hI277 FI277 FJ105 KWV_I277 KFN_I277 (by omega)
        have L360 : ((I90 48 11 ≤ 400001) ∧ (I 48 3 ≤ I90 48 3) ∧ (I90 48 12 = 1 ∨ I90 48 11 ≤ 400000) ∧ (I90 48 13 = (t : Int)) ∧ (I90 48 14 = (x : Int))) → gv_X (gc_E0 ws0 tb (2 + nr) (yX0_lay, cX0_lay, 11, none) kX0_lay) (gv_Q cX0_lay none sh (fun r h' => (∃ (I' : gr_I) (J' : gr_J), h' = gc_h sh I' J' A ∧ gc_Inv ro I' ∧ (∀ q j : Nat, ((q = 48 ∧ j = 3) ∨ (q = 48 ∧ j = 6) ∨ (q = 48 ∧ j = 12) ∨ q = 51 ∨ q = 52 ∨ q = 53 ∨ q = 54 ∨ q = 55 ∨ (q = 48 ∧ j = 11) ∨ q = 58 ∨ q = 59 ∨ q = 60) ∨ I' q j = I q j) ∧ (∀ q j : Nat, (False) ∨ J' q j = J q j) ∧ gc_WV t I' ∧ gc_FN I' ∧ r = none ∧ (I' 48 12 = 1 ∨ I' 48 11 ≤ 400000) ∧ (I' 48 11 ≤ 400001) ∧ (I 48 3 ≤ I' 48 3)))) (360, [], [], sh, gc_h sh I90 J91 A) := by
          intro m_304
          obtain ⟨e0_304, e1_304, e2_304, e3_304, e4_304⟩ := m_304
          have f305 := (show 0 ≤ I90 48 3 ∧ I90 48 3 ≤ 3000 from gc_in hI90 R_48 rfl rfl)
          have f306 := (show 0 ≤ I90 48 6 ∧ I90 48 6 ≤ 9000 from gc_in hI90 R_48 rfl rfl)
          have f307 := (show 0 ≤ I90 48 11 ∧ I90 48 11 ≤ 1000000 from gc_in hI90 R_48 rfl rfl)
          have f308 := (show 0 ≤ I90 48 12 ∧ I90 48 12 ≤ 1 from gc_in hI90 R_48 rfl rfl)
          have f309 := (show 0 ≤ I90 48 17 ∧ I90 48 17 ≤ 3000 from gc_in hI90 R_48 rfl rfl)
          have f310 := (show 0 ≤ I90 48 18 ∧ I90 48 18 ≤ 24 from gc_in hI90 R_48 rfl rfl)
          have f311 := (show 0 ≤ I90 t 13 ∧ I90 t 13 ≤ 384 from gc_in hI90 R_t rfl rfl)
          have f312 := (show 0 ≤ I90 x 4 ∧ I90 x 4 ≤ 24 from gc_in hI90 R_x rfl rfl)
          have f313 := (show 0 ≤ I90 a1 4 ∧ I90 a1 4 ≤ 6 from gc_in hI90 R_a1 rfl rfl)
          have f314 := (show (-1) ≤ I90 48 13 ∧ I90 48 13 ≤ 999999 from gc_in hI90 R_48 rfl rfl)
          have f315 := (show (-1) ≤ I90 48 14 ∧ I90 48 14 ≤ 999999 from gc_in hI90 R_48 rfl rfl)
          exact gv_vret hD rfl ⟨I90, J91, rfl, hI90, FI90, FJ91, KWV_I90, KFN_I90, ⟨rfl, by omega⟩⟩
        refine gv_run 2 true hD (pc' := 186) (lv' := [(0, .inr (.inr (some 48))), (1, .inr (.inr (some a1))), (2, .inl a2), (3, .inl a3), (4, .inl a4), (5, .inl v5_78), (6, .inl v6_78), (7, .inl v7_92)]) (st' := [.inr (.inr (some 48)), .inl v7_92]) (h' := gc_h sh I90 J91 A) (C := ((True ∧ True) ∧ True)) rfl ⟨⟨trivial, trivial⟩, trivial⟩ ?_
        have f316 := (show 0 ≤ I90 48 18 ∧ I90 48 18 ≤ 24 from gc_in hI90 R_48 rfl rfl)
        refine gv_get hD rfl rfl S_48 ⟨by decide, B_48⟩ (gc_hI S_48 rfl) ?_
        show gv_X _ _ (189, [(0, .inr (.inr (some 48))), (1, .inr (.inr (some a1))), (2, .inl a2), (3, .inl a3), (4, .inl a4), (5, .inl v5_78), (6, .inl v6_78), (7, .inl v7_92)], [.inl (I90 48 18), .inl v7_92], sh, gc_h sh I90 J91 A)
        refine gv_run 2 true hD (pc' := 192) (lv' := [(0, .inr (.inr (some 48))), (1, .inr (.inr (some a1))), (2, .inl a2), (3, .inl a3), (4, .inl a4), (5, .inl v5_78), (6, .inl v6_78), (7, .inl v7_92)]) (st' := [.inl ((I90 48 18) - v5_78), .inl v7_92]) (h' := gc_h sh I90 J91 A) (C := ((True ∧ True) ∧ True)) rfl ⟨⟨trivial, trivial⟩, trivial⟩ ?_
        refine gv_icmp_gt (t := 360) hD rfl rfl ⟨⟨by omega, by omega⟩, ⟨by omega, by omega⟩⟩ (fun c317 => ?_) (fun c317 => ?_)
        · show gv_X _ _ (360, [(0, .inr (.inr (some 48))), (1, .inr (.inr (some a1))), (2, .inl a2), (3, .inl a3), (4, .inl a4), (5, .inl v5_78), (6, .inl v6_78), (7, .inl v7_92)], [], sh, gc_h sh I90 J91 A)
          refine gv_pick [] rfl ?_
          exact L360 (by omega)
        · show gv_X _ _ (195, [(0, .inr (.inr (some 48))), (1, .inr (.inr (some a1))), (2, .inl a2), (3, .inl a3), (4, .inl a4), (5, .inl v5_78), (6, .inl v6_78), (7, .inl v7_92)], [], sh, gc_h sh I90 J91 A)
          refine gv_run 1 true hD (pc' := 196) (lv' := [(0, .inr (.inr (some 48))), (1, .inr (.inr (some a1))), (2, .inl a2), (3, .inl a3), (4, .inl a4), (5, .inl v5_78), (6, .inl v6_78), (7, .inl v7_92)]) (st' := [.inr (.inr (some 48))]) (h' := gc_h sh I90 J91 A) (C := (True ∧ True)) rfl ⟨trivial, trivial⟩ ?_
          have f318 := (show 0 ≤ I90 48 12 ∧ I90 48 12 ≤ 1 from gc_in hI90 R_48 rfl rfl)
          refine gv_get hD rfl rfl S_48 ⟨by decide, B_48⟩ (gc_hI S_48 rfl) ?_
          show gv_X _ _ (199, [(0, .inr (.inr (some 48))), (1, .inr (.inr (some a1))), (2, .inl a2), (3, .inl a3), (4, .inl a4), (5, .inl v5_78), (6, .inl v6_78), (7, .inl v7_92)], [.inl (I90 48 12)], sh, gc_h sh I90 J91 A)
          refine gv_if_ne (t := 360) hD rfl rfl ⟨by omega, by omega⟩ (fun c319 => ?_) (fun c319 => ?_)
          · show gv_X _ _ (360, [(0, .inr (.inr (some 48))), (1, .inr (.inr (some a1))), (2, .inl a2), (3, .inl a3), (4, .inl a4), (5, .inl v5_78), (6, .inl v6_78), (7, .inl v7_92)], [], sh, gc_h sh I90 J91 A)
            refine gv_pick [] rfl ?_
            exact L360 (by omega)
          · show gv_X _ _ (202, [(0, .inr (.inr (some 48))), (1, .inr (.inr (some a1))), (2, .inl a2), (3, .inl a3), (4, .inl a4), (5, .inl v5_78), (6, .inl v6_78), (7, .inl v7_92)], [], sh, gc_h sh I90 J91 A)
            refine gv_run 5 true hD (pc' := 209) (lv' := [(0, .inr (.inr (some 48))), (1, .inr (.inr (some a1))), (2, .inl a2), (3, .inl a3), (4, .inl a4), (5, .inl v5_78), (6, .inl v6_78), (7, .inl v7_92)]) (st' := [.inl v6_78, .inl (v7_92 - a3), .inl a3]) (h' := gc_h sh I90 J91 A) (C := (((((True ∧ True) ∧ True) ∧ True) ∧ True) ∧ True)) rfl ⟨⟨⟨⟨⟨trivial, trivial⟩, trivial⟩, trivial⟩, trivial⟩, trivial⟩ ?_
            obtain ⟨r320, h320, E320, P320⟩ := d_X0_spanAt (ws0 := ws0) (tb := tb) hws htb sh ro I90 J91 A hI90  a3 (v7_92 - a3) v6_78 hb   ⟨by omega, by omega⟩ ⟨by omega, by omega⟩ ⟨by omega, by omega⟩  
            obtain ⟨rfl, ⟨z320, rfl, q320⟩⟩ := P320
            refine gv_callS hD rfl (As := [.inl a3, .inl (v7_92 - a3), .inl v6_78]) (st := []) rfl (gc_lS0 hws rfl) (Nat.le_of_ble_eq_true rfl) (gz_Ev_mono (d := 1) (by omega) E320) ?_
            show gv_X _ _ (212, [(0, .inr (.inr (some 48))), (1, .inr (.inr (some a1))), (2, .inl a2), (3, .inl a3), (4, .inl a4), (5, .inl v5_78), (6, .inl v6_78), (7, .inl v7_92)], [.inl z320], sh, gc_h sh I90 J91 A)
            refine gv_run 2 true hD (pc' := 215) (lv' := [(8, .inl z320), (0, .inr (.inr (some 48))), (1, .inr (.inr (some a1))), (2, .inl a2), (3, .inl a3), (4, .inl a4), (5, .inl v5_78), (6, .inl v6_78), (7, .inl v7_92)]) (st' := [.inr (.inr (some 48))]) (h' := gc_h sh I90 J91 A) (C := ((True ∧ True) ∧ True)) rfl ⟨⟨trivial, trivial⟩, trivial⟩ ?_
            refine gv_get hD rfl rfl S_48 ⟨by decide, B_48⟩ (gc_hA S_48 rfl A_48_1) ?_
            show gv_X _ _ (218, [(8, .inl z320), (0, .inr (.inr (some 48))), (1, .inr (.inr (some a1))), (2, .inl a2), (3, .inl a3), (4, .inl a4), (5, .inl v5_78), (6, .inl v6_78), (7, .inl v7_92)], [.inr (.inr (some 49))], sh, gc_h sh I90 J91 A)
            refine gv_run 1 true hD (pc' := 220) (lv' := [(8, .inl z320), (0, .inr (.inr (some 48))), (1, .inr (.inr (some a1))), (2, .inl a2), (3, .inl a3), (4, .inl a4), (5, .inl v5_78), (6, .inl v6_78), (7, .inl v7_92)]) (st' := [.inl z320, .inr (.inr (some 49))]) (h' := gc_h sh I90 J91 A) (C := (True ∧ True)) rfl ⟨trivial, trivial⟩ ?_
            have f321 := (show 0 ≤ I90 49 (Int.toNat z320) ∧ I90 49 (Int.toNat z320) ≤ 3000 from gc_in hI90 R_49 rfl rfl)
            refine gv_iald hD rfl S_49 rfl ⟨by decide, B_49⟩ ⟨by omega, by omega⟩ (gc_iI S_49 rfl) ?_
            show gv_X _ _ (221, [(8, .inl z320), (0, .inr (.inr (some 48))), (1, .inr (.inr (some a1))), (2, .inl a2), (3, .inl a3), (4, .inl a4), (5, .inl v5_78), (6, .inl v6_78), (7, .inl v7_92)], [.inl (I90 49 (Int.toNat z320))], sh, gc_h sh I90 J91 A)
            refine gv_run 1 true hD (pc' := 223) (lv' := [(9, .inl (I90 49 (Int.toNat z320))), (8, .inl z320), (0, .inr (.inr (some 48))), (1, .inr (.inr (some a1))), (2, .inl a2), (3, .inl a3), (4, .inl a4), (5, .inl v5_78), (6, .inl v6_78), (7, .inl v7_92)]) (st' := []) (h' := gc_h sh I90 J91 A) (C := (True ∧ True)) rfl ⟨trivial, trivial⟩ ?_
            refine gv_pick [2, 3, 4, 5, 6, 7, 8, 9, 1, 0] rfl ?_
            exact L223 _ I90 J91 z320 ((I90 49 (Int.toNat z320))) (Nat.lt_succ_self _) hI90 FI90 FJ91 KWV_I90 KFN_I90 (by omega)
    refine gv_run 1 true hD (pc' := 183) (lv' := [(7, .inl s0_78), (0, .inr (.inr (some 48))), (1, .inr (.inr (some a1))), (2, .inl a2), (3, .inl a3), (4, .inl a4), (5, .inl v5_78), (6, .inl v6_78)]) (st' := []) (h' := gc_h sh I J A) (C := (True ∧ True)) rfl ⟨trivial, trivial⟩ ?_
    refine gv_pick [1, 2, 3, 4, 5, 6, 7, 0] rfl ?_
    exact L183 _ I J s0_78 (Nat.lt_succ_self _) hI FI FJ KWV_I KFN_I (by omega)
  refine gv_run 2 true hD (pc' := 2) (lv' := [(0, .inr (.inr (some 48))), (1, .inr (.inr (some a1))), (2, .inl a2), (3, .inl a3), (4, .inl a4)]) (st' := [.inr (.inr (some a1)), .inl a2]) (h' := gc_h sh I J A) (C := ((True ∧ True) ∧ True)) rfl ⟨⟨trivial, trivial⟩, trivial⟩ ?_
  have f322 := (show 0 ≤ I a1 4 ∧ I a1 4 ≤ 6 from gc_in hI R_a1 rfl rfl)
  refine gv_get hD rfl rfl S_a1 ⟨by decide, B_a1⟩ (gc_hI S_a1 rfl) ?_
  show gv_X _ _ (5, [(0, .inr (.inr (some 48))), (1, .inr (.inr (some a1))), (2, .inl a2), (3, .inl a3), (4, .inl a4)], [.inl (I a1 4), .inl a2], sh, gc_h sh I J A)
  refine gv_icmp_lt (t := 42) hD rfl rfl ⟨⟨by omega, by omega⟩, ⟨by omega, by omega⟩⟩ (fun c323 => ?_) (fun c323 => ?_)
  · show gv_X _ _ (42, [(0, .inr (.inr (some 48))), (1, .inr (.inr (some a1))), (2, .inl a2), (3, .inl a3), (4, .inl a4)], [], sh, gc_h sh I J A)
    refine gv_run 1 true hD (pc' := 43) (lv' := [(0, .inr (.inr (some 48))), (1, .inr (.inr (some a1))), (2, .inl a2), (3, .inl a3), (4, .inl a4)]) (st' := [.inr (.inr (some a1))]) (h' := gc_h sh I J A) (C := (True ∧ True)) rfl ⟨trivial, trivial⟩ ?_
    have f324 := (show 0 ≤ I a1 4 ∧ I a1 4 ≤ 6 from gc_in hI R_a1 rfl rfl)
    refine gv_get hD rfl rfl S_a1 ⟨by decide, B_a1⟩ (gc_hI S_a1 rfl) ?_
    show gv_X _ _ (46, [(0, .inr (.inr (some 48))), (1, .inr (.inr (some a1))), (2, .inl a2), (3, .inl a3), (4, .inl a4)], [.inl (I a1 4)], sh, gc_h sh I J A)
    refine gv_run 6 true hD (pc' := 53) (lv' := [(5, .inl (((I a1 4) - a2) - 1)), (0, .inr (.inr (some 48))), (1, .inr (.inr (some a1))), (2, .inl a2), (3, .inl a3), (4, .inl a4)]) (st' := [.inr (.inr (some a1))]) (h' := gc_h sh I J A) (C := ((((((True ∧ True) ∧ True) ∧ True) ∧ True) ∧ True) ∧ True)) rfl ⟨⟨⟨⟨⟨⟨trivial, trivial⟩, trivial⟩, trivial⟩, trivial⟩, trivial⟩, trivial⟩ ?_
    refine gv_get hD rfl rfl S_a1 ⟨by decide, B_a1⟩ (gc_hA S_a1 rfl A_a1_5) ?_
    show gv_X _ _ (56, [(5, .inl (((I a1 4) - a2) - 1)), (0, .inr (.inr (some 48))), (1, .inr (.inr (some a1))), (2, .inl a2), (3, .inl a3), (4, .inl a4)], [.inr (.inr (some (a1 + 1)))], sh, gc_h sh I J A)
    refine gv_run 1 true hD (pc' := 57) (lv' := [(5, .inl (((I a1 4) - a2) - 1)), (0, .inr (.inr (some 48))), (1, .inr (.inr (some a1))), (2, .inl a2), (3, .inl a3), (4, .inl a4)]) (st' := [.inl a2, .inr (.inr (some (a1 + 1)))]) (h' := gc_h sh I J A) (C := (True ∧ True)) rfl ⟨trivial, trivial⟩ ?_
    have f325 := (show (-1) ≤ I (a1 + 1) (Int.toNat a2) ∧ I (a1 + 1) (Int.toNat a2) ≤ 3 from gc_in hI R_a1_1 rfl rfl)
    refine gv_iald hD rfl S_a1_1 rfl ⟨by decide, B_a1_1⟩ ⟨by omega, by omega⟩ (gc_iI S_a1_1 rfl) ?_
    show gv_X _ _ (58, [(5, .inl (((I a1 4) - a2) - 1)), (0, .inr (.inr (some 48))), (1, .inr (.inr (some a1))), (2, .inl a2), (3, .inl a3), (4, .inl a4)], [.inl (I (a1 + 1) (Int.toNat a2))], sh, gc_h sh I J A)
    refine gv_if_ge (t := 143) hD rfl rfl ⟨by omega, by omega⟩ (fun c326 => ?_) (fun c326 => ?_)
    · show gv_X _ _ (143, [(5, .inl (((I a1 4) - a2) - 1)), (0, .inr (.inr (some 48))), (1, .inr (.inr (some a1))), (2, .inl a2), (3, .inl a3), (4, .inl a4)], [], sh, gc_h sh I J A)
      have t327 := gc_ac_lt (f := I (a1 + 1)) (n := Int.toNat a2) (m := Int.toNat (I a1 4)) (by omega) (by omega)
      have t328 := (show I a1 8 = gc_ac (I (a1 + 1)) (Int.toNat (I a1 4)) from x2)
      refine gv_run 1 true hD (pc' := 144) (lv' := [(5, .inl (((I a1 4) - a2) - 1)), (0, .inr (.inr (some 48))), (1, .inr (.inr (some a1))), (2, .inl a2), (3, .inl a3), (4, .inl a4)]) (st' := [.inr (.inr (some 48))]) (h' := gc_h sh I J A) (C := (True ∧ True)) rfl ⟨trivial, trivial⟩ ?_
      refine gv_get hD rfl rfl S_48 ⟨by decide, B_48⟩ (gc_hA S_48 rfl A_48_0) ?_
      show gv_X _ _ (147, [(5, .inl (((I a1 4) - a2) - 1)), (0, .inr (.inr (some 48))), (1, .inr (.inr (some a1))), (2, .inl a2), (3, .inl a3), (4, .inl a4)], [.inr (.inr (some 1))], sh, gc_h sh I J A)
      refine gv_get hD rfl rfl S_1 ⟨by decide, B_1⟩ (gc_hA S_1 rfl A_1_8) ?_
      show gv_X _ _ (150, [(5, .inl (((I a1 4) - a2) - 1)), (0, .inr (.inr (some 48))), (1, .inr (.inr (some a1))), (2, .inl a2), (3, .inl a3), (4, .inl a4)], [.inr (.inr (some 13))], sh, gc_h sh I J A)
      refine gv_run 1 true hD (pc' := 151) (lv' := [(5, .inl (((I a1 4) - a2) - 1)), (0, .inr (.inr (some 48))), (1, .inr (.inr (some a1))), (2, .inl a2), (3, .inl a3), (4, .inl a4)]) (st' := [.inr (.inr (some a1)), .inr (.inr (some 13))]) (h' := gc_h sh I J A) (C := (True ∧ True)) rfl ⟨trivial, trivial⟩ ?_
      have f329 := (show 0 ≤ I a1 1 ∧ I a1 1 ≤ 95 from gc_in hI R_a1 rfl rfl)
      refine gv_get hD rfl rfl S_a1 ⟨by decide, B_a1⟩ (gc_hI S_a1 rfl) ?_
      show gv_X _ _ (154, [(5, .inl (((I a1 4) - a2) - 1)), (0, .inr (.inr (some 48))), (1, .inr (.inr (some a1))), (2, .inl a2), (3, .inl a3), (4, .inl a4)], [.inl (I a1 1), .inr (.inr (some 13))], sh, gc_h sh I J A)
      refine gv_run 3 true hD (pc' := 157) (lv' := [(5, .inl (((I a1 4) - a2) - 1)), (0, .inr (.inr (some 48))), (1, .inr (.inr (some a1))), (2, .inl a2), (3, .inl a3), (4, .inl a4)]) (st' := [.inr (.inr (some a1)), .inl ((I a1 1) * 4), .inr (.inr (some 13))]) (h' := gc_h sh I J A) (C := (((True ∧ True) ∧ True) ∧ True)) rfl ⟨⟨⟨trivial, trivial⟩, trivial⟩, trivial⟩ ?_
      refine gv_get hD rfl rfl S_a1 ⟨by decide, B_a1⟩ (gc_hA S_a1 rfl A_a1_5) ?_
      show gv_X _ _ (160, [(5, .inl (((I a1 4) - a2) - 1)), (0, .inr (.inr (some 48))), (1, .inr (.inr (some a1))), (2, .inl a2), (3, .inl a3), (4, .inl a4)], [.inr (.inr (some (a1 + 1))), .inl ((I a1 1) * 4), .inr (.inr (some 13))], sh, gc_h sh I J A)
      refine gv_run 1 true hD (pc' := 161) (lv' := [(5, .inl (((I a1 4) - a2) - 1)), (0, .inr (.inr (some 48))), (1, .inr (.inr (some a1))), (2, .inl a2), (3, .inl a3), (4, .inl a4)]) (st' := [.inl a2, .inr (.inr (some (a1 + 1))), .inl ((I a1 1) * 4), .inr (.inr (some 13))]) (h' := gc_h sh I J A) (C := (True ∧ True)) rfl ⟨trivial, trivial⟩ ?_
      have f330 := (show (-1) ≤ I (a1 + 1) (Int.toNat a2) ∧ I (a1 + 1) (Int.toNat a2) ≤ 3 from gc_in hI R_a1_1 rfl rfl)
      refine gv_iald hD rfl S_a1_1 rfl ⟨by decide, B_a1_1⟩ ⟨by omega, by omega⟩ (gc_iI S_a1_1 rfl) ?_
      show gv_X _ _ (162, [(5, .inl (((I a1 4) - a2) - 1)), (0, .inr (.inr (some 48))), (1, .inr (.inr (some a1))), (2, .inl a2), (3, .inl a3), (4, .inl a4)], [.inl (I (a1 + 1) (Int.toNat a2)), .inl ((I a1 1) * 4), .inr (.inr (some 13))], sh, gc_h sh I J A)
      refine gv_run 1 true hD (pc' := 163) (lv' := [(5, .inl (((I a1 4) - a2) - 1)), (0, .inr (.inr (some 48))), (1, .inr (.inr (some a1))), (2, .inl a2), (3, .inl a3), (4, .inl a4)]) (st' := [.inl (((I a1 1) * 4) + (I (a1 + 1) (Int.toNat a2))), .inr (.inr (some 13))]) (h' := gc_h sh I J A) (C := (True ∧ True)) rfl ⟨trivial, trivial⟩ ?_
      have f331 := (show 0 ≤ I 13 (Int.toNat ((((I a1 1) * 4) + (I (a1 + 1) (Int.toNat a2))))) ∧ I 13 (Int.toNat ((((I a1 1) * 4) + (I (a1 + 1) (Int.toNat a2))))) ≤ 31 from gc_in hI R_13 rfl rfl)
      refine gv_iald hD rfl S_13 rfl ⟨by decide, B_13⟩ ⟨by omega, by omega⟩ (gc_iI S_13 rfl) ?_
      show gv_X _ _ (164, [(5, .inl (((I a1 4) - a2) - 1)), (0, .inr (.inr (some 48))), (1, .inr (.inr (some a1))), (2, .inl a2), (3, .inl a3), (4, .inl a4)], [.inl (I 13 (Int.toNat ((((I a1 1) * 4) + (I (a1 + 1) (Int.toNat a2))))))], sh, gc_h sh I J A)
      refine gv_run 2 true hD (pc' := 168) (lv' := [(6, .inl (I 13 (Int.toNat ((((I a1 1) * 4) + (I (a1 + 1) (Int.toNat a2))))))), (5, .inl (((I a1 4) - a2) - 1)), (0, .inr (.inr (some 48))), (1, .inr (.inr (some a1))), (2, .inl a2), (3, .inl a3), (4, .inl a4)]) (st' := [.inl (((I a1 4) - a2) - 1)]) (h' := gc_h sh I J A) (C := ((True ∧ True) ∧ True)) rfl ⟨⟨trivial, trivial⟩, trivial⟩ ?_
      refine gv_if_ne (t := 178) hD rfl rfl ⟨by omega, by omega⟩ (fun c332 => ?_) (fun c332 => ?_)
      · show gv_X _ _ (178, [(6, .inl (I 13 (Int.toNat ((((I a1 1) * 4) + (I (a1 + 1) (Int.toNat a2))))))), (5, .inl (((I a1 4) - a2) - 1)), (0, .inr (.inr (some 48))), (1, .inr (.inr (some a1))), (2, .inl a2), (3, .inl a3), (4, .inl a4)], [], sh, gc_h sh I J A)
        refine gv_run 3 true hD (pc' := 181) (lv' := [(6, .inl (I 13 (Int.toNat ((((I a1 1) * 4) + (I (a1 + 1) (Int.toNat a2))))))), (5, .inl (((I a1 4) - a2) - 1)), (0, .inr (.inr (some 48))), (1, .inr (.inr (some a1))), (2, .inl a2), (3, .inl a3), (4, .inl a4)]) (st' := [.inl (a3 + 1)]) (h' := gc_h sh I J A) (C := (((True ∧ True) ∧ True) ∧ True)) rfl ⟨⟨⟨trivial, trivial⟩, trivial⟩, trivial⟩ ?_
        refine gv_pick [2, 3, 4, 5, 6, 1, 0] rfl ?_
        exact L181 ((((I a1 4) - a2) - 1)) ((I 13 (Int.toNat ((((I a1 1) * 4) + (I (a1 + 1) (Int.toNat a2))))))) (a3 + 1) (by omega)
      · show gv_X _ _ (171, [(6, .inl (I 13 (Int.toNat ((((I a1 1) * 4) + (I (a1 + 1) (Int.toNat a2))))))), (5, .inl (((I a1 4) - a2) - 1)), (0, .inr (.inr (some 48))), (1, .inr (.inr (some a1))), (2, .inl a2), (3, .inl a3), (4, .inl a4)], [], sh, gc_h sh I J A)
        refine gv_run 1 true hD (pc' := 172) (lv' := [(6, .inl (I 13 (Int.toNat ((((I a1 1) * 4) + (I (a1 + 1) (Int.toNat a2))))))), (5, .inl (((I a1 4) - a2) - 1)), (0, .inr (.inr (some 48))), (1, .inr (.inr (some a1))), (2, .inl a2), (3, .inl a3), (4, .inl a4)]) (st' := [.inr (.inr (some 48))]) (h' := gc_h sh I J A) (C := (True ∧ True)) rfl ⟨trivial, trivial⟩ ?_
        have f333 := (show 0 ≤ I 48 18 ∧ I 48 18 ≤ 24 from gc_in hI R_48 rfl rfl)
        refine gv_get hD rfl rfl S_48 ⟨by decide, B_48⟩ (gc_hI S_48 rfl) ?_
        show gv_X _ _ (175, [(6, .inl (I 13 (Int.toNat ((((I a1 1) * 4) + (I (a1 + 1) (Int.toNat a2))))))), (5, .inl (((I a1 4) - a2) - 1)), (0, .inr (.inr (some 48))), (1, .inr (.inr (some a1))), (2, .inl a2), (3, .inl a3), (4, .inl a4)], [.inl (I 48 18)], sh, gc_h sh I J A)
        refine gv_run 1 true hD (pc' := 181) (lv' := [(6, .inl (I 13 (Int.toNat ((((I a1 1) * 4) + (I (a1 + 1) (Int.toNat a2))))))), (5, .inl (((I a1 4) - a2) - 1)), (0, .inr (.inr (some 48))), (1, .inr (.inr (some a1))), (2, .inl a2), (3, .inl a3), (4, .inl a4)]) (st' := [.inl (I 48 18)]) (h' := gc_h sh I J A) (C := (True ∧ True)) rfl ⟨trivial, trivial⟩ ?_
        refine gv_pick [2, 3, 4, 5, 6, 1, 0] rfl ?_
        exact L181 ((((I a1 4) - a2) - 1)) ((I 13 (Int.toNat ((((I a1 1) * 4) + (I (a1 + 1) (Int.toNat a2))))))) (I 48 18) (by omega)
    · show gv_X _ _ (61, [(5, .inl (((I a1 4) - a2) - 1)), (0, .inr (.inr (some 48))), (1, .inr (.inr (some a1))), (2, .inl a2), (3, .inl a3), (4, .inl a4)], [], sh, gc_h sh I J A)
      refine gv_run 1 true hD (pc' := 63) (lv' := [(5, .inl (((I a1 4) - a2) - 1)), (0, .inr (.inr (some 48))), (1, .inr (.inr (some a1))), (2, .inl a2), (3, .inl a3), (4, .inl a4)]) (st' := [.inl (((I a1 4) - a2) - 1)]) (h' := gc_h sh I J A) (C := (True ∧ True)) rfl ⟨trivial, trivial⟩ ?_
      refine gv_if_ne (t := 84) hD rfl rfl ⟨by omega, by omega⟩ (fun c334 => ?_) (fun c334 => ?_)
      · show gv_X _ _ (84, [(5, .inl (((I a1 4) - a2) - 1)), (0, .inr (.inr (some 48))), (1, .inr (.inr (some a1))), (2, .inl a2), (3, .inl a3), (4, .inl a4)], [], sh, gc_h sh I J A)
        refine gv_run 6 true hD (pc' := 91) (lv' := [(5, .inl (((I a1 4) - a2) - 1)), (0, .inr (.inr (some 48))), (1, .inr (.inr (some a1))), (2, .inl a2), (3, .inl a3), (4, .inl a4)]) (st' := [.inr (.inr (some 48)), .inl ((a3 + 1) + (((I a1 4) - a2) - 1))]) (h' := gc_h sh I J A) (C := ((((((True ∧ True) ∧ True) ∧ True) ∧ True) ∧ True) ∧ True)) rfl ⟨⟨⟨⟨⟨⟨trivial, trivial⟩, trivial⟩, trivial⟩, trivial⟩, trivial⟩, trivial⟩ ?_
        have f335 := (show 0 ≤ I 48 18 ∧ I 48 18 ≤ 24 from gc_in hI R_48 rfl rfl)
        refine gv_get hD rfl rfl S_48 ⟨by decide, B_48⟩ (gc_hI S_48 rfl) ?_
        show gv_X _ _ (94, [(5, .inl (((I a1 4) - a2) - 1)), (0, .inr (.inr (some 48))), (1, .inr (.inr (some a1))), (2, .inl a2), (3, .inl a3), (4, .inl a4)], [.inl (I 48 18), .inl ((a3 + 1) + (((I a1 4) - a2) - 1))], sh, gc_h sh I J A)
        refine gv_icmp_gt (t := 101) hD rfl rfl ⟨⟨by omega, by omega⟩, ⟨by omega, by omega⟩⟩ (fun c336 => ?_) (fun c336 => ?_)
        · show gv_X _ _ (101, [(5, .inl (((I a1 4) - a2) - 1)), (0, .inr (.inr (some 48))), (1, .inr (.inr (some a1))), (2, .inl a2), (3, .inl a3), (4, .inl a4)], [], sh, gc_h sh I J A)
          refine gv_run 1 true hD (pc' := 102) (lv' := [(5, .inl (((I a1 4) - a2) - 1)), (0, .inr (.inr (some 48))), (1, .inr (.inr (some a1))), (2, .inl a2), (3, .inl a3), (4, .inl a4)]) (st' := [.inl 0]) (h' := gc_h sh I J A) (C := (True ∧ True)) rfl ⟨trivial, trivial⟩ ?_
          refine gv_pick [1, 2, 3, 4, 5] rfl ?_
          exact L102 0 (by omega)
        · show gv_X _ _ (97, [(5, .inl (((I a1 4) - a2) - 1)), (0, .inr (.inr (some 48))), (1, .inr (.inr (some a1))), (2, .inl a2), (3, .inl a3), (4, .inl a4)], [], sh, gc_h sh I J A)
          refine gv_run 2 true hD (pc' := 102) (lv' := [(5, .inl (((I a1 4) - a2) - 1)), (0, .inr (.inr (some 48))), (1, .inr (.inr (some a1))), (2, .inl a2), (3, .inl a3), (4, .inl a4)]) (st' := [.inl 1]) (h' := gc_h sh I J A) (C := ((True ∧ True) ∧ True)) rfl ⟨⟨trivial, trivial⟩, trivial⟩ ?_
          refine gv_pick [1, 2, 3, 4, 5] rfl ?_
          exact L102 1 (by omega)
      · show gv_X _ _ (66, [(5, .inl (((I a1 4) - a2) - 1)), (0, .inr (.inr (some 48))), (1, .inr (.inr (some a1))), (2, .inl a2), (3, .inl a3), (4, .inl a4)], [], sh, gc_h sh I J A)
        refine gv_run 4 true hD (pc' := 70) (lv' := [(5, .inl (((I a1 4) - a2) - 1)), (0, .inr (.inr (some 48))), (1, .inr (.inr (some a1))), (2, .inl a2), (3, .inl a3), (4, .inl a4)]) (st' := [.inr (.inr (some 48)), .inl (a3 + 1)]) (h' := gc_h sh I J A) (C := ((((True ∧ True) ∧ True) ∧ True) ∧ True)) rfl ⟨⟨⟨⟨trivial, trivial⟩, trivial⟩, trivial⟩, trivial⟩ ?_
        have f337 := (show 0 ≤ I 48 18 ∧ I 48 18 ≤ 24 from gc_in hI R_48 rfl rfl)
        refine gv_get hD rfl rfl S_48 ⟨by decide, B_48⟩ (gc_hI S_48 rfl) ?_
        show gv_X _ _ (73, [(5, .inl (((I a1 4) - a2) - 1)), (0, .inr (.inr (some 48))), (1, .inr (.inr (some a1))), (2, .inl a2), (3, .inl a3), (4, .inl a4)], [.inl (I 48 18), .inl (a3 + 1)], sh, gc_h sh I J A)
        refine gv_icmp_ne (t := 80) hD rfl rfl ⟨⟨by omega, by omega⟩, ⟨by omega, by omega⟩⟩ (fun c338 => ?_) (fun c338 => ?_)
        · show gv_X _ _ (80, [(5, .inl (((I a1 4) - a2) - 1)), (0, .inr (.inr (some 48))), (1, .inr (.inr (some a1))), (2, .inl a2), (3, .inl a3), (4, .inl a4)], [], sh, gc_h sh I J A)
          refine gv_run 2 true hD (pc' := 102) (lv' := [(5, .inl (((I a1 4) - a2) - 1)), (0, .inr (.inr (some 48))), (1, .inr (.inr (some a1))), (2, .inl a2), (3, .inl a3), (4, .inl a4)]) (st' := [.inl 0]) (h' := gc_h sh I J A) (C := ((True ∧ True) ∧ True)) rfl ⟨⟨trivial, trivial⟩, trivial⟩ ?_
          refine gv_pick [1, 2, 3, 4, 5] rfl ?_
          exact L102 0 (by omega)
        · show gv_X _ _ (76, [(5, .inl (((I a1 4) - a2) - 1)), (0, .inr (.inr (some 48))), (1, .inr (.inr (some a1))), (2, .inl a2), (3, .inl a3), (4, .inl a4)], [], sh, gc_h sh I J A)
          refine gv_run 2 true hD (pc' := 102) (lv' := [(5, .inl (((I a1 4) - a2) - 1)), (0, .inr (.inr (some 48))), (1, .inr (.inr (some a1))), (2, .inl a2), (3, .inl a3), (4, .inl a4)]) (st' := [.inl 1]) (h' := gc_h sh I J A) (C := ((True ∧ True) ∧ True)) rfl ⟨⟨trivial, trivial⟩, trivial⟩ ?_
          refine gv_pick [1, 2, 3, 4, 5] rfl ?_
          exact L102 1 (by omega)
  · show gv_X _ _ (8, [(0, .inr (.inr (some 48))), (1, .inr (.inr (some a1))), (2, .inl a2), (3, .inl a3), (4, .inl a4)], [], sh, gc_h sh I J A)
    refine gv_run 2 true hD (pc' := 10) (lv' := [(0, .inr (.inr (some 48))), (1, .inr (.inr (some a1))), (2, .inl a2), (3, .inl a3), (4, .inl a4)]) (st' := [.inr (.inr (some 48)), .inr (.inr (some a1))]) (h' := gc_h sh I J A) (C := ((True ∧ True) ∧ True)) rfl ⟨⟨trivial, trivial⟩, trivial⟩ ?_
    refine gv_get hD rfl rfl S_48 ⟨by decide, B_48⟩ (gc_hA S_48 rfl A_48_20) ?_
    show gv_X _ _ (13, [(0, .inr (.inr (some 48))), (1, .inr (.inr (some a1))), (2, .inl a2), (3, .inl a3), (4, .inl a4)], [.inr (.inr (some 59)), .inr (.inr (some a1))], sh, gc_h sh I J A)
    refine gv_run 1 true hD (pc' := 14) (lv' := [(0, .inr (.inr (some 48))), (1, .inr (.inr (some a1))), (2, .inl a2), (3, .inl a3), (4, .inl a4)]) (st' := [.inr (.inr (some 48)), .inr (.inr (some 59)), .inr (.inr (some a1))]) (h' := gc_h sh I J A) (C := (True ∧ True)) rfl ⟨trivial, trivial⟩ ?_
    refine gv_get hD rfl rfl S_48 ⟨by decide, B_48⟩ (gc_hA S_48 rfl A_48_21) ?_
    show gv_X _ _ (17, [(0, .inr (.inr (some 48))), (1, .inr (.inr (some a1))), (2, .inl a2), (3, .inl a3), (4, .inl a4)], [.inr (.inr (some 60)), .inr (.inr (some 59)), .inr (.inr (some a1))], sh, gc_h sh I J A)
    obtain ⟨r339, h339, E339, P339⟩ := d_X3_unite (ws0 := ws0) (tb := tb) hws htb sh ro I J A hI a1 4 4 59 60 h_a1 S_59 R_59 B_59 (by decide) S_60 R_60 B_60 (by decide)   (by omega) (by omega) 
    obtain ⟨I340, J341, rfl, hI340, g339, k339, ⟨z339, rfl, q339⟩⟩ := P339
    have FI340 := gc_frc (W := fun q j => (q = 48 ∧ j = 3) ∨ (q = 48 ∧ j = 6) ∨ (q = 48 ∧ j = 12) ∨ q = 51 ∨ q = 52 ∨ q = 53 ∨ q = 54 ∨ q = 55 ∨ (q = 48 ∧ j = 11) ∨ q = 58 ∨ q = 59 ∨ q = 60) (V := fun q j => q = 60) FI (fun q j h => (Or.inr (Or.inr (Or.inr (Or.inr (Or.inr (Or.inr (Or.inr (Or.inr (Or.inr (Or.inr (Or.inr h)))))))))))) g339
    have t342 := (g339 48 3).resolve_left (by omega)
    have t343 := (g339 48 6).resolve_left (by omega)
    have t344 := (g339 48 11).resolve_left (by omega)
    have t345 := (g339 48 12).resolve_left (by omega)
    have t346 := (g339 48 17).resolve_left (by omega)
    have t347 := (g339 48 18).resolve_left (by omega)
    have t348 := (g339 t 13).resolve_left (by omega)
    have t349 := (g339 x 4).resolve_left (by omega)
    have t350 := (g339 a1 4).resolve_left (by omega)
    have t351 := (g339 48 13).resolve_left (by omega)
    have t352 := (g339 48 14).resolve_left (by omega)
    have f353 := (show 0 ≤ I340 48 3 ∧ I340 48 3 ≤ 3000 from gc_in hI340 R_48 rfl rfl)
    have f354 := (show 0 ≤ I340 48 6 ∧ I340 48 6 ≤ 9000 from gc_in hI340 R_48 rfl rfl)
    have f355 := (show 0 ≤ I340 48 11 ∧ I340 48 11 ≤ 1000000 from gc_in hI340 R_48 rfl rfl)
    have f356 := (show 0 ≤ I340 48 12 ∧ I340 48 12 ≤ 1 from gc_in hI340 R_48 rfl rfl)
    have f357 := (show 0 ≤ I340 48 17 ∧ I340 48 17 ≤ 3000 from gc_in hI340 R_48 rfl rfl)
    have f358 := (show 0 ≤ I340 48 18 ∧ I340 48 18 ≤ 24 from gc_in hI340 R_48 rfl rfl)
    have f359 := (show 0 ≤ I340 t 13 ∧ I340 t 13 ≤ 384 from gc_in hI340 R_t rfl rfl)
    have f360 := (show 0 ≤ I340 x 4 ∧ I340 x 4 ≤ 24 from gc_in hI340 R_x rfl rfl)
    have f361 := (show 0 ≤ I340 a1 4 ∧ I340 a1 4 ≤ 6 from gc_in hI340 R_a1 rfl rfl)
    have f362 := (show (-1) ≤ I340 48 13 ∧ I340 48 13 ≤ 999999 from gc_in hI340 R_48 rfl rfl)
    have f363 := (show (-1) ≤ I340 48 14 ∧ I340 48 14 ≤ 999999 from gc_in hI340 R_48 rfl rfl)
    obtain rfl : J = J341 := funext fun q => funext fun j => ((k339 q j).resolve_left id).symm
    have KWV_I340 := gc_WV_fr KWV_I ((g339 48 6).resolve_left (by omega)) ((g339 t 13).resolve_left (by omega)) (fun k => (g339 54 k).resolve_left (by omega))
    have KFN_I340 := gc_FN_fr KFN_I (fun k => (g339 49 k).resolve_left (by omega)) (fun k => (g339 50 k).resolve_left (by omega))
    refine gv_callV hD rfl (As := [.inr (.inr (some 59)), .inr (.inr (some 60))]) (st := []) rfl B_a1 S_a1 rfl (gc_lV0 hws rfl) (Nat.le_of_ble_eq_true rfl) (gz_Ev_mono (d := 1) (by omega) E339) ?_
    show gv_X _ _ (20, [(0, .inr (.inr (some 48))), (1, .inr (.inr (some a1))), (2, .inl a2), (3, .inl a3), (4, .inl a4)], [.inl z339], sh, gc_h sh I340 J A)
    refine gv_run 2 true hD (pc' := 24) (lv' := [(5, .inl z339), (0, .inr (.inr (some 48))), (1, .inr (.inr (some a1))), (2, .inl a2), (3, .inl a3), (4, .inl a4)]) (st' := [.inl z339]) (h' := gc_h sh I340 J A) (C := ((True ∧ True) ∧ True)) rfl ⟨⟨trivial, trivial⟩, trivial⟩ ?_
    refine gv_if_lt (t := 41) hD rfl rfl ⟨by omega, by omega⟩ (fun c364 => ?_) (fun c364 => ?_)
    · show gv_X _ _ (41, [(5, .inl z339), (0, .inr (.inr (some 48))), (1, .inr (.inr (some a1))), (2, .inl a2), (3, .inl a3), (4, .inl a4)], [], sh, gc_h sh I340 J A)
      refine gv_pick [] rfl ?_
      exact L41 I340 J hI340 FI340 FJ KWV_I340 KFN_I340 (by omega)
    · show gv_X _ _ (27, [(5, .inl z339), (0, .inr (.inr (some 48))), (1, .inr (.inr (some a1))), (2, .inl a2), (3, .inl a3), (4, .inl a4)], [], sh, gc_h sh I340 J A)
      refine gv_run 3 true hD (pc' := 30) (lv' := [(5, .inl z339), (0, .inr (.inr (some 48))), (1, .inr (.inr (some a1))), (2, .inl a2), (3, .inl a3), (4, .inl a4)]) (st' := [.inr (.inr (some a1)), .inl (-1), .inr (.inr (some 48))]) (h' := gc_h sh I340 J A) (C := (((True ∧ True) ∧ True) ∧ True)) rfl ⟨⟨⟨trivial, trivial⟩, trivial⟩, trivial⟩ ?_
      have f365 := (show 0 ≤ I340 a1 0 ∧ I340 a1 0 ≤ 384 from gc_in hI340 R_a1 rfl rfl)
      refine gv_get hD rfl rfl S_a1 ⟨by decide, B_a1⟩ (gc_hI S_a1 rfl) ?_
      show gv_X _ _ (33, [(5, .inl z339), (0, .inr (.inr (some 48))), (1, .inr (.inr (some a1))), (2, .inl a2), (3, .inl a3), (4, .inl a4)], [.inl (I340 a1 0), .inl (-1), .inr (.inr (some 48))], sh, gc_h sh I340 J A)
      refine gv_run 3 true hD (pc' := 38) (lv' := [(5, .inl z339), (0, .inr (.inr (some 48))), (1, .inr (.inr (some a1))), (2, .inl a2), (3, .inl a3), (4, .inl a4)]) (st' := [.inl a4, .inl z339, .inl ((-1) - (I340 a1 0)), .inr (.inr (some 48))]) (h' := gc_h sh I340 J A) (C := (((True ∧ True) ∧ True) ∧ True)) rfl ⟨⟨⟨trivial, trivial⟩, trivial⟩, trivial⟩ ?_
      obtain ⟨r366, h366, E366, P366⟩ := d_X0_putWay (ws0 := ws0) (tb := tb) hws htb sh ro I340 J A hI340  t (((-1) - (I340 a1 0))) z339 a4 hb  h_t G_t  ⟨by omega, by omega⟩ ⟨by omega, by omega⟩ ⟨by omega, by omega⟩ (by omega) (by omega) (by omega) KWV_I340
      obtain ⟨I367, J368, rfl, hI367, g366, k366, KWV_I367, ⟨rfl, q366⟩⟩ := P366
      have FI367 := gc_frc (W := fun q j => (q = 48 ∧ j = 3) ∨ (q = 48 ∧ j = 6) ∨ (q = 48 ∧ j = 12) ∨ q = 51 ∨ q = 52 ∨ q = 53 ∨ q = 54 ∨ q = 55 ∨ (q = 48 ∧ j = 11) ∨ q = 58 ∨ q = 59 ∨ q = 60) (V := fun q j => (q = 48 ∧ j = 3) ∨ (q = 48 ∧ j = 6) ∨ (q = 48 ∧ j = 12) ∨ q = 51 ∨ q = 52 ∨ q = 53 ∨ q = 54 ∨ q = 55) FI340 (fun q j h => (h.elim (fun h => (Or.inl h)) (fun h => (h.elim (fun h => (Or.inr (Or.inl h))) (fun h => (h.elim (fun h => (Or.inr (Or.inr (Or.inl h)))) (fun h => (h.elim (fun h => (Or.inr (Or.inr (Or.inr (Or.inl h))))) (fun h => (h.elim (fun h => (Or.inr (Or.inr (Or.inr (Or.inr (Or.inl h)))))) (fun h => (h.elim (fun h => (Or.inr (Or.inr (Or.inr (Or.inr (Or.inr (Or.inl h))))))) (fun h => (h.elim (fun h => (Or.inr (Or.inr (Or.inr (Or.inr (Or.inr (Or.inr (Or.inl h)))))))) (fun h => (Or.inr (Or.inr (Or.inr (Or.inr (Or.inr (Or.inr (Or.inr (Or.inl h))))))))))))))))))))))) g366
      have t369 := (g366 48 11).resolve_left (by omega)
      have t370 := (g366 48 17).resolve_left (by omega)
      have t371 := (g366 48 18).resolve_left (by omega)
      have t372 := (g366 t 13).resolve_left (by omega)
      have t373 := (g366 x 4).resolve_left (by omega)
      have t374 := (g366 a1 4).resolve_left (by omega)
      have t375 := (g366 48 13).resolve_left (by omega)
      have t376 := (g366 48 14).resolve_left (by omega)
      have f377 := (show 0 ≤ I367 48 3 ∧ I367 48 3 ≤ 3000 from gc_in hI367 R_48 rfl rfl)
      have f378 := (show 0 ≤ I367 48 6 ∧ I367 48 6 ≤ 9000 from gc_in hI367 R_48 rfl rfl)
      have f379 := (show 0 ≤ I367 48 11 ∧ I367 48 11 ≤ 1000000 from gc_in hI367 R_48 rfl rfl)
      have f380 := (show 0 ≤ I367 48 12 ∧ I367 48 12 ≤ 1 from gc_in hI367 R_48 rfl rfl)
      have f381 := (show 0 ≤ I367 48 17 ∧ I367 48 17 ≤ 3000 from gc_in hI367 R_48 rfl rfl)
      have f382 := (show 0 ≤ I367 48 18 ∧ I367 48 18 ≤ 24 from gc_in hI367 R_48 rfl rfl)
      have f383 := (show 0 ≤ I367 t 13 ∧ I367 t 13 ≤ 384 from gc_in hI367 R_t rfl rfl)
      have f384 := (show 0 ≤ I367 x 4 ∧ I367 x 4 ≤ 24 from gc_in hI367 R_x rfl rfl)
      have f385 := (show 0 ≤ I367 a1 4 ∧ I367 a1 4 ≤ 6 from gc_in hI367 R_a1 rfl rfl)
      have f386 := (show (-1) ≤ I367 48 13 ∧ I367 48 13 ≤ 999999 from gc_in hI367 R_48 rfl rfl)
      have f387 := (show (-1) ≤ I367 48 14 ∧ I367 48 14 ≤ 999999 from gc_in hI367 R_48 rfl rfl)
      obtain rfl : J = J368 := funext fun q => funext fun j => ((k366 q j).resolve_left id).symm
      have KFN_I367 := gc_FN_fr KFN_I340 (fun k => (g366 49 k).resolve_left (by omega)) (fun k => (g366 50 k).resolve_left (by omega))
      refine gv_callV hD rfl (As := [.inl ((-1) - (I340 a1 0)), .inl z339, .inl a4]) (st := []) rfl B_48 S_48 rfl (gc_lV0 hws rfl) (Nat.le_of_ble_eq_true rfl) (gz_Ev_mono (d := 2) (by omega) E366) ?_
      show gv_X _ _ (41, [(5, .inl z339), (0, .inr (.inr (some 48))), (1, .inr (.inr (some a1))), (2, .inl a2), (3, .inl a3), (4, .inl a4)], [], sh, gc_h sh I367 J A)
      refine gv_pick [] rfl ?_
      exact L41 I367 J hI367 FI367 FJ KWV_I367 KFN_I367 (by omega)
