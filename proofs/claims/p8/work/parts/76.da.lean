set_option maxHeartbeats 8000000 in
set_option maxRecDepth 100000 in
theorem d_X0_lay {ws0 : List Cond} {tb : String → gz_T} (hws : gc_Ws ws0) (htb : gc_tbs tb) (sh : gz_Sh) (ro : Nat → Nat) (A : gc_A) (t : Nat) (x : Nat) (σ : Nat → Int) (nw : Int) (nk : Int) (sz : Int) (bg : Int) (kd : Int) (wb : Int) (a1 : Nat) (hb : gc_Base sh ro A) (h_a1 : gc_isLin sh ro A a1) (G_a1 : 144 ≤ a1) (h_t : gc_isTongue sh ro A t) (G_t : 144 ≤ t) (h_x : gc_isText sh ro A x) (G_x : x + 3 < 39 ∨ (100 ≤ x ∧ x < 140)) : ∀ (nr : Nat) (I : gr_I) (J : gr_J) (hI : gc_Inv ro I) (a2 : Int) (a3 : Int) (a4 : Int) (ha2 : 0 ≤ a2 ∧ a2 ≤ 6) (ha3 : 0 ≤ a3 ∧ a3 ≤ 24) (ha4 : 0 ≤ a4 ∧ a4 ≤ 4) (x0 : a2 ≤ I a1 4) (x1 : a4 = gc_ac (I (a1 + 1)) (Int.toNat a2)) (x2 : gc_lv a1 I) (x3 : I a1 0 < I t 13) (x4 : a3 + I a1 4 - a2 ≤ I 48 18) (x5 : I 48 18 ≤ I x 4) (x6 : gc_SP x I) (x7 : 0 ≤ I 48 11) (x8 : I 48 17 ≤ I 48 3) (x9 : I 48 11 ≤ 400001) (x10 : I 48 18 = bg + sz) (x11 : bg + a2 ≤ a3) (x12 : gc_un a1 kd I) (x13 : gc_CH a4 I) (x14 : σ (Int.toNat (I a1 0)) = I a1 8) (x15 : I 2 1 = nk) (x16 : I x 4 = nw) (x17 : 0 ≤ bg) (x18 : 0 ≤ wb) (x19 : I 48 13 = (t : Int)) (x20 : I 48 14 = (x : Int)) (KWV_I : gc_WV t I) (KFN_I : gc_FN I) (KWA_I : gc_WA σ I) (KFD_I : gc_FD nw nk sz bg kd I) (KFZ_I : gc_FZ I) (KTR_I : gc_TR I) (KWB_I : gc_WB wb I) (_ : (7 - a2).toNat < nr), ∃ r h', gz_Ev ws0 tb (2 + nr) (yX0_lay, cX0_lay, 11, none) [.inr (.inr (some 48)), .inr (.inr (some a1)), .inl a2, .inl a3, .inl a4] sh (gc_h sh I J A) r sh h' 0 0 ∧ (∃ (I' : gr_I) (J' : gr_J), h' = gc_h sh I' J' A ∧ gc_Inv ro I' ∧ (∀ q j : Nat, ((q = 48 ∧ j = 3) ∨ (q = 48 ∧ j = 6) ∨ (q = 48 ∧ j = 12) ∨ q = 51 ∨ q = 52 ∨ q = 53 ∨ q = 54 ∨ q = 55 ∨ (q = 48 ∧ j = 11) ∨ q = 58 ∨ q = 59 ∨ q = 60) ∨ I' q j = I q j) ∧ (∀ q j : Nat, (False) ∨ J' q j = J q j) ∧ gc_WV t I' ∧ gc_FN I' ∧ gc_WA σ I' ∧ gc_FD nw nk sz bg kd I' ∧ gc_FZ I' ∧ gc_TR I' ∧ gc_WB wb I' ∧ r = none ∧ (0 ≤ I' 48 11) ∧ (I' 48 11 ≤ 400001) ∧ (I 48 3 ≤ I' 48 3) ∧ (gc_CH a4 I')) := by
  intro nr
  induction nr with
  | zero => intro I J hI a2 a3 a4 ha2 ha3 ha4 x0 x1 x2 x3 x4 x5 x6 x7 x8 x9 x10 x11 x12 x13 x14 x15 x16 x17 x18 x19 x20 KWV_I KFN_I KWA_I KFD_I KFZ_I KTR_I KWB_I hnr; exact gz_m 0 (by omega)
  | succ nr ihR =>
  intro I J hI a2 a3 a4 ha2 ha3 ha4 x0 x1 x2 x3 x4 x5 x6 x7 x8 x9 x10 x11 x12 x13 x14 x15 x16 x17 x18 x19 x20 KWV_I KFN_I KWA_I KFD_I KFZ_I KTR_I KWB_I hnr
  have FI : ∀ q j : Nat, ((q = 48 ∧ j = 3) ∨ (q = 48 ∧ j = 6) ∨ (q = 48 ∧ j = 12) ∨ q = 51 ∨ q = 52 ∨ q = 53 ∨ q = 54 ∨ q = 55 ∨ (q = 48 ∧ j = 11) ∨ q = 58 ∨ q = 59 ∨ q = 60) ∨ I q j = I q j := fun _ _ => Or.inr rfl
  have FJ : ∀ q j : Nat, (False) ∨ J q j = J q j := fun _ _ => Or.inr rfl
  have A_1_8 : A 1 8 = some 13 := gc_bA hb rfl
  have A_48_0 : A 48 0 = some 1 := gc_bA hb rfl
  have A_48_1 : A 48 1 = some 49 := gc_bA hb rfl
  have A_48_19 : A 48 19 = some 58 := gc_bA hb rfl
  have A_48_2 : A 48 2 = some 50 := gc_bA hb rfl
  have A_48_20 : A 48 20 = some 59 := gc_bA hb rfl
  have A_48_21 : A 48 21 = some 60 := gc_bA hb rfl
  have A_48_5 : A 48 5 = some 52 := gc_bA hb rfl
  have B_1 : 1 < 1000000 := by decide
  have B_13 : 13 < 1000000 := by decide
  have B_48 : 48 < 1000000 := by decide
  have B_49 : 49 < 1000000 := by decide
  have B_50 : 50 < 1000000 := by decide
  have B_52 : 52 < 1000000 := by decide
  have B_58 : 58 < 1000000 := by decide
  have B_59 : 59 < 1000000 := by decide
  have B_60 : 60 < 1000000 := by decide
  have R_13 : ro 13 = 25 := gc_bR hb (by decide) rfl
  have R_2 : ro 2 = 9 := gc_bR hb (by decide) rfl
  have R_48 : ro 48 = 49 := gc_bR hb (by decide) rfl
  have R_49 : ro 49 = 43 := gc_bR hb (by decide) rfl
  have R_50 : ro 50 = 43 := gc_bR hb (by decide) rfl
  have R_52 : ro 52 = 13 := gc_bR hb (by decide) rfl
  have R_58 : ro 58 = 44 := gc_bR hb (by decide) rfl
  have R_59 : ro 59 = 13 := gc_bR hb (by decide) rfl
  have R_60 : ro 60 = 13 := gc_bR hb (by decide) rfl
  have S_1 : sh[1]? = some (false, 8, 21) := gc_bS hb rfl
  have S_13 : sh[13]? = some (true, 1, 384) := gc_bS hb rfl
  have S_48 : sh[48]? = some (false, 0, 22) := gc_bS hb rfl
  have S_49 : sh[49]? = some (true, 1, 18432) := gc_bS hb rfl
  have S_50 : sh[50]? = some (true, 1, 18432) := gc_bS hb rfl
  have S_52 : sh[52]? = some (true, 1, 3000) := gc_bS hb rfl
  have S_58 : sh[58]? = some (true, 1, 4) := gc_bS hb rfl
  have S_59 : sh[59]? = some (true, 1, 4) := gc_bS hb rfl
  have S_60 : sh[60]? = some (true, 1, 4) := gc_bS hb rfl
  obtain ⟨S_a1, R_a1, B_a1, A_a1_5, S_a1_1, R_a1_1, B_a1_1, A_a1_6, S_a1_2, R_a1_2, B_a1_2, A_a1_7, S_a1_3, R_a1_3, B_a1_3, A_a1_9, S_a1_4, R_a1_4, B_a1_4, A_a1_10, S_a1_5, R_a1_5, B_a1_5, A_a1_11, S_a1_6, R_a1_6, B_a1_6, A_a1_13, S_a1_7, R_a1_7, B_a1_7, A_a1_15, S_a1_8, R_a1_8, B_a1_8⟩ := id h_a1
  obtain ⟨S_t, R_t, B_t, A_t_0, h_t_1, A_t_1, h_t_3, A_t_2, S_t_5, R_t_5, B_t_5, A_t_3, S_t_6, R_t_6, B_t_6, A_t_4, h_t_7, A_t_5, S_t_9, R_t_9, B_t_9, A_t_7, S_t_10, R_t_10, B_t_10, A_t_8, h_t_11, A_t_9, S_t_13, R_t_13, B_t_13, A_t_10, S_t_14, R_t_14, B_t_14, A_t_12, S_t_15, R_t_15, B_t_15, A_t_14, S_t_16, R_t_16, B_t_16, A_t_15, h_t_17⟩ := id h_t
  obtain ⟨S_t_1, R_t_1, B_t_1, A_t_1_0, S_t_1_1, R_t_1_1, B_t_1_1, Q0_t_1, Q1_t_1, Q2_t_1⟩ := id h_t_1
  obtain ⟨S_t_3, R_t_3, B_t_3, A_t_3_0, S_t_3_1, R_t_3_1, B_t_3_1, Q0_t_3, Q1_t_3, Q2_t_3⟩ := id h_t_3
  obtain ⟨S_t_7, R_t_7, B_t_7, A_t_7_0, S_t_7_1, R_t_7_1, B_t_7_1, Q0_t_7, Q1_t_7, Q2_t_7⟩ := id h_t_7
  obtain ⟨S_t_11, R_t_11, B_t_11, A_t_11_0, S_t_11_1, R_t_11_1, B_t_11_1, Q0_t_11, Q1_t_11, Q2_t_11⟩ := id h_t_11
  obtain ⟨S_t_17, R_t_17, B_t_17, A_t_17_0, S_20, R_20, B_20, A_t_17_1, S_t_17_1, R_t_17_1, B_t_17_1, A_t_17_2, S_t_17_2, R_t_17_2, B_t_17_2, A_t_17_3, S_t_17_3, R_t_17_3, B_t_17_3, A_t_17_4, S_t_17_4, R_t_17_4, B_t_17_4, A_t_17_5, S_t_17_5, R_t_17_5, B_t_17_5, S_t_17_6, R_t_17_6, B_t_17_6, S_t_17_7, R_t_17_7, B_t_17_7⟩ := id h_t_17
  obtain ⟨S_x, R_x, B_x, A_x_0, S_x_1, R_x_1, B_x_1, A_x_2, S_x_2, R_x_2, B_x_2, A_x_3, S_x_3, R_x_3, B_x_3⟩ := id h_x
  have N1 := gc_dj_LT h_a1 h_t
  have hD : gv_D (gc_E0 ws0 tb (2 + nr) (yX0_lay, cX0_lay, 11, none) kX0_lay) := gq_of oX0_lay
  refine gc_ev0 (d := (2 + nr)) (l := kX0_lay) (Po := fun r h' => (∃ (I' : gr_I) (J' : gr_J), h' = gc_h sh I' J' A ∧ gc_Inv ro I' ∧ (∀ q j : Nat, ((q = 48 ∧ j = 3) ∨ (q = 48 ∧ j = 6) ∨ (q = 48 ∧ j = 12) ∨ q = 51 ∨ q = 52 ∨ q = 53 ∨ q = 54 ∨ q = 55 ∨ (q = 48 ∧ j = 11) ∨ q = 58 ∨ q = 59 ∨ q = 60) ∨ I' q j = I q j) ∧ (∀ q j : Nat, (False) ∨ J' q j = J q j) ∧ gc_WV t I' ∧ gc_FN I' ∧ gc_WA σ I' ∧ gc_FD nw nk sz bg kd I' ∧ gc_FZ I' ∧ gc_TR I' ∧ gc_WB wb I' ∧ r = none ∧ (0 ≤ I' 48 11) ∧ (I' 48 11 ≤ 400001) ∧ (I 48 3 ≤ I' 48 3) ∧ (gc_CH a4 I'))) htb rfl (Nat.le_of_ble_eq_true rfl) ?_
  have N_t__51 : ¬ (t = 51) := by exact gz_m 1 (by omega)
  have N_t__52 : ¬ (t = 52) := by exact gz_m 2 (by omega)
  have N_t__53 : ¬ (t = 53) := by exact gz_m 3 (by omega)
  have N_t__54 : ¬ (t = 54) := by exact gz_m 4 (by omega)
  have N_t__55 : ¬ (t = 55) := by exact gz_m 5 (by omega)
  have N_t__58 : ¬ (t = 58) := by exact gz_m 6 (by omega)
  have N_t__59 : ¬ (t = 59) := by exact gz_m 7 (by omega)
  have N_t__60 : ¬ (t = 60) := by exact gz_m 8 (by omega)
  have N_x__51 : ¬ (x = 51) := by exact gz_m 9 (by omega)
  have N_x__52 : ¬ (x = 52) := by exact gz_m 10 (by omega)
  have N_x__53 : ¬ (x = 53) := by exact gz_m 11 (by omega)
  have N_x__54 : ¬ (x = 54) := by exact gz_m 12 (by omega)
  have N_x__55 : ¬ (x = 55) := by exact gz_m 13 (by omega)
  have N_x__58 : ¬ (x = 58) := by exact gz_m 14 (by omega)
  have N_x__59 : ¬ (x = 59) := by exact gz_m 15 (by omega)
  have N_x__60 : ¬ (x = 60) := by exact gz_m 16 (by omega)
  have N_a1__51 : ¬ (a1 = 51) := by exact gz_m 17 (by omega)
  have N_a1__52 : ¬ (a1 = 52) := by exact gz_m 18 (by omega)
  have N_a1__53 : ¬ (a1 = 53) := by exact gz_m 19 (by omega)
  have N_a1__54 : ¬ (a1 = 54) := by exact gz_m 20 (by omega)
  have N_a1__55 : ¬ (a1 = 55) := by exact gz_m 21 (by omega)
  have N_a1__58 : ¬ (a1 = 58) := by exact gz_m 22 (by omega)
  have N_a1__59 : ¬ (a1 = 59) := by exact gz_m 23 (by omega)
  have N_a1__60 : ¬ (a1 = 60) := by exact gz_m 24 (by omega)
  have N_a1_1__48 : ¬ ((a1 + 1) = 48) := by exact gz_m 25 (by omega)
  have N_a1_1__51 : ¬ ((a1 + 1) = 51) := by exact gz_m 26 (by omega)
  have N_a1_1__52 : ¬ ((a1 + 1) = 52) := by exact gz_m 27 (by omega)
  have N_a1_1__53 : ¬ ((a1 + 1) = 53) := by exact gz_m 28 (by omega)
  have N_a1_1__54 : ¬ ((a1 + 1) = 54) := by exact gz_m 29 (by omega)
  have N_a1_1__55 : ¬ ((a1 + 1) = 55) := by exact gz_m 30 (by omega)
  have N_a1_1__58 : ¬ ((a1 + 1) = 58) := by exact gz_m 31 (by omega)
  have N_a1_1__59 : ¬ ((a1 + 1) = 59) := by exact gz_m 32 (by omega)
  have N_a1_1__60 : ¬ ((a1 + 1) = 60) := by exact gz_m 33 (by omega)
  have N_x_2__48 : ¬ ((x + 2) = 48) := by exact gz_m 34 (by omega)
  have N_x_2__51 : ¬ ((x + 2) = 51) := by exact gz_m 35 (by omega)
  have N_x_2__52 : ¬ ((x + 2) = 52) := by exact gz_m 36 (by omega)
  have N_x_2__53 : ¬ ((x + 2) = 53) := by exact gz_m 37 (by omega)
  have N_x_2__54 : ¬ ((x + 2) = 54) := by exact gz_m 38 (by omega)
  have N_x_2__55 : ¬ ((x + 2) = 55) := by exact gz_m 39 (by omega)
  have N_x_2__58 : ¬ ((x + 2) = 58) := by exact gz_m 40 (by omega)
  have N_x_2__59 : ¬ ((x + 2) = 59) := by exact gz_m 41 (by omega)
  have N_x_2__60 : ¬ ((x + 2) = 60) := by exact gz_m 42 (by omega)
  have N_x_3__48 : ¬ ((x + 3) = 48) := by exact gz_m 43 (by omega)
  have N_x_3__51 : ¬ ((x + 3) = 51) := by exact gz_m 44 (by omega)
  have N_x_3__52 : ¬ ((x + 3) = 52) := by exact gz_m 45 (by omega)
  have N_x_3__53 : ¬ ((x + 3) = 53) := by exact gz_m 46 (by omega)
  have N_x_3__54 : ¬ ((x + 3) = 54) := by exact gz_m 47 (by omega)
  have N_x_3__55 : ¬ ((x + 3) = 55) := by exact gz_m 48 (by omega)
  have N_x_3__58 : ¬ ((x + 3) = 58) := by exact gz_m 49 (by omega)
  have N_x_3__59 : ¬ ((x + 3) = 59) := by exact gz_m 50 (by omega)
  have N_x_3__60 : ¬ ((x + 3) = 60) := by exact gz_m 51 (by omega)
  have KCH_I : gc_CH a4 I := x13
  have f1 := (show 0 ≤ I 48 3 ∧ I 48 3 ≤ 3000 from gc_in hI R_48 rfl rfl)
  have f2 := (show 0 ≤ I 48 6 ∧ I 48 6 ≤ 9000 from gc_in hI R_48 rfl rfl)
  have f3 := (show 0 ≤ I 48 11 ∧ I 48 11 ≤ 1000000 from gc_in hI R_48 rfl rfl)
  have f4 := (show 0 ≤ I 48 12 ∧ I 48 12 ≤ 1 from gc_in hI R_48 rfl rfl)
  have f5 := (show 0 ≤ I 48 17 ∧ I 48 17 ≤ 3000 from gc_in hI R_48 rfl rfl)
  have f6 := (show 0 ≤ I 48 18 ∧ I 48 18 ≤ 24 from gc_in hI R_48 rfl rfl)
  have f7 := (show 0 ≤ I t 13 ∧ I t 13 ≤ 384 from gc_in hI R_t rfl rfl)
  have f8 := (show 0 ≤ I x 4 ∧ I x 4 ≤ 24 from gc_in hI R_x rfl rfl)
  have f9 := (show 0 ≤ I a1 4 ∧ I a1 4 ≤ 6 from gc_in hI R_a1 rfl rfl)
  have f10 := (show 0 ≤ I a1 0 ∧ I a1 0 ≤ 384 from gc_in hI R_a1 rfl rfl)
  have f11 := (show 0 ≤ I 2 1 ∧ I 2 1 ≤ 32 from gc_in hI R_2 rfl rfl)
  have f12 := (show (-1) ≤ I 48 13 ∧ I 48 13 ≤ 999999 from gc_in hI R_48 rfl rfl)
  have f13 := (show (-1) ≤ I 48 14 ∧ I 48 14 ≤ 999999 from gc_in hI R_48 rfl rfl)
  have L41 : ∀ (I14 : gr_I) (J15 : gr_J) , gc_Inv ro I14 → (∀ q j : Nat, ((q = 48 ∧ j = 3) ∨ (q = 48 ∧ j = 6) ∨ (q = 48 ∧ j = 12) ∨ q = 51 ∨ q = 52 ∨ q = 53 ∨ q = 54 ∨ q = 55 ∨ (q = 48 ∧ j = 11) ∨ q = 58 ∨ q = 59 ∨ q = 60) ∨ I14 q j = I q j) → (∀ q j : Nat, (False) ∨ J15 q j = J q j) → gc_WV t I14 → gc_FN I14 → gc_WA σ I14 → gc_FD nw nk sz bg kd I14 → gc_FZ I14 → gc_TR I14 → gc_WB wb I14 → gc_CH a4 I14 → ((I14 48 11 ≤ 400001) ∧ (I 48 3 ≤ I14 48 3) ∧ (I14 2 1 = I 2 1) ∧ (I14 a1 4 = I a1 4) ∧ (I14 a1 0 = I a1 0) ∧ (I14 t 13 = I t 13) ∧ (I14 48 18 = I 48 18) ∧ (I14 x 4 = I x 4) ∧ (I14 48 17 = I 48 17) ∧ (I14 48 13 = (t : Int)) ∧ (I14 48 14 = (x : Int))) → gv_X (gc_E0 ws0 tb (2 + nr) (yX0_lay, cX0_lay, 11, none) kX0_lay) (gv_Q cX0_lay none sh (fun r h' => (∃ (I' : gr_I) (J' : gr_J), h' = gc_h sh I' J' A ∧ gc_Inv ro I' ∧ (∀ q j : Nat, ((q = 48 ∧ j = 3) ∨ (q = 48 ∧ j = 6) ∨ (q = 48 ∧ j = 12) ∨ q = 51 ∨ q = 52 ∨ q = 53 ∨ q = 54 ∨ q = 55 ∨ (q = 48 ∧ j = 11) ∨ q = 58 ∨ q = 59 ∨ q = 60) ∨ I' q j = I q j) ∧ (∀ q j : Nat, (False) ∨ J' q j = J q j) ∧ gc_WV t I' ∧ gc_FN I' ∧ gc_WA σ I' ∧ gc_FD nw nk sz bg kd I' ∧ gc_FZ I' ∧ gc_TR I' ∧ gc_WB wb I' ∧ r = none ∧ (0 ≤ I' 48 11) ∧ (I' 48 11 ≤ 400001) ∧ (I 48 3 ≤ I' 48 3) ∧ (gc_CH a4 I')))) (41, [], [], sh, gc_h sh I14 J15 A) := by
    intro I14 J15 hI14 FI14 FJ15 KWV_I14 KFN_I14 KWA_I14 KFD_I14 KFZ_I14 KTR_I14 KWB_I14 KCH_I14 m_16
    obtain ⟨e0_16, e1_16, e2_16, e3_16, e4_16, e5_16, e6_16, e7_16, e8_16, e9_16, e10_16⟩ := m_16
    have f17 := (show 0 ≤ I14 48 3 ∧ I14 48 3 ≤ 3000 from gc_in hI14 R_48 rfl rfl)
    have f18 := (show 0 ≤ I14 48 6 ∧ I14 48 6 ≤ 9000 from gc_in hI14 R_48 rfl rfl)
    have f19 := (show 0 ≤ I14 48 11 ∧ I14 48 11 ≤ 1000000 from gc_in hI14 R_48 rfl rfl)
    have f20 := (show 0 ≤ I14 48 12 ∧ I14 48 12 ≤ 1 from gc_in hI14 R_48 rfl rfl)
    have f21 := (show 0 ≤ I14 48 17 ∧ I14 48 17 ≤ 3000 from gc_in hI14 R_48 rfl rfl)
    have f22 := (show 0 ≤ I14 48 18 ∧ I14 48 18 ≤ 24 from gc_in hI14 R_48 rfl rfl)
    have f23 := (show 0 ≤ I14 t 13 ∧ I14 t 13 ≤ 384 from gc_in hI14 R_t rfl rfl)
    have f24 := (show 0 ≤ I14 x 4 ∧ I14 x 4 ≤ 24 from gc_in hI14 R_x rfl rfl)
    have f25 := (show 0 ≤ I14 a1 4 ∧ I14 a1 4 ≤ 6 from gc_in hI14 R_a1 rfl rfl)
    have f26 := (show 0 ≤ I14 a1 0 ∧ I14 a1 0 ≤ 384 from gc_in hI14 R_a1 rfl rfl)
    have f27 := (show 0 ≤ I14 2 1 ∧ I14 2 1 ≤ 32 from gc_in hI14 R_2 rfl rfl)
    have f28 := (show (-1) ≤ I14 48 13 ∧ I14 48 13 ≤ 999999 from gc_in hI14 R_48 rfl rfl)
    have f29 := (show (-1) ≤ I14 48 14 ∧ I14 48 14 ≤ 999999 from gc_in hI14 R_48 rfl rfl)
    exact gv_vret hD rfl ⟨I14, J15, rfl, hI14, FI14, FJ15, KWV_I14, KFN_I14, KWA_I14, KFD_I14, KFZ_I14, KTR_I14, KWB_I14, ⟨rfl, by exact gz_m 52 (by omega), by exact gz_m 53 (by omega), by exact gz_m 54 (by omega), KCH_I14⟩⟩
  have L102 : ∀ (s0_30 : Int), ((0 ≤ a2 ∧ a2 ≤ 5) ∧ (0 ≤ a3 ∧ a3 ≤ 24) ∧ (0 ≤ a4 ∧ a4 ≤ 4) ∧ (0 ≤ s0_30 ∧ s0_30 ≤ 1) ∧ (a2 < I a1 4) ∧ (I 48 11 ≤ 400001) ∧ (I 48 3 ≤ I 48 3) ∧ (I (a1 + 1) (Int.toNat a2) < 0) ∧ (s0_30 = 0 ∨ a3 + I a1 4 - a2 ≤ I 48 18) ∧ (I 2 1 = I 2 1) ∧ (I a1 4 = I a1 4) ∧ (I a1 0 = I a1 0) ∧ (I t 13 = I t 13) ∧ (I 48 18 = I 48 18) ∧ (I x 4 = I x 4) ∧ (I 48 17 = I 48 17) ∧ (I 48 13 = (t : Int)) ∧ (I 48 14 = (x : Int))) → gv_X (gc_E0 ws0 tb (2 + nr) (yX0_lay, cX0_lay, 11, none) kX0_lay) (gv_Q cX0_lay none sh (fun r h' => (∃ (I' : gr_I) (J' : gr_J), h' = gc_h sh I' J' A ∧ gc_Inv ro I' ∧ (∀ q j : Nat, ((q = 48 ∧ j = 3) ∨ (q = 48 ∧ j = 6) ∨ (q = 48 ∧ j = 12) ∨ q = 51 ∨ q = 52 ∨ q = 53 ∨ q = 54 ∨ q = 55 ∨ (q = 48 ∧ j = 11) ∨ q = 58 ∨ q = 59 ∨ q = 60) ∨ I' q j = I q j) ∧ (∀ q j : Nat, (False) ∨ J' q j = J q j) ∧ gc_WV t I' ∧ gc_FN I' ∧ gc_WA σ I' ∧ gc_FD nw nk sz bg kd I' ∧ gc_FZ I' ∧ gc_TR I' ∧ gc_WB wb I' ∧ r = none ∧ (0 ≤ I' 48 11) ∧ (I' 48 11 ≤ 400001) ∧ (I 48 3 ≤ I' 48 3) ∧ (gc_CH a4 I')))) (102, [(0, .inr (.inr (some 48))), (1, .inr (.inr (some a1))), (2, .inl a2), (3, .inl a3), (4, .inl a4)], [.inl s0_30], sh, gc_h sh I J A) := by
    intro s0_30 m_30
    obtain ⟨ha2_30, ha3_30, ha4_30, hs0_30, e0_30, e1_30, e2_30, e3_30, e4_30, e5_30, e6_30, e7_30, e8_30, e9_30, e10_30, e11_30, e12_30, e13_30⟩ := m_30
    have f31 := (show 0 ≤ I 48 3 ∧ I 48 3 ≤ 3000 from gc_in hI R_48 rfl rfl)
    have f32 := (show 0 ≤ I 48 6 ∧ I 48 6 ≤ 9000 from gc_in hI R_48 rfl rfl)
    have f33 := (show 0 ≤ I 48 11 ∧ I 48 11 ≤ 1000000 from gc_in hI R_48 rfl rfl)
    have f34 := (show 0 ≤ I 48 12 ∧ I 48 12 ≤ 1 from gc_in hI R_48 rfl rfl)
    have f35 := (show 0 ≤ I 48 17 ∧ I 48 17 ≤ 3000 from gc_in hI R_48 rfl rfl)
    have f36 := (show 0 ≤ I 48 18 ∧ I 48 18 ≤ 24 from gc_in hI R_48 rfl rfl)
    have f37 := (show 0 ≤ I t 13 ∧ I t 13 ≤ 384 from gc_in hI R_t rfl rfl)
    have f38 := (show 0 ≤ I x 4 ∧ I x 4 ≤ 24 from gc_in hI R_x rfl rfl)
    have f39 := (show 0 ≤ I a1 4 ∧ I a1 4 ≤ 6 from gc_in hI R_a1 rfl rfl)
    have f40 := (show 0 ≤ I a1 0 ∧ I a1 0 ≤ 384 from gc_in hI R_a1 rfl rfl)
    have f41 := (show 0 ≤ I 2 1 ∧ I 2 1 ≤ 32 from gc_in hI R_2 rfl rfl)
    have f42 := (show (-1) ≤ I 48 13 ∧ I 48 13 ≤ 999999 from gc_in hI R_48 rfl rfl)
    have f43 := (show (-1) ≤ I 48 14 ∧ I 48 14 ≤ 999999 from gc_in hI R_48 rfl rfl)
    have L142 : ∀ (I44 : gr_I) (J45 : gr_J) , gc_Inv ro I44 → (∀ q j : Nat, ((q = 48 ∧ j = 3) ∨ (q = 48 ∧ j = 6) ∨ (q = 48 ∧ j = 12) ∨ q = 51 ∨ q = 52 ∨ q = 53 ∨ q = 54 ∨ q = 55 ∨ (q = 48 ∧ j = 11) ∨ q = 58 ∨ q = 59 ∨ q = 60) ∨ I44 q j = I q j) → (∀ q j : Nat, (False) ∨ J45 q j = J q j) → gc_WV t I44 → gc_FN I44 → gc_WA σ I44 → gc_FD nw nk sz bg kd I44 → gc_FZ I44 → gc_TR I44 → gc_WB wb I44 → gc_CH a4 I44 → ((I44 48 11 ≤ 400001) ∧ (I 48 3 ≤ I44 48 3) ∧ (I44 2 1 = I 2 1) ∧ (I44 a1 4 = I a1 4) ∧ (I44 a1 0 = I a1 0) ∧ (I44 t 13 = I t 13) ∧ (I44 48 18 = I 48 18) ∧ (I44 x 4 = I x 4) ∧ (I44 48 17 = I 48 17) ∧ (I44 48 13 = (t : Int)) ∧ (I44 48 14 = (x : Int))) → gv_X (gc_E0 ws0 tb (2 + nr) (yX0_lay, cX0_lay, 11, none) kX0_lay) (gv_Q cX0_lay none sh (fun r h' => (∃ (I' : gr_I) (J' : gr_J), h' = gc_h sh I' J' A ∧ gc_Inv ro I' ∧ (∀ q j : Nat, ((q = 48 ∧ j = 3) ∨ (q = 48 ∧ j = 6) ∨ (q = 48 ∧ j = 12) ∨ q = 51 ∨ q = 52 ∨ q = 53 ∨ q = 54 ∨ q = 55 ∨ (q = 48 ∧ j = 11) ∨ q = 58 ∨ q = 59 ∨ q = 60) ∨ I' q j = I q j) ∧ (∀ q j : Nat, (False) ∨ J' q j = J q j) ∧ gc_WV t I' ∧ gc_FN I' ∧ gc_WA σ I' ∧ gc_FD nw nk sz bg kd I' ∧ gc_FZ I' ∧ gc_TR I' ∧ gc_WB wb I' ∧ r = none ∧ (0 ≤ I' 48 11) ∧ (I' 48 11 ≤ 400001) ∧ (I 48 3 ≤ I' 48 3) ∧ (gc_CH a4 I')))) (142, [], [], sh, gc_h sh I44 J45 A) := by
      intro I44 J45 hI44 FI44 FJ45 KWV_I44 KFN_I44 KWA_I44 KFD_I44 KFZ_I44 KTR_I44 KWB_I44 KCH_I44 m_46
      clear ha2_30 ha3_30 ha4_30 hs0_30 e0_30 e1_30 e2_30 e3_30 e4_30 e5_30 e6_30 e7_30 e8_30 e9_30 e10_30 e11_30 e12_30 e13_30 f31 f32 f33 f34 f35 f36 f37 f38 f39 f40 f41 f42 f43
      obtain ⟨e0_46, e1_46, e2_46, e3_46, e4_46, e5_46, e6_46, e7_46, e8_46, e9_46, e10_46⟩ := m_46
      have f47 := (show 0 ≤ I44 48 3 ∧ I44 48 3 ≤ 3000 from gc_in hI44 R_48 rfl rfl)
      have f48 := (show 0 ≤ I44 48 6 ∧ I44 48 6 ≤ 9000 from gc_in hI44 R_48 rfl rfl)
      have f49 := (show 0 ≤ I44 48 11 ∧ I44 48 11 ≤ 1000000 from gc_in hI44 R_48 rfl rfl)
      have f50 := (show 0 ≤ I44 48 12 ∧ I44 48 12 ≤ 1 from gc_in hI44 R_48 rfl rfl)
      have f51 := (show 0 ≤ I44 48 17 ∧ I44 48 17 ≤ 3000 from gc_in hI44 R_48 rfl rfl)
      have f52 := (show 0 ≤ I44 48 18 ∧ I44 48 18 ≤ 24 from gc_in hI44 R_48 rfl rfl)
      have f53 := (show 0 ≤ I44 t 13 ∧ I44 t 13 ≤ 384 from gc_in hI44 R_t rfl rfl)
      have f54 := (show 0 ≤ I44 x 4 ∧ I44 x 4 ≤ 24 from gc_in hI44 R_x rfl rfl)
      have f55 := (show 0 ≤ I44 a1 4 ∧ I44 a1 4 ≤ 6 from gc_in hI44 R_a1 rfl rfl)
      have f56 := (show 0 ≤ I44 a1 0 ∧ I44 a1 0 ≤ 384 from gc_in hI44 R_a1 rfl rfl)
      have f57 := (show 0 ≤ I44 2 1 ∧ I44 2 1 ≤ 32 from gc_in hI44 R_2 rfl rfl)
      have f58 := (show (-1) ≤ I44 48 13 ∧ I44 48 13 ≤ 999999 from gc_in hI44 R_48 rfl rfl)
      have f59 := (show (-1) ≤ I44 48 14 ∧ I44 48 14 ≤ 999999 from gc_in hI44 R_48 rfl rfl)
      exact gv_vret hD rfl ⟨I44, J45, rfl, hI44, FI44, FJ45, KWV_I44, KFN_I44, KWA_I44, KFD_I44, KFZ_I44, KTR_I44, KWB_I44, ⟨rfl, by exact gz_m 55 (by omega), by exact gz_m 56 (by omega), by exact gz_m 57 (by omega), KCH_I44⟩⟩
    refine gv_run 2 true hD (pc' := 106) (lv' := [(6, .inl s0_30), (0, .inr (.inr (some 48))), (1, .inr (.inr (some a1))), (2, .inl a2), (3, .inl a3), (4, .inl a4)]) (st' := [.inl s0_30]) (h' := gc_h sh I J A) (C := ((True ∧ True) ∧ True)) rfl ⟨⟨trivial, trivial⟩, trivial⟩ ?_
    refine gv_if_eq (t := 142) hD rfl rfl ⟨by exact gz_m 58 (by omega), by exact gz_m 59 (by omega)⟩ (fun c60 => ?_) (fun c60 => ?_)
    · show gv_X _ _ (142, [(6, .inl s0_30), (0, .inr (.inr (some 48))), (1, .inr (.inr (some a1))), (2, .inl a2), (3, .inl a3), (4, .inl a4)], [], sh, gc_h sh I J A)
      refine gv_pick [] rfl ?_
      exact L142 I J hI FI FJ KWV_I KFN_I KWA_I KFD_I KFZ_I KTR_I KWB_I KCH_I (by exact gz_m 60 (by omega))
    · show gv_X _ _ (109, [(6, .inl s0_30), (0, .inr (.inr (some 48))), (1, .inr (.inr (some a1))), (2, .inl a2), (3, .inl a3), (4, .inl a4)], [], sh, gc_h sh I J A)
      refine gv_run 3 true hD (pc' := 112) (lv' := [(6, .inl s0_30), (0, .inr (.inr (some 48))), (1, .inr (.inr (some a1))), (2, .inl a2), (3, .inl a3), (4, .inl a4)]) (st' := [.inr (.inr (some a1)), .inl a3, .inr (.inr (some 48))]) (h' := gc_h sh I J A) (C := (((True ∧ True) ∧ True) ∧ True)) rfl ⟨⟨⟨trivial, trivial⟩, trivial⟩, trivial⟩ ?_
      refine gv_get hD rfl rfl S_a1 ⟨by decide, B_a1⟩ (gc_hA S_a1 rfl A_a1_6) ?_
      show gv_X _ _ (115, [(6, .inl s0_30), (0, .inr (.inr (some 48))), (1, .inr (.inr (some a1))), (2, .inl a2), (3, .inl a3), (4, .inl a4)], [.inr (.inr (some (a1 + 2))), .inl a3, .inr (.inr (some 48))], sh, gc_h sh I J A)
      refine gv_run 1 true hD (pc' := 116) (lv' := [(6, .inl s0_30), (0, .inr (.inr (some 48))), (1, .inr (.inr (some a1))), (2, .inl a2), (3, .inl a3), (4, .inl a4)]) (st' := [.inl a2, .inr (.inr (some (a1 + 2))), .inl a3, .inr (.inr (some 48))]) (h' := gc_h sh I J A) (C := (True ∧ True)) rfl ⟨trivial, trivial⟩ ?_
      have f61 := (show 0 ≤ I (a1 + 2) (Int.toNat a2) ∧ I (a1 + 2) (Int.toNat a2) ≤ 2000 from gc_in hI R_a1_2 rfl rfl)
      refine gv_iald hD rfl S_a1_2 rfl ⟨by decide, B_a1_2⟩ ⟨by exact gz_m 61 (by omega), by exact gz_m 62 (by omega)⟩ (gc_iI S_a1_2 rfl) ?_
      show gv_X _ _ (117, [(6, .inl s0_30), (0, .inr (.inr (some 48))), (1, .inr (.inr (some a1))), (2, .inl a2), (3, .inl a3), (4, .inl a4)], [.inl (I (a1 + 2) (Int.toNat a2)), .inl a3, .inr (.inr (some 48))], sh, gc_h sh I J A)
      refine gv_run 1 true hD (pc' := 118) (lv' := [(6, .inl s0_30), (0, .inr (.inr (some 48))), (1, .inr (.inr (some a1))), (2, .inl a2), (3, .inl a3), (4, .inl a4)]) (st' := [.inr (.inr (some a1)), .inl (I (a1 + 2) (Int.toNat a2)), .inl a3, .inr (.inr (some 48))]) (h' := gc_h sh I J A) (C := (True ∧ True)) rfl ⟨trivial, trivial⟩ ?_
      refine gv_get hD rfl rfl S_a1 ⟨by decide, B_a1⟩ (gc_hA S_a1 rfl A_a1_7) ?_
      show gv_X _ _ (121, [(6, .inl s0_30), (0, .inr (.inr (some 48))), (1, .inr (.inr (some a1))), (2, .inl a2), (3, .inl a3), (4, .inl a4)], [.inr (.inr (some (a1 + 3))), .inl (I (a1 + 2) (Int.toNat a2)), .inl a3, .inr (.inr (some 48))], sh, gc_h sh I J A)
      refine gv_run 1 true hD (pc' := 122) (lv' := [(6, .inl s0_30), (0, .inr (.inr (some 48))), (1, .inr (.inr (some a1))), (2, .inl a2), (3, .inl a3), (4, .inl a4)]) (st' := [.inl a2, .inr (.inr (some (a1 + 3))), .inl (I (a1 + 2) (Int.toNat a2)), .inl a3, .inr (.inr (some 48))]) (h' := gc_h sh I J A) (C := (True ∧ True)) rfl ⟨trivial, trivial⟩ ?_
      have f62 := (show 0 ≤ I (a1 + 3) (Int.toNat a2) ∧ I (a1 + 3) (Int.toNat a2) ≤ 24 from gc_in hI R_a1_3 rfl rfl)
      refine gv_iald hD rfl S_a1_3 rfl ⟨by decide, B_a1_3⟩ ⟨by exact gz_m 63 (by omega), by exact gz_m 64 (by omega)⟩ (gc_iI S_a1_3 rfl) ?_
      show gv_X _ _ (123, [(6, .inl s0_30), (0, .inr (.inr (some 48))), (1, .inr (.inr (some a1))), (2, .inl a2), (3, .inl a3), (4, .inl a4)], [.inl (I (a1 + 3) (Int.toNat a2)), .inl (I (a1 + 2) (Int.toNat a2)), .inl a3, .inr (.inr (some 48))], sh, gc_h sh I J A)
      obtain ⟨r63, h63, E63, P63⟩ := d_X0_isAt (ws0 := ws0) (tb := tb) hws htb sh ro I J A hI  x a3 ((I (a1 + 2) (Int.toNat a2))) ((I (a1 + 3) (Int.toNat a2))) hb  h_x G_x  ⟨by exact gz_m 65 (by omega), by exact gz_m 66 (by omega)⟩ ⟨by exact gz_m 67 (by omega), by exact gz_m 68 (by omega)⟩ ⟨by exact gz_m 69 (by omega), by exact gz_m 70 (by omega)⟩ x6 (by exact gz_m 71 (by omega)) (by exact gz_m 72 (by omega)) 
      obtain ⟨rfl, ⟨z63, rfl, q63⟩⟩ := P63
      refine gv_callV hD rfl (As := [.inl a3, .inl (I (a1 + 2) (Int.toNat a2)), .inl (I (a1 + 3) (Int.toNat a2))]) (st := []) rfl B_48 S_48 rfl (gc_lV0 hws rfl) (Nat.le_of_ble_eq_true rfl) (gz_Ev_mono (d := 1) (by exact gz_m 73 (by omega)) E63) ?_
      show gv_X _ _ (126, [(6, .inl s0_30), (0, .inr (.inr (some 48))), (1, .inr (.inr (some a1))), (2, .inl a2), (3, .inl a3), (4, .inl a4)], [.inl z63], sh, gc_h sh I J A)
      refine gv_if_eq (t := 142) hD rfl rfl ⟨by exact gz_m 74 (by omega), by exact gz_m 75 (by omega)⟩ (fun c64 => ?_) (fun c64 => ?_)
      · show gv_X _ _ (142, [(6, .inl s0_30), (0, .inr (.inr (some 48))), (1, .inr (.inr (some a1))), (2, .inl a2), (3, .inl a3), (4, .inl a4)], [], sh, gc_h sh I J A)
        refine gv_pick [] rfl ?_
        exact L142 I J hI FI FJ KWV_I KFN_I KWA_I KFD_I KFZ_I KTR_I KWB_I KCH_I (by exact gz_m 76 (by omega))
      · show gv_X _ _ (129, [(6, .inl s0_30), (0, .inr (.inr (some 48))), (1, .inr (.inr (some a1))), (2, .inl a2), (3, .inl a3), (4, .inl a4)], [], sh, gc_h sh I J A)
        refine gv_run 7 true hD (pc' := 136) (lv' := [(6, .inl s0_30), (0, .inr (.inr (some 48))), (1, .inr (.inr (some a1))), (2, .inl a2), (3, .inl a3), (4, .inl a4)]) (st' := [.inl 1, .inl a3, .inl (a2 + 1), .inr (.inr (some a1)), .inr (.inr (some 48))]) (h' := gc_h sh I J A) (C := (((((((True ∧ True) ∧ True) ∧ True) ∧ True) ∧ True) ∧ True) ∧ True)) rfl ⟨⟨⟨⟨⟨⟨⟨trivial, trivial⟩, trivial⟩, trivial⟩, trivial⟩, trivial⟩, trivial⟩, trivial⟩ ?_
        refine gv_run 2 true hD (pc' := 139) (lv' := [(6, .inl s0_30), (0, .inr (.inr (some 48))), (1, .inr (.inr (some a1))), (2, .inl a2), (3, .inl a3), (4, .inl a4)]) (st' := [.inl a4, .inl (a3 + 1), .inl (a2 + 1), .inr (.inr (some a1)), .inr (.inr (some 48))]) (h' := gc_h sh I J A) (C := ((True ∧ True) ∧ True)) rfl ⟨⟨trivial, trivial⟩, trivial⟩ ?_
        obtain ⟨r65, h65, E65, P65⟩ := ihR I J hI (a2 + 1) (a3 + 1) a4 ⟨by exact gz_m 77 (by omega), by exact gz_m 78 (by omega)⟩ ⟨by exact gz_m 79 (by omega), by exact gz_m 80 (by omega)⟩ ⟨by exact gz_m 81 (by omega), by exact gz_m 82 (by omega)⟩ (by exact gz_m 83 (by omega)) (by rw [show Int.toNat (a2 + 1) = Int.toNat a2 + 1 from by exact gz_m 84 (by omega), gc_ac_nx0 (by exact gz_m 85 (by omega))]; exact gz_m 86 (by omega)) x2 (by exact gz_m 87 (by omega)) (by exact gz_m 88 (by omega)) (by exact gz_m 89 (by omega)) x6 (by exact gz_m 90 (by omega)) (by exact gz_m 91 (by omega)) (by exact gz_m 92 (by omega)) (by exact gz_m 93 (by omega)) (by exact gz_m 94 (by omega)) x12 KCH_I x14 (by exact gz_m 95 (by omega)) (by exact gz_m 96 (by omega)) (by exact gz_m 97 (by omega)) (by exact gz_m 98 (by omega)) (by exact gz_m 99 (by omega)) (by exact gz_m 100 (by omega)) KWV_I KFN_I KWA_I KFD_I KFZ_I KTR_I KWB_I (by exact gz_m 101 (by omega))
        obtain ⟨I66, J67, rfl, hI66, g65, k65, KWV_I66, KFN_I66, KWA_I66, KFD_I66, KFZ_I66, KTR_I66, KWB_I66, ⟨rfl, q65⟩⟩ := P65
        have FI66 := gc_frc (W := fun q j => (q = 48 ∧ j = 3) ∨ (q = 48 ∧ j = 6) ∨ (q = 48 ∧ j = 12) ∨ q = 51 ∨ q = 52 ∨ q = 53 ∨ q = 54 ∨ q = 55 ∨ (q = 48 ∧ j = 11) ∨ q = 58 ∨ q = 59 ∨ q = 60) (V := fun q j => (q = 48 ∧ j = 3) ∨ (q = 48 ∧ j = 6) ∨ (q = 48 ∧ j = 12) ∨ q = 51 ∨ q = 52 ∨ q = 53 ∨ q = 54 ∨ q = 55 ∨ (q = 48 ∧ j = 11) ∨ q = 58 ∨ q = 59 ∨ q = 60) FI (fun q j h => (h.elim (fun h => (Or.inl h)) (fun h => (h.elim (fun h => (Or.inr (Or.inl h))) (fun h => (h.elim (fun h => (Or.inr (Or.inr (Or.inl h)))) (fun h => (h.elim (fun h => (Or.inr (Or.inr (Or.inr (Or.inl h))))) (fun h => (h.elim (fun h => (Or.inr (Or.inr (Or.inr (Or.inr (Or.inl h)))))) (fun h => (h.elim (fun h => (Or.inr (Or.inr (Or.inr (Or.inr (Or.inr (Or.inl h))))))) (fun h => (h.elim (fun h => (Or.inr (Or.inr (Or.inr (Or.inr (Or.inr (Or.inr (Or.inl h)))))))) (fun h => (h.elim (fun h => (Or.inr (Or.inr (Or.inr (Or.inr (Or.inr (Or.inr (Or.inr (Or.inl h))))))))) (fun h => (h.elim (fun h => (Or.inr (Or.inr (Or.inr (Or.inr (Or.inr (Or.inr (Or.inr (Or.inr (Or.inl h)))))))))) (fun h => (h.elim (fun h => (Or.inr (Or.inr (Or.inr (Or.inr (Or.inr (Or.inr (Or.inr (Or.inr (Or.inr (Or.inl h))))))))))) (fun h => (h.elim (fun h => (Or.inr (Or.inr (Or.inr (Or.inr (Or.inr (Or.inr (Or.inr (Or.inr (Or.inr (Or.inr (Or.inl h)))))))))))) (fun h => (Or.inr (Or.inr (Or.inr (Or.inr (Or.inr (Or.inr (Or.inr (Or.inr (Or.inr (Or.inr (Or.inr h)))))))))))))))))))))))))))))))))) g65
        have t68 := (g65 48 17).resolve_left (fun h => h.elim (fun h => absurd h.2 (by decide)) (fun h => h.elim (fun h => absurd h.2 (by decide)) (fun h => h.elim (fun h => absurd h.2 (by decide)) (fun h => h.elim (fun h => absurd h (by decide)) (fun h => h.elim (fun h => absurd h (by decide)) (fun h => h.elim (fun h => absurd h (by decide)) (fun h => h.elim (fun h => absurd h (by decide)) (fun h => h.elim (fun h => absurd h (by decide)) (fun h => h.elim (fun h => absurd h.2 (by decide)) (fun h => h.elim (fun h => absurd h (by decide)) (fun h => h.elim (fun h => absurd h (by decide)) (fun h => absurd h (by decide)))))))))))))
        have t69 := (g65 48 18).resolve_left (fun h => h.elim (fun h => absurd h.2 (by decide)) (fun h => h.elim (fun h => absurd h.2 (by decide)) (fun h => h.elim (fun h => absurd h.2 (by decide)) (fun h => h.elim (fun h => absurd h (by decide)) (fun h => h.elim (fun h => absurd h (by decide)) (fun h => h.elim (fun h => absurd h (by decide)) (fun h => h.elim (fun h => absurd h (by decide)) (fun h => h.elim (fun h => absurd h (by decide)) (fun h => h.elim (fun h => absurd h.2 (by decide)) (fun h => h.elim (fun h => absurd h (by decide)) (fun h => h.elim (fun h => absurd h (by decide)) (fun h => absurd h (by decide)))))))))))))
        have t70 := (g65 t 13).resolve_left (fun h => h.elim (fun h => absurd h.2 (by decide)) (fun h => h.elim (fun h => absurd h.2 (by decide)) (fun h => h.elim (fun h => absurd h.2 (by decide)) (fun h => h.elim (fun h => absurd h N_t__51) (fun h => h.elim (fun h => absurd h N_t__52) (fun h => h.elim (fun h => absurd h N_t__53) (fun h => h.elim (fun h => absurd h N_t__54) (fun h => h.elim (fun h => absurd h N_t__55) (fun h => h.elim (fun h => absurd h.2 (by decide)) (fun h => h.elim (fun h => absurd h N_t__58) (fun h => h.elim (fun h => absurd h N_t__59) (fun h => absurd h N_t__60))))))))))))
        have t71 := (g65 x 4).resolve_left (fun h => h.elim (fun h => absurd h.2 (by decide)) (fun h => h.elim (fun h => absurd h.2 (by decide)) (fun h => h.elim (fun h => absurd h.2 (by decide)) (fun h => h.elim (fun h => absurd h N_x__51) (fun h => h.elim (fun h => absurd h N_x__52) (fun h => h.elim (fun h => absurd h N_x__53) (fun h => h.elim (fun h => absurd h N_x__54) (fun h => h.elim (fun h => absurd h N_x__55) (fun h => h.elim (fun h => absurd h.2 (by decide)) (fun h => h.elim (fun h => absurd h N_x__58) (fun h => h.elim (fun h => absurd h N_x__59) (fun h => absurd h N_x__60))))))))))))
        have t72 := (g65 a1 4).resolve_left (fun h => h.elim (fun h => absurd h.2 (by decide)) (fun h => h.elim (fun h => absurd h.2 (by decide)) (fun h => h.elim (fun h => absurd h.2 (by decide)) (fun h => h.elim (fun h => absurd h N_a1__51) (fun h => h.elim (fun h => absurd h N_a1__52) (fun h => h.elim (fun h => absurd h N_a1__53) (fun h => h.elim (fun h => absurd h N_a1__54) (fun h => h.elim (fun h => absurd h N_a1__55) (fun h => h.elim (fun h => absurd h.2 (by decide)) (fun h => h.elim (fun h => absurd h N_a1__58) (fun h => h.elim (fun h => absurd h N_a1__59) (fun h => absurd h N_a1__60))))))))))))
        have t73 := (g65 a1 0).resolve_left (fun h => h.elim (fun h => absurd h.2 (by decide)) (fun h => h.elim (fun h => absurd h.2 (by decide)) (fun h => h.elim (fun h => absurd h.2 (by decide)) (fun h => h.elim (fun h => absurd h N_a1__51) (fun h => h.elim (fun h => absurd h N_a1__52) (fun h => h.elim (fun h => absurd h N_a1__53) (fun h => h.elim (fun h => absurd h N_a1__54) (fun h => h.elim (fun h => absurd h N_a1__55) (fun h => h.elim (fun h => absurd h.2 (by decide)) (fun h => h.elim (fun h => absurd h N_a1__58) (fun h => h.elim (fun h => absurd h N_a1__59) (fun h => absurd h N_a1__60))))))))))))
        have t74 := (g65 2 1).resolve_left (fun h => h.elim (fun h => absurd h.2 (by decide)) (fun h => h.elim (fun h => absurd h.2 (by decide)) (fun h => h.elim (fun h => absurd h.2 (by decide)) (fun h => h.elim (fun h => absurd h (by decide)) (fun h => h.elim (fun h => absurd h (by decide)) (fun h => h.elim (fun h => absurd h (by decide)) (fun h => h.elim (fun h => absurd h (by decide)) (fun h => h.elim (fun h => absurd h (by decide)) (fun h => h.elim (fun h => absurd h.2 (by decide)) (fun h => h.elim (fun h => absurd h (by decide)) (fun h => h.elim (fun h => absurd h (by decide)) (fun h => absurd h (by decide)))))))))))))
        have t75 := (g65 48 13).resolve_left (fun h => h.elim (fun h => absurd h.2 (by decide)) (fun h => h.elim (fun h => absurd h.2 (by decide)) (fun h => h.elim (fun h => absurd h.2 (by decide)) (fun h => h.elim (fun h => absurd h (by decide)) (fun h => h.elim (fun h => absurd h (by decide)) (fun h => h.elim (fun h => absurd h (by decide)) (fun h => h.elim (fun h => absurd h (by decide)) (fun h => h.elim (fun h => absurd h (by decide)) (fun h => h.elim (fun h => absurd h.2 (by decide)) (fun h => h.elim (fun h => absurd h (by decide)) (fun h => h.elim (fun h => absurd h (by decide)) (fun h => absurd h (by decide)))))))))))))
        have t76 := (g65 48 14).resolve_left (fun h => h.elim (fun h => absurd h.2 (by decide)) (fun h => h.elim (fun h => absurd h.2 (by decide)) (fun h => h.elim (fun h => absurd h.2 (by decide)) (fun h => h.elim (fun h => absurd h (by decide)) (fun h => h.elim (fun h => absurd h (by decide)) (fun h => h.elim (fun h => absurd h (by decide)) (fun h => h.elim (fun h => absurd h (by decide)) (fun h => h.elim (fun h => absurd h (by decide)) (fun h => h.elim (fun h => absurd h.2 (by decide)) (fun h => h.elim (fun h => absurd h (by decide)) (fun h => h.elim (fun h => absurd h (by decide)) (fun h => absurd h (by decide)))))))))))))
        have f77 := (show 0 ≤ I66 48 3 ∧ I66 48 3 ≤ 3000 from gc_in hI66 R_48 rfl rfl)
        have f78 := (show 0 ≤ I66 48 6 ∧ I66 48 6 ≤ 9000 from gc_in hI66 R_48 rfl rfl)
        have f79 := (show 0 ≤ I66 48 11 ∧ I66 48 11 ≤ 1000000 from gc_in hI66 R_48 rfl rfl)
        have f80 := (show 0 ≤ I66 48 12 ∧ I66 48 12 ≤ 1 from gc_in hI66 R_48 rfl rfl)
        have f81 := (show 0 ≤ I66 48 17 ∧ I66 48 17 ≤ 3000 from gc_in hI66 R_48 rfl rfl)
        have f82 := (show 0 ≤ I66 48 18 ∧ I66 48 18 ≤ 24 from gc_in hI66 R_48 rfl rfl)
        have f83 := (show 0 ≤ I66 t 13 ∧ I66 t 13 ≤ 384 from gc_in hI66 R_t rfl rfl)
        have f84 := (show 0 ≤ I66 x 4 ∧ I66 x 4 ≤ 24 from gc_in hI66 R_x rfl rfl)
        have f85 := (show 0 ≤ I66 a1 4 ∧ I66 a1 4 ≤ 6 from gc_in hI66 R_a1 rfl rfl)
        have f86 := (show 0 ≤ I66 a1 0 ∧ I66 a1 0 ≤ 384 from gc_in hI66 R_a1 rfl rfl)
        have f87 := (show 0 ≤ I66 2 1 ∧ I66 2 1 ≤ 32 from gc_in hI66 R_2 rfl rfl)
        have f88 := (show (-1) ≤ I66 48 13 ∧ I66 48 13 ≤ 999999 from gc_in hI66 R_48 rfl rfl)
        have f89 := (show (-1) ≤ I66 48 14 ∧ I66 48 14 ≤ 999999 from gc_in hI66 R_48 rfl rfl)
        obtain rfl : J = J67 := funext fun q => funext fun j => ((k65 q j).resolve_left id).symm
        have KCH_I66 : gc_CH a4 I66 := (gc_CH_w q65.2.2.2 (by exact gz_m 102 (by omega)))
        refine gv_callV hD rfl (As := [.inr (.inr (some a1)), .inl (a2 + 1), .inl (a3 + 1), .inl a4]) (st := []) rfl B_48 S_48 rfl (gc_lV0 hws rfl) (Nat.le_of_ble_eq_true rfl) (gz_Ev_mono (d := (2 + nr)) (Nat.le_refl _) E65) ?_
        show gv_X _ _ (142, [(6, .inl s0_30), (0, .inr (.inr (some 48))), (1, .inr (.inr (some a1))), (2, .inl a2), (3, .inl a3), (4, .inl a4)], [], sh, gc_h sh I66 J A)
        refine gv_pick [] rfl ?_
        exact L142 I66 J hI66 FI66 FJ KWV_I66 KFN_I66 KWA_I66 KFD_I66 KFZ_I66 KTR_I66 KWB_I66 KCH_I66 (by exact gz_m 103 (by omega))
  have L181 : ∀ (v5_90 : Int) (v6_90 : Int) (s0_90 : Int), ((0 ≤ a2 ∧ a2 ≤ 5) ∧ (0 ≤ a3 ∧ a3 ≤ 24) ∧ (0 ≤ a4 ∧ a4 ≤ 4) ∧ (0 ≤ v5_90 ∧ v5_90 ≤ 5) ∧ (0 ≤ v6_90 ∧ v6_90 ≤ 31) ∧ (0 ≤ s0_90 ∧ s0_90 ≤ 25) ∧ (v5_90 = I a1 4 - a2 - 1) ∧ (a2 < I a1 4) ∧ (a4 ≤ 3) ∧ (0 ≤ I (a1 + 1) (Int.toNat a2)) ∧ (I 48 11 ≤ 400001) ∧ (I 48 3 ≤ I 48 3) ∧ (a3 < s0_90) ∧ (s0_90 ≤ I 48 18) ∧ (I 2 1 = I 2 1) ∧ (I a1 4 = I a1 4) ∧ (I a1 0 = I a1 0) ∧ (I t 13 = I t 13) ∧ (I 48 18 = I 48 18) ∧ (I x 4 = I x 4) ∧ (I 48 17 = I 48 17) ∧ (I 48 13 = (t : Int)) ∧ (I 48 14 = (x : Int))) → (gc_u2 (I a1 4) v6_90 kd) → gv_X (gc_E0 ws0 tb (2 + nr) (yX0_lay, cX0_lay, 11, none) kX0_lay) (gv_Q cX0_lay none sh (fun r h' => (∃ (I' : gr_I) (J' : gr_J), h' = gc_h sh I' J' A ∧ gc_Inv ro I' ∧ (∀ q j : Nat, ((q = 48 ∧ j = 3) ∨ (q = 48 ∧ j = 6) ∨ (q = 48 ∧ j = 12) ∨ q = 51 ∨ q = 52 ∨ q = 53 ∨ q = 54 ∨ q = 55 ∨ (q = 48 ∧ j = 11) ∨ q = 58 ∨ q = 59 ∨ q = 60) ∨ I' q j = I q j) ∧ (∀ q j : Nat, (False) ∨ J' q j = J q j) ∧ gc_WV t I' ∧ gc_FN I' ∧ gc_WA σ I' ∧ gc_FD nw nk sz bg kd I' ∧ gc_FZ I' ∧ gc_TR I' ∧ gc_WB wb I' ∧ r = none ∧ (0 ≤ I' 48 11) ∧ (I' 48 11 ≤ 400001) ∧ (I 48 3 ≤ I' 48 3) ∧ (gc_CH a4 I')))) (181, [(0, .inr (.inr (some 48))), (1, .inr (.inr (some a1))), (2, .inl a2), (3, .inl a3), (4, .inl a4), (5, .inl v5_90), (6, .inl v6_90)], [.inl s0_90], sh, gc_h sh I J A) := by
    intro v5_90 v6_90 s0_90 m_90 e0_90
    obtain ⟨ha2_90, ha3_90, ha4_90, hv5_90, hv6_90, hs0_90, e1_90, e2_90, e3_90, e4_90, e5_90, e6_90, e7_90, e8_90, e9_90, e10_90, e11_90, e12_90, e13_90, e14_90, e15_90, e16_90, e17_90⟩ := m_90
    have f91 := (show 0 ≤ I 48 3 ∧ I 48 3 ≤ 3000 from gc_in hI R_48 rfl rfl)
    have f92 := (show 0 ≤ I 48 6 ∧ I 48 6 ≤ 9000 from gc_in hI R_48 rfl rfl)
    have f93 := (show 0 ≤ I 48 11 ∧ I 48 11 ≤ 1000000 from gc_in hI R_48 rfl rfl)
    have f94 := (show 0 ≤ I 48 12 ∧ I 48 12 ≤ 1 from gc_in hI R_48 rfl rfl)
    have f95 := (show 0 ≤ I 48 17 ∧ I 48 17 ≤ 3000 from gc_in hI R_48 rfl rfl)
    have f96 := (show 0 ≤ I 48 18 ∧ I 48 18 ≤ 24 from gc_in hI R_48 rfl rfl)
    have f97 := (show 0 ≤ I t 13 ∧ I t 13 ≤ 384 from gc_in hI R_t rfl rfl)
    have f98 := (show 0 ≤ I x 4 ∧ I x 4 ≤ 24 from gc_in hI R_x rfl rfl)
    have f99 := (show 0 ≤ I a1 4 ∧ I a1 4 ≤ 6 from gc_in hI R_a1 rfl rfl)
    have f100 := (show 0 ≤ I a1 0 ∧ I a1 0 ≤ 384 from gc_in hI R_a1 rfl rfl)
    have f101 := (show 0 ≤ I 2 1 ∧ I 2 1 ≤ 32 from gc_in hI R_2 rfl rfl)
    have f102 := (show (-1) ≤ I 48 13 ∧ I 48 13 ≤ 999999 from gc_in hI R_48 rfl rfl)
    have f103 := (show (-1) ≤ I 48 14 ∧ I 48 14 ≤ 999999 from gc_in hI R_48 rfl rfl)
    have L183 : ∀ (n9 : Nat) (I104 : gr_I) (J105 : gr_J) (v7_106 : Int), (26 - v7_106).toNat < n9 → gc_Inv ro I104 → (∀ q j : Nat, ((q = 48 ∧ j = 3) ∨ (q = 48 ∧ j = 6) ∨ (q = 48 ∧ j = 12) ∨ q = 51 ∨ q = 52 ∨ q = 53 ∨ q = 54 ∨ q = 55 ∨ (q = 48 ∧ j = 11) ∨ q = 58 ∨ q = 59 ∨ q = 60) ∨ I104 q j = I q j) → (∀ q j : Nat, (False) ∨ J105 q j = J q j) → gc_WV t I104 → gc_FN I104 → gc_WA σ I104 → gc_FD nw nk sz bg kd I104 → gc_FZ I104 → gc_TR I104 → gc_WB wb I104 → gc_CH a4 I104 → ((0 ≤ a2 ∧ a2 ≤ 5) ∧ (0 ≤ a3 ∧ a3 ≤ 24) ∧ (0 ≤ a4 ∧ a4 ≤ 4) ∧ (0 ≤ v5_90 ∧ v5_90 ≤ 5) ∧ (0 ≤ v6_90 ∧ v6_90 ≤ 31) ∧ (1 ≤ v7_106 ∧ v7_106 ≤ 25) ∧ (v5_90 = I a1 4 - a2 - 1) ∧ (a2 < I a1 4) ∧ (a4 ≤ 3) ∧ (0 ≤ I (a1 + 1) (Int.toNat a2)) ∧ (I104 48 11 ≤ 400001) ∧ (I 48 3 ≤ I104 48 3) ∧ (a3 < v7_106) ∧ (I104 2 1 = I 2 1) ∧ (I104 a1 4 = I a1 4) ∧ (I104 a1 0 = I a1 0) ∧ (I104 t 13 = I t 13) ∧ (I104 48 18 = I 48 18) ∧ (I104 x 4 = I x 4) ∧ (I104 48 17 = I 48 17) ∧ (I104 48 13 = (t : Int)) ∧ (I104 48 14 = (x : Int))) → gv_X (gc_E0 ws0 tb (2 + nr) (yX0_lay, cX0_lay, 11, none) kX0_lay) (gv_Q cX0_lay none sh (fun r h' => (∃ (I' : gr_I) (J' : gr_J), h' = gc_h sh I' J' A ∧ gc_Inv ro I' ∧ (∀ q j : Nat, ((q = 48 ∧ j = 3) ∨ (q = 48 ∧ j = 6) ∨ (q = 48 ∧ j = 12) ∨ q = 51 ∨ q = 52 ∨ q = 53 ∨ q = 54 ∨ q = 55 ∨ (q = 48 ∧ j = 11) ∨ q = 58 ∨ q = 59 ∨ q = 60) ∨ I' q j = I q j) ∧ (∀ q j : Nat, (False) ∨ J' q j = J q j) ∧ gc_WV t I' ∧ gc_FN I' ∧ gc_WA σ I' ∧ gc_FD nw nk sz bg kd I' ∧ gc_FZ I' ∧ gc_TR I' ∧ gc_WB wb I' ∧ r = none ∧ (0 ≤ I' 48 11) ∧ (I' 48 11 ≤ 400001) ∧ (I 48 3 ≤ I' 48 3) ∧ (gc_CH a4 I')))) (183, [(0, .inr (.inr (some 48))), (1, .inr (.inr (some a1))), (2, .inl a2), (3, .inl a3), (4, .inl a4), (5, .inl v5_90), (6, .inl v6_90), (7, .inl v7_106)], [], sh, gc_h sh I104 J105 A) := by
      intro n9
      induction n9 with
      | zero => intro I104 J105 v7_106 hn; exact gz_m 104 (by omega)
      | succ n9 ih183 =>
        intro I104 J105 v7_106 hn hI104 FI104 FJ105 KWV_I104 KFN_I104 KWA_I104 KFD_I104 KFZ_I104 KTR_I104 KWB_I104 KCH_I104 m_106
        clear ha2_90 ha3_90 ha4_90 hv5_90 hv6_90 hs0_90 e1_90 e2_90 e3_90 e4_90 e5_90 e6_90 e7_90 e8_90 e9_90 e10_90 e11_90 e12_90 e13_90 e14_90 e15_90 e16_90 e17_90 f91 f92 f93 f94 f95 f96 f97 f98 f99 f100 f101 f102 f103
        obtain ⟨ha2_106, ha3_106, ha4_106, hv5_90_106, hv6_90_106, hv7_106, e0_106, e1_106, e2_106, e3_106, e4_106, e5_106, e6_106, e7_106, e8_106, e9_106, e10_106, e11_106, e12_106, e13_106, e14_106, e15_106⟩ := m_106
        have f107 := (show 0 ≤ I104 48 3 ∧ I104 48 3 ≤ 3000 from gc_in hI104 R_48 rfl rfl)
        have f108 := (show 0 ≤ I104 48 6 ∧ I104 48 6 ≤ 9000 from gc_in hI104 R_48 rfl rfl)
        have f109 := (show 0 ≤ I104 48 11 ∧ I104 48 11 ≤ 1000000 from gc_in hI104 R_48 rfl rfl)
        have f110 := (show 0 ≤ I104 48 12 ∧ I104 48 12 ≤ 1 from gc_in hI104 R_48 rfl rfl)
        have f111 := (show 0 ≤ I104 48 17 ∧ I104 48 17 ≤ 3000 from gc_in hI104 R_48 rfl rfl)
        have f112 := (show 0 ≤ I104 48 18 ∧ I104 48 18 ≤ 24 from gc_in hI104 R_48 rfl rfl)
        have f113 := (show 0 ≤ I104 t 13 ∧ I104 t 13 ≤ 384 from gc_in hI104 R_t rfl rfl)
        have f114 := (show 0 ≤ I104 x 4 ∧ I104 x 4 ≤ 24 from gc_in hI104 R_x rfl rfl)
        have f115 := (show 0 ≤ I104 a1 4 ∧ I104 a1 4 ≤ 6 from gc_in hI104 R_a1 rfl rfl)
        have f116 := (show 0 ≤ I104 a1 0 ∧ I104 a1 0 ≤ 384 from gc_in hI104 R_a1 rfl rfl)
        have f117 := (show 0 ≤ I104 2 1 ∧ I104 2 1 ≤ 32 from gc_in hI104 R_2 rfl rfl)
        have f118 := (show (-1) ≤ I104 48 13 ∧ I104 48 13 ≤ 999999 from gc_in hI104 R_48 rfl rfl)
        have f119 := (show (-1) ≤ I104 48 14 ∧ I104 48 14 ≤ 999999 from gc_in hI104 R_48 rfl rfl)
        have L223 : ∀ (n9 : Nat) (I120 : gr_I) (J121 : gr_J) (v8_122 : Int) (v9_122 : Int), (3001 - v9_122).toNat < n9 → gc_Inv ro I120 → (∀ q j : Nat, ((q = 48 ∧ j = 3) ∨ (q = 48 ∧ j = 6) ∨ (q = 48 ∧ j = 12) ∨ q = 51 ∨ q = 52 ∨ q = 53 ∨ q = 54 ∨ q = 55 ∨ (q = 48 ∧ j = 11) ∨ q = 58 ∨ q = 59 ∨ q = 60) ∨ I120 q j = I q j) → (∀ q j : Nat, (False) ∨ J121 q j = J q j) → gc_WV t I120 → gc_FN I120 → gc_WA σ I120 → gc_FD nw nk sz bg kd I120 → gc_FZ I120 → gc_TR I120 → gc_WB wb I120 → gc_CH a4 I120 → ((0 ≤ a2 ∧ a2 ≤ 5) ∧ (0 ≤ a3 ∧ a3 ≤ 24) ∧ (0 ≤ a4 ∧ a4 ≤ 4) ∧ (0 ≤ v5_90 ∧ v5_90 ≤ 5) ∧ (0 ≤ v6_90 ∧ v6_90 ≤ 31) ∧ (1 ≤ v7_106 ∧ v7_106 ≤ 24) ∧ (0 ≤ v8_122 ∧ v8_122 ≤ 18431) ∧ (0 ≤ v9_122 ∧ v9_122 ≤ 3000) ∧ (v5_90 = I a1 4 - a2 - 1) ∧ (a2 < I a1 4) ∧ (a4 ≤ 3) ∧ (0 ≤ I (a1 + 1) (Int.toNat a2)) ∧ (v8_122 = (a3 * 24 + (v7_106 - a3) - 1) * 32 + v6_90) ∧ (I120 48 11 ≤ 400001) ∧ (I 48 3 ≤ I120 48 3) ∧ (a3 < v7_106) ∧ (v7_106 + v5_90 ≤ I120 48 18) ∧ (I120 2 1 = I 2 1) ∧ (I120 a1 4 = I a1 4) ∧ (I120 a1 0 = I a1 0) ∧ (I120 t 13 = I t 13) ∧ (I120 48 18 = I 48 18) ∧ (I120 x 4 = I x 4) ∧ (I120 48 17 = I 48 17) ∧ (I120 48 13 = (t : Int)) ∧ (I120 48 14 = (x : Int))) → gv_X (gc_E0 ws0 tb (2 + nr) (yX0_lay, cX0_lay, 11, none) kX0_lay) (gv_Q cX0_lay none sh (fun r h' => (∃ (I' : gr_I) (J' : gr_J), h' = gc_h sh I' J' A ∧ gc_Inv ro I' ∧ (∀ q j : Nat, ((q = 48 ∧ j = 3) ∨ (q = 48 ∧ j = 6) ∨ (q = 48 ∧ j = 12) ∨ q = 51 ∨ q = 52 ∨ q = 53 ∨ q = 54 ∨ q = 55 ∨ (q = 48 ∧ j = 11) ∨ q = 58 ∨ q = 59 ∨ q = 60) ∨ I' q j = I q j) ∧ (∀ q j : Nat, (False) ∨ J' q j = J q j) ∧ gc_WV t I' ∧ gc_FN I' ∧ gc_WA σ I' ∧ gc_FD nw nk sz bg kd I' ∧ gc_FZ I' ∧ gc_TR I' ∧ gc_WB wb I' ∧ r = none ∧ (0 ≤ I' 48 11) ∧ (I' 48 11 ≤ 400001) ∧ (I 48 3 ≤ I' 48 3) ∧ (gc_CH a4 I')))) (223, [(0, .inr (.inr (some 48))), (1, .inr (.inr (some a1))), (2, .inl a2), (3, .inl a3), (4, .inl a4), (5, .inl v5_90), (6, .inl v6_90), (7, .inl v7_106), (8, .inl v8_122), (9, .inl v9_122)], [], sh, gc_h sh I120 J121 A) := by
          intro n9
          induction n9 with
          | zero => intro I120 J121 v8_122 v9_122 hn; exact gz_m 105 (by omega)
          | succ n9 ih223 =>
            intro I120 J121 v8_122 v9_122 hn hI120 FI120 FJ121 KWV_I120 KFN_I120 KWA_I120 KFD_I120 KFZ_I120 KTR_I120 KWB_I120 KCH_I120 m_122
            clear ha2_106 ha3_106 ha4_106 hv5_90_106 hv6_90_106 hv7_106 e0_106 e1_106 e2_106 e3_106 e4_106 e5_106 e6_106 e7_106 e8_106 e9_106 e10_106 e11_106 e12_106 e13_106 e14_106 e15_106 f107 f108 f109 f110 f111 f112 f113 f114 f115 f116 f117 f118 f119
            obtain ⟨ha2_122, ha3_122, ha4_122, hv5_90_122, hv6_90_122, hv7_106_122, hv8_122, hv9_122, e0_122, e1_122, e2_122, e3_122, e4_122, e5_122, e6_122, e7_122, e8_122, e9_122, e10_122, e11_122, e12_122, e13_122, e14_122, e15_122, e16_122, e17_122⟩ := m_122
            have f123 := (show 0 ≤ I120 48 3 ∧ I120 48 3 ≤ 3000 from gc_in hI120 R_48 rfl rfl)
            have f124 := (show 0 ≤ I120 48 6 ∧ I120 48 6 ≤ 9000 from gc_in hI120 R_48 rfl rfl)
            have f125 := (show 0 ≤ I120 48 11 ∧ I120 48 11 ≤ 1000000 from gc_in hI120 R_48 rfl rfl)
            have f126 := (show 0 ≤ I120 48 12 ∧ I120 48 12 ≤ 1 from gc_in hI120 R_48 rfl rfl)
            have f127 := (show 0 ≤ I120 48 17 ∧ I120 48 17 ≤ 3000 from gc_in hI120 R_48 rfl rfl)
            have f128 := (show 0 ≤ I120 48 18 ∧ I120 48 18 ≤ 24 from gc_in hI120 R_48 rfl rfl)
            have f129 := (show 0 ≤ I120 t 13 ∧ I120 t 13 ≤ 384 from gc_in hI120 R_t rfl rfl)
            have f130 := (show 0 ≤ I120 x 4 ∧ I120 x 4 ≤ 24 from gc_in hI120 R_x rfl rfl)
            have f131 := (show 0 ≤ I120 a1 4 ∧ I120 a1 4 ≤ 6 from gc_in hI120 R_a1 rfl rfl)
            have f132 := (show 0 ≤ I120 a1 0 ∧ I120 a1 0 ≤ 384 from gc_in hI120 R_a1 rfl rfl)
            have f133 := (show 0 ≤ I120 2 1 ∧ I120 2 1 ≤ 32 from gc_in hI120 R_2 rfl rfl)
            have f134 := (show (-1) ≤ I120 48 13 ∧ I120 48 13 ≤ 999999 from gc_in hI120 R_48 rfl rfl)
            have f135 := (show (-1) ≤ I120 48 14 ∧ I120 48 14 ≤ 999999 from gc_in hI120 R_48 rfl rfl)
            have L282 : ∀ (I136 : gr_I) (J137 : gr_J) (s1_138 : Int), gc_Inv ro I136 → (∀ q j : Nat, ((q = 48 ∧ j = 3) ∨ (q = 48 ∧ j = 6) ∨ (q = 48 ∧ j = 12) ∨ q = 51 ∨ q = 52 ∨ q = 53 ∨ q = 54 ∨ q = 55 ∨ (q = 48 ∧ j = 11) ∨ q = 58 ∨ q = 59 ∨ q = 60) ∨ I136 q j = I q j) → (∀ q j : Nat, (False) ∨ J137 q j = J q j) → gc_WV t I136 → gc_FN I136 → gc_WA σ I136 → gc_FD nw nk sz bg kd I136 → gc_FZ I136 → gc_CH a4 I136 → gc_WB wb I136 → ((0 ≤ a2 ∧ a2 ≤ 5) ∧ (0 ≤ a3 ∧ a3 ≤ 24) ∧ (0 ≤ a4 ∧ a4 ≤ 4) ∧ (0 ≤ v5_90 ∧ v5_90 ≤ 5) ∧ (0 ≤ v6_90 ∧ v6_90 ≤ 31) ∧ (1 ≤ v7_106 ∧ v7_106 ≤ 24) ∧ (0 ≤ v8_122 ∧ v8_122 ≤ 18431) ∧ (0 ≤ v9_122 ∧ v9_122 ≤ 2999) ∧ (0 ≤ s1_138 ∧ s1_138 ≤ 1) ∧ (v5_90 = I a1 4 - a2 - 1) ∧ (a2 < I a1 4) ∧ (a4 ≤ 3) ∧ (0 ≤ I (a1 + 1) (Int.toNat a2)) ∧ (v8_122 = (a3 * 24 + (v7_106 - a3) - 1) * 32 + v6_90) ∧ (I136 48 11 ≤ 400001) ∧ (I 48 3 ≤ I136 48 3) ∧ (s1_138 = 1 ∨ I136 48 11 ≤ 400000) ∧ (a3 < v7_106) ∧ (v7_106 + v5_90 ≤ I136 48 18) ∧ (v9_122 < I136 48 3) ∧ (I136 2 1 = I 2 1) ∧ (I136 a1 4 = I a1 4) ∧ (I136 a1 0 = I a1 0) ∧ (I136 t 13 = I t 13) ∧ (I136 48 18 = I 48 18) ∧ (I136 x 4 = I x 4) ∧ (I136 48 17 = I 48 17) ∧ (I136 48 13 = (t : Int)) ∧ (I136 48 14 = (x : Int))) → gv_X (gc_E0 ws0 tb (2 + nr) (yX0_lay, cX0_lay, 11, none) kX0_lay) (gv_Q cX0_lay none sh (fun r h' => (∃ (I' : gr_I) (J' : gr_J), h' = gc_h sh I' J' A ∧ gc_Inv ro I' ∧ (∀ q j : Nat, ((q = 48 ∧ j = 3) ∨ (q = 48 ∧ j = 6) ∨ (q = 48 ∧ j = 12) ∨ q = 51 ∨ q = 52 ∨ q = 53 ∨ q = 54 ∨ q = 55 ∨ (q = 48 ∧ j = 11) ∨ q = 58 ∨ q = 59 ∨ q = 60) ∨ I' q j = I q j) ∧ (∀ q j : Nat, (False) ∨ J' q j = J q j) ∧ gc_WV t I' ∧ gc_FN I' ∧ gc_WA σ I' ∧ gc_FD nw nk sz bg kd I' ∧ gc_FZ I' ∧ gc_TR I' ∧ gc_WB wb I' ∧ r = none ∧ (0 ≤ I' 48 11) ∧ (I' 48 11 ≤ 400001) ∧ (I 48 3 ≤ I' 48 3) ∧ (gc_CH a4 I')))) (282, [(0, .inr (.inr (some 48))), (1, .inr (.inr (some a1))), (2, .inl a2), (3, .inl a3), (4, .inl a4), (5, .inl v5_90), (6, .inl v6_90), (7, .inl v7_106), (8, .inl v8_122), (9, .inl v9_122)], [.inl s1_138, .inr (.inr (some 48))], sh, gc_h sh I136 J137 A) := by
              intro I136 J137 s1_138 hI136 FI136 FJ137 KWV_I136 KFN_I136 KWA_I136 KFD_I136 KFZ_I136 KCH_I136 KWB_I136 m_138
              clear ha2_122 ha3_122 ha4_122 hv5_90_122 hv6_90_122 hv7_106_122 hv8_122 hv9_122 e0_122 e1_122 e2_122 e3_122 e4_122 e5_122 e6_122 e7_122 e8_122 e9_122 e10_122 e11_122 e12_122 e13_122 e14_122 e15_122 e16_122 e17_122 f123 f124 f125 f126 f127 f128 f129 f130 f131 f132 f133 f134 f135
              obtain ⟨ha2_138, ha3_138, ha4_138, hv5_90_138, hv6_90_138, hv7_106_138, hv8_122_138, hv9_122_138, hs1_138, e0_138, e1_138, e2_138, e3_138, e4_138, e5_138, e6_138, e7_138, e8_138, e9_138, e10_138, e11_138, e12_138, e13_138, e14_138, e15_138, e16_138, e17_138, e18_138, e19_138⟩ := m_138
              have f139 := (show 0 ≤ I136 48 3 ∧ I136 48 3 ≤ 3000 from gc_in hI136 R_48 rfl rfl)
              have f140 := (show 0 ≤ I136 48 6 ∧ I136 48 6 ≤ 9000 from gc_in hI136 R_48 rfl rfl)
              have f141 := (show 0 ≤ I136 48 11 ∧ I136 48 11 ≤ 1000000 from gc_in hI136 R_48 rfl rfl)
              have f142 := (show 0 ≤ I136 48 12 ∧ I136 48 12 ≤ 1 from gc_in hI136 R_48 rfl rfl)
              have f143 := (show 0 ≤ I136 48 17 ∧ I136 48 17 ≤ 3000 from gc_in hI136 R_48 rfl rfl)
              have f144 := (show 0 ≤ I136 48 18 ∧ I136 48 18 ≤ 24 from gc_in hI136 R_48 rfl rfl)
              have f145 := (show 0 ≤ I136 t 13 ∧ I136 t 13 ≤ 384 from gc_in hI136 R_t rfl rfl)
              have f146 := (show 0 ≤ I136 x 4 ∧ I136 x 4 ≤ 24 from gc_in hI136 R_x rfl rfl)
              have f147 := (show 0 ≤ I136 a1 4 ∧ I136 a1 4 ≤ 6 from gc_in hI136 R_a1 rfl rfl)
              have f148 := (show 0 ≤ I136 a1 0 ∧ I136 a1 0 ≤ 384 from gc_in hI136 R_a1 rfl rfl)
              have f149 := (show 0 ≤ I136 2 1 ∧ I136 2 1 ≤ 32 from gc_in hI136 R_2 rfl rfl)
              have f150 := (show (-1) ≤ I136 48 13 ∧ I136 48 13 ≤ 999999 from gc_in hI136 R_48 rfl rfl)
              have f151 := (show (-1) ≤ I136 48 14 ∧ I136 48 14 ≤ 999999 from gc_in hI136 R_48 rfl rfl)
              have L348 : ∀ (I152 : gr_I) (J153 : gr_J) , gc_Inv ro I152 → (∀ q j : Nat, ((q = 48 ∧ j = 3) ∨ (q = 48 ∧ j = 6) ∨ (q = 48 ∧ j = 12) ∨ q = 51 ∨ q = 52 ∨ q = 53 ∨ q = 54 ∨ q = 55 ∨ (q = 48 ∧ j = 11) ∨ q = 58 ∨ q = 59 ∨ q = 60) ∨ I152 q j = I q j) → (∀ q j : Nat, (False) ∨ J153 q j = J q j) → gc_WV t I152 → gc_FN I152 → gc_WA σ I152 → gc_FD nw nk sz bg kd I152 → gc_FZ I152 → gc_TR I152 → gc_WB wb I152 → gc_CH a4 I152 → ((0 ≤ a2 ∧ a2 ≤ 5) ∧ (0 ≤ a3 ∧ a3 ≤ 24) ∧ (0 ≤ a4 ∧ a4 ≤ 4) ∧ (0 ≤ v5_90 ∧ v5_90 ≤ 5) ∧ (0 ≤ v6_90 ∧ v6_90 ≤ 31) ∧ (1 ≤ v7_106 ∧ v7_106 ≤ 24) ∧ (0 ≤ v8_122 ∧ v8_122 ≤ 18431) ∧ (0 ≤ v9_122 ∧ v9_122 ≤ 2999) ∧ (v5_90 = I a1 4 - a2 - 1) ∧ (a2 < I a1 4) ∧ (a4 ≤ 3) ∧ (0 ≤ I (a1 + 1) (Int.toNat a2)) ∧ (v8_122 = (a3 * 24 + (v7_106 - a3) - 1) * 32 + v6_90) ∧ (I152 48 11 ≤ 400001) ∧ (I 48 3 ≤ I152 48 3) ∧ (a3 < v7_106) ∧ (v7_106 + v5_90 ≤ I152 48 18) ∧ (v9_122 ≤ 2999) ∧ (I152 2 1 = I 2 1) ∧ (I152 a1 4 = I a1 4) ∧ (I152 a1 0 = I a1 0) ∧ (I152 t 13 = I t 13) ∧ (I152 48 18 = I 48 18) ∧ (I152 x 4 = I x 4) ∧ (I152 48 17 = I 48 17) ∧ (I152 48 13 = (t : Int)) ∧ (I152 48 14 = (x : Int))) → gv_X (gc_E0 ws0 tb (2 + nr) (yX0_lay, cX0_lay, 11, none) kX0_lay) (gv_Q cX0_lay none sh (fun r h' => (∃ (I' : gr_I) (J' : gr_J), h' = gc_h sh I' J' A ∧ gc_Inv ro I' ∧ (∀ q j : Nat, ((q = 48 ∧ j = 3) ∨ (q = 48 ∧ j = 6) ∨ (q = 48 ∧ j = 12) ∨ q = 51 ∨ q = 52 ∨ q = 53 ∨ q = 54 ∨ q = 55 ∨ (q = 48 ∧ j = 11) ∨ q = 58 ∨ q = 59 ∨ q = 60) ∨ I' q j = I q j) ∧ (∀ q j : Nat, (False) ∨ J' q j = J q j) ∧ gc_WV t I' ∧ gc_FN I' ∧ gc_WA σ I' ∧ gc_FD nw nk sz bg kd I' ∧ gc_FZ I' ∧ gc_TR I' ∧ gc_WB wb I' ∧ r = none ∧ (0 ≤ I' 48 11) ∧ (I' 48 11 ≤ 400001) ∧ (I 48 3 ≤ I' 48 3) ∧ (gc_CH a4 I')))) (348, [(0, .inr (.inr (some 48))), (1, .inr (.inr (some a1))), (2, .inl a2), (3, .inl a3), (4, .inl a4), (5, .inl v5_90), (6, .inl v6_90), (7, .inl v7_106), (8, .inl v8_122), (9, .inl v9_122)], [], sh, gc_h sh I152 J153 A) := by
                intro I152 J153 hI152 FI152 FJ153 KWV_I152 KFN_I152 KWA_I152 KFD_I152 KFZ_I152 KTR_I152 KWB_I152 KCH_I152 m_154
                clear ha2_138 ha3_138 ha4_138 hv5_90_138 hv6_90_138 hv7_106_138 hv8_122_138 hv9_122_138 hs1_138 e0_138 e1_138 e2_138 e3_138 e4_138 e5_138 e6_138 e7_138 e8_138 e9_138 e10_138 e11_138 e12_138 e13_138 e14_138 e15_138 e16_138 e17_138 e18_138 e19_138 f139 f140 f141 f142 f143 f144 f145 f146 f147 f148 f149 f150 f151
                obtain ⟨ha2_154, ha3_154, ha4_154, hv5_90_154, hv6_90_154, hv7_106_154, hv8_122_154, hv9_122_154, e0_154, e1_154, e2_154, e3_154, e4_154, e5_154, e6_154, e7_154, e8_154, e9_154, e10_154, e11_154, e12_154, e13_154, e14_154, e15_154, e16_154, e17_154, e18_154⟩ := m_154
                have f155 := (show 0 ≤ I152 48 3 ∧ I152 48 3 ≤ 3000 from gc_in hI152 R_48 rfl rfl)
                have f156 := (show 0 ≤ I152 48 6 ∧ I152 48 6 ≤ 9000 from gc_in hI152 R_48 rfl rfl)
                have f157 := (show 0 ≤ I152 48 11 ∧ I152 48 11 ≤ 1000000 from gc_in hI152 R_48 rfl rfl)
                have f158 := (show 0 ≤ I152 48 12 ∧ I152 48 12 ≤ 1 from gc_in hI152 R_48 rfl rfl)
                have f159 := (show 0 ≤ I152 48 17 ∧ I152 48 17 ≤ 3000 from gc_in hI152 R_48 rfl rfl)
                have f160 := (show 0 ≤ I152 48 18 ∧ I152 48 18 ≤ 24 from gc_in hI152 R_48 rfl rfl)
                have f161 := (show 0 ≤ I152 t 13 ∧ I152 t 13 ≤ 384 from gc_in hI152 R_t rfl rfl)
                have f162 := (show 0 ≤ I152 x 4 ∧ I152 x 4 ≤ 24 from gc_in hI152 R_x rfl rfl)
                have f163 := (show 0 ≤ I152 a1 4 ∧ I152 a1 4 ≤ 6 from gc_in hI152 R_a1 rfl rfl)
                have f164 := (show 0 ≤ I152 a1 0 ∧ I152 a1 0 ≤ 384 from gc_in hI152 R_a1 rfl rfl)
                have f165 := (show 0 ≤ I152 2 1 ∧ I152 2 1 ≤ 32 from gc_in hI152 R_2 rfl rfl)
                have f166 := (show (-1) ≤ I152 48 13 ∧ I152 48 13 ≤ 999999 from gc_in hI152 R_48 rfl rfl)
                have f167 := (show (-1) ≤ I152 48 14 ∧ I152 48 14 ≤ 999999 from gc_in hI152 R_48 rfl rfl)
                refine gv_run 2 true hD (pc' := 223) (lv' := [(9, .inl (v9_122 + 1)), (0, .inr (.inr (some 48))), (1, .inr (.inr (some a1))), (2, .inl a2), (3, .inl a3), (4, .inl a4), (5, .inl v5_90), (6, .inl v6_90), (7, .inl v7_106), (8, .inl v8_122)]) (st' := []) (h' := gc_h sh I152 J153 A) (C := ((True ∧ True) ∧ True)) rfl ⟨⟨trivial, trivial⟩, trivial⟩ ?_
                refine gv_pick [1, 2, 3, 4, 5, 6, 7, 8, 9, 0] rfl ?_
                exact ih223 I152 J153 v8_122 (v9_122 + 1) (by exact gz_m 106 (by omega)) hI152 FI152 FJ153 KWV_I152 KFN_I152 KWA_I152 KFD_I152 KFZ_I152 KTR_I152 KWB_I152 KCH_I152 (by exact gz_m 107 (by omega))
              refine gv_put hD rfl rfl S_48 ⟨by decide, B_48⟩ rfl (by exact gz_m 108 (by omega)) ?_
              refine gc_st (k := 12) hI136 S_48 rfl R_48 (lo := 0) (hi := 1) rfl rfl (by exact gz_m 109 (by omega)) (by exact gz_m 110 (by omega)) (fun I168 hI168 q169 p169 => ?_)
              have FI168 := gc_frs (W := fun q j => (q = 48 ∧ j = 3) ∨ (q = 48 ∧ j = 6) ∨ (q = 48 ∧ j = 12) ∨ q = 51 ∨ q = 52 ∨ q = 53 ∨ q = 54 ∨ q = 55 ∨ (q = 48 ∧ j = 11) ∨ q = 58 ∨ q = 59 ∨ q = 60) FI136 (Or.inr (Or.inr (Or.inl ⟨rfl, rfl⟩))) p169
              have t170 := p169 48 3 (fun h => absurd h.2 (by decide))
              have t171 := p169 48 6 (fun h => absurd h.2 (by decide))
              have t172 := p169 48 11 (fun h => absurd h.2 (by decide))
              have t173 := p169 48 17 (fun h => absurd h.2 (by decide))
              have t174 := p169 48 18 (fun h => absurd h.2 (by decide))
              have t175 := p169 t 13 (fun h => absurd h.2 (by decide))
              have t176 := p169 x 4 (fun h => absurd h.2 (by decide))
              have t177 := p169 a1 4 (fun h => absurd h.2 (by decide))
              have t178 := p169 a1 0 (fun h => absurd h.2 (by decide))
              have t179 := p169 2 1 (fun h => absurd h.2 (by decide))
              have t180 := p169 48 13 (fun h => absurd h.2 (by decide))
              have t181 := p169 48 14 (fun h => absurd h.2 (by decide))
              have f182 := (show 0 ≤ I168 48 3 ∧ I168 48 3 ≤ 3000 from gc_in hI168 R_48 rfl rfl)
              have f183 := (show 0 ≤ I168 48 6 ∧ I168 48 6 ≤ 9000 from gc_in hI168 R_48 rfl rfl)
              have f184 := (show 0 ≤ I168 48 11 ∧ I168 48 11 ≤ 1000000 from gc_in hI168 R_48 rfl rfl)
              have f185 := (show 0 ≤ I168 48 12 ∧ I168 48 12 ≤ 1 from gc_in hI168 R_48 rfl rfl)
              have f186 := (show 0 ≤ I168 48 17 ∧ I168 48 17 ≤ 3000 from gc_in hI168 R_48 rfl rfl)
              have f187 := (show 0 ≤ I168 48 18 ∧ I168 48 18 ≤ 24 from gc_in hI168 R_48 rfl rfl)
              have f188 := (show 0 ≤ I168 t 13 ∧ I168 t 13 ≤ 384 from gc_in hI168 R_t rfl rfl)
              have f189 := (show 0 ≤ I168 x 4 ∧ I168 x 4 ≤ 24 from gc_in hI168 R_x rfl rfl)
              have f190 := (show 0 ≤ I168 a1 4 ∧ I168 a1 4 ≤ 6 from gc_in hI168 R_a1 rfl rfl)
              have f191 := (show 0 ≤ I168 a1 0 ∧ I168 a1 0 ≤ 384 from gc_in hI168 R_a1 rfl rfl)
              have f192 := (show 0 ≤ I168 2 1 ∧ I168 2 1 ≤ 32 from gc_in hI168 R_2 rfl rfl)
              have f193 := (show (-1) ≤ I168 48 13 ∧ I168 48 13 ≤ 999999 from gc_in hI168 R_48 rfl rfl)
              have f194 := (show (-1) ≤ I168 48 14 ∧ I168 48 14 ≤ 999999 from gc_in hI168 R_48 rfl rfl)
              have KWV_I168 := gc_WV_fr KWV_I136 (p169 48 6 (fun h => absurd h.2 (by decide))) (p169 t 13 (fun h => absurd h.2 (by decide))) (fun k => p169 54 k (fun h => absurd h.1 (by decide)))
              have KFN_I168 := gc_FN_fr KFN_I136 (fun k => p169 49 k (fun h => absurd h.1 (by decide))) (fun k => p169 50 k (fun h => absurd h.1 (by decide)))
              have KWA_I168 := gc_WA_fr KWA_I136 (p169 48 6 (fun h => absurd h.2 (by decide))) (Int.le_of_eq (p169 48 3 (fun h => absurd h.2 (by decide))).symm) (fun k => p169 53 k (fun h => absurd h.1 (by decide))) (fun k => p169 54 k (fun h => absurd h.1 (by decide))) (fun k => p169 55 k (fun h => absurd h.1 (by decide)))
              have KFD_I168 := gc_FD_fr KFD_I136 (Int.le_of_eq (p169 48 3 (fun h => absurd h.2 (by decide))).symm) (fun k => p169 49 k (fun h => absurd h.1 (by decide))) (fun k => p169 50 k (fun h => absurd h.1 (by decide)))
              have KFZ_I168 := gc_FZ_fr KFZ_I136 (p169 2 1 (fun h => absurd h.2 (by decide))) (fun k => p169 49 k (fun h => absurd h.1 (by decide))) (fun k => p169 50 k (fun h => absurd h.1 (by decide)))
              have KWB_I168 := gc_WB_fr KWB_I136 (p169 48 6 (fun h => absurd h.2 (by decide))) (fun k => p169 54 k (fun h => absurd h.1 (by decide)))
              have KCH_I168 := gc_CH_fr KCH_I136 (Int.le_of_eq (p169 48 3 (fun h => absurd h.2 (by decide))).symm) (fun k => p169 58 k (fun h => absurd h.1 (by decide)))
              have KTR_I168 : gc_TR I168 := (by unfold gc_TR; exact gz_m 111 (by omega))
              show gv_X _ _ (285, [(0, .inr (.inr (some 48))), (1, .inr (.inr (some a1))), (2, .inl a2), (3, .inl a3), (4, .inl a4), (5, .inl v5_90), (6, .inl v6_90), (7, .inl v7_106), (8, .inl v8_122), (9, .inl v9_122)], [], sh, gc_h sh I168 J137 A)
              refine gv_run 1 true hD (pc' := 286) (lv' := [(0, .inr (.inr (some 48))), (1, .inr (.inr (some a1))), (2, .inl a2), (3, .inl a3), (4, .inl a4), (5, .inl v5_90), (6, .inl v6_90), (7, .inl v7_106), (8, .inl v8_122), (9, .inl v9_122)]) (st' := [.inr (.inr (some 48))]) (h' := gc_h sh I168 J137 A) (C := (True ∧ True)) rfl ⟨trivial, trivial⟩ ?_
              refine gv_get hD rfl rfl S_48 ⟨by decide, B_48⟩ (gc_hA S_48 rfl A_48_5) ?_
              show gv_X _ _ (289, [(0, .inr (.inr (some 48))), (1, .inr (.inr (some a1))), (2, .inl a2), (3, .inl a3), (4, .inl a4), (5, .inl v5_90), (6, .inl v6_90), (7, .inl v7_106), (8, .inl v8_122), (9, .inl v9_122)], [.inr (.inr (some 52))], sh, gc_h sh I168 J137 A)
              refine gv_run 1 true hD (pc' := 291) (lv' := [(0, .inr (.inr (some 48))), (1, .inr (.inr (some a1))), (2, .inl a2), (3, .inl a3), (4, .inl a4), (5, .inl v5_90), (6, .inl v6_90), (7, .inl v7_106), (8, .inl v8_122), (9, .inl v9_122)]) (st' := [.inl v9_122, .inr (.inr (some 52))]) (h' := gc_h sh I168 J137 A) (C := (True ∧ True)) rfl ⟨trivial, trivial⟩ ?_
              have f195 := (show 0 ≤ I168 52 (Int.toNat v9_122) ∧ I168 52 (Int.toNat v9_122) ≤ 16777215 from gc_in hI168 R_52 rfl rfl)
              refine gv_iald hD rfl S_52 rfl ⟨by decide, B_52⟩ ⟨by exact gz_m 112 (by omega), by exact gz_m 113 (by omega)⟩ (gc_iI S_52 rfl) ?_
              show gv_X _ _ (292, [(0, .inr (.inr (some 48))), (1, .inr (.inr (some a1))), (2, .inl a2), (3, .inl a3), (4, .inl a4), (5, .inl v5_90), (6, .inl v6_90), (7, .inl v7_106), (8, .inl v8_122), (9, .inl v9_122)], [.inl (I168 52 (Int.toNat v9_122))], sh, gc_h sh I168 J137 A)
              refine gv_run 1 true hD (pc' := 293) (lv' := [(0, .inr (.inr (some 48))), (1, .inr (.inr (some a1))), (2, .inl a2), (3, .inl a3), (4, .inl a4), (5, .inl v5_90), (6, .inl v6_90), (7, .inl v7_106), (8, .inl v8_122), (9, .inl v9_122)]) (st' := [.inr (.inr (some a1)), .inl (I168 52 (Int.toNat v9_122))]) (h' := gc_h sh I168 J137 A) (C := (True ∧ True)) rfl ⟨trivial, trivial⟩ ?_
              refine gv_get hD rfl rfl S_a1 ⟨by decide, B_a1⟩ (gc_hA S_a1 rfl A_a1_10) ?_
              show gv_X _ _ (296, [(0, .inr (.inr (some 48))), (1, .inr (.inr (some a1))), (2, .inl a2), (3, .inl a3), (4, .inl a4), (5, .inl v5_90), (6, .inl v6_90), (7, .inl v7_106), (8, .inl v8_122), (9, .inl v9_122)], [.inr (.inr (some (a1 + 5))), .inl (I168 52 (Int.toNat v9_122))], sh, gc_h sh I168 J137 A)
              refine gv_run 1 true hD (pc' := 298) (lv' := [(0, .inr (.inr (some 48))), (1, .inr (.inr (some a1))), (2, .inl a2), (3, .inl a3), (4, .inl a4), (5, .inl v5_90), (6, .inl v6_90), (7, .inl v7_106), (8, .inl v8_122), (9, .inl v9_122)]) (st' := [.inl a4, .inr (.inr (some (a1 + 5))), .inl (I168 52 (Int.toNat v9_122))]) (h' := gc_h sh I168 J137 A) (C := (True ∧ True)) rfl ⟨trivial, trivial⟩ ?_
              have f196 := (show 0 ≤ I168 (a1 + 5) (Int.toNat a4) ∧ I168 (a1 + 5) (Int.toNat a4) ≤ 16777215 from gc_in hI168 R_a1_5 rfl rfl)
              refine gv_iald hD rfl S_a1_5 rfl ⟨by decide, B_a1_5⟩ ⟨by exact gz_m 114 (by omega), by exact gz_m 115 (by omega)⟩ (gc_iI S_a1_5 rfl) ?_
              show gv_X _ _ (299, [(0, .inr (.inr (some 48))), (1, .inr (.inr (some a1))), (2, .inl a2), (3, .inl a3), (4, .inl a4), (5, .inl v5_90), (6, .inl v6_90), (7, .inl v7_106), (8, .inl v8_122), (9, .inl v9_122)], [.inl (I168 (a1 + 5) (Int.toNat a4)), .inl (I168 52 (Int.toNat v9_122))], sh, gc_h sh I168 J137 A)
              obtain ⟨r197, h197, E197, P197⟩ := d_X3_fit (ws0 := ws0) (tb := tb) hws htb sh ro I168 J137 A hI168  ((I168 52 (Int.toNat v9_122))) ((I168 (a1 + 5) (Int.toNat a4)))    ⟨by exact gz_m 116 (by omega), by exact gz_m 117 (by omega)⟩ ⟨by exact gz_m 118 (by omega), by exact gz_m 119 (by omega)⟩  
              obtain ⟨rfl, ⟨z197, rfl, q197⟩⟩ := P197
              refine gv_callS hD rfl (As := [.inl (I168 52 (Int.toNat v9_122)), .inl (I168 (a1 + 5) (Int.toNat a4))]) (st := []) rfl (gc_lS0 hws rfl) (Nat.le_of_ble_eq_true rfl) (gz_Ev_mono (d := 1) (by exact gz_m 120 (by omega)) E197) ?_
              show gv_X _ _ (302, [(0, .inr (.inr (some 48))), (1, .inr (.inr (some a1))), (2, .inl a2), (3, .inl a3), (4, .inl a4), (5, .inl v5_90), (6, .inl v6_90), (7, .inl v7_106), (8, .inl v8_122), (9, .inl v9_122)], [.inl z197], sh, gc_h sh I168 J137 A)
              refine gv_run 2 true hD (pc' := 306) (lv' := [(10, .inl z197), (0, .inr (.inr (some 48))), (1, .inr (.inr (some a1))), (2, .inl a2), (3, .inl a3), (4, .inl a4), (5, .inl v5_90), (6, .inl v6_90), (7, .inl v7_106), (8, .inl v8_122), (9, .inl v9_122)]) (st' := [.inl z197]) (h' := gc_h sh I168 J137 A) (C := ((True ∧ True) ∧ True)) rfl ⟨⟨trivial, trivial⟩, trivial⟩ ?_
              refine gv_if_lt (t := 348) hD rfl rfl ⟨by exact gz_m 121 (by omega), by exact gz_m 122 (by omega)⟩ (fun c198 => ?_) (fun c198 => ?_)
              · show gv_X _ _ (348, [(10, .inl z197), (0, .inr (.inr (some 48))), (1, .inr (.inr (some a1))), (2, .inl a2), (3, .inl a3), (4, .inl a4), (5, .inl v5_90), (6, .inl v6_90), (7, .inl v7_106), (8, .inl v8_122), (9, .inl v9_122)], [], sh, gc_h sh I168 J137 A)
                refine gv_pick [1, 2, 3, 4, 5, 6, 7, 8, 9, 10] rfl ?_
                exact L348 I168 J137 hI168 FI168 FJ137 KWV_I168 KFN_I168 KWA_I168 KFD_I168 KFZ_I168 KTR_I168 KWB_I168 KCH_I168 (by exact gz_m 123 (by omega))
              · show gv_X _ _ (309, [(10, .inl z197), (0, .inr (.inr (some 48))), (1, .inr (.inr (some a1))), (2, .inl a2), (3, .inl a3), (4, .inl a4), (5, .inl v5_90), (6, .inl v6_90), (7, .inl v7_106), (8, .inl v8_122), (9, .inl v9_122)], [], sh, gc_h sh I168 J137 A)
                refine gv_run 1 true hD (pc' := 310) (lv' := [(10, .inl z197), (0, .inr (.inr (some 48))), (1, .inr (.inr (some a1))), (2, .inl a2), (3, .inl a3), (4, .inl a4), (5, .inl v5_90), (6, .inl v6_90), (7, .inl v7_106), (8, .inl v8_122), (9, .inl v9_122)]) (st' := [.inr (.inr (some 48))]) (h' := gc_h sh I168 J137 A) (C := (True ∧ True)) rfl ⟨trivial, trivial⟩ ?_
                have f199 := (show 0 ≤ I168 48 12 ∧ I168 48 12 ≤ 1 from gc_in hI168 R_48 rfl rfl)
                refine gv_get hD rfl rfl S_48 ⟨by decide, B_48⟩ (gc_hI S_48 rfl) ?_
                show gv_X _ _ (313, [(10, .inl z197), (0, .inr (.inr (some 48))), (1, .inr (.inr (some a1))), (2, .inl a2), (3, .inl a3), (4, .inl a4), (5, .inl v5_90), (6, .inl v6_90), (7, .inl v7_106), (8, .inl v8_122), (9, .inl v9_122)], [.inl (I168 48 12)], sh, gc_h sh I168 J137 A)
                refine gv_if_ne (t := 348) hD rfl rfl ⟨by exact gz_m 124 (by omega), by exact gz_m 125 (by omega)⟩ (fun c200 => ?_) (fun c200 => ?_)
                · show gv_X _ _ (348, [(10, .inl z197), (0, .inr (.inr (some 48))), (1, .inr (.inr (some a1))), (2, .inl a2), (3, .inl a3), (4, .inl a4), (5, .inl v5_90), (6, .inl v6_90), (7, .inl v7_106), (8, .inl v8_122), (9, .inl v9_122)], [], sh, gc_h sh I168 J137 A)
                  refine gv_pick [1, 2, 3, 4, 5, 6, 7, 8, 9, 10] rfl ?_
                  exact L348 I168 J137 hI168 FI168 FJ137 KWV_I168 KFN_I168 KWA_I168 KFD_I168 KFZ_I168 KTR_I168 KWB_I168 KCH_I168 (by exact gz_m 126 (by omega))
                · show gv_X _ _ (316, [(10, .inl z197), (0, .inr (.inr (some 48))), (1, .inr (.inr (some a1))), (2, .inl a2), (3, .inl a3), (4, .inl a4), (5, .inl v5_90), (6, .inl v6_90), (7, .inl v7_106), (8, .inl v8_122), (9, .inl v9_122)], [], sh, gc_h sh I168 J137 A)
                  refine gv_run 1 true hD (pc' := 317) (lv' := [(10, .inl z197), (0, .inr (.inr (some 48))), (1, .inr (.inr (some a1))), (2, .inl a2), (3, .inl a3), (4, .inl a4), (5, .inl v5_90), (6, .inl v6_90), (7, .inl v7_106), (8, .inl v8_122), (9, .inl v9_122)]) (st' := [.inr (.inr (some 48))]) (h' := gc_h sh I168 J137 A) (C := (True ∧ True)) rfl ⟨trivial, trivial⟩ ?_
                  refine gv_get hD rfl rfl S_48 ⟨by decide, B_48⟩ (gc_hA S_48 rfl A_48_19) ?_
                  show gv_X _ _ (320, [(10, .inl z197), (0, .inr (.inr (some 48))), (1, .inr (.inr (some a1))), (2, .inl a2), (3, .inl a3), (4, .inl a4), (5, .inl v5_90), (6, .inl v6_90), (7, .inl v7_106), (8, .inl v8_122), (9, .inl v9_122)], [.inr (.inr (some 58))], sh, gc_h sh I168 J137 A)
                  refine gv_run 2 true hD (pc' := 324) (lv' := [(10, .inl z197), (0, .inr (.inr (some 48))), (1, .inr (.inr (some a1))), (2, .inl a2), (3, .inl a3), (4, .inl a4), (5, .inl v5_90), (6, .inl v6_90), (7, .inl v7_106), (8, .inl v8_122), (9, .inl v9_122)]) (st' := [.inl v9_122, .inl a4, .inr (.inr (some 58))]) (h' := gc_h sh I168 J137 A) (C := ((True ∧ True) ∧ True)) rfl ⟨⟨trivial, trivial⟩, trivial⟩ ?_
                  refine gv_iast hD rfl S_58 ⟨by decide, B_58⟩ ⟨by exact gz_m 127 (by omega), by exact gz_m 128 (by omega)⟩ ?_
                  refine gc_st hI168 S_58 rfl R_58 (lo := 0) (hi := 2999) rfl rfl (by exact gz_m 129 (by omega)) (by exact gz_m 130 (by omega)) (fun I201 hI201 q202 p202 => ?_)
                  have FI201 := gc_frs (W := fun q j => (q = 48 ∧ j = 3) ∨ (q = 48 ∧ j = 6) ∨ (q = 48 ∧ j = 12) ∨ q = 51 ∨ q = 52 ∨ q = 53 ∨ q = 54 ∨ q = 55 ∨ (q = 48 ∧ j = 11) ∨ q = 58 ∨ q = 59 ∨ q = 60) FI168 (Or.inr (Or.inr (Or.inr (Or.inr (Or.inr (Or.inr (Or.inr (Or.inr (Or.inr (Or.inl rfl)))))))))) p202
                  have t203 := p202 48 3 (fun h => absurd h.1 (by decide))
                  have t204 := p202 48 6 (fun h => absurd h.1 (by decide))
                  have t205 := p202 48 11 (fun h => absurd h.1 (by decide))
                  have t206 := p202 48 12 (fun h => absurd h.1 (by decide))
                  have t207 := p202 48 17 (fun h => absurd h.1 (by decide))
                  have t208 := p202 48 18 (fun h => absurd h.1 (by decide))
                  have t209 := p202 t 13 (fun h => absurd h.1 N_t__58)
                  have t210 := p202 x 4 (fun h => absurd h.1 N_x__58)
                  have t211 := p202 a1 4 (fun h => absurd h.1 N_a1__58)
                  have t212 := p202 a1 0 (fun h => absurd h.1 N_a1__58)
                  have t213 := p202 2 1 (fun h => absurd h.1 (by decide))
                  have t214 := p202 48 13 (fun h => absurd h.1 (by decide))
                  have t215 := p202 48 14 (fun h => absurd h.1 (by decide))
                  have f216 := (show 0 ≤ I201 48 3 ∧ I201 48 3 ≤ 3000 from gc_in hI201 R_48 rfl rfl)
                  have f217 := (show 0 ≤ I201 48 6 ∧ I201 48 6 ≤ 9000 from gc_in hI201 R_48 rfl rfl)
                  have f218 := (show 0 ≤ I201 48 11 ∧ I201 48 11 ≤ 1000000 from gc_in hI201 R_48 rfl rfl)
                  have f219 := (show 0 ≤ I201 48 12 ∧ I201 48 12 ≤ 1 from gc_in hI201 R_48 rfl rfl)
                  have f220 := (show 0 ≤ I201 48 17 ∧ I201 48 17 ≤ 3000 from gc_in hI201 R_48 rfl rfl)
                  have f221 := (show 0 ≤ I201 48 18 ∧ I201 48 18 ≤ 24 from gc_in hI201 R_48 rfl rfl)
                  have f222 := (show 0 ≤ I201 t 13 ∧ I201 t 13 ≤ 384 from gc_in hI201 R_t rfl rfl)
                  have f223 := (show 0 ≤ I201 x 4 ∧ I201 x 4 ≤ 24 from gc_in hI201 R_x rfl rfl)
                  have f224 := (show 0 ≤ I201 a1 4 ∧ I201 a1 4 ≤ 6 from gc_in hI201 R_a1 rfl rfl)
                  have f225 := (show 0 ≤ I201 a1 0 ∧ I201 a1 0 ≤ 384 from gc_in hI201 R_a1 rfl rfl)
                  have f226 := (show 0 ≤ I201 2 1 ∧ I201 2 1 ≤ 32 from gc_in hI201 R_2 rfl rfl)
                  have f227 := (show (-1) ≤ I201 48 13 ∧ I201 48 13 ≤ 999999 from gc_in hI201 R_48 rfl rfl)
                  have f228 := (show (-1) ≤ I201 48 14 ∧ I201 48 14 ≤ 999999 from gc_in hI201 R_48 rfl rfl)
                  have KWV_I201 := gc_WV_fr KWV_I168 (p202 48 6 (fun h => absurd h.1 (by decide))) (p202 t 13 (fun h => absurd h.1 N_t__58)) (fun k => p202 54 k (fun h => absurd h.1 (by decide)))
                  have KFN_I201 := gc_FN_fr KFN_I168 (fun k => p202 49 k (fun h => absurd h.1 (by decide))) (fun k => p202 50 k (fun h => absurd h.1 (by decide)))
                  have KWA_I201 := gc_WA_fr KWA_I168 (p202 48 6 (fun h => absurd h.1 (by decide))) (Int.le_of_eq (p202 48 3 (fun h => absurd h.1 (by decide))).symm) (fun k => p202 53 k (fun h => absurd h.1 (by decide))) (fun k => p202 54 k (fun h => absurd h.1 (by decide))) (fun k => p202 55 k (fun h => absurd h.1 (by decide)))
                  have KFD_I201 := gc_FD_fr KFD_I168 (Int.le_of_eq (p202 48 3 (fun h => absurd h.1 (by decide))).symm) (fun k => p202 49 k (fun h => absurd h.1 (by decide))) (fun k => p202 50 k (fun h => absurd h.1 (by decide)))
                  have KFZ_I201 := gc_FZ_fr KFZ_I168 (p202 2 1 (fun h => absurd h.1 (by decide))) (fun k => p202 49 k (fun h => absurd h.1 (by decide))) (fun k => p202 50 k (fun h => absurd h.1 (by decide)))
                  have KTR_I201 := gc_TR_fr KTR_I168 (p202 48 11 (fun h => absurd h.1 (by decide))) (p202 48 12 (fun h => absurd h.1 (by decide)))
                  have KWB_I201 := gc_WB_fr KWB_I168 (p202 48 6 (fun h => absurd h.1 (by decide))) (fun k => p202 54 k (fun h => absurd h.1 (by decide)))
                  show gv_X _ _ (325, [(10, .inl z197), (0, .inr (.inr (some 48))), (1, .inr (.inr (some a1))), (2, .inl a2), (3, .inl a3), (4, .inl a4), (5, .inl v5_90), (6, .inl v6_90), (7, .inl v7_106), (8, .inl v8_122), (9, .inl v9_122)], [], sh, gc_h sh I201 J137 A)
                  refine gv_run 1 true hD (pc' := 326) (lv' := [(10, .inl z197), (0, .inr (.inr (some 48))), (1, .inr (.inr (some a1))), (2, .inl a2), (3, .inl a3), (4, .inl a4), (5, .inl v5_90), (6, .inl v6_90), (7, .inl v7_106), (8, .inl v8_122), (9, .inl v9_122)]) (st' := [.inr (.inr (some 48))]) (h' := gc_h sh I201 J137 A) (C := (True ∧ True)) rfl ⟨trivial, trivial⟩ ?_
                  refine gv_get hD rfl rfl S_48 ⟨by decide, B_48⟩ (gc_hA S_48 rfl A_48_20) ?_
                  show gv_X _ _ (329, [(10, .inl z197), (0, .inr (.inr (some 48))), (1, .inr (.inr (some a1))), (2, .inl a2), (3, .inl a3), (4, .inl a4), (5, .inl v5_90), (6, .inl v6_90), (7, .inl v7_106), (8, .inl v8_122), (9, .inl v9_122)], [.inr (.inr (some 59))], sh, gc_h sh I201 J137 A)
                  refine gv_run 2 true hD (pc' := 333) (lv' := [(10, .inl z197), (0, .inr (.inr (some 48))), (1, .inr (.inr (some a1))), (2, .inl a2), (3, .inl a3), (4, .inl a4), (5, .inl v5_90), (6, .inl v6_90), (7, .inl v7_106), (8, .inl v8_122), (9, .inl v9_122)]) (st' := [.inl z197, .inl a4, .inr (.inr (some 59))]) (h' := gc_h sh I201 J137 A) (C := ((True ∧ True) ∧ True)) rfl ⟨⟨trivial, trivial⟩, trivial⟩ ?_
                  refine gv_iast hD rfl S_59 ⟨by decide, B_59⟩ ⟨by exact gz_m 131 (by omega), by exact gz_m 132 (by omega)⟩ ?_
                  refine gc_st hI201 S_59 rfl R_59 (lo := 0) (hi := 16777215) rfl rfl (by exact gz_m 133 (by omega)) (by exact gz_m 134 (by omega)) (fun I229 hI229 q230 p230 => ?_)
                  have FI229 := gc_frs (W := fun q j => (q = 48 ∧ j = 3) ∨ (q = 48 ∧ j = 6) ∨ (q = 48 ∧ j = 12) ∨ q = 51 ∨ q = 52 ∨ q = 53 ∨ q = 54 ∨ q = 55 ∨ (q = 48 ∧ j = 11) ∨ q = 58 ∨ q = 59 ∨ q = 60) FI201 (Or.inr (Or.inr (Or.inr (Or.inr (Or.inr (Or.inr (Or.inr (Or.inr (Or.inr (Or.inr (Or.inl rfl))))))))))) p230
                  have t231 := p230 48 3 (fun h => absurd h.1 (by decide))
                  have t232 := p230 48 6 (fun h => absurd h.1 (by decide))
                  have t233 := p230 48 11 (fun h => absurd h.1 (by decide))
                  have t234 := p230 48 12 (fun h => absurd h.1 (by decide))
                  have t235 := p230 48 17 (fun h => absurd h.1 (by decide))
                  have t236 := p230 48 18 (fun h => absurd h.1 (by decide))
                  have t237 := p230 t 13 (fun h => absurd h.1 N_t__59)
                  have t238 := p230 x 4 (fun h => absurd h.1 N_x__59)
                  have t239 := p230 a1 4 (fun h => absurd h.1 N_a1__59)
                  have t240 := p230 a1 0 (fun h => absurd h.1 N_a1__59)
                  have t241 := p230 2 1 (fun h => absurd h.1 (by decide))
                  have t242 := p230 48 13 (fun h => absurd h.1 (by decide))
                  have t243 := p230 48 14 (fun h => absurd h.1 (by decide))
                  have f244 := (show 0 ≤ I229 48 3 ∧ I229 48 3 ≤ 3000 from gc_in hI229 R_48 rfl rfl)
                  have f245 := (show 0 ≤ I229 48 6 ∧ I229 48 6 ≤ 9000 from gc_in hI229 R_48 rfl rfl)
                  have f246 := (show 0 ≤ I229 48 11 ∧ I229 48 11 ≤ 1000000 from gc_in hI229 R_48 rfl rfl)
                  have f247 := (show 0 ≤ I229 48 12 ∧ I229 48 12 ≤ 1 from gc_in hI229 R_48 rfl rfl)
                  have f248 := (show 0 ≤ I229 48 17 ∧ I229 48 17 ≤ 3000 from gc_in hI229 R_48 rfl rfl)
                  have f249 := (show 0 ≤ I229 48 18 ∧ I229 48 18 ≤ 24 from gc_in hI229 R_48 rfl rfl)
                  have f250 := (show 0 ≤ I229 t 13 ∧ I229 t 13 ≤ 384 from gc_in hI229 R_t rfl rfl)
                  have f251 := (show 0 ≤ I229 x 4 ∧ I229 x 4 ≤ 24 from gc_in hI229 R_x rfl rfl)
                  have f252 := (show 0 ≤ I229 a1 4 ∧ I229 a1 4 ≤ 6 from gc_in hI229 R_a1 rfl rfl)
                  have f253 := (show 0 ≤ I229 a1 0 ∧ I229 a1 0 ≤ 384 from gc_in hI229 R_a1 rfl rfl)
                  have f254 := (show 0 ≤ I229 2 1 ∧ I229 2 1 ≤ 32 from gc_in hI229 R_2 rfl rfl)
                  have f255 := (show (-1) ≤ I229 48 13 ∧ I229 48 13 ≤ 999999 from gc_in hI229 R_48 rfl rfl)
                  have f256 := (show (-1) ≤ I229 48 14 ∧ I229 48 14 ≤ 999999 from gc_in hI229 R_48 rfl rfl)
                  have KWV_I229 := gc_WV_fr KWV_I201 (p230 48 6 (fun h => absurd h.1 (by decide))) (p230 t 13 (fun h => absurd h.1 N_t__59)) (fun k => p230 54 k (fun h => absurd h.1 (by decide)))
                  have KFN_I229 := gc_FN_fr KFN_I201 (fun k => p230 49 k (fun h => absurd h.1 (by decide))) (fun k => p230 50 k (fun h => absurd h.1 (by decide)))
                  have KWA_I229 := gc_WA_fr KWA_I201 (p230 48 6 (fun h => absurd h.1 (by decide))) (Int.le_of_eq (p230 48 3 (fun h => absurd h.1 (by decide))).symm) (fun k => p230 53 k (fun h => absurd h.1 (by decide))) (fun k => p230 54 k (fun h => absurd h.1 (by decide))) (fun k => p230 55 k (fun h => absurd h.1 (by decide)))
                  have KFD_I229 := gc_FD_fr KFD_I201 (Int.le_of_eq (p230 48 3 (fun h => absurd h.1 (by decide))).symm) (fun k => p230 49 k (fun h => absurd h.1 (by decide))) (fun k => p230 50 k (fun h => absurd h.1 (by decide)))
                  have KFZ_I229 := gc_FZ_fr KFZ_I201 (p230 2 1 (fun h => absurd h.1 (by decide))) (fun k => p230 49 k (fun h => absurd h.1 (by decide))) (fun k => p230 50 k (fun h => absurd h.1 (by decide)))
                  have KTR_I229 := gc_TR_fr KTR_I201 (p230 48 11 (fun h => absurd h.1 (by decide))) (p230 48 12 (fun h => absurd h.1 (by decide)))
                  have KWB_I229 := gc_WB_fr KWB_I201 (p230 48 6 (fun h => absurd h.1 (by decide))) (fun k => p230 54 k (fun h => absurd h.1 (by decide)))
                  show gv_X _ _ (334, [(10, .inl z197), (0, .inr (.inr (some 48))), (1, .inr (.inr (some a1))), (2, .inl a2), (3, .inl a3), (4, .inl a4), (5, .inl v5_90), (6, .inl v6_90), (7, .inl v7_106), (8, .inl v8_122), (9, .inl v9_122)], [], sh, gc_h sh I229 J137 A)
                  refine gv_run 7 true hD (pc' := 343) (lv' := [(10, .inl z197), (0, .inr (.inr (some 48))), (1, .inr (.inr (some a1))), (2, .inl a2), (3, .inl a3), (4, .inl a4), (5, .inl v5_90), (6, .inl v6_90), (7, .inl v7_106), (8, .inl v8_122), (9, .inl v9_122)]) (st' := [.inl a4, .inl v7_106, .inl (a2 + 1), .inr (.inr (some a1)), .inr (.inr (some 48))]) (h' := gc_h sh I229 J137 A) (C := (((((((True ∧ True) ∧ True) ∧ True) ∧ True) ∧ True) ∧ True) ∧ True)) rfl ⟨⟨⟨⟨⟨⟨⟨trivial, trivial⟩, trivial⟩, trivial⟩, trivial⟩, trivial⟩, trivial⟩, trivial⟩ ?_
                  refine gv_run 2 true hD (pc' := 345) (lv' := [(10, .inl z197), (0, .inr (.inr (some 48))), (1, .inr (.inr (some a1))), (2, .inl a2), (3, .inl a3), (4, .inl a4), (5, .inl v5_90), (6, .inl v6_90), (7, .inl v7_106), (8, .inl v8_122), (9, .inl v9_122)]) (st' := [.inl (a4 + 1), .inl v7_106, .inl (a2 + 1), .inr (.inr (some a1)), .inr (.inr (some 48))]) (h' := gc_h sh I229 J137 A) (C := ((True ∧ True) ∧ True)) rfl ⟨⟨trivial, trivial⟩, trivial⟩ ?_
                  obtain ⟨r257, h257, E257, P257⟩ := ihR I229 J137 hI229 (a2 + 1) v7_106 (a4 + 1) ⟨by exact gz_m 135 (by omega), by exact gz_m 136 (by omega)⟩ ⟨by exact gz_m 137 (by omega), by exact gz_m 138 (by omega)⟩ ⟨by exact gz_m 139 (by omega), by exact gz_m 140 (by omega)⟩ (by exact gz_m 141 (by omega)) (by rw [show I229 (a1 + 1) = I (a1 + 1) from funext (fun k => (FI229 (a1 + 1) k).resolve_left (fun h => h.elim (fun h => absurd h.1 N_a1_1__48) (fun h => h.elim (fun h => absurd h.1 N_a1_1__48) (fun h => h.elim (fun h => absurd h.1 N_a1_1__48) (fun h => h.elim (fun h => absurd h N_a1_1__51) (fun h => h.elim (fun h => absurd h N_a1_1__52) (fun h => h.elim (fun h => absurd h N_a1_1__53) (fun h => h.elim (fun h => absurd h N_a1_1__54) (fun h => h.elim (fun h => absurd h N_a1_1__55) (fun h => h.elim (fun h => absurd h.1 N_a1_1__48) (fun h => h.elim (fun h => absurd h N_a1_1__58) (fun h => h.elim (fun h => absurd h N_a1_1__59) (fun h => absurd h N_a1_1__60))))))))))))), show Int.toNat (a2 + 1) = Int.toNat a2 + 1 from by exact gz_m 142 (by omega), gc_ac_nx1 (by exact gz_m 143 (by omega))]; exact gz_m 144 (by omega)) (gc_lv_fr x2 ((FI229 a1 8).resolve_left (fun h => h.elim (fun h => absurd h.2 (by decide)) (fun h => h.elim (fun h => absurd h.2 (by decide)) (fun h => h.elim (fun h => absurd h.2 (by decide)) (fun h => h.elim (fun h => absurd h N_a1__51) (fun h => h.elim (fun h => absurd h N_a1__52) (fun h => h.elim (fun h => absurd h N_a1__53) (fun h => h.elim (fun h => absurd h N_a1__54) (fun h => h.elim (fun h => absurd h N_a1__55) (fun h => h.elim (fun h => absurd h.2 (by decide)) (fun h => h.elim (fun h => absurd h N_a1__58) (fun h => h.elim (fun h => absurd h N_a1__59) (fun h => absurd h N_a1__60))))))))))))) ((FI229 a1 4).resolve_left (fun h => h.elim (fun h => absurd h.2 (by decide)) (fun h => h.elim (fun h => absurd h.2 (by decide)) (fun h => h.elim (fun h => absurd h.2 (by decide)) (fun h => h.elim (fun h => absurd h N_a1__51) (fun h => h.elim (fun h => absurd h N_a1__52) (fun h => h.elim (fun h => absurd h N_a1__53) (fun h => h.elim (fun h => absurd h N_a1__54) (fun h => h.elim (fun h => absurd h N_a1__55) (fun h => h.elim (fun h => absurd h.2 (by decide)) (fun h => h.elim (fun h => absurd h N_a1__58) (fun h => h.elim (fun h => absurd h N_a1__59) (fun h => absurd h N_a1__60))))))))))))) (fun k => (FI229 (a1 + 1) k).resolve_left (fun h => h.elim (fun h => absurd h.1 N_a1_1__48) (fun h => h.elim (fun h => absurd h.1 N_a1_1__48) (fun h => h.elim (fun h => absurd h.1 N_a1_1__48) (fun h => h.elim (fun h => absurd h N_a1_1__51) (fun h => h.elim (fun h => absurd h N_a1_1__52) (fun h => h.elim (fun h => absurd h N_a1_1__53) (fun h => h.elim (fun h => absurd h N_a1_1__54) (fun h => h.elim (fun h => absurd h N_a1_1__55) (fun h => h.elim (fun h => absurd h.1 N_a1_1__48) (fun h => h.elim (fun h => absurd h N_a1_1__58) (fun h => h.elim (fun h => absurd h N_a1_1__59) (fun h => absurd h N_a1_1__60)))))))))))))) (by exact gz_m 145 (by omega)) (by exact gz_m 146 (by omega)) (by exact gz_m 147 (by omega)) (gc_SP_fr x6 ((FI229 x 4).resolve_left (fun h => h.elim (fun h => absurd h.2 (by decide)) (fun h => h.elim (fun h => absurd h.2 (by decide)) (fun h => h.elim (fun h => absurd h.2 (by decide)) (fun h => h.elim (fun h => absurd h N_x__51) (fun h => h.elim (fun h => absurd h N_x__52) (fun h => h.elim (fun h => absurd h N_x__53) (fun h => h.elim (fun h => absurd h N_x__54) (fun h => h.elim (fun h => absurd h N_x__55) (fun h => h.elim (fun h => absurd h.2 (by decide)) (fun h => h.elim (fun h => absurd h N_x__58) (fun h => h.elim (fun h => absurd h N_x__59) (fun h => absurd h N_x__60))))))))))))) (fun k => (FI229 (x + 2) k).resolve_left (fun h => h.elim (fun h => absurd h.1 N_x_2__48) (fun h => h.elim (fun h => absurd h.1 N_x_2__48) (fun h => h.elim (fun h => absurd h.1 N_x_2__48) (fun h => h.elim (fun h => absurd h N_x_2__51) (fun h => h.elim (fun h => absurd h N_x_2__52) (fun h => h.elim (fun h => absurd h N_x_2__53) (fun h => h.elim (fun h => absurd h N_x_2__54) (fun h => h.elim (fun h => absurd h N_x_2__55) (fun h => h.elim (fun h => absurd h.1 N_x_2__48) (fun h => h.elim (fun h => absurd h N_x_2__58) (fun h => h.elim (fun h => absurd h N_x_2__59) (fun h => absurd h N_x_2__60))))))))))))) (fun k => (FI229 (x + 3) k).resolve_left (fun h => h.elim (fun h => absurd h.1 N_x_3__48) (fun h => h.elim (fun h => absurd h.1 N_x_3__48) (fun h => h.elim (fun h => absurd h.1 N_x_3__48) (fun h => h.elim (fun h => absurd h N_x_3__51) (fun h => h.elim (fun h => absurd h N_x_3__52) (fun h => h.elim (fun h => absurd h N_x_3__53) (fun h => h.elim (fun h => absurd h N_x_3__54) (fun h => h.elim (fun h => absurd h N_x_3__55) (fun h => h.elim (fun h => absurd h.1 N_x_3__48) (fun h => h.elim (fun h => absurd h N_x_3__58) (fun h => h.elim (fun h => absurd h N_x_3__59) (fun h => absurd h N_x_3__60)))))))))))))) (by exact gz_m 148 (by omega)) (by exact gz_m 149 (by omega)) (by exact gz_m 150 (by omega)) (by exact gz_m 151 (by omega)) (by exact gz_m 152 (by omega)) (gc_un_fr x12 ((FI229 a1 4).resolve_left (fun h => h.elim (fun h => absurd h.2 (by decide)) (fun h => h.elim (fun h => absurd h.2 (by decide)) (fun h => h.elim (fun h => absurd h.2 (by decide)) (fun h => h.elim (fun h => absurd h N_a1__51) (fun h => h.elim (fun h => absurd h N_a1__52) (fun h => h.elim (fun h => absurd h N_a1__53) (fun h => h.elim (fun h => absurd h N_a1__54) (fun h => h.elim (fun h => absurd h N_a1__55) (fun h => h.elim (fun h => absurd h.2 (by decide)) (fun h => h.elim (fun h => absurd h N_a1__58) (fun h => h.elim (fun h => absurd h N_a1__59) (fun h => absurd h N_a1__60))))))))))))) ((FI229 a1 1).resolve_left (fun h => h.elim (fun h => absurd h.2 (by decide)) (fun h => h.elim (fun h => absurd h.2 (by decide)) (fun h => h.elim (fun h => absurd h.2 (by decide)) (fun h => h.elim (fun h => absurd h N_a1__51) (fun h => h.elim (fun h => absurd h N_a1__52) (fun h => h.elim (fun h => absurd h N_a1__53) (fun h => h.elim (fun h => absurd h N_a1__54) (fun h => h.elim (fun h => absurd h N_a1__55) (fun h => h.elim (fun h => absurd h.2 (by decide)) (fun h => h.elim (fun h => absurd h N_a1__58) (fun h => h.elim (fun h => absurd h N_a1__59) (fun h => absurd h N_a1__60))))))))))))) ((FI229 (a1 + 1) 0).resolve_left (fun h => h.elim (fun h => absurd h.2 (by decide)) (fun h => h.elim (fun h => absurd h.2 (by decide)) (fun h => h.elim (fun h => absurd h.2 (by decide)) (fun h => h.elim (fun h => absurd h N_a1_1__51) (fun h => h.elim (fun h => absurd h N_a1_1__52) (fun h => h.elim (fun h => absurd h N_a1_1__53) (fun h => h.elim (fun h => absurd h N_a1_1__54) (fun h => h.elim (fun h => absurd h N_a1_1__55) (fun h => h.elim (fun h => absurd h.2 (by decide)) (fun h => h.elim (fun h => absurd h N_a1_1__58) (fun h => h.elim (fun h => absurd h N_a1_1__59) (fun h => absurd h N_a1_1__60))))))))))))) (fun k => (FI229 13 k).resolve_left (fun h => h.elim (fun h => absurd h.1 (by decide)) (fun h => h.elim (fun h => absurd h.1 (by decide)) (fun h => h.elim (fun h => absurd h.1 (by decide)) (fun h => h.elim (fun h => absurd h (by decide)) (fun h => h.elim (fun h => absurd h (by decide)) (fun h => h.elim (fun h => absurd h (by decide)) (fun h => h.elim (fun h => absurd h (by decide)) (fun h => h.elim (fun h => absurd h (by decide)) (fun h => h.elim (fun h => absurd h.1 (by decide)) (fun h => h.elim (fun h => absurd h (by decide)) (fun h => h.elim (fun h => absurd h (by decide)) (fun h => absurd h (by decide))))))))))))))) (gc_CH_push KCH_I136 (by exact gz_m 153 (by omega)) (by exact gz_m 154 (by omega)) (fun k hk => (((p230 58 k (fun h => absurd h.1 (by exact gz_m 155 (by omega)))).trans (p202 58 k (fun h => by have := h.2; exact gz_m 156 (by omega)))).trans (p169 58 k (fun h => absurd h.1 (by exact gz_m 157 (by omega)))))) (by have h9 : I229 58 (Int.toNat a4) = v9_122 := ((p230 58 (Int.toNat a4) (fun h => absurd h.1 (by exact gz_m 158 (by omega))))).trans q202; exact gz_m 159 (by omega))) (by rw [show I229 a1 0 = I a1 0 from (FI229 a1 0).resolve_left (fun h => h.elim (fun h => absurd h.2 (by decide)) (fun h => h.elim (fun h => absurd h.2 (by decide)) (fun h => h.elim (fun h => absurd h.2 (by decide)) (fun h => h.elim (fun h => absurd h N_a1__51) (fun h => h.elim (fun h => absurd h N_a1__52) (fun h => h.elim (fun h => absurd h N_a1__53) (fun h => h.elim (fun h => absurd h N_a1__54) (fun h => h.elim (fun h => absurd h N_a1__55) (fun h => h.elim (fun h => absurd h.2 (by decide)) (fun h => h.elim (fun h => absurd h N_a1__58) (fun h => h.elim (fun h => absurd h N_a1__59) (fun h => absurd h N_a1__60)))))))))))), show I229 a1 8 = I a1 8 from (FI229 a1 8).resolve_left (fun h => h.elim (fun h => absurd h.2 (by decide)) (fun h => h.elim (fun h => absurd h.2 (by decide)) (fun h => h.elim (fun h => absurd h.2 (by decide)) (fun h => h.elim (fun h => absurd h N_a1__51) (fun h => h.elim (fun h => absurd h N_a1__52) (fun h => h.elim (fun h => absurd h N_a1__53) (fun h => h.elim (fun h => absurd h N_a1__54) (fun h => h.elim (fun h => absurd h N_a1__55) (fun h => h.elim (fun h => absurd h.2 (by decide)) (fun h => h.elim (fun h => absurd h N_a1__58) (fun h => h.elim (fun h => absurd h N_a1__59) (fun h => absurd h N_a1__60))))))))))))]; exact x14) (by exact gz_m 160 (by omega)) (by exact gz_m 161 (by omega)) (by exact gz_m 162 (by omega)) (by exact gz_m 163 (by omega)) (by exact gz_m 164 (by omega)) (by exact gz_m 165 (by omega)) KWV_I229 KFN_I229 KWA_I229 KFD_I229 KFZ_I229 KTR_I229 KWB_I229 (by exact gz_m 166 (by omega))
                  obtain ⟨I258, J259, rfl, hI258, g257, k257, KWV_I258, KFN_I258, KWA_I258, KFD_I258, KFZ_I258, KTR_I258, KWB_I258, ⟨rfl, q257⟩⟩ := P257
                  have FI258 := gc_frc (W := fun q j => (q = 48 ∧ j = 3) ∨ (q = 48 ∧ j = 6) ∨ (q = 48 ∧ j = 12) ∨ q = 51 ∨ q = 52 ∨ q = 53 ∨ q = 54 ∨ q = 55 ∨ (q = 48 ∧ j = 11) ∨ q = 58 ∨ q = 59 ∨ q = 60) (V := fun q j => (q = 48 ∧ j = 3) ∨ (q = 48 ∧ j = 6) ∨ (q = 48 ∧ j = 12) ∨ q = 51 ∨ q = 52 ∨ q = 53 ∨ q = 54 ∨ q = 55 ∨ (q = 48 ∧ j = 11) ∨ q = 58 ∨ q = 59 ∨ q = 60) FI229 (fun q j h => (h.elim (fun h => (Or.inl h)) (fun h => (h.elim (fun h => (Or.inr (Or.inl h))) (fun h => (h.elim (fun h => (Or.inr (Or.inr (Or.inl h)))) (fun h => (h.elim (fun h => (Or.inr (Or.inr (Or.inr (Or.inl h))))) (fun h => (h.elim (fun h => (Or.inr (Or.inr (Or.inr (Or.inr (Or.inl h)))))) (fun h => (h.elim (fun h => (Or.inr (Or.inr (Or.inr (Or.inr (Or.inr (Or.inl h))))))) (fun h => (h.elim (fun h => (Or.inr (Or.inr (Or.inr (Or.inr (Or.inr (Or.inr (Or.inl h)))))))) (fun h => (h.elim (fun h => (Or.inr (Or.inr (Or.inr (Or.inr (Or.inr (Or.inr (Or.inr (Or.inl h))))))))) (fun h => (h.elim (fun h => (Or.inr (Or.inr (Or.inr (Or.inr (Or.inr (Or.inr (Or.inr (Or.inr (Or.inl h)))))))))) (fun h => (h.elim (fun h => (Or.inr (Or.inr (Or.inr (Or.inr (Or.inr (Or.inr (Or.inr (Or.inr (Or.inr (Or.inl h))))))))))) (fun h => (h.elim (fun h => (Or.inr (Or.inr (Or.inr (Or.inr (Or.inr (Or.inr (Or.inr (Or.inr (Or.inr (Or.inr (Or.inl h)))))))))))) (fun h => (Or.inr (Or.inr (Or.inr (Or.inr (Or.inr (Or.inr (Or.inr (Or.inr (Or.inr (Or.inr (Or.inr h)))))))))))))))))))))))))))))))))) g257
                  have t260 := (g257 48 17).resolve_left (fun h => h.elim (fun h => absurd h.2 (by decide)) (fun h => h.elim (fun h => absurd h.2 (by decide)) (fun h => h.elim (fun h => absurd h.2 (by decide)) (fun h => h.elim (fun h => absurd h (by decide)) (fun h => h.elim (fun h => absurd h (by decide)) (fun h => h.elim (fun h => absurd h (by decide)) (fun h => h.elim (fun h => absurd h (by decide)) (fun h => h.elim (fun h => absurd h (by decide)) (fun h => h.elim (fun h => absurd h.2 (by decide)) (fun h => h.elim (fun h => absurd h (by decide)) (fun h => h.elim (fun h => absurd h (by decide)) (fun h => absurd h (by decide)))))))))))))
                  have t261 := (g257 48 18).resolve_left (fun h => h.elim (fun h => absurd h.2 (by decide)) (fun h => h.elim (fun h => absurd h.2 (by decide)) (fun h => h.elim (fun h => absurd h.2 (by decide)) (fun h => h.elim (fun h => absurd h (by decide)) (fun h => h.elim (fun h => absurd h (by decide)) (fun h => h.elim (fun h => absurd h (by decide)) (fun h => h.elim (fun h => absurd h (by decide)) (fun h => h.elim (fun h => absurd h (by decide)) (fun h => h.elim (fun h => absurd h.2 (by decide)) (fun h => h.elim (fun h => absurd h (by decide)) (fun h => h.elim (fun h => absurd h (by decide)) (fun h => absurd h (by decide)))))))))))))
                  have t262 := (g257 t 13).resolve_left (fun h => h.elim (fun h => absurd h.2 (by decide)) (fun h => h.elim (fun h => absurd h.2 (by decide)) (fun h => h.elim (fun h => absurd h.2 (by decide)) (fun h => h.elim (fun h => absurd h N_t__51) (fun h => h.elim (fun h => absurd h N_t__52) (fun h => h.elim (fun h => absurd h N_t__53) (fun h => h.elim (fun h => absurd h N_t__54) (fun h => h.elim (fun h => absurd h N_t__55) (fun h => h.elim (fun h => absurd h.2 (by decide)) (fun h => h.elim (fun h => absurd h N_t__58) (fun h => h.elim (fun h => absurd h N_t__59) (fun h => absurd h N_t__60))))))))))))
                  have t263 := (g257 x 4).resolve_left (fun h => h.elim (fun h => absurd h.2 (by decide)) (fun h => h.elim (fun h => absurd h.2 (by decide)) (fun h => h.elim (fun h => absurd h.2 (by decide)) (fun h => h.elim (fun h => absurd h N_x__51) (fun h => h.elim (fun h => absurd h N_x__52) (fun h => h.elim (fun h => absurd h N_x__53) (fun h => h.elim (fun h => absurd h N_x__54) (fun h => h.elim (fun h => absurd h N_x__55) (fun h => h.elim (fun h => absurd h.2 (by decide)) (fun h => h.elim (fun h => absurd h N_x__58) (fun h => h.elim (fun h => absurd h N_x__59) (fun h => absurd h N_x__60))))))))))))
                  have t264 := (g257 a1 4).resolve_left (fun h => h.elim (fun h => absurd h.2 (by decide)) (fun h => h.elim (fun h => absurd h.2 (by decide)) (fun h => h.elim (fun h => absurd h.2 (by decide)) (fun h => h.elim (fun h => absurd h N_a1__51) (fun h => h.elim (fun h => absurd h N_a1__52) (fun h => h.elim (fun h => absurd h N_a1__53) (fun h => h.elim (fun h => absurd h N_a1__54) (fun h => h.elim (fun h => absurd h N_a1__55) (fun h => h.elim (fun h => absurd h.2 (by decide)) (fun h => h.elim (fun h => absurd h N_a1__58) (fun h => h.elim (fun h => absurd h N_a1__59) (fun h => absurd h N_a1__60))))))))))))
                  have t265 := (g257 a1 0).resolve_left (fun h => h.elim (fun h => absurd h.2 (by decide)) (fun h => h.elim (fun h => absurd h.2 (by decide)) (fun h => h.elim (fun h => absurd h.2 (by decide)) (fun h => h.elim (fun h => absurd h N_a1__51) (fun h => h.elim (fun h => absurd h N_a1__52) (fun h => h.elim (fun h => absurd h N_a1__53) (fun h => h.elim (fun h => absurd h N_a1__54) (fun h => h.elim (fun h => absurd h N_a1__55) (fun h => h.elim (fun h => absurd h.2 (by decide)) (fun h => h.elim (fun h => absurd h N_a1__58) (fun h => h.elim (fun h => absurd h N_a1__59) (fun h => absurd h N_a1__60))))))))))))
                  have t266 := (g257 2 1).resolve_left (fun h => h.elim (fun h => absurd h.2 (by decide)) (fun h => h.elim (fun h => absurd h.2 (by decide)) (fun h => h.elim (fun h => absurd h.2 (by decide)) (fun h => h.elim (fun h => absurd h (by decide)) (fun h => h.elim (fun h => absurd h (by decide)) (fun h => h.elim (fun h => absurd h (by decide)) (fun h => h.elim (fun h => absurd h (by decide)) (fun h => h.elim (fun h => absurd h (by decide)) (fun h => h.elim (fun h => absurd h.2 (by decide)) (fun h => h.elim (fun h => absurd h (by decide)) (fun h => h.elim (fun h => absurd h (by decide)) (fun h => absurd h (by decide)))))))))))))
                  have t267 := (g257 48 13).resolve_left (fun h => h.elim (fun h => absurd h.2 (by decide)) (fun h => h.elim (fun h => absurd h.2 (by decide)) (fun h => h.elim (fun h => absurd h.2 (by decide)) (fun h => h.elim (fun h => absurd h (by decide)) (fun h => h.elim (fun h => absurd h (by decide)) (fun h => h.elim (fun h => absurd h (by decide)) (fun h => h.elim (fun h => absurd h (by decide)) (fun h => h.elim (fun h => absurd h (by decide)) (fun h => h.elim (fun h => absurd h.2 (by decide)) (fun h => h.elim (fun h => absurd h (by decide)) (fun h => h.elim (fun h => absurd h (by decide)) (fun h => absurd h (by decide)))))))))))))
                  have t268 := (g257 48 14).resolve_left (fun h => h.elim (fun h => absurd h.2 (by decide)) (fun h => h.elim (fun h => absurd h.2 (by decide)) (fun h => h.elim (fun h => absurd h.2 (by decide)) (fun h => h.elim (fun h => absurd h (by decide)) (fun h => h.elim (fun h => absurd h (by decide)) (fun h => h.elim (fun h => absurd h (by decide)) (fun h => h.elim (fun h => absurd h (by decide)) (fun h => h.elim (fun h => absurd h (by decide)) (fun h => h.elim (fun h => absurd h.2 (by decide)) (fun h => h.elim (fun h => absurd h (by decide)) (fun h => h.elim (fun h => absurd h (by decide)) (fun h => absurd h (by decide)))))))))))))
                  have f269 := (show 0 ≤ I258 48 3 ∧ I258 48 3 ≤ 3000 from gc_in hI258 R_48 rfl rfl)
                  have f270 := (show 0 ≤ I258 48 6 ∧ I258 48 6 ≤ 9000 from gc_in hI258 R_48 rfl rfl)
                  have f271 := (show 0 ≤ I258 48 11 ∧ I258 48 11 ≤ 1000000 from gc_in hI258 R_48 rfl rfl)
                  have f272 := (show 0 ≤ I258 48 12 ∧ I258 48 12 ≤ 1 from gc_in hI258 R_48 rfl rfl)
                  have f273 := (show 0 ≤ I258 48 17 ∧ I258 48 17 ≤ 3000 from gc_in hI258 R_48 rfl rfl)
                  have f274 := (show 0 ≤ I258 48 18 ∧ I258 48 18 ≤ 24 from gc_in hI258 R_48 rfl rfl)
                  have f275 := (show 0 ≤ I258 t 13 ∧ I258 t 13 ≤ 384 from gc_in hI258 R_t rfl rfl)
                  have f276 := (show 0 ≤ I258 x 4 ∧ I258 x 4 ≤ 24 from gc_in hI258 R_x rfl rfl)
                  have f277 := (show 0 ≤ I258 a1 4 ∧ I258 a1 4 ≤ 6 from gc_in hI258 R_a1 rfl rfl)
                  have f278 := (show 0 ≤ I258 a1 0 ∧ I258 a1 0 ≤ 384 from gc_in hI258 R_a1 rfl rfl)
                  have f279 := (show 0 ≤ I258 2 1 ∧ I258 2 1 ≤ 32 from gc_in hI258 R_2 rfl rfl)
                  have f280 := (show (-1) ≤ I258 48 13 ∧ I258 48 13 ≤ 999999 from gc_in hI258 R_48 rfl rfl)
                  have f281 := (show (-1) ≤ I258 48 14 ∧ I258 48 14 ≤ 999999 from gc_in hI258 R_48 rfl rfl)
                  obtain rfl : J137 = J259 := funext fun q => funext fun j => ((k257 q j).resolve_left id).symm
                  have KCH_I258 : gc_CH a4 I258 := (gc_CH_w q257.2.2.2 (by exact gz_m 167 (by omega)))
                  refine gv_callV hD rfl (As := [.inr (.inr (some a1)), .inl (a2 + 1), .inl v7_106, .inl (a4 + 1)]) (st := []) rfl B_48 S_48 rfl (gc_lV0 hws rfl) (Nat.le_of_ble_eq_true rfl) (gz_Ev_mono (d := (2 + nr)) (Nat.le_refl _) E257) ?_
                  show gv_X _ _ (348, [(10, .inl z197), (0, .inr (.inr (some 48))), (1, .inr (.inr (some a1))), (2, .inl a2), (3, .inl a3), (4, .inl a4), (5, .inl v5_90), (6, .inl v6_90), (7, .inl v7_106), (8, .inl v8_122), (9, .inl v9_122)], [], sh, gc_h sh I258 J137 A)
                  refine gv_pick [1, 2, 3, 4, 5, 6, 7, 8, 9, 10] rfl ?_
                  exact L348 I258 J137 hI258 FI258 FJ137 KWV_I258 KFN_I258 KWA_I258 KFD_I258 KFZ_I258 KTR_I258 KWB_I258 KCH_I258 (by exact gz_m 168 (by omega))
            have L277 : ∀ (I282 : gr_I) (J283 : gr_J) , gc_Inv ro I282 → (∀ q j : Nat, ((q = 48 ∧ j = 3) ∨ (q = 48 ∧ j = 6) ∨ (q = 48 ∧ j = 12) ∨ q = 51 ∨ q = 52 ∨ q = 53 ∨ q = 54 ∨ q = 55 ∨ (q = 48 ∧ j = 11) ∨ q = 58 ∨ q = 59 ∨ q = 60) ∨ I282 q j = I q j) → (∀ q j : Nat, (False) ∨ J283 q j = J q j) → gc_WV t I282 → gc_FN I282 → gc_WA σ I282 → gc_FD nw nk sz bg kd I282 → gc_FZ I282 → gc_CH a4 I282 → gc_WB wb I282 → ((0 ≤ a2 ∧ a2 ≤ 5) ∧ (0 ≤ a3 ∧ a3 ≤ 24) ∧ (0 ≤ a4 ∧ a4 ≤ 4) ∧ (0 ≤ v5_90 ∧ v5_90 ≤ 5) ∧ (0 ≤ v6_90 ∧ v6_90 ≤ 31) ∧ (1 ≤ v7_106 ∧ v7_106 ≤ 24) ∧ (0 ≤ v8_122 ∧ v8_122 ≤ 18431) ∧ (0 ≤ v9_122 ∧ v9_122 ≤ 2999) ∧ (v5_90 = I a1 4 - a2 - 1) ∧ (a2 < I a1 4) ∧ (a4 ≤ 3) ∧ (0 ≤ I (a1 + 1) (Int.toNat a2)) ∧ (v8_122 = (a3 * 24 + (v7_106 - a3) - 1) * 32 + v6_90) ∧ (I282 48 11 ≤ 400001) ∧ (I 48 3 ≤ I282 48 3) ∧ (a3 < v7_106) ∧ (v7_106 + v5_90 ≤ I282 48 18) ∧ (v9_122 < I282 48 3) ∧ (I282 2 1 = I 2 1) ∧ (I282 a1 4 = I a1 4) ∧ (I282 a1 0 = I a1 0) ∧ (I282 t 13 = I t 13) ∧ (I282 48 18 = I 48 18) ∧ (I282 x 4 = I x 4) ∧ (I282 48 17 = I 48 17) ∧ (I282 48 13 = (t : Int)) ∧ (I282 48 14 = (x : Int))) → gv_X (gc_E0 ws0 tb (2 + nr) (yX0_lay, cX0_lay, 11, none) kX0_lay) (gv_Q cX0_lay none sh (fun r h' => (∃ (I' : gr_I) (J' : gr_J), h' = gc_h sh I' J' A ∧ gc_Inv ro I' ∧ (∀ q j : Nat, ((q = 48 ∧ j = 3) ∨ (q = 48 ∧ j = 6) ∨ (q = 48 ∧ j = 12) ∨ q = 51 ∨ q = 52 ∨ q = 53 ∨ q = 54 ∨ q = 55 ∨ (q = 48 ∧ j = 11) ∨ q = 58 ∨ q = 59 ∨ q = 60) ∨ I' q j = I q j) ∧ (∀ q j : Nat, (False) ∨ J' q j = J q j) ∧ gc_WV t I' ∧ gc_FN I' ∧ gc_WA σ I' ∧ gc_FD nw nk sz bg kd I' ∧ gc_FZ I' ∧ gc_TR I' ∧ gc_WB wb I' ∧ r = none ∧ (0 ≤ I' 48 11) ∧ (I' 48 11 ≤ 400001) ∧ (I 48 3 ≤ I' 48 3) ∧ (gc_CH a4 I')))) (277, [(0, .inr (.inr (some 48))), (1, .inr (.inr (some a1))), (2, .inl a2), (3, .inl a3), (4, .inl a4), (5, .inl v5_90), (6, .inl v6_90), (7, .inl v7_106), (8, .inl v8_122), (9, .inl v9_122)], [.inr (.inr (some 48))], sh, gc_h sh I282 J283 A) := by
              intro I282 J283 hI282 FI282 FJ283 KWV_I282 KFN_I282 KWA_I282 KFD_I282 KFZ_I282 KCH_I282 KWB_I282 m_284
              clear ha2_122 ha3_122 ha4_122 hv5_90_122 hv6_90_122 hv7_106_122 hv8_122 hv9_122 e0_122 e1_122 e2_122 e3_122 e4_122 e5_122 e6_122 e7_122 e8_122 e9_122 e10_122 e11_122 e12_122 e13_122 e14_122 e15_122 e16_122 e17_122 f123 f124 f125 f126 f127 f128 f129 f130 f131 f132 f133 f134 f135
              obtain ⟨ha2_284, ha3_284, ha4_284, hv5_90_284, hv6_90_284, hv7_106_284, hv8_122_284, hv9_122_284, e0_284, e1_284, e2_284, e3_284, e4_284, e5_284, e6_284, e7_284, e8_284, e9_284, e10_284, e11_284, e12_284, e13_284, e14_284, e15_284, e16_284, e17_284, e18_284⟩ := m_284
              have f285 := (show 0 ≤ I282 48 3 ∧ I282 48 3 ≤ 3000 from gc_in hI282 R_48 rfl rfl)
              have f286 := (show 0 ≤ I282 48 6 ∧ I282 48 6 ≤ 9000 from gc_in hI282 R_48 rfl rfl)
              have f287 := (show 0 ≤ I282 48 11 ∧ I282 48 11 ≤ 1000000 from gc_in hI282 R_48 rfl rfl)
              have f288 := (show 0 ≤ I282 48 12 ∧ I282 48 12 ≤ 1 from gc_in hI282 R_48 rfl rfl)
              have f289 := (show 0 ≤ I282 48 17 ∧ I282 48 17 ≤ 3000 from gc_in hI282 R_48 rfl rfl)
              have f290 := (show 0 ≤ I282 48 18 ∧ I282 48 18 ≤ 24 from gc_in hI282 R_48 rfl rfl)
              have f291 := (show 0 ≤ I282 t 13 ∧ I282 t 13 ≤ 384 from gc_in hI282 R_t rfl rfl)
              have f292 := (show 0 ≤ I282 x 4 ∧ I282 x 4 ≤ 24 from gc_in hI282 R_x rfl rfl)
              have f293 := (show 0 ≤ I282 a1 4 ∧ I282 a1 4 ≤ 6 from gc_in hI282 R_a1 rfl rfl)
              have f294 := (show 0 ≤ I282 a1 0 ∧ I282 a1 0 ≤ 384 from gc_in hI282 R_a1 rfl rfl)
              have f295 := (show 0 ≤ I282 2 1 ∧ I282 2 1 ≤ 32 from gc_in hI282 R_2 rfl rfl)
              have f296 := (show (-1) ≤ I282 48 13 ∧ I282 48 13 ≤ 999999 from gc_in hI282 R_48 rfl rfl)
              have f297 := (show (-1) ≤ I282 48 14 ∧ I282 48 14 ≤ 999999 from gc_in hI282 R_48 rfl rfl)
              refine gv_run 2 true hD (pc' := 282) (lv' := [(0, .inr (.inr (some 48))), (1, .inr (.inr (some a1))), (2, .inl a2), (3, .inl a3), (4, .inl a4), (5, .inl v5_90), (6, .inl v6_90), (7, .inl v7_106), (8, .inl v8_122), (9, .inl v9_122)]) (st' := [.inl 1, .inr (.inr (some 48))]) (h' := gc_h sh I282 J283 A) (C := ((True ∧ True) ∧ True)) rfl ⟨⟨trivial, trivial⟩, trivial⟩ ?_
              exact L282 I282 J283 1 hI282 FI282 FJ283 KWV_I282 KFN_I282 KWA_I282 KFD_I282 KFZ_I282 KCH_I282 KWB_I282 (by exact gz_m 169 (by omega))
            have L354 : ((0 ≤ a2 ∧ a2 ≤ 5) ∧ (0 ≤ a3 ∧ a3 ≤ 24) ∧ (0 ≤ a4 ∧ a4 ≤ 4) ∧ (0 ≤ v5_90 ∧ v5_90 ≤ 5) ∧ (0 ≤ v6_90 ∧ v6_90 ≤ 31) ∧ (1 ≤ v7_106 ∧ v7_106 ≤ 24) ∧ (v5_90 = I a1 4 - a2 - 1) ∧ (a2 < I a1 4) ∧ (a4 ≤ 3) ∧ (0 ≤ I (a1 + 1) (Int.toNat a2)) ∧ (I120 48 11 ≤ 400001) ∧ (I 48 3 ≤ I120 48 3) ∧ (a3 < v7_106) ∧ (v7_106 + v5_90 ≤ I120 48 18) ∧ (I120 2 1 = I 2 1) ∧ (I120 a1 4 = I a1 4) ∧ (I120 a1 0 = I a1 0) ∧ (I120 t 13 = I t 13) ∧ (I120 48 18 = I 48 18) ∧ (I120 x 4 = I x 4) ∧ (I120 48 17 = I 48 17) ∧ (I120 48 13 = (t : Int)) ∧ (I120 48 14 = (x : Int))) → gv_X (gc_E0 ws0 tb (2 + nr) (yX0_lay, cX0_lay, 11, none) kX0_lay) (gv_Q cX0_lay none sh (fun r h' => (∃ (I' : gr_I) (J' : gr_J), h' = gc_h sh I' J' A ∧ gc_Inv ro I' ∧ (∀ q j : Nat, ((q = 48 ∧ j = 3) ∨ (q = 48 ∧ j = 6) ∨ (q = 48 ∧ j = 12) ∨ q = 51 ∨ q = 52 ∨ q = 53 ∨ q = 54 ∨ q = 55 ∨ (q = 48 ∧ j = 11) ∨ q = 58 ∨ q = 59 ∨ q = 60) ∨ I' q j = I q j) ∧ (∀ q j : Nat, (False) ∨ J' q j = J q j) ∧ gc_WV t I' ∧ gc_FN I' ∧ gc_WA σ I' ∧ gc_FD nw nk sz bg kd I' ∧ gc_FZ I' ∧ gc_TR I' ∧ gc_WB wb I' ∧ r = none ∧ (0 ≤ I' 48 11) ∧ (I' 48 11 ≤ 400001) ∧ (I 48 3 ≤ I' 48 3) ∧ (gc_CH a4 I')))) (354, [(0, .inr (.inr (some 48))), (1, .inr (.inr (some a1))), (2, .inl a2), (3, .inl a3), (4, .inl a4), (5, .inl v5_90), (6, .inl v6_90), (7, .inl v7_106)], [], sh, gc_h sh I120 J121 A) := by
              intro m_298
              obtain ⟨ha2_298, ha3_298, ha4_298, hv5_90_298, hv6_90_298, hv7_106_298, e0_298, e1_298, e2_298, e3_298, e4_298, e5_298, e6_298, e7_298, e8_298, e9_298, e10_298, e11_298, e12_298, e13_298, e14_298, e15_298, e16_298⟩ := m_298
              have f299 := (show 0 ≤ I120 48 3 ∧ I120 48 3 ≤ 3000 from gc_in hI120 R_48 rfl rfl)
              have f300 := (show 0 ≤ I120 48 6 ∧ I120 48 6 ≤ 9000 from gc_in hI120 R_48 rfl rfl)
              have f301 := (show 0 ≤ I120 48 11 ∧ I120 48 11 ≤ 1000000 from gc_in hI120 R_48 rfl rfl)
              have f302 := (show 0 ≤ I120 48 12 ∧ I120 48 12 ≤ 1 from gc_in hI120 R_48 rfl rfl)
              have f303 := (show 0 ≤ I120 48 17 ∧ I120 48 17 ≤ 3000 from gc_in hI120 R_48 rfl rfl)
              have f304 := (show 0 ≤ I120 48 18 ∧ I120 48 18 ≤ 24 from gc_in hI120 R_48 rfl rfl)
              have f305 := (show 0 ≤ I120 t 13 ∧ I120 t 13 ≤ 384 from gc_in hI120 R_t rfl rfl)
              have f306 := (show 0 ≤ I120 x 4 ∧ I120 x 4 ≤ 24 from gc_in hI120 R_x rfl rfl)
              have f307 := (show 0 ≤ I120 a1 4 ∧ I120 a1 4 ≤ 6 from gc_in hI120 R_a1 rfl rfl)
              have f308 := (show 0 ≤ I120 a1 0 ∧ I120 a1 0 ≤ 384 from gc_in hI120 R_a1 rfl rfl)
              have f309 := (show 0 ≤ I120 2 1 ∧ I120 2 1 ≤ 32 from gc_in hI120 R_2 rfl rfl)
              have f310 := (show (-1) ≤ I120 48 13 ∧ I120 48 13 ≤ 999999 from gc_in hI120 R_48 rfl rfl)
              have f311 := (show (-1) ≤ I120 48 14 ∧ I120 48 14 ≤ 999999 from gc_in hI120 R_48 rfl rfl)
              refine gv_run 2 true hD (pc' := 183) (lv' := [(7, .inl (v7_106 + 1)), (0, .inr (.inr (some 48))), (1, .inr (.inr (some a1))), (2, .inl a2), (3, .inl a3), (4, .inl a4), (5, .inl v5_90), (6, .inl v6_90)]) (st' := []) (h' := gc_h sh I120 J121 A) (C := ((True ∧ True) ∧ True)) rfl ⟨⟨trivial, trivial⟩, trivial⟩ ?_
              refine gv_pick [1, 2, 3, 4, 5, 6, 7, 0] rfl ?_
              exact ih183 I120 J121 (v7_106 + 1) (by exact gz_m 170 (by omega)) hI120 FI120 FJ121 KWV_I120 KFN_I120 KWA_I120 KFD_I120 KFZ_I120 KTR_I120 KWB_I120 KCH_I120 (by exact gz_m 171 (by omega))
            have t312 := gc_FDZ (a := a3) (l := v7_106 - a3) (k := v6_90) (j := v8_122) KFD_I120 KFZ_I120 (by exact gz_m 172 (by omega)) (by exact gz_m 173 (by omega)) (by exact gz_m 174 (by omega)) (by exact gz_m 175 (by omega)) (by have h9 := e0_90; unfold gc_u2 at h9; exact gz_m 176 (by omega)) (by exact gz_m 177 (by omega))
            refine gv_run 2 true hD (pc' := 226) (lv' := [(0, .inr (.inr (some 48))), (1, .inr (.inr (some a1))), (2, .inl a2), (3, .inl a3), (4, .inl a4), (5, .inl v5_90), (6, .inl v6_90), (7, .inl v7_106), (8, .inl v8_122), (9, .inl v9_122)]) (st' := [.inr (.inr (some 48)), .inl v9_122]) (h' := gc_h sh I120 J121 A) (C := ((True ∧ True) ∧ True)) rfl ⟨⟨trivial, trivial⟩, trivial⟩ ?_
            refine gv_get hD rfl rfl S_48 ⟨by decide, B_48⟩ (gc_hA S_48 rfl A_48_1) ?_
            show gv_X _ _ (229, [(0, .inr (.inr (some 48))), (1, .inr (.inr (some a1))), (2, .inl a2), (3, .inl a3), (4, .inl a4), (5, .inl v5_90), (6, .inl v6_90), (7, .inl v7_106), (8, .inl v8_122), (9, .inl v9_122)], [.inr (.inr (some 49)), .inl v9_122], sh, gc_h sh I120 J121 A)
            refine gv_run 1 true hD (pc' := 231) (lv' := [(0, .inr (.inr (some 48))), (1, .inr (.inr (some a1))), (2, .inl a2), (3, .inl a3), (4, .inl a4), (5, .inl v5_90), (6, .inl v6_90), (7, .inl v7_106), (8, .inl v8_122), (9, .inl v9_122)]) (st' := [.inl v8_122, .inr (.inr (some 49)), .inl v9_122]) (h' := gc_h sh I120 J121 A) (C := (True ∧ True)) rfl ⟨trivial, trivial⟩ ?_
            have f313 := (show 0 ≤ I120 49 (Int.toNat v8_122) ∧ I120 49 (Int.toNat v8_122) ≤ 3000 from gc_in hI120 R_49 rfl rfl)
            refine gv_iald hD rfl S_49 rfl ⟨by decide, B_49⟩ ⟨by exact gz_m 178 (by omega), by exact gz_m 179 (by omega)⟩ (gc_iI S_49 rfl) ?_
            show gv_X _ _ (232, [(0, .inr (.inr (some 48))), (1, .inr (.inr (some a1))), (2, .inl a2), (3, .inl a3), (4, .inl a4), (5, .inl v5_90), (6, .inl v6_90), (7, .inl v7_106), (8, .inl v8_122), (9, .inl v9_122)], [.inl (I120 49 (Int.toNat v8_122)), .inl v9_122], sh, gc_h sh I120 J121 A)
            refine gv_run 1 true hD (pc' := 233) (lv' := [(0, .inr (.inr (some 48))), (1, .inr (.inr (some a1))), (2, .inl a2), (3, .inl a3), (4, .inl a4), (5, .inl v5_90), (6, .inl v6_90), (7, .inl v7_106), (8, .inl v8_122), (9, .inl v9_122)]) (st' := [.inr (.inr (some 48)), .inl (I120 49 (Int.toNat v8_122)), .inl v9_122]) (h' := gc_h sh I120 J121 A) (C := (True ∧ True)) rfl ⟨trivial, trivial⟩ ?_
            refine gv_get hD rfl rfl S_48 ⟨by decide, B_48⟩ (gc_hA S_48 rfl A_48_2) ?_
            show gv_X _ _ (236, [(0, .inr (.inr (some 48))), (1, .inr (.inr (some a1))), (2, .inl a2), (3, .inl a3), (4, .inl a4), (5, .inl v5_90), (6, .inl v6_90), (7, .inl v7_106), (8, .inl v8_122), (9, .inl v9_122)], [.inr (.inr (some 50)), .inl (I120 49 (Int.toNat v8_122)), .inl v9_122], sh, gc_h sh I120 J121 A)
            refine gv_run 1 true hD (pc' := 238) (lv' := [(0, .inr (.inr (some 48))), (1, .inr (.inr (some a1))), (2, .inl a2), (3, .inl a3), (4, .inl a4), (5, .inl v5_90), (6, .inl v6_90), (7, .inl v7_106), (8, .inl v8_122), (9, .inl v9_122)]) (st' := [.inl v8_122, .inr (.inr (some 50)), .inl (I120 49 (Int.toNat v8_122)), .inl v9_122]) (h' := gc_h sh I120 J121 A) (C := (True ∧ True)) rfl ⟨trivial, trivial⟩ ?_
            have f314 := (show 0 ≤ I120 50 (Int.toNat v8_122) ∧ I120 50 (Int.toNat v8_122) ≤ 3000 from gc_in hI120 R_50 rfl rfl)
            refine gv_iald hD rfl S_50 rfl ⟨by decide, B_50⟩ ⟨by exact gz_m 180 (by omega), by exact gz_m 181 (by omega)⟩ (gc_iI S_50 rfl) ?_
            show gv_X _ _ (239, [(0, .inr (.inr (some 48))), (1, .inr (.inr (some a1))), (2, .inl a2), (3, .inl a3), (4, .inl a4), (5, .inl v5_90), (6, .inl v6_90), (7, .inl v7_106), (8, .inl v8_122), (9, .inl v9_122)], [.inl (I120 50 (Int.toNat v8_122)), .inl (I120 49 (Int.toNat v8_122)), .inl v9_122], sh, gc_h sh I120 J121 A)
            refine gv_run 1 true hD (pc' := 240) (lv' := [(0, .inr (.inr (some 48))), (1, .inr (.inr (some a1))), (2, .inl a2), (3, .inl a3), (4, .inl a4), (5, .inl v5_90), (6, .inl v6_90), (7, .inl v7_106), (8, .inl v8_122), (9, .inl v9_122)]) (st' := [.inl ((I120 49 (Int.toNat v8_122)) + (I120 50 (Int.toNat v8_122))), .inl v9_122]) (h' := gc_h sh I120 J121 A) (C := (True ∧ True)) rfl ⟨trivial, trivial⟩ ?_
            refine gv_icmp_ge (t := 354) hD rfl rfl ⟨⟨by exact gz_m 182 (by omega), by exact gz_m 183 (by omega)⟩, ⟨by exact gz_m 184 (by omega), by exact gz_m 185 (by omega)⟩⟩ (fun c315 => ?_) (fun c315 => ?_)
            · show gv_X _ _ (354, [(0, .inr (.inr (some 48))), (1, .inr (.inr (some a1))), (2, .inl a2), (3, .inl a3), (4, .inl a4), (5, .inl v5_90), (6, .inl v6_90), (7, .inl v7_106), (8, .inl v8_122), (9, .inl v9_122)], [], sh, gc_h sh I120 J121 A)
              refine gv_pick [0, 1, 2, 3, 4, 5, 6, 7] rfl ?_
              exact L354 (by exact gz_m 186 (by omega))
            · show gv_X _ _ (243, [(0, .inr (.inr (some 48))), (1, .inr (.inr (some a1))), (2, .inl a2), (3, .inl a3), (4, .inl a4), (5, .inl v5_90), (6, .inl v6_90), (7, .inl v7_106), (8, .inl v8_122), (9, .inl v9_122)], [], sh, gc_h sh I120 J121 A)
              refine gv_run 1 true hD (pc' := 244) (lv' := [(0, .inr (.inr (some 48))), (1, .inr (.inr (some a1))), (2, .inl a2), (3, .inl a3), (4, .inl a4), (5, .inl v5_90), (6, .inl v6_90), (7, .inl v7_106), (8, .inl v8_122), (9, .inl v9_122)]) (st' := [.inr (.inr (some 48))]) (h' := gc_h sh I120 J121 A) (C := (True ∧ True)) rfl ⟨trivial, trivial⟩ ?_
              have f316 := (show 0 ≤ I120 48 12 ∧ I120 48 12 ≤ 1 from gc_in hI120 R_48 rfl rfl)
              refine gv_get hD rfl rfl S_48 ⟨by decide, B_48⟩ (gc_hI S_48 rfl) ?_
              show gv_X _ _ (247, [(0, .inr (.inr (some 48))), (1, .inr (.inr (some a1))), (2, .inl a2), (3, .inl a3), (4, .inl a4), (5, .inl v5_90), (6, .inl v6_90), (7, .inl v7_106), (8, .inl v8_122), (9, .inl v9_122)], [.inl (I120 48 12)], sh, gc_h sh I120 J121 A)
              refine gv_if_ne (t := 354) hD rfl rfl ⟨by exact gz_m 187 (by omega), by exact gz_m 188 (by omega)⟩ (fun c317 => ?_) (fun c317 => ?_)
              · show gv_X _ _ (354, [(0, .inr (.inr (some 48))), (1, .inr (.inr (some a1))), (2, .inl a2), (3, .inl a3), (4, .inl a4), (5, .inl v5_90), (6, .inl v6_90), (7, .inl v7_106), (8, .inl v8_122), (9, .inl v9_122)], [], sh, gc_h sh I120 J121 A)
                refine gv_pick [0, 1, 2, 3, 4, 5, 6, 7] rfl ?_
                exact L354 (by exact gz_m 189 (by omega))
              · show gv_X _ _ (250, [(0, .inr (.inr (some 48))), (1, .inr (.inr (some a1))), (2, .inl a2), (3, .inl a3), (4, .inl a4), (5, .inl v5_90), (6, .inl v6_90), (7, .inl v7_106), (8, .inl v8_122), (9, .inl v9_122)], [], sh, gc_h sh I120 J121 A)
                have t318 := gc_TR_at KTR_I120 (by exact gz_m 190 (by omega))
                refine gv_run 2 true hD (pc' := 252) (lv' := [(0, .inr (.inr (some 48))), (1, .inr (.inr (some a1))), (2, .inl a2), (3, .inl a3), (4, .inl a4), (5, .inl v5_90), (6, .inl v6_90), (7, .inl v7_106), (8, .inl v8_122), (9, .inl v9_122)]) (st' := [.inr (.inr (some 48)), .inr (.inr (some 48))]) (h' := gc_h sh I120 J121 A) (C := ((True ∧ True) ∧ True)) rfl ⟨⟨trivial, trivial⟩, trivial⟩ ?_
                have f319 := (show 0 ≤ I120 48 11 ∧ I120 48 11 ≤ 1000000 from gc_in hI120 R_48 rfl rfl)
                refine gv_get hD rfl rfl S_48 ⟨by decide, B_48⟩ (gc_hI S_48 rfl) ?_
                show gv_X _ _ (255, [(0, .inr (.inr (some 48))), (1, .inr (.inr (some a1))), (2, .inl a2), (3, .inl a3), (4, .inl a4), (5, .inl v5_90), (6, .inl v6_90), (7, .inl v7_106), (8, .inl v8_122), (9, .inl v9_122)], [.inl (I120 48 11), .inr (.inr (some 48))], sh, gc_h sh I120 J121 A)
                refine gv_run 2 true hD (pc' := 257) (lv' := [(0, .inr (.inr (some 48))), (1, .inr (.inr (some a1))), (2, .inl a2), (3, .inl a3), (4, .inl a4), (5, .inl v5_90), (6, .inl v6_90), (7, .inl v7_106), (8, .inl v8_122), (9, .inl v9_122)]) (st' := [.inl ((I120 48 11) + 1), .inr (.inr (some 48))]) (h' := gc_h sh I120 J121 A) (C := ((True ∧ True) ∧ True)) rfl ⟨⟨trivial, trivial⟩, trivial⟩ ?_
                refine gv_put hD rfl rfl S_48 ⟨by decide, B_48⟩ rfl trivial ?_
                refine gc_st (k := 11) hI120 S_48 rfl R_48 (lo := 0) (hi := 1000000) rfl rfl (by exact gz_m 191 (by omega)) (by exact gz_m 192 (by omega)) (fun I320 hI320 q321 p321 => ?_)
                have FI320 := gc_frs (W := fun q j => (q = 48 ∧ j = 3) ∨ (q = 48 ∧ j = 6) ∨ (q = 48 ∧ j = 12) ∨ q = 51 ∨ q = 52 ∨ q = 53 ∨ q = 54 ∨ q = 55 ∨ (q = 48 ∧ j = 11) ∨ q = 58 ∨ q = 59 ∨ q = 60) FI120 (Or.inr (Or.inr (Or.inr (Or.inr (Or.inr (Or.inr (Or.inr (Or.inr (Or.inl ⟨rfl, rfl⟩))))))))) p321
                have t322 := p321 48 3 (fun h => absurd h.2 (by decide))
                have t323 := p321 48 6 (fun h => absurd h.2 (by decide))
                have t324 := p321 48 12 (fun h => absurd h.2 (by decide))
                have t325 := p321 48 17 (fun h => absurd h.2 (by decide))
                have t326 := p321 48 18 (fun h => absurd h.2 (by decide))
                have t327 := p321 t 13 (fun h => absurd h.2 (by decide))
                have t328 := p321 x 4 (fun h => absurd h.2 (by decide))
                have t329 := p321 a1 4 (fun h => absurd h.2 (by decide))
                have t330 := p321 a1 0 (fun h => absurd h.2 (by decide))
                have t331 := p321 2 1 (fun h => absurd h.2 (by decide))
                have t332 := p321 48 13 (fun h => absurd h.2 (by decide))
                have t333 := p321 48 14 (fun h => absurd h.2 (by decide))
                have f334 := (show 0 ≤ I320 48 3 ∧ I320 48 3 ≤ 3000 from gc_in hI320 R_48 rfl rfl)
                have f335 := (show 0 ≤ I320 48 6 ∧ I320 48 6 ≤ 9000 from gc_in hI320 R_48 rfl rfl)
                have f336 := (show 0 ≤ I320 48 11 ∧ I320 48 11 ≤ 1000000 from gc_in hI320 R_48 rfl rfl)
                have f337 := (show 0 ≤ I320 48 12 ∧ I320 48 12 ≤ 1 from gc_in hI320 R_48 rfl rfl)
                have f338 := (show 0 ≤ I320 48 17 ∧ I320 48 17 ≤ 3000 from gc_in hI320 R_48 rfl rfl)
                have f339 := (show 0 ≤ I320 48 18 ∧ I320 48 18 ≤ 24 from gc_in hI320 R_48 rfl rfl)
                have f340 := (show 0 ≤ I320 t 13 ∧ I320 t 13 ≤ 384 from gc_in hI320 R_t rfl rfl)
                have f341 := (show 0 ≤ I320 x 4 ∧ I320 x 4 ≤ 24 from gc_in hI320 R_x rfl rfl)
                have f342 := (show 0 ≤ I320 a1 4 ∧ I320 a1 4 ≤ 6 from gc_in hI320 R_a1 rfl rfl)
                have f343 := (show 0 ≤ I320 a1 0 ∧ I320 a1 0 ≤ 384 from gc_in hI320 R_a1 rfl rfl)
                have f344 := (show 0 ≤ I320 2 1 ∧ I320 2 1 ≤ 32 from gc_in hI320 R_2 rfl rfl)
                have f345 := (show (-1) ≤ I320 48 13 ∧ I320 48 13 ≤ 999999 from gc_in hI320 R_48 rfl rfl)
                have f346 := (show (-1) ≤ I320 48 14 ∧ I320 48 14 ≤ 999999 from gc_in hI320 R_48 rfl rfl)
                have KWV_I320 := gc_WV_fr KWV_I120 (p321 48 6 (fun h => absurd h.2 (by decide))) (p321 t 13 (fun h => absurd h.2 (by decide))) (fun k => p321 54 k (fun h => absurd h.1 (by decide)))
                have KFN_I320 := gc_FN_fr KFN_I120 (fun k => p321 49 k (fun h => absurd h.1 (by decide))) (fun k => p321 50 k (fun h => absurd h.1 (by decide)))
                have KWA_I320 := gc_WA_fr KWA_I120 (p321 48 6 (fun h => absurd h.2 (by decide))) (Int.le_of_eq (p321 48 3 (fun h => absurd h.2 (by decide))).symm) (fun k => p321 53 k (fun h => absurd h.1 (by decide))) (fun k => p321 54 k (fun h => absurd h.1 (by decide))) (fun k => p321 55 k (fun h => absurd h.1 (by decide)))
                have KFD_I320 := gc_FD_fr KFD_I120 (Int.le_of_eq (p321 48 3 (fun h => absurd h.2 (by decide))).symm) (fun k => p321 49 k (fun h => absurd h.1 (by decide))) (fun k => p321 50 k (fun h => absurd h.1 (by decide)))
                have KFZ_I320 := gc_FZ_fr KFZ_I120 (p321 2 1 (fun h => absurd h.2 (by decide))) (fun k => p321 49 k (fun h => absurd h.1 (by decide))) (fun k => p321 50 k (fun h => absurd h.1 (by decide)))
                have KWB_I320 := gc_WB_fr KWB_I120 (p321 48 6 (fun h => absurd h.2 (by decide))) (fun k => p321 54 k (fun h => absurd h.1 (by decide)))
                have KCH_I320 := gc_CH_fr KCH_I120 (Int.le_of_eq (p321 48 3 (fun h => absurd h.2 (by decide))).symm) (fun k => p321 58 k (fun h => absurd h.1 (by decide)))
                show gv_X _ _ (260, [(0, .inr (.inr (some 48))), (1, .inr (.inr (some a1))), (2, .inl a2), (3, .inl a3), (4, .inl a4), (5, .inl v5_90), (6, .inl v6_90), (7, .inl v7_106), (8, .inl v8_122), (9, .inl v9_122)], [], sh, gc_h sh I320 J121 A)
                refine gv_run 2 true hD (pc' := 262) (lv' := [(0, .inr (.inr (some 48))), (1, .inr (.inr (some a1))), (2, .inl a2), (3, .inl a3), (4, .inl a4), (5, .inl v5_90), (6, .inl v6_90), (7, .inl v7_106), (8, .inl v8_122), (9, .inl v9_122)]) (st' := [.inr (.inr (some 48)), .inr (.inr (some 48))]) (h' := gc_h sh I320 J121 A) (C := ((True ∧ True) ∧ True)) rfl ⟨⟨trivial, trivial⟩, trivial⟩ ?_
                have f347 := (show 0 ≤ I320 48 12 ∧ I320 48 12 ≤ 1 from gc_in hI320 R_48 rfl rfl)
                refine gv_get hD rfl rfl S_48 ⟨by decide, B_48⟩ (gc_hI S_48 rfl) ?_
                show gv_X _ _ (265, [(0, .inr (.inr (some 48))), (1, .inr (.inr (some a1))), (2, .inl a2), (3, .inl a3), (4, .inl a4), (5, .inl v5_90), (6, .inl v6_90), (7, .inl v7_106), (8, .inl v8_122), (9, .inl v9_122)], [.inl (I320 48 12), .inr (.inr (some 48))], sh, gc_h sh I320 J121 A)
                refine gv_if_ne (t := 277) hD rfl rfl ⟨by exact gz_m 193 (by omega), by exact gz_m 194 (by omega)⟩ (fun c348 => ?_) (fun c348 => ?_)
                · show gv_X _ _ (277, [(0, .inr (.inr (some 48))), (1, .inr (.inr (some a1))), (2, .inl a2), (3, .inl a3), (4, .inl a4), (5, .inl v5_90), (6, .inl v6_90), (7, .inl v7_106), (8, .inl v8_122), (9, .inl v9_122)], [.inr (.inr (some 48))], sh, gc_h sh I320 J121 A)
                  exact L277 I320 J121 hI320 FI320 FJ121 KWV_I320 KFN_I320 KWA_I320 KFD_I320 KFZ_I320 KCH_I320 KWB_I320 (by exact gz_m 195 (by omega))
                · show gv_X _ _ (268, [(0, .inr (.inr (some 48))), (1, .inr (.inr (some a1))), (2, .inl a2), (3, .inl a3), (4, .inl a4), (5, .inl v5_90), (6, .inl v6_90), (7, .inl v7_106), (8, .inl v8_122), (9, .inl v9_122)], [.inr (.inr (some 48))], sh, gc_h sh I320 J121 A)
                  refine gv_run 1 true hD (pc' := 269) (lv' := [(0, .inr (.inr (some 48))), (1, .inr (.inr (some a1))), (2, .inl a2), (3, .inl a3), (4, .inl a4), (5, .inl v5_90), (6, .inl v6_90), (7, .inl v7_106), (8, .inl v8_122), (9, .inl v9_122)]) (st' := [.inr (.inr (some 48)), .inr (.inr (some 48))]) (h' := gc_h sh I320 J121 A) (C := (True ∧ True)) rfl ⟨trivial, trivial⟩ ?_
                  have f349 := (show 0 ≤ I320 48 11 ∧ I320 48 11 ≤ 1000000 from gc_in hI320 R_48 rfl rfl)
                  refine gv_get hD rfl rfl S_48 ⟨by decide, B_48⟩ (gc_hI S_48 rfl) ?_
                  show gv_X _ _ (272, [(0, .inr (.inr (some 48))), (1, .inr (.inr (some a1))), (2, .inl a2), (3, .inl a3), (4, .inl a4), (5, .inl v5_90), (6, .inl v6_90), (7, .inl v7_106), (8, .inl v8_122), (9, .inl v9_122)], [.inl (I320 48 11), .inr (.inr (some 48))], sh, gc_h sh I320 J121 A)
                  refine gv_run 1 true hD (pc' := 274) (lv' := [(0, .inr (.inr (some 48))), (1, .inr (.inr (some a1))), (2, .inl a2), (3, .inl a3), (4, .inl a4), (5, .inl v5_90), (6, .inl v6_90), (7, .inl v7_106), (8, .inl v8_122), (9, .inl v9_122)]) (st' := [.inl 400000, .inl (I320 48 11), .inr (.inr (some 48))]) (h' := gc_h sh I320 J121 A) (C := (True ∧ True)) rfl ⟨trivial, trivial⟩ ?_
                  refine gv_icmp_le (t := 281) hD rfl rfl ⟨⟨by exact gz_m 196 (by omega), by exact gz_m 197 (by omega)⟩, ⟨by exact gz_m 198 (by omega), by exact gz_m 199 (by omega)⟩⟩ (fun c350 => ?_) (fun c350 => ?_)
                  · show gv_X _ _ (281, [(0, .inr (.inr (some 48))), (1, .inr (.inr (some a1))), (2, .inl a2), (3, .inl a3), (4, .inl a4), (5, .inl v5_90), (6, .inl v6_90), (7, .inl v7_106), (8, .inl v8_122), (9, .inl v9_122)], [.inr (.inr (some 48))], sh, gc_h sh I320 J121 A)
                    refine gv_run 1 true hD (pc' := 282) (lv' := [(0, .inr (.inr (some 48))), (1, .inr (.inr (some a1))), (2, .inl a2), (3, .inl a3), (4, .inl a4), (5, .inl v5_90), (6, .inl v6_90), (7, .inl v7_106), (8, .inl v8_122), (9, .inl v9_122)]) (st' := [.inl 0, .inr (.inr (some 48))]) (h' := gc_h sh I320 J121 A) (C := (True ∧ True)) rfl ⟨trivial, trivial⟩ ?_
                    exact L282 I320 J121 0 hI320 FI320 FJ121 KWV_I320 KFN_I320 KWA_I320 KFD_I320 KFZ_I320 KCH_I320 KWB_I320 (by exact gz_m 200 (by omega))
                  · show gv_X _ _ (277, [(0, .inr (.inr (some 48))), (1, .inr (.inr (some a1))), (2, .inl a2), (3, .inl a3), (4, .inl a4), (5, .inl v5_90), (6, .inl v6_90), (7, .inl v7_106), (8, .inl v8_122), (9, .inl v9_122)], [.inr (.inr (some 48))], sh, gc_h sh I320 J121 A)
                    exact L277 I320 J121 hI320 FI320 FJ121 KWV_I320 KFN_I320 KWA_I320 KFD_I320 KFZ_I320 KCH_I320 KWB_I320 (by exact gz_m 201 (by omega))
        have L360 : ((I104 48 11 ≤ 400001) ∧ (I 48 3 ≤ I104 48 3) ∧ (I104 2 1 = I 2 1) ∧ (I104 a1 4 = I a1 4) ∧ (I104 a1 0 = I a1 0) ∧ (I104 t 13 = I t 13) ∧ (I104 48 18 = I 48 18) ∧ (I104 x 4 = I x 4) ∧ (I104 48 17 = I 48 17) ∧ (I104 48 13 = (t : Int)) ∧ (I104 48 14 = (x : Int))) → gv_X (gc_E0 ws0 tb (2 + nr) (yX0_lay, cX0_lay, 11, none) kX0_lay) (gv_Q cX0_lay none sh (fun r h' => (∃ (I' : gr_I) (J' : gr_J), h' = gc_h sh I' J' A ∧ gc_Inv ro I' ∧ (∀ q j : Nat, ((q = 48 ∧ j = 3) ∨ (q = 48 ∧ j = 6) ∨ (q = 48 ∧ j = 12) ∨ q = 51 ∨ q = 52 ∨ q = 53 ∨ q = 54 ∨ q = 55 ∨ (q = 48 ∧ j = 11) ∨ q = 58 ∨ q = 59 ∨ q = 60) ∨ I' q j = I q j) ∧ (∀ q j : Nat, (False) ∨ J' q j = J q j) ∧ gc_WV t I' ∧ gc_FN I' ∧ gc_WA σ I' ∧ gc_FD nw nk sz bg kd I' ∧ gc_FZ I' ∧ gc_TR I' ∧ gc_WB wb I' ∧ r = none ∧ (0 ≤ I' 48 11) ∧ (I' 48 11 ≤ 400001) ∧ (I 48 3 ≤ I' 48 3) ∧ (gc_CH a4 I')))) (360, [], [], sh, gc_h sh I104 J105 A) := by
          intro m_351
          obtain ⟨e0_351, e1_351, e2_351, e3_351, e4_351, e5_351, e6_351, e7_351, e8_351, e9_351, e10_351⟩ := m_351
          have f352 := (show 0 ≤ I104 48 3 ∧ I104 48 3 ≤ 3000 from gc_in hI104 R_48 rfl rfl)
          have f353 := (show 0 ≤ I104 48 6 ∧ I104 48 6 ≤ 9000 from gc_in hI104 R_48 rfl rfl)
          have f354 := (show 0 ≤ I104 48 11 ∧ I104 48 11 ≤ 1000000 from gc_in hI104 R_48 rfl rfl)
          have f355 := (show 0 ≤ I104 48 12 ∧ I104 48 12 ≤ 1 from gc_in hI104 R_48 rfl rfl)
          have f356 := (show 0 ≤ I104 48 17 ∧ I104 48 17 ≤ 3000 from gc_in hI104 R_48 rfl rfl)
          have f357 := (show 0 ≤ I104 48 18 ∧ I104 48 18 ≤ 24 from gc_in hI104 R_48 rfl rfl)
          have f358 := (show 0 ≤ I104 t 13 ∧ I104 t 13 ≤ 384 from gc_in hI104 R_t rfl rfl)
          have f359 := (show 0 ≤ I104 x 4 ∧ I104 x 4 ≤ 24 from gc_in hI104 R_x rfl rfl)
          have f360 := (show 0 ≤ I104 a1 4 ∧ I104 a1 4 ≤ 6 from gc_in hI104 R_a1 rfl rfl)
          have f361 := (show 0 ≤ I104 a1 0 ∧ I104 a1 0 ≤ 384 from gc_in hI104 R_a1 rfl rfl)
          have f362 := (show 0 ≤ I104 2 1 ∧ I104 2 1 ≤ 32 from gc_in hI104 R_2 rfl rfl)
          have f363 := (show (-1) ≤ I104 48 13 ∧ I104 48 13 ≤ 999999 from gc_in hI104 R_48 rfl rfl)
          have f364 := (show (-1) ≤ I104 48 14 ∧ I104 48 14 ≤ 999999 from gc_in hI104 R_48 rfl rfl)
          exact gv_vret hD rfl ⟨I104, J105, rfl, hI104, FI104, FJ105, KWV_I104, KFN_I104, KWA_I104, KFD_I104, KFZ_I104, KTR_I104, KWB_I104, ⟨rfl, by exact gz_m 202 (by omega), by exact gz_m 203 (by omega), by exact gz_m 204 (by omega), KCH_I104⟩⟩
        refine gv_run 2 true hD (pc' := 186) (lv' := [(0, .inr (.inr (some 48))), (1, .inr (.inr (some a1))), (2, .inl a2), (3, .inl a3), (4, .inl a4), (5, .inl v5_90), (6, .inl v6_90), (7, .inl v7_106)]) (st' := [.inr (.inr (some 48)), .inl v7_106]) (h' := gc_h sh I104 J105 A) (C := ((True ∧ True) ∧ True)) rfl ⟨⟨trivial, trivial⟩, trivial⟩ ?_
        have f365 := (show 0 ≤ I104 48 18 ∧ I104 48 18 ≤ 24 from gc_in hI104 R_48 rfl rfl)
        refine gv_get hD rfl rfl S_48 ⟨by decide, B_48⟩ (gc_hI S_48 rfl) ?_
        show gv_X _ _ (189, [(0, .inr (.inr (some 48))), (1, .inr (.inr (some a1))), (2, .inl a2), (3, .inl a3), (4, .inl a4), (5, .inl v5_90), (6, .inl v6_90), (7, .inl v7_106)], [.inl (I104 48 18), .inl v7_106], sh, gc_h sh I104 J105 A)
        refine gv_run 2 true hD (pc' := 192) (lv' := [(0, .inr (.inr (some 48))), (1, .inr (.inr (some a1))), (2, .inl a2), (3, .inl a3), (4, .inl a4), (5, .inl v5_90), (6, .inl v6_90), (7, .inl v7_106)]) (st' := [.inl ((I104 48 18) - v5_90), .inl v7_106]) (h' := gc_h sh I104 J105 A) (C := ((True ∧ True) ∧ True)) rfl ⟨⟨trivial, trivial⟩, trivial⟩ ?_
        refine gv_icmp_gt (t := 360) hD rfl rfl ⟨⟨by exact gz_m 205 (by omega), by exact gz_m 206 (by omega)⟩, ⟨by exact gz_m 207 (by omega), by exact gz_m 208 (by omega)⟩⟩ (fun c366 => ?_) (fun c366 => ?_)
        · show gv_X _ _ (360, [(0, .inr (.inr (some 48))), (1, .inr (.inr (some a1))), (2, .inl a2), (3, .inl a3), (4, .inl a4), (5, .inl v5_90), (6, .inl v6_90), (7, .inl v7_106)], [], sh, gc_h sh I104 J105 A)
          refine gv_pick [] rfl ?_
          exact L360 (by exact gz_m 209 (by omega))
        · show gv_X _ _ (195, [(0, .inr (.inr (some 48))), (1, .inr (.inr (some a1))), (2, .inl a2), (3, .inl a3), (4, .inl a4), (5, .inl v5_90), (6, .inl v6_90), (7, .inl v7_106)], [], sh, gc_h sh I104 J105 A)
          refine gv_run 1 true hD (pc' := 196) (lv' := [(0, .inr (.inr (some 48))), (1, .inr (.inr (some a1))), (2, .inl a2), (3, .inl a3), (4, .inl a4), (5, .inl v5_90), (6, .inl v6_90), (7, .inl v7_106)]) (st' := [.inr (.inr (some 48))]) (h' := gc_h sh I104 J105 A) (C := (True ∧ True)) rfl ⟨trivial, trivial⟩ ?_
          have f367 := (show 0 ≤ I104 48 12 ∧ I104 48 12 ≤ 1 from gc_in hI104 R_48 rfl rfl)
          refine gv_get hD rfl rfl S_48 ⟨by decide, B_48⟩ (gc_hI S_48 rfl) ?_
          show gv_X _ _ (199, [(0, .inr (.inr (some 48))), (1, .inr (.inr (some a1))), (2, .inl a2), (3, .inl a3), (4, .inl a4), (5, .inl v5_90), (6, .inl v6_90), (7, .inl v7_106)], [.inl (I104 48 12)], sh, gc_h sh I104 J105 A)
          refine gv_if_ne (t := 360) hD rfl rfl ⟨by exact gz_m 210 (by omega), by exact gz_m 211 (by omega)⟩ (fun c368 => ?_) (fun c368 => ?_)
          · show gv_X _ _ (360, [(0, .inr (.inr (some 48))), (1, .inr (.inr (some a1))), (2, .inl a2), (3, .inl a3), (4, .inl a4), (5, .inl v5_90), (6, .inl v6_90), (7, .inl v7_106)], [], sh, gc_h sh I104 J105 A)
            refine gv_pick [] rfl ?_
            exact L360 (by exact gz_m 212 (by omega))
          · show gv_X _ _ (202, [(0, .inr (.inr (some 48))), (1, .inr (.inr (some a1))), (2, .inl a2), (3, .inl a3), (4, .inl a4), (5, .inl v5_90), (6, .inl v6_90), (7, .inl v7_106)], [], sh, gc_h sh I104 J105 A)
            refine gv_run 5 true hD (pc' := 209) (lv' := [(0, .inr (.inr (some 48))), (1, .inr (.inr (some a1))), (2, .inl a2), (3, .inl a3), (4, .inl a4), (5, .inl v5_90), (6, .inl v6_90), (7, .inl v7_106)]) (st' := [.inl v6_90, .inl (v7_106 - a3), .inl a3]) (h' := gc_h sh I104 J105 A) (C := (((((True ∧ True) ∧ True) ∧ True) ∧ True) ∧ True)) rfl ⟨⟨⟨⟨⟨trivial, trivial⟩, trivial⟩, trivial⟩, trivial⟩, trivial⟩ ?_
            obtain ⟨r369, h369, E369, P369⟩ := d_X0_spanAt (ws0 := ws0) (tb := tb) hws htb sh ro I104 J105 A hI104  a3 (v7_106 - a3) v6_90 hb   ⟨by exact gz_m 213 (by omega), by exact gz_m 214 (by omega)⟩ ⟨by exact gz_m 215 (by omega), by exact gz_m 216 (by omega)⟩ ⟨by exact gz_m 217 (by omega), by exact gz_m 218 (by omega)⟩  
            obtain ⟨rfl, ⟨z369, rfl, q369⟩⟩ := P369
            refine gv_callS hD rfl (As := [.inl a3, .inl (v7_106 - a3), .inl v6_90]) (st := []) rfl (gc_lS0 hws rfl) (Nat.le_of_ble_eq_true rfl) (gz_Ev_mono (d := 1) (by exact gz_m 219 (by omega)) E369) ?_
            show gv_X _ _ (212, [(0, .inr (.inr (some 48))), (1, .inr (.inr (some a1))), (2, .inl a2), (3, .inl a3), (4, .inl a4), (5, .inl v5_90), (6, .inl v6_90), (7, .inl v7_106)], [.inl z369], sh, gc_h sh I104 J105 A)
            refine gv_run 2 true hD (pc' := 215) (lv' := [(8, .inl z369), (0, .inr (.inr (some 48))), (1, .inr (.inr (some a1))), (2, .inl a2), (3, .inl a3), (4, .inl a4), (5, .inl v5_90), (6, .inl v6_90), (7, .inl v7_106)]) (st' := [.inr (.inr (some 48))]) (h' := gc_h sh I104 J105 A) (C := ((True ∧ True) ∧ True)) rfl ⟨⟨trivial, trivial⟩, trivial⟩ ?_
            refine gv_get hD rfl rfl S_48 ⟨by decide, B_48⟩ (gc_hA S_48 rfl A_48_1) ?_
            show gv_X _ _ (218, [(8, .inl z369), (0, .inr (.inr (some 48))), (1, .inr (.inr (some a1))), (2, .inl a2), (3, .inl a3), (4, .inl a4), (5, .inl v5_90), (6, .inl v6_90), (7, .inl v7_106)], [.inr (.inr (some 49))], sh, gc_h sh I104 J105 A)
            refine gv_run 1 true hD (pc' := 220) (lv' := [(8, .inl z369), (0, .inr (.inr (some 48))), (1, .inr (.inr (some a1))), (2, .inl a2), (3, .inl a3), (4, .inl a4), (5, .inl v5_90), (6, .inl v6_90), (7, .inl v7_106)]) (st' := [.inl z369, .inr (.inr (some 49))]) (h' := gc_h sh I104 J105 A) (C := (True ∧ True)) rfl ⟨trivial, trivial⟩ ?_
            have f370 := (show 0 ≤ I104 49 (Int.toNat z369) ∧ I104 49 (Int.toNat z369) ≤ 3000 from gc_in hI104 R_49 rfl rfl)
            refine gv_iald hD rfl S_49 rfl ⟨by decide, B_49⟩ ⟨by exact gz_m 220 (by omega), by exact gz_m 221 (by omega)⟩ (gc_iI S_49 rfl) ?_
            show gv_X _ _ (221, [(8, .inl z369), (0, .inr (.inr (some 48))), (1, .inr (.inr (some a1))), (2, .inl a2), (3, .inl a3), (4, .inl a4), (5, .inl v5_90), (6, .inl v6_90), (7, .inl v7_106)], [.inl (I104 49 (Int.toNat z369))], sh, gc_h sh I104 J105 A)
            refine gv_run 1 true hD (pc' := 223) (lv' := [(9, .inl (I104 49 (Int.toNat z369))), (8, .inl z369), (0, .inr (.inr (some 48))), (1, .inr (.inr (some a1))), (2, .inl a2), (3, .inl a3), (4, .inl a4), (5, .inl v5_90), (6, .inl v6_90), (7, .inl v7_106)]) (st' := []) (h' := gc_h sh I104 J105 A) (C := (True ∧ True)) rfl ⟨trivial, trivial⟩ ?_
            refine gv_pick [2, 3, 4, 5, 6, 7, 8, 9, 1, 0] rfl ?_
            exact L223 _ I104 J105 z369 ((I104 49 (Int.toNat z369))) (Nat.lt_succ_self _) hI104 FI104 FJ105 KWV_I104 KFN_I104 KWA_I104 KFD_I104 KFZ_I104 KTR_I104 KWB_I104 KCH_I104 (by exact gz_m 222 (by omega))
    refine gv_run 1 true hD (pc' := 183) (lv' := [(7, .inl s0_90), (0, .inr (.inr (some 48))), (1, .inr (.inr (some a1))), (2, .inl a2), (3, .inl a3), (4, .inl a4), (5, .inl v5_90), (6, .inl v6_90)]) (st' := []) (h' := gc_h sh I J A) (C := (True ∧ True)) rfl ⟨trivial, trivial⟩ ?_
    refine gv_pick [1, 2, 3, 4, 5, 6, 7, 0] rfl ?_
    exact L183 _ I J s0_90 (Nat.lt_succ_self _) hI FI FJ KWV_I KFN_I KWA_I KFD_I KFZ_I KTR_I KWB_I KCH_I (by exact gz_m 223 (by omega))
  refine gv_run 2 true hD (pc' := 2) (lv' := [(0, .inr (.inr (some 48))), (1, .inr (.inr (some a1))), (2, .inl a2), (3, .inl a3), (4, .inl a4)]) (st' := [.inr (.inr (some a1)), .inl a2]) (h' := gc_h sh I J A) (C := ((True ∧ True) ∧ True)) rfl ⟨⟨trivial, trivial⟩, trivial⟩ ?_
  have f371 := (show 0 ≤ I a1 4 ∧ I a1 4 ≤ 6 from gc_in hI R_a1 rfl rfl)
  refine gv_get hD rfl rfl S_a1 ⟨by decide, B_a1⟩ (gc_hI S_a1 rfl) ?_
  show gv_X _ _ (5, [(0, .inr (.inr (some 48))), (1, .inr (.inr (some a1))), (2, .inl a2), (3, .inl a3), (4, .inl a4)], [.inl (I a1 4), .inl a2], sh, gc_h sh I J A)
  refine gv_icmp_lt (t := 42) hD rfl rfl ⟨⟨by exact gz_m 224 (by omega), by exact gz_m 225 (by omega)⟩, ⟨by exact gz_m 226 (by omega), by exact gz_m 227 (by omega)⟩⟩ (fun c372 => ?_) (fun c372 => ?_)
  · show gv_X _ _ (42, [(0, .inr (.inr (some 48))), (1, .inr (.inr (some a1))), (2, .inl a2), (3, .inl a3), (4, .inl a4)], [], sh, gc_h sh I J A)
    refine gv_run 1 true hD (pc' := 43) (lv' := [(0, .inr (.inr (some 48))), (1, .inr (.inr (some a1))), (2, .inl a2), (3, .inl a3), (4, .inl a4)]) (st' := [.inr (.inr (some a1))]) (h' := gc_h sh I J A) (C := (True ∧ True)) rfl ⟨trivial, trivial⟩ ?_
    have f373 := (show 0 ≤ I a1 4 ∧ I a1 4 ≤ 6 from gc_in hI R_a1 rfl rfl)
    refine gv_get hD rfl rfl S_a1 ⟨by decide, B_a1⟩ (gc_hI S_a1 rfl) ?_
    show gv_X _ _ (46, [(0, .inr (.inr (some 48))), (1, .inr (.inr (some a1))), (2, .inl a2), (3, .inl a3), (4, .inl a4)], [.inl (I a1 4)], sh, gc_h sh I J A)
    refine gv_run 6 true hD (pc' := 53) (lv' := [(5, .inl (((I a1 4) - a2) - 1)), (0, .inr (.inr (some 48))), (1, .inr (.inr (some a1))), (2, .inl a2), (3, .inl a3), (4, .inl a4)]) (st' := [.inr (.inr (some a1))]) (h' := gc_h sh I J A) (C := ((((((True ∧ True) ∧ True) ∧ True) ∧ True) ∧ True) ∧ True)) rfl ⟨⟨⟨⟨⟨⟨trivial, trivial⟩, trivial⟩, trivial⟩, trivial⟩, trivial⟩, trivial⟩ ?_
    refine gv_get hD rfl rfl S_a1 ⟨by decide, B_a1⟩ (gc_hA S_a1 rfl A_a1_5) ?_
    show gv_X _ _ (56, [(5, .inl (((I a1 4) - a2) - 1)), (0, .inr (.inr (some 48))), (1, .inr (.inr (some a1))), (2, .inl a2), (3, .inl a3), (4, .inl a4)], [.inr (.inr (some (a1 + 1)))], sh, gc_h sh I J A)
    refine gv_run 1 true hD (pc' := 57) (lv' := [(5, .inl (((I a1 4) - a2) - 1)), (0, .inr (.inr (some 48))), (1, .inr (.inr (some a1))), (2, .inl a2), (3, .inl a3), (4, .inl a4)]) (st' := [.inl a2, .inr (.inr (some (a1 + 1)))]) (h' := gc_h sh I J A) (C := (True ∧ True)) rfl ⟨trivial, trivial⟩ ?_
    have f374 := (show (-1) ≤ I (a1 + 1) (Int.toNat a2) ∧ I (a1 + 1) (Int.toNat a2) ≤ 3 from gc_in hI R_a1_1 rfl rfl)
    refine gv_iald hD rfl S_a1_1 rfl ⟨by decide, B_a1_1⟩ ⟨by exact gz_m 228 (by omega), by exact gz_m 229 (by omega)⟩ (gc_iI S_a1_1 rfl) ?_
    show gv_X _ _ (58, [(5, .inl (((I a1 4) - a2) - 1)), (0, .inr (.inr (some 48))), (1, .inr (.inr (some a1))), (2, .inl a2), (3, .inl a3), (4, .inl a4)], [.inl (I (a1 + 1) (Int.toNat a2))], sh, gc_h sh I J A)
    refine gv_if_ge (t := 143) hD rfl rfl ⟨by exact gz_m 230 (by omega), by exact gz_m 231 (by omega)⟩ (fun c375 => ?_) (fun c375 => ?_)
    · show gv_X _ _ (143, [(5, .inl (((I a1 4) - a2) - 1)), (0, .inr (.inr (some 48))), (1, .inr (.inr (some a1))), (2, .inl a2), (3, .inl a3), (4, .inl a4)], [], sh, gc_h sh I J A)
      have t376 := gc_ac_lt (f := I (a1 + 1)) (n := Int.toNat a2) (m := Int.toNat (I a1 4)) (by exact gz_m 232 (by omega)) (by exact gz_m 233 (by omega))
      have t377 := (show I a1 8 = gc_ac (I (a1 + 1)) (Int.toNat (I a1 4)) from x2)
      have t378 := (show 0 ≤ I a1 8 ∧ I a1 8 ≤ 4 from gc_in hI R_a1 rfl rfl)
      refine gv_run 1 true hD (pc' := 144) (lv' := [(5, .inl (((I a1 4) - a2) - 1)), (0, .inr (.inr (some 48))), (1, .inr (.inr (some a1))), (2, .inl a2), (3, .inl a3), (4, .inl a4)]) (st' := [.inr (.inr (some 48))]) (h' := gc_h sh I J A) (C := (True ∧ True)) rfl ⟨trivial, trivial⟩ ?_
      refine gv_get hD rfl rfl S_48 ⟨by decide, B_48⟩ (gc_hA S_48 rfl A_48_0) ?_
      show gv_X _ _ (147, [(5, .inl (((I a1 4) - a2) - 1)), (0, .inr (.inr (some 48))), (1, .inr (.inr (some a1))), (2, .inl a2), (3, .inl a3), (4, .inl a4)], [.inr (.inr (some 1))], sh, gc_h sh I J A)
      refine gv_get hD rfl rfl S_1 ⟨by decide, B_1⟩ (gc_hA S_1 rfl A_1_8) ?_
      show gv_X _ _ (150, [(5, .inl (((I a1 4) - a2) - 1)), (0, .inr (.inr (some 48))), (1, .inr (.inr (some a1))), (2, .inl a2), (3, .inl a3), (4, .inl a4)], [.inr (.inr (some 13))], sh, gc_h sh I J A)
      refine gv_run 1 true hD (pc' := 151) (lv' := [(5, .inl (((I a1 4) - a2) - 1)), (0, .inr (.inr (some 48))), (1, .inr (.inr (some a1))), (2, .inl a2), (3, .inl a3), (4, .inl a4)]) (st' := [.inr (.inr (some a1)), .inr (.inr (some 13))]) (h' := gc_h sh I J A) (C := (True ∧ True)) rfl ⟨trivial, trivial⟩ ?_
      have f379 := (show 0 ≤ I a1 1 ∧ I a1 1 ≤ 95 from gc_in hI R_a1 rfl rfl)
      refine gv_get hD rfl rfl S_a1 ⟨by decide, B_a1⟩ (gc_hI S_a1 rfl) ?_
      show gv_X _ _ (154, [(5, .inl (((I a1 4) - a2) - 1)), (0, .inr (.inr (some 48))), (1, .inr (.inr (some a1))), (2, .inl a2), (3, .inl a3), (4, .inl a4)], [.inl (I a1 1), .inr (.inr (some 13))], sh, gc_h sh I J A)
      refine gv_run 3 true hD (pc' := 157) (lv' := [(5, .inl (((I a1 4) - a2) - 1)), (0, .inr (.inr (some 48))), (1, .inr (.inr (some a1))), (2, .inl a2), (3, .inl a3), (4, .inl a4)]) (st' := [.inr (.inr (some a1)), .inl ((I a1 1) * 4), .inr (.inr (some 13))]) (h' := gc_h sh I J A) (C := (((True ∧ True) ∧ True) ∧ True)) rfl ⟨⟨⟨trivial, trivial⟩, trivial⟩, trivial⟩ ?_
      refine gv_get hD rfl rfl S_a1 ⟨by decide, B_a1⟩ (gc_hA S_a1 rfl A_a1_5) ?_
      show gv_X _ _ (160, [(5, .inl (((I a1 4) - a2) - 1)), (0, .inr (.inr (some 48))), (1, .inr (.inr (some a1))), (2, .inl a2), (3, .inl a3), (4, .inl a4)], [.inr (.inr (some (a1 + 1))), .inl ((I a1 1) * 4), .inr (.inr (some 13))], sh, gc_h sh I J A)
      refine gv_run 1 true hD (pc' := 161) (lv' := [(5, .inl (((I a1 4) - a2) - 1)), (0, .inr (.inr (some 48))), (1, .inr (.inr (some a1))), (2, .inl a2), (3, .inl a3), (4, .inl a4)]) (st' := [.inl a2, .inr (.inr (some (a1 + 1))), .inl ((I a1 1) * 4), .inr (.inr (some 13))]) (h' := gc_h sh I J A) (C := (True ∧ True)) rfl ⟨trivial, trivial⟩ ?_
      have f380 := (show (-1) ≤ I (a1 + 1) (Int.toNat a2) ∧ I (a1 + 1) (Int.toNat a2) ≤ 3 from gc_in hI R_a1_1 rfl rfl)
      refine gv_iald hD rfl S_a1_1 rfl ⟨by decide, B_a1_1⟩ ⟨by exact gz_m 234 (by omega), by exact gz_m 235 (by omega)⟩ (gc_iI S_a1_1 rfl) ?_
      show gv_X _ _ (162, [(5, .inl (((I a1 4) - a2) - 1)), (0, .inr (.inr (some 48))), (1, .inr (.inr (some a1))), (2, .inl a2), (3, .inl a3), (4, .inl a4)], [.inl (I (a1 + 1) (Int.toNat a2)), .inl ((I a1 1) * 4), .inr (.inr (some 13))], sh, gc_h sh I J A)
      refine gv_run 1 true hD (pc' := 163) (lv' := [(5, .inl (((I a1 4) - a2) - 1)), (0, .inr (.inr (some 48))), (1, .inr (.inr (some a1))), (2, .inl a2), (3, .inl a3), (4, .inl a4)]) (st' := [.inl (((I a1 1) * 4) + (I (a1 + 1) (Int.toNat a2))), .inr (.inr (some 13))]) (h' := gc_h sh I J A) (C := (True ∧ True)) rfl ⟨trivial, trivial⟩ ?_
      have f381 := (show 0 ≤ I 13 (Int.toNat ((((I a1 1) * 4) + (I (a1 + 1) (Int.toNat a2))))) ∧ I 13 (Int.toNat ((((I a1 1) * 4) + (I (a1 + 1) (Int.toNat a2))))) ≤ 31 from gc_in hI R_13 rfl rfl)
      refine gv_iald hD rfl S_13 rfl ⟨by decide, B_13⟩ ⟨by exact gz_m 236 (by omega), by exact gz_m 237 (by omega)⟩ (gc_iI S_13 rfl) ?_
      show gv_X _ _ (164, [(5, .inl (((I a1 4) - a2) - 1)), (0, .inr (.inr (some 48))), (1, .inr (.inr (some a1))), (2, .inl a2), (3, .inl a3), (4, .inl a4)], [.inl (I 13 (Int.toNat ((((I a1 1) * 4) + (I (a1 + 1) (Int.toNat a2))))))], sh, gc_h sh I J A)
      refine gv_run 2 true hD (pc' := 168) (lv' := [(6, .inl (I 13 (Int.toNat ((((I a1 1) * 4) + (I (a1 + 1) (Int.toNat a2))))))), (5, .inl (((I a1 4) - a2) - 1)), (0, .inr (.inr (some 48))), (1, .inr (.inr (some a1))), (2, .inl a2), (3, .inl a3), (4, .inl a4)]) (st' := [.inl (((I a1 4) - a2) - 1)]) (h' := gc_h sh I J A) (C := ((True ∧ True) ∧ True)) rfl ⟨⟨trivial, trivial⟩, trivial⟩ ?_
      refine gv_if_ne (t := 178) hD rfl rfl ⟨by exact gz_m 238 (by omega), by exact gz_m 239 (by omega)⟩ (fun c382 => ?_) (fun c382 => ?_)
      · show gv_X _ _ (178, [(6, .inl (I 13 (Int.toNat ((((I a1 1) * 4) + (I (a1 + 1) (Int.toNat a2))))))), (5, .inl (((I a1 4) - a2) - 1)), (0, .inr (.inr (some 48))), (1, .inr (.inr (some a1))), (2, .inl a2), (3, .inl a3), (4, .inl a4)], [], sh, gc_h sh I J A)
        refine gv_run 3 true hD (pc' := 181) (lv' := [(6, .inl (I 13 (Int.toNat ((((I a1 1) * 4) + (I (a1 + 1) (Int.toNat a2))))))), (5, .inl (((I a1 4) - a2) - 1)), (0, .inr (.inr (some 48))), (1, .inr (.inr (some a1))), (2, .inl a2), (3, .inl a3), (4, .inl a4)]) (st' := [.inl (a3 + 1)]) (h' := gc_h sh I J A) (C := (((True ∧ True) ∧ True) ∧ True)) rfl ⟨⟨⟨trivial, trivial⟩, trivial⟩, trivial⟩ ?_
        refine gv_pick [2, 3, 4, 5, 6, 1, 0] rfl ?_
        exact L181 ((((I a1 4) - a2) - 1)) ((I 13 (Int.toNat ((((I a1 1) * 4) + (I (a1 + 1) (Int.toNat a2))))))) (a3 + 1) (by exact gz_m 240 (by omega)) (gc_un_at (a := a2) x12 (by exact gz_m 241 (by omega)) (by exact gz_m 242 (by omega)))
      · show gv_X _ _ (171, [(6, .inl (I 13 (Int.toNat ((((I a1 1) * 4) + (I (a1 + 1) (Int.toNat a2))))))), (5, .inl (((I a1 4) - a2) - 1)), (0, .inr (.inr (some 48))), (1, .inr (.inr (some a1))), (2, .inl a2), (3, .inl a3), (4, .inl a4)], [], sh, gc_h sh I J A)
        refine gv_run 1 true hD (pc' := 172) (lv' := [(6, .inl (I 13 (Int.toNat ((((I a1 1) * 4) + (I (a1 + 1) (Int.toNat a2))))))), (5, .inl (((I a1 4) - a2) - 1)), (0, .inr (.inr (some 48))), (1, .inr (.inr (some a1))), (2, .inl a2), (3, .inl a3), (4, .inl a4)]) (st' := [.inr (.inr (some 48))]) (h' := gc_h sh I J A) (C := (True ∧ True)) rfl ⟨trivial, trivial⟩ ?_
        have f383 := (show 0 ≤ I 48 18 ∧ I 48 18 ≤ 24 from gc_in hI R_48 rfl rfl)
        refine gv_get hD rfl rfl S_48 ⟨by decide, B_48⟩ (gc_hI S_48 rfl) ?_
        show gv_X _ _ (175, [(6, .inl (I 13 (Int.toNat ((((I a1 1) * 4) + (I (a1 + 1) (Int.toNat a2))))))), (5, .inl (((I a1 4) - a2) - 1)), (0, .inr (.inr (some 48))), (1, .inr (.inr (some a1))), (2, .inl a2), (3, .inl a3), (4, .inl a4)], [.inl (I 48 18)], sh, gc_h sh I J A)
        refine gv_run 1 true hD (pc' := 181) (lv' := [(6, .inl (I 13 (Int.toNat ((((I a1 1) * 4) + (I (a1 + 1) (Int.toNat a2))))))), (5, .inl (((I a1 4) - a2) - 1)), (0, .inr (.inr (some 48))), (1, .inr (.inr (some a1))), (2, .inl a2), (3, .inl a3), (4, .inl a4)]) (st' := [.inl (I 48 18)]) (h' := gc_h sh I J A) (C := (True ∧ True)) rfl ⟨trivial, trivial⟩ ?_
        refine gv_pick [2, 3, 4, 5, 6, 1, 0] rfl ?_
        exact L181 ((((I a1 4) - a2) - 1)) ((I 13 (Int.toNat ((((I a1 1) * 4) + (I (a1 + 1) (Int.toNat a2))))))) (I 48 18) (by exact gz_m 243 (by omega)) (gc_un_at (a := a2) x12 (by exact gz_m 244 (by omega)) (by exact gz_m 245 (by omega)))
    · show gv_X _ _ (61, [(5, .inl (((I a1 4) - a2) - 1)), (0, .inr (.inr (some 48))), (1, .inr (.inr (some a1))), (2, .inl a2), (3, .inl a3), (4, .inl a4)], [], sh, gc_h sh I J A)
      refine gv_run 1 true hD (pc' := 63) (lv' := [(5, .inl (((I a1 4) - a2) - 1)), (0, .inr (.inr (some 48))), (1, .inr (.inr (some a1))), (2, .inl a2), (3, .inl a3), (4, .inl a4)]) (st' := [.inl (((I a1 4) - a2) - 1)]) (h' := gc_h sh I J A) (C := (True ∧ True)) rfl ⟨trivial, trivial⟩ ?_
      refine gv_if_ne (t := 84) hD rfl rfl ⟨by exact gz_m 246 (by omega), by exact gz_m 247 (by omega)⟩ (fun c384 => ?_) (fun c384 => ?_)
      · show gv_X _ _ (84, [(5, .inl (((I a1 4) - a2) - 1)), (0, .inr (.inr (some 48))), (1, .inr (.inr (some a1))), (2, .inl a2), (3, .inl a3), (4, .inl a4)], [], sh, gc_h sh I J A)
        refine gv_run 6 true hD (pc' := 91) (lv' := [(5, .inl (((I a1 4) - a2) - 1)), (0, .inr (.inr (some 48))), (1, .inr (.inr (some a1))), (2, .inl a2), (3, .inl a3), (4, .inl a4)]) (st' := [.inr (.inr (some 48)), .inl ((a3 + 1) + (((I a1 4) - a2) - 1))]) (h' := gc_h sh I J A) (C := ((((((True ∧ True) ∧ True) ∧ True) ∧ True) ∧ True) ∧ True)) rfl ⟨⟨⟨⟨⟨⟨trivial, trivial⟩, trivial⟩, trivial⟩, trivial⟩, trivial⟩, trivial⟩ ?_
        have f385 := (show 0 ≤ I 48 18 ∧ I 48 18 ≤ 24 from gc_in hI R_48 rfl rfl)
        refine gv_get hD rfl rfl S_48 ⟨by decide, B_48⟩ (gc_hI S_48 rfl) ?_
        show gv_X _ _ (94, [(5, .inl (((I a1 4) - a2) - 1)), (0, .inr (.inr (some 48))), (1, .inr (.inr (some a1))), (2, .inl a2), (3, .inl a3), (4, .inl a4)], [.inl (I 48 18), .inl ((a3 + 1) + (((I a1 4) - a2) - 1))], sh, gc_h sh I J A)
        refine gv_icmp_gt (t := 101) hD rfl rfl ⟨⟨by exact gz_m 248 (by omega), by exact gz_m 249 (by omega)⟩, ⟨by exact gz_m 250 (by omega), by exact gz_m 251 (by omega)⟩⟩ (fun c386 => ?_) (fun c386 => ?_)
        · show gv_X _ _ (101, [(5, .inl (((I a1 4) - a2) - 1)), (0, .inr (.inr (some 48))), (1, .inr (.inr (some a1))), (2, .inl a2), (3, .inl a3), (4, .inl a4)], [], sh, gc_h sh I J A)
          refine gv_run 1 true hD (pc' := 102) (lv' := [(5, .inl (((I a1 4) - a2) - 1)), (0, .inr (.inr (some 48))), (1, .inr (.inr (some a1))), (2, .inl a2), (3, .inl a3), (4, .inl a4)]) (st' := [.inl 0]) (h' := gc_h sh I J A) (C := (True ∧ True)) rfl ⟨trivial, trivial⟩ ?_
          refine gv_pick [1, 2, 3, 4, 5] rfl ?_
          exact L102 0 (by exact gz_m 252 (by omega))
        · show gv_X _ _ (97, [(5, .inl (((I a1 4) - a2) - 1)), (0, .inr (.inr (some 48))), (1, .inr (.inr (some a1))), (2, .inl a2), (3, .inl a3), (4, .inl a4)], [], sh, gc_h sh I J A)
          refine gv_run 2 true hD (pc' := 102) (lv' := [(5, .inl (((I a1 4) - a2) - 1)), (0, .inr (.inr (some 48))), (1, .inr (.inr (some a1))), (2, .inl a2), (3, .inl a3), (4, .inl a4)]) (st' := [.inl 1]) (h' := gc_h sh I J A) (C := ((True ∧ True) ∧ True)) rfl ⟨⟨trivial, trivial⟩, trivial⟩ ?_
          refine gv_pick [1, 2, 3, 4, 5] rfl ?_
          exact L102 1 (by exact gz_m 253 (by omega))
      · show gv_X _ _ (66, [(5, .inl (((I a1 4) - a2) - 1)), (0, .inr (.inr (some 48))), (1, .inr (.inr (some a1))), (2, .inl a2), (3, .inl a3), (4, .inl a4)], [], sh, gc_h sh I J A)
        refine gv_run 4 true hD (pc' := 70) (lv' := [(5, .inl (((I a1 4) - a2) - 1)), (0, .inr (.inr (some 48))), (1, .inr (.inr (some a1))), (2, .inl a2), (3, .inl a3), (4, .inl a4)]) (st' := [.inr (.inr (some 48)), .inl (a3 + 1)]) (h' := gc_h sh I J A) (C := ((((True ∧ True) ∧ True) ∧ True) ∧ True)) rfl ⟨⟨⟨⟨trivial, trivial⟩, trivial⟩, trivial⟩, trivial⟩ ?_
        have f387 := (show 0 ≤ I 48 18 ∧ I 48 18 ≤ 24 from gc_in hI R_48 rfl rfl)
        refine gv_get hD rfl rfl S_48 ⟨by decide, B_48⟩ (gc_hI S_48 rfl) ?_
        show gv_X _ _ (73, [(5, .inl (((I a1 4) - a2) - 1)), (0, .inr (.inr (some 48))), (1, .inr (.inr (some a1))), (2, .inl a2), (3, .inl a3), (4, .inl a4)], [.inl (I 48 18), .inl (a3 + 1)], sh, gc_h sh I J A)
        refine gv_icmp_ne (t := 80) hD rfl rfl ⟨⟨by exact gz_m 254 (by omega), by exact gz_m 255 (by omega)⟩, ⟨by exact gz_m 256 (by omega), by exact gz_m 257 (by omega)⟩⟩ (fun c388 => ?_) (fun c388 => ?_)
        · show gv_X _ _ (80, [(5, .inl (((I a1 4) - a2) - 1)), (0, .inr (.inr (some 48))), (1, .inr (.inr (some a1))), (2, .inl a2), (3, .inl a3), (4, .inl a4)], [], sh, gc_h sh I J A)
          refine gv_run 2 true hD (pc' := 102) (lv' := [(5, .inl (((I a1 4) - a2) - 1)), (0, .inr (.inr (some 48))), (1, .inr (.inr (some a1))), (2, .inl a2), (3, .inl a3), (4, .inl a4)]) (st' := [.inl 0]) (h' := gc_h sh I J A) (C := ((True ∧ True) ∧ True)) rfl ⟨⟨trivial, trivial⟩, trivial⟩ ?_
          refine gv_pick [1, 2, 3, 4, 5] rfl ?_
          exact L102 0 (by exact gz_m 258 (by omega))
        · show gv_X _ _ (76, [(5, .inl (((I a1 4) - a2) - 1)), (0, .inr (.inr (some 48))), (1, .inr (.inr (some a1))), (2, .inl a2), (3, .inl a3), (4, .inl a4)], [], sh, gc_h sh I J A)
          refine gv_run 2 true hD (pc' := 102) (lv' := [(5, .inl (((I a1 4) - a2) - 1)), (0, .inr (.inr (some 48))), (1, .inr (.inr (some a1))), (2, .inl a2), (3, .inl a3), (4, .inl a4)]) (st' := [.inl 1]) (h' := gc_h sh I J A) (C := ((True ∧ True) ∧ True)) rfl ⟨⟨trivial, trivial⟩, trivial⟩ ?_
          refine gv_pick [1, 2, 3, 4, 5] rfl ?_
          exact L102 1 (by exact gz_m 259 (by omega))
  · show gv_X _ _ (8, [(0, .inr (.inr (some 48))), (1, .inr (.inr (some a1))), (2, .inl a2), (3, .inl a3), (4, .inl a4)], [], sh, gc_h sh I J A)
    refine gv_run 2 true hD (pc' := 10) (lv' := [(0, .inr (.inr (some 48))), (1, .inr (.inr (some a1))), (2, .inl a2), (3, .inl a3), (4, .inl a4)]) (st' := [.inr (.inr (some 48)), .inr (.inr (some a1))]) (h' := gc_h sh I J A) (C := ((True ∧ True) ∧ True)) rfl ⟨⟨trivial, trivial⟩, trivial⟩ ?_
    refine gv_get hD rfl rfl S_48 ⟨by decide, B_48⟩ (gc_hA S_48 rfl A_48_20) ?_
    show gv_X _ _ (13, [(0, .inr (.inr (some 48))), (1, .inr (.inr (some a1))), (2, .inl a2), (3, .inl a3), (4, .inl a4)], [.inr (.inr (some 59)), .inr (.inr (some a1))], sh, gc_h sh I J A)
    refine gv_run 1 true hD (pc' := 14) (lv' := [(0, .inr (.inr (some 48))), (1, .inr (.inr (some a1))), (2, .inl a2), (3, .inl a3), (4, .inl a4)]) (st' := [.inr (.inr (some 48)), .inr (.inr (some 59)), .inr (.inr (some a1))]) (h' := gc_h sh I J A) (C := (True ∧ True)) rfl ⟨trivial, trivial⟩ ?_
    refine gv_get hD rfl rfl S_48 ⟨by decide, B_48⟩ (gc_hA S_48 rfl A_48_21) ?_
    show gv_X _ _ (17, [(0, .inr (.inr (some 48))), (1, .inr (.inr (some a1))), (2, .inl a2), (3, .inl a3), (4, .inl a4)], [.inr (.inr (some 60)), .inr (.inr (some 59)), .inr (.inr (some a1))], sh, gc_h sh I J A)
    obtain ⟨r389, h389, E389, P389⟩ := d_X3_unite (ws0 := ws0) (tb := tb) hws htb sh ro I J A hI a1 4 4 59 60 h_a1 S_59 R_59 B_59 (by decide) S_60 R_60 B_60 (by decide)   (by exact gz_m 260 (by omega)) (by exact gz_m 261 (by omega)) 
    obtain ⟨I390, J391, rfl, hI390, g389, k389, ⟨z389, rfl, q389⟩⟩ := P389
    have FI390 := gc_frc (W := fun q j => (q = 48 ∧ j = 3) ∨ (q = 48 ∧ j = 6) ∨ (q = 48 ∧ j = 12) ∨ q = 51 ∨ q = 52 ∨ q = 53 ∨ q = 54 ∨ q = 55 ∨ (q = 48 ∧ j = 11) ∨ q = 58 ∨ q = 59 ∨ q = 60) (V := fun q j => q = 60) FI (fun q j h => (Or.inr (Or.inr (Or.inr (Or.inr (Or.inr (Or.inr (Or.inr (Or.inr (Or.inr (Or.inr (Or.inr h)))))))))))) g389
    have t392 := (g389 48 3).resolve_left (fun h => absurd h (by decide))
    have t393 := (g389 48 6).resolve_left (fun h => absurd h (by decide))
    have t394 := (g389 48 11).resolve_left (fun h => absurd h (by decide))
    have t395 := (g389 48 12).resolve_left (fun h => absurd h (by decide))
    have t396 := (g389 48 17).resolve_left (fun h => absurd h (by decide))
    have t397 := (g389 48 18).resolve_left (fun h => absurd h (by decide))
    have t398 := (g389 t 13).resolve_left (fun h => absurd h N_t__60)
    have t399 := (g389 x 4).resolve_left (fun h => absurd h N_x__60)
    have t400 := (g389 a1 4).resolve_left (fun h => absurd h N_a1__60)
    have t401 := (g389 a1 0).resolve_left (fun h => absurd h N_a1__60)
    have t402 := (g389 2 1).resolve_left (fun h => absurd h (by decide))
    have t403 := (g389 48 13).resolve_left (fun h => absurd h (by decide))
    have t404 := (g389 48 14).resolve_left (fun h => absurd h (by decide))
    have f405 := (show 0 ≤ I390 48 3 ∧ I390 48 3 ≤ 3000 from gc_in hI390 R_48 rfl rfl)
    have f406 := (show 0 ≤ I390 48 6 ∧ I390 48 6 ≤ 9000 from gc_in hI390 R_48 rfl rfl)
    have f407 := (show 0 ≤ I390 48 11 ∧ I390 48 11 ≤ 1000000 from gc_in hI390 R_48 rfl rfl)
    have f408 := (show 0 ≤ I390 48 12 ∧ I390 48 12 ≤ 1 from gc_in hI390 R_48 rfl rfl)
    have f409 := (show 0 ≤ I390 48 17 ∧ I390 48 17 ≤ 3000 from gc_in hI390 R_48 rfl rfl)
    have f410 := (show 0 ≤ I390 48 18 ∧ I390 48 18 ≤ 24 from gc_in hI390 R_48 rfl rfl)
    have f411 := (show 0 ≤ I390 t 13 ∧ I390 t 13 ≤ 384 from gc_in hI390 R_t rfl rfl)
    have f412 := (show 0 ≤ I390 x 4 ∧ I390 x 4 ≤ 24 from gc_in hI390 R_x rfl rfl)
    have f413 := (show 0 ≤ I390 a1 4 ∧ I390 a1 4 ≤ 6 from gc_in hI390 R_a1 rfl rfl)
    have f414 := (show 0 ≤ I390 a1 0 ∧ I390 a1 0 ≤ 384 from gc_in hI390 R_a1 rfl rfl)
    have f415 := (show 0 ≤ I390 2 1 ∧ I390 2 1 ≤ 32 from gc_in hI390 R_2 rfl rfl)
    have f416 := (show (-1) ≤ I390 48 13 ∧ I390 48 13 ≤ 999999 from gc_in hI390 R_48 rfl rfl)
    have f417 := (show (-1) ≤ I390 48 14 ∧ I390 48 14 ≤ 999999 from gc_in hI390 R_48 rfl rfl)
    obtain rfl : J = J391 := funext fun q => funext fun j => ((k389 q j).resolve_left id).symm
    have KWV_I390 := gc_WV_fr KWV_I ((g389 48 6).resolve_left (fun h => absurd h (by decide))) ((g389 t 13).resolve_left (fun h => absurd h N_t__60)) (fun k => (g389 54 k).resolve_left (fun h => absurd h (by decide)))
    have KFN_I390 := gc_FN_fr KFN_I (fun k => (g389 49 k).resolve_left (fun h => absurd h (by decide))) (fun k => (g389 50 k).resolve_left (fun h => absurd h (by decide)))
    have KWA_I390 := gc_WA_fr KWA_I ((g389 48 6).resolve_left (fun h => absurd h (by decide))) (Int.le_of_eq ((g389 48 3).resolve_left (fun h => absurd h (by decide))).symm) (fun k => (g389 53 k).resolve_left (fun h => absurd h (by decide))) (fun k => (g389 54 k).resolve_left (fun h => absurd h (by decide))) (fun k => (g389 55 k).resolve_left (fun h => absurd h (by decide)))
    have KFD_I390 := gc_FD_fr KFD_I (Int.le_of_eq ((g389 48 3).resolve_left (fun h => absurd h (by decide))).symm) (fun k => (g389 49 k).resolve_left (fun h => absurd h (by decide))) (fun k => (g389 50 k).resolve_left (fun h => absurd h (by decide)))
    have KFZ_I390 := gc_FZ_fr KFZ_I ((g389 2 1).resolve_left (fun h => absurd h (by decide))) (fun k => (g389 49 k).resolve_left (fun h => absurd h (by decide))) (fun k => (g389 50 k).resolve_left (fun h => absurd h (by decide)))
    have KTR_I390 := gc_TR_fr KTR_I ((g389 48 11).resolve_left (fun h => absurd h (by decide))) ((g389 48 12).resolve_left (fun h => absurd h (by decide)))
    have KWB_I390 := gc_WB_fr KWB_I ((g389 48 6).resolve_left (fun h => absurd h (by decide))) (fun k => (g389 54 k).resolve_left (fun h => absurd h (by decide)))
    have KCH_I390 := gc_CH_fr KCH_I (Int.le_of_eq ((g389 48 3).resolve_left (fun h => absurd h (by decide))).symm) (fun k => (g389 58 k).resolve_left (fun h => absurd h (by decide)))
    refine gv_callV hD rfl (As := [.inr (.inr (some 59)), .inr (.inr (some 60))]) (st := []) rfl B_a1 S_a1 rfl (gc_lV0 hws rfl) (Nat.le_of_ble_eq_true rfl) (gz_Ev_mono (d := 1) (by exact gz_m 262 (by omega)) E389) ?_
    show gv_X _ _ (20, [(0, .inr (.inr (some 48))), (1, .inr (.inr (some a1))), (2, .inl a2), (3, .inl a3), (4, .inl a4)], [.inl z389], sh, gc_h sh I390 J A)
    refine gv_run 2 true hD (pc' := 24) (lv' := [(5, .inl z389), (0, .inr (.inr (some 48))), (1, .inr (.inr (some a1))), (2, .inl a2), (3, .inl a3), (4, .inl a4)]) (st' := [.inl z389]) (h' := gc_h sh I390 J A) (C := ((True ∧ True) ∧ True)) rfl ⟨⟨trivial, trivial⟩, trivial⟩ ?_
    refine gv_if_lt (t := 41) hD rfl rfl ⟨by exact gz_m 263 (by omega), by exact gz_m 264 (by omega)⟩ (fun c418 => ?_) (fun c418 => ?_)
    · show gv_X _ _ (41, [(5, .inl z389), (0, .inr (.inr (some 48))), (1, .inr (.inr (some a1))), (2, .inl a2), (3, .inl a3), (4, .inl a4)], [], sh, gc_h sh I390 J A)
      refine gv_pick [] rfl ?_
      exact L41 I390 J hI390 FI390 FJ KWV_I390 KFN_I390 KWA_I390 KFD_I390 KFZ_I390 KTR_I390 KWB_I390 KCH_I390 (by exact gz_m 265 (by omega))
    · show gv_X _ _ (27, [(5, .inl z389), (0, .inr (.inr (some 48))), (1, .inr (.inr (some a1))), (2, .inl a2), (3, .inl a3), (4, .inl a4)], [], sh, gc_h sh I390 J A)
      refine gv_run 3 true hD (pc' := 30) (lv' := [(5, .inl z389), (0, .inr (.inr (some 48))), (1, .inr (.inr (some a1))), (2, .inl a2), (3, .inl a3), (4, .inl a4)]) (st' := [.inr (.inr (some a1)), .inl (-1), .inr (.inr (some 48))]) (h' := gc_h sh I390 J A) (C := (((True ∧ True) ∧ True) ∧ True)) rfl ⟨⟨⟨trivial, trivial⟩, trivial⟩, trivial⟩ ?_
      have f419 := (show 0 ≤ I390 a1 0 ∧ I390 a1 0 ≤ 384 from gc_in hI390 R_a1 rfl rfl)
      refine gv_get hD rfl rfl S_a1 ⟨by decide, B_a1⟩ (gc_hI S_a1 rfl) ?_
      show gv_X _ _ (33, [(5, .inl z389), (0, .inr (.inr (some 48))), (1, .inr (.inr (some a1))), (2, .inl a2), (3, .inl a3), (4, .inl a4)], [.inl (I390 a1 0), .inl (-1), .inr (.inr (some 48))], sh, gc_h sh I390 J A)
      refine gv_run 3 true hD (pc' := 38) (lv' := [(5, .inl z389), (0, .inr (.inr (some 48))), (1, .inr (.inr (some a1))), (2, .inl a2), (3, .inl a3), (4, .inl a4)]) (st' := [.inl a4, .inl z389, .inl ((-1) - (I390 a1 0)), .inr (.inr (some 48))]) (h' := gc_h sh I390 J A) (C := (((True ∧ True) ∧ True) ∧ True)) rfl ⟨⟨⟨trivial, trivial⟩, trivial⟩, trivial⟩ ?_
      obtain ⟨r420, h420, E420, P420⟩ := d_X0_putWay (ws0 := ws0) (tb := tb) hws htb sh ro I390 J A hI390  t σ wb (((-1) - (I390 a1 0))) z389 a4 hb  h_t G_t  ⟨by exact gz_m 266 (by omega), by exact gz_m 267 (by omega)⟩ ⟨by exact gz_m 268 (by omega), by exact gz_m 269 (by omega)⟩ ⟨by exact gz_m 270 (by omega), by exact gz_m 271 (by omega)⟩ (by exact gz_m 272 (by omega)) (by exact gz_m 273 (by omega)) KCH_I390 (Or.inr (by rw [show -1 - ((-1) - (I390 a1 0)) = I a1 0 from by exact gz_m 274 (by omega), x14]; have h9 := x1; rw [show a2 = I a1 4 from by exact gz_m 275 (by omega)] at h9; have h8 : I a1 8 = gc_ac (I (a1 + 1)) (Int.toNat (I a1 4)) := x2; exact gz_m 276 (by omega))) (by exact gz_m 277 (by omega)) (by exact gz_m 278 (by omega)) KWV_I390 KWA_I390 KWB_I390
      obtain ⟨I421, J422, rfl, hI421, g420, k420, KWV_I421, KWA_I421, KWB_I421, ⟨rfl, q420⟩⟩ := P420
      have FI421 := gc_frc (W := fun q j => (q = 48 ∧ j = 3) ∨ (q = 48 ∧ j = 6) ∨ (q = 48 ∧ j = 12) ∨ q = 51 ∨ q = 52 ∨ q = 53 ∨ q = 54 ∨ q = 55 ∨ (q = 48 ∧ j = 11) ∨ q = 58 ∨ q = 59 ∨ q = 60) (V := fun q j => (q = 48 ∧ j = 3) ∨ (q = 48 ∧ j = 6) ∨ (q = 48 ∧ j = 12) ∨ q = 51 ∨ q = 52 ∨ q = 53 ∨ q = 54 ∨ q = 55) FI390 (fun q j h => (h.elim (fun h => (Or.inl h)) (fun h => (h.elim (fun h => (Or.inr (Or.inl h))) (fun h => (h.elim (fun h => (Or.inr (Or.inr (Or.inl h)))) (fun h => (h.elim (fun h => (Or.inr (Or.inr (Or.inr (Or.inl h))))) (fun h => (h.elim (fun h => (Or.inr (Or.inr (Or.inr (Or.inr (Or.inl h)))))) (fun h => (h.elim (fun h => (Or.inr (Or.inr (Or.inr (Or.inr (Or.inr (Or.inl h))))))) (fun h => (h.elim (fun h => (Or.inr (Or.inr (Or.inr (Or.inr (Or.inr (Or.inr (Or.inl h)))))))) (fun h => (Or.inr (Or.inr (Or.inr (Or.inr (Or.inr (Or.inr (Or.inr (Or.inl h))))))))))))))))))))))) g420
      have t423 := (g420 48 11).resolve_left (fun h => h.elim (fun h => absurd h.2 (by decide)) (fun h => h.elim (fun h => absurd h.2 (by decide)) (fun h => h.elim (fun h => absurd h.2 (by decide)) (fun h => h.elim (fun h => absurd h (by decide)) (fun h => h.elim (fun h => absurd h (by decide)) (fun h => h.elim (fun h => absurd h (by decide)) (fun h => h.elim (fun h => absurd h (by decide)) (fun h => absurd h (by decide)))))))))
      have t424 := (g420 48 17).resolve_left (fun h => h.elim (fun h => absurd h.2 (by decide)) (fun h => h.elim (fun h => absurd h.2 (by decide)) (fun h => h.elim (fun h => absurd h.2 (by decide)) (fun h => h.elim (fun h => absurd h (by decide)) (fun h => h.elim (fun h => absurd h (by decide)) (fun h => h.elim (fun h => absurd h (by decide)) (fun h => h.elim (fun h => absurd h (by decide)) (fun h => absurd h (by decide)))))))))
      have t425 := (g420 48 18).resolve_left (fun h => h.elim (fun h => absurd h.2 (by decide)) (fun h => h.elim (fun h => absurd h.2 (by decide)) (fun h => h.elim (fun h => absurd h.2 (by decide)) (fun h => h.elim (fun h => absurd h (by decide)) (fun h => h.elim (fun h => absurd h (by decide)) (fun h => h.elim (fun h => absurd h (by decide)) (fun h => h.elim (fun h => absurd h (by decide)) (fun h => absurd h (by decide)))))))))
      have t426 := (g420 t 13).resolve_left (fun h => h.elim (fun h => absurd h.2 (by decide)) (fun h => h.elim (fun h => absurd h.2 (by decide)) (fun h => h.elim (fun h => absurd h.2 (by decide)) (fun h => h.elim (fun h => absurd h N_t__51) (fun h => h.elim (fun h => absurd h N_t__52) (fun h => h.elim (fun h => absurd h N_t__53) (fun h => h.elim (fun h => absurd h N_t__54) (fun h => absurd h N_t__55))))))))
      have t427 := (g420 x 4).resolve_left (fun h => h.elim (fun h => absurd h.2 (by decide)) (fun h => h.elim (fun h => absurd h.2 (by decide)) (fun h => h.elim (fun h => absurd h.2 (by decide)) (fun h => h.elim (fun h => absurd h N_x__51) (fun h => h.elim (fun h => absurd h N_x__52) (fun h => h.elim (fun h => absurd h N_x__53) (fun h => h.elim (fun h => absurd h N_x__54) (fun h => absurd h N_x__55))))))))
      have t428 := (g420 a1 4).resolve_left (fun h => h.elim (fun h => absurd h.2 (by decide)) (fun h => h.elim (fun h => absurd h.2 (by decide)) (fun h => h.elim (fun h => absurd h.2 (by decide)) (fun h => h.elim (fun h => absurd h N_a1__51) (fun h => h.elim (fun h => absurd h N_a1__52) (fun h => h.elim (fun h => absurd h N_a1__53) (fun h => h.elim (fun h => absurd h N_a1__54) (fun h => absurd h N_a1__55))))))))
      have t429 := (g420 a1 0).resolve_left (fun h => h.elim (fun h => absurd h.2 (by decide)) (fun h => h.elim (fun h => absurd h.2 (by decide)) (fun h => h.elim (fun h => absurd h.2 (by decide)) (fun h => h.elim (fun h => absurd h N_a1__51) (fun h => h.elim (fun h => absurd h N_a1__52) (fun h => h.elim (fun h => absurd h N_a1__53) (fun h => h.elim (fun h => absurd h N_a1__54) (fun h => absurd h N_a1__55))))))))
      have t430 := (g420 2 1).resolve_left (fun h => h.elim (fun h => absurd h.2 (by decide)) (fun h => h.elim (fun h => absurd h.2 (by decide)) (fun h => h.elim (fun h => absurd h.2 (by decide)) (fun h => h.elim (fun h => absurd h (by decide)) (fun h => h.elim (fun h => absurd h (by decide)) (fun h => h.elim (fun h => absurd h (by decide)) (fun h => h.elim (fun h => absurd h (by decide)) (fun h => absurd h (by decide)))))))))
      have t431 := (g420 48 13).resolve_left (fun h => h.elim (fun h => absurd h.2 (by decide)) (fun h => h.elim (fun h => absurd h.2 (by decide)) (fun h => h.elim (fun h => absurd h.2 (by decide)) (fun h => h.elim (fun h => absurd h (by decide)) (fun h => h.elim (fun h => absurd h (by decide)) (fun h => h.elim (fun h => absurd h (by decide)) (fun h => h.elim (fun h => absurd h (by decide)) (fun h => absurd h (by decide)))))))))
      have t432 := (g420 48 14).resolve_left (fun h => h.elim (fun h => absurd h.2 (by decide)) (fun h => h.elim (fun h => absurd h.2 (by decide)) (fun h => h.elim (fun h => absurd h.2 (by decide)) (fun h => h.elim (fun h => absurd h (by decide)) (fun h => h.elim (fun h => absurd h (by decide)) (fun h => h.elim (fun h => absurd h (by decide)) (fun h => h.elim (fun h => absurd h (by decide)) (fun h => absurd h (by decide)))))))))
      have f433 := (show 0 ≤ I421 48 3 ∧ I421 48 3 ≤ 3000 from gc_in hI421 R_48 rfl rfl)
      have f434 := (show 0 ≤ I421 48 6 ∧ I421 48 6 ≤ 9000 from gc_in hI421 R_48 rfl rfl)
      have f435 := (show 0 ≤ I421 48 11 ∧ I421 48 11 ≤ 1000000 from gc_in hI421 R_48 rfl rfl)
      have f436 := (show 0 ≤ I421 48 12 ∧ I421 48 12 ≤ 1 from gc_in hI421 R_48 rfl rfl)
      have f437 := (show 0 ≤ I421 48 17 ∧ I421 48 17 ≤ 3000 from gc_in hI421 R_48 rfl rfl)
      have f438 := (show 0 ≤ I421 48 18 ∧ I421 48 18 ≤ 24 from gc_in hI421 R_48 rfl rfl)
      have f439 := (show 0 ≤ I421 t 13 ∧ I421 t 13 ≤ 384 from gc_in hI421 R_t rfl rfl)
      have f440 := (show 0 ≤ I421 x 4 ∧ I421 x 4 ≤ 24 from gc_in hI421 R_x rfl rfl)
      have f441 := (show 0 ≤ I421 a1 4 ∧ I421 a1 4 ≤ 6 from gc_in hI421 R_a1 rfl rfl)
      have f442 := (show 0 ≤ I421 a1 0 ∧ I421 a1 0 ≤ 384 from gc_in hI421 R_a1 rfl rfl)
      have f443 := (show 0 ≤ I421 2 1 ∧ I421 2 1 ≤ 32 from gc_in hI421 R_2 rfl rfl)
      have f444 := (show (-1) ≤ I421 48 13 ∧ I421 48 13 ≤ 999999 from gc_in hI421 R_48 rfl rfl)
      have f445 := (show (-1) ≤ I421 48 14 ∧ I421 48 14 ≤ 999999 from gc_in hI421 R_48 rfl rfl)
      obtain rfl : J = J422 := funext fun q => funext fun j => ((k420 q j).resolve_left id).symm
      have KTR_I421 : gc_TR I421 := (gc_TR_pw KTR_I390 q420.2 (by exact gz_m 279 (by omega)))
      have KFN_I421 := gc_FN_fr KFN_I390 (fun k => (g420 49 k).resolve_left (fun h => h.elim (fun h => absurd h.1 (by decide)) (fun h => h.elim (fun h => absurd h.1 (by decide)) (fun h => h.elim (fun h => absurd h.1 (by decide)) (fun h => h.elim (fun h => absurd h (by decide)) (fun h => h.elim (fun h => absurd h (by decide)) (fun h => h.elim (fun h => absurd h (by decide)) (fun h => h.elim (fun h => absurd h (by decide)) (fun h => absurd h (by decide)))))))))) (fun k => (g420 50 k).resolve_left (fun h => h.elim (fun h => absurd h.1 (by decide)) (fun h => h.elim (fun h => absurd h.1 (by decide)) (fun h => h.elim (fun h => absurd h.1 (by decide)) (fun h => h.elim (fun h => absurd h (by decide)) (fun h => h.elim (fun h => absurd h (by decide)) (fun h => h.elim (fun h => absurd h (by decide)) (fun h => h.elim (fun h => absurd h (by decide)) (fun h => absurd h (by decide))))))))))
      have KFD_I421 := gc_FD_fr KFD_I390 (by exact gz_m 280 (by omega)) (fun k => (g420 49 k).resolve_left (fun h => h.elim (fun h => absurd h.1 (by decide)) (fun h => h.elim (fun h => absurd h.1 (by decide)) (fun h => h.elim (fun h => absurd h.1 (by decide)) (fun h => h.elim (fun h => absurd h (by decide)) (fun h => h.elim (fun h => absurd h (by decide)) (fun h => h.elim (fun h => absurd h (by decide)) (fun h => h.elim (fun h => absurd h (by decide)) (fun h => absurd h (by decide)))))))))) (fun k => (g420 50 k).resolve_left (fun h => h.elim (fun h => absurd h.1 (by decide)) (fun h => h.elim (fun h => absurd h.1 (by decide)) (fun h => h.elim (fun h => absurd h.1 (by decide)) (fun h => h.elim (fun h => absurd h (by decide)) (fun h => h.elim (fun h => absurd h (by decide)) (fun h => h.elim (fun h => absurd h (by decide)) (fun h => h.elim (fun h => absurd h (by decide)) (fun h => absurd h (by decide))))))))))
      have KFZ_I421 := gc_FZ_fr KFZ_I390 ((g420 2 1).resolve_left (fun h => h.elim (fun h => absurd h.2 (by decide)) (fun h => h.elim (fun h => absurd h.2 (by decide)) (fun h => h.elim (fun h => absurd h.2 (by decide)) (fun h => h.elim (fun h => absurd h (by decide)) (fun h => h.elim (fun h => absurd h (by decide)) (fun h => h.elim (fun h => absurd h (by decide)) (fun h => h.elim (fun h => absurd h (by decide)) (fun h => absurd h (by decide)))))))))) (fun k => (g420 49 k).resolve_left (fun h => h.elim (fun h => absurd h.1 (by decide)) (fun h => h.elim (fun h => absurd h.1 (by decide)) (fun h => h.elim (fun h => absurd h.1 (by decide)) (fun h => h.elim (fun h => absurd h (by decide)) (fun h => h.elim (fun h => absurd h (by decide)) (fun h => h.elim (fun h => absurd h (by decide)) (fun h => h.elim (fun h => absurd h (by decide)) (fun h => absurd h (by decide)))))))))) (fun k => (g420 50 k).resolve_left (fun h => h.elim (fun h => absurd h.1 (by decide)) (fun h => h.elim (fun h => absurd h.1 (by decide)) (fun h => h.elim (fun h => absurd h.1 (by decide)) (fun h => h.elim (fun h => absurd h (by decide)) (fun h => h.elim (fun h => absurd h (by decide)) (fun h => h.elim (fun h => absurd h (by decide)) (fun h => h.elim (fun h => absurd h (by decide)) (fun h => absurd h (by decide))))))))))
      have KCH_I421 := gc_CH_fr KCH_I390 (by exact gz_m 281 (by omega)) (fun k => (g420 58 k).resolve_left (fun h => h.elim (fun h => absurd h.1 (by decide)) (fun h => h.elim (fun h => absurd h.1 (by decide)) (fun h => h.elim (fun h => absurd h.1 (by decide)) (fun h => h.elim (fun h => absurd h (by decide)) (fun h => h.elim (fun h => absurd h (by decide)) (fun h => h.elim (fun h => absurd h (by decide)) (fun h => h.elim (fun h => absurd h (by decide)) (fun h => absurd h (by decide))))))))))
      refine gv_callV hD rfl (As := [.inl ((-1) - (I390 a1 0)), .inl z389, .inl a4]) (st := []) rfl B_48 S_48 rfl (gc_lV0 hws rfl) (Nat.le_of_ble_eq_true rfl) (gz_Ev_mono (d := 2) (by exact gz_m 282 (by omega)) E420) ?_
      show gv_X _ _ (41, [(5, .inl z389), (0, .inr (.inr (some 48))), (1, .inr (.inr (some a1))), (2, .inl a2), (3, .inl a3), (4, .inl a4)], [], sh, gc_h sh I421 J A)
      refine gv_pick [] rfl ?_
      exact L41 I421 J hI421 FI421 FJ KWV_I421 KFN_I421 KWA_I421 KFD_I421 KFZ_I421 KTR_I421 KWB_I421 KCH_I421 (by exact gz_m 283 (by omega))
