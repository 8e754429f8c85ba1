set_option maxHeartbeats 8000000 in
set_option maxRecDepth 100000 in
theorem d_X7_findOptions_r {ws0 : List Cond} {tb : String → gz_T} (hws : gc_Ws ws0) (htb : gc_tbs tb) (sh : gz_Sh) (ro : Nat → Nat) (I : gr_I) (J : gr_J) (A : gc_A) (hI : gc_Inv ro I) (m : Nat) (σ : Nat → Int) (ς : Nat → Int → Int) (L : Int) (a1 : Nat) (a2 : Nat) (a3 : Int) (hb : gc_Base sh ro A) (h_a1 : gc_isTongue sh ro A a1) (G_a1 : 144 ≤ a1) (S_a2 : sh[a2]? = some (true, 1, m)) (R_a2 : ro a2 = 37) (B_a2 : a2 < 1000000) (M_a2 : m < 2147483648) (ha3 : 0 ≤ a3 ∧ a3 ≤ 60) (x0 : gc_wtr I a2 a3) (x1 : a3 ≤ m) (x2 : 115 ≤ a2) (x3 : gc_Ls sh ro A a1 I) (x4 : gc_LP σ ς A a1 I) (x5 : I a1 13 ≤ L) (x6 : m ≤ 60) : ∃ r hₚ, gz_Ev ws0 tb 10 (yX7_findOptions, cX7_findOptions, 4, (some .int)) [.inr (.inr (some 74)), .inr (.inr (some a1)), .inr (.inr (some a2)), .inl a3] sh (gc_h sh I J A) r sh hₚ 0 0 ∧ (∃ (Iₚ : gr_I) (Jₚ : gr_J), hₚ = gc_h sh Iₚ Jₚ A ∧ gc_Inv ro Iₚ ∧ (∀ q j : Nat, ((q = 74 ∧ j = 1) ∨ (q = 74 ∧ j = 9) ∨ q = 22 ∨ q = 75 ∨ q = 76 ∨ q = 77 ∨ q = 78 ∨ q = 79 ∨ q = 80 ∨ q = 81 ∨ q = 82 ∨ q = 83) ∨ Iₚ q j = I q j) ∧ (∀ q j : Nat, (False) ∨ Jₚ q j = J q j) ∧ (∃ z : Int, r = some (.inl z) ∧ 0 ≤ z ∧ z ≤ 24 ∧ (gc_OE σ ς L 0 a3 (-1) Iₚ) ∧ (Iₚ 74 1 = (a1 : Int)) ∧ (z = Iₚ 76 0))) := by
  have FI : ∀ q j : Nat, ((q = 74 ∧ j = 1) ∨ (q = 74 ∧ j = 9) ∨ q = 22 ∨ q = 75 ∨ q = 76 ∨ q = 77 ∨ q = 78 ∨ q = 79 ∨ q = 80 ∨ q = 81 ∨ q = 82 ∨ q = 83) ∨ I q j = I q j := fun _ _ => Or.inr rfl
  have FJ : ∀ q j : Nat, (False) ∨ J q j = J q j := fun _ _ => Or.inr rfl
  have A_1_7 : A 1 7 = some 12 := gc_bA_1_7 hb
  have A_74_0 : A 74 0 = some 1 := gc_bA_74_0 hb
  have A_74_2 : A 74 2 = some 75 := gc_bA_74_2 hb
  have A_74_3 : A 74 3 = some 76 := gc_bA_74_3 hb
  have B_1 : 1 < 1000000 := by decide
  have B_12 : 12 < 1000000 := by decide
  have B_74 : 74 < 1000000 := by decide
  have B_75 : 75 < 1000000 := by decide
  have B_76 : 76 < 1000000 := by decide
  have R_12 : ro 12 = 26 := gc_bR_12 hb
  have R_74 : ro 74 = 73 := gc_bR_74 hb
  have R_75 : ro 75 = 38 := gc_bR_75 hb
  have R_76 : ro 76 = 45 := gc_bR_76 hb
  have S_1 : sh[1]? = some (false, 8, 21) := gc_bS_1 hb
  have S_12 : sh[12]? = some (true, 1, 96) := gc_bS_12 hb
  have S_74 : sh[74]? = some (false, 7, 14) := gc_bS_74 hb
  have S_75 : sh[75]? = some (true, 1, 240) := gc_bS_75 hb
  have S_76 : sh[76]? = some (true, 1, 60) := gc_bS_76 hb
  obtain ⟨S_a1, R_a1, B_a1, A_a1_0, h_a1_1, A_a1_1, h_a1_3, A_a1_2, S_a1_5, R_a1_5, B_a1_5, A_a1_3, S_a1_6, R_a1_6, B_a1_6, A_a1_4, h_a1_7, A_a1_5, S_a1_9, R_a1_9, B_a1_9, A_a1_7, S_a1_10, R_a1_10, B_a1_10, A_a1_8, h_a1_11, A_a1_9, S_a1_13, R_a1_13, B_a1_13, A_a1_10, S_a1_14, R_a1_14, B_a1_14, A_a1_12, S_a1_15, R_a1_15, B_a1_15, A_a1_14, S_a1_16, R_a1_16, B_a1_16, A_a1_15, h_a1_17⟩ := id h_a1
  obtain ⟨S_a1_1, R_a1_1, B_a1_1, A_a1_1_0, S_a1_1_1, R_a1_1_1, B_a1_1_1, Q0_a1_1, Q1_a1_1, Q2_a1_1⟩ := id h_a1_1
  obtain ⟨S_a1_3, R_a1_3, B_a1_3, A_a1_3_0, S_a1_3_1, R_a1_3_1, B_a1_3_1, Q0_a1_3, Q1_a1_3, Q2_a1_3⟩ := id h_a1_3
  obtain ⟨S_a1_7, R_a1_7, B_a1_7, A_a1_7_0, S_a1_7_1, R_a1_7_1, B_a1_7_1, Q0_a1_7, Q1_a1_7, Q2_a1_7⟩ := id h_a1_7
  obtain ⟨S_a1_11, R_a1_11, B_a1_11, A_a1_11_0, S_a1_11_1, R_a1_11_1, B_a1_11_1, Q0_a1_11, Q1_a1_11, Q2_a1_11⟩ := id h_a1_11
  obtain ⟨S_a1_17, R_a1_17, B_a1_17, A_a1_17_0, S_20, R_20, B_20, A_a1_17_1, S_a1_17_1, R_a1_17_1, B_a1_17_1, A_a1_17_2, S_a1_17_2, R_a1_17_2, B_a1_17_2, A_a1_17_3, S_a1_17_3, R_a1_17_3, B_a1_17_3, A_a1_17_4, S_a1_17_4, R_a1_17_4, B_a1_17_4, A_a1_17_5, S_a1_17_5, R_a1_17_5, B_a1_17_5, S_a1_17_6, R_a1_17_6, B_a1_17_6, S_a1_17_7, R_a1_17_7, B_a1_17_7⟩ := id h_a1_17
  have hD : gv_D (gc_E7 ws0 tb 9 (yX7_findOptions, cX7_findOptions, 4, (some .int)) kX7_findOptions) := gq_of oX7_findOptions
  refine gc_ev7 (d := 9) (l := kX7_findOptions) (Po := fun r hₚ => (∃ (Iₚ : gr_I) (Jₚ : gr_J), hₚ = gc_h sh Iₚ Jₚ A ∧ gc_Inv ro Iₚ ∧ (∀ q j : Nat, ((q = 74 ∧ j = 1) ∨ (q = 74 ∧ j = 9) ∨ q = 22 ∨ q = 75 ∨ q = 76 ∨ q = 77 ∨ q = 78 ∨ q = 79 ∨ q = 80 ∨ q = 81 ∨ q = 82 ∨ q = 83) ∨ Iₚ q j = I q j) ∧ (∀ q j : Nat, (False) ∨ Jₚ q j = J q j) ∧ (∃ z : Int, r = some (.inl z) ∧ 0 ≤ z ∧ z ≤ 24 ∧ (gc_OE σ ς L 0 a3 (-1) Iₚ) ∧ (Iₚ 74 1 = (a1 : Int)) ∧ (z = Iₚ 76 0)))) htb rfl (Nat.le_of_ble_eq_true rfl) ?_
  have N_a1__76 : ¬ (a1 = 76) := by exact gz_m 0 (by omega)
  have N_a1__77 : ¬ (a1 = 77) := by exact gz_m 1 (by omega)
  have N_a1__78 : ¬ (a1 = 78) := by exact gz_m 2 (by omega)
  have N_a1__79 : ¬ (a1 = 79) := by exact gz_m 3 (by omega)
  have N_a1__80 : ¬ (a1 = 80) := by exact gz_m 4 (by omega)
  have N_a1__81 : ¬ (a1 = 81) := by exact gz_m 5 (by omega)
  have N_a1__82 : ¬ (a1 = 82) := by exact gz_m 6 (by omega)
  have N_a1__83 : ¬ (a1 = 83) := by exact gz_m 7 (by omega)
  have N_a1__75 : ¬ (a1 = 75) := by exact gz_m 8 (by omega)
  have N_a1__22 : ¬ (a1 = 22) := by exact gz_m 9 (by omega)
  have f1 := (gc_b_73_1 hI R_74)
  have f2 := (gc_b_73_9 hI R_74)
  have f3 := (show 0 ≤ I a1 13 ∧ I a1 13 ≤ 384 from gc_in2 hI R_a1 rfl rfl rfl)
  have L25 : ∀ (n9 : Nat) (I4 : gr_I) (J5 : gr_J) , (I4 74 9 + 2).toNat < n9 → gc_Inv ro I4 → (∀ q j : Nat, ((q = 74 ∧ j = 1) ∨ (q = 74 ∧ j = 9) ∨ q = 22 ∨ q = 75 ∨ q = 76 ∨ q = 77 ∨ q = 78 ∨ q = 79 ∨ q = 80 ∨ q = 81 ∨ q = 82 ∨ q = 83) ∨ I4 q j = I q j) → (∀ q j : Nat, (False) ∨ J5 q j = J q j) → ((I4 74 9 < a3) ∧ (I4 74 1 = (a1 : Int)) ∧ (I4 a1 13 = I a1 13)) → (gc_OE σ ς L (I4 74 9 + 1) a3 (-1) I4) → (gc_cd I I4 a2 75 a3 (-1)) → gv_X (gc_E7 ws0 tb 9 (yX7_findOptions, cX7_findOptions, 4, (some .int)) kX7_findOptions) (gv_Q cX7_findOptions (some .int) sh (fun r hₚ => (∃ (Iₚ : gr_I) (Jₚ : gr_J), hₚ = gc_h sh Iₚ Jₚ A ∧ gc_Inv ro Iₚ ∧ (∀ q j : Nat, ((q = 74 ∧ j = 1) ∨ (q = 74 ∧ j = 9) ∨ q = 22 ∨ q = 75 ∨ q = 76 ∨ q = 77 ∨ q = 78 ∨ q = 79 ∨ q = 80 ∨ q = 81 ∨ q = 82 ∨ q = 83) ∨ Iₚ q j = I q j) ∧ (∀ q j : Nat, (False) ∨ Jₚ q j = J q j) ∧ (∃ z : Int, r = some (.inl z) ∧ 0 ≤ z ∧ z ≤ 24 ∧ (gc_OE σ ς L 0 a3 (-1) Iₚ) ∧ (Iₚ 74 1 = (a1 : Int)) ∧ (z = Iₚ 76 0))))) (25, [(0, .inr (.inr (some 74))), (2, .inr (.inr (some a2)))], [], sh, gc_h sh I4 J5 A) := by
    intro n9
    induction n9 with
    | zero => intro I4 J5 hn; exact gz_m 10 (by omega)
    | succ n9 ih25 =>
      intro I4 J5 hn hI4 FI4 FJ5 m_6 e0_6 e1_6
      obtain ⟨e2_6, e3_6, e4_6⟩ := m_6
      have f7 := (gc_b_73_1 hI4 R_74)
      have f8 := (gc_b_73_9 hI4 R_74)
      have f9 := (show 0 ≤ I4 a1 13 ∧ I4 a1 13 ≤ 384 from gc_in2 hI4 R_a1 rfl rfl rfl)
      have L82 : ∀ (I10 : gr_I) (J11 : gr_J) , gc_Inv ro I10 → (∀ q j : Nat, ((q = 74 ∧ j = 1) ∨ (q = 74 ∧ j = 9) ∨ q = 22 ∨ q = 75 ∨ q = 76 ∨ q = 77 ∨ q = 78 ∨ q = 79 ∨ q = 80 ∨ q = 81 ∨ q = 82 ∨ q = 83) ∨ I10 q j = I q j) → (∀ q j : Nat, (False) ∨ J11 q j = J q j) → ((I10 74 9 < a3) ∧ (I10 74 1 = (a1 : Int)) ∧ (I10 a1 13 = I a1 13) ∧ (0 ≤ I10 74 9) ∧ (I10 74 9 = I4 74 9)) → (gc_OE σ ς L (I10 74 9) a3 (-1) I10) → (gc_cd I I10 a2 75 a3 (-1)) → gv_X (gc_E7 ws0 tb 9 (yX7_findOptions, cX7_findOptions, 4, (some .int)) kX7_findOptions) (gv_Q cX7_findOptions (some .int) sh (fun r hₚ => (∃ (Iₚ : gr_I) (Jₚ : gr_J), hₚ = gc_h sh Iₚ Jₚ A ∧ gc_Inv ro Iₚ ∧ (∀ q j : Nat, ((q = 74 ∧ j = 1) ∨ (q = 74 ∧ j = 9) ∨ q = 22 ∨ q = 75 ∨ q = 76 ∨ q = 77 ∨ q = 78 ∨ q = 79 ∨ q = 80 ∨ q = 81 ∨ q = 82 ∨ q = 83) ∨ Iₚ q j = I q j) ∧ (∀ q j : Nat, (False) ∨ Jₚ q j = J q j) ∧ (∃ z : Int, r = some (.inl z) ∧ 0 ≤ z ∧ z ≤ 24 ∧ (gc_OE σ ς L 0 a3 (-1) Iₚ) ∧ (Iₚ 74 1 = (a1 : Int)) ∧ (z = Iₚ 76 0))))) (82, [(0, .inr (.inr (some 74))), (2, .inr (.inr (some a2)))], [], sh, gc_h sh I10 J11 A) := by
        intro I10 J11 hI10 FI10 FJ11 m_12 e0_12 e1_12
        clear e2_6 e3_6 e4_6 f7 f8 f9
        obtain ⟨e2_12, e3_12, e4_12, e5_12, e6_12⟩ := m_12
        have f13 := (gc_b_73_1 hI10 R_74)
        have f14 := (gc_b_73_9 hI10 R_74)
        have f15 := (show 0 ≤ I10 a1 13 ∧ I10 a1 13 ≤ 384 from gc_in2 hI10 R_a1 rfl rfl rfl)
        refine gv_run 2 true hD (pcₚ := 84) (lvₚ := [(0, .inr (.inr (some 74))), (2, .inr (.inr (some a2)))]) (stₚ := [.inr (.inr (some 74)), .inr (.inr (some 74))]) (hₚ := gc_h sh I10 J11 A) (C := ((True ∧ True) ∧ True)) rfl ⟨⟨trivial, trivial⟩, trivial⟩ ?_
        have f16 := (gc_b_73_9 hI10 R_74)
        refine gv_get hD rfl rfl S_74 ⟨by decide, B_74⟩ (gc_hI S_74 rfl) ?_
        show gv_X _ _ (87, [(0, .inr (.inr (some 74))), (2, .inr (.inr (some a2)))], [.inl (I10 74 9), .inr (.inr (some 74))], sh, gc_h sh I10 J11 A)
        refine gv_run 2 true hD (pcₚ := 89) (lvₚ := [(0, .inr (.inr (some 74))), (2, .inr (.inr (some a2)))]) (stₚ := [.inl ((I10 74 9) - 1), .inr (.inr (some 74))]) (hₚ := gc_h sh I10 J11 A) (C := ((True ∧ True) ∧ True)) rfl ⟨⟨trivial, trivial⟩, trivial⟩ ?_
        refine gv_put hD rfl rfl S_74 ⟨by decide, B_74⟩ rfl trivial ?_
        refine gc_st (k := 9) hI10 S_74 rfl R_74 (lo := (-1)) (hi := 59) rfl rfl (by exact gz_m 11 (by omega)) (by exact gz_m 12 (by omega)) (fun I17 hI17 q18 p18 => ?_)
        have FI17 := gc_frs (W := fun q j => (q = 74 ∧ j = 1) ∨ (q = 74 ∧ j = 9) ∨ q = 22 ∨ q = 75 ∨ q = 76 ∨ q = 77 ∨ q = 78 ∨ q = 79 ∨ q = 80 ∨ q = 81 ∨ q = 82 ∨ q = 83) FI10 (Or.inr (Or.inl ⟨rfl, rfl⟩)) p18
        have t19 := p18 74 1 (fun h => absurd h.2 (by first | exact gz_ne rfl | decide))
        have t20 := p18 a1 13 (fun h => absurd h.2 (by first | exact gz_ne rfl | decide))
        have f21 := (gc_b_73_9 hI17 R_74)
        show gv_X _ _ (92, [(0, .inr (.inr (some 74))), (2, .inr (.inr (some a2)))], [], sh, gc_h sh I17 J11 A)
        refine gv_run 1 true hD (pcₚ := 25) (lvₚ := [(0, .inr (.inr (some 74))), (2, .inr (.inr (some a2)))]) (stₚ := []) (hₚ := gc_h sh I17 J11 A) (C := (True ∧ True)) rfl ⟨trivial, trivial⟩ ?_
        exact ih25 I17 J11 (by exact gz_m 13 (by omega)) hI17 FI17 FJ11 (by exact gz_m 14 (by omega)) (by rw [show I17 74 9 + 1 = I10 74 9 from by exact gz_m 15 (by omega)]; exact gc_OE_fr e0_12 (fun k => (p18 75 k (fun h => absurd h.1 (by exact gz_m 16 (by omega))))) (fun k => (p18 76 k (fun h => absurd h.1 (by exact gz_m 17 (by omega))))) (fun k => (p18 80 k (fun h => absurd h.1 (by exact gz_m 18 (by omega))))) (fun k => (p18 81 k (fun h => absurd h.1 (by exact gz_m 19 (by omega)))))) (gc_cd_fr e1_12 (fun k => (p18 75 k (fun h => absurd h.1 (by exact gz_m 20 (by omega))))))
      refine gv_run 1 true hD (pcₚ := 26) (lvₚ := [(0, .inr (.inr (some 74))), (2, .inr (.inr (some a2)))]) (stₚ := [.inr (.inr (some 74))]) (hₚ := gc_h sh I4 J5 A) (C := (True ∧ True)) rfl ⟨trivial, trivial⟩ ?_
      have f22 := (gc_b_73_9 hI4 R_74)
      refine gv_get hD rfl rfl S_74 ⟨by decide, B_74⟩ (gc_hI S_74 rfl) ?_
      show gv_X _ _ (29, [(0, .inr (.inr (some 74))), (2, .inr (.inr (some a2)))], [.inl (I4 74 9)], sh, gc_h sh I4 J5 A)
      refine gv_if_lt (t := 95) hD rfl rfl ⟨by exact gz_m 21 (by omega), by exact gz_m 22 (by omega)⟩ (fun c23 => ?_) (fun c23 => ?_)
      · show gv_X _ _ (95, [(0, .inr (.inr (some 74))), (2, .inr (.inr (some a2)))], [], sh, gc_h sh I4 J5 A)
        refine gv_run 1 true hD (pcₚ := 96) (lvₚ := [(0, .inr (.inr (some 74))), (2, .inr (.inr (some a2)))]) (stₚ := [.inr (.inr (some 74))]) (hₚ := gc_h sh I4 J5 A) (C := (True ∧ True)) rfl ⟨trivial, trivial⟩ ?_
        refine gv_get hD rfl rfl S_74 ⟨by decide, B_74⟩ (gc_hA S_74 rfl A_74_3) ?_
        show gv_X _ _ (99, [(0, .inr (.inr (some 74))), (2, .inr (.inr (some a2)))], [.inr (.inr (some 76))], sh, gc_h sh I4 J5 A)
        refine gv_run 1 true hD (pcₚ := 100) (lvₚ := [(0, .inr (.inr (some 74))), (2, .inr (.inr (some a2)))]) (stₚ := [.inl 0, .inr (.inr (some 76))]) (hₚ := gc_h sh I4 J5 A) (C := (True ∧ True)) rfl ⟨trivial, trivial⟩ ?_
        have f24 := (gc_b_45_0 hI4 R_76)
        refine gv_iald hD rfl S_76 rfl ⟨by decide, B_76⟩ ⟨by exact gz_m 23 (by omega), by exact gz_m 24 (by omega)⟩ (gc_iI S_76 rfl) ?_
        show gv_X _ _ (101, [(0, .inr (.inr (some 74))), (2, .inr (.inr (some a2)))], [.inl (I4 76 0)], sh, gc_h sh I4 J5 A)
        exact gv_iret hD rfl ⟨I4, J5, rfl, hI4, FI4, FJ5, ⟨_, rfl, by exact gz_m 25 (by omega), by exact gz_m 26 (by omega), (by have h9 := e0_6; rw [show I4 74 9 + 1 = 0 from by exact gz_m 27 (by omega)] at h9; exact h9), by exact gz_m 28 (by omega), by exact gz_m 29 (by omega)⟩⟩
      · show gv_X _ _ (32, [(0, .inr (.inr (some 74))), (2, .inr (.inr (some a2)))], [], sh, gc_h sh I4 J5 A)
        refine gv_run 1 true hD (pcₚ := 33) (lvₚ := [(0, .inr (.inr (some 74))), (2, .inr (.inr (some a2)))]) (stₚ := [.inr (.inr (some 74))]) (hₚ := gc_h sh I4 J5 A) (C := (True ∧ True)) rfl ⟨trivial, trivial⟩ ?_
        refine gv_get hD rfl rfl S_74 ⟨by decide, B_74⟩ (gc_hA S_74 rfl A_74_3) ?_
        show gv_X _ _ (36, [(0, .inr (.inr (some 74))), (2, .inr (.inr (some a2)))], [.inr (.inr (some 76))], sh, gc_h sh I4 J5 A)
        refine gv_run 1 true hD (pcₚ := 37) (lvₚ := [(0, .inr (.inr (some 74))), (2, .inr (.inr (some a2)))]) (stₚ := [.inr (.inr (some 74)), .inr (.inr (some 76))]) (hₚ := gc_h sh I4 J5 A) (C := (True ∧ True)) rfl ⟨trivial, trivial⟩ ?_
        have f25 := (gc_b_73_9 hI4 R_74)
        refine gv_get hD rfl rfl S_74 ⟨by decide, B_74⟩ (gc_hI S_74 rfl) ?_
        show gv_X _ _ (40, [(0, .inr (.inr (some 74))), (2, .inr (.inr (some a2)))], [.inl (I4 74 9), .inr (.inr (some 76))], sh, gc_h sh I4 J5 A)
        refine gv_run 1 true hD (pcₚ := 41) (lvₚ := [(0, .inr (.inr (some 74))), (2, .inr (.inr (some a2)))]) (stₚ := [.inl 0, .inl (I4 74 9), .inr (.inr (some 76))]) (hₚ := gc_h sh I4 J5 A) (C := (True ∧ True)) rfl ⟨trivial, trivial⟩ ?_
        refine gv_iast hD rfl S_76 ⟨by decide, B_76⟩ ⟨by exact gz_m 30 (by omega), by exact gz_m 31 (by omega)⟩ ?_
        refine gc_st hI4 S_76 rfl R_76 (lo := 0) (hi := 24) rfl rfl (by exact gz_m 32 (by omega)) (by exact gz_m 33 (by omega)) (fun I26 hI26 q27 p27 => ?_)
        have FI26 := gc_frs (W := fun q j => (q = 74 ∧ j = 1) ∨ (q = 74 ∧ j = 9) ∨ q = 22 ∨ q = 75 ∨ q = 76 ∨ q = 77 ∨ q = 78 ∨ q = 79 ∨ q = 80 ∨ q = 81 ∨ q = 82 ∨ q = 83) FI4 (Or.inr (Or.inr (Or.inr (Or.inr (Or.inl rfl))))) p27
        have t28 := p27 74 1 (fun h => absurd h.1 (by first | exact gz_ne rfl | decide))
        have t29 := p27 74 9 (fun h => absurd h.1 (by first | exact gz_ne rfl | decide))
        have t30 := p27 a1 13 (fun h => absurd h.1 N_a1__76)
        show gv_X _ _ (42, [(0, .inr (.inr (some 74))), (2, .inr (.inr (some a2)))], [], sh, gc_h sh I26 J5 A)
        refine gv_run 1 true hD (pcₚ := 43) (lvₚ := [(0, .inr (.inr (some 74))), (2, .inr (.inr (some a2)))]) (stₚ := [.inr (.inr (some 74))]) (hₚ := gc_h sh I26 J5 A) (C := (True ∧ True)) rfl ⟨trivial, trivial⟩ ?_
        refine gv_get hD rfl rfl S_74 ⟨by decide, B_74⟩ (gc_hA S_74 rfl A_74_0) ?_
        show gv_X _ _ (46, [(0, .inr (.inr (some 74))), (2, .inr (.inr (some a2)))], [.inr (.inr (some 1))], sh, gc_h sh I26 J5 A)
        refine gv_get hD rfl rfl S_1 ⟨by decide, B_1⟩ (gc_hA S_1 rfl A_1_7) ?_
        show gv_X _ _ (49, [(0, .inr (.inr (some 74))), (2, .inr (.inr (some a2)))], [.inr (.inr (some 12))], sh, gc_h sh I26 J5 A)
        refine gv_run 2 true hD (pcₚ := 51) (lvₚ := [(0, .inr (.inr (some 74))), (2, .inr (.inr (some a2)))]) (stₚ := [.inr (.inr (some 74)), .inr (.inr (some a2)), .inr (.inr (some 12))]) (hₚ := gc_h sh I26 J5 A) (C := ((True ∧ True) ∧ True)) rfl ⟨⟨trivial, trivial⟩, trivial⟩ ?_
        have f31 := (gc_b_73_9 hI26 R_74)
        refine gv_get hD rfl rfl S_74 ⟨by decide, B_74⟩ (gc_hI S_74 rfl) ?_
        show gv_X _ _ (54, [(0, .inr (.inr (some 74))), (2, .inr (.inr (some a2)))], [.inl (I26 74 9), .inr (.inr (some a2)), .inr (.inr (some 12))], sh, gc_h sh I26 J5 A)
        have f32 := (show 0 ≤ I26 a2 (Int.toNat (I26 74 9)) ∧ I26 a2 (Int.toNat (I26 74 9)) ≤ 95 from gc_in2 hI26 R_a2 rfl rfl rfl)
        refine gv_iald hD rfl S_a2 rfl ⟨by exact gz_m 34 (by omega), B_a2⟩ ⟨by exact gz_m 35 (by omega), by exact gz_m 36 (by omega)⟩ (gc_iI S_a2 rfl) ?_
        show gv_X _ _ (55, [(0, .inr (.inr (some 74))), (2, .inr (.inr (some a2)))], [.inl (I26 a2 (Int.toNat (I26 74 9))), .inr (.inr (some 12))], sh, gc_h sh I26 J5 A)
        have f33 := (gc_b_26 hI26 R_12 (Int.toNat ((I26 a2 (Int.toNat (I26 74 9))))))
        refine gv_iald hD rfl S_12 rfl ⟨by decide, B_12⟩ ⟨by exact gz_m 37 (by omega), by exact gz_m 38 (by omega)⟩ (gc_iI S_12 rfl) ?_
        show gv_X _ _ (56, [(0, .inr (.inr (some 74))), (2, .inr (.inr (some a2)))], [.inl (I26 12 (Int.toNat ((I26 a2 (Int.toNat (I26 74 9))))))], sh, gc_h sh I26 J5 A)
        refine gv_if_ne (t := 72) hD rfl rfl ⟨by exact gz_m 39 (by omega), by exact gz_m 40 (by omega)⟩ (fun c34 => ?_) (fun c34 => ?_)
        · show gv_X _ _ (72, [(0, .inr (.inr (some 74))), (2, .inr (.inr (some a2)))], [], sh, gc_h sh I26 J5 A)
          refine gv_run 3 true hD (pcₚ := 75) (lvₚ := [(0, .inr (.inr (some 74))), (2, .inr (.inr (some a2)))]) (stₚ := [.inr (.inr (some 74)), .inr (.inr (some a2)), .inr (.inr (some 74))]) (hₚ := gc_h sh I26 J5 A) (C := (((True ∧ True) ∧ True) ∧ True)) rfl ⟨⟨⟨trivial, trivial⟩, trivial⟩, trivial⟩ ?_
          have f35 := (gc_b_73_9 hI26 R_74)
          refine gv_get hD rfl rfl S_74 ⟨by decide, B_74⟩ (gc_hI S_74 rfl) ?_
          show gv_X _ _ (78, [(0, .inr (.inr (some 74))), (2, .inr (.inr (some a2)))], [.inl (I26 74 9), .inr (.inr (some a2)), .inr (.inr (some 74))], sh, gc_h sh I26 J5 A)
          have f36 := (show 0 ≤ I26 a2 (Int.toNat (I26 74 9)) ∧ I26 a2 (Int.toNat (I26 74 9)) ≤ 95 from gc_in2 hI26 R_a2 rfl rfl rfl)
          refine gv_iald hD rfl S_a2 rfl ⟨by exact gz_m 41 (by omega), B_a2⟩ ⟨by exact gz_m 42 (by omega), by exact gz_m 43 (by omega)⟩ (gc_iI S_a2 rfl) ?_
          show gv_X _ _ (79, [(0, .inr (.inr (some 74))), (2, .inr (.inr (some a2)))], [.inl (I26 a2 (Int.toNat (I26 74 9))), .inr (.inr (some 74))], sh, gc_h sh I26 J5 A)
          obtain ⟨r37, h37, E37, P37⟩ := d_X7_pickLins (ws0 := ws0) (tb := tb) hws htb sh ro I26 J5 A hI26  a1 σ ς L (I26 74 9) a3 ((I26 a2 (Int.toNat (I26 74 9)))) hb  h_a1 G_a1  ⟨by exact gz_m 44 (by omega), by exact gz_m 45 (by omega)⟩ (gc_OE_z (a := I26 74 9) (by rw [show I26 74 9 = I4 74 9 from by exact gz_m 46 (by omega)]; exact e0_6) (by exact gz_m 47 (by omega)) (by rw [show I26 74 9 = I4 74 9 from by exact gz_m 48 (by omega)]; exact p27) (by rw [show I26 74 9 = I4 74 9 from by exact gz_m 49 (by omega)]; exact q27)) (by exact gz_m 50 (by omega)) (by exact gz_m 51 (by omega)) (gc_Ls_fr x3 ((FI26 a1 13).resolve_left (by exact gz_m 52 (by omega))) (fun q hL hq d k hd => (FI26 (q + d) k).resolve_left (by have := gc_dj_LT hL h_a1; exact gz_m 53 (by omega)))) (gc_LP_fr x4 x3 ((FI26 a1 13).resolve_left (by exact gz_m 54 (by omega))) (fun q hL hq d k hd => (FI26 (q + d) k).resolve_left (by have := gc_dj_LT hL h_a1; exact gz_m 55 (by omega))) (fun k => (FI26 12 k).resolve_left (by exact gz_m 56 (by omega)))) (by exact gz_m 57 (by omega)) (fun k h0 h1 => by rw [show I26 a2 _ = I a2 _ from (FI26 a2 _).resolve_left (by exact gz_m 58 (by omega)), show I26 12 _ = I 12 _ from (FI26 12 _).resolve_left (by exact gz_m 59 (by omega))] at h1; have h9 := (e1_6 (Int.toNat (I26 74 9)) (Int.toNat k) (by exact gz_m 60 (by omega)) (by exact gz_m 61 (by omega)) (by exact gz_m 62 (by omega))); rw [show I26 75 _ = I4 75 _ from p27 75 _ (fun h => absurd h.1 (by first | exact gz_ne rfl | decide)), show Int.toNat (I26 74 9 * 4 + k) = 4 * Int.toNat (I26 74 9) + Int.toNat k from by exact gz_m 63 (by omega)]; exact gz_m 64 (by omega)) (by exact gz_m 65 (by omega)) 
          obtain ⟨I38, J39, rfl, hI38, g37, k37, ⟨rfl, q37⟩⟩ := P37
          have FI38 := gc_frc (W := fun q j => (q = 74 ∧ j = 1) ∨ (q = 74 ∧ j = 9) ∨ q = 22 ∨ q = 75 ∨ q = 76 ∨ q = 77 ∨ q = 78 ∨ q = 79 ∨ q = 80 ∨ q = 81 ∨ q = 82 ∨ q = 83) (V := fun q j => q = 76 ∨ q = 77 ∨ q = 78 ∨ q = 79 ∨ q = 80 ∨ q = 81 ∨ q = 82 ∨ q = 83) FI26 (fun q j h => (h.elim (fun h => (Or.inr (Or.inr (Or.inr (Or.inr (Or.inl h)))))) (fun h => (h.elim (fun h => (Or.inr (Or.inr (Or.inr (Or.inr (Or.inr (Or.inl h))))))) (fun h => (h.elim (fun h => (Or.inr (Or.inr (Or.inr (Or.inr (Or.inr (Or.inr (Or.inl h)))))))) (fun h => (h.elim (fun h => (Or.inr (Or.inr (Or.inr (Or.inr (Or.inr (Or.inr (Or.inr (Or.inl h))))))))) (fun h => (h.elim (fun h => (Or.inr (Or.inr (Or.inr (Or.inr (Or.inr (Or.inr (Or.inr (Or.inr (Or.inl h)))))))))) (fun h => (h.elim (fun h => (Or.inr (Or.inr (Or.inr (Or.inr (Or.inr (Or.inr (Or.inr (Or.inr (Or.inr (Or.inl h))))))))))) (fun h => (h.elim (fun h => (Or.inr (Or.inr (Or.inr (Or.inr (Or.inr (Or.inr (Or.inr (Or.inr (Or.inr (Or.inr (Or.inl h)))))))))))) (fun h => (Or.inr (Or.inr (Or.inr (Or.inr (Or.inr (Or.inr (Or.inr (Or.inr (Or.inr (Or.inr (Or.inr h)))))))))))))))))))))))))) g37
          have t40 := (g37 74 1).resolve_left (fun h => h.elim (fun h => absurd h (by first | exact gz_ne rfl | decide)) (fun h => h.elim (fun h => absurd h (by first | exact gz_ne rfl | decide)) (fun h => h.elim (fun h => absurd h (by first | exact gz_ne rfl | decide)) (fun h => h.elim (fun h => absurd h (by first | exact gz_ne rfl | decide)) (fun h => h.elim (fun h => absurd h (by first | exact gz_ne rfl | decide)) (fun h => h.elim (fun h => absurd h (by first | exact gz_ne rfl | decide)) (fun h => h.elim (fun h => absurd h (by first | exact gz_ne rfl | decide)) (fun h => absurd h (by first | exact gz_ne rfl | decide)))))))))
          have t41 := (g37 74 9).resolve_left (fun h => h.elim (fun h => absurd h (by first | exact gz_ne rfl | decide)) (fun h => h.elim (fun h => absurd h (by first | exact gz_ne rfl | decide)) (fun h => h.elim (fun h => absurd h (by first | exact gz_ne rfl | decide)) (fun h => h.elim (fun h => absurd h (by first | exact gz_ne rfl | decide)) (fun h => h.elim (fun h => absurd h (by first | exact gz_ne rfl | decide)) (fun h => h.elim (fun h => absurd h (by first | exact gz_ne rfl | decide)) (fun h => h.elim (fun h => absurd h (by first | exact gz_ne rfl | decide)) (fun h => absurd h (by first | exact gz_ne rfl | decide)))))))))
          have t42 := (g37 a1 13).resolve_left (fun h => h.elim (fun h => absurd h N_a1__76) (fun h => h.elim (fun h => absurd h N_a1__77) (fun h => h.elim (fun h => absurd h N_a1__78) (fun h => h.elim (fun h => absurd h N_a1__79) (fun h => h.elim (fun h => absurd h N_a1__80) (fun h => h.elim (fun h => absurd h N_a1__81) (fun h => h.elim (fun h => absurd h N_a1__82) (fun h => absurd h N_a1__83))))))))
          obtain rfl : J5 = J39 := funext fun q => funext fun j => ((k37 q j).resolve_left id).symm
          refine gv_callV hD rfl (As := [.inl (I26 a2 (Int.toNat (I26 74 9)))]) (st := []) rfl B_74 S_74 rfl (gc_lV7 hws rfl) (Nat.le_of_ble_eq_true rfl) (gz_Ev_mono (d := 9) (by decide) E37) ?_
          show gv_X _ _ (82, [(0, .inr (.inr (some 74))), (2, .inr (.inr (some a2)))], [], sh, gc_h sh I38 J5 A)
          exact L82 I38 J5 hI38 FI38 FJ5 (by exact gz_m 66 (by omega)) (by rw [show I38 74 9 = I26 74 9 from by exact gz_m 67 (by omega)]; exact q37.1) (gc_cd_fr e1_6 (fun k => (((g37 75 k).resolve_left (by exact gz_m 68 (by omega))).trans (p27 75 k (fun h => absurd h.1 (by exact gz_m 69 (by omega)))))))
        · show gv_X _ _ (59, [(0, .inr (.inr (some 74))), (2, .inr (.inr (some a2)))], [], sh, gc_h sh I26 J5 A)
          refine gv_run 3 true hD (pcₚ := 62) (lvₚ := [(0, .inr (.inr (some 74))), (2, .inr (.inr (some a2)))]) (stₚ := [.inr (.inr (some 74)), .inr (.inr (some a2)), .inr (.inr (some 74))]) (hₚ := gc_h sh I26 J5 A) (C := (((True ∧ True) ∧ True) ∧ True)) rfl ⟨⟨⟨trivial, trivial⟩, trivial⟩, trivial⟩ ?_
          have f43 := (gc_b_73_9 hI26 R_74)
          refine gv_get hD rfl rfl S_74 ⟨by decide, B_74⟩ (gc_hI S_74 rfl) ?_
          show gv_X _ _ (65, [(0, .inr (.inr (some 74))), (2, .inr (.inr (some a2)))], [.inl (I26 74 9), .inr (.inr (some a2)), .inr (.inr (some 74))], sh, gc_h sh I26 J5 A)
          have f44 := (show 0 ≤ I26 a2 (Int.toNat (I26 74 9)) ∧ I26 a2 (Int.toNat (I26 74 9)) ≤ 95 from gc_in2 hI26 R_a2 rfl rfl rfl)
          refine gv_iald hD rfl S_a2 rfl ⟨by exact gz_m 70 (by omega), B_a2⟩ ⟨by exact gz_m 71 (by omega), by exact gz_m 72 (by omega)⟩ (gc_iI S_a2 rfl) ?_
          show gv_X _ _ (66, [(0, .inr (.inr (some 74))), (2, .inr (.inr (some a2)))], [.inl (I26 a2 (Int.toNat (I26 74 9))), .inr (.inr (some 74))], sh, gc_h sh I26 J5 A)
          obtain ⟨r45, h45, E45, P45⟩ := d_X7_pickWords (ws0 := ws0) (tb := tb) hws htb sh ro I26 J5 A hI26  a1 σ ς L (I26 74 9) a3 ((I26 a2 (Int.toNat (I26 74 9)))) hb  h_a1 G_a1  ⟨by exact gz_m 73 (by omega), by exact gz_m 74 (by omega)⟩ (gc_OE_z (a := I26 74 9) (by rw [show I26 74 9 = I4 74 9 from by exact gz_m 75 (by omega)]; exact e0_6) (by exact gz_m 76 (by omega)) (by rw [show I26 74 9 = I4 74 9 from by exact gz_m 77 (by omega)]; exact p27) (by rw [show I26 74 9 = I4 74 9 from by exact gz_m 78 (by omega)]; exact q27)) (by exact gz_m 79 (by omega)) (by exact gz_m 80 (by omega)) (by exact gz_m 81 (by omega)) 
          obtain ⟨I46, J47, rfl, hI46, g45, k45, ⟨rfl, q45⟩⟩ := P45
          have FI46 := gc_frc (W := fun q j => (q = 74 ∧ j = 1) ∨ (q = 74 ∧ j = 9) ∨ q = 22 ∨ q = 75 ∨ q = 76 ∨ q = 77 ∨ q = 78 ∨ q = 79 ∨ q = 80 ∨ q = 81 ∨ q = 82 ∨ q = 83) (V := fun q j => q = 76 ∨ q = 77 ∨ q = 78 ∨ q = 79 ∨ q = 80 ∨ q = 81) FI26 (fun q j h => (h.elim (fun h => (Or.inr (Or.inr (Or.inr (Or.inr (Or.inl h)))))) (fun h => (h.elim (fun h => (Or.inr (Or.inr (Or.inr (Or.inr (Or.inr (Or.inl h))))))) (fun h => (h.elim (fun h => (Or.inr (Or.inr (Or.inr (Or.inr (Or.inr (Or.inr (Or.inl h)))))))) (fun h => (h.elim (fun h => (Or.inr (Or.inr (Or.inr (Or.inr (Or.inr (Or.inr (Or.inr (Or.inl h))))))))) (fun h => (h.elim (fun h => (Or.inr (Or.inr (Or.inr (Or.inr (Or.inr (Or.inr (Or.inr (Or.inr (Or.inl h)))))))))) (fun h => (Or.inr (Or.inr (Or.inr (Or.inr (Or.inr (Or.inr (Or.inr (Or.inr (Or.inr (Or.inl h))))))))))))))))))))) g45
          have t48 := (g45 74 1).resolve_left (fun h => h.elim (fun h => absurd h (by first | exact gz_ne rfl | decide)) (fun h => h.elim (fun h => absurd h (by first | exact gz_ne rfl | decide)) (fun h => h.elim (fun h => absurd h (by first | exact gz_ne rfl | decide)) (fun h => h.elim (fun h => absurd h (by first | exact gz_ne rfl | decide)) (fun h => h.elim (fun h => absurd h (by first | exact gz_ne rfl | decide)) (fun h => absurd h (by first | exact gz_ne rfl | decide)))))))
          have t49 := (g45 74 9).resolve_left (fun h => h.elim (fun h => absurd h (by first | exact gz_ne rfl | decide)) (fun h => h.elim (fun h => absurd h (by first | exact gz_ne rfl | decide)) (fun h => h.elim (fun h => absurd h (by first | exact gz_ne rfl | decide)) (fun h => h.elim (fun h => absurd h (by first | exact gz_ne rfl | decide)) (fun h => h.elim (fun h => absurd h (by first | exact gz_ne rfl | decide)) (fun h => absurd h (by first | exact gz_ne rfl | decide)))))))
          have t50 := (g45 a1 13).resolve_left (fun h => h.elim (fun h => absurd h N_a1__76) (fun h => h.elim (fun h => absurd h N_a1__77) (fun h => h.elim (fun h => absurd h N_a1__78) (fun h => h.elim (fun h => absurd h N_a1__79) (fun h => h.elim (fun h => absurd h N_a1__80) (fun h => absurd h N_a1__81))))))
          obtain rfl : J5 = J47 := funext fun q => funext fun j => ((k45 q j).resolve_left id).symm
          refine gv_callV hD rfl (As := [.inl (I26 a2 (Int.toNat (I26 74 9)))]) (st := []) rfl B_74 S_74 rfl (gc_lV7 hws rfl) (Nat.le_of_ble_eq_true rfl) (gz_Ev_mono (d := 3) (by decide) E45) ?_
          show gv_X _ _ (69, [(0, .inr (.inr (some 74))), (2, .inr (.inr (some a2)))], [], sh, gc_h sh I46 J5 A)
          refine gv_run 1 true hD (pcₚ := 82) (lvₚ := [(0, .inr (.inr (some 74))), (2, .inr (.inr (some a2)))]) (stₚ := []) (hₚ := gc_h sh I46 J5 A) (C := (True ∧ True)) rfl ⟨trivial, trivial⟩ ?_
          exact L82 I46 J5 hI46 FI46 FJ5 (by exact gz_m 82 (by omega)) (by rw [show I46 74 9 = I26 74 9 from by exact gz_m 83 (by omega)]; exact q45.1) (gc_cd_fr e1_6 (fun k => (((g45 75 k).resolve_left (by exact gz_m 84 (by omega))).trans (p27 75 k (fun h => absurd h.1 (by exact gz_m 85 (by omega)))))))
  refine gv_run 2 true hD (pcₚ := 2) (lvₚ := [(0, .inr (.inr (some 74))), (1, .inr (.inr (some a1))), (2, .inr (.inr (some a2))), (3, .inl a3)]) (stₚ := [.inr (.inr (some a1)), .inr (.inr (some 74))]) (hₚ := gc_h sh I J A) (C := ((True ∧ True) ∧ True)) rfl ⟨⟨trivial, trivial⟩, trivial⟩ ?_
  refine gv_put hD rfl rfl S_74 ⟨by decide, B_74⟩ rfl trivial ?_
  refine gc_st5 hI S_74 rfl R_74 (lo := -1) (hi := 999999) rfl rfl (by exact gz_m 86 (by omega)) (by exact gz_m 87 (by omega)) (fun I51 hI51 q52 p52 => ?_)
  have FI51 := gc_frs (W := fun q j => (q = 74 ∧ j = 1) ∨ (q = 74 ∧ j = 9) ∨ q = 22 ∨ q = 75 ∨ q = 76 ∨ q = 77 ∨ q = 78 ∨ q = 79 ∨ q = 80 ∨ q = 81 ∨ q = 82 ∨ q = 83) FI (Or.inl ⟨rfl, rfl⟩) p52
  have t53 := p52 74 9 (fun h => absurd h.2 (by first | exact gz_ne rfl | decide))
  have t54 := p52 a1 13 (fun h => absurd h.2 (by first | exact gz_ne rfl | decide))
  have f55 := (gc_b_73_1 hI51 R_74)
  show gv_X _ _ (5, [(0, .inr (.inr (some 74))), (1, .inr (.inr (some a1))), (2, .inr (.inr (some a2))), (3, .inl a3)], [], sh, gc_h sh I51 J A)
  refine gv_run 1 true hD (pcₚ := 6) (lvₚ := [(0, .inr (.inr (some 74))), (1, .inr (.inr (some a1))), (2, .inr (.inr (some a2))), (3, .inl a3)]) (stₚ := [.inr (.inr (some 74))]) (hₚ := gc_h sh I51 J A) (C := (True ∧ True)) rfl ⟨trivial, trivial⟩ ?_
  refine gv_get hD rfl rfl S_74 ⟨by decide, B_74⟩ (gc_hA S_74 rfl A_74_0) ?_
  show gv_X _ _ (9, [(0, .inr (.inr (some 74))), (1, .inr (.inr (some a1))), (2, .inr (.inr (some a2))), (3, .inl a3)], [.inr (.inr (some 1))], sh, gc_h sh I51 J A)
  refine gv_run 3 true hD (pcₚ := 12) (lvₚ := [(0, .inr (.inr (some 74))), (1, .inr (.inr (some a1))), (2, .inr (.inr (some a2))), (3, .inl a3)]) (stₚ := [.inr (.inr (some 74)), .inl a3, .inr (.inr (some a2)), .inr (.inr (some 1))]) (hₚ := gc_h sh I51 J A) (C := (((True ∧ True) ∧ True) ∧ True)) rfl ⟨⟨⟨trivial, trivial⟩, trivial⟩, trivial⟩ ?_
  refine gv_get hD rfl rfl S_74 ⟨by decide, B_74⟩ (gc_hA S_74 rfl A_74_2) ?_
  show gv_X _ _ (15, [(0, .inr (.inr (some 74))), (1, .inr (.inr (some a1))), (2, .inr (.inr (some a2))), (3, .inl a3)], [.inr (.inr (some 75)), .inl a3, .inr (.inr (some a2)), .inr (.inr (some 1))], sh, gc_h sh I51 J A)
  obtain ⟨r56, h56, E56, P56⟩ := d_X8_findChildren_w (ws0 := ws0) (tb := tb) hws htb sh ro I51 J A hI51  m 240 a2 a3 75 hb S_a2 R_a2 B_a2 (by exact gz_m 88 (by omega)) S_75 R_75 B_75 (by decide)  ⟨by exact gz_m 89 (by omega), by exact gz_m 90 (by omega)⟩ (gc_wtr_fr x0 (fun k => (p52 12 k (fun h => absurd h.1 (by exact gz_m 91 (by omega))))) (fun k => (p52 a2 k (fun h => absurd h.1 (by exact gz_m 92 (by omega)))))) (by exact gz_m 93 (by omega)) (by exact gz_m 94 (by omega)) (by exact gz_m 95 (by omega)) (by exact gz_m 96 (by omega)) 
  obtain ⟨I57, J58, rfl, hI57, g56, k56, ⟨rfl, q56⟩⟩ := P56
  have FI57 := gc_frc (W := fun q j => (q = 74 ∧ j = 1) ∨ (q = 74 ∧ j = 9) ∨ q = 22 ∨ q = 75 ∨ q = 76 ∨ q = 77 ∨ q = 78 ∨ q = 79 ∨ q = 80 ∨ q = 81 ∨ q = 82 ∨ q = 83) (V := fun q j => q = 75 ∨ q = 22) FI51 (fun q j h => (h.elim (fun h => (Or.inr (Or.inr (Or.inr (Or.inl h))))) (fun h => (Or.inr (Or.inr (Or.inl h)))))) g56
  have t59 := (g56 74 1).resolve_left (fun h => h.elim (fun h => absurd h (by first | exact gz_ne rfl | decide)) (fun h => absurd h (by first | exact gz_ne rfl | decide)))
  have t60 := (g56 74 9).resolve_left (fun h => h.elim (fun h => absurd h (by first | exact gz_ne rfl | decide)) (fun h => absurd h (by first | exact gz_ne rfl | decide)))
  have t61 := (g56 a1 13).resolve_left (fun h => h.elim (fun h => absurd h N_a1__75) (fun h => absurd h N_a1__22))
  obtain rfl : J = J58 := funext fun q => funext fun j => ((k56 q j).resolve_left id).symm
  refine gv_callV hD rfl (As := [.inr (.inr (some a2)), .inl a3, .inr (.inr (some 75))]) (st := []) rfl B_1 S_1 rfl (gc_lV7 hws rfl) (Nat.le_of_ble_eq_true rfl) (gz_Ev_mono (d := 1) (by decide) E56) ?_
  show gv_X _ _ (18, [(0, .inr (.inr (some 74))), (1, .inr (.inr (some a1))), (2, .inr (.inr (some a2))), (3, .inl a3)], [], sh, gc_h sh I57 J A)
  refine gv_run 4 true hD (pcₚ := 22) (lvₚ := [(0, .inr (.inr (some 74))), (1, .inr (.inr (some a1))), (2, .inr (.inr (some a2))), (3, .inl a3)]) (stₚ := [.inl (a3 - 1), .inr (.inr (some 74))]) (hₚ := gc_h sh I57 J A) (C := ((((True ∧ True) ∧ True) ∧ True) ∧ True)) rfl ⟨⟨⟨⟨trivial, trivial⟩, trivial⟩, trivial⟩, trivial⟩ ?_
  refine gv_put hD rfl rfl S_74 ⟨by decide, B_74⟩ rfl trivial ?_
  refine gc_st (k := 9) hI57 S_74 rfl R_74 (lo := (-1)) (hi := 59) rfl rfl (by exact gz_m 97 (by omega)) (by exact gz_m 98 (by omega)) (fun I62 hI62 q63 p63 => ?_)
  have FI62 := gc_frs (W := fun q j => (q = 74 ∧ j = 1) ∨ (q = 74 ∧ j = 9) ∨ q = 22 ∨ q = 75 ∨ q = 76 ∨ q = 77 ∨ q = 78 ∨ q = 79 ∨ q = 80 ∨ q = 81 ∨ q = 82 ∨ q = 83) FI57 (Or.inr (Or.inl ⟨rfl, rfl⟩)) p63
  have t64 := p63 74 1 (fun h => absurd h.2 (by first | exact gz_ne rfl | decide))
  have t65 := p63 a1 13 (fun h => absurd h.2 (by first | exact gz_ne rfl | decide))
  have f66 := (gc_b_73_9 hI62 R_74)
  show gv_X _ _ (25, [(0, .inr (.inr (some 74))), (1, .inr (.inr (some a1))), (2, .inr (.inr (some a2))), (3, .inl a3)], [], sh, gc_h sh I62 J A)
  refine gv_pick [0, 2] rfl ?_
  exact L25 _ I62 J (Nat.lt_succ_self _) hI62 FI62 FJ (by exact gz_m 99 (by omega)) (fun e h1 h2 h4 h5 => by exact gz_m 100 (by omega)) (gc_cd_fr (gc_cd_0 q56 (fun k => p52 12 k (fun h => absurd h.1 (by first | exact gz_ne rfl | decide))) (fun k => p52 a2 k (fun h => absurd h.1 (by exact gz_m 101 (by omega))))) (fun k => (p63 75 k (fun h => absurd h.1 (by exact gz_m 102 (by omega))))))
