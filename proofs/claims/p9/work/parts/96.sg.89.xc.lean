set_option maxHeartbeats 8000000 in
set_option maxRecDepth 100000 in
theorem d_X12_sounds {ws0 : List Cond} {tb : String → gz_T} (hws : gc_Ws ws0) (htb : gc_tbs tb) (sh : gz_Sh) (ro : Nat → Nat) (I : gr_I) (J : gr_J) (A : gc_A) (hI : gc_Inv ro I) (t : Nat) (a1 : Int) (hb : gc_Base sh ro A) (h_t : gc_isTongue sh ro A t) (G_t : 144 ≤ t) (ha1 : 0 ≤ a1 ∧ a1 ≤ 7) (x0 : 0 ≤ a1 ∧ a1 < I 8 1) (x1 : A 10 (Int.toNat a1) = some t) (x2 : gc_sc (t + 10) I) : ∃ r hₚ, gz_Ev ws0 tb 6 (yX12_sounds, cX12_sounds, 4, (some .int)) [.inr (.inr (some 0)), .inl a1] sh (gc_h sh I J A) r sh hₚ 0 0 ∧ (∃ (Iₚ : gr_I) (Jₚ : gr_J), hₚ = gc_h sh Iₚ Jₚ A ∧ gc_Inv ro Iₚ ∧ (∀ q j : Nat, ((q = 27 ∧ j = 1) ∨ q = 28 ∨ (q = 23 ∧ j = 1) ∨ (q = (t + 17) ∧ j = 6) ∨ (q = (t + 17) ∧ j = 7) ∨ q = (t + 23) ∨ q = (t + 24)) ∨ Iₚ q j = I q j) ∧ (∀ q j : Nat, (False) ∨ Jₚ q j = J q j) ∧ (∃ z : Int, r = some (.inl z) ∧ (-3) ≤ z ∧ z ≤ 24 ∧ (Iₚ 23 1 = 0) ∧ (I (t + 17) 6 = I (t + 17) 7 ∨ ¬ Iₚ (t + 17) 6 = Iₚ (t + 17) 7))) := by
  have FI : ∀ q j : Nat, ((q = 27 ∧ j = 1) ∨ q = 28 ∨ (q = 23 ∧ j = 1) ∨ (q = (t + 17) ∧ j = 6) ∨ (q = (t + 17) ∧ j = 7) ∨ q = (t + 23) ∨ q = (t + 24)) ∨ I q j = I q j := fun _ _ => Or.inr rfl
  have FJ : ∀ q j : Nat, (False) ∨ J q j = J q j := fun _ _ => Or.inr rfl
  have A_0_1 : A 0 1 = some 23 := gc_bA_0_1 hb
  have A_0_2 : A 0 2 = some 27 := gc_bA_0_2 hb
  have B_0 := gz_hi (show 0 < 1000000 from by decide)
  have B_23 := gz_hi (show 23 < 1000000 from by decide)
  have B_27 := gz_hi (show 27 < 1000000 from by decide)
  have R_23 := gz_hi (show ro 23 = 3 from gc_bR_23 hb)
  have R_27 := gz_hi (show ro 27 = 3 from gc_bR_27 hb)
  have S_0 : sh[0]? = some (false, 12, 17) := gc_bS_0 hb
  have S_23 : sh[23]? = some (false, 9, 10) := gc_bS_23 hb
  have S_27 : sh[27]? = some (false, 9, 10) := gc_bS_27 hb
  obtain ⟨S_t, R_t, B_t, A_t_0, h_t_1, A_t_1, h_t_3, A_t_2, S_t_5, R_t_5, B_t_5, A_t_3, S_t_6, R_t_6, B_t_6, A_t_4, h_t_7, A_t_5, S_t_9, R_t_9, B_t_9, A_t_7, S_t_10, R_t_10, B_t_10, A_t_8, h_t_11, A_t_9, S_t_13, R_t_13, B_t_13, A_t_10, S_t_14, R_t_14, B_t_14, A_t_12, S_t_15, R_t_15, B_t_15, A_t_14, S_t_16, R_t_16, B_t_16, A_t_15, h_t_17⟩ := id h_t
  replace R_t := gz_hi R_t
  replace B_t := gz_hi B_t
  replace R_t_5 := gz_hi R_t_5
  replace B_t_5 := gz_hi B_t_5
  replace R_t_6 := gz_hi R_t_6
  replace B_t_6 := gz_hi B_t_6
  replace R_t_9 := gz_hi R_t_9
  replace B_t_9 := gz_hi B_t_9
  replace R_t_10 := gz_hi R_t_10
  replace B_t_10 := gz_hi B_t_10
  replace R_t_13 := gz_hi R_t_13
  replace B_t_13 := gz_hi B_t_13
  replace R_t_14 := gz_hi R_t_14
  replace B_t_14 := gz_hi B_t_14
  replace R_t_15 := gz_hi R_t_15
  replace B_t_15 := gz_hi B_t_15
  replace R_t_16 := gz_hi R_t_16
  replace B_t_16 := gz_hi B_t_16
  obtain ⟨S_t_1, R_t_1, B_t_1, A_t_1_0, S_t_1_1, R_t_1_1, B_t_1_1, Q0_t_1, Q1_t_1, Q2_t_1⟩ := id h_t_1
  replace R_t_1 := gz_hi R_t_1
  replace B_t_1 := gz_hi B_t_1
  replace R_t_1_1 := gz_hi R_t_1_1
  replace B_t_1_1 := gz_hi B_t_1_1
  obtain ⟨S_t_3, R_t_3, B_t_3, A_t_3_0, S_t_3_1, R_t_3_1, B_t_3_1, Q0_t_3, Q1_t_3, Q2_t_3⟩ := id h_t_3
  replace R_t_3 := gz_hi R_t_3
  replace B_t_3 := gz_hi B_t_3
  replace R_t_3_1 := gz_hi R_t_3_1
  replace B_t_3_1 := gz_hi B_t_3_1
  obtain ⟨S_t_7, R_t_7, B_t_7, A_t_7_0, S_t_7_1, R_t_7_1, B_t_7_1, Q0_t_7, Q1_t_7, Q2_t_7⟩ := id h_t_7
  replace R_t_7 := gz_hi R_t_7
  replace B_t_7 := gz_hi B_t_7
  replace R_t_7_1 := gz_hi R_t_7_1
  replace B_t_7_1 := gz_hi B_t_7_1
  obtain ⟨S_t_11, R_t_11, B_t_11, A_t_11_0, S_t_11_1, R_t_11_1, B_t_11_1, Q0_t_11, Q1_t_11, Q2_t_11⟩ := id h_t_11
  replace R_t_11 := gz_hi R_t_11
  replace B_t_11 := gz_hi B_t_11
  replace R_t_11_1 := gz_hi R_t_11_1
  replace B_t_11_1 := gz_hi B_t_11_1
  obtain ⟨S_t_17, R_t_17, B_t_17, A_t_17_0, S_20, R_20, B_20, A_t_17_1, S_t_17_1, R_t_17_1, B_t_17_1, A_t_17_2, S_t_17_2, R_t_17_2, B_t_17_2, A_t_17_3, S_t_17_3, R_t_17_3, B_t_17_3, A_t_17_4, S_t_17_4, R_t_17_4, B_t_17_4, A_t_17_5, S_t_17_5, R_t_17_5, B_t_17_5, S_t_17_6, R_t_17_6, B_t_17_6, S_t_17_7, R_t_17_7, B_t_17_7⟩ := id h_t_17
  replace R_t_17 := gz_hi R_t_17
  replace B_t_17 := gz_hi B_t_17
  replace R_20 := gz_hi R_20
  replace B_20 := gz_hi B_20
  replace R_t_17_1 := gz_hi R_t_17_1
  replace B_t_17_1 := gz_hi B_t_17_1
  replace R_t_17_2 := gz_hi R_t_17_2
  replace B_t_17_2 := gz_hi B_t_17_2
  replace R_t_17_3 := gz_hi R_t_17_3
  replace B_t_17_3 := gz_hi B_t_17_3
  replace R_t_17_4 := gz_hi R_t_17_4
  replace B_t_17_4 := gz_hi B_t_17_4
  replace R_t_17_5 := gz_hi R_t_17_5
  replace B_t_17_5 := gz_hi B_t_17_5
  replace R_t_17_6 := gz_hi R_t_17_6
  replace B_t_17_6 := gz_hi B_t_17_6
  replace R_t_17_7 := gz_hi R_t_17_7
  replace B_t_17_7 := gz_hi B_t_17_7
  have hD : gv_D (gc_E12 ws0 tb 5 (yX12_sounds, cX12_sounds, 4, (some .int)) kX12_sounds) := gq_of oX12_sounds
  refine gc_ev12 (d := 5) (l := kX12_sounds) (Po := fun r hₚ => (∃ (Iₚ : gr_I) (Jₚ : gr_J), hₚ = gc_h sh Iₚ Jₚ A ∧ gc_Inv ro Iₚ ∧ (∀ q j : Nat, ((q = 27 ∧ j = 1) ∨ q = 28 ∨ (q = 23 ∧ j = 1) ∨ (q = (t + 17) ∧ j = 6) ∨ (q = (t + 17) ∧ j = 7) ∨ q = (t + 23) ∨ q = (t + 24)) ∨ Iₚ q j = I q j) ∧ (∀ q j : Nat, (False) ∨ Jₚ q j = J q j) ∧ (∃ z : Int, r = some (.inl z) ∧ (-3) ≤ z ∧ z ≤ 24 ∧ (Iₚ 23 1 = 0) ∧ (I (t + 17) 6 = I (t + 17) 7 ∨ ¬ Iₚ (t + 17) 6 = Iₚ (t + 17) 7)))) htb rfl (Nat.le_of_ble_eq_true rfl) ?_
  have N_t_17__28 := gz_hi (show ¬ ((t + 17) = 28) from by (/-0-/first | (have o1 := gz_sh B_t; have o2 := gz_sh B_t_10; have o3 := gz_sh B_t_13; have o4 := gz_sh B_t_14; have o5 := gz_sh B_t_15; have o6 := gz_sh B_t_16; have o7 := gz_sh B_t_17; have o8 := gz_sh B_t_17_1; have o9 := gz_sh B_t_17_2; have o10 := gz_sh B_t_17_3; have o11 := gz_sh B_t_17_4; have o12 := gz_sh B_t_17_5; have o13 := gz_sh B_t_17_6; have o14 := gz_sh B_t_17_7; have o15 := gz_sh B_t_5; have o16 := gz_sh B_t_6; have o17 := gz_sh B_t_9; omega) | (simp only [gz_hd] at *; omega)))
  have N_23__t_23 := gz_hi (show ¬ (23 = (t + 23)) from by (/-1-/first | (have o1 := gz_sh B_t; have o2 := gz_sh B_t_10; have o3 := gz_sh B_t_13; have o4 := gz_sh B_t_14; have o5 := gz_sh B_t_15; have o6 := gz_sh B_t_16; have o7 := gz_sh B_t_17; have o8 := gz_sh B_t_17_1; have o9 := gz_sh B_t_17_2; have o10 := gz_sh B_t_17_3; have o11 := gz_sh B_t_17_4; have o12 := gz_sh B_t_17_5; have o13 := gz_sh B_t_17_6; have o14 := gz_sh B_t_17_7; have o15 := gz_sh B_t_5; have o16 := gz_sh B_t_6; have o17 := gz_sh B_t_9; omega) | (simp only [gz_hd] at *; omega)))
  have N_23__t_24 := gz_hi (show ¬ (23 = (t + 24)) from by (/-2-/first | (have o1 := gz_sh B_t; have o2 := gz_sh B_t_10; have o3 := gz_sh B_t_13; have o4 := gz_sh B_t_14; have o5 := gz_sh B_t_15; have o6 := gz_sh B_t_16; have o7 := gz_sh B_t_17; have o8 := gz_sh B_t_17_1; have o9 := gz_sh B_t_17_2; have o10 := gz_sh B_t_17_3; have o11 := gz_sh B_t_17_4; have o12 := gz_sh B_t_17_5; have o13 := gz_sh B_t_17_6; have o14 := gz_sh B_t_17_7; have o15 := gz_sh B_t_5; have o16 := gz_sh B_t_6; have o17 := gz_sh B_t_9; omega) | (simp only [gz_hd] at *; omega)))
  have f1 := gz_hi ((gc_b_3_1 hI (gz_sh R_23)))
  have L40 : ∀ (I4 : gr_I) (J5 : gr_J) (v3_6 : Int), gc_Inv ro I4 → (∀ q j : Nat, ((q = 27 ∧ j = 1) ∨ q = 28 ∨ (q = 23 ∧ j = 1) ∨ (q = (t + 17) ∧ j = 6) ∨ (q = (t + 17) ∧ j = 7) ∨ q = (t + 23) ∨ q = (t + 24)) ∨ I4 q j = I q j) → (∀ q j : Nat, (False) ∨ J5 q j = J q j) → (((-3) ≤ v3_6 ∧ v3_6 ≤ 24) ∧ (I (t + 17) 6 = I (t + 17) 7 ∨ ¬ I4 (t + 17) 6 = I4 (t + 17) 7)) → gv_X (gc_E12 ws0 tb 5 (yX12_sounds, cX12_sounds, 4, (some .int)) kX12_sounds) (gv_Q cX12_sounds (some .int) sh (fun r hₚ => (∃ (Iₚ : gr_I) (Jₚ : gr_J), hₚ = gc_h sh Iₚ Jₚ A ∧ gc_Inv ro Iₚ ∧ (∀ q j : Nat, ((q = 27 ∧ j = 1) ∨ q = 28 ∨ (q = 23 ∧ j = 1) ∨ (q = (t + 17) ∧ j = 6) ∨ (q = (t + 17) ∧ j = 7) ∨ q = (t + 23) ∨ q = (t + 24)) ∨ Iₚ q j = I q j) ∧ (∀ q j : Nat, (False) ∨ Jₚ q j = J q j) ∧ (∃ z : Int, r = some (.inl z) ∧ (-3) ≤ z ∧ z ≤ 24 ∧ (Iₚ 23 1 = 0) ∧ (I (t + 17) 6 = I (t + 17) 7 ∨ ¬ Iₚ (t + 17) 6 = Iₚ (t + 17) 7))))) (40, [(0, .inr (.inr (some 0))), (2, .inr (.inr (some t))), (3, .inl v3_6)], [], sh, gc_h sh I4 J5 A) := by
    intro I4 J5 v3_6 hI4 FI4 FJ5 m_6
    obtain ⟨hv3_6, e0_6⟩ := gz_h2 m_6
    have f9 := gz_hi ((show 0 ≤ I4 (t + 17) 7 ∧ I4 (t + 17) 7 ≤ 1 from gc_in2 hI4 (gz_sh R_t_17) rfl rfl rfl))
    have L68 : ∀ (I10 : gr_I) (J11 : gr_J) , gc_Inv ro I10 → (∀ q j : Nat, ((q = 27 ∧ j = 1) ∨ q = 28 ∨ (q = 23 ∧ j = 1) ∨ (q = (t + 17) ∧ j = 6) ∨ (q = (t + 17) ∧ j = 7) ∨ q = (t + 23) ∨ q = (t + 24)) ∨ I10 q j = I q j) → (∀ q j : Nat, (False) ∨ J11 q j = J q j) → (((-3) ≤ v3_6 ∧ v3_6 ≤ 24) ∧ (I10 23 1 = 0) ∧ (I (t + 17) 6 = I (t + 17) 7 ∨ ¬ I10 (t + 17) 6 = I10 (t + 17) 7)) → gv_X (gc_E12 ws0 tb 5 (yX12_sounds, cX12_sounds, 4, (some .int)) kX12_sounds) (gv_Q cX12_sounds (some .int) sh (fun r hₚ => (∃ (Iₚ : gr_I) (Jₚ : gr_J), hₚ = gc_h sh Iₚ Jₚ A ∧ gc_Inv ro Iₚ ∧ (∀ q j : Nat, ((q = 27 ∧ j = 1) ∨ q = 28 ∨ (q = 23 ∧ j = 1) ∨ (q = (t + 17) ∧ j = 6) ∨ (q = (t + 17) ∧ j = 7) ∨ q = (t + 23) ∨ q = (t + 24)) ∨ Iₚ q j = I q j) ∧ (∀ q j : Nat, (False) ∨ Jₚ q j = J q j) ∧ (∃ z : Int, r = some (.inl z) ∧ (-3) ≤ z ∧ z ≤ 24 ∧ (Iₚ 23 1 = 0) ∧ (I (t + 17) 6 = I (t + 17) 7 ∨ ¬ Iₚ (t + 17) 6 = Iₚ (t + 17) 7))))) (68, [(3, .inl v3_6)], [], sh, gc_h sh I10 J11 A) := by
      intro I10 J11 hI10 FI10 FJ11 m_12
      clear hv3_6 e0_6 f9
      obtain ⟨hv3_6_12, e0_12, e1_12⟩ := gz_h3 m_12
      refine gv_run 1 true hD (pcₚ := 69) (lvₚ := [(3, .inl v3_6)]) (stₚ := [.inl v3_6]) (hₚ := gc_h sh I10 J11 A) (C := (True ∧ True)) rfl ⟨trivial, trivial⟩ ?_
      exact gv_iret hD rfl ⟨I10, J11, rfl, hI10, FI10, FJ11, ⟨_, rfl, by (/-3-/first | (and_intros; (have o1 := gz_sh hv3_6_12; omega); (have o1 := gz_sh hv3_6_12; omega); (have o1 := gz_sh e0_12; omega); (have o1 := gz_sh e1_12; omega)) | (simp only [gz_hd] at *; omega))⟩⟩
    refine gv_run 1 true hD (pcₚ := 41) (lvₚ := [(0, .inr (.inr (some 0))), (2, .inr (.inr (some t))), (3, .inl v3_6)]) (stₚ := [.inr (.inr (some 0))]) (hₚ := gc_h sh I4 J5 A) (C := (True ∧ True)) rfl ⟨trivial, trivial⟩ ?_
    refine gv_get hD rfl rfl S_0 ⟨by decide, (gz_sh B_0)⟩ (gc_hA S_0 rfl A_0_1) ?_
    show gv_X _ _ (44, [(0, .inr (.inr (some 0))), (2, .inr (.inr (some t))), (3, .inl v3_6)], [.inr (.inr (some 23))], sh, gc_h sh I4 J5 A)
    refine gv_run 1 true hD (pcₚ := 45) (lvₚ := [(0, .inr (.inr (some 0))), (2, .inr (.inr (some t))), (3, .inl v3_6)]) (stₚ := [.inl 0, .inr (.inr (some 23))]) (hₚ := gc_h sh I4 J5 A) (C := (True ∧ True)) rfl ⟨trivial, trivial⟩ ?_
    refine gv_put hD rfl rfl S_23 ⟨by decide, (gz_sh B_23)⟩ rfl trivial ?_
    refine gc_st (k := 1) hI4 S_23 rfl (gz_sh R_23) (lo := 0) (hi := 1000) rfl rfl (by (/-4-/first | omega | (simp only [gz_hd] at *; omega))) (by (/-5-/first | omega | (simp only [gz_hd] at *; omega))) (fun I16 hI16 q17 p17 => ?_)
    have FI16 := gc_frs (W := fun q j => (q = 27 ∧ j = 1) ∨ q = 28 ∨ (q = 23 ∧ j = 1) ∨ (q = (t + 17) ∧ j = 6) ∨ (q = (t + 17) ∧ j = 7) ∨ q = (t + 23) ∨ q = (t + 24)) FI4 (Or.inr (Or.inr (Or.inl ⟨rfl, rfl⟩))) p17
    have t18 := gz_hi (p17 (t + 17) 6 (fun h => absurd h.2 (by first | exact gz_ne rfl | decide)))
    have t19 := gz_hi (p17 (t + 17) 7 (fun h => absurd h.2 (by first | exact gz_ne rfl | decide)))
    show gv_X _ _ (48, [(0, .inr (.inr (some 0))), (2, .inr (.inr (some t))), (3, .inl v3_6)], [], sh, gc_h sh I16 J5 A)
    refine gv_run 1 true hD (pcₚ := 49) (lvₚ := [(0, .inr (.inr (some 0))), (2, .inr (.inr (some t))), (3, .inl v3_6)]) (stₚ := [.inl v3_6]) (hₚ := gc_h sh I16 J5 A) (C := (True ∧ True)) rfl ⟨trivial, trivial⟩ ?_
    refine gv_if_le (t := 68) hD rfl rfl ⟨by (/-6-/first | (have o1 := gz_sh hv3_6; omega) | (simp only [gz_hd] at *; omega)), by (/-7-/first | (have o1 := gz_sh hv3_6; omega) | (simp only [gz_hd] at *; omega))⟩ (fun c21 => ?_) (fun c21 => ?_)
    · show gv_X _ _ (68, [(0, .inr (.inr (some 0))), (2, .inr (.inr (some t))), (3, .inl v3_6)], [], sh, gc_h sh I16 J5 A)
      refine gv_pick [2] rfl ?_
      exact L68 I16 J5 hI16 FI16 FJ5 (by (/-8-/first | (and_intros; (have o1 := gz_sh hv3_6; omega); (omega); (omega); (have o1 := gz_sh e0_6; have o2 := gz_sh t18; have o3 := gz_sh t19; omega)) | (simp only [gz_hd] at *; omega)))
    · show gv_X _ _ (52, [(0, .inr (.inr (some 0))), (2, .inr (.inr (some t))), (3, .inl v3_6)], [], sh, gc_h sh I16 J5 A)
      refine gv_run 1 true hD (pcₚ := 53) (lvₚ := [(0, .inr (.inr (some 0))), (2, .inr (.inr (some t))), (3, .inl v3_6)]) (stₚ := [.inr (.inr (some 0))]) (hₚ := gc_h sh I16 J5 A) (C := (True ∧ True)) rfl ⟨trivial, trivial⟩ ?_
      refine gv_get hD rfl rfl S_0 ⟨by decide, (gz_sh B_0)⟩ (gc_hA S_0 rfl A_0_2) ?_
      show gv_X _ _ (56, [(0, .inr (.inr (some 0))), (2, .inr (.inr (some t))), (3, .inl v3_6)], [.inr (.inr (some 27))], sh, gc_h sh I16 J5 A)
      refine gv_run 1 true hD (pcₚ := 57) (lvₚ := [(0, .inr (.inr (some 0))), (2, .inr (.inr (some t))), (3, .inl v3_6)]) (stₚ := [.inr (.inr (some t)), .inr (.inr (some 27))]) (hₚ := gc_h sh I16 J5 A) (C := (True ∧ True)) rfl ⟨trivial, trivial⟩ ?_
      refine gv_get hD rfl rfl S_t ⟨by decide, (gz_sh B_t)⟩ (gc_hA S_t rfl A_t_15) ?_
      show gv_X _ _ (60, [(0, .inr (.inr (some 0))), (2, .inr (.inr (some t))), (3, .inl v3_6)], [.inr (.inr (some (t + 17))), .inr (.inr (some 27))], sh, gc_h sh I16 J5 A)
      obtain ⟨f22_, hq_f22_, S_f22, R_f22, B_f22, D_f22⟩ := gc_sw (p := (t + 17)) (d := 6) (s := 1) (z := I16 (t + 17) 6) (show 0 ≤ I16 (t + 17) 6 ∧ I16 (t + 17) 6 ≤ 1 from gc_in2 hI16 (gz_sh R_t_17) rfl rfl rfl) S_t_17_6 (gz_sh R_t_17_6) (gz_sh B_t_17_6) S_t_17_7 (gz_sh R_t_17_7) (gz_sh B_t_17_7)
      refine gv_get hD rfl rfl S_t_17 ⟨by decide, (gz_sh B_t_17)⟩ (gc_hS (n := 6) S_t_17 rfl hq_f22_) ?_
      show gv_X _ _ (63, [(0, .inr (.inr (some 0))), (2, .inr (.inr (some t))), (3, .inl v3_6)], [.inr (.inr (some f22_)), .inr (.inr (some 27))], sh, gc_h sh I16 J5 A)
      refine gv_run 2 true hD (pcₚ := 65) (lvₚ := [(0, .inr (.inr (some 0))), (2, .inr (.inr (some t))), (3, .inl v3_6)]) (stₚ := [.inl v3_6, .inl 0, .inr (.inr (some f22_)), .inr (.inr (some 27))]) (hₚ := gc_h sh I16 J5 A) (C := ((True ∧ True) ∧ True)) rfl ⟨⟨trivial, trivial⟩, trivial⟩ ?_
      obtain ⟨r24, h24, E24, P24⟩ := d_X9_putBytes (ws0 := ws0) (tb := tb) hws htb sh ro I16 J5 A hI16 27 24 f22_ 0 v3_6 (gc_b27 hb) S_f22 R_f22 B_f22 (by decide)  ⟨by (/-9-/first | omega | (simp only [gz_hd] at *; omega)), by (/-10-/first | omega | (simp only [gz_hd] at *; omega))⟩ ⟨by (/-11-/first | omega | (simp only [gz_hd] at *; omega)), by (/-12-/first | (have o1 := gz_sh hv3_6; omega) | (simp only [gz_hd] at *; omega))⟩  
      obtain ⟨I25, J26, rfl, hI25, g24, k24, rfl⟩ := P24
      have FI25 := gc_frc (W := fun q j => (q = 27 ∧ j = 1) ∨ q = 28 ∨ (q = 23 ∧ j = 1) ∨ (q = (t + 17) ∧ j = 6) ∨ (q = (t + 17) ∧ j = 7) ∨ q = (t + 23) ∨ q = (t + 24)) (V := fun q j => (q = 27 ∧ j = 1) ∨ q = 28) FI16 (fun q j h => (h.elim (fun h => (Or.inl h)) (fun h => (Or.inr (Or.inl h))))) g24
      have t27 := gz_hi ((g24 23 1).resolve_left (fun h => h.elim (fun h => absurd h.1 (by first | exact gz_ne rfl | decide)) (fun h => absurd h (by first | exact gz_ne rfl | decide))))
      have t28 := gz_hi ((g24 (t + 17) 6).resolve_left (fun h => h.elim (fun h => absurd h.2 (by first | exact gz_ne rfl | decide)) (fun h => absurd h (gz_sh N_t_17__28))))
      have t29 := gz_hi ((g24 (t + 17) 7).resolve_left (fun h => h.elim (fun h => absurd h.2 (by first | exact gz_ne rfl | decide)) (fun h => absurd h (gz_sh N_t_17__28))))
      obtain rfl : J5 = J26 := funext fun q => funext fun j => ((k24 q j).resolve_left id).symm
      refine gv_callV hD rfl (As := [.inr (.inr (some f22_)), .inl 0, .inl v3_6]) (st := []) rfl (gz_sh B_27) S_27 rfl (gc_lV12 hws rfl) (Nat.le_of_ble_eq_true rfl) (gz_Ev_mono (d := 2) (by decide) E24) ?_
      show gv_X _ _ (68, [(0, .inr (.inr (some 0))), (2, .inr (.inr (some t))), (3, .inl v3_6)], [], sh, gc_h sh I25 J5 A)
      refine gv_pick [2] rfl ?_
      exact L68 I25 J5 hI25 FI25 FJ5 (by (/-13-/first | (and_intros; (omega); (have o1 := gz_sh hv3_6; omega); (have o1 := gz_sh t27; omega); (have o1 := gz_sh e0_6; have o2 := gz_sh t18; have o3 := gz_sh t19; have o4 := gz_sh t28; have o5 := gz_sh t29; omega)) | (simp only [gz_hd] at *; omega)))
  refine gv_run 2 true hD (pcₚ := 2) (lvₚ := [(0, .inr (.inr (some 0))), (1, .inl a1)]) (stₚ := [.inl a1, .inr (.inr (some 0))]) (hₚ := gc_h sh I J A) (C := ((True ∧ True) ∧ True)) rfl ⟨⟨trivial, trivial⟩, trivial⟩ ?_
  refine gv_callV hD rfl (As := [.inl a1]) (st := []) rfl (gz_sh B_0) S_0 rfl (gc_lV12 hws rfl) (Nat.le_of_ble_eq_true rfl) (gz_Ev_mono (d := 1) (by decide) (d_X12_tongueAt hws htb (J := J) hI hb (by (/-14-/first | omega | (simp only [gz_hd] at *; omega))) (by (/-15-/first | omega | (simp only [gz_hd] at *; omega))) x1)) ?_
  show gv_X _ _ (5, [(0, .inr (.inr (some 0))), (1, .inl a1)], [.inr (.inr (some t))], sh, gc_h sh I J A)
  refine gv_run 2 true hD (pcₚ := 7) (lvₚ := [(2, .inr (.inr (some t))), (0, .inr (.inr (some 0))), (1, .inl a1)]) (stₚ := [.inr (.inr (some 0))]) (hₚ := gc_h sh I J A) (C := ((True ∧ True) ∧ True)) rfl ⟨⟨trivial, trivial⟩, trivial⟩ ?_
  refine gv_get hD rfl rfl S_0 ⟨by decide, (gz_sh B_0)⟩ (gc_hA S_0 rfl A_0_2) ?_
  show gv_X _ _ (10, [(2, .inr (.inr (some t))), (0, .inr (.inr (some 0))), (1, .inl a1)], [.inr (.inr (some 27))], sh, gc_h sh I J A)
  refine gv_run 1 true hD (pcₚ := 11) (lvₚ := [(2, .inr (.inr (some t))), (0, .inr (.inr (some 0))), (1, .inl a1)]) (stₚ := [.inl 0, .inr (.inr (some 27))]) (hₚ := gc_h sh I J A) (C := (True ∧ True)) rfl ⟨trivial, trivial⟩ ?_
  refine gv_put hD rfl rfl S_27 ⟨by decide, (gz_sh B_27)⟩ rfl trivial ?_
  refine gc_st (k := 1) hI S_27 rfl (gz_sh R_27) (lo := 0) (hi := 1000) rfl rfl (by (/-16-/first | omega | (simp only [gz_hd] at *; omega))) (by (/-17-/first | omega | (simp only [gz_hd] at *; omega))) (fun I31 hI31 q32 p32 => ?_)
  have FI31 := gc_frs (W := fun q j => (q = 27 ∧ j = 1) ∨ q = 28 ∨ (q = 23 ∧ j = 1) ∨ (q = (t + 17) ∧ j = 6) ∨ (q = (t + 17) ∧ j = 7) ∨ q = (t + 23) ∨ q = (t + 24)) FI (Or.inl ⟨rfl, rfl⟩) p32
  have t33 := gz_hi (p32 23 1 (fun h => absurd h.1 (by first | exact gz_ne rfl | decide)))
  have t34 := gz_hi (p32 (t + 17) 6 (fun h => absurd h.2 (by first | exact gz_ne rfl | decide)))
  have t35 := gz_hi (p32 (t + 17) 7 (fun h => absurd h.2 (by first | exact gz_ne rfl | decide)))
  show gv_X _ _ (14, [(2, .inr (.inr (some t))), (0, .inr (.inr (some 0))), (1, .inl a1)], [], sh, gc_h sh I31 J A)
  refine gv_run 3 true hD (pcₚ := 18) (lvₚ := [(3, .inl (-3)), (2, .inr (.inr (some t))), (0, .inr (.inr (some 0))), (1, .inl a1)]) (stₚ := [.inr (.inr (some 0))]) (hₚ := gc_h sh I31 J A) (C := (((True ∧ True) ∧ True) ∧ True)) rfl ⟨⟨⟨trivial, trivial⟩, trivial⟩, trivial⟩ ?_
  refine gv_get hD rfl rfl S_0 ⟨by decide, (gz_sh B_0)⟩ (gc_hA S_0 rfl A_0_1) ?_
  show gv_X _ _ (21, [(3, .inl (-3)), (2, .inr (.inr (some t))), (0, .inr (.inr (some 0))), (1, .inl a1)], [.inr (.inr (some 23))], sh, gc_h sh I31 J A)
  obtain ⟨r36, h36, E36, P36⟩ := d_X9_isWord (ws0 := ws0) (tb := tb) hws htb sh ro I31 J A hI31 23  (gc_b23 hb)     
  obtain ⟨rfl, ⟨z36, rfl, q36⟩⟩ := P36
  replace q36 := gz_hi q36
  refine gv_callV hD rfl (As := []) (st := []) rfl (gz_sh B_23) S_23 rfl (gc_lV12 hws rfl) (Nat.le_of_ble_eq_true rfl) (gz_Ev_mono (d := 2) (by decide) E36) ?_
  show gv_X _ _ (24, [(3, .inl (-3)), (2, .inr (.inr (some t))), (0, .inr (.inr (some 0))), (1, .inl a1)], [.inl z36], sh, gc_h sh I31 J A)
  refine gv_if_eq (t := 40) hD rfl rfl ⟨by (/-18-/first | (have o1 := gz_sh q36; omega) | (simp only [gz_hd] at *; omega)), by (/-19-/first | (have o1 := gz_sh q36; omega) | (simp only [gz_hd] at *; omega))⟩ (fun c37 => ?_) (fun c37 => ?_)
  · show gv_X _ _ (40, [(3, .inl (-3)), (2, .inr (.inr (some t))), (0, .inr (.inr (some 0))), (1, .inl a1)], [], sh, gc_h sh I31 J A)
    refine gv_pick [2, 1, 0] rfl ?_
    exact L40 I31 J (-3) hI31 FI31 FJ (by (/-20-/first | (and_intros; (omega); (omega); (have o1 := gz_sh t34; have o2 := gz_sh t35; omega)) | (simp only [gz_hd] at *; omega)))
  · show gv_X _ _ (27, [(3, .inl (-3)), (2, .inr (.inr (some t))), (0, .inr (.inr (some 0))), (1, .inl a1)], [], sh, gc_h sh I31 J A)
    refine gv_run 1 true hD (pcₚ := 28) (lvₚ := [(3, .inl (-3)), (2, .inr (.inr (some t))), (0, .inr (.inr (some 0))), (1, .inl a1)]) (stₚ := [.inr (.inr (some t))]) (hₚ := gc_h sh I31 J A) (C := (True ∧ True)) rfl ⟨trivial, trivial⟩ ?_
    refine gv_get hD rfl rfl S_t ⟨by decide, (gz_sh B_t)⟩ (gc_hA S_t rfl A_t_15) ?_
    show gv_X _ _ (31, [(3, .inl (-3)), (2, .inr (.inr (some t))), (0, .inr (.inr (some 0))), (1, .inl a1)], [.inr (.inr (some (t + 17)))], sh, gc_h sh I31 J A)
    refine gv_run 2 true hD (pcₚ := 33) (lvₚ := [(3, .inl (-3)), (2, .inr (.inr (some t))), (0, .inr (.inr (some 0))), (1, .inl a1)]) (stₚ := [.inr (.inr (some 0)), .inr (.inr (some t)), .inr (.inr (some (t + 17)))]) (hₚ := gc_h sh I31 J A) (C := ((True ∧ True) ∧ True)) rfl ⟨⟨trivial, trivial⟩, trivial⟩ ?_
    refine gv_get hD rfl rfl S_0 ⟨by decide, (gz_sh B_0)⟩ (gc_hA S_0 rfl A_0_1) ?_
    show gv_X _ _ (36, [(3, .inl (-3)), (2, .inr (.inr (some t))), (0, .inr (.inr (some 0))), (1, .inl a1)], [.inr (.inr (some 23)), .inr (.inr (some t)), .inr (.inr (some (t + 17)))], sh, gc_h sh I31 J A)
    obtain ⟨r38, h38, E38, P38⟩ := d_X2_soundWord (ws0 := ws0) (tb := tb) hws htb sh ro I31 J A hI31 (t + 17) t 23 h_t_17 h_t G_t (gc_b23 hb)   (gc_sc_fr x2 (fun k => (FI31 (t + 10) k).resolve_left (by (/-21-/first | (have o1 := gz_sh B_t; have o2 := gz_sh B_t_10; have o3 := gz_sh B_t_13; have o4 := gz_sh B_t_14; have o5 := gz_sh B_t_15; have o6 := gz_sh B_t_16; have o7 := gz_sh B_t_17; have o8 := gz_sh B_t_17_1; have o9 := gz_sh B_t_17_2; have o10 := gz_sh B_t_17_3; have o11 := gz_sh B_t_17_4; have o12 := gz_sh B_t_17_5; have o13 := gz_sh B_t_17_6; have o14 := gz_sh B_t_17_7; have o15 := gz_sh B_t_5; have o16 := gz_sh B_t_6; have o17 := gz_sh B_t_9; omega) | (simp only [gz_hd] at *; omega))))) rfl (by (/-22-/first | (have o1 := gz_sh q36; omega) | (simp only [gz_hd] at *; omega))) 
    obtain ⟨I39, J40, rfl, hI39, g38, k38, ⟨z38, rfl, q38⟩⟩ := P38
    replace q38 := gz_hi q38
    have FI39 := gc_frc (W := fun q j => (q = 27 ∧ j = 1) ∨ q = 28 ∨ (q = 23 ∧ j = 1) ∨ (q = (t + 17) ∧ j = 6) ∨ (q = (t + 17) ∧ j = 7) ∨ q = (t + 23) ∨ q = (t + 24)) (V := fun q j => (q = (t + 17) ∧ j = 6) ∨ (q = (t + 17) ∧ j = 7) ∨ q = (t + 23) ∨ q = (t + 24)) FI31 (fun q j h => (h.elim (fun h => (Or.inr (Or.inr (Or.inr (Or.inl h))))) (fun h => (h.elim (fun h => (Or.inr (Or.inr (Or.inr (Or.inr (Or.inl h)))))) (fun h => (h.elim (fun h => (Or.inr (Or.inr (Or.inr (Or.inr (Or.inr (Or.inl h))))))) (fun h => (Or.inr (Or.inr (Or.inr (Or.inr (Or.inr (Or.inr h))))))))))))) g38
    obtain rfl : J = J40 := funext fun q => funext fun j => ((k38 q j).resolve_left id).symm
    refine gv_callV hD rfl (As := [.inr (.inr (some t)), .inr (.inr (some 23))]) (st := []) rfl (gz_sh B_t_17) S_t_17 rfl (gc_lV12 hws rfl) (Nat.le_of_ble_eq_true rfl) (gz_Ev_mono (d := 5) (by decide) E38) ?_
    show gv_X _ _ (39, [(3, .inl (-3)), (2, .inr (.inr (some t))), (0, .inr (.inr (some 0))), (1, .inl a1)], [.inl z38], sh, gc_h sh I39 J A)
    refine gv_run 1 true hD (pcₚ := 40) (lvₚ := [(3, .inl z38), (2, .inr (.inr (some t))), (0, .inr (.inr (some 0))), (1, .inl a1)]) (stₚ := []) (hₚ := gc_h sh I39 J A) (C := (True ∧ True)) rfl ⟨trivial, trivial⟩ ?_
    refine gv_pick [2, 1, 0] rfl ?_
    exact L40 I39 J z38 hI39 FI39 FJ (by (/-23-/first | (and_intros; (have o1 := gz_sh q38; omega); (have o1 := gz_sh q38; omega); (have o1 := gz_sh q38; have o2 := gz_sh t34; have o3 := gz_sh t35; omega)) | (simp only [gz_hd] at *; omega)))
set_option maxHeartbeats 8000000 in
set_option maxRecDepth 100000 in
theorem d_X12_analyse {ws0 : List Cond} {tb : String → gz_T} (hws : gc_Ws ws0) (htb : gc_tbs tb) (sh : gz_Sh) (ro : Nat → Nat) (I : gr_I) (J : gr_J) (A : gc_A) (hI : gc_Inv ro I) (t : Nat) (a1 : Int) (hb : gc_Base sh ro A) (h_t : gc_isTongue sh ro A t) (G_t : 144 ≤ t) (ha1 : 0 ≤ a1 ∧ a1 ≤ 7) (x0 : 0 ≤ a1 ∧ a1 < I 8 1) (x1 : A 10 (Int.toNat a1) = some t) (x2 : gc_sc (t + 10) I) (x3 : gc_FB (t + 17) (24 * I (t + 17) 8) I) (x4 : I (t + 17) 8 ≤ I t 11) : ∃ r hₚ, gz_Ev ws0 tb 6 (yX12_analyse, cX12_analyse, 4, (some .int)) [.inr (.inr (some 0)), .inl a1] sh (gc_h sh I J A) r sh hₚ 0 0 ∧ (∃ (Iₚ : gr_I) (Jₚ : gr_J), hₚ = gc_h sh Iₚ Jₚ A ∧ gc_Inv ro Iₚ ∧ (∀ q j : Nat, ((q = (t + 17) ∧ j = 8) ∨ (q = (t + 17) ∧ j = 9) ∨ q = (t + 18) ∨ q = (t + 19) ∨ q = (t + 20) ∨ q = (t + 21) ∨ (q = (t + 17) ∧ j = 6) ∨ (q = (t + 17) ∧ j = 7) ∨ q = (t + 23) ∨ q = (t + 24) ∨ (q = 100 ∧ j = 2) ∨ (q = 100 ∧ j = 1) ∨ q = 101 ∨ q = (t + 22) ∨ (q = 23 ∧ j = 1)) ∨ Iₚ q j = I q j) ∧ (∀ q j : Nat, (False) ∨ Jₚ q j = J q j) ∧ (∃ z : Int, r = some (.inl z) ∧ (-3) ≤ z ∧ z ≤ 1536 ∧ (Iₚ 23 1 = 0) ∧ (gc_FB (t + 17) (24 * I t 11) Iₚ) ∧ (Iₚ (t + 17) 8 = I t 11) ∧ (Iₚ 100 2 = 0 ∨ Iₚ 100 1 = a1) ∧ (I (t + 17) 6 = I (t + 17) 7 ∨ ¬ Iₚ (t + 17) 6 = Iₚ (t + 17) 7) ∧ (gh_BD I t Iₚ))) := by
  have FI : ∀ q j : Nat, ((q = (t + 17) ∧ j = 8) ∨ (q = (t + 17) ∧ j = 9) ∨ q = (t + 18) ∨ q = (t + 19) ∨ q = (t + 20) ∨ q = (t + 21) ∨ (q = (t + 17) ∧ j = 6) ∨ (q = (t + 17) ∧ j = 7) ∨ q = (t + 23) ∨ q = (t + 24) ∨ (q = 100 ∧ j = 2) ∨ (q = 100 ∧ j = 1) ∨ q = 101 ∨ q = (t + 22) ∨ (q = 23 ∧ j = 1)) ∨ I q j = I q j := fun _ _ => Or.inr rfl
  have FJ : ∀ q j : Nat, (False) ∨ J q j = J q j := fun _ _ => Or.inr rfl
  have A_0_1 : A 0 1 = some 23 := gc_bA_0_1 hb
  have A_0_10 : A 0 10 = some 100 := gc_bA_0_10 hb
  have B_0 := gz_hi (show 0 < 1000000 from by decide)
  have B_100 := gz_hi (show 100 < 1000000 from by decide)
  have B_23 := gz_hi (show 23 < 1000000 from by decide)
  have R_100 := gz_hi (show ro 100 = 75 from gc_bR_100 hb)
  have R_23 := gz_hi (show ro 23 = 3 from gc_bR_23 hb)
  have S_0 : sh[0]? = some (false, 12, 17) := gc_bS_0 hb
  have S_100 : sh[100]? = some (false, 1, 19) := gc_bS_100 hb
  have S_23 : sh[23]? = some (false, 9, 10) := gc_bS_23 hb
  obtain ⟨S_t, R_t, B_t, A_t_0, h_t_1, A_t_1, h_t_3, A_t_2, S_t_5, R_t_5, B_t_5, A_t_3, S_t_6, R_t_6, B_t_6, A_t_4, h_t_7, A_t_5, S_t_9, R_t_9, B_t_9, A_t_7, S_t_10, R_t_10, B_t_10, A_t_8, h_t_11, A_t_9, S_t_13, R_t_13, B_t_13, A_t_10, S_t_14, R_t_14, B_t_14, A_t_12, S_t_15, R_t_15, B_t_15, A_t_14, S_t_16, R_t_16, B_t_16, A_t_15, h_t_17⟩ := id h_t
  replace R_t := gz_hi R_t
  replace B_t := gz_hi B_t
  replace R_t_5 := gz_hi R_t_5
  replace B_t_5 := gz_hi B_t_5
  replace R_t_6 := gz_hi R_t_6
  replace B_t_6 := gz_hi B_t_6
  replace R_t_9 := gz_hi R_t_9
  replace B_t_9 := gz_hi B_t_9
  replace R_t_10 := gz_hi R_t_10
  replace B_t_10 := gz_hi B_t_10
  replace R_t_13 := gz_hi R_t_13
  replace B_t_13 := gz_hi B_t_13
  replace R_t_14 := gz_hi R_t_14
  replace B_t_14 := gz_hi B_t_14
  replace R_t_15 := gz_hi R_t_15
  replace B_t_15 := gz_hi B_t_15
  replace R_t_16 := gz_hi R_t_16
  replace B_t_16 := gz_hi B_t_16
  obtain ⟨S_t_1, R_t_1, B_t_1, A_t_1_0, S_t_1_1, R_t_1_1, B_t_1_1, Q0_t_1, Q1_t_1, Q2_t_1⟩ := id h_t_1
  replace R_t_1 := gz_hi R_t_1
  replace B_t_1 := gz_hi B_t_1
  replace R_t_1_1 := gz_hi R_t_1_1
  replace B_t_1_1 := gz_hi B_t_1_1
  obtain ⟨S_t_3, R_t_3, B_t_3, A_t_3_0, S_t_3_1, R_t_3_1, B_t_3_1, Q0_t_3, Q1_t_3, Q2_t_3⟩ := id h_t_3
  replace R_t_3 := gz_hi R_t_3
  replace B_t_3 := gz_hi B_t_3
  replace R_t_3_1 := gz_hi R_t_3_1
  replace B_t_3_1 := gz_hi B_t_3_1
  obtain ⟨S_t_7, R_t_7, B_t_7, A_t_7_0, S_t_7_1, R_t_7_1, B_t_7_1, Q0_t_7, Q1_t_7, Q2_t_7⟩ := id h_t_7
  replace R_t_7 := gz_hi R_t_7
  replace B_t_7 := gz_hi B_t_7
  replace R_t_7_1 := gz_hi R_t_7_1
  replace B_t_7_1 := gz_hi B_t_7_1
  obtain ⟨S_t_11, R_t_11, B_t_11, A_t_11_0, S_t_11_1, R_t_11_1, B_t_11_1, Q0_t_11, Q1_t_11, Q2_t_11⟩ := id h_t_11
  replace R_t_11 := gz_hi R_t_11
  replace B_t_11 := gz_hi B_t_11
  replace R_t_11_1 := gz_hi R_t_11_1
  replace B_t_11_1 := gz_hi B_t_11_1
  obtain ⟨S_t_17, R_t_17, B_t_17, A_t_17_0, S_20, R_20, B_20, A_t_17_1, S_t_17_1, R_t_17_1, B_t_17_1, A_t_17_2, S_t_17_2, R_t_17_2, B_t_17_2, A_t_17_3, S_t_17_3, R_t_17_3, B_t_17_3, A_t_17_4, S_t_17_4, R_t_17_4, B_t_17_4, A_t_17_5, S_t_17_5, R_t_17_5, B_t_17_5, S_t_17_6, R_t_17_6, B_t_17_6, S_t_17_7, R_t_17_7, B_t_17_7⟩ := id h_t_17
  replace R_t_17 := gz_hi R_t_17
  replace B_t_17 := gz_hi B_t_17
  replace R_20 := gz_hi R_20
  replace B_20 := gz_hi B_20
  replace R_t_17_1 := gz_hi R_t_17_1
  replace B_t_17_1 := gz_hi B_t_17_1
  replace R_t_17_2 := gz_hi R_t_17_2
  replace B_t_17_2 := gz_hi B_t_17_2
  replace R_t_17_3 := gz_hi R_t_17_3
  replace B_t_17_3 := gz_hi B_t_17_3
  replace R_t_17_4 := gz_hi R_t_17_4
  replace B_t_17_4 := gz_hi B_t_17_4
  replace R_t_17_5 := gz_hi R_t_17_5
  replace B_t_17_5 := gz_hi B_t_17_5
  replace R_t_17_6 := gz_hi R_t_17_6
  replace B_t_17_6 := gz_hi B_t_17_6
  replace R_t_17_7 := gz_hi R_t_17_7
  replace B_t_17_7 := gz_hi B_t_17_7
  have hD : gv_D (gc_E12 ws0 tb 5 (yX12_analyse, cX12_analyse, 4, (some .int)) kX12_analyse) := gq_of oX12_analyse
  refine gc_ev12 (d := 5) (l := kX12_analyse) (Po := fun r hₚ => (∃ (Iₚ : gr_I) (Jₚ : gr_J), hₚ = gc_h sh Iₚ Jₚ A ∧ gc_Inv ro Iₚ ∧ (∀ q j : Nat, ((q = (t + 17) ∧ j = 8) ∨ (q = (t + 17) ∧ j = 9) ∨ q = (t + 18) ∨ q = (t + 19) ∨ q = (t + 20) ∨ q = (t + 21) ∨ (q = (t + 17) ∧ j = 6) ∨ (q = (t + 17) ∧ j = 7) ∨ q = (t + 23) ∨ q = (t + 24) ∨ (q = 100 ∧ j = 2) ∨ (q = 100 ∧ j = 1) ∨ q = 101 ∨ q = (t + 22) ∨ (q = 23 ∧ j = 1)) ∨ Iₚ q j = I q j) ∧ (∀ q j : Nat, (False) ∨ Jₚ q j = J q j) ∧ (∃ z : Int, r = some (.inl z) ∧ (-3) ≤ z ∧ z ≤ 1536 ∧ (Iₚ 23 1 = 0) ∧ (gc_FB (t + 17) (24 * I t 11) Iₚ) ∧ (Iₚ (t + 17) 8 = I t 11) ∧ (Iₚ 100 2 = 0 ∨ Iₚ 100 1 = a1) ∧ (I (t + 17) 6 = I (t + 17) 7 ∨ ¬ Iₚ (t + 17) 6 = Iₚ (t + 17) 7) ∧ (gh_BD I t Iₚ)))) htb rfl (Nat.le_of_ble_eq_true rfl) ?_
  have N_23__t_18 := gz_hi (show ¬ (23 = (t + 18)) from by (/-0-/first | (have o1 := gz_sh B_t; have o2 := gz_sh B_t_10; have o3 := gz_sh B_t_13; have o4 := gz_sh B_t_14; have o5 := gz_sh B_t_15; have o6 := gz_sh B_t_16; have o7 := gz_sh B_t_17; have o8 := gz_sh B_t_17_1; have o9 := gz_sh B_t_17_2; have o10 := gz_sh B_t_17_3; have o11 := gz_sh B_t_17_4; have o12 := gz_sh B_t_17_5; have o13 := gz_sh B_t_17_6; have o14 := gz_sh B_t_17_7; have o15 := gz_sh B_t_5; have o16 := gz_sh B_t_6; have o17 := gz_sh B_t_9; omega) | (simp only [gz_hd] at *; omega)))
  have N_23__t_19 := gz_hi (show ¬ (23 = (t + 19)) from by (/-1-/first | (have o1 := gz_sh B_t; have o2 := gz_sh B_t_10; have o3 := gz_sh B_t_13; have o4 := gz_sh B_t_14; have o5 := gz_sh B_t_15; have o6 := gz_sh B_t_16; have o7 := gz_sh B_t_17; have o8 := gz_sh B_t_17_1; have o9 := gz_sh B_t_17_2; have o10 := gz_sh B_t_17_3; have o11 := gz_sh B_t_17_4; have o12 := gz_sh B_t_17_5; have o13 := gz_sh B_t_17_6; have o14 := gz_sh B_t_17_7; have o15 := gz_sh B_t_5; have o16 := gz_sh B_t_6; have o17 := gz_sh B_t_9; omega) | (simp only [gz_hd] at *; omega)))
  have N_23__t_20 := gz_hi (show ¬ (23 = (t + 20)) from by (/-2-/first | (have o1 := gz_sh B_t; have o2 := gz_sh B_t_10; have o3 := gz_sh B_t_13; have o4 := gz_sh B_t_14; have o5 := gz_sh B_t_15; have o6 := gz_sh B_t_16; have o7 := gz_sh B_t_17; have o8 := gz_sh B_t_17_1; have o9 := gz_sh B_t_17_2; have o10 := gz_sh B_t_17_3; have o11 := gz_sh B_t_17_4; have o12 := gz_sh B_t_17_5; have o13 := gz_sh B_t_17_6; have o14 := gz_sh B_t_17_7; have o15 := gz_sh B_t_5; have o16 := gz_sh B_t_6; have o17 := gz_sh B_t_9; omega) | (simp only [gz_hd] at *; omega)))
  have N_23__t_21 := gz_hi (show ¬ (23 = (t + 21)) from by (/-3-/first | (have o1 := gz_sh B_t; have o2 := gz_sh B_t_10; have o3 := gz_sh B_t_13; have o4 := gz_sh B_t_14; have o5 := gz_sh B_t_15; have o6 := gz_sh B_t_16; have o7 := gz_sh B_t_17; have o8 := gz_sh B_t_17_1; have o9 := gz_sh B_t_17_2; have o10 := gz_sh B_t_17_3; have o11 := gz_sh B_t_17_4; have o12 := gz_sh B_t_17_5; have o13 := gz_sh B_t_17_6; have o14 := gz_sh B_t_17_7; have o15 := gz_sh B_t_5; have o16 := gz_sh B_t_6; have o17 := gz_sh B_t_9; omega) | (simp only [gz_hd] at *; omega)))
  have N_23__t_23 := gz_hi (show ¬ (23 = (t + 23)) from by (/-4-/first | (have o1 := gz_sh B_t; have o2 := gz_sh B_t_10; have o3 := gz_sh B_t_13; have o4 := gz_sh B_t_14; have o5 := gz_sh B_t_15; have o6 := gz_sh B_t_16; have o7 := gz_sh B_t_17; have o8 := gz_sh B_t_17_1; have o9 := gz_sh B_t_17_2; have o10 := gz_sh B_t_17_3; have o11 := gz_sh B_t_17_4; have o12 := gz_sh B_t_17_5; have o13 := gz_sh B_t_17_6; have o14 := gz_sh B_t_17_7; have o15 := gz_sh B_t_5; have o16 := gz_sh B_t_6; have o17 := gz_sh B_t_9; omega) | (simp only [gz_hd] at *; omega)))
  have N_23__t_24 := gz_hi (show ¬ (23 = (t + 24)) from by (/-5-/first | (have o1 := gz_sh B_t; have o2 := gz_sh B_t_10; have o3 := gz_sh B_t_13; have o4 := gz_sh B_t_14; have o5 := gz_sh B_t_15; have o6 := gz_sh B_t_16; have o7 := gz_sh B_t_17; have o8 := gz_sh B_t_17_1; have o9 := gz_sh B_t_17_2; have o10 := gz_sh B_t_17_3; have o11 := gz_sh B_t_17_4; have o12 := gz_sh B_t_17_5; have o13 := gz_sh B_t_17_6; have o14 := gz_sh B_t_17_7; have o15 := gz_sh B_t_5; have o16 := gz_sh B_t_6; have o17 := gz_sh B_t_9; omega) | (simp only [gz_hd] at *; omega)))
  have N_100__t_18 := gz_hi (show ¬ (100 = (t + 18)) from by (/-6-/first | (have o1 := gz_sh B_t; have o2 := gz_sh B_t_10; have o3 := gz_sh B_t_13; have o4 := gz_sh B_t_14; have o5 := gz_sh B_t_15; have o6 := gz_sh B_t_16; have o7 := gz_sh B_t_17; have o8 := gz_sh B_t_17_1; have o9 := gz_sh B_t_17_2; have o10 := gz_sh B_t_17_3; have o11 := gz_sh B_t_17_4; have o12 := gz_sh B_t_17_5; have o13 := gz_sh B_t_17_6; have o14 := gz_sh B_t_17_7; have o15 := gz_sh B_t_5; have o16 := gz_sh B_t_6; have o17 := gz_sh B_t_9; omega) | (simp only [gz_hd] at *; omega)))
  have N_100__t_19 := gz_hi (show ¬ (100 = (t + 19)) from by (/-7-/first | (have o1 := gz_sh B_t; have o2 := gz_sh B_t_10; have o3 := gz_sh B_t_13; have o4 := gz_sh B_t_14; have o5 := gz_sh B_t_15; have o6 := gz_sh B_t_16; have o7 := gz_sh B_t_17; have o8 := gz_sh B_t_17_1; have o9 := gz_sh B_t_17_2; have o10 := gz_sh B_t_17_3; have o11 := gz_sh B_t_17_4; have o12 := gz_sh B_t_17_5; have o13 := gz_sh B_t_17_6; have o14 := gz_sh B_t_17_7; have o15 := gz_sh B_t_5; have o16 := gz_sh B_t_6; have o17 := gz_sh B_t_9; omega) | (simp only [gz_hd] at *; omega)))
  have N_100__t_20 := gz_hi (show ¬ (100 = (t + 20)) from by (/-8-/first | (have o1 := gz_sh B_t; have o2 := gz_sh B_t_10; have o3 := gz_sh B_t_13; have o4 := gz_sh B_t_14; have o5 := gz_sh B_t_15; have o6 := gz_sh B_t_16; have o7 := gz_sh B_t_17; have o8 := gz_sh B_t_17_1; have o9 := gz_sh B_t_17_2; have o10 := gz_sh B_t_17_3; have o11 := gz_sh B_t_17_4; have o12 := gz_sh B_t_17_5; have o13 := gz_sh B_t_17_6; have o14 := gz_sh B_t_17_7; have o15 := gz_sh B_t_5; have o16 := gz_sh B_t_6; have o17 := gz_sh B_t_9; omega) | (simp only [gz_hd] at *; omega)))
  have N_100__t_21 := gz_hi (show ¬ (100 = (t + 21)) from by (/-9-/first | (have o1 := gz_sh B_t; have o2 := gz_sh B_t_10; have o3 := gz_sh B_t_13; have o4 := gz_sh B_t_14; have o5 := gz_sh B_t_15; have o6 := gz_sh B_t_16; have o7 := gz_sh B_t_17; have o8 := gz_sh B_t_17_1; have o9 := gz_sh B_t_17_2; have o10 := gz_sh B_t_17_3; have o11 := gz_sh B_t_17_4; have o12 := gz_sh B_t_17_5; have o13 := gz_sh B_t_17_6; have o14 := gz_sh B_t_17_7; have o15 := gz_sh B_t_5; have o16 := gz_sh B_t_6; have o17 := gz_sh B_t_9; omega) | (simp only [gz_hd] at *; omega)))
  have N_100__t_23 := gz_hi (show ¬ (100 = (t + 23)) from by (/-10-/first | (have o1 := gz_sh B_t; have o2 := gz_sh B_t_10; have o3 := gz_sh B_t_13; have o4 := gz_sh B_t_14; have o5 := gz_sh B_t_15; have o6 := gz_sh B_t_16; have o7 := gz_sh B_t_17; have o8 := gz_sh B_t_17_1; have o9 := gz_sh B_t_17_2; have o10 := gz_sh B_t_17_3; have o11 := gz_sh B_t_17_4; have o12 := gz_sh B_t_17_5; have o13 := gz_sh B_t_17_6; have o14 := gz_sh B_t_17_7; have o15 := gz_sh B_t_5; have o16 := gz_sh B_t_6; have o17 := gz_sh B_t_9; omega) | (simp only [gz_hd] at *; omega)))
  have N_100__t_24 := gz_hi (show ¬ (100 = (t + 24)) from by (/-11-/first | (have o1 := gz_sh B_t; have o2 := gz_sh B_t_10; have o3 := gz_sh B_t_13; have o4 := gz_sh B_t_14; have o5 := gz_sh B_t_15; have o6 := gz_sh B_t_16; have o7 := gz_sh B_t_17; have o8 := gz_sh B_t_17_1; have o9 := gz_sh B_t_17_2; have o10 := gz_sh B_t_17_3; have o11 := gz_sh B_t_17_4; have o12 := gz_sh B_t_17_5; have o13 := gz_sh B_t_17_6; have o14 := gz_sh B_t_17_7; have o15 := gz_sh B_t_5; have o16 := gz_sh B_t_6; have o17 := gz_sh B_t_9; omega) | (simp only [gz_hd] at *; omega)))
  have N_t__t_18 := gz_hi (show ¬ (t = (t + 18)) from by (/-12-/first | omega | (simp only [gz_hd] at *; omega)))
  have N_t__t_19 := gz_hi (show ¬ (t = (t + 19)) from by (/-13-/first | omega | (simp only [gz_hd] at *; omega)))
  have N_t__t_20 := gz_hi (show ¬ (t = (t + 20)) from by (/-14-/first | omega | (simp only [gz_hd] at *; omega)))
  have N_t__t_21 := gz_hi (show ¬ (t = (t + 21)) from by (/-15-/first | omega | (simp only [gz_hd] at *; omega)))
  have N_t__t_23 := gz_hi (show ¬ (t = (t + 23)) from by (/-16-/first | omega | (simp only [gz_hd] at *; omega)))
  have N_t__t_24 := gz_hi (show ¬ (t = (t + 24)) from by (/-17-/first | omega | (simp only [gz_hd] at *; omega)))
  have N_23__t_22 := gz_hi (show ¬ (23 = (t + 22)) from by (/-18-/first | (have o1 := gz_sh B_t; have o2 := gz_sh B_t_10; have o3 := gz_sh B_t_13; have o4 := gz_sh B_t_14; have o5 := gz_sh B_t_15; have o6 := gz_sh B_t_16; have o7 := gz_sh B_t_17; have o8 := gz_sh B_t_17_1; have o9 := gz_sh B_t_17_2; have o10 := gz_sh B_t_17_3; have o11 := gz_sh B_t_17_4; have o12 := gz_sh B_t_17_5; have o13 := gz_sh B_t_17_6; have o14 := gz_sh B_t_17_7; have o15 := gz_sh B_t_5; have o16 := gz_sh B_t_6; have o17 := gz_sh B_t_9; omega) | (simp only [gz_hd] at *; omega)))
  have N_t_17__101 := gz_hi (show ¬ ((t + 17) = 101) from by (/-19-/first | (have o1 := gz_sh B_t; have o2 := gz_sh B_t_10; have o3 := gz_sh B_t_13; have o4 := gz_sh B_t_14; have o5 := gz_sh B_t_15; have o6 := gz_sh B_t_16; have o7 := gz_sh B_t_17; have o8 := gz_sh B_t_17_1; have o9 := gz_sh B_t_17_2; have o10 := gz_sh B_t_17_3; have o11 := gz_sh B_t_17_4; have o12 := gz_sh B_t_17_5; have o13 := gz_sh B_t_17_6; have o14 := gz_sh B_t_17_7; have o15 := gz_sh B_t_5; have o16 := gz_sh B_t_6; have o17 := gz_sh B_t_9; omega) | (simp only [gz_hd] at *; omega)))
  have N_t_17__t_22 := gz_hi (show ¬ ((t + 17) = (t + 22)) from by (/-20-/first | omega | (simp only [gz_hd] at *; omega)))
  have N_t__101 := gz_hi (show ¬ (t = 101) from by (/-21-/first | (have o1 := gz_sh B_t; have o2 := gz_sh B_t_10; have o3 := gz_sh B_t_13; have o4 := gz_sh B_t_14; have o5 := gz_sh B_t_15; have o6 := gz_sh B_t_16; have o7 := gz_sh B_t_17; have o8 := gz_sh B_t_17_1; have o9 := gz_sh B_t_17_2; have o10 := gz_sh B_t_17_3; have o11 := gz_sh B_t_17_4; have o12 := gz_sh B_t_17_5; have o13 := gz_sh B_t_17_6; have o14 := gz_sh B_t_17_7; have o15 := gz_sh B_t_5; have o16 := gz_sh B_t_6; have o17 := gz_sh B_t_9; omega) | (simp only [gz_hd] at *; omega)))
  have N_t__t_22 := gz_hi (show ¬ (t = (t + 22)) from by (/-22-/first | omega | (simp only [gz_hd] at *; omega)))
  have N_t_18__100 := gz_hi (show ¬ ((t + 18) = 100) from by (/-23-/first | (have o1 := gz_sh B_t; have o2 := gz_sh B_t_10; have o3 := gz_sh B_t_13; have o4 := gz_sh B_t_14; have o5 := gz_sh B_t_15; have o6 := gz_sh B_t_16; have o7 := gz_sh B_t_17; have o8 := gz_sh B_t_17_1; have o9 := gz_sh B_t_17_2; have o10 := gz_sh B_t_17_3; have o11 := gz_sh B_t_17_4; have o12 := gz_sh B_t_17_5; have o13 := gz_sh B_t_17_6; have o14 := gz_sh B_t_17_7; have o15 := gz_sh B_t_5; have o16 := gz_sh B_t_6; have o17 := gz_sh B_t_9; omega) | (simp only [gz_hd] at *; omega)))
  have N_t_18__101 := gz_hi (show ¬ ((t + 18) = 101) from by (/-24-/first | (have o1 := gz_sh B_t; have o2 := gz_sh B_t_10; have o3 := gz_sh B_t_13; have o4 := gz_sh B_t_14; have o5 := gz_sh B_t_15; have o6 := gz_sh B_t_16; have o7 := gz_sh B_t_17; have o8 := gz_sh B_t_17_1; have o9 := gz_sh B_t_17_2; have o10 := gz_sh B_t_17_3; have o11 := gz_sh B_t_17_4; have o12 := gz_sh B_t_17_5; have o13 := gz_sh B_t_17_6; have o14 := gz_sh B_t_17_7; have o15 := gz_sh B_t_5; have o16 := gz_sh B_t_6; have o17 := gz_sh B_t_9; omega) | (simp only [gz_hd] at *; omega)))
  have N_t_18__t_22 := gz_hi (show ¬ ((t + 18) = (t + 22)) from by (/-25-/first | omega | (simp only [gz_hd] at *; omega)))
  have N_t_19__100 := gz_hi (show ¬ ((t + 19) = 100) from by (/-26-/first | (have o1 := gz_sh B_t; have o2 := gz_sh B_t_10; have o3 := gz_sh B_t_13; have o4 := gz_sh B_t_14; have o5 := gz_sh B_t_15; have o6 := gz_sh B_t_16; have o7 := gz_sh B_t_17; have o8 := gz_sh B_t_17_1; have o9 := gz_sh B_t_17_2; have o10 := gz_sh B_t_17_3; have o11 := gz_sh B_t_17_4; have o12 := gz_sh B_t_17_5; have o13 := gz_sh B_t_17_6; have o14 := gz_sh B_t_17_7; have o15 := gz_sh B_t_5; have o16 := gz_sh B_t_6; have o17 := gz_sh B_t_9; omega) | (simp only [gz_hd] at *; omega)))
  have N_t_19__101 := gz_hi (show ¬ ((t + 19) = 101) from by (/-27-/first | (have o1 := gz_sh B_t; have o2 := gz_sh B_t_10; have o3 := gz_sh B_t_13; have o4 := gz_sh B_t_14; have o5 := gz_sh B_t_15; have o6 := gz_sh B_t_16; have o7 := gz_sh B_t_17; have o8 := gz_sh B_t_17_1; have o9 := gz_sh B_t_17_2; have o10 := gz_sh B_t_17_3; have o11 := gz_sh B_t_17_4; have o12 := gz_sh B_t_17_5; have o13 := gz_sh B_t_17_6; have o14 := gz_sh B_t_17_7; have o15 := gz_sh B_t_5; have o16 := gz_sh B_t_6; have o17 := gz_sh B_t_9; omega) | (simp only [gz_hd] at *; omega)))
  have N_t_19__t_22 := gz_hi (show ¬ ((t + 19) = (t + 22)) from by (/-28-/first | omega | (simp only [gz_hd] at *; omega)))
  have N_t_20__100 := gz_hi (show ¬ ((t + 20) = 100) from by (/-29-/first | (have o1 := gz_sh B_t; have o2 := gz_sh B_t_10; have o3 := gz_sh B_t_13; have o4 := gz_sh B_t_14; have o5 := gz_sh B_t_15; have o6 := gz_sh B_t_16; have o7 := gz_sh B_t_17; have o8 := gz_sh B_t_17_1; have o9 := gz_sh B_t_17_2; have o10 := gz_sh B_t_17_3; have o11 := gz_sh B_t_17_4; have o12 := gz_sh B_t_17_5; have o13 := gz_sh B_t_17_6; have o14 := gz_sh B_t_17_7; have o15 := gz_sh B_t_5; have o16 := gz_sh B_t_6; have o17 := gz_sh B_t_9; omega) | (simp only [gz_hd] at *; omega)))
  have N_t_20__101 := gz_hi (show ¬ ((t + 20) = 101) from by (/-30-/first | (have o1 := gz_sh B_t; have o2 := gz_sh B_t_10; have o3 := gz_sh B_t_13; have o4 := gz_sh B_t_14; have o5 := gz_sh B_t_15; have o6 := gz_sh B_t_16; have o7 := gz_sh B_t_17; have o8 := gz_sh B_t_17_1; have o9 := gz_sh B_t_17_2; have o10 := gz_sh B_t_17_3; have o11 := gz_sh B_t_17_4; have o12 := gz_sh B_t_17_5; have o13 := gz_sh B_t_17_6; have o14 := gz_sh B_t_17_7; have o15 := gz_sh B_t_5; have o16 := gz_sh B_t_6; have o17 := gz_sh B_t_9; omega) | (simp only [gz_hd] at *; omega)))
  have N_t_20__t_22 := gz_hi (show ¬ ((t + 20) = (t + 22)) from by (/-31-/first | omega | (simp only [gz_hd] at *; omega)))
  have N_t_21__100 := gz_hi (show ¬ ((t + 21) = 100) from by (/-32-/first | (have o1 := gz_sh B_t; have o2 := gz_sh B_t_10; have o3 := gz_sh B_t_13; have o4 := gz_sh B_t_14; have o5 := gz_sh B_t_15; have o6 := gz_sh B_t_16; have o7 := gz_sh B_t_17; have o8 := gz_sh B_t_17_1; have o9 := gz_sh B_t_17_2; have o10 := gz_sh B_t_17_3; have o11 := gz_sh B_t_17_4; have o12 := gz_sh B_t_17_5; have o13 := gz_sh B_t_17_6; have o14 := gz_sh B_t_17_7; have o15 := gz_sh B_t_5; have o16 := gz_sh B_t_6; have o17 := gz_sh B_t_9; omega) | (simp only [gz_hd] at *; omega)))
  have N_t_21__101 := gz_hi (show ¬ ((t + 21) = 101) from by (/-33-/first | (have o1 := gz_sh B_t; have o2 := gz_sh B_t_10; have o3 := gz_sh B_t_13; have o4 := gz_sh B_t_14; have o5 := gz_sh B_t_15; have o6 := gz_sh B_t_16; have o7 := gz_sh B_t_17; have o8 := gz_sh B_t_17_1; have o9 := gz_sh B_t_17_2; have o10 := gz_sh B_t_17_3; have o11 := gz_sh B_t_17_4; have o12 := gz_sh B_t_17_5; have o13 := gz_sh B_t_17_6; have o14 := gz_sh B_t_17_7; have o15 := gz_sh B_t_5; have o16 := gz_sh B_t_6; have o17 := gz_sh B_t_9; omega) | (simp only [gz_hd] at *; omega)))
  have N_t_21__t_22 := gz_hi (show ¬ ((t + 21) = (t + 22)) from by (/-34-/first | omega | (simp only [gz_hd] at *; omega)))
  have N_t_18__23 := gz_hi (show ¬ ((t + 18) = 23) from by (/-35-/first | (have o1 := gz_sh B_t; have o2 := gz_sh B_t_10; have o3 := gz_sh B_t_13; have o4 := gz_sh B_t_14; have o5 := gz_sh B_t_15; have o6 := gz_sh B_t_16; have o7 := gz_sh B_t_17; have o8 := gz_sh B_t_17_1; have o9 := gz_sh B_t_17_2; have o10 := gz_sh B_t_17_3; have o11 := gz_sh B_t_17_4; have o12 := gz_sh B_t_17_5; have o13 := gz_sh B_t_17_6; have o14 := gz_sh B_t_17_7; have o15 := gz_sh B_t_5; have o16 := gz_sh B_t_6; have o17 := gz_sh B_t_9; omega) | (simp only [gz_hd] at *; omega)))
  have N_t_19__23 := gz_hi (show ¬ ((t + 19) = 23) from by (/-36-/first | (have o1 := gz_sh B_t; have o2 := gz_sh B_t_10; have o3 := gz_sh B_t_13; have o4 := gz_sh B_t_14; have o5 := gz_sh B_t_15; have o6 := gz_sh B_t_16; have o7 := gz_sh B_t_17; have o8 := gz_sh B_t_17_1; have o9 := gz_sh B_t_17_2; have o10 := gz_sh B_t_17_3; have o11 := gz_sh B_t_17_4; have o12 := gz_sh B_t_17_5; have o13 := gz_sh B_t_17_6; have o14 := gz_sh B_t_17_7; have o15 := gz_sh B_t_5; have o16 := gz_sh B_t_6; have o17 := gz_sh B_t_9; omega) | (simp only [gz_hd] at *; omega)))
  have N_t_20__23 := gz_hi (show ¬ ((t + 20) = 23) from by (/-37-/first | (have o1 := gz_sh B_t; have o2 := gz_sh B_t_10; have o3 := gz_sh B_t_13; have o4 := gz_sh B_t_14; have o5 := gz_sh B_t_15; have o6 := gz_sh B_t_16; have o7 := gz_sh B_t_17; have o8 := gz_sh B_t_17_1; have o9 := gz_sh B_t_17_2; have o10 := gz_sh B_t_17_3; have o11 := gz_sh B_t_17_4; have o12 := gz_sh B_t_17_5; have o13 := gz_sh B_t_17_6; have o14 := gz_sh B_t_17_7; have o15 := gz_sh B_t_5; have o16 := gz_sh B_t_6; have o17 := gz_sh B_t_9; omega) | (simp only [gz_hd] at *; omega)))
  have N_t_21__23 := gz_hi (show ¬ ((t + 21) = 23) from by (/-38-/first | (have o1 := gz_sh B_t; have o2 := gz_sh B_t_10; have o3 := gz_sh B_t_13; have o4 := gz_sh B_t_14; have o5 := gz_sh B_t_15; have o6 := gz_sh B_t_16; have o7 := gz_sh B_t_17; have o8 := gz_sh B_t_17_1; have o9 := gz_sh B_t_17_2; have o10 := gz_sh B_t_17_3; have o11 := gz_sh B_t_17_4; have o12 := gz_sh B_t_17_5; have o13 := gz_sh B_t_17_6; have o14 := gz_sh B_t_17_7; have o15 := gz_sh B_t_5; have o16 := gz_sh B_t_6; have o17 := gz_sh B_t_9; omega) | (simp only [gz_hd] at *; omega)))
  have KBD_I : gh_BD I t I := gh_BD_rf
  refine gv_run 2 true hD (pcₚ := 2) (lvₚ := [(0, .inr (.inr (some 0))), (1, .inl a1)]) (stₚ := [.inl a1, .inr (.inr (some 0))]) (hₚ := gc_h sh I J A) (C := ((True ∧ True) ∧ True)) rfl ⟨⟨trivial, trivial⟩, trivial⟩ ?_
  refine gv_callV hD rfl (As := [.inl a1]) (st := []) rfl (gz_sh B_0) S_0 rfl (gc_lV12 hws rfl) (Nat.le_of_ble_eq_true rfl) (gz_Ev_mono (d := 1) (by decide) (d_X12_tongueAt hws htb (J := J) hI hb (by (/-39-/first | omega | (simp only [gz_hd] at *; omega))) (by (/-40-/first | omega | (simp only [gz_hd] at *; omega))) x1)) ?_
  show gv_X _ _ (5, [(0, .inr (.inr (some 0))), (1, .inl a1)], [.inr (.inr (some t))], sh, gc_h sh I J A)
  refine gv_run 2 true hD (pcₚ := 7) (lvₚ := [(2, .inr (.inr (some t))), (0, .inr (.inr (some 0))), (1, .inl a1)]) (stₚ := [.inr (.inr (some t))]) (hₚ := gc_h sh I J A) (C := ((True ∧ True) ∧ True)) rfl ⟨⟨trivial, trivial⟩, trivial⟩ ?_
  refine gv_get hD rfl rfl S_t ⟨by decide, (gz_sh B_t)⟩ (gc_hA S_t rfl A_t_15) ?_
  show gv_X _ _ (10, [(2, .inr (.inr (some t))), (0, .inr (.inr (some 0))), (1, .inl a1)], [.inr (.inr (some (t + 17)))], sh, gc_h sh I J A)
  refine gv_run 1 true hD (pcₚ := 11) (lvₚ := [(2, .inr (.inr (some t))), (0, .inr (.inr (some 0))), (1, .inl a1)]) (stₚ := [.inr (.inr (some t)), .inr (.inr (some (t + 17)))]) (hₚ := gc_h sh I J A) (C := (True ∧ True)) rfl ⟨trivial, trivial⟩ ?_
  obtain ⟨r9, h9, E9, P9⟩ := d_X2_build_b (ws0 := ws0) (tb := tb) hws htb sh ro I J A hI (t + 17) t h_t_17 h_t G_t   x2 rfl x3 (by (/-41-/first | omega | (simp only [gz_hd] at *; omega))) 
  obtain ⟨I10, J11, rfl, hI10, g9, k9, ⟨rfl, q9⟩⟩ := P9
  replace q9 := gz_hi q9
  have FI10 := gc_frc (W := fun q j => (q = (t + 17) ∧ j = 8) ∨ (q = (t + 17) ∧ j = 9) ∨ q = (t + 18) ∨ q = (t + 19) ∨ q = (t + 20) ∨ q = (t + 21) ∨ (q = (t + 17) ∧ j = 6) ∨ (q = (t + 17) ∧ j = 7) ∨ q = (t + 23) ∨ q = (t + 24) ∨ (q = 100 ∧ j = 2) ∨ (q = 100 ∧ j = 1) ∨ q = 101 ∨ q = (t + 22) ∨ (q = 23 ∧ j = 1)) (V := fun q j => (q = (t + 17) ∧ j = 6) ∨ (q = (t + 17) ∧ j = 7) ∨ (q = (t + 17) ∧ j = 8) ∨ (q = (t + 17) ∧ j = 9) ∨ q = (t + 18) ∨ q = (t + 19) ∨ q = (t + 20) ∨ q = (t + 21) ∨ q = (t + 23) ∨ q = (t + 24)) FI (fun q j h => (h.elim (fun h => (Or.inr (Or.inr (Or.inr (Or.inr (Or.inr (Or.inr (Or.inl h)))))))) (fun h => (h.elim (fun h => (Or.inr (Or.inr (Or.inr (Or.inr (Or.inr (Or.inr (Or.inr (Or.inl h))))))))) (fun h => (h.elim (fun h => (Or.inl h)) (fun h => (h.elim (fun h => (Or.inr (Or.inl h))) (fun h => (h.elim (fun h => (Or.inr (Or.inr (Or.inl h)))) (fun h => (h.elim (fun h => (Or.inr (Or.inr (Or.inr (Or.inl h))))) (fun h => (h.elim (fun h => (Or.inr (Or.inr (Or.inr (Or.inr (Or.inl h)))))) (fun h => (h.elim (fun h => (Or.inr (Or.inr (Or.inr (Or.inr (Or.inr (Or.inl h))))))) (fun h => (h.elim (fun h => (Or.inr (Or.inr (Or.inr (Or.inr (Or.inr (Or.inr (Or.inr (Or.inr (Or.inl h)))))))))) (fun h => (Or.inr (Or.inr (Or.inr (Or.inr (Or.inr (Or.inr (Or.inr (Or.inr (Or.inr (Or.inl h))))))))))))))))))))))))))))) g9
  have t15 := gz_hi ((g9 t 11).resolve_left (fun h => h.elim (fun h => absurd h.2 (by first | exact gz_ne rfl | decide)) (fun h => h.elim (fun h => absurd h.2 (by first | exact gz_ne rfl | decide)) (fun h => h.elim (fun h => absurd h.2 (by first | exact gz_ne rfl | decide)) (fun h => h.elim (fun h => absurd h.2 (by first | exact gz_ne rfl | decide)) (fun h => h.elim (fun h => absurd h (gz_sh N_t__t_18)) (fun h => h.elim (fun h => absurd h (gz_sh N_t__t_19)) (fun h => h.elim (fun h => absurd h (gz_sh N_t__t_20)) (fun h => h.elim (fun h => absurd h (gz_sh N_t__t_21)) (fun h => h.elim (fun h => absurd h (gz_sh N_t__t_23)) (fun h => absurd h (gz_sh N_t__t_24))))))))))))
  obtain rfl : J = J11 := funext fun q => funext fun j => ((k9 q j).resolve_left id).symm
  have KBD_I10 : gh_BD I t I10 := gh_BD_tr KBD_I gh_tb_rf (by (/-42-/first | omega | (simp only [gz_hd] at *; omega))) (gz_sh q9).2.2.2
  refine gv_callV hD rfl (As := [.inr (.inr (some t))]) (st := []) rfl (gz_sh B_t_17) S_t_17 rfl (gc_lV12 hws rfl) (Nat.le_of_ble_eq_true rfl) (gz_Ev_mono (d := 5) (by decide) E9) ?_
  show gv_X _ _ (14, [(2, .inr (.inr (some t))), (0, .inr (.inr (some 0))), (1, .inl a1)], [], sh, gc_h sh I10 J A)
  refine gv_run 1 true hD (pcₚ := 15) (lvₚ := [(2, .inr (.inr (some t))), (0, .inr (.inr (some 0))), (1, .inl a1)]) (stₚ := [.inr (.inr (some 0))]) (hₚ := gc_h sh I10 J A) (C := (True ∧ True)) rfl ⟨trivial, trivial⟩ ?_
  refine gv_get hD rfl rfl S_0 ⟨by decide, (gz_sh B_0)⟩ (gc_hA S_0 rfl A_0_10) ?_
  show gv_X _ _ (18, [(2, .inr (.inr (some t))), (0, .inr (.inr (some 0))), (1, .inl a1)], [.inr (.inr (some 100))], sh, gc_h sh I10 J A)
  refine gv_run 3 true hD (pcₚ := 21) (lvₚ := [(2, .inr (.inr (some t))), (0, .inr (.inr (some 0))), (1, .inl a1)]) (stₚ := [.inr (.inr (some 0)), .inr (.inr (some t)), .inl a1, .inr (.inr (some 100))]) (hₚ := gc_h sh I10 J A) (C := (((True ∧ True) ∧ True) ∧ True)) rfl ⟨⟨⟨trivial, trivial⟩, trivial⟩, trivial⟩ ?_
  refine gv_get hD rfl rfl S_0 ⟨by decide, (gz_sh B_0)⟩ (gc_hA S_0 rfl A_0_1) ?_
  show gv_X _ _ (24, [(2, .inr (.inr (some t))), (0, .inr (.inr (some 0))), (1, .inl a1)], [.inr (.inr (some 23)), .inr (.inr (some t)), .inl a1, .inr (.inr (some 100))], sh, gc_h sh I10 J A)
  obtain ⟨r19, h19, E19, P19⟩ := d_X1_noteAnalyses (ws0 := ws0) (tb := tb) hws htb sh ro I10 J A hI10  a1 t 23 hb h_t G_t (gc_b23 hb) (by (/-43-/first | omega | (simp only [gz_hd] at *; omega)))  ⟨by (/-44-/first | omega | (simp only [gz_hd] at *; omega)), by (/-45-/first | omega | (simp only [gz_hd] at *; omega))⟩  
  obtain ⟨I20, J21, rfl, hI20, g19, k19, ⟨z19, rfl, q19⟩⟩ := P19
  replace q19 := gz_hi q19
  have FI20 := gc_frc (W := fun q j => (q = (t + 17) ∧ j = 8) ∨ (q = (t + 17) ∧ j = 9) ∨ q = (t + 18) ∨ q = (t + 19) ∨ q = (t + 20) ∨ q = (t + 21) ∨ (q = (t + 17) ∧ j = 6) ∨ (q = (t + 17) ∧ j = 7) ∨ q = (t + 23) ∨ q = (t + 24) ∨ (q = 100 ∧ j = 2) ∨ (q = 100 ∧ j = 1) ∨ q = 101 ∨ q = (t + 22) ∨ (q = 23 ∧ j = 1)) (V := fun q j => (q = 100 ∧ j = 2) ∨ (q = 100 ∧ j = 1) ∨ q = 101 ∨ q = (t + 22)) FI10 (fun q j h => (h.elim (fun h => (Or.inr (Or.inr (Or.inr (Or.inr (Or.inr (Or.inr (Or.inr (Or.inr (Or.inr (Or.inr (Or.inl h)))))))))))) (fun h => (h.elim (fun h => (Or.inr (Or.inr (Or.inr (Or.inr (Or.inr (Or.inr (Or.inr (Or.inr (Or.inr (Or.inr (Or.inr (Or.inl h))))))))))))) (fun h => (h.elim (fun h => (Or.inr (Or.inr (Or.inr (Or.inr (Or.inr (Or.inr (Or.inr (Or.inr (Or.inr (Or.inr (Or.inr (Or.inr (Or.inl h)))))))))))))) (fun h => (Or.inr (Or.inr (Or.inr (Or.inr (Or.inr (Or.inr (Or.inr (Or.inr (Or.inr (Or.inr (Or.inr (Or.inr (Or.inr (Or.inl h))))))))))))))))))))) g19
  have t23 := gz_hi ((g19 (t + 17) 8).resolve_left (fun h => h.elim (fun h => absurd h.2 (by first | exact gz_ne rfl | decide)) (fun h => h.elim (fun h => absurd h.2 (by first | exact gz_ne rfl | decide)) (fun h => h.elim (fun h => absurd h (gz_sh N_t_17__101)) (fun h => absurd h (gz_sh N_t_17__t_22))))))
  have t24 := gz_hi ((g19 t 11).resolve_left (fun h => h.elim (fun h => absurd h.2 (by first | exact gz_ne rfl | decide)) (fun h => h.elim (fun h => absurd h.2 (by first | exact gz_ne rfl | decide)) (fun h => h.elim (fun h => absurd h (gz_sh N_t__101)) (fun h => absurd h (gz_sh N_t__t_22))))))
  have t25 := gz_hi ((g19 (t + 17) 6).resolve_left (fun h => h.elim (fun h => absurd h.2 (by first | exact gz_ne rfl | decide)) (fun h => h.elim (fun h => absurd h.2 (by first | exact gz_ne rfl | decide)) (fun h => h.elim (fun h => absurd h (gz_sh N_t_17__101)) (fun h => absurd h (gz_sh N_t_17__t_22))))))
  have t26 := gz_hi ((g19 (t + 17) 7).resolve_left (fun h => h.elim (fun h => absurd h.2 (by first | exact gz_ne rfl | decide)) (fun h => h.elim (fun h => absurd h.2 (by first | exact gz_ne rfl | decide)) (fun h => h.elim (fun h => absurd h (gz_sh N_t_17__101)) (fun h => absurd h (gz_sh N_t_17__t_22))))))
  have f28 := gz_hi ((gc_b_75_2 hI20 (gz_sh R_100)))
  obtain rfl : J = J21 := funext fun q => funext fun j => ((k19 q j).resolve_left id).symm
  have KBD_I20 := gh_BD_fr KBD_I10 ((g19 (t + 17) 8).resolve_left (fun h => h.elim (fun h => absurd h.2 (by first | exact gz_ne rfl | decide)) (fun h => h.elim (fun h => absurd h.2 (by first | exact gz_ne rfl | decide)) (fun h => h.elim (fun h => absurd h (gz_sh N_t_17__101)) (fun h => absurd h (gz_sh N_t_17__t_22)))))) ((g19 (t + 17) 9).resolve_left (fun h => h.elim (fun h => absurd h.2 (by first | exact gz_ne rfl | decide)) (fun h => h.elim (fun h => absurd h.2 (by first | exact gz_ne rfl | decide)) (fun h => h.elim (fun h => absurd h (gz_sh N_t_17__101)) (fun h => absurd h (gz_sh N_t_17__t_22)))))) (fun k => (g19 (t + 18) k).resolve_left (fun h => h.elim (fun h => absurd h.1 (gz_sh N_t_18__100)) (fun h => h.elim (fun h => absurd h.1 (gz_sh N_t_18__100)) (fun h => h.elim (fun h => absurd h (gz_sh N_t_18__101)) (fun h => absurd h (gz_sh N_t_18__t_22)))))) (fun k => (g19 (t + 19) k).resolve_left (fun h => h.elim (fun h => absurd h.1 (gz_sh N_t_19__100)) (fun h => h.elim (fun h => absurd h.1 (gz_sh N_t_19__100)) (fun h => h.elim (fun h => absurd h (gz_sh N_t_19__101)) (fun h => absurd h (gz_sh N_t_19__t_22)))))) (fun k => (g19 (t + 20) k).resolve_left (fun h => h.elim (fun h => absurd h.1 (gz_sh N_t_20__100)) (fun h => h.elim (fun h => absurd h.1 (gz_sh N_t_20__100)) (fun h => h.elim (fun h => absurd h (gz_sh N_t_20__101)) (fun h => absurd h (gz_sh N_t_20__t_22)))))) (fun k => (g19 (t + 21) k).resolve_left (fun h => h.elim (fun h => absurd h.1 (gz_sh N_t_21__100)) (fun h => h.elim (fun h => absurd h.1 (gz_sh N_t_21__100)) (fun h => h.elim (fun h => absurd h (gz_sh N_t_21__101)) (fun h => absurd h (gz_sh N_t_21__t_22))))))
  refine gv_callV hD rfl (As := [.inl a1, .inr (.inr (some t)), .inr (.inr (some 23))]) (st := []) rfl (gz_sh B_100) S_100 rfl (gc_lV12 hws rfl) (Nat.le_of_ble_eq_true rfl) (gz_Ev_mono (d := 3) (by decide) E19) ?_
  show gv_X _ _ (27, [(2, .inr (.inr (some t))), (0, .inr (.inr (some 0))), (1, .inl a1)], [.inl z19], sh, gc_h sh I20 J A)
  refine gv_run 2 true hD (pcₚ := 29) (lvₚ := [(3, .inl z19), (2, .inr (.inr (some t))), (0, .inr (.inr (some 0))), (1, .inl a1)]) (stₚ := [.inr (.inr (some 0))]) (hₚ := gc_h sh I20 J A) (C := ((True ∧ True) ∧ True)) rfl ⟨⟨trivial, trivial⟩, trivial⟩ ?_
  refine gv_get hD rfl rfl S_0 ⟨by decide, (gz_sh B_0)⟩ (gc_hA S_0 rfl A_0_1) ?_
  show gv_X _ _ (32, [(3, .inl z19), (2, .inr (.inr (some t))), (0, .inr (.inr (some 0))), (1, .inl a1)], [.inr (.inr (some 23))], sh, gc_h sh I20 J A)
  refine gv_run 1 true hD (pcₚ := 33) (lvₚ := [(3, .inl z19), (2, .inr (.inr (some t))), (0, .inr (.inr (some 0))), (1, .inl a1)]) (stₚ := [.inl 0, .inr (.inr (some 23))]) (hₚ := gc_h sh I20 J A) (C := (True ∧ True)) rfl ⟨trivial, trivial⟩ ?_
  refine gv_put hD rfl rfl S_23 ⟨by decide, (gz_sh B_23)⟩ rfl trivial ?_
  refine gc_st (k := 1) hI20 S_23 rfl (gz_sh R_23) (lo := 0) (hi := 1000) rfl rfl (by (/-46-/first | omega | (simp only [gz_hd] at *; omega))) (by (/-47-/first | omega | (simp only [gz_hd] at *; omega))) (fun I29 hI29 q30 p30 => ?_)
  have FI29 := gc_frs (W := fun q j => (q = (t + 17) ∧ j = 8) ∨ (q = (t + 17) ∧ j = 9) ∨ q = (t + 18) ∨ q = (t + 19) ∨ q = (t + 20) ∨ q = (t + 21) ∨ (q = (t + 17) ∧ j = 6) ∨ (q = (t + 17) ∧ j = 7) ∨ q = (t + 23) ∨ q = (t + 24) ∨ (q = 100 ∧ j = 2) ∨ (q = 100 ∧ j = 1) ∨ q = 101 ∨ q = (t + 22) ∨ (q = 23 ∧ j = 1)) FI20 (Or.inr (Or.inr (Or.inr (Or.inr (Or.inr (Or.inr (Or.inr (Or.inr (Or.inr (Or.inr (Or.inr (Or.inr (Or.inr (Or.inr ⟨rfl, rfl⟩)))))))))))))) p30
  have t31 := gz_hi (p30 100 1 (fun h => absurd h.1 (by first | exact gz_ne rfl | decide)))
  have t32 := gz_hi (p30 100 2 (fun h => absurd h.2 (by first | exact gz_ne rfl | decide)))
  have t33 := gz_hi (p30 (t + 17) 8 (fun h => absurd h.2 (by first | exact gz_ne rfl | decide)))
  have t35 := gz_hi (p30 (t + 17) 6 (fun h => absurd h.2 (by first | exact gz_ne rfl | decide)))
  have t36 := gz_hi (p30 (t + 17) 7 (fun h => absurd h.2 (by first | exact gz_ne rfl | decide)))
  have KBD_I29 := gh_BD_fr KBD_I20 (p30 (t + 17) 8 (fun h => absurd h.2 (by first | exact gz_ne rfl | decide))) (p30 (t + 17) 9 (fun h => absurd h.2 (by first | exact gz_ne rfl | decide))) (fun k => p30 (t + 18) k (fun h => absurd h.1 (gz_sh N_t_18__23))) (fun k => p30 (t + 19) k (fun h => absurd h.1 (gz_sh N_t_19__23))) (fun k => p30 (t + 20) k (fun h => absurd h.1 (gz_sh N_t_20__23))) (fun k => p30 (t + 21) k (fun h => absurd h.1 (gz_sh N_t_21__23)))
  show gv_X _ _ (36, [(3, .inl z19), (2, .inr (.inr (some t))), (0, .inr (.inr (some 0))), (1, .inl a1)], [], sh, gc_h sh I29 J A)
  refine gv_run 1 true hD (pcₚ := 37) (lvₚ := [(3, .inl z19), (2, .inr (.inr (some t))), (0, .inr (.inr (some 0))), (1, .inl a1)]) (stₚ := [.inl z19]) (hₚ := gc_h sh I29 J A) (C := (True ∧ True)) rfl ⟨trivial, trivial⟩ ?_
  exact gv_iret hD rfl ⟨I29, J, rfl, hI29, FI29, FJ, ⟨_, rfl, by (/-48-/first | (have o1 := gz_sh q19; omega) | (simp only [gz_hd] at *; omega)), by (/-49-/first | (have o1 := gz_sh q19; omega) | (simp only [gz_hd] at *; omega)), by (/-50-/first | omega | (simp only [gz_hd] at *; omega)), (gc_FB_fr (gz_sh q9).1 (fun k => ((p30 (t + 17 + 4) k (fun h => absurd h.1 (by (/-51-/first | (have o1 := gz_sh N_t_21__23; omega) | (simp only [gz_hd] at *; omega))))).trans ((g19 (t + 17 + 4) k).resolve_left (by (/-52-/first | (have o1 := gz_sh B_t; have o2 := gz_sh B_t_10; have o3 := gz_sh B_t_13; have o4 := gz_sh B_t_14; have o5 := gz_sh B_t_15; have o6 := gz_sh B_t_16; have o7 := gz_sh B_t_17; have o8 := gz_sh B_t_17_1; have o9 := gz_sh B_t_17_2; have o10 := gz_sh B_t_17_3; have o11 := gz_sh B_t_17_4; have o12 := gz_sh B_t_17_5; have o13 := gz_sh B_t_17_6; have o14 := gz_sh B_t_17_7; have o15 := gz_sh B_t_5; have o16 := gz_sh B_t_6; have o17 := gz_sh B_t_9; omega) | (simp only [gz_hd] at *; omega)))))) (fun k => ((p30 (t + 17 + 3) k (fun h => absurd h.1 (by (/-53-/first | (have o1 := gz_sh N_t_20__23; omega) | (simp only [gz_hd] at *; omega))))).trans ((g19 (t + 17 + 3) k).resolve_left (by (/-54-/first | (have o1 := gz_sh B_t; have o2 := gz_sh B_t_10; have o3 := gz_sh B_t_13; have o4 := gz_sh B_t_14; have o5 := gz_sh B_t_15; have o6 := gz_sh B_t_16; have o7 := gz_sh B_t_17; have o8 := gz_sh B_t_17_1; have o9 := gz_sh B_t_17_2; have o10 := gz_sh B_t_17_3; have o11 := gz_sh B_t_17_4; have o12 := gz_sh B_t_17_5; have o13 := gz_sh B_t_17_6; have o14 := gz_sh B_t_17_7; have o15 := gz_sh B_t_5; have o16 := gz_sh B_t_6; have o17 := gz_sh B_t_9; omega) | (simp only [gz_hd] at *; omega))))))), by (/-55-/first | (have o1 := gz_sh q9; have o2 := gz_sh t23; have o3 := gz_sh t33; omega) | (simp only [gz_hd] at *; omega)), by (/-56-/first | (have o1 := gz_sh f28; have o2 := gz_sh q19; have o3 := gz_sh t31; have o4 := gz_sh t32; omega) | (simp only [gz_hd] at *; omega)), by (/-57-/first | (have o1 := gz_sh q9; have o2 := gz_sh t25; have o3 := gz_sh t26; have o4 := gz_sh t35; have o5 := gz_sh t36; omega) | (simp only [gz_hd] at *; omega)), KBD_I29⟩⟩
set_option maxHeartbeats 8000000 in
set_option maxRecDepth 100000 in
theorem d_X12_guess {ws0 : List Cond} {tb : String → gz_T} (hws : gc_Ws ws0) (htb : gc_tbs tb) (sh : gz_Sh) (ro : Nat → Nat) (I : gr_I) (J : gr_J) (A : gc_A) (hI : gc_Inv ro I) (t : Nat) (a1 : Int) (hb : gc_Base sh ro A) (h_t : gc_isTongue sh ro A t) (G_t : 144 ≤ t) (ha1 : 0 ≤ a1 ∧ a1 ≤ 7) (x0 : 0 ≤ a1 ∧ a1 < I 8 1) (x1 : A 10 (Int.toNat a1) = some t) (x2 : gc_sc (t + 10) I) (x3 : gc_FB (t + 17) (24 * I (t + 17) 8) I) (x4 : I (t + 17) 8 ≤ I t 11) : ∃ r hₚ, gz_Ev ws0 tb 6 (yX12_guess, cX12_guess, 4, (some .int)) [.inr (.inr (some 0)), .inl a1] sh (gc_h sh I J A) r sh hₚ 0 0 ∧ (∃ (Iₚ : gr_I) (Jₚ : gr_J), hₚ = gc_h sh Iₚ Jₚ A ∧ gc_Inv ro Iₚ ∧ (∀ q j : Nat, ((q = (t + 17) ∧ j = 8) ∨ (q = (t + 17) ∧ j = 9) ∨ q = (t + 18) ∨ q = (t + 19) ∨ q = (t + 20) ∨ q = (t + 21) ∨ (q = (t + 17) ∧ j = 6) ∨ (q = (t + 17) ∧ j = 7) ∨ q = (t + 23) ∨ q = (t + 24) ∨ (q = 100 ∧ j = 4) ∨ (q = 100 ∧ j = 7) ∨ (q = 100 ∧ j = 8) ∨ q = 102 ∨ q = 103 ∨ (q = 23 ∧ j = 1)) ∨ Iₚ q j = I q j) ∧ (∀ q j : Nat, (False) ∨ Jₚ q j = J q j) ∧ (∃ z : Int, r = some (.inl z) ∧ (-3) ≤ z ∧ z ≤ 24 ∧ (Iₚ 23 1 = 0) ∧ (gc_FB (t + 17) (24 * I t 11) Iₚ) ∧ (Iₚ (t + 17) 8 = I t 11) ∧ (I (t + 17) 6 = I (t + 17) 7 ∨ ¬ Iₚ (t + 17) 6 = Iₚ (t + 17) 7) ∧ (gh_BD I t Iₚ))) := by
  have FI : ∀ q j : Nat, ((q = (t + 17) ∧ j = 8) ∨ (q = (t + 17) ∧ j = 9) ∨ q = (t + 18) ∨ q = (t + 19) ∨ q = (t + 20) ∨ q = (t + 21) ∨ (q = (t + 17) ∧ j = 6) ∨ (q = (t + 17) ∧ j = 7) ∨ q = (t + 23) ∨ q = (t + 24) ∨ (q = 100 ∧ j = 4) ∨ (q = 100 ∧ j = 7) ∨ (q = 100 ∧ j = 8) ∨ q = 102 ∨ q = 103 ∨ (q = 23 ∧ j = 1)) ∨ I q j = I q j := fun _ _ => Or.inr rfl
  have FJ : ∀ q j : Nat, (False) ∨ J q j = J q j := fun _ _ => Or.inr rfl
  have A_0_1 : A 0 1 = some 23 := gc_bA_0_1 hb
  have A_0_10 : A 0 10 = some 100 := gc_bA_0_10 hb
  have B_0 := gz_hi (show 0 < 1000000 from by decide)
  have B_100 := gz_hi (show 100 < 1000000 from by decide)
  have B_23 := gz_hi (show 23 < 1000000 from by decide)
  have R_23 := gz_hi (show ro 23 = 3 from gc_bR_23 hb)
  have S_0 : sh[0]? = some (false, 12, 17) := gc_bS_0 hb
  have S_100 : sh[100]? = some (false, 1, 19) := gc_bS_100 hb
  have S_23 : sh[23]? = some (false, 9, 10) := gc_bS_23 hb
  obtain ⟨S_t, R_t, B_t, A_t_0, h_t_1, A_t_1, h_t_3, A_t_2, S_t_5, R_t_5, B_t_5, A_t_3, S_t_6, R_t_6, B_t_6, A_t_4, h_t_7, A_t_5, S_t_9, R_t_9, B_t_9, A_t_7, S_t_10, R_t_10, B_t_10, A_t_8, h_t_11, A_t_9, S_t_13, R_t_13, B_t_13, A_t_10, S_t_14, R_t_14, B_t_14, A_t_12, S_t_15, R_t_15, B_t_15, A_t_14, S_t_16, R_t_16, B_t_16, A_t_15, h_t_17⟩ := id h_t
  replace R_t := gz_hi R_t
  replace B_t := gz_hi B_t
  replace R_t_5 := gz_hi R_t_5
  replace B_t_5 := gz_hi B_t_5
  replace R_t_6 := gz_hi R_t_6
  replace B_t_6 := gz_hi B_t_6
  replace R_t_9 := gz_hi R_t_9
  replace B_t_9 := gz_hi B_t_9
  replace R_t_10 := gz_hi R_t_10
  replace B_t_10 := gz_hi B_t_10
  replace R_t_13 := gz_hi R_t_13
  replace B_t_13 := gz_hi B_t_13
  replace R_t_14 := gz_hi R_t_14
  replace B_t_14 := gz_hi B_t_14
  replace R_t_15 := gz_hi R_t_15
  replace B_t_15 := gz_hi B_t_15
  replace R_t_16 := gz_hi R_t_16
  replace B_t_16 := gz_hi B_t_16
  obtain ⟨S_t_1, R_t_1, B_t_1, A_t_1_0, S_t_1_1, R_t_1_1, B_t_1_1, Q0_t_1, Q1_t_1, Q2_t_1⟩ := id h_t_1
  replace R_t_1 := gz_hi R_t_1
  replace B_t_1 := gz_hi B_t_1
  replace R_t_1_1 := gz_hi R_t_1_1
  replace B_t_1_1 := gz_hi B_t_1_1
  obtain ⟨S_t_3, R_t_3, B_t_3, A_t_3_0, S_t_3_1, R_t_3_1, B_t_3_1, Q0_t_3, Q1_t_3, Q2_t_3⟩ := id h_t_3
  replace R_t_3 := gz_hi R_t_3
  replace B_t_3 := gz_hi B_t_3
  replace R_t_3_1 := gz_hi R_t_3_1
  replace B_t_3_1 := gz_hi B_t_3_1
  obtain ⟨S_t_7, R_t_7, B_t_7, A_t_7_0, S_t_7_1, R_t_7_1, B_t_7_1, Q0_t_7, Q1_t_7, Q2_t_7⟩ := id h_t_7
  replace R_t_7 := gz_hi R_t_7
  replace B_t_7 := gz_hi B_t_7
  replace R_t_7_1 := gz_hi R_t_7_1
  replace B_t_7_1 := gz_hi B_t_7_1
  obtain ⟨S_t_11, R_t_11, B_t_11, A_t_11_0, S_t_11_1, R_t_11_1, B_t_11_1, Q0_t_11, Q1_t_11, Q2_t_11⟩ := id h_t_11
  replace R_t_11 := gz_hi R_t_11
  replace B_t_11 := gz_hi B_t_11
  replace R_t_11_1 := gz_hi R_t_11_1
  replace B_t_11_1 := gz_hi B_t_11_1
  obtain ⟨S_t_17, R_t_17, B_t_17, A_t_17_0, S_20, R_20, B_20, A_t_17_1, S_t_17_1, R_t_17_1, B_t_17_1, A_t_17_2, S_t_17_2, R_t_17_2, B_t_17_2, A_t_17_3, S_t_17_3, R_t_17_3, B_t_17_3, A_t_17_4, S_t_17_4, R_t_17_4, B_t_17_4, A_t_17_5, S_t_17_5, R_t_17_5, B_t_17_5, S_t_17_6, R_t_17_6, B_t_17_6, S_t_17_7, R_t_17_7, B_t_17_7⟩ := id h_t_17
  replace R_t_17 := gz_hi R_t_17
  replace B_t_17 := gz_hi B_t_17
  replace R_20 := gz_hi R_20
  replace B_20 := gz_hi B_20
  replace R_t_17_1 := gz_hi R_t_17_1
  replace B_t_17_1 := gz_hi B_t_17_1
  replace R_t_17_2 := gz_hi R_t_17_2
  replace B_t_17_2 := gz_hi B_t_17_2
  replace R_t_17_3 := gz_hi R_t_17_3
  replace B_t_17_3 := gz_hi B_t_17_3
  replace R_t_17_4 := gz_hi R_t_17_4
  replace B_t_17_4 := gz_hi B_t_17_4
  replace R_t_17_5 := gz_hi R_t_17_5
  replace B_t_17_5 := gz_hi B_t_17_5
  replace R_t_17_6 := gz_hi R_t_17_6
  replace B_t_17_6 := gz_hi B_t_17_6
  replace R_t_17_7 := gz_hi R_t_17_7
  replace B_t_17_7 := gz_hi B_t_17_7
  have hD : gv_D (gc_E12 ws0 tb 5 (yX12_guess, cX12_guess, 4, (some .int)) kX12_guess) := gq_of oX12_guess
  refine gc_ev12 (d := 5) (l := kX12_guess) (Po := fun r hₚ => (∃ (Iₚ : gr_I) (Jₚ : gr_J), hₚ = gc_h sh Iₚ Jₚ A ∧ gc_Inv ro Iₚ ∧ (∀ q j : Nat, ((q = (t + 17) ∧ j = 8) ∨ (q = (t + 17) ∧ j = 9) ∨ q = (t + 18) ∨ q = (t + 19) ∨ q = (t + 20) ∨ q = (t + 21) ∨ (q = (t + 17) ∧ j = 6) ∨ (q = (t + 17) ∧ j = 7) ∨ q = (t + 23) ∨ q = (t + 24) ∨ (q = 100 ∧ j = 4) ∨ (q = 100 ∧ j = 7) ∨ (q = 100 ∧ j = 8) ∨ q = 102 ∨ q = 103 ∨ (q = 23 ∧ j = 1)) ∨ Iₚ q j = I q j) ∧ (∀ q j : Nat, (False) ∨ Jₚ q j = J q j) ∧ (∃ z : Int, r = some (.inl z) ∧ (-3) ≤ z ∧ z ≤ 24 ∧ (Iₚ 23 1 = 0) ∧ (gc_FB (t + 17) (24 * I t 11) Iₚ) ∧ (Iₚ (t + 17) 8 = I t 11) ∧ (I (t + 17) 6 = I (t + 17) 7 ∨ ¬ Iₚ (t + 17) 6 = Iₚ (t + 17) 7) ∧ (gh_BD I t Iₚ)))) htb rfl (Nat.le_of_ble_eq_true rfl) ?_
  have N_23__t_18 := gz_hi (show ¬ (23 = (t + 18)) from by (/-0-/first | (have o1 := gz_sh B_t; have o2 := gz_sh B_t_10; have o3 := gz_sh B_t_13; have o4 := gz_sh B_t_14; have o5 := gz_sh B_t_15; have o6 := gz_sh B_t_16; have o7 := gz_sh B_t_17; have o8 := gz_sh B_t_17_1; have o9 := gz_sh B_t_17_2; have o10 := gz_sh B_t_17_3; have o11 := gz_sh B_t_17_4; have o12 := gz_sh B_t_17_5; have o13 := gz_sh B_t_17_6; have o14 := gz_sh B_t_17_7; have o15 := gz_sh B_t_5; have o16 := gz_sh B_t_6; have o17 := gz_sh B_t_9; omega) | (simp only [gz_hd] at *; omega)))
  have N_23__t_19 := gz_hi (show ¬ (23 = (t + 19)) from by (/-1-/first | (have o1 := gz_sh B_t; have o2 := gz_sh B_t_10; have o3 := gz_sh B_t_13; have o4 := gz_sh B_t_14; have o5 := gz_sh B_t_15; have o6 := gz_sh B_t_16; have o7 := gz_sh B_t_17; have o8 := gz_sh B_t_17_1; have o9 := gz_sh B_t_17_2; have o10 := gz_sh B_t_17_3; have o11 := gz_sh B_t_17_4; have o12 := gz_sh B_t_17_5; have o13 := gz_sh B_t_17_6; have o14 := gz_sh B_t_17_7; have o15 := gz_sh B_t_5; have o16 := gz_sh B_t_6; have o17 := gz_sh B_t_9; omega) | (simp only [gz_hd] at *; omega)))
  have N_23__t_20 := gz_hi (show ¬ (23 = (t + 20)) from by (/-2-/first | (have o1 := gz_sh B_t; have o2 := gz_sh B_t_10; have o3 := gz_sh B_t_13; have o4 := gz_sh B_t_14; have o5 := gz_sh B_t_15; have o6 := gz_sh B_t_16; have o7 := gz_sh B_t_17; have o8 := gz_sh B_t_17_1; have o9 := gz_sh B_t_17_2; have o10 := gz_sh B_t_17_3; have o11 := gz_sh B_t_17_4; have o12 := gz_sh B_t_17_5; have o13 := gz_sh B_t_17_6; have o14 := gz_sh B_t_17_7; have o15 := gz_sh B_t_5; have o16 := gz_sh B_t_6; have o17 := gz_sh B_t_9; omega) | (simp only [gz_hd] at *; omega)))
  have N_23__t_21 := gz_hi (show ¬ (23 = (t + 21)) from by (/-3-/first | (have o1 := gz_sh B_t; have o2 := gz_sh B_t_10; have o3 := gz_sh B_t_13; have o4 := gz_sh B_t_14; have o5 := gz_sh B_t_15; have o6 := gz_sh B_t_16; have o7 := gz_sh B_t_17; have o8 := gz_sh B_t_17_1; have o9 := gz_sh B_t_17_2; have o10 := gz_sh B_t_17_3; have o11 := gz_sh B_t_17_4; have o12 := gz_sh B_t_17_5; have o13 := gz_sh B_t_17_6; have o14 := gz_sh B_t_17_7; have o15 := gz_sh B_t_5; have o16 := gz_sh B_t_6; have o17 := gz_sh B_t_9; omega) | (simp only [gz_hd] at *; omega)))
  have N_23__t_23 := gz_hi (show ¬ (23 = (t + 23)) from by (/-4-/first | (have o1 := gz_sh B_t; have o2 := gz_sh B_t_10; have o3 := gz_sh B_t_13; have o4 := gz_sh B_t_14; have o5 := gz_sh B_t_15; have o6 := gz_sh B_t_16; have o7 := gz_sh B_t_17; have o8 := gz_sh B_t_17_1; have o9 := gz_sh B_t_17_2; have o10 := gz_sh B_t_17_3; have o11 := gz_sh B_t_17_4; have o12 := gz_sh B_t_17_5; have o13 := gz_sh B_t_17_6; have o14 := gz_sh B_t_17_7; have o15 := gz_sh B_t_5; have o16 := gz_sh B_t_6; have o17 := gz_sh B_t_9; omega) | (simp only [gz_hd] at *; omega)))
  have N_23__t_24 := gz_hi (show ¬ (23 = (t + 24)) from by (/-5-/first | (have o1 := gz_sh B_t; have o2 := gz_sh B_t_10; have o3 := gz_sh B_t_13; have o4 := gz_sh B_t_14; have o5 := gz_sh B_t_15; have o6 := gz_sh B_t_16; have o7 := gz_sh B_t_17; have o8 := gz_sh B_t_17_1; have o9 := gz_sh B_t_17_2; have o10 := gz_sh B_t_17_3; have o11 := gz_sh B_t_17_4; have o12 := gz_sh B_t_17_5; have o13 := gz_sh B_t_17_6; have o14 := gz_sh B_t_17_7; have o15 := gz_sh B_t_5; have o16 := gz_sh B_t_6; have o17 := gz_sh B_t_9; omega) | (simp only [gz_hd] at *; omega)))
  have N_t__t_18 := gz_hi (show ¬ (t = (t + 18)) from by (/-6-/first | omega | (simp only [gz_hd] at *; omega)))
  have N_t__t_19 := gz_hi (show ¬ (t = (t + 19)) from by (/-7-/first | omega | (simp only [gz_hd] at *; omega)))
  have N_t__t_20 := gz_hi (show ¬ (t = (t + 20)) from by (/-8-/first | omega | (simp only [gz_hd] at *; omega)))
  have N_t__t_21 := gz_hi (show ¬ (t = (t + 21)) from by (/-9-/first | omega | (simp only [gz_hd] at *; omega)))
  have N_t__t_23 := gz_hi (show ¬ (t = (t + 23)) from by (/-10-/first | omega | (simp only [gz_hd] at *; omega)))
  have N_t__t_24 := gz_hi (show ¬ (t = (t + 24)) from by (/-11-/first | omega | (simp only [gz_hd] at *; omega)))
  have N_t_17__100 := gz_hi (show ¬ ((t + 17) = 100) from by (/-12-/first | (have o1 := gz_sh B_t; have o2 := gz_sh B_t_10; have o3 := gz_sh B_t_13; have o4 := gz_sh B_t_14; have o5 := gz_sh B_t_15; have o6 := gz_sh B_t_16; have o7 := gz_sh B_t_17; have o8 := gz_sh B_t_17_1; have o9 := gz_sh B_t_17_2; have o10 := gz_sh B_t_17_3; have o11 := gz_sh B_t_17_4; have o12 := gz_sh B_t_17_5; have o13 := gz_sh B_t_17_6; have o14 := gz_sh B_t_17_7; have o15 := gz_sh B_t_5; have o16 := gz_sh B_t_6; have o17 := gz_sh B_t_9; omega) | (simp only [gz_hd] at *; omega)))
  have N_t_17__102 := gz_hi (show ¬ ((t + 17) = 102) from by (/-13-/first | (have o1 := gz_sh B_t; have o2 := gz_sh B_t_10; have o3 := gz_sh B_t_13; have o4 := gz_sh B_t_14; have o5 := gz_sh B_t_15; have o6 := gz_sh B_t_16; have o7 := gz_sh B_t_17; have o8 := gz_sh B_t_17_1; have o9 := gz_sh B_t_17_2; have o10 := gz_sh B_t_17_3; have o11 := gz_sh B_t_17_4; have o12 := gz_sh B_t_17_5; have o13 := gz_sh B_t_17_6; have o14 := gz_sh B_t_17_7; have o15 := gz_sh B_t_5; have o16 := gz_sh B_t_6; have o17 := gz_sh B_t_9; omega) | (simp only [gz_hd] at *; omega)))
  have N_t_17__103 := gz_hi (show ¬ ((t + 17) = 103) from by (/-14-/first | (have o1 := gz_sh B_t; have o2 := gz_sh B_t_10; have o3 := gz_sh B_t_13; have o4 := gz_sh B_t_14; have o5 := gz_sh B_t_15; have o6 := gz_sh B_t_16; have o7 := gz_sh B_t_17; have o8 := gz_sh B_t_17_1; have o9 := gz_sh B_t_17_2; have o10 := gz_sh B_t_17_3; have o11 := gz_sh B_t_17_4; have o12 := gz_sh B_t_17_5; have o13 := gz_sh B_t_17_6; have o14 := gz_sh B_t_17_7; have o15 := gz_sh B_t_5; have o16 := gz_sh B_t_6; have o17 := gz_sh B_t_9; omega) | (simp only [gz_hd] at *; omega)))
  have N_t__102 := gz_hi (show ¬ (t = 102) from by (/-15-/first | (have o1 := gz_sh B_t; have o2 := gz_sh B_t_10; have o3 := gz_sh B_t_13; have o4 := gz_sh B_t_14; have o5 := gz_sh B_t_15; have o6 := gz_sh B_t_16; have o7 := gz_sh B_t_17; have o8 := gz_sh B_t_17_1; have o9 := gz_sh B_t_17_2; have o10 := gz_sh B_t_17_3; have o11 := gz_sh B_t_17_4; have o12 := gz_sh B_t_17_5; have o13 := gz_sh B_t_17_6; have o14 := gz_sh B_t_17_7; have o15 := gz_sh B_t_5; have o16 := gz_sh B_t_6; have o17 := gz_sh B_t_9; omega) | (simp only [gz_hd] at *; omega)))
  have N_t__103 := gz_hi (show ¬ (t = 103) from by (/-16-/first | (have o1 := gz_sh B_t; have o2 := gz_sh B_t_10; have o3 := gz_sh B_t_13; have o4 := gz_sh B_t_14; have o5 := gz_sh B_t_15; have o6 := gz_sh B_t_16; have o7 := gz_sh B_t_17; have o8 := gz_sh B_t_17_1; have o9 := gz_sh B_t_17_2; have o10 := gz_sh B_t_17_3; have o11 := gz_sh B_t_17_4; have o12 := gz_sh B_t_17_5; have o13 := gz_sh B_t_17_6; have o14 := gz_sh B_t_17_7; have o15 := gz_sh B_t_5; have o16 := gz_sh B_t_6; have o17 := gz_sh B_t_9; omega) | (simp only [gz_hd] at *; omega)))
  have N_t_18__100 := gz_hi (show ¬ ((t + 18) = 100) from by (/-17-/first | (have o1 := gz_sh B_t; have o2 := gz_sh B_t_10; have o3 := gz_sh B_t_13; have o4 := gz_sh B_t_14; have o5 := gz_sh B_t_15; have o6 := gz_sh B_t_16; have o7 := gz_sh B_t_17; have o8 := gz_sh B_t_17_1; have o9 := gz_sh B_t_17_2; have o10 := gz_sh B_t_17_3; have o11 := gz_sh B_t_17_4; have o12 := gz_sh B_t_17_5; have o13 := gz_sh B_t_17_6; have o14 := gz_sh B_t_17_7; have o15 := gz_sh B_t_5; have o16 := gz_sh B_t_6; have o17 := gz_sh B_t_9; omega) | (simp only [gz_hd] at *; omega)))
  have N_t_18__102 := gz_hi (show ¬ ((t + 18) = 102) from by (/-18-/first | (have o1 := gz_sh B_t; have o2 := gz_sh B_t_10; have o3 := gz_sh B_t_13; have o4 := gz_sh B_t_14; have o5 := gz_sh B_t_15; have o6 := gz_sh B_t_16; have o7 := gz_sh B_t_17; have o8 := gz_sh B_t_17_1; have o9 := gz_sh B_t_17_2; have o10 := gz_sh B_t_17_3; have o11 := gz_sh B_t_17_4; have o12 := gz_sh B_t_17_5; have o13 := gz_sh B_t_17_6; have o14 := gz_sh B_t_17_7; have o15 := gz_sh B_t_5; have o16 := gz_sh B_t_6; have o17 := gz_sh B_t_9; omega) | (simp only [gz_hd] at *; omega)))
  have N_t_18__103 := gz_hi (show ¬ ((t + 18) = 103) from by (/-19-/first | (have o1 := gz_sh B_t; have o2 := gz_sh B_t_10; have o3 := gz_sh B_t_13; have o4 := gz_sh B_t_14; have o5 := gz_sh B_t_15; have o6 := gz_sh B_t_16; have o7 := gz_sh B_t_17; have o8 := gz_sh B_t_17_1; have o9 := gz_sh B_t_17_2; have o10 := gz_sh B_t_17_3; have o11 := gz_sh B_t_17_4; have o12 := gz_sh B_t_17_5; have o13 := gz_sh B_t_17_6; have o14 := gz_sh B_t_17_7; have o15 := gz_sh B_t_5; have o16 := gz_sh B_t_6; have o17 := gz_sh B_t_9; omega) | (simp only [gz_hd] at *; omega)))
  have N_t_19__100 := gz_hi (show ¬ ((t + 19) = 100) from by (/-20-/first | (have o1 := gz_sh B_t; have o2 := gz_sh B_t_10; have o3 := gz_sh B_t_13; have o4 := gz_sh B_t_14; have o5 := gz_sh B_t_15; have o6 := gz_sh B_t_16; have o7 := gz_sh B_t_17; have o8 := gz_sh B_t_17_1; have o9 := gz_sh B_t_17_2; have o10 := gz_sh B_t_17_3; have o11 := gz_sh B_t_17_4; have o12 := gz_sh B_t_17_5; have o13 := gz_sh B_t_17_6; have o14 := gz_sh B_t_17_7; have o15 := gz_sh B_t_5; have o16 := gz_sh B_t_6; have o17 := gz_sh B_t_9; omega) | (simp only [gz_hd] at *; omega)))
  have N_t_19__102 := gz_hi (show ¬ ((t + 19) = 102) from by (/-21-/first | (have o1 := gz_sh B_t; have o2 := gz_sh B_t_10; have o3 := gz_sh B_t_13; have o4 := gz_sh B_t_14; have o5 := gz_sh B_t_15; have o6 := gz_sh B_t_16; have o7 := gz_sh B_t_17; have o8 := gz_sh B_t_17_1; have o9 := gz_sh B_t_17_2; have o10 := gz_sh B_t_17_3; have o11 := gz_sh B_t_17_4; have o12 := gz_sh B_t_17_5; have o13 := gz_sh B_t_17_6; have o14 := gz_sh B_t_17_7; have o15 := gz_sh B_t_5; have o16 := gz_sh B_t_6; have o17 := gz_sh B_t_9; omega) | (simp only [gz_hd] at *; omega)))
  have N_t_19__103 := gz_hi (show ¬ ((t + 19) = 103) from by (/-22-/first | (have o1 := gz_sh B_t; have o2 := gz_sh B_t_10; have o3 := gz_sh B_t_13; have o4 := gz_sh B_t_14; have o5 := gz_sh B_t_15; have o6 := gz_sh B_t_16; have o7 := gz_sh B_t_17; have o8 := gz_sh B_t_17_1; have o9 := gz_sh B_t_17_2; have o10 := gz_sh B_t_17_3; have o11 := gz_sh B_t_17_4; have o12 := gz_sh B_t_17_5; have o13 := gz_sh B_t_17_6; have o14 := gz_sh B_t_17_7; have o15 := gz_sh B_t_5; have o16 := gz_sh B_t_6; have o17 := gz_sh B_t_9; omega) | (simp only [gz_hd] at *; omega)))
  have N_t_20__100 := gz_hi (show ¬ ((t + 20) = 100) from by (/-23-/first | (have o1 := gz_sh B_t; have o2 := gz_sh B_t_10; have o3 := gz_sh B_t_13; have o4 := gz_sh B_t_14; have o5 := gz_sh B_t_15; have o6 := gz_sh B_t_16; have o7 := gz_sh B_t_17; have o8 := gz_sh B_t_17_1; have o9 := gz_sh B_t_17_2; have o10 := gz_sh B_t_17_3; have o11 := gz_sh B_t_17_4; have o12 := gz_sh B_t_17_5; have o13 := gz_sh B_t_17_6; have o14 := gz_sh B_t_17_7; have o15 := gz_sh B_t_5; have o16 := gz_sh B_t_6; have o17 := gz_sh B_t_9; omega) | (simp only [gz_hd] at *; omega)))
  have N_t_20__102 := gz_hi (show ¬ ((t + 20) = 102) from by (/-24-/first | (have o1 := gz_sh B_t; have o2 := gz_sh B_t_10; have o3 := gz_sh B_t_13; have o4 := gz_sh B_t_14; have o5 := gz_sh B_t_15; have o6 := gz_sh B_t_16; have o7 := gz_sh B_t_17; have o8 := gz_sh B_t_17_1; have o9 := gz_sh B_t_17_2; have o10 := gz_sh B_t_17_3; have o11 := gz_sh B_t_17_4; have o12 := gz_sh B_t_17_5; have o13 := gz_sh B_t_17_6; have o14 := gz_sh B_t_17_7; have o15 := gz_sh B_t_5; have o16 := gz_sh B_t_6; have o17 := gz_sh B_t_9; omega) | (simp only [gz_hd] at *; omega)))
  have N_t_20__103 := gz_hi (show ¬ ((t + 20) = 103) from by (/-25-/first | (have o1 := gz_sh B_t; have o2 := gz_sh B_t_10; have o3 := gz_sh B_t_13; have o4 := gz_sh B_t_14; have o5 := gz_sh B_t_15; have o6 := gz_sh B_t_16; have o7 := gz_sh B_t_17; have o8 := gz_sh B_t_17_1; have o9 := gz_sh B_t_17_2; have o10 := gz_sh B_t_17_3; have o11 := gz_sh B_t_17_4; have o12 := gz_sh B_t_17_5; have o13 := gz_sh B_t_17_6; have o14 := gz_sh B_t_17_7; have o15 := gz_sh B_t_5; have o16 := gz_sh B_t_6; have o17 := gz_sh B_t_9; omega) | (simp only [gz_hd] at *; omega)))
  have N_t_21__100 := gz_hi (show ¬ ((t + 21) = 100) from by (/-26-/first | (have o1 := gz_sh B_t; have o2 := gz_sh B_t_10; have o3 := gz_sh B_t_13; have o4 := gz_sh B_t_14; have o5 := gz_sh B_t_15; have o6 := gz_sh B_t_16; have o7 := gz_sh B_t_17; have o8 := gz_sh B_t_17_1; have o9 := gz_sh B_t_17_2; have o10 := gz_sh B_t_17_3; have o11 := gz_sh B_t_17_4; have o12 := gz_sh B_t_17_5; have o13 := gz_sh B_t_17_6; have o14 := gz_sh B_t_17_7; have o15 := gz_sh B_t_5; have o16 := gz_sh B_t_6; have o17 := gz_sh B_t_9; omega) | (simp only [gz_hd] at *; omega)))
  have N_t_21__102 := gz_hi (show ¬ ((t + 21) = 102) from by (/-27-/first | (have o1 := gz_sh B_t; have o2 := gz_sh B_t_10; have o3 := gz_sh B_t_13; have o4 := gz_sh B_t_14; have o5 := gz_sh B_t_15; have o6 := gz_sh B_t_16; have o7 := gz_sh B_t_17; have o8 := gz_sh B_t_17_1; have o9 := gz_sh B_t_17_2; have o10 := gz_sh B_t_17_3; have o11 := gz_sh B_t_17_4; have o12 := gz_sh B_t_17_5; have o13 := gz_sh B_t_17_6; have o14 := gz_sh B_t_17_7; have o15 := gz_sh B_t_5; have o16 := gz_sh B_t_6; have o17 := gz_sh B_t_9; omega) | (simp only [gz_hd] at *; omega)))
  have N_t_21__103 := gz_hi (show ¬ ((t + 21) = 103) from by (/-28-/first | (have o1 := gz_sh B_t; have o2 := gz_sh B_t_10; have o3 := gz_sh B_t_13; have o4 := gz_sh B_t_14; have o5 := gz_sh B_t_15; have o6 := gz_sh B_t_16; have o7 := gz_sh B_t_17; have o8 := gz_sh B_t_17_1; have o9 := gz_sh B_t_17_2; have o10 := gz_sh B_t_17_3; have o11 := gz_sh B_t_17_4; have o12 := gz_sh B_t_17_5; have o13 := gz_sh B_t_17_6; have o14 := gz_sh B_t_17_7; have o15 := gz_sh B_t_5; have o16 := gz_sh B_t_6; have o17 := gz_sh B_t_9; omega) | (simp only [gz_hd] at *; omega)))
  have N_t_18__23 := gz_hi (show ¬ ((t + 18) = 23) from by (/-29-/first | (have o1 := gz_sh B_t; have o2 := gz_sh B_t_10; have o3 := gz_sh B_t_13; have o4 := gz_sh B_t_14; have o5 := gz_sh B_t_15; have o6 := gz_sh B_t_16; have o7 := gz_sh B_t_17; have o8 := gz_sh B_t_17_1; have o9 := gz_sh B_t_17_2; have o10 := gz_sh B_t_17_3; have o11 := gz_sh B_t_17_4; have o12 := gz_sh B_t_17_5; have o13 := gz_sh B_t_17_6; have o14 := gz_sh B_t_17_7; have o15 := gz_sh B_t_5; have o16 := gz_sh B_t_6; have o17 := gz_sh B_t_9; omega) | (simp only [gz_hd] at *; omega)))
  have N_t_19__23 := gz_hi (show ¬ ((t + 19) = 23) from by (/-30-/first | (have o1 := gz_sh B_t; have o2 := gz_sh B_t_10; have o3 := gz_sh B_t_13; have o4 := gz_sh B_t_14; have o5 := gz_sh B_t_15; have o6 := gz_sh B_t_16; have o7 := gz_sh B_t_17; have o8 := gz_sh B_t_17_1; have o9 := gz_sh B_t_17_2; have o10 := gz_sh B_t_17_3; have o11 := gz_sh B_t_17_4; have o12 := gz_sh B_t_17_5; have o13 := gz_sh B_t_17_6; have o14 := gz_sh B_t_17_7; have o15 := gz_sh B_t_5; have o16 := gz_sh B_t_6; have o17 := gz_sh B_t_9; omega) | (simp only [gz_hd] at *; omega)))
  have N_t_20__23 := gz_hi (show ¬ ((t + 20) = 23) from by (/-31-/first | (have o1 := gz_sh B_t; have o2 := gz_sh B_t_10; have o3 := gz_sh B_t_13; have o4 := gz_sh B_t_14; have o5 := gz_sh B_t_15; have o6 := gz_sh B_t_16; have o7 := gz_sh B_t_17; have o8 := gz_sh B_t_17_1; have o9 := gz_sh B_t_17_2; have o10 := gz_sh B_t_17_3; have o11 := gz_sh B_t_17_4; have o12 := gz_sh B_t_17_5; have o13 := gz_sh B_t_17_6; have o14 := gz_sh B_t_17_7; have o15 := gz_sh B_t_5; have o16 := gz_sh B_t_6; have o17 := gz_sh B_t_9; omega) | (simp only [gz_hd] at *; omega)))
  have N_t_21__23 := gz_hi (show ¬ ((t + 21) = 23) from by (/-32-/first | (have o1 := gz_sh B_t; have o2 := gz_sh B_t_10; have o3 := gz_sh B_t_13; have o4 := gz_sh B_t_14; have o5 := gz_sh B_t_15; have o6 := gz_sh B_t_16; have o7 := gz_sh B_t_17; have o8 := gz_sh B_t_17_1; have o9 := gz_sh B_t_17_2; have o10 := gz_sh B_t_17_3; have o11 := gz_sh B_t_17_4; have o12 := gz_sh B_t_17_5; have o13 := gz_sh B_t_17_6; have o14 := gz_sh B_t_17_7; have o15 := gz_sh B_t_5; have o16 := gz_sh B_t_6; have o17 := gz_sh B_t_9; omega) | (simp only [gz_hd] at *; omega)))
  have KBD_I : gh_BD I t I := gh_BD_rf
  refine gv_run 2 true hD (pcₚ := 2) (lvₚ := [(0, .inr (.inr (some 0))), (1, .inl a1)]) (stₚ := [.inl a1, .inr (.inr (some 0))]) (hₚ := gc_h sh I J A) (C := ((True ∧ True) ∧ True)) rfl ⟨⟨trivial, trivial⟩, trivial⟩ ?_
  refine gv_callV hD rfl (As := [.inl a1]) (st := []) rfl (gz_sh B_0) S_0 rfl (gc_lV12 hws rfl) (Nat.le_of_ble_eq_true rfl) (gz_Ev_mono (d := 1) (by decide) (d_X12_tongueAt hws htb (J := J) hI hb (by (/-33-/first | omega | (simp only [gz_hd] at *; omega))) (by (/-34-/first | omega | (simp only [gz_hd] at *; omega))) x1)) ?_
  show gv_X _ _ (5, [(0, .inr (.inr (some 0))), (1, .inl a1)], [.inr (.inr (some t))], sh, gc_h sh I J A)
  refine gv_run 2 true hD (pcₚ := 7) (lvₚ := [(2, .inr (.inr (some t))), (0, .inr (.inr (some 0))), (1, .inl a1)]) (stₚ := [.inr (.inr (some t))]) (hₚ := gc_h sh I J A) (C := ((True ∧ True) ∧ True)) rfl ⟨⟨trivial, trivial⟩, trivial⟩ ?_
  refine gv_get hD rfl rfl S_t ⟨by decide, (gz_sh B_t)⟩ (gc_hA S_t rfl A_t_15) ?_
  show gv_X _ _ (10, [(2, .inr (.inr (some t))), (0, .inr (.inr (some 0))), (1, .inl a1)], [.inr (.inr (some (t + 17)))], sh, gc_h sh I J A)
  refine gv_run 1 true hD (pcₚ := 11) (lvₚ := [(2, .inr (.inr (some t))), (0, .inr (.inr (some 0))), (1, .inl a1)]) (stₚ := [.inr (.inr (some t)), .inr (.inr (some (t + 17)))]) (hₚ := gc_h sh I J A) (C := (True ∧ True)) rfl ⟨trivial, trivial⟩ ?_
  obtain ⟨r7, h7, E7, P7⟩ := d_X2_build_b (ws0 := ws0) (tb := tb) hws htb sh ro I J A hI (t + 17) t h_t_17 h_t G_t   x2 rfl x3 (by (/-35-/first | omega | (simp only [gz_hd] at *; omega))) 
  obtain ⟨I8, J9, rfl, hI8, g7, k7, ⟨rfl, q7⟩⟩ := P7
  replace q7 := gz_hi q7
  have FI8 := gc_frc (W := fun q j => (q = (t + 17) ∧ j = 8) ∨ (q = (t + 17) ∧ j = 9) ∨ q = (t + 18) ∨ q = (t + 19) ∨ q = (t + 20) ∨ q = (t + 21) ∨ (q = (t + 17) ∧ j = 6) ∨ (q = (t + 17) ∧ j = 7) ∨ q = (t + 23) ∨ q = (t + 24) ∨ (q = 100 ∧ j = 4) ∨ (q = 100 ∧ j = 7) ∨ (q = 100 ∧ j = 8) ∨ q = 102 ∨ q = 103 ∨ (q = 23 ∧ j = 1)) (V := fun q j => (q = (t + 17) ∧ j = 6) ∨ (q = (t + 17) ∧ j = 7) ∨ (q = (t + 17) ∧ j = 8) ∨ (q = (t + 17) ∧ j = 9) ∨ q = (t + 18) ∨ q = (t + 19) ∨ q = (t + 20) ∨ q = (t + 21) ∨ q = (t + 23) ∨ q = (t + 24)) FI (fun q j h => (h.elim (fun h => (Or.inr (Or.inr (Or.inr (Or.inr (Or.inr (Or.inr (Or.inl h)))))))) (fun h => (h.elim (fun h => (Or.inr (Or.inr (Or.inr (Or.inr (Or.inr (Or.inr (Or.inr (Or.inl h))))))))) (fun h => (h.elim (fun h => (Or.inl h)) (fun h => (h.elim (fun h => (Or.inr (Or.inl h))) (fun h => (h.elim (fun h => (Or.inr (Or.inr (Or.inl h)))) (fun h => (h.elim (fun h => (Or.inr (Or.inr (Or.inr (Or.inl h))))) (fun h => (h.elim (fun h => (Or.inr (Or.inr (Or.inr (Or.inr (Or.inl h)))))) (fun h => (h.elim (fun h => (Or.inr (Or.inr (Or.inr (Or.inr (Or.inr (Or.inl h))))))) (fun h => (h.elim (fun h => (Or.inr (Or.inr (Or.inr (Or.inr (Or.inr (Or.inr (Or.inr (Or.inr (Or.inl h)))))))))) (fun h => (Or.inr (Or.inr (Or.inr (Or.inr (Or.inr (Or.inr (Or.inr (Or.inr (Or.inr (Or.inl h))))))))))))))))))))))))))))) g7
  have t11 := gz_hi ((g7 t 11).resolve_left (fun h => h.elim (fun h => absurd h.2 (by first | exact gz_ne rfl | decide)) (fun h => h.elim (fun h => absurd h.2 (by first | exact gz_ne rfl | decide)) (fun h => h.elim (fun h => absurd h.2 (by first | exact gz_ne rfl | decide)) (fun h => h.elim (fun h => absurd h.2 (by first | exact gz_ne rfl | decide)) (fun h => h.elim (fun h => absurd h (gz_sh N_t__t_18)) (fun h => h.elim (fun h => absurd h (gz_sh N_t__t_19)) (fun h => h.elim (fun h => absurd h (gz_sh N_t__t_20)) (fun h => h.elim (fun h => absurd h (gz_sh N_t__t_21)) (fun h => h.elim (fun h => absurd h (gz_sh N_t__t_23)) (fun h => absurd h (gz_sh N_t__t_24))))))))))))
  obtain rfl : J = J9 := funext fun q => funext fun j => ((k7 q j).resolve_left id).symm
  have KBD_I8 : gh_BD I t I8 := gh_BD_tr KBD_I gh_tb_rf (by (/-36-/first | omega | (simp only [gz_hd] at *; omega))) (gz_sh q7).2.2.2
  refine gv_callV hD rfl (As := [.inr (.inr (some t))]) (st := []) rfl (gz_sh B_t_17) S_t_17 rfl (gc_lV12 hws rfl) (Nat.le_of_ble_eq_true rfl) (gz_Ev_mono (d := 5) (by decide) E7) ?_
  show gv_X _ _ (14, [(2, .inr (.inr (some t))), (0, .inr (.inr (some 0))), (1, .inl a1)], [], sh, gc_h sh I8 J A)
  refine gv_run 1 true hD (pcₚ := 15) (lvₚ := [(2, .inr (.inr (some t))), (0, .inr (.inr (some 0))), (1, .inl a1)]) (stₚ := [.inr (.inr (some 0))]) (hₚ := gc_h sh I8 J A) (C := (True ∧ True)) rfl ⟨trivial, trivial⟩ ?_
  refine gv_get hD rfl rfl S_0 ⟨by decide, (gz_sh B_0)⟩ (gc_hA S_0 rfl A_0_10) ?_
  show gv_X _ _ (18, [(2, .inr (.inr (some t))), (0, .inr (.inr (some 0))), (1, .inl a1)], [.inr (.inr (some 100))], sh, gc_h sh I8 J A)
  refine gv_run 2 true hD (pcₚ := 20) (lvₚ := [(2, .inr (.inr (some t))), (0, .inr (.inr (some 0))), (1, .inl a1)]) (stₚ := [.inr (.inr (some 0)), .inr (.inr (some t)), .inr (.inr (some 100))]) (hₚ := gc_h sh I8 J A) (C := ((True ∧ True) ∧ True)) rfl ⟨⟨trivial, trivial⟩, trivial⟩ ?_
  refine gv_get hD rfl rfl S_0 ⟨by decide, (gz_sh B_0)⟩ (gc_hA S_0 rfl A_0_1) ?_
  show gv_X _ _ (23, [(2, .inr (.inr (some t))), (0, .inr (.inr (some 0))), (1, .inl a1)], [.inr (.inr (some 23)), .inr (.inr (some t)), .inr (.inr (some 100))], sh, gc_h sh I8 J A)
  obtain ⟨r15, h15, E15, P15⟩ := d_X1_noteGuesses (ws0 := ws0) (tb := tb) hws htb sh ro I8 J A hI8  t 23 hb h_t G_t (gc_b23 hb) (by (/-37-/first | omega | (simp only [gz_hd] at *; omega)))    
  obtain ⟨I16, J17, rfl, hI16, g15, k15, ⟨z15, rfl, q15⟩⟩ := P15
  replace q15 := gz_hi q15
  have FI16 := gc_frc (W := fun q j => (q = (t + 17) ∧ j = 8) ∨ (q = (t + 17) ∧ j = 9) ∨ q = (t + 18) ∨ q = (t + 19) ∨ q = (t + 20) ∨ q = (t + 21) ∨ (q = (t + 17) ∧ j = 6) ∨ (q = (t + 17) ∧ j = 7) ∨ q = (t + 23) ∨ q = (t + 24) ∨ (q = 100 ∧ j = 4) ∨ (q = 100 ∧ j = 7) ∨ (q = 100 ∧ j = 8) ∨ q = 102 ∨ q = 103 ∨ (q = 23 ∧ j = 1)) (V := fun q j => (q = 100 ∧ j = 4) ∨ (q = 100 ∧ j = 7) ∨ (q = 100 ∧ j = 8) ∨ q = 102 ∨ q = 103) FI8 (fun q j h => (h.elim (fun h => (Or.inr (Or.inr (Or.inr (Or.inr (Or.inr (Or.inr (Or.inr (Or.inr (Or.inr (Or.inr (Or.inl h)))))))))))) (fun h => (h.elim (fun h => (Or.inr (Or.inr (Or.inr (Or.inr (Or.inr (Or.inr (Or.inr (Or.inr (Or.inr (Or.inr (Or.inr (Or.inl h))))))))))))) (fun h => (h.elim (fun h => (Or.inr (Or.inr (Or.inr (Or.inr (Or.inr (Or.inr (Or.inr (Or.inr (Or.inr (Or.inr (Or.inr (Or.inr (Or.inl h)))))))))))))) (fun h => (h.elim (fun h => (Or.inr (Or.inr (Or.inr (Or.inr (Or.inr (Or.inr (Or.inr (Or.inr (Or.inr (Or.inr (Or.inr (Or.inr (Or.inr (Or.inl h))))))))))))))) (fun h => (Or.inr (Or.inr (Or.inr (Or.inr (Or.inr (Or.inr (Or.inr (Or.inr (Or.inr (Or.inr (Or.inr (Or.inr (Or.inr (Or.inr (Or.inl h)))))))))))))))))))))))) g15
  have t19 := gz_hi ((g15 (t + 17) 8).resolve_left (fun h => h.elim (fun h => absurd h.2 (by first | exact gz_ne rfl | decide)) (fun h => h.elim (fun h => absurd h.2 (by first | exact gz_ne rfl | decide)) (fun h => h.elim (fun h => absurd h.1 (gz_sh N_t_17__100)) (fun h => h.elim (fun h => absurd h (gz_sh N_t_17__102)) (fun h => absurd h (gz_sh N_t_17__103)))))))
  have t20 := gz_hi ((g15 t 11).resolve_left (fun h => h.elim (fun h => absurd h.2 (by first | exact gz_ne rfl | decide)) (fun h => h.elim (fun h => absurd h.2 (by first | exact gz_ne rfl | decide)) (fun h => h.elim (fun h => absurd h.2 (by first | exact gz_ne rfl | decide)) (fun h => h.elim (fun h => absurd h (gz_sh N_t__102)) (fun h => absurd h (gz_sh N_t__103)))))))
  have t21 := gz_hi ((g15 (t + 17) 6).resolve_left (fun h => h.elim (fun h => absurd h.2 (by first | exact gz_ne rfl | decide)) (fun h => h.elim (fun h => absurd h.2 (by first | exact gz_ne rfl | decide)) (fun h => h.elim (fun h => absurd h.2 (by first | exact gz_ne rfl | decide)) (fun h => h.elim (fun h => absurd h (gz_sh N_t_17__102)) (fun h => absurd h (gz_sh N_t_17__103)))))))
  have t22 := gz_hi ((g15 (t + 17) 7).resolve_left (fun h => h.elim (fun h => absurd h.2 (by first | exact gz_ne rfl | decide)) (fun h => h.elim (fun h => absurd h.1 (gz_sh N_t_17__100)) (fun h => h.elim (fun h => absurd h.2 (by first | exact gz_ne rfl | decide)) (fun h => h.elim (fun h => absurd h (gz_sh N_t_17__102)) (fun h => absurd h (gz_sh N_t_17__103)))))))
  obtain rfl : J = J17 := funext fun q => funext fun j => ((k15 q j).resolve_left id).symm
  have KBD_I16 := gh_BD_fr KBD_I8 ((g15 (t + 17) 8).resolve_left (fun h => h.elim (fun h => absurd h.2 (by first | exact gz_ne rfl | decide)) (fun h => h.elim (fun h => absurd h.2 (by first | exact gz_ne rfl | decide)) (fun h => h.elim (fun h => absurd h.1 (gz_sh N_t_17__100)) (fun h => h.elim (fun h => absurd h (gz_sh N_t_17__102)) (fun h => absurd h (gz_sh N_t_17__103))))))) ((g15 (t + 17) 9).resolve_left (fun h => h.elim (fun h => absurd h.2 (by first | exact gz_ne rfl | decide)) (fun h => h.elim (fun h => absurd h.2 (by first | exact gz_ne rfl | decide)) (fun h => h.elim (fun h => absurd h.2 (by first | exact gz_ne rfl | decide)) (fun h => h.elim (fun h => absurd h (gz_sh N_t_17__102)) (fun h => absurd h (gz_sh N_t_17__103))))))) (fun k => (g15 (t + 18) k).resolve_left (fun h => h.elim (fun h => absurd h.1 (gz_sh N_t_18__100)) (fun h => h.elim (fun h => absurd h.1 (gz_sh N_t_18__100)) (fun h => h.elim (fun h => absurd h.1 (gz_sh N_t_18__100)) (fun h => h.elim (fun h => absurd h (gz_sh N_t_18__102)) (fun h => absurd h (gz_sh N_t_18__103))))))) (fun k => (g15 (t + 19) k).resolve_left (fun h => h.elim (fun h => absurd h.1 (gz_sh N_t_19__100)) (fun h => h.elim (fun h => absurd h.1 (gz_sh N_t_19__100)) (fun h => h.elim (fun h => absurd h.1 (gz_sh N_t_19__100)) (fun h => h.elim (fun h => absurd h (gz_sh N_t_19__102)) (fun h => absurd h (gz_sh N_t_19__103))))))) (fun k => (g15 (t + 20) k).resolve_left (fun h => h.elim (fun h => absurd h.1 (gz_sh N_t_20__100)) (fun h => h.elim (fun h => absurd h.1 (gz_sh N_t_20__100)) (fun h => h.elim (fun h => absurd h.1 (gz_sh N_t_20__100)) (fun h => h.elim (fun h => absurd h (gz_sh N_t_20__102)) (fun h => absurd h (gz_sh N_t_20__103))))))) (fun k => (g15 (t + 21) k).resolve_left (fun h => h.elim (fun h => absurd h.1 (gz_sh N_t_21__100)) (fun h => h.elim (fun h => absurd h.1 (gz_sh N_t_21__100)) (fun h => h.elim (fun h => absurd h.1 (gz_sh N_t_21__100)) (fun h => h.elim (fun h => absurd h (gz_sh N_t_21__102)) (fun h => absurd h (gz_sh N_t_21__103)))))))
  refine gv_callV hD rfl (As := [.inr (.inr (some t)), .inr (.inr (some 23))]) (st := []) rfl (gz_sh B_100) S_100 rfl (gc_lV12 hws rfl) (Nat.le_of_ble_eq_true rfl) (gz_Ev_mono (d := 4) (by decide) E15) ?_
  show gv_X _ _ (26, [(2, .inr (.inr (some t))), (0, .inr (.inr (some 0))), (1, .inl a1)], [.inl z15], sh, gc_h sh I16 J A)
  refine gv_run 2 true hD (pcₚ := 28) (lvₚ := [(3, .inl z15), (2, .inr (.inr (some t))), (0, .inr (.inr (some 0))), (1, .inl a1)]) (stₚ := [.inr (.inr (some 0))]) (hₚ := gc_h sh I16 J A) (C := ((True ∧ True) ∧ True)) rfl ⟨⟨trivial, trivial⟩, trivial⟩ ?_
  refine gv_get hD rfl rfl S_0 ⟨by decide, (gz_sh B_0)⟩ (gc_hA S_0 rfl A_0_1) ?_
  show gv_X _ _ (31, [(3, .inl z15), (2, .inr (.inr (some t))), (0, .inr (.inr (some 0))), (1, .inl a1)], [.inr (.inr (some 23))], sh, gc_h sh I16 J A)
  refine gv_run 1 true hD (pcₚ := 32) (lvₚ := [(3, .inl z15), (2, .inr (.inr (some t))), (0, .inr (.inr (some 0))), (1, .inl a1)]) (stₚ := [.inl 0, .inr (.inr (some 23))]) (hₚ := gc_h sh I16 J A) (C := (True ∧ True)) rfl ⟨trivial, trivial⟩ ?_
  refine gv_put hD rfl rfl S_23 ⟨by decide, (gz_sh B_23)⟩ rfl trivial ?_
  refine gc_st (k := 1) hI16 S_23 rfl (gz_sh R_23) (lo := 0) (hi := 1000) rfl rfl (by (/-38-/first | omega | (simp only [gz_hd] at *; omega))) (by (/-39-/first | omega | (simp only [gz_hd] at *; omega))) (fun I23 hI23 q24 p24 => ?_)
  have FI23 := gc_frs (W := fun q j => (q = (t + 17) ∧ j = 8) ∨ (q = (t + 17) ∧ j = 9) ∨ q = (t + 18) ∨ q = (t + 19) ∨ q = (t + 20) ∨ q = (t + 21) ∨ (q = (t + 17) ∧ j = 6) ∨ (q = (t + 17) ∧ j = 7) ∨ q = (t + 23) ∨ q = (t + 24) ∨ (q = 100 ∧ j = 4) ∨ (q = 100 ∧ j = 7) ∨ (q = 100 ∧ j = 8) ∨ q = 102 ∨ q = 103 ∨ (q = 23 ∧ j = 1)) FI16 (Or.inr (Or.inr (Or.inr (Or.inr (Or.inr (Or.inr (Or.inr (Or.inr (Or.inr (Or.inr (Or.inr (Or.inr (Or.inr (Or.inr (Or.inr ⟨rfl, rfl⟩))))))))))))))) p24
  have t25 := gz_hi (p24 (t + 17) 8 (fun h => absurd h.2 (by first | exact gz_ne rfl | decide)))
  have t27 := gz_hi (p24 (t + 17) 6 (fun h => absurd h.2 (by first | exact gz_ne rfl | decide)))
  have t28 := gz_hi (p24 (t + 17) 7 (fun h => absurd h.2 (by first | exact gz_ne rfl | decide)))
  have KBD_I23 := gh_BD_fr KBD_I16 (p24 (t + 17) 8 (fun h => absurd h.2 (by first | exact gz_ne rfl | decide))) (p24 (t + 17) 9 (fun h => absurd h.2 (by first | exact gz_ne rfl | decide))) (fun k => p24 (t + 18) k (fun h => absurd h.1 (gz_sh N_t_18__23))) (fun k => p24 (t + 19) k (fun h => absurd h.1 (gz_sh N_t_19__23))) (fun k => p24 (t + 20) k (fun h => absurd h.1 (gz_sh N_t_20__23))) (fun k => p24 (t + 21) k (fun h => absurd h.1 (gz_sh N_t_21__23)))
  show gv_X _ _ (35, [(3, .inl z15), (2, .inr (.inr (some t))), (0, .inr (.inr (some 0))), (1, .inl a1)], [], sh, gc_h sh I23 J A)
  refine gv_run 1 true hD (pcₚ := 36) (lvₚ := [(3, .inl z15), (2, .inr (.inr (some t))), (0, .inr (.inr (some 0))), (1, .inl a1)]) (stₚ := [.inl z15]) (hₚ := gc_h sh I23 J A) (C := (True ∧ True)) rfl ⟨trivial, trivial⟩ ?_
  exact gv_iret hD rfl ⟨I23, J, rfl, hI23, FI23, FJ, ⟨_, rfl, by (/-40-/first | (have o1 := gz_sh q15; omega) | (simp only [gz_hd] at *; omega)), by (/-41-/first | (have o1 := gz_sh q15; omega) | (simp only [gz_hd] at *; omega)), by (/-42-/first | omega | (simp only [gz_hd] at *; omega)), (gc_FB_fr (gz_sh q7).1 (fun k => ((p24 (t + 17 + 4) k (fun h => absurd h.1 (by (/-43-/first | (have o1 := gz_sh N_t_21__23; omega) | (simp only [gz_hd] at *; omega))))).trans ((g15 (t + 17 + 4) k).resolve_left (by (/-44-/first | (have o1 := gz_sh B_t; have o2 := gz_sh B_t_10; have o3 := gz_sh B_t_13; have o4 := gz_sh B_t_14; have o5 := gz_sh B_t_15; have o6 := gz_sh B_t_16; have o7 := gz_sh B_t_17; have o8 := gz_sh B_t_17_1; have o9 := gz_sh B_t_17_2; have o10 := gz_sh B_t_17_3; have o11 := gz_sh B_t_17_4; have o12 := gz_sh B_t_17_5; have o13 := gz_sh B_t_17_6; have o14 := gz_sh B_t_17_7; have o15 := gz_sh B_t_5; have o16 := gz_sh B_t_6; have o17 := gz_sh B_t_9; omega) | (simp only [gz_hd] at *; omega)))))) (fun k => ((p24 (t + 17 + 3) k (fun h => absurd h.1 (by (/-45-/first | (have o1 := gz_sh N_t_20__23; omega) | (simp only [gz_hd] at *; omega))))).trans ((g15 (t + 17 + 3) k).resolve_left (by (/-46-/first | (have o1 := gz_sh B_t; have o2 := gz_sh B_t_10; have o3 := gz_sh B_t_13; have o4 := gz_sh B_t_14; have o5 := gz_sh B_t_15; have o6 := gz_sh B_t_16; have o7 := gz_sh B_t_17; have o8 := gz_sh B_t_17_1; have o9 := gz_sh B_t_17_2; have o10 := gz_sh B_t_17_3; have o11 := gz_sh B_t_17_4; have o12 := gz_sh B_t_17_5; have o13 := gz_sh B_t_17_6; have o14 := gz_sh B_t_17_7; have o15 := gz_sh B_t_5; have o16 := gz_sh B_t_6; have o17 := gz_sh B_t_9; omega) | (simp only [gz_hd] at *; omega))))))), by (/-47-/first | (have o1 := gz_sh q7; have o2 := gz_sh t19; have o3 := gz_sh t25; omega) | (simp only [gz_hd] at *; omega)), by (/-48-/first | (have o1 := gz_sh q7; have o2 := gz_sh t21; have o3 := gz_sh t22; have o4 := gz_sh t27; have o5 := gz_sh t28; omega) | (simp only [gz_hd] at *; omega)), KBD_I23⟩⟩
