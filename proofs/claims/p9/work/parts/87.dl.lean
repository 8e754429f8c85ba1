set_option maxHeartbeats 8000000 in
set_option maxRecDepth 100000 in
theorem d_X5_times {ws0 : List Cond} {tb : String → gz_T} (hws : gc_Ws ws0) (htb : gc_tbs tb) (sh : gz_Sh) (ro : Nat → Nat) (I : gr_I) (J : gr_J) (A : gc_A) (hI : gc_Inv ro I) (a1 : Int64) (a2 : Int64) (hb : gc_Base sh ro A)   : ∃ r hₚ, gz_Ev ws0 tb 1 (yX5_times, cX5_times, 4, (some .long)) [.inr (.inl a1), .inr (.inl a2)] sh (gc_h sh I J A) r sh hₚ 0 0 ∧ (hₚ = gc_h sh I J A ∧ (∃ z : Int64, r = some (.inr (.inl z)))) := by
  have hD : gv_D (gc_E5 ws0 tb 0 (yX5_times, cX5_times, 4, (some .long)) kX5_times) := gq_of oX5_times
  refine gc_ev5 (d := 0) (l := kX5_times) (Po := fun r hₚ => (hₚ = gc_h sh I J A ∧ (∃ z : Int64, r = some (.inr (.inl z))))) htb rfl (Nat.le_of_ble_eq_true rfl) ?_
  have L12 : gv_X (gc_E5 ws0 tb 0 (yX5_times, cX5_times, 4, (some .long)) kX5_times) (gv_Q cX5_times (some .long) sh (fun r hₚ => (hₚ = gc_h sh I J A ∧ (∃ z : Int64, r = some (.inr (.inl z)))))) (12, [], [], sh, gc_h sh I J A) := by
    refine gv_run 1 true hD (pcₚ := 13) (lvₚ := []) (stₚ := [.inr (.inl (Int64.ofNat 0))]) (hₚ := gc_h sh I J A) (C := (True ∧ True)) rfl ⟨trivial, trivial⟩ ?_
    exact gv_lret hD rfl ⟨rfl, ⟨_, rfl⟩⟩
  have L33 : ∀ (s0_2 : Int64), gv_X (gc_E5 ws0 tb 0 (yX5_times, cX5_times, 4, (some .long)) kX5_times) (gv_Q cX5_times (some .long) sh (fun r hₚ => (hₚ = gc_h sh I J A ∧ (∃ z : Int64, r = some (.inr (.inl z)))))) (33, [], [.inr (.inl s0_2)], sh, gc_h sh I J A) := by
    intro s0_2
    exact gv_lret hD rfl ⟨rfl, ⟨_, rfl⟩⟩
  have f3 := gz_hi (gw_cmp (a1) ((Int64.ofNat 0)))
  refine gv_run 3 true hD (pcₚ := 3) (lvₚ := [(0, .inr (.inl a1)), (2, .inr (.inl a2))]) (stₚ := [.inl ((lg_cmp (a1) ((Int64.ofNat 0))).toInt)]) (hₚ := gc_h sh I J A) (C := (((True ∧ True) ∧ True) ∧ True)) rfl ⟨⟨⟨trivial, trivial⟩, trivial⟩, trivial⟩ ?_
  refine gv_if_eq (t := 12) hD rfl rfl ⟨by (/-0-/first | (have o1 := gz_sh f3; omega) | (simp only [gz_hd] at *; omega)), by (/-1-/first | (have o1 := gz_sh f3; omega) | (simp only [gz_hd] at *; omega))⟩ (fun c4 => ?_) (fun c4 => ?_)
  · show gv_X _ _ (12, [(0, .inr (.inl a1)), (2, .inr (.inl a2))], [], sh, gc_h sh I J A)
    refine gv_pick [] rfl ?_
    exact L12 
  · show gv_X _ _ (6, [(0, .inr (.inl a1)), (2, .inr (.inl a2))], [], sh, gc_h sh I J A)
    have f5 := gz_hi (gw_cmp (a2) ((Int64.ofNat 0)))
    refine gv_run 3 true hD (pcₚ := 9) (lvₚ := [(0, .inr (.inl a1)), (2, .inr (.inl a2))]) (stₚ := [.inl ((lg_cmp (a2) ((Int64.ofNat 0))).toInt)]) (hₚ := gc_h sh I J A) (C := (((True ∧ True) ∧ True) ∧ True)) rfl ⟨⟨⟨trivial, trivial⟩, trivial⟩, trivial⟩ ?_
    refine gv_if_ne (t := 14) hD rfl rfl ⟨by (/-2-/first | (have o1 := gz_sh f5; omega) | (simp only [gz_hd] at *; omega)), by (/-3-/first | (have o1 := gz_sh f5; omega) | (simp only [gz_hd] at *; omega))⟩ (fun c6 => ?_) (fun c6 => ?_)
    · show gv_X _ _ (14, [(0, .inr (.inl a1)), (2, .inr (.inl a2))], [], sh, gc_h sh I J A)
      have f7 := gz_hi (gw_cmp (a1) (((1000000000000000000) / a2)))
      refine gv_run 5 true hD (pcₚ := 21) (lvₚ := [(0, .inr (.inl a1)), (2, .inr (.inl a2))]) (stₚ := [.inl ((lg_cmp (a1) (((1000000000000000000) / a2))).toInt)]) (hₚ := gc_h sh I J A) (C := (((((True ∧ True) ∧ True) ∧ True) ∧ (¬ a2 = 0)) ∧ True)) rfl ⟨⟨⟨⟨⟨trivial, trivial⟩, trivial⟩, trivial⟩, (gc_cmpn (x := a2) (y := 0) (by (/-4-/first | omega | (simp only [gz_hd] at *; omega))))⟩, trivial⟩ ?_
      refine gv_if_le (t := 30) hD rfl rfl ⟨by (/-5-/first | (have o1 := gz_sh f7; omega) | (simp only [gz_hd] at *; omega)), by (/-6-/first | (have o1 := gz_sh f7; omega) | (simp only [gz_hd] at *; omega))⟩ (fun c8 => ?_) (fun c8 => ?_)
      · show gv_X _ _ (30, [(0, .inr (.inl a1)), (2, .inr (.inl a2))], [], sh, gc_h sh I J A)
        refine gv_run 3 true hD (pcₚ := 33) (lvₚ := [(0, .inr (.inl a1)), (2, .inr (.inl a2))]) (stₚ := [.inr (.inl (a1 * a2))]) (hₚ := gc_h sh I J A) (C := (((True ∧ True) ∧ True) ∧ True)) rfl ⟨⟨⟨trivial, trivial⟩, trivial⟩, trivial⟩ ?_
        refine gv_pick [] rfl ?_
        exact L33 (a1 * a2)
      · show gv_X _ _ (24, [(0, .inr (.inl a1)), (2, .inr (.inl a2))], [], sh, gc_h sh I J A)
        refine gv_run 2 true hD (pcₚ := 33) (lvₚ := [(0, .inr (.inl a1)), (2, .inr (.inl a2))]) (stₚ := [.inr (.inl (1000000000000000000))]) (hₚ := gc_h sh I J A) (C := ((True ∧ True) ∧ True)) rfl ⟨⟨trivial, trivial⟩, trivial⟩ ?_
        refine gv_pick [] rfl ?_
        exact L33 (1000000000000000000)
    · show gv_X _ _ (12, [(0, .inr (.inl a1)), (2, .inr (.inl a2))], [], sh, gc_h sh I J A)
      refine gv_pick [] rfl ?_
      exact L12 
set_option maxHeartbeats 8000000 in
set_option maxRecDepth 100000 in
theorem d_X5_total {ws0 : List Cond} {tb : String → gz_T} (hws : gc_Ws ws0) (htb : gc_tbs tb) (sh : gz_Sh) (ro : Nat → Nat) (I : gr_I) (J : gr_J) (A : gc_A) (hI : gc_Inv ro I) (t : Nat)  (hb : gc_Base sh ro A) (h_t : gc_isTongue sh ro A t) (G_t : 144 ≤ t)  (x0 : gc_Ls sh ro A t I) (x1 : gc_WV t I) (x2 : gc_FN I) (x3 : I 61 2 = (t : Int)) : ∃ r hₚ, gz_Ev ws0 tb 3 (yX5_total, cX5_total, 5, (some .long)) [.inr (.inr (some 61))] sh (gc_h sh I J A) r sh hₚ 0 0 ∧ (∃ (Iₚ : gr_I) (Jₚ : gr_J), hₚ = gc_h sh Iₚ Jₚ A ∧ gc_Inv ro Iₚ ∧ (∀ q j : Nat, (False) ∨ Iₚ q j = I q j) ∧ (∀ q j : Nat, (q = 63) ∨ Jₚ q j = J q j) ∧ (∃ z : Int64, r = some (.inr (.inl z)))) := by
  have FI : ∀ q j : Nat, (False) ∨ I q j = I q j := fun _ _ => Or.inr rfl
  have FJ : ∀ q j : Nat, (q = 63) ∨ J q j = J q j := fun _ _ => Or.inr rfl
  have A_48_1 : A 48 1 = some 49 := gc_bA_48_1 hb
  have A_48_2 : A 48 2 = some 50 := gc_bA_48_2 hb
  have A_48_7 : A 48 7 = some 53 := gc_bA_48_7 hb
  have A_48_9 : A 48 9 = some 55 := gc_bA_48_9 hb
  have A_61_1 : A 61 1 = some 48 := gc_bA_61_1 hb
  have A_61_5 : A 61 5 = some 62 := gc_bA_61_5 hb
  have A_61_6 : A 61 6 = some 63 := gc_bA_61_6 hb
  have B_48 := gz_hi (show 48 < 1000000 from by decide)
  have B_49 := gz_hi (show 49 < 1000000 from by decide)
  have B_50 := gz_hi (show 50 < 1000000 from by decide)
  have B_53 := gz_hi (show 53 < 1000000 from by decide)
  have B_55 := gz_hi (show 55 < 1000000 from by decide)
  have B_61 := gz_hi (show 61 < 1000000 from by decide)
  have B_62 := gz_hi (show 62 < 1000000 from by decide)
  have B_63 := gz_hi (show 63 < 1000000 from by decide)
  have R_48 := gz_hi (show ro 48 = 49 from gc_bR_48 hb)
  have R_49 := gz_hi (show ro 49 = 43 from gc_bR_49 hb)
  have R_50 := gz_hi (show ro 50 = 43 from gc_bR_50 hb)
  have R_53 := gz_hi (show ro 53 = 44 from gc_bR_53 hb)
  have R_55 := gz_hi (show ro 55 = 44 from gc_bR_55 hb)
  have R_61 := gz_hi (show ro 61 = 72 from gc_bR_61 hb)
  have R_62 := gz_hi (show ro 62 = 2 from gc_bR_62 hb)
  have S_48 : sh[48]? = some (false, 0, 22) := gc_bS_48 hb
  have S_49 : sh[49]? = some (true, 1, 18432) := gc_bS_49 hb
  have S_50 : sh[50]? = some (true, 1, 18432) := gc_bS_50 hb
  have S_53 : sh[53]? = some (true, 1, 9000) := gc_bS_53 hb
  have S_55 : sh[55]? = some (true, 1, 36000) := gc_bS_55 hb
  have S_61 : sh[61]? = some (false, 5, 19) := gc_bS_61 hb
  have S_62 : sh[62]? = some (true, 3, 96) := gc_bS_62 hb
  have S_63 : sh[63]? = some (true, 2, 3000) := gc_bS_63 hb
  obtain ⟨S_t, R_t, B_t, A_t_0, h_t_1, A_t_1, h_t_3, A_t_2, S_t_5, R_t_5, B_t_5, A_t_3, S_t_6, R_t_6, B_t_6, A_t_4, h_t_7, A_t_5, S_t_9, R_t_9, B_t_9, A_t_7, S_t_10, R_t_10, B_t_10, A_t_8, h_t_11, A_t_9, S_t_13, R_t_13, B_t_13, A_t_10, S_t_14, R_t_14, B_t_14, A_t_12, S_t_15, R_t_15, B_t_15, A_t_14, S_t_16, R_t_16, B_t_16, A_t_15, h_t_17⟩ := id h_t
  replace R_t := gz_hi R_t
  replace B_t := gz_hi B_t
  replace R_t_5 := gz_hi R_t_5
  replace B_t_5 := gz_hi B_t_5
  replace R_t_6 := gz_hi R_t_6
  replace B_t_6 := gz_hi B_t_6
  replace R_t_9 := gz_hi R_t_9
  replace B_t_9 := gz_hi B_t_9
  replace R_t_10 := gz_hi R_t_10
  replace B_t_10 := gz_hi B_t_10
  replace R_t_13 := gz_hi R_t_13
  replace B_t_13 := gz_hi B_t_13
  replace R_t_14 := gz_hi R_t_14
  replace B_t_14 := gz_hi B_t_14
  replace R_t_15 := gz_hi R_t_15
  replace B_t_15 := gz_hi B_t_15
  replace R_t_16 := gz_hi R_t_16
  replace B_t_16 := gz_hi B_t_16
  obtain ⟨S_t_1, R_t_1, B_t_1, A_t_1_0, S_t_1_1, R_t_1_1, B_t_1_1, Q0_t_1, Q1_t_1, Q2_t_1⟩ := id h_t_1
  replace R_t_1 := gz_hi R_t_1
  replace B_t_1 := gz_hi B_t_1
  replace R_t_1_1 := gz_hi R_t_1_1
  replace B_t_1_1 := gz_hi B_t_1_1
  obtain ⟨S_t_3, R_t_3, B_t_3, A_t_3_0, S_t_3_1, R_t_3_1, B_t_3_1, Q0_t_3, Q1_t_3, Q2_t_3⟩ := id h_t_3
  replace R_t_3 := gz_hi R_t_3
  replace B_t_3 := gz_hi B_t_3
  replace R_t_3_1 := gz_hi R_t_3_1
  replace B_t_3_1 := gz_hi B_t_3_1
  obtain ⟨S_t_7, R_t_7, B_t_7, A_t_7_0, S_t_7_1, R_t_7_1, B_t_7_1, Q0_t_7, Q1_t_7, Q2_t_7⟩ := id h_t_7
  replace R_t_7 := gz_hi R_t_7
  replace B_t_7 := gz_hi B_t_7
  replace R_t_7_1 := gz_hi R_t_7_1
  replace B_t_7_1 := gz_hi B_t_7_1
  obtain ⟨S_t_11, R_t_11, B_t_11, A_t_11_0, S_t_11_1, R_t_11_1, B_t_11_1, Q0_t_11, Q1_t_11, Q2_t_11⟩ := id h_t_11
  replace R_t_11 := gz_hi R_t_11
  replace B_t_11 := gz_hi B_t_11
  replace R_t_11_1 := gz_hi R_t_11_1
  replace B_t_11_1 := gz_hi B_t_11_1
  obtain ⟨S_t_17, R_t_17, B_t_17, A_t_17_0, S_20, R_20, B_20, A_t_17_1, S_t_17_1, R_t_17_1, B_t_17_1, A_t_17_2, S_t_17_2, R_t_17_2, B_t_17_2, A_t_17_3, S_t_17_3, R_t_17_3, B_t_17_3, A_t_17_4, S_t_17_4, R_t_17_4, B_t_17_4, A_t_17_5, S_t_17_5, R_t_17_5, B_t_17_5, S_t_17_6, R_t_17_6, B_t_17_6, S_t_17_7, R_t_17_7, B_t_17_7⟩ := id h_t_17
  replace R_t_17 := gz_hi R_t_17
  replace B_t_17 := gz_hi B_t_17
  replace R_20 := gz_hi R_20
  replace B_20 := gz_hi B_20
  replace R_t_17_1 := gz_hi R_t_17_1
  replace B_t_17_1 := gz_hi B_t_17_1
  replace R_t_17_2 := gz_hi R_t_17_2
  replace B_t_17_2 := gz_hi B_t_17_2
  replace R_t_17_3 := gz_hi R_t_17_3
  replace B_t_17_3 := gz_hi B_t_17_3
  replace R_t_17_4 := gz_hi R_t_17_4
  replace B_t_17_4 := gz_hi B_t_17_4
  replace R_t_17_5 := gz_hi R_t_17_5
  replace B_t_17_5 := gz_hi B_t_17_5
  replace R_t_17_6 := gz_hi R_t_17_6
  replace B_t_17_6 := gz_hi B_t_17_6
  replace R_t_17_7 := gz_hi R_t_17_7
  replace B_t_17_7 := gz_hi B_t_17_7
  have hD : gv_D (gc_E5 ws0 tb 2 (yX5_total, cX5_total, 5, (some .long)) kX5_total) := gq_of oX5_total
  refine gc_ev5 (d := 2) (l := kX5_total) (Po := fun r hₚ => (∃ (Iₚ : gr_I) (Jₚ : gr_J), hₚ = gc_h sh Iₚ Jₚ A ∧ gc_Inv ro Iₚ ∧ (∀ q j : Nat, (False) ∨ Iₚ q j = I q j) ∧ (∀ q j : Nat, (q = 63) ∨ Jₚ q j = J q j) ∧ (∃ z : Int64, r = some (.inr (.inl z))))) htb rfl (Nat.le_of_ble_eq_true rfl) ?_
  have L11 : ∀ (n9 : Nat) (I5 : gr_I) (J6 : gr_J) (v1_7 : Int), (3001 - v1_7).toNat < n9 → gc_Inv ro I5 → (∀ q j : Nat, (False) ∨ I5 q j = I q j) → (∀ q j : Nat, (q = 63) ∨ J6 q j = J q j) → ((0 ≤ v1_7 ∧ v1_7 ≤ 3000) ∧ (I5 61 2 = (t : Int))) → gv_X (gc_E5 ws0 tb 2 (yX5_total, cX5_total, 5, (some .long)) kX5_total) (gv_Q cX5_total (some .long) sh (fun r hₚ => (∃ (Iₚ : gr_I) (Jₚ : gr_J), hₚ = gc_h sh Iₚ Jₚ A ∧ gc_Inv ro Iₚ ∧ (∀ q j : Nat, (False) ∨ Iₚ q j = I q j) ∧ (∀ q j : Nat, (q = 63) ∨ Jₚ q j = J q j) ∧ (∃ z : Int64, r = some (.inr (.inl z)))))) (11, [(0, .inr (.inr (some 61))), (1, .inl v1_7)], [], sh, gc_h sh I5 J6 A) := by
    intro n9
    induction n9 with
    | zero => intro I5 J6 v1_7 hn; (/-0-/first | omega | (simp only [gz_hd] at *; omega))
    | succ n9 ih11 =>
      intro I5 J6 v1_7 hn hI5 FI5 FJ6 m_7
      obtain ⟨hv1_7, e0_7⟩ := gz_h2 m_7
      have f8 := gz_hi ((gc_b_49_3 hI5 (gz_sh R_48)))
      have L37 : ∀ (n9 : Nat) (I12 : gr_I) (J13 : gr_J) (v1_14 : Int), (9001 - v1_14).toNat < n9 → gc_Inv ro I12 → (∀ q j : Nat, (False) ∨ I12 q j = I q j) → (∀ q j : Nat, (q = 63) ∨ J13 q j = J q j) → ((0 ≤ v1_14 ∧ v1_14 ≤ 9000) ∧ (I12 61 2 = (t : Int))) → gv_X (gc_E5 ws0 tb 2 (yX5_total, cX5_total, 5, (some .long)) kX5_total) (gv_Q cX5_total (some .long) sh (fun r hₚ => (∃ (Iₚ : gr_I) (Jₚ : gr_J), hₚ = gc_h sh Iₚ Jₚ A ∧ gc_Inv ro Iₚ ∧ (∀ q j : Nat, (False) ∨ Iₚ q j = I q j) ∧ (∀ q j : Nat, (q = 63) ∨ Jₚ q j = J q j) ∧ (∃ z : Int64, r = some (.inr (.inl z)))))) (37, [(0, .inr (.inr (some 61))), (1, .inl v1_14)], [], sh, gc_h sh I12 J13 A) := by
        intro n9
        induction n9 with
        | zero => intro I12 J13 v1_14 hn; (/-1-/first | omega | (simp only [gz_hd] at *; omega))
        | succ n9 ih37 =>
          intro I12 J13 v1_14 hn hI12 FI12 FJ13 m_14
          clear hv1_7 e0_7 f8
          obtain ⟨hv1_14, e0_14⟩ := gz_h2 m_14
          have f16 := gz_hi ((gc_b_49_6 hI12 (gz_sh R_48)))
          have f17 := gz_hi ((gc_b_49_10 hI12 (gz_sh R_48)))
          have L139 : ∀ (I19 : gr_I) (J20 : gr_J) , gc_Inv ro I19 → (∀ q j : Nat, (False) ∨ I19 q j = I q j) → (∀ q j : Nat, (q = 63) ∨ J20 q j = J q j) → ((0 ≤ v1_14 ∧ v1_14 ≤ 8999) ∧ (v1_14 < I19 48 6) ∧ (I19 61 2 = (t : Int))) → gv_X (gc_E5 ws0 tb 2 (yX5_total, cX5_total, 5, (some .long)) kX5_total) (gv_Q cX5_total (some .long) sh (fun r hₚ => (∃ (Iₚ : gr_I) (Jₚ : gr_J), hₚ = gc_h sh Iₚ Jₚ A ∧ gc_Inv ro Iₚ ∧ (∀ q j : Nat, (False) ∨ Iₚ q j = I q j) ∧ (∀ q j : Nat, (q = 63) ∨ Jₚ q j = J q j) ∧ (∃ z : Int64, r = some (.inr (.inl z)))))) (139, [(0, .inr (.inr (some 61))), (1, .inl v1_14)], [], sh, gc_h sh I19 J20 A) := by
            intro I19 J20 hI19 FI19 FJ20 m_21
            clear hv1_14 e0_14 f16 f17
            obtain ⟨hv1_14_21, e0_21, e1_21⟩ := gz_h3 m_21
            refine gv_run 2 true hD (pcₚ := 37) (lvₚ := [(1, .inl (v1_14 + 1)), (0, .inr (.inr (some 61)))]) (stₚ := []) (hₚ := gc_h sh I19 J20 A) (C := ((True ∧ True) ∧ True)) rfl ⟨⟨trivial, trivial⟩, trivial⟩ ?_
            refine gv_pick [1, 0] rfl ?_
            exact ih37 I19 J20 (v1_14 + 1) (by (/-2-/first | (have o1 := gz_sh hv1_14_21; omega) | (simp only [gz_hd] at *; omega))) hI19 FI19 FJ20 (by (/-3-/first | (and_intros; (have o1 := gz_sh hv1_14_21; omega); (have o1 := gz_sh hv1_14_21; omega); (have o1 := gz_sh e1_21; omega)) | (simp only [gz_hd] at *; omega)))
          have L66 : ∀ (n9 : Nat) (v2_26 : Int64) (v4_26 : Int), (5 - v4_26).toNat < n9 → ((0 ≤ v1_14 ∧ v1_14 ≤ 8999) ∧ (0 ≤ v4_26 ∧ v4_26 ≤ 4) ∧ (v1_14 < I12 48 6) ∧ (I12 61 2 = (t : Int))) → gv_X (gc_E5 ws0 tb 2 (yX5_total, cX5_total, 5, (some .long)) kX5_total) (gv_Q cX5_total (some .long) sh (fun r hₚ => (∃ (Iₚ : gr_I) (Jₚ : gr_J), hₚ = gc_h sh Iₚ Jₚ A ∧ gc_Inv ro Iₚ ∧ (∀ q j : Nat, (False) ∨ Iₚ q j = I q j) ∧ (∀ q j : Nat, (q = 63) ∨ Jₚ q j = J q j) ∧ (∃ z : Int64, r = some (.inr (.inl z)))))) (66, [(0, .inr (.inr (some 61))), (1, .inl v1_14), (2, .inr (.inl v2_26)), (4, .inl v4_26)], [], sh, gc_h sh I12 J13 A) := by
            intro n9
            induction n9 with
            | zero => intro v2_26 v4_26 hn; (/-4-/first | omega | (simp only [gz_hd] at *; omega))
            | succ n9 ih66 =>
              intro v2_26 v4_26 hn m_26
              obtain ⟨hv1_14_26, hv4_26, e0_26, e1_26⟩ := gz_h4 m_26
              refine gv_run 3 true hD (pcₚ := 70) (lvₚ := [(0, .inr (.inr (some 61))), (1, .inl v1_14), (2, .inr (.inl v2_26)), (4, .inl v4_26)]) (stₚ := [.inl v1_14, .inr (.inr (some 61)), .inl v4_26]) (hₚ := gc_h sh I12 J13 A) (C := (((True ∧ True) ∧ True) ∧ True)) rfl ⟨⟨⟨trivial, trivial⟩, trivial⟩, trivial⟩ ?_
              obtain ⟨r31, h31, E31, P31⟩ := d_X5_slotsOf (ws0 := ws0) (tb := tb) hws htb sh ro I12 J13 A hI12  t v1_14 hb  h_t G_t  ⟨by (/-5-/first | (have o1 := gz_sh hv1_14; omega) | (simp only [gz_hd] at *; omega)), by (/-6-/first | (have o1 := gz_sh hv1_14_26; omega) | (simp only [gz_hd] at *; omega))⟩ (gc_Ls_fr x0 ((FI12 t 13).resolve_left id) (fun q hL hq d k hd => (FI12 (q + d) k).resolve_left id)) (gc_WV_fr x1 ((FI12 48 6).resolve_left id) ((FI12 t 13).resolve_left id) (fun k => (FI12 54 k).resolve_left id)) (by (/-7-/first | (have o1 := gz_sh e0_26; omega) | (simp only [gz_hd] at *; omega))) (by (/-8-/first | (have o1 := gz_sh e1_26; omega) | (simp only [gz_hd] at *; omega))) 
              obtain ⟨rfl, ⟨z31, rfl, q31⟩⟩ := P31
              replace q31 := gz_hi q31
              refine gv_callV hD rfl (As := [.inl v1_14]) (st := [.inl v4_26]) rfl (gz_sh B_61) S_61 rfl (gc_lV5 hws rfl) (Nat.le_of_ble_eq_true rfl) (gz_Ev_mono (d := 1) (by decide) E31) ?_
              show gv_X _ _ (73, [(0, .inr (.inr (some 61))), (1, .inl v1_14), (2, .inr (.inl v2_26)), (4, .inl v4_26)], [.inl z31, .inl v4_26], sh, gc_h sh I12 J13 A)
              refine gv_icmp_ge (t := 106) hD rfl rfl ⟨⟨by (/-9-/first | (have o1 := gz_sh hv4_26; omega) | (simp only [gz_hd] at *; omega)), by (/-10-/first | (have o1 := gz_sh hv4_26; omega) | (simp only [gz_hd] at *; omega))⟩, ⟨by (/-11-/first | (have o1 := gz_sh q31; omega) | (simp only [gz_hd] at *; omega)), by (/-12-/first | (have o1 := gz_sh q31; omega) | (simp only [gz_hd] at *; omega))⟩⟩ (fun c32 => ?_) (fun c32 => ?_)
              · show gv_X _ _ (106, [(0, .inr (.inr (some 61))), (1, .inl v1_14), (2, .inr (.inl v2_26)), (4, .inl v4_26)], [], sh, gc_h sh I12 J13 A)
                refine gv_run 1 true hD (pcₚ := 107) (lvₚ := [(0, .inr (.inr (some 61))), (1, .inl v1_14), (2, .inr (.inl v2_26)), (4, .inl v4_26)]) (stₚ := [.inr (.inr (some 61))]) (hₚ := gc_h sh I12 J13 A) (C := (True ∧ True)) rfl ⟨trivial, trivial⟩ ?_
                refine gv_get hD rfl rfl S_61 ⟨by decide, (gz_sh B_61)⟩ (gc_hA S_61 rfl A_61_1) ?_
                show gv_X _ _ (110, [(0, .inr (.inr (some 61))), (1, .inl v1_14), (2, .inr (.inl v2_26)), (4, .inl v4_26)], [.inr (.inr (some 48))], sh, gc_h sh I12 J13 A)
                refine gv_get hD rfl rfl S_48 ⟨by decide, (gz_sh B_48)⟩ (gc_hA S_48 rfl A_48_7) ?_
                show gv_X _ _ (113, [(0, .inr (.inr (some 61))), (1, .inl v1_14), (2, .inr (.inl v2_26)), (4, .inl v4_26)], [.inr (.inr (some 53))], sh, gc_h sh I12 J13 A)
                refine gv_run 1 true hD (pcₚ := 114) (lvₚ := [(0, .inr (.inr (some 61))), (1, .inl v1_14), (2, .inr (.inl v2_26)), (4, .inl v4_26)]) (stₚ := [.inl v1_14, .inr (.inr (some 53))]) (hₚ := gc_h sh I12 J13 A) (C := (True ∧ True)) rfl ⟨trivial, trivial⟩ ?_
                have f33 := gz_hi ((gc_b_44 hI12 (gz_sh R_53) (Int.toNat v1_14)))
                refine gv_iald hD rfl S_53 rfl ⟨by decide, (gz_sh B_53)⟩ ⟨by (/-13-/first | (have o1 := gz_sh hv1_14; omega) | (simp only [gz_hd] at *; omega)), by (/-14-/first | (have o1 := gz_sh hv1_14_26; omega) | (simp only [gz_hd] at *; omega))⟩ (gc_iI S_53 rfl) ?_
                show gv_X _ _ (115, [(0, .inr (.inr (some 61))), (1, .inl v1_14), (2, .inr (.inl v2_26)), (4, .inl v4_26)], [.inl (I12 53 (Int.toNat v1_14))], sh, gc_h sh I12 J13 A)
                refine gv_run 2 true hD (pcₚ := 118) (lvₚ := [(4, .inl (I12 53 (Int.toNat v1_14))), (0, .inr (.inr (some 61))), (1, .inl v1_14), (2, .inr (.inl v2_26))]) (stₚ := [.inr (.inr (some 61))]) (hₚ := gc_h sh I12 J13 A) (C := ((True ∧ True) ∧ True)) rfl ⟨⟨trivial, trivial⟩, trivial⟩ ?_
                refine gv_get hD rfl rfl S_61 ⟨by decide, (gz_sh B_61)⟩ (gc_hA S_61 rfl A_61_6) ?_
                show gv_X _ _ (121, [(4, .inl (I12 53 (Int.toNat v1_14))), (0, .inr (.inr (some 61))), (1, .inl v1_14), (2, .inr (.inl v2_26))], [.inr (.inr (some 63))], sh, gc_h sh I12 J13 A)
                refine gv_run 3 true hD (pcₚ := 127) (lvₚ := [(4, .inl (I12 53 (Int.toNat v1_14))), (0, .inr (.inr (some 61))), (1, .inl v1_14), (2, .inr (.inl v2_26))]) (stₚ := [.inr (.inr (some 61)), .inr (.inl (1000000000000000000)), .inl (I12 53 (Int.toNat v1_14)), .inr (.inr (some 63))]) (hₚ := gc_h sh I12 J13 A) (C := (((True ∧ True) ∧ True) ∧ True)) rfl ⟨⟨⟨trivial, trivial⟩, trivial⟩, trivial⟩ ?_
                refine gv_get hD rfl rfl S_61 ⟨by decide, (gz_sh B_61)⟩ (gc_hA S_61 rfl A_61_6) ?_
                show gv_X _ _ (130, [(4, .inl (I12 53 (Int.toNat v1_14))), (0, .inr (.inr (some 61))), (1, .inl v1_14), (2, .inr (.inl v2_26))], [.inr (.inr (some 63)), .inr (.inl (1000000000000000000)), .inl (I12 53 (Int.toNat v1_14)), .inr (.inr (some 63))], sh, gc_h sh I12 J13 A)
                refine gv_run 1 true hD (pcₚ := 132) (lvₚ := [(4, .inl (I12 53 (Int.toNat v1_14))), (0, .inr (.inr (some 61))), (1, .inl v1_14), (2, .inr (.inl v2_26))]) (stₚ := [.inl (I12 53 (Int.toNat v1_14)), .inr (.inr (some 63)), .inr (.inl (1000000000000000000)), .inl (I12 53 (Int.toNat v1_14)), .inr (.inr (some 63))]) (hₚ := gc_h sh I12 J13 A) (C := (True ∧ True)) rfl ⟨trivial, trivial⟩ ?_
                refine gv_lald hD rfl S_63 rfl ⟨by decide, (gz_sh B_63)⟩ ⟨by (/-15-/first | (have o1 := gz_sh f33; omega) | (simp only [gz_hd] at *; omega)), by (/-16-/first | (have o1 := gz_sh f33; omega) | (simp only [gz_hd] at *; omega))⟩ (gc_jJ S_63 rfl) ?_
                show gv_X _ _ (133, [(4, .inl (I12 53 (Int.toNat v1_14))), (0, .inr (.inr (some 61))), (1, .inl v1_14), (2, .inr (.inl v2_26))], [.inr (.inl (J13 63 (Int.toNat ((I12 53 (Int.toNat v1_14)))))), .inr (.inl (1000000000000000000)), .inl (I12 53 (Int.toNat v1_14)), .inr (.inr (some 63))], sh, gc_h sh I12 J13 A)
                refine gv_run 2 true hD (pcₚ := 135) (lvₚ := [(4, .inl (I12 53 (Int.toNat v1_14))), (0, .inr (.inr (some 61))), (1, .inl v1_14), (2, .inr (.inl v2_26))]) (stₚ := [.inr (.inl ((J13 63 (Int.toNat ((I12 53 (Int.toNat v1_14))))) + v2_26)), .inr (.inl (1000000000000000000)), .inl (I12 53 (Int.toNat v1_14)), .inr (.inr (some 63))]) (hₚ := gc_h sh I12 J13 A) (C := ((True ∧ True) ∧ True)) rfl ⟨⟨trivial, trivial⟩, trivial⟩ ?_
                obtain ⟨z34, E34, q34⟩ := gj_minl (ws0 := ws0) (tb := tb) (sh := sh) (h := gc_h sh I12 J13 A) (1000000000000000000) (((J13 63 (Int.toNat ((I12 53 (Int.toNat v1_14))))) + v2_26))
                refine gv_callS hD rfl (As := [.inr (.inl (1000000000000000000)), .inr (.inl ((J13 63 (Int.toNat ((I12 53 (Int.toNat v1_14))))) + v2_26))]) (st := [.inl (I12 53 (Int.toNat v1_14)), .inr (.inr (some 63))]) rfl (gc_lS5 hws rfl) (Nat.le_of_ble_eq_true rfl) (gz_Ev_mono (d := 1) (by decide) E34) ?_
                show gv_X _ _ (138, [(4, .inl (I12 53 (Int.toNat v1_14))), (0, .inr (.inr (some 61))), (1, .inl v1_14), (2, .inr (.inl v2_26))], [.inr (.inl z34), .inl (I12 53 (Int.toNat v1_14)), .inr (.inr (some 63))], sh, gc_h sh I12 J13 A)
                refine gv_last hD rfl S_63 ⟨by decide, (gz_sh B_63)⟩ ⟨by (/-17-/first | (have o1 := gz_sh f33; omega) | (simp only [gz_hd] at *; omega)), by (/-18-/first | (have o1 := gz_sh f33; omega) | (simp only [gz_hd] at *; omega))⟩ ?_
                refine gc_stJ S_63 rfl (fun J35 q36 p36 => ?_)
                have FJ35 := gc_frs (W := fun q j => q = 63) FJ13 rfl p36
                show gv_X _ _ (139, [(4, .inl (I12 53 (Int.toNat v1_14))), (0, .inr (.inr (some 61))), (1, .inl v1_14), (2, .inr (.inl v2_26))], [], sh, gc_h sh I12 J35 A)
                refine gv_pick [1, 2] rfl ?_
                exact L139 I12 J35 hI12 FI12 FJ35 (by (/-19-/first | (and_intros; (have o1 := gz_sh hv1_14; omega); (have o1 := gz_sh hv1_14_26; omega); (have o1 := gz_sh e0_26; omega); (have o1 := gz_sh e0_14; omega)) | (simp only [gz_hd] at *; omega)))
              · show gv_X _ _ (76, [(0, .inr (.inr (some 61))), (1, .inl v1_14), (2, .inr (.inl v2_26)), (4, .inl v4_26)], [], sh, gc_h sh I12 J13 A)
                refine gv_run 2 true hD (pcₚ := 78) (lvₚ := [(0, .inr (.inr (some 61))), (1, .inl v1_14), (2, .inr (.inl v2_26)), (4, .inl v4_26)]) (stₚ := [.inr (.inr (some 61)), .inr (.inl v2_26)]) (hₚ := gc_h sh I12 J13 A) (C := ((True ∧ True) ∧ True)) rfl ⟨⟨trivial, trivial⟩, trivial⟩ ?_
                refine gv_get hD rfl rfl S_61 ⟨by decide, (gz_sh B_61)⟩ (gc_hA S_61 rfl A_61_6) ?_
                show gv_X _ _ (81, [(0, .inr (.inr (some 61))), (1, .inl v1_14), (2, .inr (.inl v2_26)), (4, .inl v4_26)], [.inr (.inr (some 63)), .inr (.inl v2_26)], sh, gc_h sh I12 J13 A)
                refine gv_run 1 true hD (pcₚ := 82) (lvₚ := [(0, .inr (.inr (some 61))), (1, .inl v1_14), (2, .inr (.inl v2_26)), (4, .inl v4_26)]) (stₚ := [.inr (.inr (some 61)), .inr (.inr (some 63)), .inr (.inl v2_26)]) (hₚ := gc_h sh I12 J13 A) (C := (True ∧ True)) rfl ⟨trivial, trivial⟩ ?_
                refine gv_get hD rfl rfl S_61 ⟨by decide, (gz_sh B_61)⟩ (gc_hA S_61 rfl A_61_1) ?_
                show gv_X _ _ (85, [(0, .inr (.inr (some 61))), (1, .inl v1_14), (2, .inr (.inl v2_26)), (4, .inl v4_26)], [.inr (.inr (some 48)), .inr (.inr (some 63)), .inr (.inl v2_26)], sh, gc_h sh I12 J13 A)
                refine gv_get hD rfl rfl S_48 ⟨by decide, (gz_sh B_48)⟩ (gc_hA S_48 rfl A_48_9) ?_
                show gv_X _ _ (88, [(0, .inr (.inr (some 61))), (1, .inl v1_14), (2, .inr (.inl v2_26)), (4, .inl v4_26)], [.inr (.inr (some 55)), .inr (.inr (some 63)), .inr (.inl v2_26)], sh, gc_h sh I12 J13 A)
                refine gv_run 5 true hD (pcₚ := 94) (lvₚ := [(0, .inr (.inr (some 61))), (1, .inl v1_14), (2, .inr (.inl v2_26)), (4, .inl v4_26)]) (stₚ := [.inl ((v1_14 * 4) + v4_26), .inr (.inr (some 55)), .inr (.inr (some 63)), .inr (.inl v2_26)]) (hₚ := gc_h sh I12 J13 A) (C := (((((True ∧ True) ∧ True) ∧ True) ∧ True) ∧ True)) rfl ⟨⟨⟨⟨⟨trivial, trivial⟩, trivial⟩, trivial⟩, trivial⟩, trivial⟩ ?_
                have f37 := gz_hi ((gc_b_44 hI12 (gz_sh R_55) (Int.toNat (((v1_14 * 4) + v4_26)))))
                refine gv_iald hD rfl S_55 rfl ⟨by decide, (gz_sh B_55)⟩ ⟨by (/-20-/first | (have o1 := gz_sh hv1_14; have o2 := gz_sh hv4_26; omega) | (simp only [gz_hd] at *; omega)), by (/-21-/first | (have o1 := gz_sh hv1_14_26; have o2 := gz_sh q31; omega) | (simp only [gz_hd] at *; omega))⟩ (gc_iI S_55 rfl) ?_
                show gv_X _ _ (95, [(0, .inr (.inr (some 61))), (1, .inl v1_14), (2, .inr (.inl v2_26)), (4, .inl v4_26)], [.inl (I12 55 (Int.toNat (((v1_14 * 4) + v4_26)))), .inr (.inr (some 63)), .inr (.inl v2_26)], sh, gc_h sh I12 J13 A)
                refine gv_lald hD rfl S_63 rfl ⟨by decide, (gz_sh B_63)⟩ ⟨by (/-22-/first | (have o1 := gz_sh f37; omega) | (simp only [gz_hd] at *; omega)), by (/-23-/first | (have o1 := gz_sh f37; omega) | (simp only [gz_hd] at *; omega))⟩ (gc_jJ S_63 rfl) ?_
                show gv_X _ _ (96, [(0, .inr (.inr (some 61))), (1, .inl v1_14), (2, .inr (.inl v2_26)), (4, .inl v4_26)], [.inr (.inl (J13 63 (Int.toNat ((I12 55 (Int.toNat (((v1_14 * 4) + v4_26)))))))), .inr (.inl v2_26)], sh, gc_h sh I12 J13 A)
                obtain ⟨r38, h38, E38, P38⟩ := d_X5_times (ws0 := ws0) (tb := tb) hws htb sh ro I12 J13 A hI12  v2_26 ((J13 63 (Int.toNat ((I12 55 (Int.toNat (((v1_14 * 4) + v4_26)))))))) hb     
                obtain ⟨rfl, ⟨z38, rfl⟩⟩ := P38
                refine gv_callS hD rfl (As := [.inr (.inl v2_26), .inr (.inl (J13 63 (Int.toNat ((I12 55 (Int.toNat (((v1_14 * 4) + v4_26))))))))]) (st := []) rfl (gc_lS5 hws rfl) (Nat.le_of_ble_eq_true rfl) (gz_Ev_mono (d := 1) (by decide) E38) ?_
                show gv_X _ _ (99, [(0, .inr (.inr (some 61))), (1, .inl v1_14), (2, .inr (.inl v2_26)), (4, .inl v4_26)], [.inr (.inl z38)], sh, gc_h sh I12 J13 A)
                refine gv_run 3 true hD (pcₚ := 66) (lvₚ := [(4, .inl (v4_26 + 1)), (2, .inr (.inl z38)), (0, .inr (.inr (some 61))), (1, .inl v1_14)]) (stₚ := []) (hₚ := gc_h sh I12 J13 A) (C := (((True ∧ True) ∧ True) ∧ True)) rfl ⟨⟨⟨trivial, trivial⟩, trivial⟩, trivial⟩ ?_
                refine gv_pick [2, 3, 1, 0] rfl ?_
                exact ih66 z38 (v4_26 + 1) (by (/-24-/first | (have o1 := gz_sh hv4_26; have o2 := gz_sh q31; omega) | (simp only [gz_hd] at *; omega))) (by (/-25-/first | (and_intros; (have o1 := gz_sh hv1_14; omega); (have o1 := gz_sh hv1_14_26; omega); (have o1 := gz_sh hv4_26; omega); (have o1 := gz_sh q31; omega); (have o1 := gz_sh e0_26; omega); (have o1 := gz_sh e0_14; omega)) | (simp only [gz_hd] at *; omega)))
          have L166 : ∀ (n9 : Nat) (v1_39 : Int64) (v3_39 : Int) (v4_39 : Int), (3001 - v4_39).toNat < n9 → ((0 ≤ v3_39 ∧ v3_39 ≤ 3000) ∧ (0 ≤ v4_39 ∧ v4_39 ≤ 3000) ∧ (v3_39 = I12 49 (Int.toNat (I12 48 10))) ∧ (I12 61 2 = (t : Int))) → gv_X (gc_E5 ws0 tb 2 (yX5_total, cX5_total, 5, (some .long)) kX5_total) (gv_Q cX5_total (some .long) sh (fun r hₚ => (∃ (Iₚ : gr_I) (Jₚ : gr_J), hₚ = gc_h sh Iₚ Jₚ A ∧ gc_Inv ro Iₚ ∧ (∀ q j : Nat, (False) ∨ Iₚ q j = I q j) ∧ (∀ q j : Nat, (q = 63) ∨ Jₚ q j = J q j) ∧ (∃ z : Int64, r = some (.inr (.inl z)))))) (166, [(0, .inr (.inr (some 61))), (1, .inr (.inl v1_39)), (3, .inl v3_39), (4, .inl v4_39)], [], sh, gc_h sh I12 J13 A) := by
            intro n9
            induction n9 with
            | zero => intro v1_39 v3_39 v4_39 hn; (/-26-/first | omega | (simp only [gz_hd] at *; omega))
            | succ n9 ih166 =>
              intro v1_39 v3_39 v4_39 hn m_39
              obtain ⟨hv3_39, hv4_39, e0_39, e1_39⟩ := gz_h4 m_39
              have t44 := gz_hi ((gc_FN_fr x2 (fun k => (FI12 49 k).resolve_left id) (fun k => (FI12 50 k).resolve_left id)) (Int.toNat (I12 48 10)) (by (/-27-/first | (have o1 := gz_sh f17; omega) | (simp only [gz_hd] at *; omega))))
              refine gv_run 3 true hD (pcₚ := 170) (lvₚ := [(0, .inr (.inr (some 61))), (1, .inr (.inl v1_39)), (3, .inl v3_39), (4, .inl v4_39)]) (stₚ := [.inr (.inr (some 61)), .inl v3_39, .inl v4_39]) (hₚ := gc_h sh I12 J13 A) (C := (((True ∧ True) ∧ True) ∧ True)) rfl ⟨⟨⟨trivial, trivial⟩, trivial⟩, trivial⟩ ?_
              refine gv_get hD rfl rfl S_61 ⟨by decide, (gz_sh B_61)⟩ (gc_hA S_61 rfl A_61_1) ?_
              show gv_X _ _ (173, [(0, .inr (.inr (some 61))), (1, .inr (.inl v1_39)), (3, .inl v3_39), (4, .inl v4_39)], [.inr (.inr (some 48)), .inl v3_39, .inl v4_39], sh, gc_h sh I12 J13 A)
              refine gv_get hD rfl rfl S_48 ⟨by decide, (gz_sh B_48)⟩ (gc_hA S_48 rfl A_48_2) ?_
              show gv_X _ _ (176, [(0, .inr (.inr (some 61))), (1, .inr (.inl v1_39)), (3, .inl v3_39), (4, .inl v4_39)], [.inr (.inr (some 50)), .inl v3_39, .inl v4_39], sh, gc_h sh I12 J13 A)
              refine gv_run 1 true hD (pcₚ := 177) (lvₚ := [(0, .inr (.inr (some 61))), (1, .inr (.inl v1_39)), (3, .inl v3_39), (4, .inl v4_39)]) (stₚ := [.inr (.inr (some 61)), .inr (.inr (some 50)), .inl v3_39, .inl v4_39]) (hₚ := gc_h sh I12 J13 A) (C := (True ∧ True)) rfl ⟨trivial, trivial⟩ ?_
              refine gv_get hD rfl rfl S_61 ⟨by decide, (gz_sh B_61)⟩ (gc_hA S_61 rfl A_61_1) ?_
              show gv_X _ _ (180, [(0, .inr (.inr (some 61))), (1, .inr (.inl v1_39)), (3, .inl v3_39), (4, .inl v4_39)], [.inr (.inr (some 48)), .inr (.inr (some 50)), .inl v3_39, .inl v4_39], sh, gc_h sh I12 J13 A)
              refine gv_get hD rfl rfl S_48 ⟨by decide, (gz_sh B_48)⟩ (gc_hI S_48 rfl) ?_
              show gv_X _ _ (183, [(0, .inr (.inr (some 61))), (1, .inr (.inl v1_39)), (3, .inl v3_39), (4, .inl v4_39)], [.inl (I12 48 10), .inr (.inr (some 50)), .inl v3_39, .inl v4_39], sh, gc_h sh I12 J13 A)
              have f46 := gz_hi ((gc_b_43 hI12 (gz_sh R_50) (Int.toNat (I12 48 10))))
              refine gv_iald hD rfl S_50 rfl ⟨by decide, (gz_sh B_50)⟩ ⟨by (/-28-/first | (have o1 := gz_sh f17; omega) | (simp only [gz_hd] at *; omega)), by (/-29-/first | (have o1 := gz_sh f17; omega) | (simp only [gz_hd] at *; omega))⟩ (gc_iI S_50 rfl) ?_
              show gv_X _ _ (184, [(0, .inr (.inr (some 61))), (1, .inr (.inl v1_39)), (3, .inl v3_39), (4, .inl v4_39)], [.inl (I12 50 (Int.toNat (I12 48 10))), .inl v3_39, .inl v4_39], sh, gc_h sh I12 J13 A)
              refine gv_run 1 true hD (pcₚ := 185) (lvₚ := [(0, .inr (.inr (some 61))), (1, .inr (.inl v1_39)), (3, .inl v3_39), (4, .inl v4_39)]) (stₚ := [.inl (v3_39 + (I12 50 (Int.toNat (I12 48 10)))), .inl v4_39]) (hₚ := gc_h sh I12 J13 A) (C := (True ∧ True)) rfl ⟨trivial, trivial⟩ ?_
              refine gv_icmp_ge (t := 210) hD rfl rfl ⟨⟨by (/-30-/first | (have o1 := gz_sh hv4_39; omega) | (simp only [gz_hd] at *; omega)), by (/-31-/first | (have o1 := gz_sh hv4_39; omega) | (simp only [gz_hd] at *; omega))⟩, ⟨by (/-32-/first | (have o1 := gz_sh f46; have o2 := gz_sh hv3_39; omega) | (simp only [gz_hd] at *; omega)), by (/-33-/first | (have o1 := gz_sh e0_39; have o2 := gz_sh t44; omega) | (simp only [gz_hd] at *; omega))⟩⟩ (fun c47 => ?_) (fun c47 => ?_)
              · show gv_X _ _ (210, [(0, .inr (.inr (some 61))), (1, .inr (.inl v1_39)), (3, .inl v3_39), (4, .inl v4_39)], [], sh, gc_h sh I12 J13 A)
                refine gv_run 1 true hD (pcₚ := 211) (lvₚ := [(0, .inr (.inr (some 61))), (1, .inr (.inl v1_39)), (3, .inl v3_39), (4, .inl v4_39)]) (stₚ := [.inr (.inl v1_39)]) (hₚ := gc_h sh I12 J13 A) (C := (True ∧ True)) rfl ⟨trivial, trivial⟩ ?_
                exact gv_lret hD rfl ⟨I12, J13, rfl, hI12, FI12, FJ13, ⟨_, rfl⟩⟩
              · show gv_X _ _ (188, [(0, .inr (.inr (some 61))), (1, .inr (.inl v1_39)), (3, .inl v3_39), (4, .inl v4_39)], [], sh, gc_h sh I12 J13 A)
                refine gv_run 3 true hD (pcₚ := 193) (lvₚ := [(0, .inr (.inr (some 61))), (1, .inr (.inl v1_39)), (3, .inl v3_39), (4, .inl v4_39)]) (stₚ := [.inr (.inr (some 61)), .inr (.inl v1_39), .inr (.inl (1000000000000000000))]) (hₚ := gc_h sh I12 J13 A) (C := (((True ∧ True) ∧ True) ∧ True)) rfl ⟨⟨⟨trivial, trivial⟩, trivial⟩, trivial⟩ ?_
                refine gv_get hD rfl rfl S_61 ⟨by decide, (gz_sh B_61)⟩ (gc_hA S_61 rfl A_61_6) ?_
                show gv_X _ _ (196, [(0, .inr (.inr (some 61))), (1, .inr (.inl v1_39)), (3, .inl v3_39), (4, .inl v4_39)], [.inr (.inr (some 63)), .inr (.inl v1_39), .inr (.inl (1000000000000000000))], sh, gc_h sh I12 J13 A)
                refine gv_run 1 true hD (pcₚ := 198) (lvₚ := [(0, .inr (.inr (some 61))), (1, .inr (.inl v1_39)), (3, .inl v3_39), (4, .inl v4_39)]) (stₚ := [.inl v4_39, .inr (.inr (some 63)), .inr (.inl v1_39), .inr (.inl (1000000000000000000))]) (hₚ := gc_h sh I12 J13 A) (C := (True ∧ True)) rfl ⟨trivial, trivial⟩ ?_
                refine gv_lald hD rfl S_63 rfl ⟨by decide, (gz_sh B_63)⟩ ⟨by (/-34-/first | (have o1 := gz_sh hv4_39; omega) | (simp only [gz_hd] at *; omega)), by (/-35-/first | (have o1 := gz_sh e0_39; have o2 := gz_sh t44; omega) | (simp only [gz_hd] at *; omega))⟩ (gc_jJ S_63 rfl) ?_
                show gv_X _ _ (199, [(0, .inr (.inr (some 61))), (1, .inr (.inl v1_39)), (3, .inl v3_39), (4, .inl v4_39)], [.inr (.inl (J13 63 (Int.toNat v4_39))), .inr (.inl v1_39), .inr (.inl (1000000000000000000))], sh, gc_h sh I12 J13 A)
                refine gv_run 1 true hD (pcₚ := 200) (lvₚ := [(0, .inr (.inr (some 61))), (1, .inr (.inl v1_39)), (3, .inl v3_39), (4, .inl v4_39)]) (stₚ := [.inr (.inl (v1_39 + (J13 63 (Int.toNat v4_39)))), .inr (.inl (1000000000000000000))]) (hₚ := gc_h sh I12 J13 A) (C := (True ∧ True)) rfl ⟨trivial, trivial⟩ ?_
                obtain ⟨z48, E48, q48⟩ := gj_minl (ws0 := ws0) (tb := tb) (sh := sh) (h := gc_h sh I12 J13 A) (1000000000000000000) ((v1_39 + (J13 63 (Int.toNat v4_39))))
                refine gv_callS hD rfl (As := [.inr (.inl (1000000000000000000)), .inr (.inl (v1_39 + (J13 63 (Int.toNat v4_39))))]) (st := []) rfl (gc_lS5 hws rfl) (Nat.le_of_ble_eq_true rfl) (gz_Ev_mono (d := 1) (by decide) E48) ?_
                show gv_X _ _ (203, [(0, .inr (.inr (some 61))), (1, .inr (.inl v1_39)), (3, .inl v3_39), (4, .inl v4_39)], [.inr (.inl z48)], sh, gc_h sh I12 J13 A)
                refine gv_run 3 true hD (pcₚ := 166) (lvₚ := [(4, .inl (v4_39 + 1)), (1, .inr (.inl z48)), (0, .inr (.inr (some 61))), (3, .inl v3_39)]) (stₚ := []) (hₚ := gc_h sh I12 J13 A) (C := (((True ∧ True) ∧ True) ∧ True)) rfl ⟨⟨⟨trivial, trivial⟩, trivial⟩, trivial⟩ ?_
                refine gv_pick [2, 1, 3, 0] rfl ?_
                exact ih166 z48 v3_39 (v4_39 + 1) (by (/-36-/first | (have o1 := gz_sh e0_39; have o2 := gz_sh hv4_39; have o3 := gz_sh t44; omega) | (simp only [gz_hd] at *; omega))) (by (/-37-/first | (and_intros; (have o1 := gz_sh hv3_39; omega); (have o1 := gz_sh hv3_39; omega); (have o1 := gz_sh hv4_39; omega); (have o1 := gz_sh e0_39; have o2 := gz_sh t44; omega); (have o1 := gz_sh e0_39; omega); (have o1 := gz_sh e0_14; omega)) | (simp only [gz_hd] at *; omega)))
          refine gv_run 2 true hD (pcₚ := 39) (lvₚ := [(0, .inr (.inr (some 61))), (1, .inl v1_14)]) (stₚ := [.inr (.inr (some 61)), .inl v1_14]) (hₚ := gc_h sh I12 J13 A) (C := ((True ∧ True) ∧ True)) rfl ⟨⟨trivial, trivial⟩, trivial⟩ ?_
          refine gv_get hD rfl rfl S_61 ⟨by decide, (gz_sh B_61)⟩ (gc_hA S_61 rfl A_61_1) ?_
          show gv_X _ _ (42, [(0, .inr (.inr (some 61))), (1, .inl v1_14)], [.inr (.inr (some 48)), .inl v1_14], sh, gc_h sh I12 J13 A)
          refine gv_get hD rfl rfl S_48 ⟨by decide, (gz_sh B_48)⟩ (gc_hI S_48 rfl) ?_
          show gv_X _ _ (45, [(0, .inr (.inr (some 61))), (1, .inl v1_14)], [.inl (I12 48 6), .inl v1_14], sh, gc_h sh I12 J13 A)
          refine gv_icmp_ge (t := 145) hD rfl rfl ⟨⟨by (/-38-/first | (have o1 := gz_sh hv1_14; omega) | (simp only [gz_hd] at *; omega)), by (/-39-/first | (have o1 := gz_sh hv1_14; omega) | (simp only [gz_hd] at *; omega))⟩, ⟨by (/-40-/first | (have o1 := gz_sh f16; omega) | (simp only [gz_hd] at *; omega)), by (/-41-/first | (have o1 := gz_sh f16; omega) | (simp only [gz_hd] at *; omega))⟩⟩ (fun c50 => ?_) (fun c50 => ?_)
          · show gv_X _ _ (145, [(0, .inr (.inr (some 61))), (1, .inl v1_14)], [], sh, gc_h sh I12 J13 A)
            refine gv_run 3 true hD (pcₚ := 148) (lvₚ := [(1, .inr (.inl (Int64.ofNat 0))), (0, .inr (.inr (some 61)))]) (stₚ := [.inr (.inr (some 61))]) (hₚ := gc_h sh I12 J13 A) (C := (((True ∧ True) ∧ True) ∧ True)) rfl ⟨⟨⟨trivial, trivial⟩, trivial⟩, trivial⟩ ?_
            refine gv_get hD rfl rfl S_61 ⟨by decide, (gz_sh B_61)⟩ (gc_hA S_61 rfl A_61_1) ?_
            show gv_X _ _ (151, [(1, .inr (.inl (Int64.ofNat 0))), (0, .inr (.inr (some 61)))], [.inr (.inr (some 48))], sh, gc_h sh I12 J13 A)
            refine gv_get hD rfl rfl S_48 ⟨by decide, (gz_sh B_48)⟩ (gc_hA S_48 rfl A_48_1) ?_
            show gv_X _ _ (154, [(1, .inr (.inl (Int64.ofNat 0))), (0, .inr (.inr (some 61)))], [.inr (.inr (some 49))], sh, gc_h sh I12 J13 A)
            refine gv_run 1 true hD (pcₚ := 155) (lvₚ := [(1, .inr (.inl (Int64.ofNat 0))), (0, .inr (.inr (some 61)))]) (stₚ := [.inr (.inr (some 61)), .inr (.inr (some 49))]) (hₚ := gc_h sh I12 J13 A) (C := (True ∧ True)) rfl ⟨trivial, trivial⟩ ?_
            refine gv_get hD rfl rfl S_61 ⟨by decide, (gz_sh B_61)⟩ (gc_hA S_61 rfl A_61_1) ?_
            show gv_X _ _ (158, [(1, .inr (.inl (Int64.ofNat 0))), (0, .inr (.inr (some 61)))], [.inr (.inr (some 48)), .inr (.inr (some 49))], sh, gc_h sh I12 J13 A)
            refine gv_get hD rfl rfl S_48 ⟨by decide, (gz_sh B_48)⟩ (gc_hI S_48 rfl) ?_
            show gv_X _ _ (161, [(1, .inr (.inl (Int64.ofNat 0))), (0, .inr (.inr (some 61)))], [.inl (I12 48 10), .inr (.inr (some 49))], sh, gc_h sh I12 J13 A)
            have f52 := gz_hi ((gc_b_43 hI12 (gz_sh R_49) (Int.toNat (I12 48 10))))
            refine gv_iald hD rfl S_49 rfl ⟨by decide, (gz_sh B_49)⟩ ⟨by (/-42-/first | (have o1 := gz_sh f17; omega) | (simp only [gz_hd] at *; omega)), by (/-43-/first | (have o1 := gz_sh f17; omega) | (simp only [gz_hd] at *; omega))⟩ (gc_iI S_49 rfl) ?_
            show gv_X _ _ (162, [(1, .inr (.inl (Int64.ofNat 0))), (0, .inr (.inr (some 61)))], [.inl (I12 49 (Int.toNat (I12 48 10)))], sh, gc_h sh I12 J13 A)
            refine gv_run 3 true hD (pcₚ := 166) (lvₚ := [(4, .inl (I12 49 (Int.toNat (I12 48 10)))), (3, .inl (I12 49 (Int.toNat (I12 48 10)))), (1, .inr (.inl (Int64.ofNat 0))), (0, .inr (.inr (some 61)))]) (stₚ := []) (hₚ := gc_h sh I12 J13 A) (C := (((True ∧ True) ∧ True) ∧ True)) rfl ⟨⟨⟨trivial, trivial⟩, trivial⟩, trivial⟩ ?_
            refine gv_pick [3, 2, 1, 0] rfl ?_
            exact L166 _ (Int64.ofNat 0) ((I12 49 (Int.toNat (I12 48 10)))) ((I12 49 (Int.toNat (I12 48 10)))) (Nat.lt_succ_self _) (by (/-44-/first | (and_intros; (have o1 := gz_sh f52; omega); (have o1 := gz_sh f52; omega); (have o1 := gz_sh f52; omega); (have o1 := gz_sh f52; omega); (omega); (have o1 := gz_sh e0_14; omega)) | (simp only [gz_hd] at *; omega)))
          · show gv_X _ _ (48, [(0, .inr (.inr (some 61))), (1, .inl v1_14)], [], sh, gc_h sh I12 J13 A)
            refine gv_run 1 true hD (pcₚ := 49) (lvₚ := [(0, .inr (.inr (some 61))), (1, .inl v1_14)]) (stₚ := [.inr (.inr (some 61))]) (hₚ := gc_h sh I12 J13 A) (C := (True ∧ True)) rfl ⟨trivial, trivial⟩ ?_
            refine gv_get hD rfl rfl S_61 ⟨by decide, (gz_sh B_61)⟩ (gc_hA S_61 rfl A_61_5) ?_
            show gv_X _ _ (52, [(0, .inr (.inr (some 61))), (1, .inl v1_14)], [.inr (.inr (some 62))], sh, gc_h sh I12 J13 A)
            refine gv_run 2 true hD (pcₚ := 54) (lvₚ := [(0, .inr (.inr (some 61))), (1, .inl v1_14)]) (stₚ := [.inl v1_14, .inr (.inr (some 61)), .inr (.inr (some 62))]) (hₚ := gc_h sh I12 J13 A) (C := ((True ∧ True) ∧ True)) rfl ⟨⟨trivial, trivial⟩, trivial⟩ ?_
            obtain ⟨r53, h53, E53, P53⟩ := d_X5_funOf (ws0 := ws0) (tb := tb) hws htb sh ro I12 J13 A hI12  t v1_14 hb  h_t G_t  ⟨by (/-45-/first | (have o1 := gz_sh hv1_14; omega) | (simp only [gz_hd] at *; omega)), by (/-46-/first | (have o1 := gz_sh f16; omega) | (simp only [gz_hd] at *; omega))⟩ (gc_Ls_fr x0 ((FI12 t 13).resolve_left id) (fun q hL hq d k hd => (FI12 (q + d) k).resolve_left id)) (gc_WV_fr x1 ((FI12 48 6).resolve_left id) ((FI12 t 13).resolve_left id) (fun k => (FI12 54 k).resolve_left id)) (by (/-47-/first | omega | (simp only [gz_hd] at *; omega))) (by (/-48-/first | (have o1 := gz_sh e0_14; omega) | (simp only [gz_hd] at *; omega))) 
            obtain ⟨rfl, ⟨z53, rfl, q53⟩⟩ := P53
            replace q53 := gz_hi q53
            refine gv_callV hD rfl (As := [.inl v1_14]) (st := [.inr (.inr (some 62))]) rfl (gz_sh B_61) S_61 rfl (gc_lV5 hws rfl) (Nat.le_of_ble_eq_true rfl) (gz_Ev_mono (d := 2) (by decide) E53) ?_
            show gv_X _ _ (57, [(0, .inr (.inr (some 61))), (1, .inl v1_14)], [.inl z53, .inr (.inr (some 62))], sh, gc_h sh I12 J13 A)
            have f54 := gz_hi ((gc_b_2 hI12 (gz_sh R_62) (Int.toNat z53)))
            refine gv_bald hD rfl S_62 (Or.inr rfl) ⟨by decide, (gz_sh B_62)⟩ ⟨by (/-49-/first | (have o1 := gz_sh q53; omega) | (simp only [gz_hd] at *; omega)), by (/-50-/first | (have o1 := gz_sh q53; omega) | (simp only [gz_hd] at *; omega))⟩ (gc_iI S_62 rfl) ?_
            show gv_X _ _ (58, [(0, .inr (.inr (some 61))), (1, .inl v1_14)], [.inl (I12 62 (Int.toNat z53))], sh, gc_h sh I12 J13 A)
            refine gv_if_ne (t := 139) hD rfl rfl ⟨by (/-51-/first | (have o1 := gz_sh f54; omega) | (simp only [gz_hd] at *; omega)), by (/-52-/first | (have o1 := gz_sh f54; omega) | (simp only [gz_hd] at *; omega))⟩ (fun c55 => ?_) (fun c55 => ?_)
            · show gv_X _ _ (139, [(0, .inr (.inr (some 61))), (1, .inl v1_14)], [], sh, gc_h sh I12 J13 A)
              exact L139 I12 J13 hI12 FI12 FJ13 (by (/-53-/first | (and_intros; (have o1 := gz_sh hv1_14; omega); (have o1 := gz_sh f16; omega); (omega); (have o1 := gz_sh e0_14; omega)) | (simp only [gz_hd] at *; omega)))
            · show gv_X _ _ (61, [(0, .inr (.inr (some 61))), (1, .inl v1_14)], [], sh, gc_h sh I12 J13 A)
              refine gv_run 4 true hD (pcₚ := 66) (lvₚ := [(4, .inl 0), (2, .inr (.inl (Int64.ofNat 1))), (0, .inr (.inr (some 61))), (1, .inl v1_14)]) (stₚ := []) (hₚ := gc_h sh I12 J13 A) (C := ((((True ∧ True) ∧ True) ∧ True) ∧ True)) rfl ⟨⟨⟨⟨trivial, trivial⟩, trivial⟩, trivial⟩, trivial⟩ ?_
              refine gv_pick [2, 3, 1, 0] rfl ?_
              exact L66 _ (Int64.ofNat 1) 0 (Nat.lt_succ_self _) (by (/-54-/first | (and_intros; (have o1 := gz_sh hv1_14; omega); (have o1 := gz_sh f16; omega); (omega); (omega); (omega); (have o1 := gz_sh e0_14; omega)) | (simp only [gz_hd] at *; omega)))
      refine gv_run 2 true hD (pcₚ := 13) (lvₚ := [(0, .inr (.inr (some 61))), (1, .inl v1_7)]) (stₚ := [.inr (.inr (some 61)), .inl v1_7]) (hₚ := gc_h sh I5 J6 A) (C := ((True ∧ True) ∧ True)) rfl ⟨⟨trivial, trivial⟩, trivial⟩ ?_
      refine gv_get hD rfl rfl S_61 ⟨by decide, (gz_sh B_61)⟩ (gc_hA S_61 rfl A_61_1) ?_
      show gv_X _ _ (16, [(0, .inr (.inr (some 61))), (1, .inl v1_7)], [.inr (.inr (some 48)), .inl v1_7], sh, gc_h sh I5 J6 A)
      refine gv_get hD rfl rfl S_48 ⟨by decide, (gz_sh B_48)⟩ (gc_hI S_48 rfl) ?_
      show gv_X _ _ (19, [(0, .inr (.inr (some 61))), (1, .inl v1_7)], [.inl (I5 48 3), .inl v1_7], sh, gc_h sh I5 J6 A)
      refine gv_icmp_ge (t := 35) hD rfl rfl ⟨⟨by (/-55-/first | (have o1 := gz_sh hv1_7; omega) | (simp only [gz_hd] at *; omega)), by (/-56-/first | (have o1 := gz_sh hv1_7; omega) | (simp only [gz_hd] at *; omega))⟩, ⟨by (/-57-/first | (have o1 := gz_sh f8; omega) | (simp only [gz_hd] at *; omega)), by (/-58-/first | (have o1 := gz_sh f8; omega) | (simp only [gz_hd] at *; omega))⟩⟩ (fun c57 => ?_) (fun c57 => ?_)
      · show gv_X _ _ (35, [(0, .inr (.inr (some 61))), (1, .inl v1_7)], [], sh, gc_h sh I5 J6 A)
        refine gv_run 2 true hD (pcₚ := 37) (lvₚ := [(1, .inl 0), (0, .inr (.inr (some 61)))]) (stₚ := []) (hₚ := gc_h sh I5 J6 A) (C := ((True ∧ True) ∧ True)) rfl ⟨⟨trivial, trivial⟩, trivial⟩ ?_
        refine gv_pick [1, 0] rfl ?_
        exact L37 _ I5 J6 0 (Nat.lt_succ_self _) hI5 FI5 FJ6 (by (/-59-/first | (and_intros; (omega); (omega); (have o1 := gz_sh e0_7; omega)) | (simp only [gz_hd] at *; omega)))
      · show gv_X _ _ (22, [(0, .inr (.inr (some 61))), (1, .inl v1_7)], [], sh, gc_h sh I5 J6 A)
        refine gv_run 1 true hD (pcₚ := 23) (lvₚ := [(0, .inr (.inr (some 61))), (1, .inl v1_7)]) (stₚ := [.inr (.inr (some 61))]) (hₚ := gc_h sh I5 J6 A) (C := (True ∧ True)) rfl ⟨trivial, trivial⟩ ?_
        refine gv_get hD rfl rfl S_61 ⟨by decide, (gz_sh B_61)⟩ (gc_hA S_61 rfl A_61_6) ?_
        show gv_X _ _ (26, [(0, .inr (.inr (some 61))), (1, .inl v1_7)], [.inr (.inr (some 63))], sh, gc_h sh I5 J6 A)
        refine gv_run 2 true hD (pcₚ := 28) (lvₚ := [(0, .inr (.inr (some 61))), (1, .inl v1_7)]) (stₚ := [.inr (.inl (Int64.ofNat 0)), .inl v1_7, .inr (.inr (some 63))]) (hₚ := gc_h sh I5 J6 A) (C := ((True ∧ True) ∧ True)) rfl ⟨⟨trivial, trivial⟩, trivial⟩ ?_
        refine gv_last hD rfl S_63 ⟨by decide, (gz_sh B_63)⟩ ⟨by (/-60-/first | (have o1 := gz_sh hv1_7; omega) | (simp only [gz_hd] at *; omega)), by (/-61-/first | (have o1 := gz_sh f8; omega) | (simp only [gz_hd] at *; omega))⟩ ?_
        refine gc_stJ S_63 rfl (fun J58 q59 p59 => ?_)
        have FJ58 := gc_frs (W := fun q j => q = 63) FJ6 rfl p59
        show gv_X _ _ (29, [(0, .inr (.inr (some 61))), (1, .inl v1_7)], [], sh, gc_h sh I5 J58 A)
        refine gv_run 2 true hD (pcₚ := 11) (lvₚ := [(1, .inl (v1_7 + 1)), (0, .inr (.inr (some 61)))]) (stₚ := []) (hₚ := gc_h sh I5 J58 A) (C := ((True ∧ True) ∧ True)) rfl ⟨⟨trivial, trivial⟩, trivial⟩ ?_
        refine gv_pick [1, 0] rfl ?_
        exact ih11 I5 J58 (v1_7 + 1) (by (/-62-/first | (have o1 := gz_sh f8; have o2 := gz_sh hv1_7; omega) | (simp only [gz_hd] at *; omega))) hI5 FI5 FJ58 (by (/-63-/first | (and_intros; (have o1 := gz_sh hv1_7; omega); (have o1 := gz_sh f8; omega); (have o1 := gz_sh e0_7; omega)) | (simp only [gz_hd] at *; omega)))
  refine gv_run 1 true hD (pcₚ := 1) (lvₚ := [(0, .inr (.inr (some 61)))]) (stₚ := [.inr (.inr (some 61))]) (hₚ := gc_h sh I J A) (C := (True ∧ True)) rfl ⟨trivial, trivial⟩ ?_
  have f60 := gz_hi ((gc_b_72_3 hI (gz_sh R_61)))
  refine gv_get hD rfl rfl S_61 ⟨by decide, (gz_sh B_61)⟩ (gc_hI S_61 rfl) ?_
  show gv_X _ _ (4, [(0, .inr (.inr (some 61)))], [.inl (I 61 3)], sh, gc_h sh I J A)
  refine gv_if_ne (t := 9) hD rfl rfl ⟨by (/-64-/first | (have o1 := gz_sh f60; omega) | (simp only [gz_hd] at *; omega)), by (/-65-/first | (have o1 := gz_sh f60; omega) | (simp only [gz_hd] at *; omega))⟩ (fun c61 => ?_) (fun c61 => ?_)
  · show gv_X _ _ (9, [(0, .inr (.inr (some 61)))], [], sh, gc_h sh I J A)
    refine gv_run 2 true hD (pcₚ := 11) (lvₚ := [(1, .inl 0), (0, .inr (.inr (some 61)))]) (stₚ := []) (hₚ := gc_h sh I J A) (C := ((True ∧ True) ∧ True)) rfl ⟨⟨trivial, trivial⟩, trivial⟩ ?_
    refine gv_pick [1, 0] rfl ?_
    exact L11 _ I J 0 (Nat.lt_succ_self _) hI FI FJ (by (/-66-/first | (and_intros <;> omega) | (simp only [gz_hd] at *; omega)))
  · show gv_X _ _ (7, [(0, .inr (.inr (some 61)))], [], sh, gc_h sh I J A)
    refine gv_run 1 true hD (pcₚ := 8) (lvₚ := [(0, .inr (.inr (some 61)))]) (stₚ := [.inr (.inl (Int64.ofNat 0))]) (hₚ := gc_h sh I J A) (C := (True ∧ True)) rfl ⟨trivial, trivial⟩ ?_
    exact gv_lret hD rfl ⟨I, J, rfl, hI, FI, FJ, ⟨_, rfl⟩⟩
set_option maxHeartbeats 8000000 in
set_option maxRecDepth 100000 in
theorem d_X5_ownPrice {ws0 : List Cond} {tb : String → gz_T} (hws : gc_Ws ws0) (htb : gc_tbs tb) (sh : gz_Sh) (ro : Nat → Nat) (I : gr_I) (J : gr_J) (A : gc_A) (hI : gc_Inv ro I) (t : Nat) (a1 : Int) (hb : gc_Base sh ro A) (h_t : gc_isTongue sh ro A t) (G_t : 144 ≤ t) (ha1 : 0 ≤ a1 ∧ a1 ≤ 8999) (x0 : gc_Ls sh ro A t I) (x1 : gc_WV t I) (x2 : a1 < I 48 6) (x3 : I 61 2 = (t : Int)) : ∃ r hₚ, gz_Ev ws0 tb 3 (yX5_ownPrice, cX5_ownPrice, 4, (some .int)) [.inr (.inr (some 61)), .inl a1] sh (gc_h sh I J A) r sh hₚ 0 0 ∧ (hₚ = gc_h sh I J A ∧ (∃ z : Int, r = some (.inl z) ∧ 0 ≤ z ∧ z ≤ 20000)) := by
  have A_1_9 : A 1 9 = some 14 := gc_bA_1_9 hb
  have A_48_8 : A 48 8 = some 54 := gc_bA_48_8 hb
  have A_61_0 : A 61 0 = some 1 := gc_bA_61_0 hb
  have A_61_1 : A 61 1 = some 48 := gc_bA_61_1 hb
  have B_1 := gz_hi (show 1 < 1000000 from by decide)
  have B_14 := gz_hi (show 14 < 1000000 from by decide)
  have B_48 := gz_hi (show 48 < 1000000 from by decide)
  have B_54 := gz_hi (show 54 < 1000000 from by decide)
  have B_61 := gz_hi (show 61 < 1000000 from by decide)
  have R_14 := gz_hi (show ro 14 = 27 from gc_bR_14 hb)
  have R_54 := gz_hi (show ro 54 = 46 from gc_bR_54 hb)
  have R_61 := gz_hi (show ro 61 = 72 from gc_bR_61 hb)
  have S_1 : sh[1]? = some (false, 8, 21) := gc_bS_1 hb
  have S_14 : sh[14]? = some (true, 1, 96) := gc_bS_14 hb
  have S_48 : sh[48]? = some (false, 0, 22) := gc_bS_48 hb
  have S_54 : sh[54]? = some (true, 1, 9000) := gc_bS_54 hb
  have S_61 : sh[61]? = some (false, 5, 19) := gc_bS_61 hb
  obtain ⟨S_t, R_t, B_t, A_t_0, h_t_1, A_t_1, h_t_3, A_t_2, S_t_5, R_t_5, B_t_5, A_t_3, S_t_6, R_t_6, B_t_6, A_t_4, h_t_7, A_t_5, S_t_9, R_t_9, B_t_9, A_t_7, S_t_10, R_t_10, B_t_10, A_t_8, h_t_11, A_t_9, S_t_13, R_t_13, B_t_13, A_t_10, S_t_14, R_t_14, B_t_14, A_t_12, S_t_15, R_t_15, B_t_15, A_t_14, S_t_16, R_t_16, B_t_16, A_t_15, h_t_17⟩ := id h_t
  replace R_t := gz_hi R_t
  replace B_t := gz_hi B_t
  replace R_t_5 := gz_hi R_t_5
  replace B_t_5 := gz_hi B_t_5
  replace R_t_6 := gz_hi R_t_6
  replace B_t_6 := gz_hi B_t_6
  replace R_t_9 := gz_hi R_t_9
  replace B_t_9 := gz_hi B_t_9
  replace R_t_10 := gz_hi R_t_10
  replace B_t_10 := gz_hi B_t_10
  replace R_t_13 := gz_hi R_t_13
  replace B_t_13 := gz_hi B_t_13
  replace R_t_14 := gz_hi R_t_14
  replace B_t_14 := gz_hi B_t_14
  replace R_t_15 := gz_hi R_t_15
  replace B_t_15 := gz_hi B_t_15
  replace R_t_16 := gz_hi R_t_16
  replace B_t_16 := gz_hi B_t_16
  obtain ⟨S_t_1, R_t_1, B_t_1, A_t_1_0, S_t_1_1, R_t_1_1, B_t_1_1, Q0_t_1, Q1_t_1, Q2_t_1⟩ := id h_t_1
  replace R_t_1 := gz_hi R_t_1
  replace B_t_1 := gz_hi B_t_1
  replace R_t_1_1 := gz_hi R_t_1_1
  replace B_t_1_1 := gz_hi B_t_1_1
  obtain ⟨S_t_3, R_t_3, B_t_3, A_t_3_0, S_t_3_1, R_t_3_1, B_t_3_1, Q0_t_3, Q1_t_3, Q2_t_3⟩ := id h_t_3
  replace R_t_3 := gz_hi R_t_3
  replace B_t_3 := gz_hi B_t_3
  replace R_t_3_1 := gz_hi R_t_3_1
  replace B_t_3_1 := gz_hi B_t_3_1
  obtain ⟨S_t_7, R_t_7, B_t_7, A_t_7_0, S_t_7_1, R_t_7_1, B_t_7_1, Q0_t_7, Q1_t_7, Q2_t_7⟩ := id h_t_7
  replace R_t_7 := gz_hi R_t_7
  replace B_t_7 := gz_hi B_t_7
  replace R_t_7_1 := gz_hi R_t_7_1
  replace B_t_7_1 := gz_hi B_t_7_1
  obtain ⟨S_t_11, R_t_11, B_t_11, A_t_11_0, S_t_11_1, R_t_11_1, B_t_11_1, Q0_t_11, Q1_t_11, Q2_t_11⟩ := id h_t_11
  replace R_t_11 := gz_hi R_t_11
  replace B_t_11 := gz_hi B_t_11
  replace R_t_11_1 := gz_hi R_t_11_1
  replace B_t_11_1 := gz_hi B_t_11_1
  obtain ⟨S_t_17, R_t_17, B_t_17, A_t_17_0, S_20, R_20, B_20, A_t_17_1, S_t_17_1, R_t_17_1, B_t_17_1, A_t_17_2, S_t_17_2, R_t_17_2, B_t_17_2, A_t_17_3, S_t_17_3, R_t_17_3, B_t_17_3, A_t_17_4, S_t_17_4, R_t_17_4, B_t_17_4, A_t_17_5, S_t_17_5, R_t_17_5, B_t_17_5, S_t_17_6, R_t_17_6, B_t_17_6, S_t_17_7, R_t_17_7, B_t_17_7⟩ := id h_t_17
  replace R_t_17 := gz_hi R_t_17
  replace B_t_17 := gz_hi B_t_17
  replace R_20 := gz_hi R_20
  replace B_20 := gz_hi B_20
  replace R_t_17_1 := gz_hi R_t_17_1
  replace B_t_17_1 := gz_hi B_t_17_1
  replace R_t_17_2 := gz_hi R_t_17_2
  replace B_t_17_2 := gz_hi B_t_17_2
  replace R_t_17_3 := gz_hi R_t_17_3
  replace B_t_17_3 := gz_hi B_t_17_3
  replace R_t_17_4 := gz_hi R_t_17_4
  replace B_t_17_4 := gz_hi B_t_17_4
  replace R_t_17_5 := gz_hi R_t_17_5
  replace B_t_17_5 := gz_hi B_t_17_5
  replace R_t_17_6 := gz_hi R_t_17_6
  replace B_t_17_6 := gz_hi B_t_17_6
  replace R_t_17_7 := gz_hi R_t_17_7
  replace B_t_17_7 := gz_hi B_t_17_7
  have hD : gv_D (gc_E5 ws0 tb 2 (yX5_ownPrice, cX5_ownPrice, 4, (some .int)) kX5_ownPrice) := gq_of oX5_ownPrice
  refine gc_ev5 (d := 2) (l := kX5_ownPrice) (Po := fun r hₚ => (hₚ = gc_h sh I J A ∧ (∃ z : Int, r = some (.inl z) ∧ 0 ≤ z ∧ z ≤ 20000))) htb rfl (Nat.le_of_ble_eq_true rfl) ?_
  have L42 : ∀ (s0_2 : Int), ((0 ≤ a1 ∧ a1 ≤ 8999) ∧ (0 ≤ s0_2 ∧ s0_2 ≤ 10000) ∧ (I 61 2 = (t : Int))) → gv_X (gc_E5 ws0 tb 2 (yX5_ownPrice, cX5_ownPrice, 4, (some .int)) kX5_ownPrice) (gv_Q cX5_ownPrice (some .int) sh (fun r hₚ => (hₚ = gc_h sh I J A ∧ (∃ z : Int, r = some (.inl z) ∧ 0 ≤ z ∧ z ≤ 20000)))) (42, [(0, .inr (.inr (some 61))), (1, .inl a1)], [.inl s0_2], sh, gc_h sh I J A) := by
    intro s0_2 m_2
    obtain ⟨ha1_2, hs0_2, e0_2⟩ := gz_h3 m_2
    refine gv_run 3 true hD (pcₚ := 45) (lvₚ := [(3, .inl s0_2), (0, .inr (.inr (some 61))), (1, .inl a1)]) (stₚ := [.inr (.inr (some 61)), .inl s0_2]) (hₚ := gc_h sh I J A) (C := (((True ∧ True) ∧ True) ∧ True)) rfl ⟨⟨⟨trivial, trivial⟩, trivial⟩, trivial⟩ ?_
    refine gv_get hD rfl rfl S_61 ⟨by decide, (gz_sh B_61)⟩ (gc_hA S_61 rfl A_61_0) ?_
    show gv_X _ _ (48, [(3, .inl s0_2), (0, .inr (.inr (some 61))), (1, .inl a1)], [.inr (.inr (some 1)), .inl s0_2], sh, gc_h sh I J A)
    refine gv_get hD rfl rfl S_1 ⟨by decide, (gz_sh B_1)⟩ (gc_hA S_1 rfl A_1_9) ?_
    show gv_X _ _ (51, [(3, .inl s0_2), (0, .inr (.inr (some 61))), (1, .inl a1)], [.inr (.inr (some 14)), .inl s0_2], sh, gc_h sh I J A)
    refine gv_run 2 true hD (pcₚ := 53) (lvₚ := [(3, .inl s0_2), (0, .inr (.inr (some 61))), (1, .inl a1)]) (stₚ := [.inl a1, .inr (.inr (some 61)), .inr (.inr (some 14)), .inl s0_2]) (hₚ := gc_h sh I J A) (C := ((True ∧ True) ∧ True)) rfl ⟨⟨trivial, trivial⟩, trivial⟩ ?_
    obtain ⟨r4, h4, E4, P4⟩ := d_X5_funOf (ws0 := ws0) (tb := tb) hws htb sh ro I J A hI  t a1 hb  h_t G_t  ⟨by (/-0-/first | omega | (simp only [gz_hd] at *; omega)), by (/-1-/first | omega | (simp only [gz_hd] at *; omega))⟩ x0 x1 (by (/-2-/first | omega | (simp only [gz_hd] at *; omega))) (by (/-3-/first | (have o1 := gz_sh e0_2; omega) | (simp only [gz_hd] at *; omega))) 
    obtain ⟨rfl, ⟨z4, rfl, q4⟩⟩ := P4
    replace q4 := gz_hi q4
    refine gv_callV hD rfl (As := [.inl a1]) (st := [.inr (.inr (some 14)), .inl s0_2]) rfl (gz_sh B_61) S_61 rfl (gc_lV5 hws rfl) (Nat.le_of_ble_eq_true rfl) (gz_Ev_mono (d := 2) (by decide) E4) ?_
    show gv_X _ _ (56, [(3, .inl s0_2), (0, .inr (.inr (some 61))), (1, .inl a1)], [.inl z4, .inr (.inr (some 14)), .inl s0_2], sh, gc_h sh I J A)
    have f5 := gz_hi ((gc_b_27 hI (gz_sh R_14) (Int.toNat z4)))
    refine gv_iald hD rfl S_14 rfl ⟨by decide, (gz_sh B_14)⟩ ⟨by (/-4-/first | (have o1 := gz_sh q4; omega) | (simp only [gz_hd] at *; omega)), by (/-5-/first | (have o1 := gz_sh q4; omega) | (simp only [gz_hd] at *; omega))⟩ (gc_iI S_14 rfl) ?_
    show gv_X _ _ (57, [(3, .inl s0_2), (0, .inr (.inr (some 61))), (1, .inl a1)], [.inl (I 14 (Int.toNat z4)), .inl s0_2], sh, gc_h sh I J A)
    refine gv_run 1 true hD (pcₚ := 58) (lvₚ := [(3, .inl s0_2), (0, .inr (.inr (some 61))), (1, .inl a1)]) (stₚ := [.inl (s0_2 + (I 14 (Int.toNat z4)))]) (hₚ := gc_h sh I J A) (C := (True ∧ True)) rfl ⟨trivial, trivial⟩ ?_
    exact gv_iret hD rfl ⟨rfl, ⟨_, rfl, by (/-6-/first | (and_intros; (have o1 := gz_sh f5; have o2 := gz_sh hs0_2; omega); (have o1 := gz_sh f5; have o2 := gz_sh hs0_2; omega)) | (simp only [gz_hd] at *; omega))⟩⟩
  refine gv_run 1 true hD (pcₚ := 1) (lvₚ := [(0, .inr (.inr (some 61))), (1, .inl a1)]) (stₚ := [.inr (.inr (some 61))]) (hₚ := gc_h sh I J A) (C := (True ∧ True)) rfl ⟨trivial, trivial⟩ ?_
  refine gv_get hD rfl rfl S_61 ⟨by decide, (gz_sh B_61)⟩ (gc_hA S_61 rfl A_61_1) ?_
  show gv_X _ _ (4, [(0, .inr (.inr (some 61))), (1, .inl a1)], [.inr (.inr (some 48))], sh, gc_h sh I J A)
  refine gv_get hD rfl rfl S_48 ⟨by decide, (gz_sh B_48)⟩ (gc_hA S_48 rfl A_48_8) ?_
  show gv_X _ _ (7, [(0, .inr (.inr (some 61))), (1, .inl a1)], [.inr (.inr (some 54))], sh, gc_h sh I J A)
  refine gv_run 1 true hD (pcₚ := 8) (lvₚ := [(0, .inr (.inr (some 61))), (1, .inl a1)]) (stₚ := [.inl a1, .inr (.inr (some 54))]) (hₚ := gc_h sh I J A) (C := (True ∧ True)) rfl ⟨trivial, trivial⟩ ?_
  have f6 := gz_hi ((gc_b_46 hI (gz_sh R_54) (Int.toNat a1)))
  refine gv_iald hD rfl S_54 rfl ⟨by decide, (gz_sh B_54)⟩ ⟨by (/-7-/first | omega | (simp only [gz_hd] at *; omega)), by (/-8-/first | omega | (simp only [gz_hd] at *; omega))⟩ (gc_iI S_54 rfl) ?_
  show gv_X _ _ (9, [(0, .inr (.inr (some 61))), (1, .inl a1)], [.inl (I 54 (Int.toNat a1))], sh, gc_h sh I J A)
  refine gv_run 1 true hD (pcₚ := 10) (lvₚ := [(2, .inl (I 54 (Int.toNat a1))), (0, .inr (.inr (some 61))), (1, .inl a1)]) (stₚ := []) (hₚ := gc_h sh I J A) (C := (True ∧ True)) rfl ⟨trivial, trivial⟩ ?_
  have t7 := gz_hi (x1 (Int.toNat a1) (by (/-9-/first | omega | (simp only [gz_hd] at *; omega))))
  refine gv_run 1 true hD (pcₚ := 11) (lvₚ := [(2, .inl (I 54 (Int.toNat a1))), (0, .inr (.inr (some 61))), (1, .inl a1)]) (stₚ := [.inl (I 54 (Int.toNat a1))]) (hₚ := gc_h sh I J A) (C := (True ∧ True)) rfl ⟨trivial, trivial⟩ ?_
  refine gv_if_lt (t := 28) hD rfl rfl ⟨by (/-10-/first | (have o1 := gz_sh f6; omega) | (simp only [gz_hd] at *; omega)), by (/-11-/first | (have o1 := gz_sh f6; omega) | (simp only [gz_hd] at *; omega))⟩ (fun c8 => ?_) (fun c8 => ?_)
  · show gv_X _ _ (28, [(2, .inl (I 54 (Int.toNat a1))), (0, .inr (.inr (some 61))), (1, .inl a1)], [], sh, gc_h sh I J A)
    refine gv_run 1 true hD (pcₚ := 29) (lvₚ := [(2, .inl (I 54 (Int.toNat a1))), (0, .inr (.inr (some 61))), (1, .inl a1)]) (stₚ := [.inr (.inr (some 61))]) (hₚ := gc_h sh I J A) (C := (True ∧ True)) rfl ⟨trivial, trivial⟩ ?_
    refine gv_get hD rfl rfl S_61 ⟨by decide, (gz_sh B_61)⟩ (gc_h5 (t := t) S_61 rfl (by (/-12-/first | omega | (simp only [gz_hd] at *; omega)))) ?_
    show gv_X _ _ (32, [(2, .inl (I 54 (Int.toNat a1))), (0, .inr (.inr (some 61))), (1, .inl a1)], [.inr (.inr (some t))], sh, gc_h sh I J A)
    refine gv_get hD rfl rfl S_t ⟨by decide, (gz_sh B_t)⟩ (gc_hA S_t rfl A_t_14) ?_
    show gv_X _ _ (35, [(2, .inl (I 54 (Int.toNat a1))), (0, .inr (.inr (some 61))), (1, .inl a1)], [.inr (.inr (some (t + 16)))], sh, gc_h sh I J A)
    refine gv_run 3 true hD (pcₚ := 38) (lvₚ := [(2, .inl (I 54 (Int.toNat a1))), (0, .inr (.inr (some 61))), (1, .inl a1)]) (stₚ := [.inl ((-1) - (I 54 (Int.toNat a1))), .inr (.inr (some (t + 16)))]) (hₚ := gc_h sh I J A) (C := (((True ∧ True) ∧ True) ∧ True)) rfl ⟨⟨⟨trivial, trivial⟩, trivial⟩, trivial⟩ ?_
    obtain ⟨t9_, A_t9, h_t9, G_t9, U_t9, V_t9⟩ := x0 (Int.toNat (((-1) - (I 54 (Int.toNat a1))))) (by (/-13-/first | (have o1 := gz_sh t7; omega) | (simp only [gz_hd] at *; omega)))
    obtain ⟨S_t9, R_t9, B_t9, A_t9_5, S_t9__1, R_t9__1, B_t9__1, A_t9_6, S_t9__2, R_t9__2, B_t9__2, A_t9_7, S_t9__3, R_t9__3, B_t9__3, A_t9_9, S_t9__4, R_t9__4, B_t9__4, A_t9_10, S_t9__5, R_t9__5, B_t9__5, A_t9_11, S_t9__6, R_t9__6, B_t9__6, A_t9_13, S_t9__7, R_t9__7, B_t9__7, A_t9_15, S_t9__8, R_t9__8, B_t9__8⟩ := id h_t9
    replace R_t9 := gz_hi R_t9
    replace B_t9 := gz_hi B_t9
    replace R_t9__1 := gz_hi R_t9__1
    replace B_t9__1 := gz_hi B_t9__1
    replace R_t9__2 := gz_hi R_t9__2
    replace B_t9__2 := gz_hi B_t9__2
    replace R_t9__3 := gz_hi R_t9__3
    replace B_t9__3 := gz_hi B_t9__3
    replace R_t9__4 := gz_hi R_t9__4
    replace B_t9__4 := gz_hi B_t9__4
    replace R_t9__5 := gz_hi R_t9__5
    replace B_t9__5 := gz_hi B_t9__5
    replace R_t9__6 := gz_hi R_t9__6
    replace B_t9__6 := gz_hi B_t9__6
    replace R_t9__7 := gz_hi R_t9__7
    replace B_t9__7 := gz_hi B_t9__7
    replace R_t9__8 := gz_hi R_t9__8
    replace B_t9__8 := gz_hi B_t9__8
    refine gv_aald hD rfl S_t_16 ⟨by decide, by decide⟩ ⟨by decide, (gz_sh B_t_16)⟩ ⟨by (/-14-/first | omega | (simp only [gz_hd] at *; omega)), by (/-15-/first | (have o1 := gz_sh f6; omega) | (simp only [gz_hd] at *; omega))⟩ ((gc_aA S_t_16 rfl).trans A_t9) ?_
    show gv_X _ _ (39, [(2, .inl (I 54 (Int.toNat a1))), (0, .inr (.inr (some 61))), (1, .inl a1)], [.inr (.inr (some t9_))], sh, gc_h sh I J A)
    have f10 := gz_hi ((show 0 ≤ I t9_ 3 ∧ I t9_ 3 ≤ 10000 from gc_in2 hI (gz_sh R_t9) rfl rfl rfl))
    refine gv_get hD rfl rfl S_t9 ⟨by decide, (gz_sh B_t9)⟩ (gc_hI S_t9 rfl) ?_
    show gv_X _ _ (42, [(2, .inl (I 54 (Int.toNat a1))), (0, .inr (.inr (some 61))), (1, .inl a1)], [.inl (I t9_ 3)], sh, gc_h sh I J A)
    refine gv_pick [1, 2] rfl ?_
    exact L42 (I t9_ 3) (by (/-16-/first | (and_intros; (omega); (omega); (have o1 := gz_sh f10; omega); (have o1 := gz_sh f10; omega); (omega)) | (simp only [gz_hd] at *; omega)))
  · show gv_X _ _ (14, [(2, .inl (I 54 (Int.toNat a1))), (0, .inr (.inr (some 61))), (1, .inl a1)], [], sh, gc_h sh I J A)
    refine gv_run 1 true hD (pcₚ := 15) (lvₚ := [(2, .inl (I 54 (Int.toNat a1))), (0, .inr (.inr (some 61))), (1, .inl a1)]) (stₚ := [.inr (.inr (some 61))]) (hₚ := gc_h sh I J A) (C := (True ∧ True)) rfl ⟨trivial, trivial⟩ ?_
    refine gv_get hD rfl rfl S_61 ⟨by decide, (gz_sh B_61)⟩ (gc_h5 (t := t) S_61 rfl (by (/-17-/first | omega | (simp only [gz_hd] at *; omega)))) ?_
    show gv_X _ _ (18, [(2, .inl (I 54 (Int.toNat a1))), (0, .inr (.inr (some 61))), (1, .inl a1)], [.inr (.inr (some t))], sh, gc_h sh I J A)
    have f11 := gz_hi (gw_div (x := ((I 54 (Int.toNat a1)))) (y := 24) ⟨by (/-18-/first | omega | (simp only [gz_hd] at *; omega)), by (/-19-/first | (have o1 := gz_sh f6; omega) | (simp only [gz_hd] at *; omega))⟩ ⟨by (/-20-/first | omega | (simp only [gz_hd] at *; omega)), by (/-21-/first | omega | (simp only [gz_hd] at *; omega))⟩)
    refine gv_run 3 true hD (pcₚ := 22) (lvₚ := [(2, .inl (I 54 (Int.toNat a1))), (0, .inr (.inr (some 61))), (1, .inl a1)]) (stₚ := [.inl ((Int32.ofInt ((I 54 (Int.toNat a1))) / Int32.ofInt 24).toInt), .inr (.inr (some t))]) (hₚ := gc_h sh I J A) (C := (((True ∧ True) ∧ True) ∧ (gz_R 24 ∧ ¬ 24 = 0))) rfl ⟨⟨⟨trivial, trivial⟩, trivial⟩, ⟨⟨by (/-22-/first | omega | (simp only [gz_hd] at *; omega)), by (/-23-/first | omega | (simp only [gz_hd] at *; omega))⟩, by (/-24-/first | omega | (simp only [gz_hd] at *; omega))⟩⟩ ?_
    obtain ⟨r12, h12, E12, P12⟩ := d_X11_wordCost (ws0 := ws0) (tb := tb) hws htb sh ro I J A hI t (((Int32.ofInt ((I 54 (Int.toNat a1))) / Int32.ofInt 24).toInt)) h_t   ⟨by (/-25-/first | (have o1 := gz_sh f11; have o2 := gz_sh f6; omega) | (simp only [gz_hd] at *; omega)), by (/-26-/first | (have o1 := gz_sh f11; have o2 := gz_sh f6; omega) | (simp only [gz_hd] at *; omega))⟩  
    obtain ⟨rfl, ⟨z12, rfl, q12⟩⟩ := P12
    replace q12 := gz_hi q12
    refine gv_callV hD rfl (As := [.inl ((Int32.ofInt ((I 54 (Int.toNat a1))) / Int32.ofInt 24).toInt)]) (st := []) rfl (gz_sh B_t) S_t rfl (gc_lV5 hws rfl) (Nat.le_of_ble_eq_true rfl) (gz_Ev_mono (d := 1) (by decide) E12) ?_
    show gv_X _ _ (25, [(2, .inl (I 54 (Int.toNat a1))), (0, .inr (.inr (some 61))), (1, .inl a1)], [.inl z12], sh, gc_h sh I J A)
    refine gv_run 1 true hD (pcₚ := 42) (lvₚ := [(2, .inl (I 54 (Int.toNat a1))), (0, .inr (.inr (some 61))), (1, .inl a1)]) (stₚ := [.inl z12]) (hₚ := gc_h sh I J A) (C := (True ∧ True)) rfl ⟨trivial, trivial⟩ ?_
    refine gv_pick [1, 2] rfl ?_
    exact L42 z12 (by (/-27-/first | (and_intros; (omega); (omega); (have o1 := gz_sh q12; omega); (have o1 := gz_sh q12; omega); (omega)) | (simp only [gz_hd] at *; omega)))
