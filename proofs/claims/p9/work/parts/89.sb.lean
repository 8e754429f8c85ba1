set_option maxHeartbeats 8000000 in
set_option maxRecDepth 100000 in
theorem d_X1_kindsOf {ws0 : List Cond} {tb : String → gz_T} (hws : gc_Ws ws0) (htb : gc_tbs tb) (sh : gz_Sh) (ro : Nat → Nat) (I : gr_I) (J : gr_J) (A : gc_A) (hI : gc_Inv ro I) (a1 : Nat) (a2 : Int) (hb : gc_Base sh ro A) (h_a1 : gc_isTongue sh ro A a1) (G_a1 : 144 ≤ a1) (ha2 : 0 ≤ a2 ∧ a2 ≤ 23) (x0 : gc_SP 106 I) (x1 : a2 < I 106 4) : ∃ r hₚ, gz_Ev ws0 tb 3 (yX1_kindsOf, cX1_kindsOf, 6, (some .int)) [.inr (.inr (some 100)), .inr (.inr (some a1)), .inl a2] sh (gc_h sh I J A) r sh hₚ 0 0 ∧ (∃ (Iₚ : gr_I) (Jₚ : gr_J), hₚ = gc_h sh Iₚ Jₚ A ∧ gc_Inv ro Iₚ ∧ (∀ q j : Nat, (q = (a1 + 22)) ∨ Iₚ q j = I q j) ∧ (∀ q j : Nat, (False) ∨ Jₚ q j = J q j) ∧ (∃ z : Int, r = some (.inl z) ∧ (-2147483648) ≤ z ∧ z ≤ 2147483647)) := by
  have FI : ∀ q j : Nat, (q = (a1 + 22)) ∨ I q j = I q j := fun _ _ => Or.inr rfl
  have FJ : ∀ q j : Nat, (False) ∨ J q j = J q j := fun _ _ => Or.inr rfl
  have A_1_6 : A 1 6 = some 11 := gc_bA_1_6 hb
  have A_100_0 : A 100 0 = some 1 := gc_bA_100_0 hb
  have A_100_12 : A 100 12 = some 106 := gc_bA_100_12 hb
  have A_106_0 : A 106 0 = some 107 := gc_bA_106_0 hb
  have A_106_2 : A 106 2 = some 108 := gc_bA_106_2 hb
  have A_106_3 : A 106 3 = some 109 := gc_bA_106_3 hb
  have B_1 := gz_hi (show 1 < 1000000 from by decide)
  have B_100 := gz_hi (show 100 < 1000000 from by decide)
  have B_106 := gz_hi (show 106 < 1000000 from by decide)
  have B_107 := gz_hi (show 107 < 1000000 from by decide)
  have B_108 := gz_hi (show 108 < 1000000 from by decide)
  have B_109 := gz_hi (show 109 < 1000000 from by decide)
  have B_11 := gz_hi (show 11 < 1000000 from by decide)
  have R_107 := gz_hi (show ro 107 = 1 from gc_bR_107 hb)
  have R_108 := gz_hi (show ro 108 = 4 from gc_bR_108 hb)
  have R_109 := gz_hi (show ro 109 = 5 from gc_bR_109 hb)
  have R_11 := gz_hi (show ro 11 = 25 from gc_bR_11 hb)
  have S_1 : sh[1]? = some (false, 8, 21) := gc_bS_1 hb
  have S_100 : sh[100]? = some (false, 1, 19) := gc_bS_100 hb
  have S_106 : sh[106]? = some (false, 9, 10) := gc_bS_106 hb
  have S_107 : sh[107]? = some (true, 0, 1000) := gc_bS_107 hb
  have S_108 : sh[108]? = some (true, 1, 24) := gc_bS_108 hb
  have S_109 : sh[109]? = some (true, 1, 24) := gc_bS_109 hb
  have S_11 : sh[11]? = some (true, 1, 96) := gc_bS_11 hb
  obtain ⟨S_a1, R_a1, B_a1, A_a1_0, h_a1_1, A_a1_1, h_a1_3, A_a1_2, S_a1_5, R_a1_5, B_a1_5, A_a1_3, S_a1_6, R_a1_6, B_a1_6, A_a1_4, h_a1_7, A_a1_5, S_a1_9, R_a1_9, B_a1_9, A_a1_7, S_a1_10, R_a1_10, B_a1_10, A_a1_8, h_a1_11, A_a1_9, S_a1_13, R_a1_13, B_a1_13, A_a1_10, S_a1_14, R_a1_14, B_a1_14, A_a1_12, S_a1_15, R_a1_15, B_a1_15, A_a1_14, S_a1_16, R_a1_16, B_a1_16, A_a1_15, h_a1_17⟩ := id h_a1
  replace R_a1 := gz_hi R_a1
  replace B_a1 := gz_hi B_a1
  replace R_a1_5 := gz_hi R_a1_5
  replace B_a1_5 := gz_hi B_a1_5
  replace R_a1_6 := gz_hi R_a1_6
  replace B_a1_6 := gz_hi B_a1_6
  replace R_a1_9 := gz_hi R_a1_9
  replace B_a1_9 := gz_hi B_a1_9
  replace R_a1_10 := gz_hi R_a1_10
  replace B_a1_10 := gz_hi B_a1_10
  replace R_a1_13 := gz_hi R_a1_13
  replace B_a1_13 := gz_hi B_a1_13
  replace R_a1_14 := gz_hi R_a1_14
  replace B_a1_14 := gz_hi B_a1_14
  replace R_a1_15 := gz_hi R_a1_15
  replace B_a1_15 := gz_hi B_a1_15
  replace R_a1_16 := gz_hi R_a1_16
  replace B_a1_16 := gz_hi B_a1_16
  obtain ⟨S_a1_1, R_a1_1, B_a1_1, A_a1_1_0, S_a1_1_1, R_a1_1_1, B_a1_1_1, Q0_a1_1, Q1_a1_1, Q2_a1_1⟩ := id h_a1_1
  replace R_a1_1 := gz_hi R_a1_1
  replace B_a1_1 := gz_hi B_a1_1
  replace R_a1_1_1 := gz_hi R_a1_1_1
  replace B_a1_1_1 := gz_hi B_a1_1_1
  obtain ⟨S_a1_3, R_a1_3, B_a1_3, A_a1_3_0, S_a1_3_1, R_a1_3_1, B_a1_3_1, Q0_a1_3, Q1_a1_3, Q2_a1_3⟩ := id h_a1_3
  replace R_a1_3 := gz_hi R_a1_3
  replace B_a1_3 := gz_hi B_a1_3
  replace R_a1_3_1 := gz_hi R_a1_3_1
  replace B_a1_3_1 := gz_hi B_a1_3_1
  obtain ⟨S_a1_7, R_a1_7, B_a1_7, A_a1_7_0, S_a1_7_1, R_a1_7_1, B_a1_7_1, Q0_a1_7, Q1_a1_7, Q2_a1_7⟩ := id h_a1_7
  replace R_a1_7 := gz_hi R_a1_7
  replace B_a1_7 := gz_hi B_a1_7
  replace R_a1_7_1 := gz_hi R_a1_7_1
  replace B_a1_7_1 := gz_hi B_a1_7_1
  obtain ⟨S_a1_11, R_a1_11, B_a1_11, A_a1_11_0, S_a1_11_1, R_a1_11_1, B_a1_11_1, Q0_a1_11, Q1_a1_11, Q2_a1_11⟩ := id h_a1_11
  replace R_a1_11 := gz_hi R_a1_11
  replace B_a1_11 := gz_hi B_a1_11
  replace R_a1_11_1 := gz_hi R_a1_11_1
  replace B_a1_11_1 := gz_hi B_a1_11_1
  obtain ⟨S_a1_17, R_a1_17, B_a1_17, A_a1_17_0, S_20, R_20, B_20, A_a1_17_1, S_a1_17_1, R_a1_17_1, B_a1_17_1, A_a1_17_2, S_a1_17_2, R_a1_17_2, B_a1_17_2, A_a1_17_3, S_a1_17_3, R_a1_17_3, B_a1_17_3, A_a1_17_4, S_a1_17_4, R_a1_17_4, B_a1_17_4, A_a1_17_5, S_a1_17_5, R_a1_17_5, B_a1_17_5, S_a1_17_6, R_a1_17_6, B_a1_17_6, S_a1_17_7, R_a1_17_7, B_a1_17_7⟩ := id h_a1_17
  replace R_a1_17 := gz_hi R_a1_17
  replace B_a1_17 := gz_hi B_a1_17
  replace R_20 := gz_hi R_20
  replace B_20 := gz_hi B_20
  replace R_a1_17_1 := gz_hi R_a1_17_1
  replace B_a1_17_1 := gz_hi B_a1_17_1
  replace R_a1_17_2 := gz_hi R_a1_17_2
  replace B_a1_17_2 := gz_hi B_a1_17_2
  replace R_a1_17_3 := gz_hi R_a1_17_3
  replace B_a1_17_3 := gz_hi B_a1_17_3
  replace R_a1_17_4 := gz_hi R_a1_17_4
  replace B_a1_17_4 := gz_hi B_a1_17_4
  replace R_a1_17_5 := gz_hi R_a1_17_5
  replace B_a1_17_5 := gz_hi B_a1_17_5
  replace R_a1_17_6 := gz_hi R_a1_17_6
  replace B_a1_17_6 := gz_hi B_a1_17_6
  replace R_a1_17_7 := gz_hi R_a1_17_7
  replace B_a1_17_7 := gz_hi B_a1_17_7
  have hD : gv_D (gc_E1 ws0 tb 2 (yX1_kindsOf, cX1_kindsOf, 6, (some .int)) kX1_kindsOf) := gq_of oX1_kindsOf
  refine gc_ev1 (d := 2) (l := kX1_kindsOf) (Po := fun r hₚ => (∃ (Iₚ : gr_I) (Jₚ : gr_J), hₚ = gc_h sh Iₚ Jₚ A ∧ gc_Inv ro Iₚ ∧ (∀ q j : Nat, (q = (a1 + 22)) ∨ Iₚ q j = I q j) ∧ (∀ q j : Nat, (False) ∨ Jₚ q j = J q j) ∧ (∃ z : Int, r = some (.inl z) ∧ (-2147483648) ≤ z ∧ z ≤ 2147483647))) htb rfl (Nat.le_of_ble_eq_true rfl) ?_
  have L39 : ∀ (n9 : Nat) (I1 : gr_I) (J2 : gr_J) (v3_3 : Int) (v4_3 : Int) (v5_3 : Int), (1537 - v5_3).toNat < n9 → gc_Inv ro I1 → (∀ q j : Nat, (q = (a1 + 22)) ∨ I1 q j = I q j) → (∀ q j : Nat, (False) ∨ J2 q j = J q j) → (((-2147483648) ≤ v3_3 ∧ v3_3 ≤ 2147483647) ∧ (0 ≤ v4_3 ∧ v4_3 ≤ 1536) ∧ (0 ≤ v5_3 ∧ v5_3 ≤ 1536) ∧ (v5_3 ≤ v4_3)) → gv_X (gc_E1 ws0 tb 2 (yX1_kindsOf, cX1_kindsOf, 6, (some .int)) kX1_kindsOf) (gv_Q cX1_kindsOf (some .int) sh (fun r hₚ => (∃ (Iₚ : gr_I) (Jₚ : gr_J), hₚ = gc_h sh Iₚ Jₚ A ∧ gc_Inv ro Iₚ ∧ (∀ q j : Nat, (q = (a1 + 22)) ∨ Iₚ q j = I q j) ∧ (∀ q j : Nat, (False) ∨ Jₚ q j = J q j) ∧ (∃ z : Int, r = some (.inl z) ∧ (-2147483648) ≤ z ∧ z ≤ 2147483647)))) (39, [(0, .inr (.inr (some 100))), (1, .inr (.inr (some a1))), (3, .inl v3_3), (4, .inl v4_3), (5, .inl v5_3)], [], sh, gc_h sh I1 J2 A) := by
    intro n9
    induction n9 with
    | zero => intro I1 J2 v3_3 v4_3 v5_3 hn; (/-0-/first | omega | (simp only [gz_hd] at *; omega))
    | succ n9 ih39 =>
      intro I1 J2 v3_3 v4_3 v5_3 hn hI1 FI1 FJ2 m_3
      obtain ⟨hv3_3, hv4_3, hv5_3, e0_3⟩ := gz_h4 m_3
      refine gv_run 2 true hD (pcₚ := 43) (lvₚ := [(0, .inr (.inr (some 100))), (1, .inr (.inr (some a1))), (3, .inl v3_3), (4, .inl v4_3), (5, .inl v5_3)]) (stₚ := [.inl v4_3, .inl v5_3]) (hₚ := gc_h sh I1 J2 A) (C := ((True ∧ True) ∧ True)) rfl ⟨⟨trivial, trivial⟩, trivial⟩ ?_
      refine gv_icmp_ge (t := 82) hD rfl rfl ⟨⟨by (/-1-/first | (have o1 := gz_sh hv5_3; omega) | (simp only [gz_hd] at *; omega)), by (/-2-/first | (have o1 := gz_sh hv5_3; omega) | (simp only [gz_hd] at *; omega))⟩, ⟨by (/-3-/first | (have o1 := gz_sh hv4_3; omega) | (simp only [gz_hd] at *; omega)), by (/-4-/first | (have o1 := gz_sh hv4_3; omega) | (simp only [gz_hd] at *; omega))⟩⟩ (fun c4 => ?_) (fun c4 => ?_)
      · show gv_X _ _ (82, [(0, .inr (.inr (some 100))), (1, .inr (.inr (some a1))), (3, .inl v3_3), (4, .inl v4_3), (5, .inl v5_3)], [], sh, gc_h sh I1 J2 A)
        refine gv_run 1 true hD (pcₚ := 83) (lvₚ := [(0, .inr (.inr (some 100))), (1, .inr (.inr (some a1))), (3, .inl v3_3), (4, .inl v4_3), (5, .inl v5_3)]) (stₚ := [.inl v3_3]) (hₚ := gc_h sh I1 J2 A) (C := (True ∧ True)) rfl ⟨trivial, trivial⟩ ?_
        exact gv_iret hD rfl ⟨I1, J2, rfl, hI1, FI1, FJ2, ⟨_, rfl, by (/-5-/first | (have o1 := gz_sh hv3_3; omega) | (simp only [gz_hd] at *; omega))⟩⟩
      · show gv_X _ _ (46, [(0, .inr (.inr (some 100))), (1, .inr (.inr (some a1))), (3, .inl v3_3), (4, .inl v4_3), (5, .inl v5_3)], [], sh, gc_h sh I1 J2 A)
        refine gv_run 3 true hD (pcₚ := 49) (lvₚ := [(0, .inr (.inr (some 100))), (1, .inr (.inr (some a1))), (3, .inl v3_3), (4, .inl v4_3), (5, .inl v5_3)]) (stₚ := [.inr (.inr (some 100)), .inl 1, .inl v3_3]) (hₚ := gc_h sh I1 J2 A) (C := (((True ∧ True) ∧ True) ∧ True)) rfl ⟨⟨⟨trivial, trivial⟩, trivial⟩, trivial⟩ ?_
        refine gv_get hD rfl rfl S_100 ⟨by decide, (gz_sh B_100)⟩ (gc_hA S_100 rfl A_100_0) ?_
        show gv_X _ _ (52, [(0, .inr (.inr (some 100))), (1, .inr (.inr (some a1))), (3, .inl v3_3), (4, .inl v4_3), (5, .inl v5_3)], [.inr (.inr (some 1)), .inl 1, .inl v3_3], sh, gc_h sh I1 J2 A)
        refine gv_get hD rfl rfl S_1 ⟨by decide, (gz_sh B_1)⟩ (gc_hA S_1 rfl A_1_6) ?_
        show gv_X _ _ (55, [(0, .inr (.inr (some 100))), (1, .inr (.inr (some a1))), (3, .inl v3_3), (4, .inl v4_3), (5, .inl v5_3)], [.inr (.inr (some 11)), .inl 1, .inl v3_3], sh, gc_h sh I1 J2 A)
        refine gv_run 2 true hD (pcₚ := 57) (lvₚ := [(0, .inr (.inr (some 100))), (1, .inr (.inr (some a1))), (3, .inl v3_3), (4, .inl v4_3), (5, .inl v5_3)]) (stₚ := [.inr (.inr (some a1)), .inr (.inr (some a1)), .inr (.inr (some 11)), .inl 1, .inl v3_3]) (hₚ := gc_h sh I1 J2 A) (C := ((True ∧ True) ∧ True)) rfl ⟨⟨trivial, trivial⟩, trivial⟩ ?_
        refine gv_get hD rfl rfl S_a1 ⟨by decide, (gz_sh B_a1)⟩ (gc_hA S_a1 rfl A_a1_15) ?_
        show gv_X _ _ (60, [(0, .inr (.inr (some 100))), (1, .inr (.inr (some a1))), (3, .inl v3_3), (4, .inl v4_3), (5, .inl v5_3)], [.inr (.inr (some (a1 + 17))), .inr (.inr (some a1)), .inr (.inr (some 11)), .inl 1, .inl v3_3], sh, gc_h sh I1 J2 A)
        refine gv_get hD rfl rfl S_a1_17 ⟨by decide, (gz_sh B_a1_17)⟩ (gc_hA S_a1_17 rfl A_a1_17_5) ?_
        show gv_X _ _ (63, [(0, .inr (.inr (some 100))), (1, .inr (.inr (some a1))), (3, .inl v3_3), (4, .inl v4_3), (5, .inl v5_3)], [.inr (.inr (some ((a1 + 17) + 5))), .inr (.inr (some a1)), .inr (.inr (some 11)), .inl 1, .inl v3_3], sh, gc_h sh I1 J2 A)
        refine gv_run 1 true hD (pcₚ := 65) (lvₚ := [(0, .inr (.inr (some 100))), (1, .inr (.inr (some a1))), (3, .inl v3_3), (4, .inl v4_3), (5, .inl v5_3)]) (stₚ := [.inl v5_3, .inr (.inr (some ((a1 + 17) + 5))), .inr (.inr (some a1)), .inr (.inr (some 11)), .inl 1, .inl v3_3]) (hₚ := gc_h sh I1 J2 A) (C := (True ∧ True)) rfl ⟨trivial, trivial⟩ ?_
        have f5 := gz_hi ((show 0 ≤ I1 ((a1 + 17) + 5) (Int.toNat v5_3) ∧ I1 ((a1 + 17) + 5) (Int.toNat v5_3) ≤ 1535 from gc_in2 hI1 (gz_sh R_a1_17_5) rfl rfl rfl))
        refine gv_iald hD rfl S_a1_17_5 rfl ⟨by decide, (gz_sh B_a1_17_5)⟩ ⟨by (/-6-/first | (have o1 := gz_sh hv5_3; omega) | (simp only [gz_hd] at *; omega)), by (/-7-/first | (have o1 := gz_sh hv4_3; omega) | (simp only [gz_hd] at *; omega))⟩ (gc_iI S_a1_17_5 rfl) ?_
        show gv_X _ _ (66, [(0, .inr (.inr (some 100))), (1, .inr (.inr (some a1))), (3, .inl v3_3), (4, .inl v4_3), (5, .inl v5_3)], [.inl (I1 ((a1 + 17) + 5) (Int.toNat v5_3)), .inr (.inr (some a1)), .inr (.inr (some 11)), .inl 1, .inl v3_3], sh, gc_h sh I1 J2 A)
        have f6 := gz_hi (gw_div (x := ((I1 ((a1 + 17) + 5) (Int.toNat v5_3)))) (y := 24) ⟨by (/-8-/first | (have o1 := gz_sh f5; omega) | (simp only [gz_hd] at *; omega)), by (/-9-/first | (have o1 := gz_sh f5; omega) | (simp only [gz_hd] at *; omega))⟩ ⟨by (/-10-/first | omega | (simp only [gz_hd] at *; omega)), by (/-11-/first | omega | (simp only [gz_hd] at *; omega))⟩)
        refine gv_run 2 true hD (pcₚ := 69) (lvₚ := [(0, .inr (.inr (some 100))), (1, .inr (.inr (some a1))), (3, .inl v3_3), (4, .inl v4_3), (5, .inl v5_3)]) (stₚ := [.inl ((Int32.ofInt ((I1 ((a1 + 17) + 5) (Int.toNat v5_3))) / Int32.ofInt 24).toInt), .inr (.inr (some a1)), .inr (.inr (some 11)), .inl 1, .inl v3_3]) (hₚ := gc_h sh I1 J2 A) (C := ((True ∧ True) ∧ (gz_R 24 ∧ ¬ 24 = 0))) rfl ⟨⟨trivial, trivial⟩, ⟨⟨by (/-12-/first | omega | (simp only [gz_hd] at *; omega)), by (/-13-/first | omega | (simp only [gz_hd] at *; omega))⟩, by (/-14-/first | omega | (simp only [gz_hd] at *; omega))⟩⟩ ?_
        obtain ⟨r7, h7, E7, P7⟩ := d_X11_wordFun (ws0 := ws0) (tb := tb) hws htb sh ro I1 J2 A hI1 a1 (((Int32.ofInt ((I1 ((a1 + 17) + 5) (Int.toNat v5_3))) / Int32.ofInt 24).toInt)) h_a1   ⟨by (/-15-/first | (have o1 := gz_sh f5; have o2 := gz_sh f6; omega) | (simp only [gz_hd] at *; omega)), by (/-16-/first | (have o1 := gz_sh f5; have o2 := gz_sh f6; omega) | (simp only [gz_hd] at *; omega))⟩  
        obtain ⟨rfl, ⟨z7, rfl, q7⟩⟩ := P7
        replace q7 := gz_hi q7
        refine gv_callV hD rfl (As := [.inl ((Int32.ofInt ((I1 ((a1 + 17) + 5) (Int.toNat v5_3))) / Int32.ofInt 24).toInt)]) (st := [.inr (.inr (some 11)), .inl 1, .inl v3_3]) rfl (gz_sh B_a1) S_a1 rfl (gc_lV1 hws rfl) (Nat.le_of_ble_eq_true rfl) (gz_Ev_mono (d := 1) (by decide) E7) ?_
        show gv_X _ _ (72, [(0, .inr (.inr (some 100))), (1, .inr (.inr (some a1))), (3, .inl v3_3), (4, .inl v4_3), (5, .inl v5_3)], [.inl z7, .inr (.inr (some 11)), .inl 1, .inl v3_3], sh, gc_h sh I1 J2 A)
        refine gv_iald hD rfl S_11 rfl ⟨by decide, (gz_sh B_11)⟩ ⟨by (/-17-/first | (have o1 := gz_sh q7; omega) | (simp only [gz_hd] at *; omega)), by (/-18-/first | (have o1 := gz_sh q7; omega) | (simp only [gz_hd] at *; omega))⟩ (gc_iI S_11 rfl) ?_
        show gv_X _ _ (73, [(0, .inr (.inr (some 100))), (1, .inr (.inr (some a1))), (3, .inl v3_3), (4, .inl v4_3), (5, .inl v5_3)], [.inl (I1 11 (Int.toNat z7)), .inl 1, .inl v3_3], sh, gc_h sh I1 J2 A)
        have f10 := gz_hi (gw_any ((Int32.ofInt v3_3 ||| Int32.ofInt (((Int32.ofInt 1 <<< (Int32.ofInt ((I1 11 (Int.toNat z7))) &&& 31)).toInt)))))
        refine gv_run 5 true hD (pcₚ := 39) (lvₚ := [(5, .inl (v5_3 + 1)), (3, .inl ((Int32.ofInt v3_3 ||| Int32.ofInt (((Int32.ofInt 1 <<< (Int32.ofInt ((I1 11 (Int.toNat z7))) &&& 31)).toInt))).toInt)), (0, .inr (.inr (some 100))), (1, .inr (.inr (some a1))), (4, .inl v4_3)]) (stₚ := []) (hₚ := gc_h sh I1 J2 A) (C := (((((True ∧ True) ∧ True) ∧ True) ∧ True) ∧ True)) rfl ⟨⟨⟨⟨⟨trivial, trivial⟩, trivial⟩, trivial⟩, trivial⟩, trivial⟩ ?_
        refine gv_pick [2, 3, 1, 4, 0] rfl ?_
        exact ih39 I1 J2 (((Int32.ofInt v3_3 ||| Int32.ofInt (((Int32.ofInt 1 <<< (Int32.ofInt ((I1 11 (Int.toNat z7))) &&& 31)).toInt))).toInt)) v4_3 (v5_3 + 1) (by (/-19-/first | (have o1 := gz_sh hv4_3; have o2 := gz_sh hv5_3; omega) | (simp only [gz_hd] at *; omega))) hI1 FI1 FJ2 (by (/-20-/first | (and_intros; (have o1 := gz_sh f10; omega); (have o1 := gz_sh f10; omega); (have o1 := gz_sh hv4_3; omega); (have o1 := gz_sh hv4_3; omega); (have o1 := gz_sh hv5_3; omega); (have o1 := gz_sh hv4_3; omega); (omega)) | (simp only [gz_hd] at *; omega)))
  refine gv_run 3 true hD (pcₚ := 3) (lvₚ := [(3, .inl 0), (0, .inr (.inr (some 100))), (1, .inr (.inr (some a1))), (2, .inl a2)]) (stₚ := [.inr (.inr (some a1))]) (hₚ := gc_h sh I J A) (C := (((True ∧ True) ∧ True) ∧ True)) rfl ⟨⟨⟨trivial, trivial⟩, trivial⟩, trivial⟩ ?_
  refine gv_get hD rfl rfl S_a1 ⟨by decide, (gz_sh B_a1)⟩ (gc_hA S_a1 rfl A_a1_15) ?_
  show gv_X _ _ (6, [(3, .inl 0), (0, .inr (.inr (some 100))), (1, .inr (.inr (some a1))), (2, .inl a2)], [.inr (.inr (some (a1 + 17)))], sh, gc_h sh I J A)
  refine gv_run 1 true hD (pcₚ := 7) (lvₚ := [(3, .inl 0), (0, .inr (.inr (some 100))), (1, .inr (.inr (some a1))), (2, .inl a2)]) (stₚ := [.inr (.inr (some 100)), .inr (.inr (some (a1 + 17)))]) (hₚ := gc_h sh I J A) (C := (True ∧ True)) rfl ⟨trivial, trivial⟩ ?_
  refine gv_get hD rfl rfl S_100 ⟨by decide, (gz_sh B_100)⟩ (gc_hA S_100 rfl A_100_12) ?_
  show gv_X _ _ (10, [(3, .inl 0), (0, .inr (.inr (some 100))), (1, .inr (.inr (some a1))), (2, .inl a2)], [.inr (.inr (some 106)), .inr (.inr (some (a1 + 17)))], sh, gc_h sh I J A)
  refine gv_get hD rfl rfl S_106 ⟨by decide, (gz_sh B_106)⟩ (gc_hA S_106 rfl A_106_0) ?_
  show gv_X _ _ (13, [(3, .inl 0), (0, .inr (.inr (some 100))), (1, .inr (.inr (some a1))), (2, .inl a2)], [.inr (.inr (some 107)), .inr (.inr (some (a1 + 17)))], sh, gc_h sh I J A)
  refine gv_run 1 true hD (pcₚ := 14) (lvₚ := [(3, .inl 0), (0, .inr (.inr (some 100))), (1, .inr (.inr (some a1))), (2, .inl a2)]) (stₚ := [.inr (.inr (some 100)), .inr (.inr (some 107)), .inr (.inr (some (a1 + 17)))]) (hₚ := gc_h sh I J A) (C := (True ∧ True)) rfl ⟨trivial, trivial⟩ ?_
  refine gv_get hD rfl rfl S_100 ⟨by decide, (gz_sh B_100)⟩ (gc_hA S_100 rfl A_100_12) ?_
  show gv_X _ _ (17, [(3, .inl 0), (0, .inr (.inr (some 100))), (1, .inr (.inr (some a1))), (2, .inl a2)], [.inr (.inr (some 106)), .inr (.inr (some 107)), .inr (.inr (some (a1 + 17)))], sh, gc_h sh I J A)
  refine gv_get hD rfl rfl S_106 ⟨by decide, (gz_sh B_106)⟩ (gc_hA S_106 rfl A_106_2) ?_
  show gv_X _ _ (20, [(3, .inl 0), (0, .inr (.inr (some 100))), (1, .inr (.inr (some a1))), (2, .inl a2)], [.inr (.inr (some 108)), .inr (.inr (some 107)), .inr (.inr (some (a1 + 17)))], sh, gc_h sh I J A)
  refine gv_run 1 true hD (pcₚ := 21) (lvₚ := [(3, .inl 0), (0, .inr (.inr (some 100))), (1, .inr (.inr (some a1))), (2, .inl a2)]) (stₚ := [.inl a2, .inr (.inr (some 108)), .inr (.inr (some 107)), .inr (.inr (some (a1 + 17)))]) (hₚ := gc_h sh I J A) (C := (True ∧ True)) rfl ⟨trivial, trivial⟩ ?_
  have f11 := gz_hi ((gc_b_4 hI (gz_sh R_108) (Int.toNat a2)))
  refine gv_iald hD rfl S_108 rfl ⟨by decide, (gz_sh B_108)⟩ ⟨by (/-21-/first | omega | (simp only [gz_hd] at *; omega)), by (/-22-/first | omega | (simp only [gz_hd] at *; omega))⟩ (gc_iI S_108 rfl) ?_
  show gv_X _ _ (22, [(3, .inl 0), (0, .inr (.inr (some 100))), (1, .inr (.inr (some a1))), (2, .inl a2)], [.inl (I 108 (Int.toNat a2)), .inr (.inr (some 107)), .inr (.inr (some (a1 + 17)))], sh, gc_h sh I J A)
  refine gv_run 1 true hD (pcₚ := 23) (lvₚ := [(3, .inl 0), (0, .inr (.inr (some 100))), (1, .inr (.inr (some a1))), (2, .inl a2)]) (stₚ := [.inr (.inr (some 100)), .inl (I 108 (Int.toNat a2)), .inr (.inr (some 107)), .inr (.inr (some (a1 + 17)))]) (hₚ := gc_h sh I J A) (C := (True ∧ True)) rfl ⟨trivial, trivial⟩ ?_
  refine gv_get hD rfl rfl S_100 ⟨by decide, (gz_sh B_100)⟩ (gc_hA S_100 rfl A_100_12) ?_
  show gv_X _ _ (26, [(3, .inl 0), (0, .inr (.inr (some 100))), (1, .inr (.inr (some a1))), (2, .inl a2)], [.inr (.inr (some 106)), .inl (I 108 (Int.toNat a2)), .inr (.inr (some 107)), .inr (.inr (some (a1 + 17)))], sh, gc_h sh I J A)
  refine gv_get hD rfl rfl S_106 ⟨by decide, (gz_sh B_106)⟩ (gc_hA S_106 rfl A_106_3) ?_
  show gv_X _ _ (29, [(3, .inl 0), (0, .inr (.inr (some 100))), (1, .inr (.inr (some a1))), (2, .inl a2)], [.inr (.inr (some 109)), .inl (I 108 (Int.toNat a2)), .inr (.inr (some 107)), .inr (.inr (some (a1 + 17)))], sh, gc_h sh I J A)
  refine gv_run 1 true hD (pcₚ := 30) (lvₚ := [(3, .inl 0), (0, .inr (.inr (some 100))), (1, .inr (.inr (some a1))), (2, .inl a2)]) (stₚ := [.inl a2, .inr (.inr (some 109)), .inl (I 108 (Int.toNat a2)), .inr (.inr (some 107)), .inr (.inr (some (a1 + 17)))]) (hₚ := gc_h sh I J A) (C := (True ∧ True)) rfl ⟨trivial, trivial⟩ ?_
  have f12 := gz_hi ((gc_b_5 hI (gz_sh R_109) (Int.toNat a2)))
  refine gv_iald hD rfl S_109 rfl ⟨by decide, (gz_sh B_109)⟩ ⟨by (/-23-/first | omega | (simp only [gz_hd] at *; omega)), by (/-24-/first | omega | (simp only [gz_hd] at *; omega))⟩ (gc_iI S_109 rfl) ?_
  show gv_X _ _ (31, [(3, .inl 0), (0, .inr (.inr (some 100))), (1, .inr (.inr (some a1))), (2, .inl a2)], [.inl (I 109 (Int.toNat a2)), .inl (I 108 (Int.toNat a2)), .inr (.inr (some 107)), .inr (.inr (some (a1 + 17)))], sh, gc_h sh I J A)
  have t13 := gz_hi (x0 (Int.toNat a2) (by (/-25-/first | omega | (simp only [gz_hd] at *; omega))))
  obtain ⟨r14, h14, E14, P14⟩ := d_X2_findSame (ws0 := ws0) (tb := tb) hws htb sh ro I J A hI (a1 + 17) 1000 107 ((I 108 (Int.toNat a2))) ((I 109 (Int.toNat a2))) h_a1_17 S_107 (gz_sh R_107) (gz_sh B_107) (by decide)  ⟨by (/-26-/first | (have o1 := gz_sh f11; omega) | (simp only [gz_hd] at *; omega)), by (/-27-/first | (have o1 := gz_sh f11; omega) | (simp only [gz_hd] at *; omega))⟩ ⟨by (/-28-/first | (have o1 := gz_sh f12; omega) | (simp only [gz_hd] at *; omega)), by (/-29-/first | (have o1 := gz_sh f12; omega) | (simp only [gz_hd] at *; omega))⟩ (by (/-30-/first | (have o1 := gz_sh t13; omega) | (simp only [gz_hd] at *; omega))) 
  obtain ⟨I15, J16, rfl, hI15, g14, k14, ⟨z14, rfl, q14⟩⟩ := P14
  replace q14 := gz_hi q14
  have FI15 := gc_frc (W := fun q j => q = (a1 + 22)) (V := fun q j => q = (a1 + 22)) FI (fun q j h => h) g14
  obtain rfl : J = J16 := funext fun q => funext fun j => ((k14 q j).resolve_left id).symm
  refine gv_callV hD rfl (As := [.inr (.inr (some 107)), .inl (I 108 (Int.toNat a2)), .inl (I 109 (Int.toNat a2))]) (st := []) rfl (gz_sh B_a1_17) S_a1_17 rfl (gc_lV1 hws rfl) (Nat.le_of_ble_eq_true rfl) (gz_Ev_mono (d := 2) (by decide) E14) ?_
  show gv_X _ _ (34, [(3, .inl 0), (0, .inr (.inr (some 100))), (1, .inr (.inr (some a1))), (2, .inl a2)], [.inl z14], sh, gc_h sh I15 J A)
  refine gv_run 3 true hD (pcₚ := 39) (lvₚ := [(5, .inl 0), (4, .inl z14), (3, .inl 0), (0, .inr (.inr (some 100))), (1, .inr (.inr (some a1))), (2, .inl a2)]) (stₚ := []) (hₚ := gc_h sh I15 J A) (C := (((True ∧ True) ∧ True) ∧ True)) rfl ⟨⟨⟨trivial, trivial⟩, trivial⟩, trivial⟩ ?_
  refine gv_pick [3, 4, 2, 1, 0] rfl ?_
  exact L39 _ I15 J 0 z14 0 (Nat.lt_succ_self _) hI15 FI15 FJ (by (/-31-/first | (and_intros; (omega); (omega); (have o1 := gz_sh q14; omega); (have o1 := gz_sh q14; omega); (omega); (omega); (have o1 := gz_sh q14; omega)) | (simp only [gz_hd] at *; omega)))
set_option maxHeartbeats 8000000 in
set_option maxRecDepth 100000 in
theorem d_X1_fitsAt {ws0 : List Cond} {tb : String → gz_T} (hws : gc_Ws ws0) (htb : gc_tbs tb) (sh : gz_Sh) (ro : Nat → Nat) (I : gr_I) (J : gr_J) (A : gc_A) (hI : gc_Inv ro I) (a1 : Int) (a2 : Int) (a3 : Nat) (hb : gc_Base sh ro A) (h_a3 : gc_isText sh ro A a3) (ha1 : 0 ≤ a1 ∧ a1 ≤ 7) (ha2 : 0 ≤ a2 ∧ a2 ≤ 23) (x0 : gc_SP 106 I) (x1 : a2 < I 106 4) (x2 : I 113 (Int.toNat (3 * a1)) = 3 → I 113 (Int.toNat ((3 * a1) + 1)) + I 113 (Int.toNat ((3 * a1) + 2)) ≤ 1000) : ∃ r hₚ, gz_Ev ws0 tb 1 (yX1_fitsAt, cX1_fitsAt, 7, (some .boolean)) [.inr (.inr (some 100)), .inl a1, .inl a2, .inr (.inr (some a3))] sh (gc_h sh I J A) r sh hₚ 0 0 ∧ (hₚ = gc_h sh I J A ∧ (∃ z : Int, r = some (.inl z) ∧ 0 ≤ z ∧ z ≤ 1)) := by
  have A_100_12 : A 100 12 = some 106 := gc_bA_100_12 hb
  have A_100_13 : A 100 13 = some 110 := gc_bA_100_13 hb
  have A_100_18 : A 100 18 = some 113 := gc_bA_100_18 hb
  have A_106_0 : A 106 0 = some 107 := gc_bA_106_0 hb
  have A_106_2 : A 106 2 = some 108 := gc_bA_106_2 hb
  have A_106_3 : A 106 3 = some 109 := gc_bA_106_3 hb
  have B_100 := gz_hi (show 100 < 1000000 from by decide)
  have B_106 := gz_hi (show 106 < 1000000 from by decide)
  have B_107 := gz_hi (show 107 < 1000000 from by decide)
  have B_108 := gz_hi (show 108 < 1000000 from by decide)
  have B_109 := gz_hi (show 109 < 1000000 from by decide)
  have B_110 := gz_hi (show 110 < 1000000 from by decide)
  have B_113 := gz_hi (show 113 < 1000000 from by decide)
  have R_107 := gz_hi (show ro 107 = 1 from gc_bR_107 hb)
  have R_108 := gz_hi (show ro 108 = 4 from gc_bR_108 hb)
  have R_109 := gz_hi (show ro 109 = 5 from gc_bR_109 hb)
  have R_110 := gz_hi (show ro 110 = 0 from gc_bR_110 hb)
  have R_113 := gz_hi (show ro 113 = 71 from gc_bR_113 hb)
  have S_100 : sh[100]? = some (false, 1, 19) := gc_bS_100 hb
  have S_106 : sh[106]? = some (false, 9, 10) := gc_bS_106 hb
  have S_107 : sh[107]? = some (true, 0, 1000) := gc_bS_107 hb
  have S_108 : sh[108]? = some (true, 1, 24) := gc_bS_108 hb
  have S_109 : sh[109]? = some (true, 1, 24) := gc_bS_109 hb
  have S_110 : sh[110]? = some (true, 1, 24) := gc_bS_110 hb
  have S_113 : sh[113]? = some (true, 1, 24) := gc_bS_113 hb
  obtain ⟨S_a3, R_a3, B_a3, A_a3_0, S_a3_1, R_a3_1, B_a3_1, A_a3_2, S_a3_2, R_a3_2, B_a3_2, A_a3_3, S_a3_3, R_a3_3, B_a3_3⟩ := id h_a3
  replace R_a3 := gz_hi R_a3
  replace B_a3 := gz_hi B_a3
  replace R_a3_1 := gz_hi R_a3_1
  replace B_a3_1 := gz_hi B_a3_1
  replace R_a3_2 := gz_hi R_a3_2
  replace B_a3_2 := gz_hi B_a3_2
  replace R_a3_3 := gz_hi R_a3_3
  replace B_a3_3 := gz_hi B_a3_3
  have hD : gv_D (gc_E1 ws0 tb 0 (yX1_fitsAt, cX1_fitsAt, 7, (some .boolean)) kX1_fitsAt) := gq_of oX1_fitsAt
  refine gc_ev1 (d := 0) (l := kX1_fitsAt) (Po := fun r hₚ => (hₚ = gc_h sh I J A ∧ (∃ z : Int, r = some (.inl z) ∧ 0 ≤ z ∧ z ≤ 1))) htb rfl (Nat.le_of_ble_eq_true rfl) ?_
  have L48 : ∀ (s0_1 : Int), ((0 ≤ s0_1 ∧ s0_1 ≤ 1)) → gv_X (gc_E1 ws0 tb 0 (yX1_fitsAt, cX1_fitsAt, 7, (some .boolean)) kX1_fitsAt) (gv_Q cX1_fitsAt (some .boolean) sh (fun r hₚ => (hₚ = gc_h sh I J A ∧ (∃ z : Int, r = some (.inl z) ∧ 0 ≤ z ∧ z ≤ 1)))) (48, [], [.inl s0_1], sh, gc_h sh I J A) := by
    intro s0_1 m_1
    have hs0_1 := m_1
    exact gv_zret hD rfl (by (/-0-/first | omega | (simp only [gz_hd] at *; omega))) ⟨rfl, ⟨_, rfl, by (/-1-/first | omega | (simp only [gz_hd] at *; omega))⟩⟩
  have L84 : ∀ (n9 : Nat) (v5_2 : Int) (v6_2 : Int), (25 - v6_2).toNat < n9 → ((0 ≤ a2 ∧ a2 ≤ 23) ∧ (0 ≤ v5_2 ∧ v5_2 ≤ 1001) ∧ (0 ≤ v6_2 ∧ v6_2 ≤ 24) ∧ (v5_2 + I 109 (Int.toNat a2) ≤ 1000)) → gv_X (gc_E1 ws0 tb 0 (yX1_fitsAt, cX1_fitsAt, 7, (some .boolean)) kX1_fitsAt) (gv_Q cX1_fitsAt (some .boolean) sh (fun r hₚ => (hₚ = gc_h sh I J A ∧ (∃ z : Int, r = some (.inl z) ∧ 0 ≤ z ∧ z ≤ 1)))) (84, [(0, .inr (.inr (some 100))), (2, .inl a2), (3, .inr (.inr (some a3))), (5, .inl v5_2), (6, .inl v6_2)], [], sh, gc_h sh I J A) := by
    intro n9
    induction n9 with
    | zero => intro v5_2 v6_2 hn; (/-2-/first | omega | (simp only [gz_hd] at *; omega))
    | succ n9 ih84 =>
      intro v5_2 v6_2 hn m_2
      obtain ⟨ha2_2, hv5_2, hv6_2, e0_2⟩ := gz_h4 m_2
      have t3 := gz_hi ((show I 108 (Int.toNat a2) + I 109 (Int.toNat a2) ≤ 1000 from x0 (Int.toNat a2) (by (/-3-/first | omega | (simp only [gz_hd] at *; omega)))))
      refine gv_run 2 true hD (pcₚ := 87) (lvₚ := [(0, .inr (.inr (some 100))), (2, .inl a2), (3, .inr (.inr (some a3))), (5, .inl v5_2), (6, .inl v6_2)]) (stₚ := [.inr (.inr (some 100)), .inl v6_2]) (hₚ := gc_h sh I J A) (C := ((True ∧ True) ∧ True)) rfl ⟨⟨trivial, trivial⟩, trivial⟩ ?_
      refine gv_get hD rfl rfl S_100 ⟨by decide, (gz_sh B_100)⟩ (gc_hA S_100 rfl A_100_12) ?_
      show gv_X _ _ (90, [(0, .inr (.inr (some 100))), (2, .inl a2), (3, .inr (.inr (some a3))), (5, .inl v5_2), (6, .inl v6_2)], [.inr (.inr (some 106)), .inl v6_2], sh, gc_h sh I J A)
      refine gv_get hD rfl rfl S_106 ⟨by decide, (gz_sh B_106)⟩ (gc_hA S_106 rfl A_106_3) ?_
      show gv_X _ _ (93, [(0, .inr (.inr (some 100))), (2, .inl a2), (3, .inr (.inr (some a3))), (5, .inl v5_2), (6, .inl v6_2)], [.inr (.inr (some 109)), .inl v6_2], sh, gc_h sh I J A)
      refine gv_run 1 true hD (pcₚ := 94) (lvₚ := [(0, .inr (.inr (some 100))), (2, .inl a2), (3, .inr (.inr (some a3))), (5, .inl v5_2), (6, .inl v6_2)]) (stₚ := [.inl a2, .inr (.inr (some 109)), .inl v6_2]) (hₚ := gc_h sh I J A) (C := (True ∧ True)) rfl ⟨trivial, trivial⟩ ?_
      have f4 := gz_hi ((gc_b_5 hI (gz_sh R_109) (Int.toNat a2)))
      refine gv_iald hD rfl S_109 rfl ⟨by decide, (gz_sh B_109)⟩ ⟨by (/-4-/first | omega | (simp only [gz_hd] at *; omega)), by (/-5-/first | omega | (simp only [gz_hd] at *; omega))⟩ (gc_iI S_109 rfl) ?_
      show gv_X _ _ (95, [(0, .inr (.inr (some 100))), (2, .inl a2), (3, .inr (.inr (some a3))), (5, .inl v5_2), (6, .inl v6_2)], [.inl (I 109 (Int.toNat a2)), .inl v6_2], sh, gc_h sh I J A)
      refine gv_icmp_ge (t := 139) hD rfl rfl ⟨⟨by (/-6-/first | (have o1 := gz_sh hv6_2; omega) | (simp only [gz_hd] at *; omega)), by (/-7-/first | (have o1 := gz_sh hv6_2; omega) | (simp only [gz_hd] at *; omega))⟩, ⟨by (/-8-/first | (have o1 := gz_sh f4; omega) | (simp only [gz_hd] at *; omega)), by (/-9-/first | (have o1 := gz_sh f4; omega) | (simp only [gz_hd] at *; omega))⟩⟩ (fun c5 => ?_) (fun c5 => ?_)
      · show gv_X _ _ (139, [(0, .inr (.inr (some 100))), (2, .inl a2), (3, .inr (.inr (some a3))), (5, .inl v5_2), (6, .inl v6_2)], [], sh, gc_h sh I J A)
        refine gv_run 1 true hD (pcₚ := 140) (lvₚ := [(0, .inr (.inr (some 100))), (2, .inl a2), (3, .inr (.inr (some a3))), (5, .inl v5_2), (6, .inl v6_2)]) (stₚ := [.inl 1]) (hₚ := gc_h sh I J A) (C := (True ∧ True)) rfl ⟨trivial, trivial⟩ ?_
        exact gv_zret hD rfl (by (/-10-/first | omega | (simp only [gz_hd] at *; omega))) ⟨rfl, ⟨_, rfl, by (/-11-/first | (and_intros <;> omega) | (simp only [gz_hd] at *; omega))⟩⟩
      · show gv_X _ _ (98, [(0, .inr (.inr (some 100))), (2, .inl a2), (3, .inr (.inr (some a3))), (5, .inl v5_2), (6, .inl v6_2)], [], sh, gc_h sh I J A)
        refine gv_run 1 true hD (pcₚ := 99) (lvₚ := [(0, .inr (.inr (some 100))), (2, .inl a2), (3, .inr (.inr (some a3))), (5, .inl v5_2), (6, .inl v6_2)]) (stₚ := [.inr (.inr (some 100))]) (hₚ := gc_h sh I J A) (C := (True ∧ True)) rfl ⟨trivial, trivial⟩ ?_
        refine gv_get hD rfl rfl S_100 ⟨by decide, (gz_sh B_100)⟩ (gc_hA S_100 rfl A_100_12) ?_
        show gv_X _ _ (102, [(0, .inr (.inr (some 100))), (2, .inl a2), (3, .inr (.inr (some a3))), (5, .inl v5_2), (6, .inl v6_2)], [.inr (.inr (some 106))], sh, gc_h sh I J A)
        refine gv_get hD rfl rfl S_106 ⟨by decide, (gz_sh B_106)⟩ (gc_hA S_106 rfl A_106_0) ?_
        show gv_X _ _ (105, [(0, .inr (.inr (some 100))), (2, .inl a2), (3, .inr (.inr (some a3))), (5, .inl v5_2), (6, .inl v6_2)], [.inr (.inr (some 107))], sh, gc_h sh I J A)
        refine gv_run 1 true hD (pcₚ := 106) (lvₚ := [(0, .inr (.inr (some 100))), (2, .inl a2), (3, .inr (.inr (some a3))), (5, .inl v5_2), (6, .inl v6_2)]) (stₚ := [.inr (.inr (some 100)), .inr (.inr (some 107))]) (hₚ := gc_h sh I J A) (C := (True ∧ True)) rfl ⟨trivial, trivial⟩ ?_
        refine gv_get hD rfl rfl S_100 ⟨by decide, (gz_sh B_100)⟩ (gc_hA S_100 rfl A_100_12) ?_
        show gv_X _ _ (109, [(0, .inr (.inr (some 100))), (2, .inl a2), (3, .inr (.inr (some a3))), (5, .inl v5_2), (6, .inl v6_2)], [.inr (.inr (some 106)), .inr (.inr (some 107))], sh, gc_h sh I J A)
        refine gv_get hD rfl rfl S_106 ⟨by decide, (gz_sh B_106)⟩ (gc_hA S_106 rfl A_106_2) ?_
        show gv_X _ _ (112, [(0, .inr (.inr (some 100))), (2, .inl a2), (3, .inr (.inr (some a3))), (5, .inl v5_2), (6, .inl v6_2)], [.inr (.inr (some 108)), .inr (.inr (some 107))], sh, gc_h sh I J A)
        refine gv_run 1 true hD (pcₚ := 113) (lvₚ := [(0, .inr (.inr (some 100))), (2, .inl a2), (3, .inr (.inr (some a3))), (5, .inl v5_2), (6, .inl v6_2)]) (stₚ := [.inl a2, .inr (.inr (some 108)), .inr (.inr (some 107))]) (hₚ := gc_h sh I J A) (C := (True ∧ True)) rfl ⟨trivial, trivial⟩ ?_
        have f6 := gz_hi ((gc_b_4 hI (gz_sh R_108) (Int.toNat a2)))
        refine gv_iald hD rfl S_108 rfl ⟨by decide, (gz_sh B_108)⟩ ⟨by (/-12-/first | omega | (simp only [gz_hd] at *; omega)), by (/-13-/first | omega | (simp only [gz_hd] at *; omega))⟩ (gc_iI S_108 rfl) ?_
        show gv_X _ _ (114, [(0, .inr (.inr (some 100))), (2, .inl a2), (3, .inr (.inr (some a3))), (5, .inl v5_2), (6, .inl v6_2)], [.inl (I 108 (Int.toNat a2)), .inr (.inr (some 107))], sh, gc_h sh I J A)
        refine gv_run 2 true hD (pcₚ := 117) (lvₚ := [(0, .inr (.inr (some 100))), (2, .inl a2), (3, .inr (.inr (some a3))), (5, .inl v5_2), (6, .inl v6_2)]) (stₚ := [.inl ((I 108 (Int.toNat a2)) + v6_2), .inr (.inr (some 107))]) (hₚ := gc_h sh I J A) (C := ((True ∧ True) ∧ True)) rfl ⟨⟨trivial, trivial⟩, trivial⟩ ?_
        have f7 := gz_hi ((gc_b_1 hI (gz_sh R_107) (Int.toNat (((I 108 (Int.toNat a2)) + v6_2)))))
        refine gv_bald hD rfl S_107 (Or.inl rfl) ⟨by decide, (gz_sh B_107)⟩ ⟨by (/-14-/first | (have o1 := gz_sh f6; have o2 := gz_sh hv6_2; omega) | (simp only [gz_hd] at *; omega)), by (/-15-/first | (have o1 := gz_sh t3; omega) | (simp only [gz_hd] at *; omega))⟩ (gc_iI S_107 rfl) ?_
        show gv_X _ _ (118, [(0, .inr (.inr (some 100))), (2, .inl a2), (3, .inr (.inr (some a3))), (5, .inl v5_2), (6, .inl v6_2)], [.inl (I 107 (Int.toNat (((I 108 (Int.toNat a2)) + v6_2))))], sh, gc_h sh I J A)
        refine gv_run 1 true hD (pcₚ := 119) (lvₚ := [(0, .inr (.inr (some 100))), (2, .inl a2), (3, .inr (.inr (some a3))), (5, .inl v5_2), (6, .inl v6_2)]) (stₚ := [.inr (.inr (some a3)), .inl (I 107 (Int.toNat (((I 108 (Int.toNat a2)) + v6_2))))]) (hₚ := gc_h sh I J A) (C := (True ∧ True)) rfl ⟨trivial, trivial⟩ ?_
        refine gv_get hD rfl rfl S_a3 ⟨by decide, (gz_sh B_a3)⟩ (gc_hA S_a3 rfl A_a3_0) ?_
        show gv_X _ _ (122, [(0, .inr (.inr (some 100))), (2, .inl a2), (3, .inr (.inr (some a3))), (5, .inl v5_2), (6, .inl v6_2)], [.inr (.inr (some (a3 + 1))), .inl (I 107 (Int.toNat (((I 108 (Int.toNat a2)) + v6_2))))], sh, gc_h sh I J A)
        refine gv_run 3 true hD (pcₚ := 127) (lvₚ := [(0, .inr (.inr (some 100))), (2, .inl a2), (3, .inr (.inr (some a3))), (5, .inl v5_2), (6, .inl v6_2)]) (stₚ := [.inl (v5_2 + v6_2), .inr (.inr (some (a3 + 1))), .inl (I 107 (Int.toNat (((I 108 (Int.toNat a2)) + v6_2))))]) (hₚ := gc_h sh I J A) (C := (((True ∧ True) ∧ True) ∧ True)) rfl ⟨⟨⟨trivial, trivial⟩, trivial⟩, trivial⟩ ?_
        have f8 := gz_hi ((show (-128) ≤ I (a3 + 1) (Int.toNat (v5_2 + v6_2)) ∧ I (a3 + 1) (Int.toNat (v5_2 + v6_2)) ≤ 127 from gc_in2 hI (gz_sh R_a3_1) rfl rfl rfl))
        refine gv_bald hD rfl S_a3_1 (Or.inl rfl) ⟨by decide, (gz_sh B_a3_1)⟩ ⟨by (/-16-/first | (have o1 := gz_sh hv5_2; have o2 := gz_sh hv6_2; omega) | (simp only [gz_hd] at *; omega)), by (/-17-/first | (have o1 := gz_sh e0_2; omega) | (simp only [gz_hd] at *; omega))⟩ (gc_iI S_a3_1 rfl) ?_
        show gv_X _ _ (128, [(0, .inr (.inr (some 100))), (2, .inl a2), (3, .inr (.inr (some a3))), (5, .inl v5_2), (6, .inl v6_2)], [.inl (I (a3 + 1) (Int.toNat (v5_2 + v6_2))), .inl (I 107 (Int.toNat (((I 108 (Int.toNat a2)) + v6_2))))], sh, gc_h sh I J A)
        refine gv_icmp_eq (t := 133) hD rfl rfl ⟨⟨by (/-18-/first | (have o1 := gz_sh f7; omega) | (simp only [gz_hd] at *; omega)), by (/-19-/first | (have o1 := gz_sh f7; omega) | (simp only [gz_hd] at *; omega))⟩, ⟨by (/-20-/first | (have o1 := gz_sh f8; omega) | (simp only [gz_hd] at *; omega)), by (/-21-/first | (have o1 := gz_sh f8; omega) | (simp only [gz_hd] at *; omega))⟩⟩ (fun c9 => ?_) (fun c9 => ?_)
        · show gv_X _ _ (133, [(0, .inr (.inr (some 100))), (2, .inl a2), (3, .inr (.inr (some a3))), (5, .inl v5_2), (6, .inl v6_2)], [], sh, gc_h sh I J A)
          refine gv_run 2 true hD (pcₚ := 84) (lvₚ := [(6, .inl (v6_2 + 1)), (0, .inr (.inr (some 100))), (2, .inl a2), (3, .inr (.inr (some a3))), (5, .inl v5_2)]) (stₚ := []) (hₚ := gc_h sh I J A) (C := ((True ∧ True) ∧ True)) rfl ⟨⟨trivial, trivial⟩, trivial⟩ ?_
          refine gv_pick [1, 2, 3, 4, 0] rfl ?_
          exact ih84 v5_2 (v6_2 + 1) (by (/-22-/first | (have o1 := gz_sh f4; have o2 := gz_sh hv6_2; omega) | (simp only [gz_hd] at *; omega))) (by (/-23-/first | (and_intros; (omega); (omega); (have o1 := gz_sh hv5_2; omega); (have o1 := gz_sh hv5_2; omega); (have o1 := gz_sh hv6_2; omega); (have o1 := gz_sh f4; omega); (have o1 := gz_sh e0_2; omega)) | (simp only [gz_hd] at *; omega)))
        · show gv_X _ _ (131, [(0, .inr (.inr (some 100))), (2, .inl a2), (3, .inr (.inr (some a3))), (5, .inl v5_2), (6, .inl v6_2)], [], sh, gc_h sh I J A)
          refine gv_run 1 true hD (pcₚ := 132) (lvₚ := [(0, .inr (.inr (some 100))), (2, .inl a2), (3, .inr (.inr (some a3))), (5, .inl v5_2), (6, .inl v6_2)]) (stₚ := [.inl 0]) (hₚ := gc_h sh I J A) (C := (True ∧ True)) rfl ⟨trivial, trivial⟩ ?_
          exact gv_zret hD rfl (by (/-24-/first | omega | (simp only [gz_hd] at *; omega))) ⟨rfl, ⟨_, rfl, by (/-25-/first | (and_intros <;> omega) | (simp only [gz_hd] at *; omega))⟩⟩
  refine gv_run 1 true hD (pcₚ := 1) (lvₚ := [(0, .inr (.inr (some 100))), (1, .inl a1), (2, .inl a2), (3, .inr (.inr (some a3)))]) (stₚ := [.inr (.inr (some 100))]) (hₚ := gc_h sh I J A) (C := (True ∧ True)) rfl ⟨trivial, trivial⟩ ?_
  refine gv_get hD rfl rfl S_100 ⟨by decide, (gz_sh B_100)⟩ (gc_hA S_100 rfl A_100_18) ?_
  show gv_X _ _ (4, [(0, .inr (.inr (some 100))), (1, .inl a1), (2, .inl a2), (3, .inr (.inr (some a3)))], [.inr (.inr (some 113))], sh, gc_h sh I J A)
  refine gv_run 3 true hD (pcₚ := 7) (lvₚ := [(0, .inr (.inr (some 100))), (1, .inl a1), (2, .inl a2), (3, .inr (.inr (some a3)))]) (stₚ := [.inl (3 * a1), .inr (.inr (some 113))]) (hₚ := gc_h sh I J A) (C := (((True ∧ True) ∧ True) ∧ True)) rfl ⟨⟨⟨trivial, trivial⟩, trivial⟩, trivial⟩ ?_
  have f10 := gz_hi ((show 0 ≤ I 113 (Int.toNat (3 * a1)) ∧ I 113 (Int.toNat (3 * a1)) ≤ 125 from gc_inm (c := 0) hI (gz_sh R_113) rfl rfl (by (/-26-/first | omega | (simp only [gz_hd] at *; omega))) rfl rfl))
  refine gv_iald hD rfl S_113 rfl ⟨by decide, (gz_sh B_113)⟩ ⟨by (/-27-/first | omega | (simp only [gz_hd] at *; omega)), by (/-28-/first | omega | (simp only [gz_hd] at *; omega))⟩ (gc_iI S_113 rfl) ?_
  show gv_X _ _ (8, [(0, .inr (.inr (some 100))), (1, .inl a1), (2, .inl a2), (3, .inr (.inr (some a3)))], [.inl (I 113 (Int.toNat (3 * a1)))], sh, gc_h sh I J A)
  refine gv_run 2 true hD (pcₚ := 11) (lvₚ := [(4, .inl (I 113 (Int.toNat (3 * a1)))), (0, .inr (.inr (some 100))), (1, .inl a1), (2, .inl a2), (3, .inr (.inr (some a3)))]) (stₚ := [.inr (.inr (some 100))]) (hₚ := gc_h sh I J A) (C := ((True ∧ True) ∧ True)) rfl ⟨⟨trivial, trivial⟩, trivial⟩ ?_
  refine gv_get hD rfl rfl S_100 ⟨by decide, (gz_sh B_100)⟩ (gc_hA S_100 rfl A_100_18) ?_
  show gv_X _ _ (14, [(4, .inl (I 113 (Int.toNat (3 * a1)))), (0, .inr (.inr (some 100))), (1, .inl a1), (2, .inl a2), (3, .inr (.inr (some a3)))], [.inr (.inr (some 113))], sh, gc_h sh I J A)
  refine gv_run 5 true hD (pcₚ := 19) (lvₚ := [(4, .inl (I 113 (Int.toNat (3 * a1)))), (0, .inr (.inr (some 100))), (1, .inl a1), (2, .inl a2), (3, .inr (.inr (some a3)))]) (stₚ := [.inl ((3 * a1) + 1), .inr (.inr (some 113))]) (hₚ := gc_h sh I J A) (C := (((((True ∧ True) ∧ True) ∧ True) ∧ True) ∧ True)) rfl ⟨⟨⟨⟨⟨trivial, trivial⟩, trivial⟩, trivial⟩, trivial⟩, trivial⟩ ?_
  have f11 := gz_hi ((show 0 ≤ I 113 (Int.toNat (((3 * a1) + 1))) ∧ I 113 (Int.toNat (((3 * a1) + 1))) ≤ 1001 from gc_inm (c := 1) hI (gz_sh R_113) rfl rfl (by (/-29-/first | omega | (simp only [gz_hd] at *; omega))) rfl rfl))
  refine gv_iald hD rfl S_113 rfl ⟨by decide, (gz_sh B_113)⟩ ⟨by (/-30-/first | omega | (simp only [gz_hd] at *; omega)), by (/-31-/first | omega | (simp only [gz_hd] at *; omega))⟩ (gc_iI S_113 rfl) ?_
  show gv_X _ _ (20, [(4, .inl (I 113 (Int.toNat (3 * a1)))), (0, .inr (.inr (some 100))), (1, .inl a1), (2, .inl a2), (3, .inr (.inr (some a3)))], [.inl (I 113 (Int.toNat (((3 * a1) + 1))))], sh, gc_h sh I J A)
  refine gv_run 3 true hD (pcₚ := 25) (lvₚ := [(5, .inl (I 113 (Int.toNat (((3 * a1) + 1))))), (4, .inl (I 113 (Int.toNat (3 * a1)))), (0, .inr (.inr (some 100))), (1, .inl a1), (2, .inl a2), (3, .inr (.inr (some a3)))]) (stₚ := [.inl 1, .inl (I 113 (Int.toNat (3 * a1)))]) (hₚ := gc_h sh I J A) (C := (((True ∧ True) ∧ True) ∧ True)) rfl ⟨⟨⟨trivial, trivial⟩, trivial⟩, trivial⟩ ?_
  refine gv_icmp_ne (t := 49) hD rfl rfl ⟨⟨by (/-32-/first | (have o1 := gz_sh f10; omega) | (simp only [gz_hd] at *; omega)), by (/-33-/first | (have o1 := gz_sh f10; omega) | (simp only [gz_hd] at *; omega))⟩, ⟨by (/-34-/first | omega | (simp only [gz_hd] at *; omega)), by (/-35-/first | omega | (simp only [gz_hd] at *; omega))⟩⟩ (fun c12 => ?_) (fun c12 => ?_)
  · show gv_X _ _ (49, [(5, .inl (I 113 (Int.toNat (((3 * a1) + 1))))), (4, .inl (I 113 (Int.toNat (3 * a1)))), (0, .inr (.inr (some 100))), (1, .inl a1), (2, .inl a2), (3, .inr (.inr (some a3)))], [], sh, gc_h sh I J A)
    refine gv_run 2 true hD (pcₚ := 52) (lvₚ := [(5, .inl (I 113 (Int.toNat (((3 * a1) + 1))))), (4, .inl (I 113 (Int.toNat (3 * a1)))), (0, .inr (.inr (some 100))), (1, .inl a1), (2, .inl a2), (3, .inr (.inr (some a3)))]) (stₚ := [.inl 3, .inl (I 113 (Int.toNat (3 * a1)))]) (hₚ := gc_h sh I J A) (C := ((True ∧ True) ∧ True)) rfl ⟨⟨trivial, trivial⟩, trivial⟩ ?_
    refine gv_icmp_eq (t := 57) hD rfl rfl ⟨⟨by (/-36-/first | (have o1 := gz_sh f10; omega) | (simp only [gz_hd] at *; omega)), by (/-37-/first | (have o1 := gz_sh f10; omega) | (simp only [gz_hd] at *; omega))⟩, ⟨by (/-38-/first | omega | (simp only [gz_hd] at *; omega)), by (/-39-/first | omega | (simp only [gz_hd] at *; omega))⟩⟩ (fun c13 => ?_) (fun c13 => ?_)
    · show gv_X _ _ (57, [(5, .inl (I 113 (Int.toNat (((3 * a1) + 1))))), (4, .inl (I 113 (Int.toNat (3 * a1)))), (0, .inr (.inr (some 100))), (1, .inl a1), (2, .inl a2), (3, .inr (.inr (some a3)))], [], sh, gc_h sh I J A)
      refine gv_run 1 true hD (pcₚ := 58) (lvₚ := [(5, .inl (I 113 (Int.toNat (((3 * a1) + 1))))), (4, .inl (I 113 (Int.toNat (3 * a1)))), (0, .inr (.inr (some 100))), (1, .inl a1), (2, .inl a2), (3, .inr (.inr (some a3)))]) (stₚ := [.inr (.inr (some 100))]) (hₚ := gc_h sh I J A) (C := (True ∧ True)) rfl ⟨trivial, trivial⟩ ?_
      refine gv_get hD rfl rfl S_100 ⟨by decide, (gz_sh B_100)⟩ (gc_hA S_100 rfl A_100_12) ?_
      show gv_X _ _ (61, [(5, .inl (I 113 (Int.toNat (((3 * a1) + 1))))), (4, .inl (I 113 (Int.toNat (3 * a1)))), (0, .inr (.inr (some 100))), (1, .inl a1), (2, .inl a2), (3, .inr (.inr (some a3)))], [.inr (.inr (some 106))], sh, gc_h sh I J A)
      refine gv_get hD rfl rfl S_106 ⟨by decide, (gz_sh B_106)⟩ (gc_hA S_106 rfl A_106_3) ?_
      show gv_X _ _ (64, [(5, .inl (I 113 (Int.toNat (((3 * a1) + 1))))), (4, .inl (I 113 (Int.toNat (3 * a1)))), (0, .inr (.inr (some 100))), (1, .inl a1), (2, .inl a2), (3, .inr (.inr (some a3)))], [.inr (.inr (some 109))], sh, gc_h sh I J A)
      refine gv_run 1 true hD (pcₚ := 65) (lvₚ := [(5, .inl (I 113 (Int.toNat (((3 * a1) + 1))))), (4, .inl (I 113 (Int.toNat (3 * a1)))), (0, .inr (.inr (some 100))), (1, .inl a1), (2, .inl a2), (3, .inr (.inr (some a3)))]) (stₚ := [.inl a2, .inr (.inr (some 109))]) (hₚ := gc_h sh I J A) (C := (True ∧ True)) rfl ⟨trivial, trivial⟩ ?_
      have f14 := gz_hi ((gc_b_5 hI (gz_sh R_109) (Int.toNat a2)))
      refine gv_iald hD rfl S_109 rfl ⟨by decide, (gz_sh B_109)⟩ ⟨by (/-40-/first | omega | (simp only [gz_hd] at *; omega)), by (/-41-/first | omega | (simp only [gz_hd] at *; omega))⟩ (gc_iI S_109 rfl) ?_
      show gv_X _ _ (66, [(5, .inl (I 113 (Int.toNat (((3 * a1) + 1))))), (4, .inl (I 113 (Int.toNat (3 * a1)))), (0, .inr (.inr (some 100))), (1, .inl a1), (2, .inl a2), (3, .inr (.inr (some a3)))], [.inl (I 109 (Int.toNat a2))], sh, gc_h sh I J A)
      refine gv_run 1 true hD (pcₚ := 67) (lvₚ := [(5, .inl (I 113 (Int.toNat (((3 * a1) + 1))))), (4, .inl (I 113 (Int.toNat (3 * a1)))), (0, .inr (.inr (some 100))), (1, .inl a1), (2, .inl a2), (3, .inr (.inr (some a3)))]) (stₚ := [.inr (.inr (some 100)), .inl (I 109 (Int.toNat a2))]) (hₚ := gc_h sh I J A) (C := (True ∧ True)) rfl ⟨trivial, trivial⟩ ?_
      refine gv_get hD rfl rfl S_100 ⟨by decide, (gz_sh B_100)⟩ (gc_hA S_100 rfl A_100_18) ?_
      show gv_X _ _ (70, [(5, .inl (I 113 (Int.toNat (((3 * a1) + 1))))), (4, .inl (I 113 (Int.toNat (3 * a1)))), (0, .inr (.inr (some 100))), (1, .inl a1), (2, .inl a2), (3, .inr (.inr (some a3)))], [.inr (.inr (some 113)), .inl (I 109 (Int.toNat a2))], sh, gc_h sh I J A)
      refine gv_run 5 true hD (pcₚ := 75) (lvₚ := [(5, .inl (I 113 (Int.toNat (((3 * a1) + 1))))), (4, .inl (I 113 (Int.toNat (3 * a1)))), (0, .inr (.inr (some 100))), (1, .inl a1), (2, .inl a2), (3, .inr (.inr (some a3)))]) (stₚ := [.inl ((3 * a1) + 2), .inr (.inr (some 113)), .inl (I 109 (Int.toNat a2))]) (hₚ := gc_h sh I J A) (C := (((((True ∧ True) ∧ True) ∧ True) ∧ True) ∧ True)) rfl ⟨⟨⟨⟨⟨trivial, trivial⟩, trivial⟩, trivial⟩, trivial⟩, trivial⟩ ?_
      have f15 := gz_hi ((show (-2147483648) ≤ I 113 (Int.toNat (((3 * a1) + 2))) ∧ I 113 (Int.toNat (((3 * a1) + 2))) ≤ 2147483647 from gc_inm (c := 2) hI (gz_sh R_113) rfl rfl (by (/-42-/first | omega | (simp only [gz_hd] at *; omega))) rfl rfl))
      refine gv_iald hD rfl S_113 rfl ⟨by decide, (gz_sh B_113)⟩ ⟨by (/-43-/first | omega | (simp only [gz_hd] at *; omega)), by (/-44-/first | omega | (simp only [gz_hd] at *; omega))⟩ (gc_iI S_113 rfl) ?_
      show gv_X _ _ (76, [(5, .inl (I 113 (Int.toNat (((3 * a1) + 1))))), (4, .inl (I 113 (Int.toNat (3 * a1)))), (0, .inr (.inr (some 100))), (1, .inl a1), (2, .inl a2), (3, .inr (.inr (some a3)))], [.inl (I 113 (Int.toNat (((3 * a1) + 2)))), .inl (I 109 (Int.toNat a2))], sh, gc_h sh I J A)
      refine gv_icmp_eq (t := 81) hD rfl rfl ⟨⟨by (/-45-/first | (have o1 := gz_sh f14; omega) | (simp only [gz_hd] at *; omega)), by (/-46-/first | (have o1 := gz_sh f14; omega) | (simp only [gz_hd] at *; omega))⟩, ⟨by (/-47-/first | (have o1 := gz_sh f15; omega) | (simp only [gz_hd] at *; omega)), by (/-48-/first | (have o1 := gz_sh f15; omega) | (simp only [gz_hd] at *; omega))⟩⟩ (fun c16 => ?_) (fun c16 => ?_)
      · show gv_X _ _ (81, [(5, .inl (I 113 (Int.toNat (((3 * a1) + 1))))), (4, .inl (I 113 (Int.toNat (3 * a1)))), (0, .inr (.inr (some 100))), (1, .inl a1), (2, .inl a2), (3, .inr (.inr (some a3)))], [], sh, gc_h sh I J A)
        refine gv_run 2 true hD (pcₚ := 84) (lvₚ := [(6, .inl 0), (5, .inl (I 113 (Int.toNat (((3 * a1) + 1))))), (4, .inl (I 113 (Int.toNat (3 * a1)))), (0, .inr (.inr (some 100))), (1, .inl a1), (2, .inl a2), (3, .inr (.inr (some a3)))]) (stₚ := []) (hₚ := gc_h sh I J A) (C := ((True ∧ True) ∧ True)) rfl ⟨⟨trivial, trivial⟩, trivial⟩ ?_
        refine gv_pick [3, 5, 6, 1, 0] rfl ?_
        exact L84 _ ((I 113 (Int.toNat (((3 * a1) + 1))))) 0 (Nat.lt_succ_self _) (by (/-49-/first | (and_intros; (omega); (omega); (have o1 := gz_sh f11; omega); (have o1 := gz_sh f11; omega); (omega); (omega); (omega)) | (simp only [gz_hd] at *; omega)))
      · show gv_X _ _ (79, [(5, .inl (I 113 (Int.toNat (((3 * a1) + 1))))), (4, .inl (I 113 (Int.toNat (3 * a1)))), (0, .inr (.inr (some 100))), (1, .inl a1), (2, .inl a2), (3, .inr (.inr (some a3)))], [], sh, gc_h sh I J A)
        refine gv_run 1 true hD (pcₚ := 80) (lvₚ := [(5, .inl (I 113 (Int.toNat (((3 * a1) + 1))))), (4, .inl (I 113 (Int.toNat (3 * a1)))), (0, .inr (.inr (some 100))), (1, .inl a1), (2, .inl a2), (3, .inr (.inr (some a3)))]) (stₚ := [.inl 0]) (hₚ := gc_h sh I J A) (C := (True ∧ True)) rfl ⟨trivial, trivial⟩ ?_
        exact gv_zret hD rfl (by (/-50-/first | omega | (simp only [gz_hd] at *; omega))) ⟨rfl, ⟨_, rfl, by (/-51-/first | (and_intros <;> omega) | (simp only [gz_hd] at *; omega))⟩⟩
    · show gv_X _ _ (55, [(5, .inl (I 113 (Int.toNat (((3 * a1) + 1))))), (4, .inl (I 113 (Int.toNat (3 * a1)))), (0, .inr (.inr (some 100))), (1, .inl a1), (2, .inl a2), (3, .inr (.inr (some a3)))], [], sh, gc_h sh I J A)
      refine gv_run 1 true hD (pcₚ := 56) (lvₚ := [(5, .inl (I 113 (Int.toNat (((3 * a1) + 1))))), (4, .inl (I 113 (Int.toNat (3 * a1)))), (0, .inr (.inr (some 100))), (1, .inl a1), (2, .inl a2), (3, .inr (.inr (some a3)))]) (stₚ := [.inl 1]) (hₚ := gc_h sh I J A) (C := (True ∧ True)) rfl ⟨trivial, trivial⟩ ?_
      exact gv_zret hD rfl (by (/-52-/first | omega | (simp only [gz_hd] at *; omega))) ⟨rfl, ⟨_, rfl, by (/-53-/first | (and_intros <;> omega) | (simp only [gz_hd] at *; omega))⟩⟩
  · show gv_X _ _ (28, [(5, .inl (I 113 (Int.toNat (((3 * a1) + 1))))), (4, .inl (I 113 (Int.toNat (3 * a1)))), (0, .inr (.inr (some 100))), (1, .inl a1), (2, .inl a2), (3, .inr (.inr (some a3)))], [], sh, gc_h sh I J A)
    refine gv_run 1 true hD (pcₚ := 29) (lvₚ := [(5, .inl (I 113 (Int.toNat (((3 * a1) + 1))))), (4, .inl (I 113 (Int.toNat (3 * a1)))), (0, .inr (.inr (some 100))), (1, .inl a1), (2, .inl a2), (3, .inr (.inr (some a3)))]) (stₚ := [.inr (.inr (some 100))]) (hₚ := gc_h sh I J A) (C := (True ∧ True)) rfl ⟨trivial, trivial⟩ ?_
    refine gv_get hD rfl rfl S_100 ⟨by decide, (gz_sh B_100)⟩ (gc_hA S_100 rfl A_100_13) ?_
    show gv_X _ _ (32, [(5, .inl (I 113 (Int.toNat (((3 * a1) + 1))))), (4, .inl (I 113 (Int.toNat (3 * a1)))), (0, .inr (.inr (some 100))), (1, .inl a1), (2, .inl a2), (3, .inr (.inr (some a3)))], [.inr (.inr (some 110))], sh, gc_h sh I J A)
    refine gv_run 1 true hD (pcₚ := 33) (lvₚ := [(5, .inl (I 113 (Int.toNat (((3 * a1) + 1))))), (4, .inl (I 113 (Int.toNat (3 * a1)))), (0, .inr (.inr (some 100))), (1, .inl a1), (2, .inl a2), (3, .inr (.inr (some a3)))]) (stₚ := [.inl a2, .inr (.inr (some 110))]) (hₚ := gc_h sh I J A) (C := (True ∧ True)) rfl ⟨trivial, trivial⟩ ?_
    refine gv_iald hD rfl S_110 rfl ⟨by decide, (gz_sh B_110)⟩ ⟨by (/-54-/first | omega | (simp only [gz_hd] at *; omega)), by (/-55-/first | omega | (simp only [gz_hd] at *; omega))⟩ (gc_iI S_110 rfl) ?_
    show gv_X _ _ (34, [(5, .inl (I 113 (Int.toNat (((3 * a1) + 1))))), (4, .inl (I 113 (Int.toNat (3 * a1)))), (0, .inr (.inr (some 100))), (1, .inl a1), (2, .inl a2), (3, .inr (.inr (some a3)))], [.inl (I 110 (Int.toNat a2))], sh, gc_h sh I J A)
    have f19 := gz_hi (gw_and (x := (((Int32.ofInt ((I 110 (Int.toNat a2))) >>> (Int32.ofInt ((I 113 (Int.toNat (((3 * a1) + 1))))) &&& 31)).toInt))) (y := 1) ⟨by (/-56-/first | omega | (simp only [gz_hd] at *; omega)), by (/-57-/first | omega | (simp only [gz_hd] at *; omega))⟩)
    refine gv_run 5 true hD (pcₚ := 40) (lvₚ := [(5, .inl (I 113 (Int.toNat (((3 * a1) + 1))))), (4, .inl (I 113 (Int.toNat (3 * a1)))), (0, .inr (.inr (some 100))), (1, .inl a1), (2, .inl a2), (3, .inr (.inr (some a3)))]) (stₚ := [.inl 1, .inl ((Int32.ofInt (((Int32.ofInt ((I 110 (Int.toNat a2))) >>> (Int32.ofInt ((I 113 (Int.toNat (((3 * a1) + 1))))) &&& 31)).toInt)) &&& Int32.ofInt 1).toInt)]) (hₚ := gc_h sh I J A) (C := (((((True ∧ True) ∧ True) ∧ True) ∧ True) ∧ True)) rfl ⟨⟨⟨⟨⟨trivial, trivial⟩, trivial⟩, trivial⟩, trivial⟩, trivial⟩ ?_
    refine gv_icmp_ne (t := 47) hD rfl rfl ⟨⟨by (/-58-/first | (have o1 := gz_sh f19; omega) | (simp only [gz_hd] at *; omega)), by (/-59-/first | (have o1 := gz_sh f19; omega) | (simp only [gz_hd] at *; omega))⟩, ⟨by (/-60-/first | omega | (simp only [gz_hd] at *; omega)), by (/-61-/first | omega | (simp only [gz_hd] at *; omega))⟩⟩ (fun c20 => ?_) (fun c20 => ?_)
    · show gv_X _ _ (47, [(5, .inl (I 113 (Int.toNat (((3 * a1) + 1))))), (4, .inl (I 113 (Int.toNat (3 * a1)))), (0, .inr (.inr (some 100))), (1, .inl a1), (2, .inl a2), (3, .inr (.inr (some a3)))], [], sh, gc_h sh I J A)
      refine gv_run 1 true hD (pcₚ := 48) (lvₚ := [(5, .inl (I 113 (Int.toNat (((3 * a1) + 1))))), (4, .inl (I 113 (Int.toNat (3 * a1)))), (0, .inr (.inr (some 100))), (1, .inl a1), (2, .inl a2), (3, .inr (.inr (some a3)))]) (stₚ := [.inl 0]) (hₚ := gc_h sh I J A) (C := (True ∧ True)) rfl ⟨trivial, trivial⟩ ?_
      refine gv_pick [] rfl ?_
      exact L48 0 (by (/-62-/first | (and_intros <;> omega) | (simp only [gz_hd] at *; omega)))
    · show gv_X _ _ (43, [(5, .inl (I 113 (Int.toNat (((3 * a1) + 1))))), (4, .inl (I 113 (Int.toNat (3 * a1)))), (0, .inr (.inr (some 100))), (1, .inl a1), (2, .inl a2), (3, .inr (.inr (some a3)))], [], sh, gc_h sh I J A)
      refine gv_run 2 true hD (pcₚ := 48) (lvₚ := [(5, .inl (I 113 (Int.toNat (((3 * a1) + 1))))), (4, .inl (I 113 (Int.toNat (3 * a1)))), (0, .inr (.inr (some 100))), (1, .inl a1), (2, .inl a2), (3, .inr (.inr (some a3)))]) (stₚ := [.inl 1]) (hₚ := gc_h sh I J A) (C := ((True ∧ True) ∧ True)) rfl ⟨⟨trivial, trivial⟩, trivial⟩ ?_
      refine gv_pick [] rfl ?_
      exact L48 1 (by (/-63-/first | (and_intros <;> omega) | (simp only [gz_hd] at *; omega)))
