def gc_SN (sh : gz_Sh) (ro : Nat → Nat) (A : gc_A) (I : gr_I) : Prop := ∀ i : Nat, (i : Int) < I 100 9 → ∃ q n, A 104 i = some q ∧ sh[q]? = some (true, 0, n) ∧ ro q = 1 ∧ q < 1000000 ∧ n ≤ 1000 ∧ 144 ≤ q
set_option maxHeartbeats 8000000 in
set_option maxRecDepth 100000 in
theorem d_X1_search {ws0 : List Cond} {tb : String → gz_T} (hws : gc_Ws ws0) (htb : gc_tbs tb) (sh : gz_Sh) (ro : Nat → Nat) (I : gr_I) (J : gr_J) (A : gc_A) (hI : gc_Inv ro I) (a1 : Int) (a2 : Nat) (a3 : Nat) (hb : gc_Base sh ro A) (h_a2 : gc_isTongue sh ro A a2) (G_a2 : 144 ≤ a2) (h_a3 : gc_isText sh ro A a3) (G_a3 : a3 + 3 < 39) (ha1 : 0 ≤ a1 ∧ a1 ≤ 7) (x0 : gc_SN sh ro A I) : ∃ r hₚ, gz_Ev ws0 tb 5 (yX1_search, cX1_search, 5, (some .int)) [.inr (.inr (some 100)), .inl a1, .inr (.inr (some a2)), .inr (.inr (some a3))] sh (gc_h sh I J A) r sh hₚ 0 0 ∧ (∃ (Iₚ : gr_I) (Jₚ : gr_J), hₚ = gc_h sh Iₚ Jₚ A ∧ gc_Inv ro Iₚ ∧ (∀ q j : Nat, ((q = 100 ∧ j = 14) ∨ (q = 100 ∧ j = 17) ∨ q = 113 ∨ (q = a3 ∧ j = 5) ∨ (q = a3 ∧ j = 6) ∨ (q = a3 ∧ j = 7) ∨ (q = a3 ∧ j = 8) ∨ (q = 106 ∧ j = 1) ∨ q = 107 ∨ (q = 106 ∧ j = 4) ∨ q = 108 ∨ q = 109 ∨ q = 110 ∨ q = 111 ∨ q = 112 ∨ q = (a2 + 22)) ∨ Iₚ q j = I q j) ∧ (∀ q j : Nat, ((q = a3 ∧ j = 9)) ∨ Jₚ q j = J q j) ∧ (∃ z : Int, r = some (.inl z) ∧ (-3) ≤ z ∧ z ≤ 2400)) := by
  have FI : ∀ q j : Nat, ((q = 100 ∧ j = 14) ∨ (q = 100 ∧ j = 17) ∨ q = 113 ∨ (q = a3 ∧ j = 5) ∨ (q = a3 ∧ j = 6) ∨ (q = a3 ∧ j = 7) ∨ (q = a3 ∧ j = 8) ∨ (q = 106 ∧ j = 1) ∨ q = 107 ∨ (q = 106 ∧ j = 4) ∨ q = 108 ∨ q = 109 ∨ q = 110 ∨ q = 111 ∨ q = 112 ∨ q = (a2 + 22)) ∨ I q j = I q j := fun _ _ => Or.inr rfl
  have FJ : ∀ q j : Nat, ((q = a3 ∧ j = 9)) ∨ J q j = J q j := fun _ _ => Or.inr rfl
  have A_100_10 : A 100 10 = some 104 := gc_bA_100_10 hb
  have A_100_11 : A 100 11 = some 105 := gc_bA_100_11 hb
  have A_100_12 : A 100 12 = some 106 := gc_bA_100_12 hb
  have B_100 := gz_hi (show 100 < 1000000 from by decide)
  have B_104 := gz_hi (show 104 < 1000000 from by decide)
  have B_105 := gz_hi (show 105 < 1000000 from by decide)
  have B_106 := gz_hi (show 106 < 1000000 from by decide)
  have R_100 := gz_hi (show ro 100 = 75 from gc_bR_100 hb)
  have R_105 := gz_hi (show ro 105 = 59 from gc_bR_105 hb)
  have R_106 := gz_hi (show ro 106 = 3 from gc_bR_106 hb)
  have S_100 : sh[100]? = some (false, 1, 19) := gc_bS_100 hb
  have S_104 : sh[104]? = some (true, 6, 100) := gc_bS_104 hb
  have S_105 : sh[105]? = some (true, 1, 100) := gc_bS_105 hb
  have S_106 : sh[106]? = some (false, 9, 10) := gc_bS_106 hb
  obtain ⟨S_a2, R_a2, B_a2, A_a2_0, h_a2_1, A_a2_1, h_a2_3, A_a2_2, S_a2_5, R_a2_5, B_a2_5, A_a2_3, S_a2_6, R_a2_6, B_a2_6, A_a2_4, h_a2_7, A_a2_5, S_a2_9, R_a2_9, B_a2_9, A_a2_7, S_a2_10, R_a2_10, B_a2_10, A_a2_8, h_a2_11, A_a2_9, S_a2_13, R_a2_13, B_a2_13, A_a2_10, S_a2_14, R_a2_14, B_a2_14, A_a2_12, S_a2_15, R_a2_15, B_a2_15, A_a2_14, S_a2_16, R_a2_16, B_a2_16, A_a2_15, h_a2_17⟩ := id h_a2
  replace R_a2 := gz_hi R_a2
  replace B_a2 := gz_hi B_a2
  replace R_a2_5 := gz_hi R_a2_5
  replace B_a2_5 := gz_hi B_a2_5
  replace R_a2_6 := gz_hi R_a2_6
  replace B_a2_6 := gz_hi B_a2_6
  replace R_a2_9 := gz_hi R_a2_9
  replace B_a2_9 := gz_hi B_a2_9
  replace R_a2_10 := gz_hi R_a2_10
  replace B_a2_10 := gz_hi B_a2_10
  replace R_a2_13 := gz_hi R_a2_13
  replace B_a2_13 := gz_hi B_a2_13
  replace R_a2_14 := gz_hi R_a2_14
  replace B_a2_14 := gz_hi B_a2_14
  replace R_a2_15 := gz_hi R_a2_15
  replace B_a2_15 := gz_hi B_a2_15
  replace R_a2_16 := gz_hi R_a2_16
  replace B_a2_16 := gz_hi B_a2_16
  obtain ⟨S_a2_1, R_a2_1, B_a2_1, A_a2_1_0, S_a2_1_1, R_a2_1_1, B_a2_1_1, Q0_a2_1, Q1_a2_1, Q2_a2_1⟩ := id h_a2_1
  replace R_a2_1 := gz_hi R_a2_1
  replace B_a2_1 := gz_hi B_a2_1
  replace R_a2_1_1 := gz_hi R_a2_1_1
  replace B_a2_1_1 := gz_hi B_a2_1_1
  obtain ⟨S_a2_3, R_a2_3, B_a2_3, A_a2_3_0, S_a2_3_1, R_a2_3_1, B_a2_3_1, Q0_a2_3, Q1_a2_3, Q2_a2_3⟩ := id h_a2_3
  replace R_a2_3 := gz_hi R_a2_3
  replace B_a2_3 := gz_hi B_a2_3
  replace R_a2_3_1 := gz_hi R_a2_3_1
  replace B_a2_3_1 := gz_hi B_a2_3_1
  obtain ⟨S_a2_7, R_a2_7, B_a2_7, A_a2_7_0, S_a2_7_1, R_a2_7_1, B_a2_7_1, Q0_a2_7, Q1_a2_7, Q2_a2_7⟩ := id h_a2_7
  replace R_a2_7 := gz_hi R_a2_7
  replace B_a2_7 := gz_hi B_a2_7
  replace R_a2_7_1 := gz_hi R_a2_7_1
  replace B_a2_7_1 := gz_hi B_a2_7_1
  obtain ⟨S_a2_11, R_a2_11, B_a2_11, A_a2_11_0, S_a2_11_1, R_a2_11_1, B_a2_11_1, Q0_a2_11, Q1_a2_11, Q2_a2_11⟩ := id h_a2_11
  replace R_a2_11 := gz_hi R_a2_11
  replace B_a2_11 := gz_hi B_a2_11
  replace R_a2_11_1 := gz_hi R_a2_11_1
  replace B_a2_11_1 := gz_hi B_a2_11_1
  obtain ⟨S_a2_17, R_a2_17, B_a2_17, A_a2_17_0, S_20, R_20, B_20, A_a2_17_1, S_a2_17_1, R_a2_17_1, B_a2_17_1, A_a2_17_2, S_a2_17_2, R_a2_17_2, B_a2_17_2, A_a2_17_3, S_a2_17_3, R_a2_17_3, B_a2_17_3, A_a2_17_4, S_a2_17_4, R_a2_17_4, B_a2_17_4, A_a2_17_5, S_a2_17_5, R_a2_17_5, B_a2_17_5, S_a2_17_6, R_a2_17_6, B_a2_17_6, S_a2_17_7, R_a2_17_7, B_a2_17_7⟩ := id h_a2_17
  replace R_a2_17 := gz_hi R_a2_17
  replace B_a2_17 := gz_hi B_a2_17
  replace R_20 := gz_hi R_20
  replace B_20 := gz_hi B_20
  replace R_a2_17_1 := gz_hi R_a2_17_1
  replace B_a2_17_1 := gz_hi B_a2_17_1
  replace R_a2_17_2 := gz_hi R_a2_17_2
  replace B_a2_17_2 := gz_hi B_a2_17_2
  replace R_a2_17_3 := gz_hi R_a2_17_3
  replace B_a2_17_3 := gz_hi B_a2_17_3
  replace R_a2_17_4 := gz_hi R_a2_17_4
  replace B_a2_17_4 := gz_hi B_a2_17_4
  replace R_a2_17_5 := gz_hi R_a2_17_5
  replace B_a2_17_5 := gz_hi B_a2_17_5
  replace R_a2_17_6 := gz_hi R_a2_17_6
  replace B_a2_17_6 := gz_hi B_a2_17_6
  replace R_a2_17_7 := gz_hi R_a2_17_7
  replace B_a2_17_7 := gz_hi B_a2_17_7
  obtain ⟨S_a3, R_a3, B_a3, A_a3_0, S_a3_1, R_a3_1, B_a3_1, A_a3_2, S_a3_2, R_a3_2, B_a3_2, A_a3_3, S_a3_3, R_a3_3, B_a3_3⟩ := id h_a3
  replace R_a3 := gz_hi R_a3
  replace B_a3 := gz_hi B_a3
  replace R_a3_1 := gz_hi R_a3_1
  replace B_a3_1 := gz_hi B_a3_1
  replace R_a3_2 := gz_hi R_a3_2
  replace B_a3_2 := gz_hi B_a3_2
  replace R_a3_3 := gz_hi R_a3_3
  replace B_a3_3 := gz_hi B_a3_3
  have hD : gv_D (gc_E1 ws0 tb 4 (yX1_search, cX1_search, 5, (some .int)) kX1_search) := gq_of oX1_search
  refine gc_ev1 (d := 4) (l := kX1_search) (Po := fun r hₚ => (∃ (Iₚ : gr_I) (Jₚ : gr_J), hₚ = gc_h sh Iₚ Jₚ A ∧ gc_Inv ro Iₚ ∧ (∀ q j : Nat, ((q = 100 ∧ j = 14) ∨ (q = 100 ∧ j = 17) ∨ q = 113 ∨ (q = a3 ∧ j = 5) ∨ (q = a3 ∧ j = 6) ∨ (q = a3 ∧ j = 7) ∨ (q = a3 ∧ j = 8) ∨ (q = 106 ∧ j = 1) ∨ q = 107 ∨ (q = 106 ∧ j = 4) ∨ q = 108 ∨ q = 109 ∨ q = 110 ∨ q = 111 ∨ q = 112 ∨ q = (a2 + 22)) ∨ Iₚ q j = I q j) ∧ (∀ q j : Nat, ((q = a3 ∧ j = 9)) ∨ Jₚ q j = J q j) ∧ (∃ z : Int, r = some (.inl z) ∧ (-3) ≤ z ∧ z ≤ 2400))) htb rfl (Nat.le_of_ble_eq_true rfl) ?_
  have N_100__a2_22 := gz_hi (show ¬ (100 = (a2 + 22)) from by (/-0-/first | (have o1 := gz_sh B_a2; have o2 := gz_sh B_a2_10; have o3 := gz_sh B_a2_13; have o4 := gz_sh B_a2_14; have o5 := gz_sh B_a2_15; have o6 := gz_sh B_a2_16; have o7 := gz_sh B_a2_17; have o8 := gz_sh B_a2_17_1; have o9 := gz_sh B_a2_17_2; have o10 := gz_sh B_a2_17_3; have o11 := gz_sh B_a2_17_4; have o12 := gz_sh B_a2_17_5; have o13 := gz_sh B_a2_17_6; have o14 := gz_sh B_a2_17_7; have o15 := gz_sh B_a2_5; have o16 := gz_sh B_a2_6; have o17 := gz_sh B_a2_9; omega) | (simp only [gz_hd] at *; omega)))
  have f2 := gz_hi ((gc_b_75_9 hI (gz_sh R_100)))
  have L19 : ∀ (n9 : Nat) (I4 : gr_I) (J5 : gr_J) (v4_6 : Int), (101 - v4_6).toNat < n9 → gc_Inv ro I4 → (∀ q j : Nat, ((q = 100 ∧ j = 14) ∨ (q = 100 ∧ j = 17) ∨ q = 113 ∨ (q = a3 ∧ j = 5) ∨ (q = a3 ∧ j = 6) ∨ (q = a3 ∧ j = 7) ∨ (q = a3 ∧ j = 8) ∨ (q = 106 ∧ j = 1) ∨ q = 107 ∨ (q = 106 ∧ j = 4) ∨ q = 108 ∨ q = 109 ∨ q = 110 ∨ q = 111 ∨ q = 112 ∨ q = (a2 + 22)) ∨ I4 q j = I q j) → (∀ q j : Nat, ((q = a3 ∧ j = 9)) ∨ J5 q j = J q j) → ((0 ≤ a1 ∧ a1 ≤ 7) ∧ (0 ≤ v4_6 ∧ v4_6 ≤ 100) ∧ (1 ≤ I4 100 17) ∧ (I4 100 9 = I 100 9)) → (gc_QU I4) → gv_X (gc_E1 ws0 tb 4 (yX1_search, cX1_search, 5, (some .int)) kX1_search) (gv_Q cX1_search (some .int) sh (fun r hₚ => (∃ (Iₚ : gr_I) (Jₚ : gr_J), hₚ = gc_h sh Iₚ Jₚ A ∧ gc_Inv ro Iₚ ∧ (∀ q j : Nat, ((q = 100 ∧ j = 14) ∨ (q = 100 ∧ j = 17) ∨ q = 113 ∨ (q = a3 ∧ j = 5) ∨ (q = a3 ∧ j = 6) ∨ (q = a3 ∧ j = 7) ∨ (q = a3 ∧ j = 8) ∨ (q = 106 ∧ j = 1) ∨ q = 107 ∨ (q = 106 ∧ j = 4) ∨ q = 108 ∨ q = 109 ∨ q = 110 ∨ q = 111 ∨ q = 112 ∨ q = (a2 + 22)) ∨ Iₚ q j = I q j) ∧ (∀ q j : Nat, ((q = a3 ∧ j = 9)) ∨ Jₚ q j = J q j) ∧ (∃ z : Int, r = some (.inl z) ∧ (-3) ≤ z ∧ z ≤ 2400)))) (19, [(0, .inr (.inr (some 100))), (1, .inl a1), (2, .inr (.inr (some a2))), (3, .inr (.inr (some a3))), (4, .inl v4_6)], [], sh, gc_h sh I4 J5 A) := by
    intro n9
    induction n9 with
    | zero => intro I4 J5 v4_6 hn; (/-1-/first | omega | (simp only [gz_hd] at *; omega))
    | succ n9 ih19 =>
      intro I4 J5 v4_6 hn hI4 FI4 FJ5 m_6 e0_6
      obtain ⟨ha1_6, hv4_6, e1_6, e2_6⟩ := gz_h4 m_6
      have f7 := gz_hi ((gc_b_75_17 hI4 (gz_sh R_100)))
      have f9 := gz_hi ((gc_b_75_14 hI4 (gz_sh R_100)))
      have L96 : ∀ (I10 : gr_I) (J11 : gr_J) , gc_Inv ro I10 → (∀ q j : Nat, ((q = 100 ∧ j = 14) ∨ (q = 100 ∧ j = 17) ∨ q = 113 ∨ (q = a3 ∧ j = 5) ∨ (q = a3 ∧ j = 6) ∨ (q = a3 ∧ j = 7) ∨ (q = a3 ∧ j = 8) ∨ (q = 106 ∧ j = 1) ∨ q = 107 ∨ (q = 106 ∧ j = 4) ∨ q = 108 ∨ q = 109 ∨ q = 110 ∨ q = 111 ∨ q = 112 ∨ q = (a2 + 22)) ∨ I10 q j = I q j) → (∀ q j : Nat, ((q = a3 ∧ j = 9)) ∨ J11 q j = J q j) → ((0 ≤ a1 ∧ a1 ≤ 7) ∧ (0 ≤ v4_6 ∧ v4_6 ≤ 99) ∧ (1 ≤ I10 100 17) ∧ (I10 100 9 = I 100 9) ∧ (v4_6 ≤ 99)) → (gc_QU I10) → gv_X (gc_E1 ws0 tb 4 (yX1_search, cX1_search, 5, (some .int)) kX1_search) (gv_Q cX1_search (some .int) sh (fun r hₚ => (∃ (Iₚ : gr_I) (Jₚ : gr_J), hₚ = gc_h sh Iₚ Jₚ A ∧ gc_Inv ro Iₚ ∧ (∀ q j : Nat, ((q = 100 ∧ j = 14) ∨ (q = 100 ∧ j = 17) ∨ q = 113 ∨ (q = a3 ∧ j = 5) ∨ (q = a3 ∧ j = 6) ∨ (q = a3 ∧ j = 7) ∨ (q = a3 ∧ j = 8) ∨ (q = 106 ∧ j = 1) ∨ q = 107 ∨ (q = 106 ∧ j = 4) ∨ q = 108 ∨ q = 109 ∨ q = 110 ∨ q = 111 ∨ q = 112 ∨ q = (a2 + 22)) ∨ Iₚ q j = I q j) ∧ (∀ q j : Nat, ((q = a3 ∧ j = 9)) ∨ Jₚ q j = J q j) ∧ (∃ z : Int, r = some (.inl z) ∧ (-3) ≤ z ∧ z ≤ 2400)))) (96, [(0, .inr (.inr (some 100))), (1, .inl a1), (2, .inr (.inr (some a2))), (3, .inr (.inr (some a3))), (4, .inl v4_6)], [], sh, gc_h sh I10 J11 A) := by
        intro I10 J11 hI10 FI10 FJ11 m_12 e0_12
        clear ha1_6 hv4_6 e1_6 e2_6 f7 f9
        obtain ⟨ha1_12, hv4_6_12, e1_12, e2_12, e3_12⟩ := gz_h5 m_12
        have f13 := gz_hi ((gc_b_75_17 hI10 (gz_sh R_100)))
        refine gv_run 2 true hD (pcₚ := 19) (lvₚ := [(4, .inl (v4_6 + 1)), (0, .inr (.inr (some 100))), (1, .inl a1), (2, .inr (.inr (some a2))), (3, .inr (.inr (some a3)))]) (stₚ := []) (hₚ := gc_h sh I10 J11 A) (C := ((True ∧ True) ∧ True)) rfl ⟨⟨trivial, trivial⟩, trivial⟩ ?_
        refine gv_pick [1, 2, 3, 4, 0] rfl ?_
        exact ih19 I10 J11 (v4_6 + 1) (by (/-2-/first | (have o1 := gz_sh hv4_6_12; omega) | (simp only [gz_hd] at *; omega))) hI10 FI10 FJ11 (by (/-3-/first | (and_intros; (omega); (omega); (have o1 := gz_sh hv4_6_12; omega); (have o1 := gz_sh hv4_6_12; omega); (have o1 := gz_sh e1_12; omega); (have o1 := gz_sh e2_12; omega)) | (simp only [gz_hd] at *; omega))) e0_12
      refine gv_run 2 true hD (pcₚ := 22) (lvₚ := [(0, .inr (.inr (some 100))), (1, .inl a1), (2, .inr (.inr (some a2))), (3, .inr (.inr (some a3))), (4, .inl v4_6)]) (stₚ := [.inr (.inr (some 100)), .inl v4_6]) (hₚ := gc_h sh I4 J5 A) (C := ((True ∧ True) ∧ True)) rfl ⟨⟨trivial, trivial⟩, trivial⟩ ?_
      refine gv_get hD rfl rfl S_100 ⟨by decide, (gz_sh B_100)⟩ (gc_hI S_100 rfl) ?_
      show gv_X _ _ (25, [(0, .inr (.inr (some 100))), (1, .inl a1), (2, .inr (.inr (some a2))), (3, .inr (.inr (some a3))), (4, .inl v4_6)], [.inl (I4 100 9), .inl v4_6], sh, gc_h sh I4 J5 A)
      refine gv_icmp_ge (t := 102) hD rfl rfl ⟨⟨by (/-4-/first | (have o1 := gz_sh hv4_6; omega) | (simp only [gz_hd] at *; omega)), by (/-5-/first | (have o1 := gz_sh hv4_6; omega) | (simp only [gz_hd] at *; omega))⟩, ⟨by (/-6-/first | (have o1 := gz_sh e2_6; have o2 := gz_sh f2; omega) | (simp only [gz_hd] at *; omega)), by (/-7-/first | (have o1 := gz_sh e2_6; have o2 := gz_sh f2; omega) | (simp only [gz_hd] at *; omega))⟩⟩ (fun c17 => ?_) (fun c17 => ?_)
      · show gv_X _ _ (102, [(0, .inr (.inr (some 100))), (1, .inl a1), (2, .inr (.inr (some a2))), (3, .inr (.inr (some a3))), (4, .inl v4_6)], [], sh, gc_h sh I4 J5 A)
        refine gv_run 1 true hD (pcₚ := 103) (lvₚ := [(0, .inr (.inr (some 100))), (1, .inl a1), (2, .inr (.inr (some a2))), (3, .inr (.inr (some a3))), (4, .inl v4_6)]) (stₚ := [.inr (.inr (some 100))]) (hₚ := gc_h sh I4 J5 A) (C := (True ∧ True)) rfl ⟨trivial, trivial⟩ ?_
        refine gv_get hD rfl rfl S_100 ⟨by decide, (gz_sh B_100)⟩ (gc_hI S_100 rfl) ?_
        show gv_X _ _ (106, [(0, .inr (.inr (some 100))), (1, .inl a1), (2, .inr (.inr (some a2))), (3, .inr (.inr (some a3))), (4, .inl v4_6)], [.inl (I4 100 14)], sh, gc_h sh I4 J5 A)
        exact gv_iret hD rfl ⟨I4, J5, rfl, hI4, FI4, FJ5, ⟨_, rfl, by (/-8-/first | (and_intros; (have o1 := gz_sh f9; omega); (have o1 := gz_sh f9; omega)) | (simp only [gz_hd] at *; omega))⟩⟩
      · show gv_X _ _ (28, [(0, .inr (.inr (some 100))), (1, .inl a1), (2, .inr (.inr (some a2))), (3, .inr (.inr (some a3))), (4, .inl v4_6)], [], sh, gc_h sh I4 J5 A)
        refine gv_run 1 true hD (pcₚ := 29) (lvₚ := [(0, .inr (.inr (some 100))), (1, .inl a1), (2, .inr (.inr (some a2))), (3, .inr (.inr (some a3))), (4, .inl v4_6)]) (stₚ := [.inr (.inr (some 100))]) (hₚ := gc_h sh I4 J5 A) (C := (True ∧ True)) rfl ⟨trivial, trivial⟩ ?_
        refine gv_get hD rfl rfl S_100 ⟨by decide, (gz_sh B_100)⟩ (gc_hA S_100 rfl A_100_11) ?_
        show gv_X _ _ (32, [(0, .inr (.inr (some 100))), (1, .inl a1), (2, .inr (.inr (some a2))), (3, .inr (.inr (some a3))), (4, .inl v4_6)], [.inr (.inr (some 105))], sh, gc_h sh I4 J5 A)
        refine gv_run 1 true hD (pcₚ := 34) (lvₚ := [(0, .inr (.inr (some 100))), (1, .inl a1), (2, .inr (.inr (some a2))), (3, .inr (.inr (some a3))), (4, .inl v4_6)]) (stₚ := [.inl v4_6, .inr (.inr (some 105))]) (hₚ := gc_h sh I4 J5 A) (C := (True ∧ True)) rfl ⟨trivial, trivial⟩ ?_
        have f19 := gz_hi ((gc_b_59 hI4 (gz_sh R_105) (Int.toNat v4_6)))
        refine gv_iald hD rfl S_105 rfl ⟨by decide, (gz_sh B_105)⟩ ⟨by (/-9-/first | (have o1 := gz_sh hv4_6; omega) | (simp only [gz_hd] at *; omega)), by (/-10-/first | (have o1 := gz_sh e2_6; have o2 := gz_sh f2; omega) | (simp only [gz_hd] at *; omega))⟩ (gc_iI S_105 rfl) ?_
        show gv_X _ _ (35, [(0, .inr (.inr (some 100))), (1, .inl a1), (2, .inr (.inr (some a2))), (3, .inr (.inr (some a3))), (4, .inl v4_6)], [.inl (I4 105 (Int.toNat v4_6))], sh, gc_h sh I4 J5 A)
        refine gv_run 1 true hD (pcₚ := 36) (lvₚ := [(0, .inr (.inr (some 100))), (1, .inl a1), (2, .inr (.inr (some a2))), (3, .inr (.inr (some a3))), (4, .inl v4_6)]) (stₚ := [.inl a1, .inl (I4 105 (Int.toNat v4_6))]) (hₚ := gc_h sh I4 J5 A) (C := (True ∧ True)) rfl ⟨trivial, trivial⟩ ?_
        refine gv_icmp_ne (t := 96) hD rfl rfl ⟨⟨by (/-11-/first | (have o1 := gz_sh f19; omega) | (simp only [gz_hd] at *; omega)), by (/-12-/first | (have o1 := gz_sh f19; omega) | (simp only [gz_hd] at *; omega))⟩, ⟨by (/-13-/first | omega | (simp only [gz_hd] at *; omega)), by (/-14-/first | omega | (simp only [gz_hd] at *; omega))⟩⟩ (fun c20 => ?_) (fun c20 => ?_)
        · show gv_X _ _ (96, [(0, .inr (.inr (some 100))), (1, .inl a1), (2, .inr (.inr (some a2))), (3, .inr (.inr (some a3))), (4, .inl v4_6)], [], sh, gc_h sh I4 J5 A)
          exact L96 I4 J5 hI4 FI4 FJ5 (by (/-15-/first | (and_intros; (omega); (omega); (have o1 := gz_sh hv4_6; omega); (have o1 := gz_sh e2_6; have o2 := gz_sh f2; omega); (have o1 := gz_sh e1_6; omega); (have o1 := gz_sh e2_6; omega); (have o1 := gz_sh e2_6; have o2 := gz_sh f2; omega)) | (simp only [gz_hd] at *; omega))) e0_6
        · show gv_X _ _ (39, [(0, .inr (.inr (some 100))), (1, .inl a1), (2, .inr (.inr (some a2))), (3, .inr (.inr (some a3))), (4, .inl v4_6)], [], sh, gc_h sh I4 J5 A)
          refine gv_run 1 true hD (pcₚ := 40) (lvₚ := [(0, .inr (.inr (some 100))), (1, .inl a1), (2, .inr (.inr (some a2))), (3, .inr (.inr (some a3))), (4, .inl v4_6)]) (stₚ := [.inr (.inr (some 100))]) (hₚ := gc_h sh I4 J5 A) (C := (True ∧ True)) rfl ⟨trivial, trivial⟩ ?_
          refine gv_get hD rfl rfl S_100 ⟨by decide, (gz_sh B_100)⟩ (gc_hA S_100 rfl A_100_10) ?_
          show gv_X _ _ (43, [(0, .inr (.inr (some 100))), (1, .inl a1), (2, .inr (.inr (some a2))), (3, .inr (.inr (some a3))), (4, .inl v4_6)], [.inr (.inr (some 104))], sh, gc_h sh I4 J5 A)
          refine gv_run 1 true hD (pcₚ := 45) (lvₚ := [(0, .inr (.inr (some 100))), (1, .inl a1), (2, .inr (.inr (some a2))), (3, .inr (.inr (some a3))), (4, .inl v4_6)]) (stₚ := [.inl v4_6, .inr (.inr (some 104))]) (hₚ := gc_h sh I4 J5 A) (C := (True ∧ True)) rfl ⟨trivial, trivial⟩ ?_
          obtain ⟨t21_, n9t21, A_t21, S_t21, R_t21, B_t21, L_t21, G_t21⟩ := x0 (Int.toNat v4_6) (by (/-16-/first | (have o1 := gz_sh e2_6; have o2 := gz_sh hv4_6; omega) | (simp only [gz_hd] at *; omega)))
          refine gv_aald hD rfl S_104 ⟨by decide, by decide⟩ ⟨by decide, (gz_sh B_104)⟩ ⟨by (/-17-/first | (have o1 := gz_sh hv4_6; omega) | (simp only [gz_hd] at *; omega)), by (/-18-/first | (have o1 := gz_sh e2_6; have o2 := gz_sh f2; omega) | (simp only [gz_hd] at *; omega))⟩ ((gc_aA S_104 rfl).trans A_t21) ?_
          show gv_X _ _ (46, [(0, .inr (.inr (some 100))), (1, .inl a1), (2, .inr (.inr (some a2))), (3, .inr (.inr (some a3))), (4, .inl v4_6)], [.inr (.inr (some t21_))], sh, gc_h sh I4 J5 A)
          refine gv_run 2 true hD (pcₚ := 50) (lvₚ := [(0, .inr (.inr (some 100))), (1, .inl a1), (2, .inr (.inr (some a2))), (3, .inr (.inr (some a3))), (4, .inl v4_6)]) (stₚ := [.inr (.inr (some 100))]) (hₚ := gc_h sh I4 J5 A) (C := ((True ∧ True) ∧ True)) rfl ⟨⟨trivial, trivial⟩, trivial⟩ ?_
          refine gv_get hD rfl rfl S_100 ⟨by decide, (gz_sh B_100)⟩ (gc_hA S_100 rfl A_100_12) ?_
          show gv_X _ _ (53, [(0, .inr (.inr (some 100))), (1, .inl a1), (2, .inr (.inr (some a2))), (3, .inr (.inr (some a3))), (4, .inl v4_6)], [.inr (.inr (some 106))], sh, gc_h sh I4 J5 A)
          refine gv_run 1 true hD (pcₚ := 54) (lvₚ := [(0, .inr (.inr (some 100))), (1, .inl a1), (2, .inr (.inr (some a2))), (3, .inr (.inr (some a3))), (4, .inl v4_6)]) (stₚ := [.inl 0, .inr (.inr (some 106))]) (hₚ := gc_h sh I4 J5 A) (C := (True ∧ True)) rfl ⟨trivial, trivial⟩ ?_
          refine gv_put hD rfl rfl S_106 ⟨by decide, (gz_sh B_106)⟩ rfl trivial ?_
          refine gc_st (k := 1) hI4 S_106 rfl (gz_sh R_106) (lo := 0) (hi := 1000) rfl rfl (by (/-19-/first | omega | (simp only [gz_hd] at *; omega))) (by (/-20-/first | omega | (simp only [gz_hd] at *; omega))) (fun I22 hI22 q23 p23 => ?_)
          have FI22 := gc_frs (W := fun q j => (q = 100 ∧ j = 14) ∨ (q = 100 ∧ j = 17) ∨ q = 113 ∨ (q = a3 ∧ j = 5) ∨ (q = a3 ∧ j = 6) ∨ (q = a3 ∧ j = 7) ∨ (q = a3 ∧ j = 8) ∨ (q = 106 ∧ j = 1) ∨ q = 107 ∨ (q = 106 ∧ j = 4) ∨ q = 108 ∨ q = 109 ∨ q = 110 ∨ q = 111 ∨ q = 112 ∨ q = (a2 + 22)) FI4 (Or.inr (Or.inr (Or.inr (Or.inr (Or.inr (Or.inr (Or.inr (Or.inl ⟨rfl, rfl⟩)))))))) p23
          have t24 := gz_hi (p23 100 17 (fun h => absurd h.2 (by first | exact gz_ne rfl | decide)))
          have t25 := gz_hi (p23 100 9 (fun h => absurd h.2 (by first | exact gz_ne rfl | decide)))
          show gv_X _ _ (57, [(0, .inr (.inr (some 100))), (1, .inl a1), (2, .inr (.inr (some a2))), (3, .inr (.inr (some a3))), (4, .inl v4_6)], [], sh, gc_h sh I22 J5 A)
          refine gv_run 1 true hD (pcₚ := 58) (lvₚ := [(0, .inr (.inr (some 100))), (1, .inl a1), (2, .inr (.inr (some a2))), (3, .inr (.inr (some a3))), (4, .inl v4_6)]) (stₚ := [.inr (.inr (some 100))]) (hₚ := gc_h sh I22 J5 A) (C := (True ∧ True)) rfl ⟨trivial, trivial⟩ ?_
          refine gv_get hD rfl rfl S_100 ⟨by decide, (gz_sh B_100)⟩ (gc_hA S_100 rfl A_100_12) ?_
          show gv_X _ _ (61, [(0, .inr (.inr (some 100))), (1, .inl a1), (2, .inr (.inr (some a2))), (3, .inr (.inr (some a3))), (4, .inl v4_6)], [.inr (.inr (some 106))], sh, gc_h sh I22 J5 A)
          refine gv_run 1 true hD (pcₚ := 62) (lvₚ := [(0, .inr (.inr (some 100))), (1, .inl a1), (2, .inr (.inr (some a2))), (3, .inr (.inr (some a3))), (4, .inl v4_6)]) (stₚ := [.inr (.inr (some 100)), .inr (.inr (some 106))]) (hₚ := gc_h sh I22 J5 A) (C := (True ∧ True)) rfl ⟨trivial, trivial⟩ ?_
          refine gv_get hD rfl rfl S_100 ⟨by decide, (gz_sh B_100)⟩ (gc_hA S_100 rfl A_100_10) ?_
          show gv_X _ _ (65, [(0, .inr (.inr (some 100))), (1, .inl a1), (2, .inr (.inr (some a2))), (3, .inr (.inr (some a3))), (4, .inl v4_6)], [.inr (.inr (some 104)), .inr (.inr (some 106))], sh, gc_h sh I22 J5 A)
          refine gv_run 1 true hD (pcₚ := 67) (lvₚ := [(0, .inr (.inr (some 100))), (1, .inl a1), (2, .inr (.inr (some a2))), (3, .inr (.inr (some a3))), (4, .inl v4_6)]) (stₚ := [.inl v4_6, .inr (.inr (some 104)), .inr (.inr (some 106))]) (hₚ := gc_h sh I22 J5 A) (C := (True ∧ True)) rfl ⟨trivial, trivial⟩ ?_
          obtain ⟨t27_, n9t27, A_t27, S_t27, R_t27, B_t27, L_t27, G_t27⟩ := x0 (Int.toNat v4_6) (by (/-21-/first | (have o1 := gz_sh e2_6; have o2 := gz_sh hv4_6; omega) | (simp only [gz_hd] at *; omega)))
          refine gv_aald hD rfl S_104 ⟨by decide, by decide⟩ ⟨by decide, (gz_sh B_104)⟩ ⟨by (/-22-/first | (have o1 := gz_sh hv4_6; omega) | (simp only [gz_hd] at *; omega)), by (/-23-/first | (have o1 := gz_sh e2_6; have o2 := gz_sh f2; omega) | (simp only [gz_hd] at *; omega))⟩ ((gc_aA S_104 rfl).trans A_t27) ?_
          show gv_X _ _ (68, [(0, .inr (.inr (some 100))), (1, .inl a1), (2, .inr (.inr (some a2))), (3, .inr (.inr (some a3))), (4, .inl v4_6)], [.inr (.inr (some t27_)), .inr (.inr (some 106))], sh, gc_h sh I22 J5 A)
          refine gv_run 2 true hD (pcₚ := 70) (lvₚ := [(0, .inr (.inr (some 100))), (1, .inl a1), (2, .inr (.inr (some a2))), (3, .inr (.inr (some a3))), (4, .inl v4_6)]) (stₚ := [.inr (.inr (some 100)), .inl 0, .inr (.inr (some t27_)), .inr (.inr (some 106))]) (hₚ := gc_h sh I22 J5 A) (C := ((True ∧ True) ∧ True)) rfl ⟨⟨trivial, trivial⟩, trivial⟩ ?_
          refine gv_get hD rfl rfl S_100 ⟨by decide, (gz_sh B_100)⟩ (gc_hA S_100 rfl A_100_10) ?_
          show gv_X _ _ (73, [(0, .inr (.inr (some 100))), (1, .inl a1), (2, .inr (.inr (some a2))), (3, .inr (.inr (some a3))), (4, .inl v4_6)], [.inr (.inr (some 104)), .inl 0, .inr (.inr (some t27_)), .inr (.inr (some 106))], sh, gc_h sh I22 J5 A)
          refine gv_run 1 true hD (pcₚ := 75) (lvₚ := [(0, .inr (.inr (some 100))), (1, .inl a1), (2, .inr (.inr (some a2))), (3, .inr (.inr (some a3))), (4, .inl v4_6)]) (stₚ := [.inl v4_6, .inr (.inr (some 104)), .inl 0, .inr (.inr (some t27_)), .inr (.inr (some 106))]) (hₚ := gc_h sh I22 J5 A) (C := (True ∧ True)) rfl ⟨trivial, trivial⟩ ?_
          obtain ⟨t28_, n9t28, A_t28, S_t28, R_t28, B_t28, L_t28, G_t28⟩ := x0 (Int.toNat v4_6) (by (/-24-/first | (have o1 := gz_sh e2_6; have o2 := gz_sh hv4_6; omega) | (simp only [gz_hd] at *; omega)))
          refine gv_aald hD rfl S_104 ⟨by decide, by decide⟩ ⟨by decide, (gz_sh B_104)⟩ ⟨by (/-25-/first | (have o1 := gz_sh hv4_6; omega) | (simp only [gz_hd] at *; omega)), by (/-26-/first | (have o1 := gz_sh e2_6; have o2 := gz_sh f2; omega) | (simp only [gz_hd] at *; omega))⟩ ((gc_aA S_104 rfl).trans A_t28) ?_
          show gv_X _ _ (76, [(0, .inr (.inr (some 100))), (1, .inl a1), (2, .inr (.inr (some a2))), (3, .inr (.inr (some a3))), (4, .inl v4_6)], [.inr (.inr (some t28_)), .inl 0, .inr (.inr (some t27_)), .inr (.inr (some 106))], sh, gc_h sh I22 J5 A)
          refine gv_len hD rfl S_t28 ⟨by (/-27-/first | omega | (simp only [gz_hd] at *; omega)), B_t28⟩ ?_
          show gv_X _ _ (77, [(0, .inr (.inr (some 100))), (1, .inl a1), (2, .inr (.inr (some a2))), (3, .inr (.inr (some a3))), (4, .inl v4_6)], [.inl ((n9t28 : Nat) : Int), .inl 0, .inr (.inr (some t27_)), .inr (.inr (some 106))], sh, gc_h sh I22 J5 A)
          obtain ⟨r29, h29, E29, P29⟩ := d_X9_putBytes (ws0 := ws0) (tb := tb) hws htb sh ro I22 J5 A hI22 106 n9t27 t27_ 0 (((n9t28 : Nat) : Int)) (gc_b106 hb) S_t27 R_t27 B_t27 (by (/-28-/first | omega | (simp only [gz_hd] at *; omega)))  ⟨by (/-29-/first | omega | (simp only [gz_hd] at *; omega)), by (/-30-/first | omega | (simp only [gz_hd] at *; omega))⟩ ⟨by (/-31-/first | omega | (simp only [gz_hd] at *; omega)), by (/-32-/first | omega | (simp only [gz_hd] at *; omega))⟩  
          obtain ⟨I30, J31, rfl, hI30, g29, k29, rfl⟩ := P29
          have FI30 := gc_frc (W := fun q j => (q = 100 ∧ j = 14) ∨ (q = 100 ∧ j = 17) ∨ q = 113 ∨ (q = a3 ∧ j = 5) ∨ (q = a3 ∧ j = 6) ∨ (q = a3 ∧ j = 7) ∨ (q = a3 ∧ j = 8) ∨ (q = 106 ∧ j = 1) ∨ q = 107 ∨ (q = 106 ∧ j = 4) ∨ q = 108 ∨ q = 109 ∨ q = 110 ∨ q = 111 ∨ q = 112 ∨ q = (a2 + 22)) (V := fun q j => (q = 106 ∧ j = 1) ∨ q = 107) FI22 (fun q j h => (h.elim (fun h => (Or.inr (Or.inr (Or.inr (Or.inr (Or.inr (Or.inr (Or.inr (Or.inl h))))))))) (fun h => (Or.inr (Or.inr (Or.inr (Or.inr (Or.inr (Or.inr (Or.inr (Or.inr (Or.inl h)))))))))))) g29
          have t32 := gz_hi ((g29 100 17).resolve_left (fun h => h.elim (fun h => absurd h.2 (by first | exact gz_ne rfl | decide)) (fun h => absurd h (by first | exact gz_ne rfl | decide))))
          have t33 := gz_hi ((g29 100 9).resolve_left (fun h => h.elim (fun h => absurd h.2 (by first | exact gz_ne rfl | decide)) (fun h => absurd h (by first | exact gz_ne rfl | decide))))
          obtain rfl : J5 = J31 := funext fun q => funext fun j => ((k29 q j).resolve_left id).symm
          refine gv_callV hD rfl (As := [.inr (.inr (some t27_)), .inl 0, .inl ((n9t28 : Nat) : Int)]) (st := []) rfl (gz_sh B_106) S_106 rfl (gc_lV1 hws rfl) (Nat.le_of_ble_eq_true rfl) (gz_Ev_mono (d := 2) (by decide) E29) ?_
          show gv_X _ _ (80, [(0, .inr (.inr (some 100))), (1, .inl a1), (2, .inr (.inr (some a2))), (3, .inr (.inr (some a3))), (4, .inl v4_6)], [], sh, gc_h sh I30 J5 A)
          refine gv_run 1 true hD (pcₚ := 81) (lvₚ := [(0, .inr (.inr (some 100))), (1, .inl a1), (2, .inr (.inr (some a2))), (3, .inr (.inr (some a3))), (4, .inl v4_6)]) (stₚ := [.inr (.inr (some 100))]) (hₚ := gc_h sh I30 J5 A) (C := (True ∧ True)) rfl ⟨trivial, trivial⟩ ?_
          refine gv_get hD rfl rfl S_100 ⟨by decide, (gz_sh B_100)⟩ (gc_hA S_100 rfl A_100_12) ?_
          show gv_X _ _ (84, [(0, .inr (.inr (some 100))), (1, .inl a1), (2, .inr (.inr (some a2))), (3, .inr (.inr (some a3))), (4, .inl v4_6)], [.inr (.inr (some 106))], sh, gc_h sh I30 J5 A)
          obtain ⟨r35, h35, E35, P35⟩ := d_X9_split (ws0 := ws0) (tb := tb) hws htb sh ro I30 J5 A hI30 106  (gc_b106 hb)     
          obtain ⟨I36, J37, rfl, hI36, g35, k35, ⟨z35, rfl, q35⟩⟩ := P35
          replace q35 := gz_hi q35
          have FI36 := gc_frc (W := fun q j => (q = 100 ∧ j = 14) ∨ (q = 100 ∧ j = 17) ∨ q = 113 ∨ (q = a3 ∧ j = 5) ∨ (q = a3 ∧ j = 6) ∨ (q = a3 ∧ j = 7) ∨ (q = a3 ∧ j = 8) ∨ (q = 106 ∧ j = 1) ∨ q = 107 ∨ (q = 106 ∧ j = 4) ∨ q = 108 ∨ q = 109 ∨ q = 110 ∨ q = 111 ∨ q = 112 ∨ q = (a2 + 22)) (V := fun q j => (q = 106 ∧ j = 4) ∨ q = 108 ∨ q = 109) FI30 (fun q j h => (h.elim (fun h => (Or.inr (Or.inr (Or.inr (Or.inr (Or.inr (Or.inr (Or.inr (Or.inr (Or.inr (Or.inl h))))))))))) (fun h => (h.elim (fun h => (Or.inr (Or.inr (Or.inr (Or.inr (Or.inr (Or.inr (Or.inr (Or.inr (Or.inr (Or.inr (Or.inl h)))))))))))) (fun h => (Or.inr (Or.inr (Or.inr (Or.inr (Or.inr (Or.inr (Or.inr (Or.inr (Or.inr (Or.inr (Or.inr (Or.inl h))))))))))))))))) g35
          have t38 := gz_hi ((g35 100 17).resolve_left (fun h => h.elim (fun h => absurd h.2 (by first | exact gz_ne rfl | decide)) (fun h => h.elim (fun h => absurd h (by first | exact gz_ne rfl | decide)) (fun h => absurd h (by first | exact gz_ne rfl | decide)))))
          have t39 := gz_hi ((g35 100 9).resolve_left (fun h => h.elim (fun h => absurd h.2 (by first | exact gz_ne rfl | decide)) (fun h => h.elim (fun h => absurd h (by first | exact gz_ne rfl | decide)) (fun h => absurd h (by first | exact gz_ne rfl | decide)))))
          obtain rfl : J5 = J37 := funext fun q => funext fun j => ((k35 q j).resolve_left id).symm
          refine gv_callV hD rfl (As := []) (st := []) rfl (gz_sh B_106) S_106 rfl (gc_lV1 hws rfl) (Nat.le_of_ble_eq_true rfl) (gz_Ev_mono (d := 2) (by decide) E35) ?_
          show gv_X _ _ (87, [(0, .inr (.inr (some 100))), (1, .inl a1), (2, .inr (.inr (some a2))), (3, .inr (.inr (some a3))), (4, .inl v4_6)], [.inl z35], sh, gc_h sh I36 J5 A)
          refine gv_run 5 true hD (pcₚ := 93) (lvₚ := [(0, .inr (.inr (some 100))), (1, .inl a1), (2, .inr (.inr (some a2))), (3, .inr (.inr (some a3))), (4, .inl v4_6)]) (stₚ := [.inr (.inr (some a3)), .inr (.inr (some a2)), .inl v4_6, .inr (.inr (some 100))]) (hₚ := gc_h sh I36 J5 A) (C := (((((True ∧ True) ∧ True) ∧ True) ∧ True) ∧ True)) rfl ⟨⟨⟨⟨⟨trivial, trivial⟩, trivial⟩, trivial⟩, trivial⟩, trivial⟩ ?_
          obtain ⟨r41, h41, E41, P41⟩ := d_X1_searchWords (ws0 := ws0) (tb := tb) hws htb sh ro I36 J5 A hI36  v4_6 a2 a3 hb h_a2 G_a2 h_a3 G_a3  ⟨by (/-33-/first | (have o1 := gz_sh hv4_6; omega) | (simp only [gz_hd] at *; omega)), by (/-34-/first | (have o1 := gz_sh e2_6; have o2 := gz_sh f2; omega) | (simp only [gz_hd] at *; omega))⟩ (gz_sh q35).2.2.1 (gc_QU_fr e0_6 (((((g35 100 17).resolve_left (by (/-35-/first | omega | (simp only [gz_hd] at *; omega)))).trans ((g29 100 17).resolve_left (by (/-36-/first | omega | (simp only [gz_hd] at *; omega))))).trans (p23 100 17 (fun h => absurd h.1 (by (/-37-/first | omega | (simp only [gz_hd] at *; omega))))))) (fun k => ((((g35 113 k).resolve_left (by (/-38-/first | omega | (simp only [gz_hd] at *; omega)))).trans ((g29 113 k).resolve_left (by (/-39-/first | omega | (simp only [gz_hd] at *; omega))))).trans (p23 113 k (fun h => absurd h.1 (by (/-40-/first | omega | (simp only [gz_hd] at *; omega)))))))) (by (/-41-/first | (have o1 := gz_sh e1_6; have o2 := gz_sh t24; have o3 := gz_sh t32; have o4 := gz_sh t38; omega) | (simp only [gz_hd] at *; omega))) 
          obtain ⟨I42, J43, rfl, hI42, g41, k41, rfl⟩ := P41
          have FI42 := gc_frc (W := fun q j => (q = 100 ∧ j = 14) ∨ (q = 100 ∧ j = 17) ∨ q = 113 ∨ (q = a3 ∧ j = 5) ∨ (q = a3 ∧ j = 6) ∨ (q = a3 ∧ j = 7) ∨ (q = a3 ∧ j = 8) ∨ (q = 106 ∧ j = 1) ∨ q = 107 ∨ (q = 106 ∧ j = 4) ∨ q = 108 ∨ q = 109 ∨ q = 110 ∨ q = 111 ∨ q = 112 ∨ q = (a2 + 22)) (V := fun q j => q = 110 ∨ q = 111 ∨ q = 112 ∨ (q = 100 ∧ j = 14) ∨ q = (a2 + 22)) FI36 (fun q j h => (h.elim (fun h => (Or.inr (Or.inr (Or.inr (Or.inr (Or.inr (Or.inr (Or.inr (Or.inr (Or.inr (Or.inr (Or.inr (Or.inr (Or.inl h)))))))))))))) (fun h => (h.elim (fun h => (Or.inr (Or.inr (Or.inr (Or.inr (Or.inr (Or.inr (Or.inr (Or.inr (Or.inr (Or.inr (Or.inr (Or.inr (Or.inr (Or.inl h))))))))))))))) (fun h => (h.elim (fun h => (Or.inr (Or.inr (Or.inr (Or.inr (Or.inr (Or.inr (Or.inr (Or.inr (Or.inr (Or.inr (Or.inr (Or.inr (Or.inr (Or.inr (Or.inl h)))))))))))))))) (fun h => (h.elim (fun h => (Or.inl h)) (fun h => (Or.inr (Or.inr (Or.inr (Or.inr (Or.inr (Or.inr (Or.inr (Or.inr (Or.inr (Or.inr (Or.inr (Or.inr (Or.inr (Or.inr (Or.inr h)))))))))))))))))))))))) g41
          have t44 := gz_hi ((g41 100 17).resolve_left (fun h => h.elim (fun h => absurd h (by first | exact gz_ne rfl | decide)) (fun h => h.elim (fun h => absurd h (by first | exact gz_ne rfl | decide)) (fun h => h.elim (fun h => absurd h (by first | exact gz_ne rfl | decide)) (fun h => h.elim (fun h => absurd h.2 (by first | exact gz_ne rfl | decide)) (fun h => absurd h (gz_sh N_100__a2_22)))))))
          have t45 := gz_hi ((g41 100 9).resolve_left (fun h => h.elim (fun h => absurd h (by first | exact gz_ne rfl | decide)) (fun h => h.elim (fun h => absurd h (by first | exact gz_ne rfl | decide)) (fun h => h.elim (fun h => absurd h (by first | exact gz_ne rfl | decide)) (fun h => h.elim (fun h => absurd h.2 (by first | exact gz_ne rfl | decide)) (fun h => absurd h (gz_sh N_100__a2_22)))))))
          obtain rfl : J5 = J43 := funext fun q => funext fun j => ((k41 q j).resolve_left id).symm
          refine gv_callV hD rfl (As := [.inl v4_6, .inr (.inr (some a2)), .inr (.inr (some a3))]) (st := []) rfl (gz_sh B_100) S_100 rfl (gc_lV1 hws rfl) (Nat.le_of_ble_eq_true rfl) (gz_Ev_mono (d := 4) (by decide) E41) ?_
          show gv_X _ _ (96, [(0, .inr (.inr (some 100))), (1, .inl a1), (2, .inr (.inr (some a2))), (3, .inr (.inr (some a3))), (4, .inl v4_6)], [], sh, gc_h sh I42 J5 A)
          exact L96 I42 J5 hI42 FI42 FJ5 (by (/-42-/first | (and_intros; (have o1 := gz_sh f19; omega); (have o1 := gz_sh f19; omega); (have o1 := gz_sh hv4_6; omega); (have o1 := gz_sh e2_6; have o2 := gz_sh f2; omega); (have o1 := gz_sh e1_6; have o2 := gz_sh t24; have o3 := gz_sh t32; have o4 := gz_sh t38; have o5 := gz_sh t44; omega); (have o1 := gz_sh e2_6; have o2 := gz_sh t25; have o3 := gz_sh t33; have o4 := gz_sh t39; have o5 := gz_sh t45; omega); (have o1 := gz_sh e2_6; have o2 := gz_sh f2; omega)) | (simp only [gz_hd] at *; omega))) (gc_QU_fr e0_6 ((((((g41 100 17).resolve_left (by (/-43-/first | (have o1 := gz_sh B_a2; have o2 := gz_sh B_a2_10; have o3 := gz_sh B_a2_13; have o4 := gz_sh B_a2_14; have o5 := gz_sh B_a2_15; have o6 := gz_sh B_a2_16; have o7 := gz_sh B_a2_17; have o8 := gz_sh B_a2_17_1; have o9 := gz_sh B_a2_17_2; have o10 := gz_sh B_a2_17_3; have o11 := gz_sh B_a2_17_4; have o12 := gz_sh B_a2_17_5; have o13 := gz_sh B_a2_17_6; have o14 := gz_sh B_a2_17_7; have o15 := gz_sh B_a2_5; have o16 := gz_sh B_a2_6; have o17 := gz_sh B_a2_9; omega) | (simp only [gz_hd] at *; omega)))).trans ((g35 100 17).resolve_left (by (/-44-/first | omega | (simp only [gz_hd] at *; omega))))).trans ((g29 100 17).resolve_left (by (/-45-/first | omega | (simp only [gz_hd] at *; omega))))).trans (p23 100 17 (fun h => absurd h.1 (by (/-46-/first | omega | (simp only [gz_hd] at *; omega))))))) (fun k => (((((g41 113 k).resolve_left (by (/-47-/first | (have o1 := gz_sh B_a2; have o2 := gz_sh B_a2_10; have o3 := gz_sh B_a2_13; have o4 := gz_sh B_a2_14; have o5 := gz_sh B_a2_15; have o6 := gz_sh B_a2_16; have o7 := gz_sh B_a2_17; have o8 := gz_sh B_a2_17_1; have o9 := gz_sh B_a2_17_2; have o10 := gz_sh B_a2_17_3; have o11 := gz_sh B_a2_17_4; have o12 := gz_sh B_a2_17_5; have o13 := gz_sh B_a2_17_6; have o14 := gz_sh B_a2_17_7; have o15 := gz_sh B_a2_5; have o16 := gz_sh B_a2_6; have o17 := gz_sh B_a2_9; omega) | (simp only [gz_hd] at *; omega)))).trans ((g35 113 k).resolve_left (by (/-48-/first | omega | (simp only [gz_hd] at *; omega))))).trans ((g29 113 k).resolve_left (by (/-49-/first | omega | (simp only [gz_hd] at *; omega))))).trans (p23 113 k (fun h => absurd h.1 (by (/-50-/first | omega | (simp only [gz_hd] at *; omega))))))))
  refine gv_run 2 true hD (pcₚ := 2) (lvₚ := [(0, .inr (.inr (some 100))), (1, .inl a1), (2, .inr (.inr (some a2))), (3, .inr (.inr (some a3)))]) (stₚ := [.inl 0, .inr (.inr (some 100))]) (hₚ := gc_h sh I J A) (C := ((True ∧ True) ∧ True)) rfl ⟨⟨trivial, trivial⟩, trivial⟩ ?_
  refine gv_put hD rfl rfl S_100 ⟨by decide, (gz_sh B_100)⟩ rfl trivial ?_
  refine gc_st (k := 14) hI S_100 rfl (gz_sh R_100) (lo := 0) (hi := 2400) rfl rfl (by (/-51-/first | omega | (simp only [gz_hd] at *; omega))) (by (/-52-/first | omega | (simp only [gz_hd] at *; omega))) (fun I47 hI47 q48 p48 => ?_)
  have FI47 := gc_frs (W := fun q j => (q = 100 ∧ j = 14) ∨ (q = 100 ∧ j = 17) ∨ q = 113 ∨ (q = a3 ∧ j = 5) ∨ (q = a3 ∧ j = 6) ∨ (q = a3 ∧ j = 7) ∨ (q = a3 ∧ j = 8) ∨ (q = 106 ∧ j = 1) ∨ q = 107 ∨ (q = 106 ∧ j = 4) ∨ q = 108 ∨ q = 109 ∨ q = 110 ∨ q = 111 ∨ q = 112 ∨ q = (a2 + 22)) FI (Or.inl ⟨rfl, rfl⟩) p48
  have t50 := gz_hi (p48 100 9 (fun h => absurd h.2 (by first | exact gz_ne rfl | decide)))
  show gv_X _ _ (5, [(0, .inr (.inr (some 100))), (1, .inl a1), (2, .inr (.inr (some a2))), (3, .inr (.inr (some a3)))], [], sh, gc_h sh I47 J A)
  refine gv_run 2 true hD (pcₚ := 7) (lvₚ := [(0, .inr (.inr (some 100))), (1, .inl a1), (2, .inr (.inr (some a2))), (3, .inr (.inr (some a3)))]) (stₚ := [.inr (.inr (some a3)), .inr (.inr (some 100))]) (hₚ := gc_h sh I47 J A) (C := ((True ∧ True) ∧ True)) rfl ⟨⟨trivial, trivial⟩, trivial⟩ ?_
  obtain ⟨r52, h52, E52, P52⟩ := d_X1_readQuestion (ws0 := ws0) (tb := tb) hws htb sh ro I47 J A hI47  a3 hb h_a3 G_a3    
  obtain ⟨I53, J54, rfl, hI53, g52, k52, ⟨z52, rfl, q52⟩⟩ := P52
  replace q52 := gz_hi q52
  have FI53 := gc_frc (W := fun q j => (q = 100 ∧ j = 14) ∨ (q = 100 ∧ j = 17) ∨ q = 113 ∨ (q = a3 ∧ j = 5) ∨ (q = a3 ∧ j = 6) ∨ (q = a3 ∧ j = 7) ∨ (q = a3 ∧ j = 8) ∨ (q = 106 ∧ j = 1) ∨ q = 107 ∨ (q = 106 ∧ j = 4) ∨ q = 108 ∨ q = 109 ∨ q = 110 ∨ q = 111 ∨ q = 112 ∨ q = (a2 + 22)) (V := fun q j => (q = 100 ∧ j = 17) ∨ q = 113 ∨ (q = a3 ∧ j = 5) ∨ (q = a3 ∧ j = 6) ∨ (q = a3 ∧ j = 7) ∨ (q = a3 ∧ j = 8)) FI47 (fun q j h => (h.elim (fun h => (Or.inr (Or.inl h))) (fun h => (h.elim (fun h => (Or.inr (Or.inr (Or.inl h)))) (fun h => (h.elim (fun h => (Or.inr (Or.inr (Or.inr (Or.inl h))))) (fun h => (h.elim (fun h => (Or.inr (Or.inr (Or.inr (Or.inr (Or.inl h)))))) (fun h => (h.elim (fun h => (Or.inr (Or.inr (Or.inr (Or.inr (Or.inr (Or.inl h))))))) (fun h => (Or.inr (Or.inr (Or.inr (Or.inr (Or.inr (Or.inr (Or.inl h)))))))))))))))))) g52
  have FJ54 := gc_frc (W := fun q j => (q = a3 ∧ j = 9)) (V := fun q j => (q = a3 ∧ j = 9)) FJ (fun q j h => h) k52
  have t55 := gz_hi ((g52 100 9).resolve_left (fun h => h.elim (fun h => absurd h.2 (by first | exact gz_ne rfl | decide)) (fun h => h.elim (fun h => absurd h (by first | exact gz_ne rfl | decide)) (fun h => h.elim (fun h => absurd h.2 (by first | exact gz_ne rfl | decide)) (fun h => h.elim (fun h => absurd h.2 (by first | exact gz_ne rfl | decide)) (fun h => h.elim (fun h => absurd h.2 (by first | exact gz_ne rfl | decide)) (fun h => absurd h.2 (by first | exact gz_ne rfl | decide))))))))
  have f57 := gz_hi ((gc_b_75_17 hI53 (gz_sh R_100)))
  refine gv_callV hD rfl (As := [.inr (.inr (some a3))]) (st := []) rfl (gz_sh B_100) S_100 rfl (gc_lV1 hws rfl) (Nat.le_of_ble_eq_true rfl) (gz_Ev_mono (d := 4) (by decide) E52) ?_
  show gv_X _ _ (10, [(0, .inr (.inr (some 100))), (1, .inl a1), (2, .inr (.inr (some a2))), (3, .inr (.inr (some a3)))], [.inl z52], sh, gc_h sh I53 J54 A)
  refine gv_if_ne (t := 16) hD rfl rfl ⟨by (/-53-/first | (have o1 := gz_sh q52; omega) | (simp only [gz_hd] at *; omega)), by (/-54-/first | (have o1 := gz_sh q52; omega) | (simp only [gz_hd] at *; omega))⟩ (fun c58 => ?_) (fun c58 => ?_)
  · show gv_X _ _ (16, [(0, .inr (.inr (some 100))), (1, .inl a1), (2, .inr (.inr (some a2))), (3, .inr (.inr (some a3)))], [], sh, gc_h sh I53 J54 A)
    refine gv_run 2 true hD (pcₚ := 19) (lvₚ := [(4, .inl 0), (0, .inr (.inr (some 100))), (1, .inl a1), (2, .inr (.inr (some a2))), (3, .inr (.inr (some a3)))]) (stₚ := []) (hₚ := gc_h sh I53 J54 A) (C := ((True ∧ True) ∧ True)) rfl ⟨⟨trivial, trivial⟩, trivial⟩ ?_
    refine gv_pick [1, 2, 3, 4, 0] rfl ?_
    exact L19 _ I53 J54 0 (Nat.lt_succ_self _) hI53 FI53 FJ54 (by (/-55-/first | (and_intros; (omega); (omega); (omega); (omega); (have o1 := gz_sh q52; omega); (have o1 := gz_sh t50; have o2 := gz_sh t55; omega)) | (simp only [gz_hd] at *; omega))) (gz_sh q52).2.2.1
  · show gv_X _ _ (13, [(0, .inr (.inr (some 100))), (1, .inl a1), (2, .inr (.inr (some a2))), (3, .inr (.inr (some a3)))], [], sh, gc_h sh I53 J54 A)
    refine gv_run 1 true hD (pcₚ := 15) (lvₚ := [(0, .inr (.inr (some 100))), (1, .inl a1), (2, .inr (.inr (some a2))), (3, .inr (.inr (some a3)))]) (stₚ := [.inl (-3)]) (hₚ := gc_h sh I53 J54 A) (C := (True ∧ True)) rfl ⟨trivial, trivial⟩ ?_
    exact gv_iret hD rfl ⟨I53, J54, rfl, hI53, FI53, FJ54, ⟨_, rfl, by (/-56-/first | (and_intros <;> omega) | (simp only [gz_hd] at *; omega))⟩⟩
