set_option maxHeartbeats 8000000 in
set_option maxRecDepth 100000 in
theorem d_X1_countEndings_p {ws0 : List Cond} {tb : String → gz_T} (hws : gc_Ws ws0) (htb : gc_tbs tb) (sh : gz_Sh) (ro : Nat → Nat) (I : gr_I) (J : gr_J) (A : gc_A) (hI : gc_Inv ro I) (a1 : Nat) (a2 : Nat) (a3 : Int) (hb : gc_Base sh ro A) (h_a1 : gc_isTongue sh ro A a1) (G_a1 : 144 ≤ a1) (h_a2 : gc_isText sh ro A a2) (G_a2 : a2 + 3 < 39) (ha3 : 1 ≤ a3 ∧ a3 ≤ 4) (x0 : a3 ≤ I a2 1) (x1 : I a2 1 ≤ 24) (x2 : I 100 7 = 0) : ∃ r hₚ, gz_Ev ws0 tb 3 (yX1_countEndings, cX1_countEndings, 6, none) [.inr (.inr (some 100)), .inr (.inr (some a1)), .inr (.inr (some a2)), .inl a3] sh (gc_h sh I J A) r sh hₚ 0 0 ∧ (∃ (Iₚ : gr_I) (Jₚ : gr_J), hₚ = gc_h sh Iₚ Jₚ A ∧ gc_Inv ro Iₚ ∧ (∀ q j : Nat, ((q = 100 ∧ j = 7) ∨ q = 103) ∨ Iₚ q j = I q j) ∧ (∀ q j : Nat, (False) ∨ Jₚ q j = J q j) ∧ r = none ∧ gc_CE I Iₚ a1 a2 a3 1536) := by
  have FI : ∀ q j : Nat, ((q = 100 ∧ j = 7) ∨ q = 103) ∨ I q j = I q j := fun _ _ => Or.inr rfl
  have FJ : ∀ q j : Nat, (False) ∨ J q j = J q j := fun _ _ => Or.inr rfl
  have A_100_6 : A 100 6 = some 103 := gc_bA_100_6 hb
  have B_100 : 100 < 1000000 := by decide
  have B_103 : 103 < 1000000 := by decide
  have R_100 : ro 100 = 75 := gc_bR_100 hb
  have R_103 : ro 103 = 66 := gc_bR_103 hb
  have S_100 : sh[100]? = some (false, 1, 19) := gc_bS_100 hb
  have S_103 : sh[103]? = some (true, 1, 24) := gc_bS_103 hb
  obtain ⟨S_a1, R_a1, B_a1, A_a1_0, h_a1_1, A_a1_1, h_a1_3, A_a1_2, S_a1_5, R_a1_5, B_a1_5, A_a1_3, S_a1_6, R_a1_6, B_a1_6, A_a1_4, h_a1_7, A_a1_5, S_a1_9, R_a1_9, B_a1_9, A_a1_7, S_a1_10, R_a1_10, B_a1_10, A_a1_8, h_a1_11, A_a1_9, S_a1_13, R_a1_13, B_a1_13, A_a1_10, S_a1_14, R_a1_14, B_a1_14, A_a1_12, S_a1_15, R_a1_15, B_a1_15, A_a1_14, S_a1_16, R_a1_16, B_a1_16, A_a1_15, h_a1_17⟩ := id h_a1
  obtain ⟨S_a1_1, R_a1_1, B_a1_1, A_a1_1_0, S_a1_1_1, R_a1_1_1, B_a1_1_1, Q0_a1_1, Q1_a1_1, Q2_a1_1⟩ := id h_a1_1
  obtain ⟨S_a1_3, R_a1_3, B_a1_3, A_a1_3_0, S_a1_3_1, R_a1_3_1, B_a1_3_1, Q0_a1_3, Q1_a1_3, Q2_a1_3⟩ := id h_a1_3
  obtain ⟨S_a1_7, R_a1_7, B_a1_7, A_a1_7_0, S_a1_7_1, R_a1_7_1, B_a1_7_1, Q0_a1_7, Q1_a1_7, Q2_a1_7⟩ := id h_a1_7
  obtain ⟨S_a1_11, R_a1_11, B_a1_11, A_a1_11_0, S_a1_11_1, R_a1_11_1, B_a1_11_1, Q0_a1_11, Q1_a1_11, Q2_a1_11⟩ := id h_a1_11
  obtain ⟨S_a1_17, R_a1_17, B_a1_17, A_a1_17_0, S_20, R_20, B_20, A_a1_17_1, S_a1_17_1, R_a1_17_1, B_a1_17_1, A_a1_17_2, S_a1_17_2, R_a1_17_2, B_a1_17_2, A_a1_17_3, S_a1_17_3, R_a1_17_3, B_a1_17_3, A_a1_17_4, S_a1_17_4, R_a1_17_4, B_a1_17_4, A_a1_17_5, S_a1_17_5, R_a1_17_5, B_a1_17_5, S_a1_17_6, R_a1_17_6, B_a1_17_6, S_a1_17_7, R_a1_17_7, B_a1_17_7⟩ := id h_a1_17
  obtain ⟨S_a2, R_a2, B_a2, A_a2_0, S_a2_1, R_a2_1, B_a2_1, A_a2_2, S_a2_2, R_a2_2, B_a2_2, A_a2_3, S_a2_3, R_a2_3, B_a2_3⟩ := id h_a2
  have hb9 : ∀ w : Int, fo_cs I a1 w ≤ 24 := fun w => (show 0 ≤ I (a1 + 13) _ ∧ I (a1 + 13) _ ≤ 24 from gc_in2 hI R_a1_13 rfl rfl rfl).2
  have hD : gv_D (gc_E1 ws0 tb 2 (yX1_countEndings, cX1_countEndings, 6, none) kX1_countEndings) := gq_of oX1_countEndings
  refine gc_ev1 (d := 2) (l := kX1_countEndings) (Po := fun r hₚ => (∃ (Iₚ : gr_I) (Jₚ : gr_J), hₚ = gc_h sh Iₚ Jₚ A ∧ gc_Inv ro Iₚ ∧ (∀ q j : Nat, ((q = 100 ∧ j = 7) ∨ q = 103) ∨ Iₚ q j = I q j) ∧ (∀ q j : Nat, (False) ∨ Jₚ q j = J q j) ∧ r = none ∧ gc_CE I Iₚ a1 a2 a3 1536)) htb rfl (Nat.le_of_ble_eq_true rfl) ?_
  have N_a2__103 : ¬ (a2 = 103) := by omega
  have N_a1__103 : ¬ (a1 = 103) := by omega
  have f1 := (gc_b_75_7 hI R_100)
  have f2 := (show 0 ≤ I a2 1 ∧ I a2 1 ≤ 1000 from gc_in2 hI R_a2 rfl rfl rfl)
  have f3 := (show 0 ≤ I a1 11 ∧ I a1 11 ≤ 64 from gc_in2 hI R_a1 rfl rfl rfl)
  have L11 : ∀ (n9 : Nat) (I4 : gr_I) (J5 : gr_J) (v4_6 : Int), (65 - v4_6).toNat < n9 → gc_Inv ro I4 → (∀ q j : Nat, ((q = 100 ∧ j = 7) ∨ q = 103) ∨ I4 q j = I q j) → (∀ q j : Nat, (False) ∨ J5 q j = J q j) → ((1 ≤ a3 ∧ a3 ≤ 4) ∧ (0 ≤ v4_6 ∧ v4_6 ≤ 64) ∧ (I4 a2 1 = I a2 1) ∧ (I4 100 7 ≤ 24 * v4_6)) → (gc_rg 103 I4 24 0 (I4 100 7)) → gc_CE I I4 a1 a2 a3 (Int.toNat (24 * v4_6)) → gv_X (gc_E1 ws0 tb 2 (yX1_countEndings, cX1_countEndings, 6, none) kX1_countEndings) (gv_Q cX1_countEndings none sh (fun r hₚ => (∃ (Iₚ : gr_I) (Jₚ : gr_J), hₚ = gc_h sh Iₚ Jₚ A ∧ gc_Inv ro Iₚ ∧ (∀ q j : Nat, ((q = 100 ∧ j = 7) ∨ q = 103) ∨ Iₚ q j = I q j) ∧ (∀ q j : Nat, (False) ∨ Jₚ q j = J q j) ∧ r = none ∧ gc_CE I Iₚ a1 a2 a3 1536))) (11, [(0, .inr (.inr (some 100))), (1, .inr (.inr (some a1))), (2, .inr (.inr (some a2))), (3, .inl a3), (4, .inl v4_6)], [], sh, gc_h sh I4 J5 A) := by
    intro n9
    induction n9 with
    | zero => intro I4 J5 v4_6 hn; omega
    | succ n9 ih11 =>
      intro I4 J5 v4_6 hn hI4 FI4 FJ5 m_6 e0_6 k_11
      have w_11 : I4 a1 11 = I a1 11 := (FI4 a1 11).resolve_left (by omega)
      obtain ⟨ha3_6, hv4_6, e1_6, e2_6⟩ := m_6
      have f7 := (gc_b_75_7 hI4 R_100)
      have f8 := (show 0 ≤ I4 a2 1 ∧ I4 a2 1 ≤ 1000 from gc_in2 hI4 R_a2 rfl rfl rfl)
      have f9 := (show 0 ≤ I4 a1 11 ∧ I4 a1 11 ≤ 64 from gc_in2 hI4 R_a1 rfl rfl rfl)
      have L23 : ∀ (n9 : Nat) (I10 : gr_I) (J11 : gr_J) (v5_12 : Int), (25 - v5_12).toNat < n9 → gc_Inv ro I10 → (∀ q j : Nat, ((q = 100 ∧ j = 7) ∨ q = 103) ∨ I10 q j = I q j) → (∀ q j : Nat, (False) ∨ J11 q j = J q j) → ((1 ≤ a3 ∧ a3 ≤ 4) ∧ (0 ≤ v4_6 ∧ v4_6 ≤ 63) ∧ (0 ≤ v5_12 ∧ v5_12 ≤ 24) ∧ (I10 a2 1 = I a2 1) ∧ (I10 100 7 ≤ 24 * v4_6 + v5_12) ∧ (v4_6 ≤ 63)) → (gc_rg 103 I10 24 0 (I10 100 7)) → (gc_CE I I10 a1 a2 a3 (Int.toNat (24 * v4_6 + v5_12)) ∧ v4_6 < I a1 11) → gv_X (gc_E1 ws0 tb 2 (yX1_countEndings, cX1_countEndings, 6, none) kX1_countEndings) (gv_Q cX1_countEndings none sh (fun r hₚ => (∃ (Iₚ : gr_I) (Jₚ : gr_J), hₚ = gc_h sh Iₚ Jₚ A ∧ gc_Inv ro Iₚ ∧ (∀ q j : Nat, ((q = 100 ∧ j = 7) ∨ q = 103) ∨ Iₚ q j = I q j) ∧ (∀ q j : Nat, (False) ∨ Jₚ q j = J q j) ∧ r = none ∧ gc_CE I Iₚ a1 a2 a3 1536))) (23, [(0, .inr (.inr (some 100))), (1, .inr (.inr (some a1))), (2, .inr (.inr (some a2))), (3, .inl a3), (4, .inl v4_6), (5, .inl v5_12)], [], sh, gc_h sh I10 J11 A) := by
        intro n9
        induction n9 with
        | zero => intro I10 J11 v5_12 hn; omega
        | succ n9 ih23 =>
          intro I10 J11 v5_12 hn hI10 FI10 FJ11 m_12 e0_12 k_23
          clear ha3_6 hv4_6 e1_6 e2_6 f7 f8 f9
          obtain ⟨ha3_12, hv4_6_12, hv5_12, e1_12, e2_12, e3_12⟩ := m_12
          have f13 := (gc_b_75_7 hI10 R_100)
          have f14 := (show 0 ≤ I10 a2 1 ∧ I10 a2 1 ≤ 1000 from gc_in2 hI10 R_a2 rfl rfl rfl)
          have f15 := (show 0 ≤ I10 a1 11 ∧ I10 a1 11 ≤ 64 from gc_in2 hI10 R_a1 rfl rfl rfl)
          have L88 : ∀ (I16 : gr_I) (J17 : gr_J) , gc_Inv ro I16 → (∀ q j : Nat, ((q = 100 ∧ j = 7) ∨ q = 103) ∨ I16 q j = I q j) → (∀ q j : Nat, (False) ∨ J17 q j = J q j) → ((1 ≤ a3 ∧ a3 ≤ 4) ∧ (0 ≤ v4_6 ∧ v4_6 ≤ 63) ∧ (0 ≤ v5_12 ∧ v5_12 ≤ 23) ∧ (I16 a2 1 = I a2 1) ∧ (I16 100 7 ≤ 24 * v4_6 + v5_12 + 1) ∧ (v4_6 ≤ 63) ∧ (v5_12 ≤ 23)) → (gc_rg 103 I16 24 0 (I16 100 7)) → (gc_CE I I16 a1 a2 a3 (Int.toNat (24 * v4_6 + v5_12) + 1) ∧ v4_6 < I a1 11) → gv_X (gc_E1 ws0 tb 2 (yX1_countEndings, cX1_countEndings, 6, none) kX1_countEndings) (gv_Q cX1_countEndings none sh (fun r hₚ => (∃ (Iₚ : gr_I) (Jₚ : gr_J), hₚ = gc_h sh Iₚ Jₚ A ∧ gc_Inv ro Iₚ ∧ (∀ q j : Nat, ((q = 100 ∧ j = 7) ∨ q = 103) ∨ Iₚ q j = I q j) ∧ (∀ q j : Nat, (False) ∨ Jₚ q j = J q j) ∧ r = none ∧ gc_CE I Iₚ a1 a2 a3 1536))) (88, [(0, .inr (.inr (some 100))), (1, .inr (.inr (some a1))), (2, .inr (.inr (some a2))), (3, .inl a3), (4, .inl v4_6), (5, .inl v5_12)], [], sh, gc_h sh I16 J17 A) := by
            intro I16 J17 hI16 FI16 FJ17 m_18 e0_18 k_88
            clear ha3_12 hv4_6_12 hv5_12 e1_12 e2_12 e3_12 f13 f14 f15
            obtain ⟨ha3_18, hv4_6_18, hv5_12_18, e1_18, e2_18, e3_18, e4_18⟩ := m_18
            have f19 := (gc_b_75_7 hI16 R_100)
            have f20 := (show 0 ≤ I16 a2 1 ∧ I16 a2 1 ≤ 1000 from gc_in2 hI16 R_a2 rfl rfl rfl)
            have f21 := (show 0 ≤ I16 a1 11 ∧ I16 a1 11 ≤ 64 from gc_in2 hI16 R_a1 rfl rfl rfl)
            refine gv_run 2 true hD (pcₚ := 23) (lvₚ := [(5, .inl (v5_12 + 1)), (0, .inr (.inr (some 100))), (1, .inr (.inr (some a1))), (2, .inr (.inr (some a2))), (3, .inl a3), (4, .inl v4_6)]) (stₚ := []) (hₚ := gc_h sh I16 J17 A) (C := ((True ∧ True) ∧ True)) rfl ⟨⟨trivial, trivial⟩, trivial⟩ ?_
            refine gv_pick [1, 2, 3, 4, 5, 0] rfl ?_
            exact ih23 I16 J17 (v5_12 + 1) (by omega) hI16 FI16 FJ17 (by omega) e0_18 ⟨gc_CE_m k_88.1 (by omega), k_88.2⟩
          refine gv_run 3 true hD (pcₚ := 28) (lvₚ := [(0, .inr (.inr (some 100))), (1, .inr (.inr (some a1))), (2, .inr (.inr (some a2))), (3, .inl a3), (4, .inl v4_6), (5, .inl v5_12)]) (stₚ := [.inl v4_6, .inr (.inr (some a1)), .inl v5_12]) (hₚ := gc_h sh I10 J11 A) (C := (((True ∧ True) ∧ True) ∧ True)) rfl ⟨⟨⟨trivial, trivial⟩, trivial⟩, trivial⟩ ?_
          obtain ⟨r22, h22, E22, P22⟩ := d_X11_cellsOf_p (ws0 := ws0) (tb := tb) hws htb sh ro I10 J11 A hI10 a1 v4_6 h_a1   ⟨by omega, by omega⟩  
          obtain ⟨rfl, ⟨z22, rfl, q22⟩⟩ := P22
          have c_13 : ∀ j, I10 (a1 + 13) j = I (a1 + 13) j := fun j => (FI10 (a1 + 13) j).resolve_left (by omega)
          have c_15 : ∀ j, I10 (a1 + 15) j = I (a1 + 15) j := fun j => (FI10 (a1 + 15) j).resolve_left (by omega)
          have W_9 : z22 = fo_cs I a1 v4_6 := by
            have h9 := q22.2.2
            unfold gs_fw at h9
            rw [c_15, c_13] at h9
            exact h9
          replace q22 := And.intro q22.1 q22.2.1
          refine gv_callV hD rfl (As := [.inl v4_6]) (st := [.inl v5_12]) rfl B_a1 S_a1 rfl (gc_lV1 hws rfl) (Nat.le_of_ble_eq_true rfl) (gz_Ev_mono (d := 2) (by decide) E22) ?_
          show gv_X _ _ (31, [(0, .inr (.inr (some 100))), (1, .inr (.inr (some a1))), (2, .inr (.inr (some a2))), (3, .inl a3), (4, .inl v4_6), (5, .inl v5_12)], [.inl z22, .inl v5_12], sh, gc_h sh I10 J11 A)
          refine gv_icmp_ge (t := 94) hD rfl rfl ⟨⟨by omega, by omega⟩, ⟨by omega, by omega⟩⟩ (fun c23 => ?_) (fun c23 => ?_)
          · show gv_X _ _ (94, [(0, .inr (.inr (some 100))), (1, .inr (.inr (some a1))), (2, .inr (.inr (some a2))), (3, .inl a3), (4, .inl v4_6), (5, .inl v5_12)], [], sh, gc_h sh I10 J11 A)
            refine gv_run 2 true hD (pcₚ := 11) (lvₚ := [(4, .inl (v4_6 + 1)), (0, .inr (.inr (some 100))), (1, .inr (.inr (some a1))), (2, .inr (.inr (some a2))), (3, .inl a3), (5, .inl v5_12)]) (stₚ := []) (hₚ := gc_h sh I10 J11 A) (C := ((True ∧ True) ∧ True)) rfl ⟨⟨trivial, trivial⟩, trivial⟩ ?_
            refine gv_pick [1, 2, 3, 4, 0] rfl ?_
            exact ih11 I10 J11 (v4_6 + 1) (by omega) hI10 FI10 FJ11 (by omega) e0_12 (gc_CE_c k_23.1 rfl hb9 (by omega) (by omega) (by omega) rfl)
          · show gv_X _ _ (34, [(0, .inr (.inr (some 100))), (1, .inr (.inr (some a1))), (2, .inr (.inr (some a2))), (3, .inl a3), (4, .inl v4_6), (5, .inl v5_12)], [], sh, gc_h sh I10 J11 A)
            refine gv_run 1 true hD (pcₚ := 35) (lvₚ := [(0, .inr (.inr (some 100))), (1, .inr (.inr (some a1))), (2, .inr (.inr (some a2))), (3, .inl a3), (4, .inl v4_6), (5, .inl v5_12)]) (stₚ := [.inr (.inr (some a1))]) (hₚ := gc_h sh I10 J11 A) (C := (True ∧ True)) rfl ⟨trivial, trivial⟩ ?_
            refine gv_get hD rfl rfl S_a1 ⟨by decide, B_a1⟩ (gc_hA S_a1 rfl A_a1_15) ?_
            show gv_X _ _ (38, [(0, .inr (.inr (some 100))), (1, .inr (.inr (some a1))), (2, .inr (.inr (some a2))), (3, .inl a3), (4, .inl v4_6), (5, .inl v5_12)], [.inr (.inr (some (a1 + 17)))], sh, gc_h sh I10 J11 A)
            refine gv_run 6 true hD (pcₚ := 47) (lvₚ := [(0, .inr (.inr (some 100))), (1, .inr (.inr (some a1))), (2, .inr (.inr (some a2))), (3, .inl a3), (4, .inl v4_6), (5, .inl v5_12)]) (stₚ := [.inr (.inr (some a2)), .inl ((v4_6 * 24) + v5_12), .inr (.inr (some (a1 + 17)))]) (hₚ := gc_h sh I10 J11 A) (C := ((((((True ∧ True) ∧ True) ∧ True) ∧ True) ∧ True) ∧ True)) rfl ⟨⟨⟨⟨⟨⟨trivial, trivial⟩, trivial⟩, trivial⟩, trivial⟩, trivial⟩, trivial⟩ ?_
            refine gv_get hD rfl rfl S_a2 ⟨by decide, B_a2⟩ (gc_hA S_a2 rfl A_a2_0) ?_
            show gv_X _ _ (50, [(0, .inr (.inr (some 100))), (1, .inr (.inr (some a1))), (2, .inr (.inr (some a2))), (3, .inl a3), (4, .inl v4_6), (5, .inl v5_12)], [.inr (.inr (some (a2 + 1))), .inl ((v4_6 * 24) + v5_12), .inr (.inr (some (a1 + 17)))], sh, gc_h sh I10 J11 A)
            refine gv_run 1 true hD (pcₚ := 51) (lvₚ := [(0, .inr (.inr (some 100))), (1, .inr (.inr (some a1))), (2, .inr (.inr (some a2))), (3, .inl a3), (4, .inl v4_6), (5, .inl v5_12)]) (stₚ := [.inr (.inr (some a2)), .inr (.inr (some (a2 + 1))), .inl ((v4_6 * 24) + v5_12), .inr (.inr (some (a1 + 17)))]) (hₚ := gc_h sh I10 J11 A) (C := (True ∧ True)) rfl ⟨trivial, trivial⟩ ?_
            have f24 := (show 0 ≤ I10 a2 1 ∧ I10 a2 1 ≤ 1000 from gc_in2 hI10 R_a2 rfl rfl rfl)
            refine gv_get hD rfl rfl S_a2 ⟨by decide, B_a2⟩ (gc_hI S_a2 rfl) ?_
            show gv_X _ _ (54, [(0, .inr (.inr (some 100))), (1, .inr (.inr (some a1))), (2, .inr (.inr (some a2))), (3, .inl a3), (4, .inl v4_6), (5, .inl v5_12)], [.inl (I10 a2 1), .inr (.inr (some (a2 + 1))), .inl ((v4_6 * 24) + v5_12), .inr (.inr (some (a1 + 17)))], sh, gc_h sh I10 J11 A)
            refine gv_run 3 true hD (pcₚ := 57) (lvₚ := [(0, .inr (.inr (some 100))), (1, .inr (.inr (some a1))), (2, .inr (.inr (some a2))), (3, .inl a3), (4, .inl v4_6), (5, .inl v5_12)]) (stₚ := [.inl a3, .inl ((I10 a2 1) - a3), .inr (.inr (some (a2 + 1))), .inl ((v4_6 * 24) + v5_12), .inr (.inr (some (a1 + 17)))]) (hₚ := gc_h sh I10 J11 A) (C := (((True ∧ True) ∧ True) ∧ True)) rfl ⟨⟨⟨trivial, trivial⟩, trivial⟩, trivial⟩ ?_
            obtain ⟨r25, h25, E25, P25⟩ := d_X2_endsWith_p (ws0 := ws0) (tb := tb) hws htb sh ro I10 J11 A hI10 (a1 + 17) 1000 (((v4_6 * 24) + v5_12)) (a2 + 1) (((I10 a2 1) - a3)) a3 h_a1_17 S_a2_1 R_a2_1 B_a2_1 (by decide)  ⟨by omega, by omega⟩ ⟨by omega, by omega⟩ ⟨by omega, by omega⟩ (by omega) 
            obtain ⟨rfl, ⟨z25, rfl, q25⟩⟩ := P25
            have F_9 := gc_ec_x (I := I) (x := Int.toNat (24 * v4_6 + v5_12)) (l := a3) (y := ((v4_6 * 24) + v5_12)) q25.2.2 (fun k => (FI10 (a1 + 17 + 1) k).resolve_left (by omega)) (fun k => (FI10 (a1 + 17 + 2) k).resolve_left (by omega)) (fun k => (FI10 (a2 + 1) k).resolve_left (by omega)) (by omega) (by omega)
            replace q25 := And.intro q25.1 q25.2.1
            refine gv_callV hD rfl (As := [.inl ((v4_6 * 24) + v5_12), .inr (.inr (some (a2 + 1))), .inl ((I10 a2 1) - a3), .inl a3]) (st := []) rfl B_a1_17 S_a1_17 rfl (gc_lV1 hws rfl) (Nat.le_of_ble_eq_true rfl) (gz_Ev_mono (d := 1) (by decide) E25) ?_
            show gv_X _ _ (60, [(0, .inr (.inr (some 100))), (1, .inr (.inr (some a1))), (2, .inr (.inr (some a2))), (3, .inl a3), (4, .inl v4_6), (5, .inl v5_12)], [.inl z25], sh, gc_h sh I10 J11 A)
            refine gv_if_eq (t := 88) hD rfl rfl ⟨by omega, by omega⟩ (fun c26 => ?_) (fun c26 => ?_)
            · show gv_X _ _ (88, [(0, .inr (.inr (some 100))), (1, .inr (.inr (some a1))), (2, .inr (.inr (some a2))), (3, .inl a3), (4, .inl v4_6), (5, .inl v5_12)], [], sh, gc_h sh I10 J11 A)
              exact L88 I10 J11 hI10 FI10 FJ11 (by omega) e0_12 ⟨gc_CE_n k_23.1 F_9 (by omega) rfl, k_23.2⟩
            · show gv_X _ _ (63, [(0, .inr (.inr (some 100))), (1, .inr (.inr (some a1))), (2, .inr (.inr (some a2))), (3, .inl a3), (4, .inl v4_6), (5, .inl v5_12)], [], sh, gc_h sh I10 J11 A)
              refine gv_run 1 true hD (pcₚ := 64) (lvₚ := [(0, .inr (.inr (some 100))), (1, .inr (.inr (some a1))), (2, .inr (.inr (some a2))), (3, .inl a3), (4, .inl v4_6), (5, .inl v5_12)]) (stₚ := [.inr (.inr (some 100))]) (hₚ := gc_h sh I10 J11 A) (C := (True ∧ True)) rfl ⟨trivial, trivial⟩ ?_
              refine gv_get hD rfl rfl S_100 ⟨by decide, B_100⟩ (gc_hA S_100 rfl A_100_6) ?_
              show gv_X _ _ (67, [(0, .inr (.inr (some 100))), (1, .inr (.inr (some a1))), (2, .inr (.inr (some a2))), (3, .inl a3), (4, .inl v4_6), (5, .inl v5_12)], [.inr (.inr (some 103))], sh, gc_h sh I10 J11 A)
              refine gv_run 2 true hD (pcₚ := 70) (lvₚ := [(0, .inr (.inr (some 100))), (1, .inr (.inr (some a1))), (2, .inr (.inr (some a2))), (3, .inl a3), (4, .inl v4_6), (5, .inl v5_12)]) (stₚ := [.inl v4_6, .inr (.inr (some a1)), .inr (.inr (some 103))]) (hₚ := gc_h sh I10 J11 A) (C := ((True ∧ True) ∧ True)) rfl ⟨⟨trivial, trivial⟩, trivial⟩ ?_
              obtain ⟨r27, h27, E27, P27⟩ := d_X11_wordPattern_p (ws0 := ws0) (tb := tb) hws htb sh ro I10 J11 A hI10 a1 v4_6 h_a1   ⟨by omega, by omega⟩  
              obtain ⟨rfl, ⟨z27, rfl, q27⟩⟩ := P27
              have G_9 : z27 = gs_fw I a1 v4_6 1 := by
                have h9 := q27.2.2
                unfold gs_fw at h9 ⊢
                rw [c_15] at h9
                exact h9
              replace q27 := And.intro q27.1 q27.2.1
              refine gv_callV hD rfl (As := [.inl v4_6]) (st := [.inr (.inr (some 103))]) rfl B_a1 S_a1 rfl (gc_lV1 hws rfl) (Nat.le_of_ble_eq_true rfl) (gz_Ev_mono (d := 1) (by decide) E27) ?_
              show gv_X _ _ (73, [(0, .inr (.inr (some 100))), (1, .inr (.inr (some a1))), (2, .inr (.inr (some a2))), (3, .inl a3), (4, .inl v4_6), (5, .inl v5_12)], [.inl z27, .inr (.inr (some 103))], sh, gc_h sh I10 J11 A)
              refine gv_run 1 true hD (pcₚ := 74) (lvₚ := [(0, .inr (.inr (some 100))), (1, .inr (.inr (some a1))), (2, .inr (.inr (some a2))), (3, .inl a3), (4, .inl v4_6), (5, .inl v5_12)]) (stₚ := [.inl z27, .inr (.inr (some 103)), .inl z27, .inr (.inr (some 103))]) (hₚ := gc_h sh I10 J11 A) (C := (True ∧ True)) rfl ⟨trivial, trivial⟩ ?_
              have t28 := e0_12 z27 (by omega) (by omega)
              have f29 := (gc_b_66 hI10 R_103 (Int.toNat z27))
              refine gv_iald hD rfl S_103 rfl ⟨by decide, B_103⟩ ⟨by omega, by omega⟩ (gc_iI S_103 rfl) ?_
              show gv_X _ _ (75, [(0, .inr (.inr (some 100))), (1, .inr (.inr (some a1))), (2, .inr (.inr (some a2))), (3, .inl a3), (4, .inl v4_6), (5, .inl v5_12)], [.inl (I10 103 (Int.toNat z27)), .inl z27, .inr (.inr (some 103))], sh, gc_h sh I10 J11 A)
              refine gv_run 2 true hD (pcₚ := 77) (lvₚ := [(0, .inr (.inr (some 100))), (1, .inr (.inr (some a1))), (2, .inr (.inr (some a2))), (3, .inl a3), (4, .inl v4_6), (5, .inl v5_12)]) (stₚ := [.inl ((I10 103 (Int.toNat z27)) + 1), .inl z27, .inr (.inr (some 103))]) (hₚ := gc_h sh I10 J11 A) (C := ((True ∧ True) ∧ True)) rfl ⟨⟨trivial, trivial⟩, trivial⟩ ?_
              refine gv_iast hD rfl S_103 ⟨by decide, B_103⟩ ⟨by omega, by omega⟩ ?_
              refine gc_st hI10 S_103 rfl R_103 (lo := 0) (hi := 1536) rfl rfl (by omega) (by omega) (fun I30 hI30 q31 p31 => ?_)
              have FI30 := gc_frs (W := fun q j => (q = 100 ∧ j = 7) ∨ q = 103) FI10 (Or.inr rfl) p31
              have t32 := p31 100 7 (fun h => absurd h.1 (by decide))
              have t33 := p31 a2 1 (fun h => absurd h.1 N_a2__103)
              have t34 := p31 a1 11 (fun h => absurd h.1 N_a1__103)
              show gv_X _ _ (78, [(0, .inr (.inr (some 100))), (1, .inr (.inr (some a1))), (2, .inr (.inr (some a2))), (3, .inl a3), (4, .inl v4_6), (5, .inl v5_12)], [], sh, gc_h sh I30 J11 A)
              refine gv_run 2 true hD (pcₚ := 80) (lvₚ := [(0, .inr (.inr (some 100))), (1, .inr (.inr (some a1))), (2, .inr (.inr (some a2))), (3, .inl a3), (4, .inl v4_6), (5, .inl v5_12)]) (stₚ := [.inr (.inr (some 100)), .inr (.inr (some 100))]) (hₚ := gc_h sh I30 J11 A) (C := ((True ∧ True) ∧ True)) rfl ⟨⟨trivial, trivial⟩, trivial⟩ ?_
              have f35 := (gc_b_75_7 hI30 R_100)
              refine gv_get hD rfl rfl S_100 ⟨by decide, B_100⟩ (gc_hI S_100 rfl) ?_
              show gv_X _ _ (83, [(0, .inr (.inr (some 100))), (1, .inr (.inr (some a1))), (2, .inr (.inr (some a2))), (3, .inl a3), (4, .inl v4_6), (5, .inl v5_12)], [.inl (I30 100 7), .inr (.inr (some 100))], sh, gc_h sh I30 J11 A)
              refine gv_run 2 true hD (pcₚ := 85) (lvₚ := [(0, .inr (.inr (some 100))), (1, .inr (.inr (some a1))), (2, .inr (.inr (some a2))), (3, .inl a3), (4, .inl v4_6), (5, .inl v5_12)]) (stₚ := [.inl ((I30 100 7) + 1), .inr (.inr (some 100))]) (hₚ := gc_h sh I30 J11 A) (C := ((True ∧ True) ∧ True)) rfl ⟨⟨trivial, trivial⟩, trivial⟩ ?_
              refine gv_put hD rfl rfl S_100 ⟨by decide, B_100⟩ rfl trivial ?_
              refine gc_st (k := 7) hI30 S_100 rfl R_100 (lo := 0) (hi := 1536) rfl rfl (by omega) (by omega) (fun I36 hI36 q37 p37 => ?_)
              have FI36 := gc_frs (W := fun q j => (q = 100 ∧ j = 7) ∨ q = 103) FI30 (Or.inl ⟨rfl, rfl⟩) p37
              have t38 := p37 a2 1 (fun h => absurd h.2 (by decide))
              have t39 := p37 a1 11 (fun h => absurd h.2 (by decide))
              have f40 := (gc_b_75_7 hI36 R_100)
              show gv_X _ _ (88, [(0, .inr (.inr (some 100))), (1, .inr (.inr (some a1))), (2, .inr (.inr (some a2))), (3, .inl a3), (4, .inl v4_6), (5, .inl v5_12)], [], sh, gc_h sh I36 J11 A)
              exact L88 I36 J11 hI36 FI36 FJ11 (by omega) (gc_rg_fr (gc_rg_set (hi' := I36 100 7) e0_12 p31 (by omega) (by omega)) (fun k => p37 103 k (fun h => absurd h.1 (by omega)))) ⟨gc_CE_y k_23.1 F_9 (by omega) rfl ⟨v4_6, v5_12, by omega, by omega, by omega, by omega, by omega⟩ (by unfold gc_pt; rw [show ((Int.toNat (24 * v4_6 + v5_12) : Nat) : Int) / 24 = v4_6 from by omega]; exact G_9.symm) (by omega) ((p37 103 _ (fun h => absurd h.1 (by decide))).trans q31) (fun j hj => (p37 103 j (fun h => absurd h.1 (by decide))).trans (p31 103 j (fun h => hj h.2))) (by omega), k_23.2⟩
      refine gv_run 2 true hD (pcₚ := 14) (lvₚ := [(0, .inr (.inr (some 100))), (1, .inr (.inr (some a1))), (2, .inr (.inr (some a2))), (3, .inl a3), (4, .inl v4_6)]) (stₚ := [.inr (.inr (some a1)), .inl v4_6]) (hₚ := gc_h sh I4 J5 A) (C := ((True ∧ True) ∧ True)) rfl ⟨⟨trivial, trivial⟩, trivial⟩ ?_
      have f41 := (show 0 ≤ I4 a1 11 ∧ I4 a1 11 ≤ 64 from gc_in2 hI4 R_a1 rfl rfl rfl)
      refine gv_get hD rfl rfl S_a1 ⟨by decide, B_a1⟩ (gc_hI S_a1 rfl) ?_
      show gv_X _ _ (17, [(0, .inr (.inr (some 100))), (1, .inr (.inr (some a1))), (2, .inr (.inr (some a2))), (3, .inl a3), (4, .inl v4_6)], [.inl (I4 a1 11), .inl v4_6], sh, gc_h sh I4 J5 A)
      refine gv_icmp_ge (t := 100) hD rfl rfl ⟨⟨by omega, by omega⟩, ⟨by omega, by omega⟩⟩ (fun c42 => ?_) (fun c42 => ?_)
      · show gv_X _ _ (100, [(0, .inr (.inr (some 100))), (1, .inr (.inr (some a1))), (2, .inr (.inr (some a2))), (3, .inl a3), (4, .inl v4_6)], [], sh, gc_h sh I4 J5 A)
        exact gv_vret hD rfl ⟨I4, J5, rfl, hI4, FI4, FJ5, rfl, gc_CE_e k_11 rfl hb9 (by omega) (by omega)⟩
      · show gv_X _ _ (20, [(0, .inr (.inr (some 100))), (1, .inr (.inr (some a1))), (2, .inr (.inr (some a2))), (3, .inl a3), (4, .inl v4_6)], [], sh, gc_h sh I4 J5 A)
        refine gv_run 2 true hD (pcₚ := 23) (lvₚ := [(5, .inl 0), (0, .inr (.inr (some 100))), (1, .inr (.inr (some a1))), (2, .inr (.inr (some a2))), (3, .inl a3), (4, .inl v4_6)]) (stₚ := []) (hₚ := gc_h sh I4 J5 A) (C := ((True ∧ True) ∧ True)) rfl ⟨⟨trivial, trivial⟩, trivial⟩ ?_
        refine gv_pick [1, 2, 3, 4, 5, 0] rfl ?_
        exact L23 _ I4 J5 0 (Nat.lt_succ_self _) hI4 FI4 FJ5 (by omega) e0_6 ⟨gc_CE_m k_11 (by omega), by omega⟩
  refine gv_run 1 true hD (pcₚ := 1) (lvₚ := [(0, .inr (.inr (some 100))), (1, .inr (.inr (some a1))), (2, .inr (.inr (some a2))), (3, .inl a3)]) (stₚ := [.inr (.inr (some 100))]) (hₚ := gc_h sh I J A) (C := (True ∧ True)) rfl ⟨trivial, trivial⟩ ?_
  refine gv_get hD rfl rfl S_100 ⟨by decide, B_100⟩ (gc_hA S_100 rfl A_100_6) ?_
  show gv_X _ _ (4, [(0, .inr (.inr (some 100))), (1, .inr (.inr (some a1))), (2, .inr (.inr (some a2))), (3, .inl a3)], [.inr (.inr (some 103))], sh, gc_h sh I J A)
  refine gv_run 1 true hD (pcₚ := 5) (lvₚ := [(0, .inr (.inr (some 100))), (1, .inr (.inr (some a1))), (2, .inr (.inr (some a2))), (3, .inl a3)]) (stₚ := [.inl 0, .inr (.inr (some 103))]) (hₚ := gc_h sh I J A) (C := (True ∧ True)) rfl ⟨trivial, trivial⟩ ?_
  obtain ⟨I44, E43, hI44, g43, q43⟩ := gj_fill (ws0 := ws0) (tb := tb) sh ro I J A hI 103 24 0 S_103 B_103 (by decide) ⟨by omega, by omega⟩ (fun k => by rw [R_103]; exact ⟨by show 0 ≤ _; omega, by show _ ≤ 1536; omega⟩)
  refine gv_callS hD rfl (As := [.inr (.inr (some 103)), .inl 0]) (st := []) rfl (gc_lS1 hws rfl) (Nat.le_of_ble_eq_true rfl) (gz_Ev_mono (d := 1) (by decide) E43) ?_
  have FI44 := gc_frc (W := fun q j => (q = 100 ∧ j = 7) ∨ q = 103) (V := fun q j => q = 103) FI (fun q j h => (Or.inr h)) g43
  have t46 := (g43 100 7).resolve_left (fun h => absurd h (by decide))
  have t47 := (g43 a2 1).resolve_left (fun h => absurd h N_a2__103)
  have t48 := (g43 a1 11).resolve_left (fun h => absurd h N_a1__103)
  have f49 := (gc_b_75_7 hI44 R_100)
  have f50 := (show 0 ≤ I44 a2 1 ∧ I44 a2 1 ≤ 1000 from gc_in2 hI44 R_a2 rfl rfl rfl)
  have f51 := (show 0 ≤ I44 a1 11 ∧ I44 a1 11 ≤ 64 from gc_in2 hI44 R_a1 rfl rfl rfl)
  show gv_X _ _ (8, [(0, .inr (.inr (some 100))), (1, .inr (.inr (some a1))), (2, .inr (.inr (some a2))), (3, .inl a3)], [], sh, gc_h sh I44 J A)
  refine gv_run 2 true hD (pcₚ := 11) (lvₚ := [(4, .inl 0), (0, .inr (.inr (some 100))), (1, .inr (.inr (some a1))), (2, .inr (.inr (some a2))), (3, .inl a3)]) (stₚ := []) (hₚ := gc_h sh I44 J A) (C := ((True ∧ True) ∧ True)) rfl ⟨⟨trivial, trivial⟩, trivial⟩ ?_
  refine gv_pick [1, 2, 3, 4, 0] rfl ?_
  exact L11 _ I44 J 0 (Nat.lt_succ_self _) hI44 FI44 FJ (by omega) (gc_rg_fill (m := 24) q43 (by omega)) (gc_CE_0 (fun k hk => q43 k (by omega)) (by omega) (by omega))
set_option maxHeartbeats 8000000 in
set_option maxRecDepth 100000 in
theorem d_X1_noteGuesses_p {ws0 : List Cond} {tb : String → gz_T} (hws : gc_Ws ws0) (htb : gc_tbs tb) (sh : gz_Sh) (ro : Nat → Nat) (I : gr_I) (J : gr_J) (A : gc_A) (hI : gc_Inv ro I) (a1 : Nat) (a2 : Nat) (hb : gc_Base sh ro A) (h_a1 : gc_isTongue sh ro A a1) (G_a1 : 144 ≤ a1) (h_a2 : gc_isText sh ro A a2) (G_a2 : a2 + 3 < 39) (y9 : ∀ y, fo_al I a1 y → gc_pt I a1 y < I (a1 + 11) 1) : ∃ r hₚ, gz_Ev ws0 tb 4 (yX1_noteGuesses, cX1_noteGuesses, 4, (some .int)) [.inr (.inr (some 100)), .inr (.inr (some a1)), .inr (.inr (some a2))] sh (gc_h sh I J A) r sh hₚ 0 0 ∧ (∃ (Iₚ : gr_I) (Jₚ : gr_J), hₚ = gc_h sh Iₚ Jₚ A ∧ gc_Inv ro Iₚ ∧ (∀ q j : Nat, ((q = 100 ∧ j = 4) ∨ (q = 100 ∧ j = 7) ∨ (q = 100 ∧ j = 8) ∨ q = 102 ∨ q = 103) ∨ Iₚ q j = I q j) ∧ (∀ q j : Nat, (False) ∨ Jₚ q j = J q j) ∧ (∃ z : Int, r = some (.inl z) ∧ (-3) ≤ z ∧ z ≤ 24 ∧ gc_UA I Iₚ a1 a2 z)) := by
  have FI : ∀ q j : Nat, ((q = 100 ∧ j = 4) ∨ (q = 100 ∧ j = 7) ∨ (q = 100 ∧ j = 8) ∨ q = 102 ∨ q = 103) ∨ I q j = I q j := fun _ _ => Or.inr rfl
  have FJ : ∀ q j : Nat, (False) ∨ J q j = J q j := fun _ _ => Or.inr rfl
  have A_100_5 : A 100 5 = some 102 := gc_bA_100_5 hb
  have A_100_6 : A 100 6 = some 103 := gc_bA_100_6 hb
  have B_100 : 100 < 1000000 := by decide
  have B_102 : 102 < 1000000 := by decide
  have B_103 : 103 < 1000000 := by decide
  have R_100 : ro 100 = 75 := gc_bR_100 hb
  have R_102 : ro 102 = 65 := gc_bR_102 hb
  have R_103 : ro 103 = 66 := gc_bR_103 hb
  have S_100 : sh[100]? = some (false, 1, 19) := gc_bS_100 hb
  have S_102 : sh[102]? = some (true, 1, 24) := gc_bS_102 hb
  have S_103 : sh[103]? = some (true, 1, 24) := gc_bS_103 hb
  obtain ⟨S_a1, R_a1, B_a1, A_a1_0, h_a1_1, A_a1_1, h_a1_3, A_a1_2, S_a1_5, R_a1_5, B_a1_5, A_a1_3, S_a1_6, R_a1_6, B_a1_6, A_a1_4, h_a1_7, A_a1_5, S_a1_9, R_a1_9, B_a1_9, A_a1_7, S_a1_10, R_a1_10, B_a1_10, A_a1_8, h_a1_11, A_a1_9, S_a1_13, R_a1_13, B_a1_13, A_a1_10, S_a1_14, R_a1_14, B_a1_14, A_a1_12, S_a1_15, R_a1_15, B_a1_15, A_a1_14, S_a1_16, R_a1_16, B_a1_16, A_a1_15, h_a1_17⟩ := id h_a1
  obtain ⟨S_a1_1, R_a1_1, B_a1_1, A_a1_1_0, S_a1_1_1, R_a1_1_1, B_a1_1_1, Q0_a1_1, Q1_a1_1, Q2_a1_1⟩ := id h_a1_1
  obtain ⟨S_a1_3, R_a1_3, B_a1_3, A_a1_3_0, S_a1_3_1, R_a1_3_1, B_a1_3_1, Q0_a1_3, Q1_a1_3, Q2_a1_3⟩ := id h_a1_3
  obtain ⟨S_a1_7, R_a1_7, B_a1_7, A_a1_7_0, S_a1_7_1, R_a1_7_1, B_a1_7_1, Q0_a1_7, Q1_a1_7, Q2_a1_7⟩ := id h_a1_7
  obtain ⟨S_a1_11, R_a1_11, B_a1_11, A_a1_11_0, S_a1_11_1, R_a1_11_1, B_a1_11_1, Q0_a1_11, Q1_a1_11, Q2_a1_11⟩ := id h_a1_11
  obtain ⟨S_a1_17, R_a1_17, B_a1_17, A_a1_17_0, S_20, R_20, B_20, A_a1_17_1, S_a1_17_1, R_a1_17_1, B_a1_17_1, A_a1_17_2, S_a1_17_2, R_a1_17_2, B_a1_17_2, A_a1_17_3, S_a1_17_3, R_a1_17_3, B_a1_17_3, A_a1_17_4, S_a1_17_4, R_a1_17_4, B_a1_17_4, A_a1_17_5, S_a1_17_5, R_a1_17_5, B_a1_17_5, S_a1_17_6, R_a1_17_6, B_a1_17_6, S_a1_17_7, R_a1_17_7, B_a1_17_7⟩ := id h_a1_17
  obtain ⟨S_a2, R_a2, B_a2, A_a2_0, S_a2_1, R_a2_1, B_a2_1, A_a2_2, S_a2_2, R_a2_2, B_a2_2, A_a2_3, S_a2_3, R_a2_3, B_a2_3⟩ := id h_a2
  have hb9 : ∀ w : Int, fo_cs I a1 w ≤ 24 := fun w => (show 0 ≤ I (a1 + 13) _ ∧ I (a1 + 13) _ ≤ 24 from gc_in2 hI R_a1_13 rfl rfl rfl).2
  have w_64 : I a1 11 ≤ 64 := (show 0 ≤ I a1 11 ∧ I a1 11 ≤ 64 from gc_in2 hI R_a1 rfl rfl rfl).2
  have hb0 : ∀ y : Int, 0 ≤ gc_pt I a1 y := fun y => (show 0 ≤ I (a1 + 15) (Int.toNat (11 * (y / 24)) + 1) ∧ I (a1 + 15) (Int.toNat (11 * (y / 24)) + 1) ≤ 23 from gc_inm (c := 1) hI R_a1_15 rfl rfl (by omega) rfl rfl).1
  have w_p : 0 ≤ I (a1 + 11) 1 := (show 0 ≤ I (a1 + 11) 1 ∧ I (a1 + 11) 1 ≤ 24 from gc_in2 hI R_a1_11 rfl rfl rfl).1
  have hD : gv_D (gc_E1 ws0 tb 3 (yX1_noteGuesses, cX1_noteGuesses, 4, (some .int)) kX1_noteGuesses) := gq_of oX1_noteGuesses
  refine gc_ev1 (d := 3) (l := kX1_noteGuesses) (Po := fun r hₚ => (∃ (Iₚ : gr_I) (Jₚ : gr_J), hₚ = gc_h sh Iₚ Jₚ A ∧ gc_Inv ro Iₚ ∧ (∀ q j : Nat, ((q = 100 ∧ j = 4) ∨ (q = 100 ∧ j = 7) ∨ (q = 100 ∧ j = 8) ∨ q = 102 ∨ q = 103) ∨ Iₚ q j = I q j) ∧ (∀ q j : Nat, (False) ∨ Jₚ q j = J q j) ∧ (∃ z : Int, r = some (.inl z) ∧ (-3) ≤ z ∧ z ≤ 24 ∧ gc_UA I Iₚ a1 a2 z))) htb rfl (Nat.le_of_ble_eq_true rfl) ?_
  have N_a2__102 : ¬ (a2 = 102) := by omega
  have N_a1_11__102 : ¬ ((a1 + 11) = 102) := by omega
  have N_a2__103 : ¬ (a2 = 103) := by omega
  have N_a1_11__103 : ¬ ((a1 + 11) = 103) := by omega
  have f1 := (gc_b_75_4 hI R_100)
  have f2 := (gc_b_75_7 hI R_100)
  have f3 := (show 0 ≤ I a2 1 ∧ I a2 1 ≤ 1000 from gc_in2 hI R_a2 rfl rfl rfl)
  have f4 := (show 0 ≤ I (a1 + 11) 1 ∧ I (a1 + 11) 1 ≤ 24 from gc_in2 hI R_a1_11 rfl rfl rfl)
  have L29 : ∀ (n9 : Nat) (I5 : gr_I) (J6 : gr_J) (v3_7 : Int), (v3_7 - (-1)).toNat < n9 → gc_Inv ro I5 → (∀ q j : Nat, ((q = 100 ∧ j = 4) ∨ (q = 100 ∧ j = 7) ∨ (q = 100 ∧ j = 8) ∨ q = 102 ∨ q = 103) ∨ I5 q j = I q j) → (∀ q j : Nat, (False) ∨ J6 q j = J q j) → ((0 ≤ v3_7 ∧ v3_7 ≤ 4) ∧ (v3_7 ≤ I5 a2 1) ∧ (I5 a2 1 ≤ 24) ∧ (I5 100 4 = 0)) → (gc_29 I I5 a1 a2 v3_7 ∧ v3_7 ≤ gc_L0 (I a2 1)) → gv_X (gc_E1 ws0 tb 3 (yX1_noteGuesses, cX1_noteGuesses, 4, (some .int)) kX1_noteGuesses) (gv_Q cX1_noteGuesses (some .int) sh (fun r hₚ => (∃ (Iₚ : gr_I) (Jₚ : gr_J), hₚ = gc_h sh Iₚ Jₚ A ∧ gc_Inv ro Iₚ ∧ (∀ q j : Nat, ((q = 100 ∧ j = 4) ∨ (q = 100 ∧ j = 7) ∨ (q = 100 ∧ j = 8) ∨ q = 102 ∨ q = 103) ∨ Iₚ q j = I q j) ∧ (∀ q j : Nat, (False) ∨ Jₚ q j = J q j) ∧ (∃ z : Int, r = some (.inl z) ∧ (-3) ≤ z ∧ z ≤ 24 ∧ gc_UA I Iₚ a1 a2 z)))) (29, [(0, .inr (.inr (some 100))), (1, .inr (.inr (some a1))), (2, .inr (.inr (some a2))), (3, .inl v3_7)], [], sh, gc_h sh I5 J6 A) := by
    intro n9
    induction n9 with
    | zero => intro I5 J6 v3_7 hn; omega
    | succ n9 ih29 =>
      intro I5 J6 v3_7 hn hI5 FI5 FJ6 m_7 k_29
      obtain ⟨hv3_7, e0_7, e1_7, e2_7⟩ := m_7
      have f8 := (gc_b_75_4 hI5 R_100)
      have f9 := (gc_b_75_7 hI5 R_100)
      have f10 := (show 0 ≤ I5 a2 1 ∧ I5 a2 1 ≤ 1000 from gc_in2 hI5 R_a2 rfl rfl rfl)
      have f11 := (show 0 ≤ I5 (a1 + 11) 1 ∧ I5 (a1 + 11) 1 ≤ 24 from gc_in2 hI5 R_a1_11 rfl rfl rfl)
      have L58 : ((I5 100 4 = 0)) → (v3_7 ≤ 0 ∨ ¬ I5 100 7 = 0) → gv_X (gc_E1 ws0 tb 3 (yX1_noteGuesses, cX1_noteGuesses, 4, (some .int)) kX1_noteGuesses) (gv_Q cX1_noteGuesses (some .int) sh (fun r hₚ => (∃ (Iₚ : gr_I) (Jₚ : gr_J), hₚ = gc_h sh Iₚ Jₚ A ∧ gc_Inv ro Iₚ ∧ (∀ q j : Nat, ((q = 100 ∧ j = 4) ∨ (q = 100 ∧ j = 7) ∨ (q = 100 ∧ j = 8) ∨ q = 102 ∨ q = 103) ∨ Iₚ q j = I q j) ∧ (∀ q j : Nat, (False) ∨ Jₚ q j = J q j) ∧ (∃ z : Int, r = some (.inl z) ∧ (-3) ≤ z ∧ z ≤ 24 ∧ gc_UA I Iₚ a1 a2 z)))) (58, [(0, .inr (.inr (some 100))), (1, .inr (.inr (some a1)))], [], sh, gc_h sh I5 J6 A) := by
        intro m_12 k_58
        have e0_12 := m_12
        have f13 := (gc_b_75_4 hI5 R_100)
        have f14 := (gc_b_75_7 hI5 R_100)
        have f15 := (show 0 ≤ I5 a2 1 ∧ I5 a2 1 ≤ 1000 from gc_in2 hI5 R_a2 rfl rfl rfl)
        have f16 := (show 0 ≤ I5 (a1 + 11) 1 ∧ I5 (a1 + 11) 1 ≤ 24 from gc_in2 hI5 R_a1_11 rfl rfl rfl)
        have L60 : ∀ (n9 : Nat) (I17 : gr_I) (J18 : gr_J) (v3_19 : Int), (25 - v3_19).toNat < n9 → gc_Inv ro I17 → (∀ q j : Nat, ((q = 100 ∧ j = 4) ∨ (q = 100 ∧ j = 7) ∨ (q = 100 ∧ j = 8) ∨ q = 102 ∨ q = 103) ∨ I17 q j = I q j) → (∀ q j : Nat, (False) ∨ J18 q j = J q j) → ((0 ≤ v3_19 ∧ v3_19 ≤ 24) ∧ (I17 100 4 ≤ v3_19)) → (gc_60 I I17 a1 a2 (Int.toNat v3_19) ∧ v3_19 ≤ I (a1 + 11) 1) → gv_X (gc_E1 ws0 tb 3 (yX1_noteGuesses, cX1_noteGuesses, 4, (some .int)) kX1_noteGuesses) (gv_Q cX1_noteGuesses (some .int) sh (fun r hₚ => (∃ (Iₚ : gr_I) (Jₚ : gr_J), hₚ = gc_h sh Iₚ Jₚ A ∧ gc_Inv ro Iₚ ∧ (∀ q j : Nat, ((q = 100 ∧ j = 4) ∨ (q = 100 ∧ j = 7) ∨ (q = 100 ∧ j = 8) ∨ q = 102 ∨ q = 103) ∨ Iₚ q j = I q j) ∧ (∀ q j : Nat, (False) ∨ Jₚ q j = J q j) ∧ (∃ z : Int, r = some (.inl z) ∧ (-3) ≤ z ∧ z ≤ 24 ∧ gc_UA I Iₚ a1 a2 z)))) (60, [(0, .inr (.inr (some 100))), (1, .inr (.inr (some a1))), (3, .inl v3_19)], [], sh, gc_h sh I17 J18 A) := by
          intro n9
          induction n9 with
          | zero => intro I17 J18 v3_19 hn; omega
          | succ n9 ih60 =>
            intro I17 J18 v3_19 hn hI17 FI17 FJ18 m_19 k_60
            clear e0_12 f13 f14 f15 f16 hv3_7 e0_7 e1_7 e2_7 f8 f9 f10 f11
            have w_11 : I17 (a1 + 11) 1 = I (a1 + 11) 1 := (FI17 (a1 + 11) 1).resolve_left (by omega)
            obtain ⟨hv3_19, e0_19⟩ := m_19
            have f20 := (gc_b_75_4 hI17 R_100)
            have f21 := (gc_b_75_7 hI17 R_100)
            have f22 := (show 0 ≤ I17 a2 1 ∧ I17 a2 1 ≤ 1000 from gc_in2 hI17 R_a2 rfl rfl rfl)
            have f23 := (show 0 ≤ I17 (a1 + 11) 1 ∧ I17 (a1 + 11) 1 ≤ 24 from gc_in2 hI17 R_a1_11 rfl rfl rfl)
            have L122 : ∀ (I24 : gr_I) (J25 : gr_J) , gc_Inv ro I24 → (∀ q j : Nat, ((q = 100 ∧ j = 4) ∨ (q = 100 ∧ j = 7) ∨ (q = 100 ∧ j = 8) ∨ q = 102 ∨ q = 103) ∨ I24 q j = I q j) → (∀ q j : Nat, (False) ∨ J25 q j = J q j) → ((0 ≤ v3_19 ∧ v3_19 ≤ 24) ∧ (I24 100 4 ≤ v3_19 + 1) ∧ (v3_19 ≤ 23)) → (gc_60 I I24 a1 a2 (Int.toNat v3_19 + 1) ∧ v3_19 < I (a1 + 11) 1) → gv_X (gc_E1 ws0 tb 3 (yX1_noteGuesses, cX1_noteGuesses, 4, (some .int)) kX1_noteGuesses) (gv_Q cX1_noteGuesses (some .int) sh (fun r hₚ => (∃ (Iₚ : gr_I) (Jₚ : gr_J), hₚ = gc_h sh Iₚ Jₚ A ∧ gc_Inv ro Iₚ ∧ (∀ q j : Nat, ((q = 100 ∧ j = 4) ∨ (q = 100 ∧ j = 7) ∨ (q = 100 ∧ j = 8) ∨ q = 102 ∨ q = 103) ∨ Iₚ q j = I q j) ∧ (∀ q j : Nat, (False) ∨ Jₚ q j = J q j) ∧ (∃ z : Int, r = some (.inl z) ∧ (-3) ≤ z ∧ z ≤ 24 ∧ gc_UA I Iₚ a1 a2 z)))) (122, [(0, .inr (.inr (some 100))), (1, .inr (.inr (some a1))), (3, .inl v3_19)], [], sh, gc_h sh I24 J25 A) := by
              intro I24 J25 hI24 FI24 FJ25 m_26 k_122
              clear hv3_19 e0_19 f20 f21 f22 f23
              obtain ⟨hv3_19_26, e0_26, e1_26⟩ := m_26
              have f27 := (gc_b_75_4 hI24 R_100)
              have f28 := (gc_b_75_7 hI24 R_100)
              have f29 := (show 0 ≤ I24 a2 1 ∧ I24 a2 1 ≤ 1000 from gc_in2 hI24 R_a2 rfl rfl rfl)
              have f30 := (show 0 ≤ I24 (a1 + 11) 1 ∧ I24 (a1 + 11) 1 ≤ 24 from gc_in2 hI24 R_a1_11 rfl rfl rfl)
              refine gv_run 2 true hD (pcₚ := 60) (lvₚ := [(3, .inl (v3_19 + 1)), (0, .inr (.inr (some 100))), (1, .inr (.inr (some a1)))]) (stₚ := []) (hₚ := gc_h sh I24 J25 A) (C := ((True ∧ True) ∧ True)) rfl ⟨⟨trivial, trivial⟩, trivial⟩ ?_
              refine gv_pick [1, 2, 0] rfl ?_
              exact ih60 I24 J25 (v3_19 + 1) (by omega) hI24 FI24 FJ25 (by omega) ⟨by rw [show Int.toNat (v3_19 + 1) = Int.toNat v3_19 + 1 from by omega]; exact k_122.1, by omega⟩
            have L128 : (I (a1 + 11) 1 ≤ v3_19 ∨ I17 100 7 ≤ 0) → gv_X (gc_E1 ws0 tb 3 (yX1_noteGuesses, cX1_noteGuesses, 4, (some .int)) kX1_noteGuesses) (gv_Q cX1_noteGuesses (some .int) sh (fun r hₚ => (∃ (Iₚ : gr_I) (Jₚ : gr_J), hₚ = gc_h sh Iₚ Jₚ A ∧ gc_Inv ro Iₚ ∧ (∀ q j : Nat, ((q = 100 ∧ j = 4) ∨ (q = 100 ∧ j = 7) ∨ (q = 100 ∧ j = 8) ∨ q = 102 ∨ q = 103) ∨ Iₚ q j = I q j) ∧ (∀ q j : Nat, (False) ∨ Jₚ q j = J q j) ∧ (∃ z : Int, r = some (.inl z) ∧ (-3) ≤ z ∧ z ≤ 24 ∧ gc_UA I Iₚ a1 a2 z)))) (128, [(0, .inr (.inr (some 100)))], [], sh, gc_h sh I17 J18 A) := by
              intro k_128
              have f32 := (gc_b_75_4 hI17 R_100)
              have f33 := (gc_b_75_7 hI17 R_100)
              have f34 := (show 0 ≤ I17 a2 1 ∧ I17 a2 1 ≤ 1000 from gc_in2 hI17 R_a2 rfl rfl rfl)
              have f35 := (show 0 ≤ I17 (a1 + 11) 1 ∧ I17 (a1 + 11) 1 ≤ 24 from gc_in2 hI17 R_a1_11 rfl rfl rfl)
              refine gv_run 1 true hD (pcₚ := 129) (lvₚ := [(0, .inr (.inr (some 100)))]) (stₚ := [.inr (.inr (some 100))]) (hₚ := gc_h sh I17 J18 A) (C := (True ∧ True)) rfl ⟨trivial, trivial⟩ ?_
              have f36 := (gc_b_75_4 hI17 R_100)
              refine gv_get hD rfl rfl S_100 ⟨by decide, B_100⟩ (gc_hI S_100 rfl) ?_
              show gv_X _ _ (132, [(0, .inr (.inr (some 100)))], [.inl (I17 100 4)], sh, gc_h sh I17 J18 A)
              exact gv_iret hD rfl ⟨I17, J18, rfl, hI17, FI17, FJ18, ⟨_, rfl, by omega, by omega, Or.inl ⟨k_60.1.1, rfl, gc_60_e k_60.1 (by omega) (by omega) (show (0 : Int) ≤ I17 100 7 ∧ I17 100 7 ≤ 1536 from gc_in hI17 R_100 rfl rfl).1 hb0 y9⟩⟩⟩
            refine gv_run 2 true hD (pcₚ := 62) (lvₚ := [(0, .inr (.inr (some 100))), (1, .inr (.inr (some a1))), (3, .inl v3_19)]) (stₚ := [.inr (.inr (some a1)), .inl v3_19]) (hₚ := gc_h sh I17 J18 A) (C := ((True ∧ True) ∧ True)) rfl ⟨⟨trivial, trivial⟩, trivial⟩ ?_
            refine gv_get hD rfl rfl S_a1 ⟨by decide, B_a1⟩ (gc_hA S_a1 rfl A_a1_8) ?_
            show gv_X _ _ (65, [(0, .inr (.inr (some 100))), (1, .inr (.inr (some a1))), (3, .inl v3_19)], [.inr (.inr (some (a1 + 11))), .inl v3_19], sh, gc_h sh I17 J18 A)
            have f37 := (show 0 ≤ I17 (a1 + 11) 1 ∧ I17 (a1 + 11) 1 ≤ 24 from gc_in2 hI17 R_a1_11 rfl rfl rfl)
            refine gv_get hD rfl rfl S_a1_11 ⟨by decide, B_a1_11⟩ (gc_hI S_a1_11 rfl) ?_
            show gv_X _ _ (68, [(0, .inr (.inr (some 100))), (1, .inr (.inr (some a1))), (3, .inl v3_19)], [.inl (I17 (a1 + 11) 1), .inl v3_19], sh, gc_h sh I17 J18 A)
            refine gv_icmp_ge (t := 128) hD rfl rfl ⟨⟨by omega, by omega⟩, ⟨by omega, by omega⟩⟩ (fun c38 => ?_) (fun c38 => ?_)
            · show gv_X _ _ (128, [(0, .inr (.inr (some 100))), (1, .inr (.inr (some a1))), (3, .inl v3_19)], [], sh, gc_h sh I17 J18 A)
              refine gv_pick [0] rfl ?_
              exact L128 (Or.inl (by omega))
            · show gv_X _ _ (71, [(0, .inr (.inr (some 100))), (1, .inr (.inr (some a1))), (3, .inl v3_19)], [], sh, gc_h sh I17 J18 A)
              refine gv_run 1 true hD (pcₚ := 72) (lvₚ := [(0, .inr (.inr (some 100))), (1, .inr (.inr (some a1))), (3, .inl v3_19)]) (stₚ := [.inr (.inr (some 100))]) (hₚ := gc_h sh I17 J18 A) (C := (True ∧ True)) rfl ⟨trivial, trivial⟩ ?_
              have f39 := (gc_b_75_7 hI17 R_100)
              refine gv_get hD rfl rfl S_100 ⟨by decide, B_100⟩ (gc_hI S_100 rfl) ?_
              show gv_X _ _ (75, [(0, .inr (.inr (some 100))), (1, .inr (.inr (some a1))), (3, .inl v3_19)], [.inl (I17 100 7)], sh, gc_h sh I17 J18 A)
              refine gv_if_le (t := 128) hD rfl rfl ⟨by omega, by omega⟩ (fun c40 => ?_) (fun c40 => ?_)
              · show gv_X _ _ (128, [(0, .inr (.inr (some 100))), (1, .inr (.inr (some a1))), (3, .inl v3_19)], [], sh, gc_h sh I17 J18 A)
                refine gv_pick [0] rfl ?_
                exact L128 (Or.inr (by omega))
              · show gv_X _ _ (78, [(0, .inr (.inr (some 100))), (1, .inr (.inr (some a1))), (3, .inl v3_19)], [], sh, gc_h sh I17 J18 A)
                refine gv_run 1 true hD (pcₚ := 79) (lvₚ := [(0, .inr (.inr (some 100))), (1, .inr (.inr (some a1))), (3, .inl v3_19)]) (stₚ := [.inr (.inr (some 100))]) (hₚ := gc_h sh I17 J18 A) (C := (True ∧ True)) rfl ⟨trivial, trivial⟩ ?_
                refine gv_get hD rfl rfl S_100 ⟨by decide, B_100⟩ (gc_hA S_100 rfl A_100_6) ?_
                show gv_X _ _ (82, [(0, .inr (.inr (some 100))), (1, .inr (.inr (some a1))), (3, .inl v3_19)], [.inr (.inr (some 103))], sh, gc_h sh I17 J18 A)
                refine gv_run 1 true hD (pcₚ := 83) (lvₚ := [(0, .inr (.inr (some 100))), (1, .inr (.inr (some a1))), (3, .inl v3_19)]) (stₚ := [.inl v3_19, .inr (.inr (some 103))]) (hₚ := gc_h sh I17 J18 A) (C := (True ∧ True)) rfl ⟨trivial, trivial⟩ ?_
                have f41 := (gc_b_66 hI17 R_103 (Int.toNat v3_19))
                refine gv_iald hD rfl S_103 rfl ⟨by decide, B_103⟩ ⟨by omega, by omega⟩ (gc_iI S_103 rfl) ?_
                show gv_X _ _ (84, [(0, .inr (.inr (some 100))), (1, .inr (.inr (some a1))), (3, .inl v3_19)], [.inl (I17 103 (Int.toNat v3_19))], sh, gc_h sh I17 J18 A)
                refine gv_if_le (t := 122) hD rfl rfl ⟨by omega, by omega⟩ (fun c42 => ?_) (fun c42 => ?_)
                · show gv_X _ _ (122, [(0, .inr (.inr (some 100))), (1, .inr (.inr (some a1))), (3, .inl v3_19)], [], sh, gc_h sh I17 J18 A)
                  exact L122 I17 J18 hI17 FI17 FJ18 (by omega) ⟨gc_60_n k_60.1 (fun _ => by omega) (by omega) (fo_al_b hb9 w_64) rfl, by omega⟩
                · show gv_X _ _ (87, [(0, .inr (.inr (some 100))), (1, .inr (.inr (some a1))), (3, .inl v3_19)], [], sh, gc_h sh I17 J18 A)
                  refine gv_run 1 true hD (pcₚ := 88) (lvₚ := [(0, .inr (.inr (some 100))), (1, .inr (.inr (some a1))), (3, .inl v3_19)]) (stₚ := [.inr (.inr (some 100))]) (hₚ := gc_h sh I17 J18 A) (C := (True ∧ True)) rfl ⟨trivial, trivial⟩ ?_
                  refine gv_get hD rfl rfl S_100 ⟨by decide, B_100⟩ (gc_hA S_100 rfl A_100_5) ?_
                  show gv_X _ _ (91, [(0, .inr (.inr (some 100))), (1, .inr (.inr (some a1))), (3, .inl v3_19)], [.inr (.inr (some 102))], sh, gc_h sh I17 J18 A)
                  refine gv_run 1 true hD (pcₚ := 92) (lvₚ := [(0, .inr (.inr (some 100))), (1, .inr (.inr (some a1))), (3, .inl v3_19)]) (stₚ := [.inr (.inr (some 100)), .inr (.inr (some 102))]) (hₚ := gc_h sh I17 J18 A) (C := (True ∧ True)) rfl ⟨trivial, trivial⟩ ?_
                  have f43 := (gc_b_75_4 hI17 R_100)
                  refine gv_get hD rfl rfl S_100 ⟨by decide, B_100⟩ (gc_hI S_100 rfl) ?_
                  show gv_X _ _ (95, [(0, .inr (.inr (some 100))), (1, .inr (.inr (some a1))), (3, .inl v3_19)], [.inl (I17 100 4), .inr (.inr (some 102))], sh, gc_h sh I17 J18 A)
                  refine gv_run 1 true hD (pcₚ := 96) (lvₚ := [(0, .inr (.inr (some 100))), (1, .inr (.inr (some a1))), (3, .inl v3_19)]) (stₚ := [.inl v3_19, .inl (I17 100 4), .inr (.inr (some 102))]) (hₚ := gc_h sh I17 J18 A) (C := (True ∧ True)) rfl ⟨trivial, trivial⟩ ?_
                  refine gv_iast hD rfl S_102 ⟨by decide, B_102⟩ ⟨by omega, by omega⟩ ?_
                  refine gc_st hI17 S_102 rfl R_102 (lo := 0) (hi := 23) rfl rfl (by omega) (by omega) (fun I44 hI44 q45 p45 => ?_)
                  have FI44 := gc_frs (W := fun q j => (q = 100 ∧ j = 4) ∨ (q = 100 ∧ j = 7) ∨ (q = 100 ∧ j = 8) ∨ q = 102 ∨ q = 103) FI17 (Or.inr (Or.inr (Or.inr (Or.inl rfl)))) p45
                  have t46 := p45 100 4 (fun h => absurd h.1 (by decide))
                  have t47 := p45 100 7 (fun h => absurd h.1 (by decide))
                  have t48 := p45 a2 1 (fun h => absurd h.1 N_a2__102)
                  have t49 := p45 (a1 + 11) 1 (fun h => absurd h.1 N_a1_11__102)
                  show gv_X _ _ (97, [(0, .inr (.inr (some 100))), (1, .inr (.inr (some a1))), (3, .inl v3_19)], [], sh, gc_h sh I44 J18 A)
                  refine gv_run 1 true hD (pcₚ := 98) (lvₚ := [(0, .inr (.inr (some 100))), (1, .inr (.inr (some a1))), (3, .inl v3_19)]) (stₚ := [.inr (.inr (some 100))]) (hₚ := gc_h sh I44 J18 A) (C := (True ∧ True)) rfl ⟨trivial, trivial⟩ ?_
                  refine gv_get hD rfl rfl S_100 ⟨by decide, B_100⟩ (gc_hA S_100 rfl A_100_6) ?_
                  show gv_X _ _ (101, [(0, .inr (.inr (some 100))), (1, .inr (.inr (some a1))), (3, .inl v3_19)], [.inr (.inr (some 103))], sh, gc_h sh I44 J18 A)
                  refine gv_run 1 true hD (pcₚ := 102) (lvₚ := [(0, .inr (.inr (some 100))), (1, .inr (.inr (some a1))), (3, .inl v3_19)]) (stₚ := [.inr (.inr (some 100)), .inr (.inr (some 103))]) (hₚ := gc_h sh I44 J18 A) (C := (True ∧ True)) rfl ⟨trivial, trivial⟩ ?_
                  have f50 := (gc_b_75_4 hI44 R_100)
                  refine gv_get hD rfl rfl S_100 ⟨by decide, B_100⟩ (gc_hI S_100 rfl) ?_
                  show gv_X _ _ (105, [(0, .inr (.inr (some 100))), (1, .inr (.inr (some a1))), (3, .inl v3_19)], [.inl (I44 100 4), .inr (.inr (some 103))], sh, gc_h sh I44 J18 A)
                  refine gv_run 1 true hD (pcₚ := 106) (lvₚ := [(0, .inr (.inr (some 100))), (1, .inr (.inr (some a1))), (3, .inl v3_19)]) (stₚ := [.inr (.inr (some 100)), .inl (I44 100 4), .inr (.inr (some 103))]) (hₚ := gc_h sh I44 J18 A) (C := (True ∧ True)) rfl ⟨trivial, trivial⟩ ?_
                  refine gv_get hD rfl rfl S_100 ⟨by decide, B_100⟩ (gc_hA S_100 rfl A_100_6) ?_
                  show gv_X _ _ (109, [(0, .inr (.inr (some 100))), (1, .inr (.inr (some a1))), (3, .inl v3_19)], [.inr (.inr (some 103)), .inl (I44 100 4), .inr (.inr (some 103))], sh, gc_h sh I44 J18 A)
                  refine gv_run 1 true hD (pcₚ := 110) (lvₚ := [(0, .inr (.inr (some 100))), (1, .inr (.inr (some a1))), (3, .inl v3_19)]) (stₚ := [.inl v3_19, .inr (.inr (some 103)), .inl (I44 100 4), .inr (.inr (some 103))]) (hₚ := gc_h sh I44 J18 A) (C := (True ∧ True)) rfl ⟨trivial, trivial⟩ ?_
                  have f51 := (gc_b_66 hI44 R_103 (Int.toNat v3_19))
                  refine gv_iald hD rfl S_103 rfl ⟨by decide, B_103⟩ ⟨by omega, by omega⟩ (gc_iI S_103 rfl) ?_
                  show gv_X _ _ (111, [(0, .inr (.inr (some 100))), (1, .inr (.inr (some a1))), (3, .inl v3_19)], [.inl (I44 103 (Int.toNat v3_19)), .inl (I44 100 4), .inr (.inr (some 103))], sh, gc_h sh I44 J18 A)
                  refine gv_iast hD rfl S_103 ⟨by decide, B_103⟩ ⟨by omega, by omega⟩ ?_
                  refine gc_st hI44 S_103 rfl R_103 (lo := 0) (hi := 1536) rfl rfl (by omega) (by omega) (fun I52 hI52 q53 p53 => ?_)
                  have FI52 := gc_frs (W := fun q j => (q = 100 ∧ j = 4) ∨ (q = 100 ∧ j = 7) ∨ (q = 100 ∧ j = 8) ∨ q = 102 ∨ q = 103) FI44 (Or.inr (Or.inr (Or.inr (Or.inr rfl)))) p53
                  have t54 := p53 100 4 (fun h => absurd h.1 (by decide))
                  have t55 := p53 100 7 (fun h => absurd h.1 (by decide))
                  have t56 := p53 a2 1 (fun h => absurd h.1 N_a2__103)
                  have t57 := p53 (a1 + 11) 1 (fun h => absurd h.1 N_a1_11__103)
                  show gv_X _ _ (112, [(0, .inr (.inr (some 100))), (1, .inr (.inr (some a1))), (3, .inl v3_19)], [], sh, gc_h sh I52 J18 A)
                  refine gv_run 2 true hD (pcₚ := 114) (lvₚ := [(0, .inr (.inr (some 100))), (1, .inr (.inr (some a1))), (3, .inl v3_19)]) (stₚ := [.inr (.inr (some 100)), .inr (.inr (some 100))]) (hₚ := gc_h sh I52 J18 A) (C := ((True ∧ True) ∧ True)) rfl ⟨⟨trivial, trivial⟩, trivial⟩ ?_
                  have f58 := (gc_b_75_4 hI52 R_100)
                  refine gv_get hD rfl rfl S_100 ⟨by decide, B_100⟩ (gc_hI S_100 rfl) ?_
                  show gv_X _ _ (117, [(0, .inr (.inr (some 100))), (1, .inr (.inr (some a1))), (3, .inl v3_19)], [.inl (I52 100 4), .inr (.inr (some 100))], sh, gc_h sh I52 J18 A)
                  refine gv_run 2 true hD (pcₚ := 119) (lvₚ := [(0, .inr (.inr (some 100))), (1, .inr (.inr (some a1))), (3, .inl v3_19)]) (stₚ := [.inl ((I52 100 4) + 1), .inr (.inr (some 100))]) (hₚ := gc_h sh I52 J18 A) (C := ((True ∧ True) ∧ True)) rfl ⟨⟨trivial, trivial⟩, trivial⟩ ?_
                  refine gv_put hD rfl rfl S_100 ⟨by decide, B_100⟩ rfl trivial ?_
                  refine gc_st (k := 4) hI52 S_100 rfl R_100 (lo := 0) (hi := 24) rfl rfl (by omega) (by omega) (fun I59 hI59 q60 p60 => ?_)
                  have FI59 := gc_frs (W := fun q j => (q = 100 ∧ j = 4) ∨ (q = 100 ∧ j = 7) ∨ (q = 100 ∧ j = 8) ∨ q = 102 ∨ q = 103) FI52 (Or.inl ⟨rfl, rfl⟩) p60
                  have t61 := p60 100 7 (fun h => absurd h.2 (by decide))
                  have t62 := p60 a2 1 (fun h => absurd h.2 (by decide))
                  have t63 := p60 (a1 + 11) 1 (fun h => absurd h.2 (by decide))
                  have f64 := (gc_b_75_4 hI59 R_100)
                  show gv_X _ _ (122, [(0, .inr (.inr (some 100))), (1, .inr (.inr (some a1))), (3, .inl v3_19)], [], sh, gc_h sh I59 J18 A)
                  exact L122 I59 J18 hI59 FI59 FJ18 (by omega) ⟨gc_60_y k_60.1 (by omega) (by omega) (by omega) rfl (by omega) (by omega) ((p60 100 8 (fun h => absurd h.2 (by decide))).trans ((p53 100 8 (fun h => absurd h.1 (by decide))).trans (p45 100 8 (fun h => absurd h.1 (by decide))))) (by omega) ((p60 102 _ (fun h => absurd h.1 (by decide))).trans ((p53 102 _ (fun h => absurd h.1 (by decide))).trans (q45.trans (by omega)))) (fun j hj => (p60 102 j (fun h => absurd h.1 (by decide))).trans ((p53 102 j (fun h => absurd h.1 (by decide))).trans (p45 102 j (fun h => hj h.2)))) ((p60 103 _ (fun h => absurd h.1 (by decide))).trans (by rw [show Int.toNat (I17 100 4) = Int.toNat (I44 100 4) from by omega]; exact q53.trans (p45 103 _ (fun h => absurd h.1 (by decide))))) (fun j hj => (p60 103 j (fun h => absurd h.1 (by decide))).trans ((p53 103 j (fun h => hj (by have := h.2; omega))).trans (p45 103 j (fun h => absurd h.1 (by decide))))), by omega⟩
        refine gv_run 2 true hD (pcₚ := 60) (lvₚ := [(3, .inl 0), (0, .inr (.inr (some 100))), (1, .inr (.inr (some a1)))]) (stₚ := []) (hₚ := gc_h sh I5 J6 A) (C := ((True ∧ True) ∧ True)) rfl ⟨⟨trivial, trivial⟩, trivial⟩ ?_
        refine gv_pick [1, 2, 0] rfl ?_
        exact L60 _ I5 J6 0 (Nat.lt_succ_self _) hI5 FI5 FJ6 (by omega) ⟨gc_60_0 k_29.1 k_58 (by omega) (by omega) (by omega), by omega⟩
      refine gv_run 1 true hD (pcₚ := 30) (lvₚ := [(0, .inr (.inr (some 100))), (1, .inr (.inr (some a1))), (2, .inr (.inr (some a2))), (3, .inl v3_7)]) (stₚ := [.inl v3_7]) (hₚ := gc_h sh I5 J6 A) (C := (True ∧ True)) rfl ⟨trivial, trivial⟩ ?_
      refine gv_if_le (t := 58) hD rfl rfl ⟨by omega, by omega⟩ (fun c65 => ?_) (fun c65 => ?_)
      · show gv_X _ _ (58, [(0, .inr (.inr (some 100))), (1, .inr (.inr (some a1))), (2, .inr (.inr (some a2))), (3, .inl v3_7)], [], sh, gc_h sh I5 J6 A)
        refine gv_pick [0, 1] rfl ?_
        exact L58 (by omega) (Or.inl (by omega))
      · show gv_X _ _ (33, [(0, .inr (.inr (some 100))), (1, .inr (.inr (some a1))), (2, .inr (.inr (some a2))), (3, .inl v3_7)], [], sh, gc_h sh I5 J6 A)
        refine gv_run 1 true hD (pcₚ := 34) (lvₚ := [(0, .inr (.inr (some 100))), (1, .inr (.inr (some a1))), (2, .inr (.inr (some a2))), (3, .inl v3_7)]) (stₚ := [.inr (.inr (some 100))]) (hₚ := gc_h sh I5 J6 A) (C := (True ∧ True)) rfl ⟨trivial, trivial⟩ ?_
        have f66 := (gc_b_75_7 hI5 R_100)
        refine gv_get hD rfl rfl S_100 ⟨by decide, B_100⟩ (gc_hI S_100 rfl) ?_
        show gv_X _ _ (37, [(0, .inr (.inr (some 100))), (1, .inr (.inr (some a1))), (2, .inr (.inr (some a2))), (3, .inl v3_7)], [.inl (I5 100 7)], sh, gc_h sh I5 J6 A)
        refine gv_if_ne (t := 58) hD rfl rfl ⟨by omega, by omega⟩ (fun c67 => ?_) (fun c67 => ?_)
        · show gv_X _ _ (58, [(0, .inr (.inr (some 100))), (1, .inr (.inr (some a1))), (2, .inr (.inr (some a2))), (3, .inl v3_7)], [], sh, gc_h sh I5 J6 A)
          refine gv_pick [0, 1] rfl ?_
          exact L58 (by omega) (Or.inr (by omega))
        · show gv_X _ _ (40, [(0, .inr (.inr (some 100))), (1, .inr (.inr (some a1))), (2, .inr (.inr (some a2))), (3, .inl v3_7)], [], sh, gc_h sh I5 J6 A)
          refine gv_run 2 true hD (pcₚ := 42) (lvₚ := [(0, .inr (.inr (some 100))), (1, .inr (.inr (some a1))), (2, .inr (.inr (some a2))), (3, .inl v3_7)]) (stₚ := [.inl v3_7, .inr (.inr (some 100))]) (hₚ := gc_h sh I5 J6 A) (C := ((True ∧ True) ∧ True)) rfl ⟨⟨trivial, trivial⟩, trivial⟩ ?_
          refine gv_put hD rfl rfl S_100 ⟨by decide, B_100⟩ rfl trivial ?_
          refine gc_st (k := 8) hI5 S_100 rfl R_100 (lo := 0) (hi := 4) rfl rfl (by omega) (by omega) (fun I68 hI68 q69 p69 => ?_)
          have FI68 := gc_frs (W := fun q j => (q = 100 ∧ j = 4) ∨ (q = 100 ∧ j = 7) ∨ (q = 100 ∧ j = 8) ∨ q = 102 ∨ q = 103) FI5 (Or.inr (Or.inr (Or.inl ⟨rfl, rfl⟩))) p69
          have t70 := p69 100 4 (fun h => absurd h.2 (by decide))
          have t71 := p69 100 7 (fun h => absurd h.2 (by decide))
          have t72 := p69 a2 1 (fun h => absurd h.2 (by decide))
          have t73 := p69 (a1 + 11) 1 (fun h => absurd h.2 (by decide))
          show gv_X _ _ (45, [(0, .inr (.inr (some 100))), (1, .inr (.inr (some a1))), (2, .inr (.inr (some a2))), (3, .inl v3_7)], [], sh, gc_h sh I68 J6 A)
          refine gv_run 4 true hD (pcₚ := 49) (lvₚ := [(0, .inr (.inr (some 100))), (1, .inr (.inr (some a1))), (2, .inr (.inr (some a2))), (3, .inl v3_7)]) (stₚ := [.inl v3_7, .inr (.inr (some a2)), .inr (.inr (some a1)), .inr (.inr (some 100))]) (hₚ := gc_h sh I68 J6 A) (C := ((((True ∧ True) ∧ True) ∧ True) ∧ True)) rfl ⟨⟨⟨⟨trivial, trivial⟩, trivial⟩, trivial⟩, trivial⟩ ?_
          obtain ⟨r74, h74, E74, P74⟩ := d_X1_countEndings_p (ws0 := ws0) (tb := tb) hws htb sh ro I68 J6 A hI68  a1 a2 v3_7 hb h_a1 G_a1 h_a2 G_a2  ⟨by omega, by omega⟩ (by omega) (by omega) (by omega) 
          obtain ⟨I75, J76, rfl, hI75, g74, k74, rfl, q_74⟩ := P74
          have FI75 := gc_frc (W := fun q j => (q = 100 ∧ j = 4) ∨ (q = 100 ∧ j = 7) ∨ (q = 100 ∧ j = 8) ∨ q = 102 ∨ q = 103) (V := fun q j => (q = 100 ∧ j = 7) ∨ q = 103) FI68 (fun q j h => (h.elim (fun h => (Or.inr (Or.inl h))) (fun h => (Or.inr (Or.inr (Or.inr (Or.inr h))))))) g74
          have t77 := (g74 100 4).resolve_left (fun h => h.elim (fun h => absurd h.2 (by decide)) (fun h => absurd h (by decide)))
          have t78 := (g74 a2 1).resolve_left (fun h => h.elim (fun h => absurd h.2 (by decide)) (fun h => absurd h N_a2__103))
          have t79 := (g74 (a1 + 11) 1).resolve_left (fun h => h.elim (fun h => absurd h.2 (by decide)) (fun h => absurd h N_a1_11__103))
          have f80 := (gc_b_75_7 hI75 R_100)
          obtain rfl : J6 = J76 := funext fun q => funext fun j => ((k74 q j).resolve_left id).symm
          refine gv_callV hD rfl (As := [.inr (.inr (some a1)), .inr (.inr (some a2)), .inl v3_7]) (st := []) rfl B_100 S_100 rfl (gc_lV1 hws rfl) (Nat.le_of_ble_eq_true rfl) (gz_Ev_mono (d := 3) (by decide) E74) ?_
          show gv_X _ _ (52, [(0, .inr (.inr (some 100))), (1, .inr (.inr (some a1))), (2, .inr (.inr (some a2))), (3, .inl v3_7)], [], sh, gc_h sh I75 J6 A)
          refine gv_run 2 true hD (pcₚ := 29) (lvₚ := [(3, .inl (v3_7 + (-1))), (0, .inr (.inr (some 100))), (1, .inr (.inr (some a1))), (2, .inr (.inr (some a2)))]) (stₚ := []) (hₚ := gc_h sh I75 J6 A) (C := ((True ∧ True) ∧ True)) rfl ⟨⟨trivial, trivial⟩, trivial⟩ ?_
          refine gv_pick [1, 2, 3, 0] rfl ?_
          exact ih29 I75 J6 ((v3_7 + (-1))) (by omega) hI75 FI75 FJ6 (by omega) ⟨gc_29_s k_29.1 (by omega) (gc_CE_I q_74 (fun q j h => (FI68 q j).resolve_left (by omega)) ((FI68 a1 11).resolve_left (by omega)) ((FI68 a2 1).resolve_left (by omega))) (fo_al_b hb9 w_64) (((g74 100 8).resolve_left (by omega)).trans q69) (by omega) (by omega), by omega⟩
  refine gv_run 2 true hD (pcₚ := 2) (lvₚ := [(0, .inr (.inr (some 100))), (1, .inr (.inr (some a1))), (2, .inr (.inr (some a2)))]) (stₚ := [.inl 0, .inr (.inr (some 100))]) (hₚ := gc_h sh I J A) (C := ((True ∧ True) ∧ True)) rfl ⟨⟨trivial, trivial⟩, trivial⟩ ?_
  refine gv_put hD rfl rfl S_100 ⟨by decide, B_100⟩ rfl trivial ?_
  refine gc_st (k := 4) hI S_100 rfl R_100 (lo := 0) (hi := 24) rfl rfl (by omega) (by omega) (fun I81 hI81 q82 p82 => ?_)
  have FI81 := gc_frs (W := fun q j => (q = 100 ∧ j = 4) ∨ (q = 100 ∧ j = 7) ∨ (q = 100 ∧ j = 8) ∨ q = 102 ∨ q = 103) FI (Or.inl ⟨rfl, rfl⟩) p82
  have t83 := p82 100 7 (fun h => absurd h.2 (by decide))
  have t84 := p82 a2 1 (fun h => absurd h.2 (by decide))
  have t85 := p82 (a1 + 11) 1 (fun h => absurd h.2 (by decide))
  have f86 := (gc_b_75_4 hI81 R_100)
  show gv_X _ _ (5, [(0, .inr (.inr (some 100))), (1, .inr (.inr (some a1))), (2, .inr (.inr (some a2)))], [], sh, gc_h sh I81 J A)
  refine gv_run 2 true hD (pcₚ := 7) (lvₚ := [(0, .inr (.inr (some 100))), (1, .inr (.inr (some a1))), (2, .inr (.inr (some a2)))]) (stₚ := [.inl 0, .inr (.inr (some 100))]) (hₚ := gc_h sh I81 J A) (C := ((True ∧ True) ∧ True)) rfl ⟨⟨trivial, trivial⟩, trivial⟩ ?_
  refine gv_put hD rfl rfl S_100 ⟨by decide, B_100⟩ rfl trivial ?_
  refine gc_st (k := 7) hI81 S_100 rfl R_100 (lo := 0) (hi := 1536) rfl rfl (by omega) (by omega) (fun I87 hI87 q88 p88 => ?_)
  have FI87 := gc_frs (W := fun q j => (q = 100 ∧ j = 4) ∨ (q = 100 ∧ j = 7) ∨ (q = 100 ∧ j = 8) ∨ q = 102 ∨ q = 103) FI81 (Or.inr (Or.inl ⟨rfl, rfl⟩)) p88
  have t89 := p88 100 4 (fun h => absurd h.2 (by decide))
  have t90 := p88 a2 1 (fun h => absurd h.2 (by decide))
  have t91 := p88 (a1 + 11) 1 (fun h => absurd h.2 (by decide))
  have f92 := (gc_b_75_7 hI87 R_100)
  show gv_X _ _ (10, [(0, .inr (.inr (some 100))), (1, .inr (.inr (some a1))), (2, .inr (.inr (some a2)))], [], sh, gc_h sh I87 J A)
  refine gv_run 1 true hD (pcₚ := 11) (lvₚ := [(0, .inr (.inr (some 100))), (1, .inr (.inr (some a1))), (2, .inr (.inr (some a2)))]) (stₚ := [.inr (.inr (some a2))]) (hₚ := gc_h sh I87 J A) (C := (True ∧ True)) rfl ⟨trivial, trivial⟩ ?_
  obtain ⟨r93, h93, E93, P93⟩ := d_X9_isWord_p (ws0 := ws0) (tb := tb) hws htb sh ro I87 J A hI87 a2  h_a2     
  obtain ⟨rfl, ⟨z93, rfl, q93⟩⟩ := P93
  have w_1 : I87 a2 1 = I a2 1 := (FI87 a2 1).resolve_left (by omega)
  have w_2 : I87 (a2 + 1) = I (a2 + 1) := funext fun k => (FI87 (a2 + 1) k).resolve_left (by omega)
  have w_d := q93.2.2.2
  rw [w_1, w_2] at w_d
  replace q93 := And.intro q93.1 (And.intro q93.2.1 q93.2.2.1)
  refine gv_callV hD rfl (As := []) (st := []) rfl B_a2 S_a2 rfl (gc_lV1 hws rfl) (Nat.le_of_ble_eq_true rfl) (gz_Ev_mono (d := 2) (by decide) E93) ?_
  show gv_X _ _ (14, [(0, .inr (.inr (some 100))), (1, .inr (.inr (some a1))), (2, .inr (.inr (some a2)))], [.inl z93], sh, gc_h sh I87 J A)
  refine gv_if_ne (t := 20) hD rfl rfl ⟨by omega, by omega⟩ (fun c94 => ?_) (fun c94 => ?_)
  · show gv_X _ _ (20, [(0, .inr (.inr (some 100))), (1, .inr (.inr (some a1))), (2, .inr (.inr (some a2)))], [], sh, gc_h sh I87 J A)
    refine gv_run 2 true hD (pcₚ := 22) (lvₚ := [(0, .inr (.inr (some 100))), (1, .inr (.inr (some a1))), (2, .inr (.inr (some a2)))]) (stₚ := [.inr (.inr (some a2)), .inl 4]) (hₚ := gc_h sh I87 J A) (C := ((True ∧ True) ∧ True)) rfl ⟨⟨trivial, trivial⟩, trivial⟩ ?_
    have f95 := (show 0 ≤ I87 a2 1 ∧ I87 a2 1 ≤ 1000 from gc_in2 hI87 R_a2 rfl rfl rfl)
    refine gv_get hD rfl rfl S_a2 ⟨by decide, B_a2⟩ (gc_hI S_a2 rfl) ?_
    show gv_X _ _ (25, [(0, .inr (.inr (some 100))), (1, .inr (.inr (some a1))), (2, .inr (.inr (some a2)))], [.inl (I87 a2 1), .inl 4], sh, gc_h sh I87 J A)
    obtain ⟨z96, E96, q96⟩ := gj_min (ws0 := ws0) (tb := tb) (sh := sh) (h := gc_h sh I87 J A) 4 (I87 a2 1) ⟨by omega, by omega⟩ ⟨by omega, by omega⟩
    refine gv_callS hD rfl (As := [.inl 4, .inl (I87 a2 1)]) (st := []) rfl (gc_lS1 hws rfl) (Nat.le_of_ble_eq_true rfl) (gz_Ev_mono (d := 1) (by decide) E96) ?_
    show gv_X _ _ (28, [(0, .inr (.inr (some 100))), (1, .inr (.inr (some a1))), (2, .inr (.inr (some a2)))], [.inl z96], sh, gc_h sh I87 J A)
    refine gv_run 1 true hD (pcₚ := 29) (lvₚ := [(3, .inl z96), (0, .inr (.inr (some 100))), (1, .inr (.inr (some a1))), (2, .inr (.inr (some a2)))]) (stₚ := []) (hₚ := gc_h sh I87 J A) (C := (True ∧ True)) rfl ⟨trivial, trivial⟩ ?_
    refine gv_pick [1, 2, 3, 0] rfl ?_
    have M_9 := gc_L0_b (n := I a2 1)
    exact L29 _ I87 J z96 (Nat.lt_succ_self _) hI87 FI87 FJ (by omega) ⟨gc_29_0 (w_d.resolve_right (fun h => by have := h.1; omega)).2 (by omega) (by omega), by omega⟩
  · show gv_X _ _ (17, [(0, .inr (.inr (some 100))), (1, .inr (.inr (some a1))), (2, .inr (.inr (some a2)))], [], sh, gc_h sh I87 J A)
    refine gv_run 1 true hD (pcₚ := 19) (lvₚ := [(0, .inr (.inr (some 100))), (1, .inr (.inr (some a1))), (2, .inr (.inr (some a2)))]) (stₚ := [.inl (-3)]) (hₚ := gc_h sh I87 J A) (C := (True ∧ True)) rfl ⟨trivial, trivial⟩ ?_
    exact gv_iret hD rfl ⟨I87, J, rfl, hI87, FI87, FJ, ⟨_, rfl, by omega, by omega, Or.inr ⟨(w_d.resolve_left (fun h => by have := h.1; omega)).2, rfl, by omega⟩⟩⟩
/-- guess(): what is noted -/
def gc_eb (I Iₚ : gr_I) (t : Nat) (l : Int) (x : Nat) : Prop := fo_ew (Iₚ (t + 17 + 1)) (Iₚ (t + 17 + 2)) (fun i : Nat => I 24 (Int.toNat (I 23 1 - l) + i)) l (x : Int)
def gc_UP (I Iₚ : gr_I) (t : Nat) (z : Int) : Prop := (so_wd (I 23 1) (I 24) ∧ z = Iₚ 100 4 ∧ fo_GF (gc_L0 (I 23 1)) (fo_al I t) (gc_pt I t) (gc_eb I Iₚ t) (Int.toNat (I (t + 11) 1)) (Iₚ 100 4) (Iₚ 100 7) (Iₚ 100 8) (Iₚ 102) (Iₚ 103)) ∨ (¬ so_wd (I 23 1) (I 24) ∧ z = -3 ∧ Iₚ 100 4 = 0)
theorem gc_UP_mk {I I1 I2 Iₚ : gr_I} {t : Nat} {z : Int} (h : gc_UA I1 I2 t 23 z) (u : gh_tb I I1 t) (e1 : I1 23 1 = I 23 1) (e24 : ∀ k, I1 24 k = I 24 k) (e11 : I1 (t + 11) 1 = I (t + 11) 1) (f1 : ∀ k, Iₚ (t + 17 + 1) k = I1 (t + 17 + 1) k) (f2 : ∀ k, Iₚ (t + 17 + 2) k = I1 (t + 17 + 2) k) (g4 : Iₚ 100 4 = I2 100 4) (g7 : Iₚ 100 7 = I2 100 7) (g8 : Iₚ 100 8 = I2 100 8) (g2 : ∀ k, Iₚ 102 k = I2 102 k) (g3 : ∀ k, Iₚ 103 k = I2 103 k) : gc_UP I Iₚ t z := by
  have e4 : I1 (23 + 1) = I 24 := funext e24
  have fpt : gc_pt I1 t = gc_pt I t := funext fun y => by
    unfold gc_pt
    rw [gh_tb_fw u]
  have fec : gc_ec I1 t 23 = gc_eb I Iₚ t := funext fun l => funext fun y => by
    unfold gc_ec gc_eb
    rw [show Iₚ (t + 17 + 1) = I1 (t + 17 + 1) from funext f1, show Iₚ (t + 17 + 2) = I1 (t + 17 + 2) from funext f2, e4, e1]
  unfold gc_UA at h
  rw [fec, fpt, gh_tb_al u, e4, e1, e11] at h
  unfold gc_UP
  rw [g4, g7, g8, show Iₚ 102 = I2 102 from funext g2, show Iₚ 103 = I2 103 from funext g3]
  exact h
set_option maxHeartbeats 8000000 in
set_option maxRecDepth 100000 in
theorem d_X12_guess_p {ws0 : List Cond} {tb : String → gz_T} (hws : gc_Ws ws0) (htb : gc_tbs tb) (sh : gz_Sh) (ro : Nat → Nat) (I : gr_I) (J : gr_J) (A : gc_A) (hI : gc_Inv ro I) (t : Nat) (a1 : Int) (hb : gc_Base sh ro A) (h_t : gc_isTongue sh ro A t) (G_t : 144 ≤ t) (ha1 : 0 ≤ a1 ∧ a1 ≤ 7) (x0 : 0 ≤ a1 ∧ a1 < I 8 1) (x1 : A 10 (Int.toNat a1) = some t) (x2 : gc_sc (t + 10) I) (x3 : gc_FB (t + 17) (24 * I (t + 17) 8) I) (x4 : I (t + 17) 8 ≤ I t 11) (y1 : so_lhs I t) (y2 : fo_by I t) (y3 : ¬ I (t + 17) 6 = I (t + 17) 7) (y4 : fo_K I t) (y9 : ∀ y, fo_al I t y → gc_pt I t y < I (t + 11) 1) : ∃ r hₚ, gz_Ev ws0 tb 6 (yX12_guess, cX12_guess, 4, (some .int)) [.inr (.inr (some 0)), .inl a1] sh (gc_h sh I J A) r sh hₚ 0 0 ∧ (∃ (Iₚ : gr_I) (Jₚ : gr_J), hₚ = gc_h sh Iₚ Jₚ A ∧ gc_Inv ro Iₚ ∧ (∀ q j : Nat, ((q = (t + 17) ∧ j = 8) ∨ (q = (t + 17) ∧ j = 9) ∨ q = (t + 18) ∨ q = (t + 19) ∨ q = (t + 20) ∨ q = (t + 21) ∨ (q = (t + 17) ∧ j = 6) ∨ (q = (t + 17) ∧ j = 7) ∨ q = (t + 23) ∨ q = (t + 24) ∨ (q = 100 ∧ j = 4) ∨ (q = 100 ∧ j = 7) ∨ (q = 100 ∧ j = 8) ∨ q = 102 ∨ q = 103 ∨ (q = 23 ∧ j = 1)) ∨ Iₚ q j = I q j) ∧ (∀ q j : Nat, (False) ∨ Jₚ q j = J q j) ∧ (∃ z : Int, r = some (.inl z) ∧ (-3) ≤ z ∧ z ≤ 24 ∧ (Iₚ 23 1 = 0) ∧ (gc_FB (t + 17) (24 * I t 11) Iₚ) ∧ (Iₚ (t + 17) 8 = I t 11) ∧ (I (t + 17) 6 = I (t + 17) 7 ∨ ¬ Iₚ (t + 17) 6 = Iₚ (t + 17) 7) ∧ (gh_BD I t Iₚ) ∧ fo_FC I Iₚ t (t + 17) ∧ gc_UP I Iₚ t z)) := by
  have FI : ∀ q j : Nat, ((q = (t + 17) ∧ j = 8) ∨ (q = (t + 17) ∧ j = 9) ∨ q = (t + 18) ∨ q = (t + 19) ∨ q = (t + 20) ∨ q = (t + 21) ∨ (q = (t + 17) ∧ j = 6) ∨ (q = (t + 17) ∧ j = 7) ∨ q = (t + 23) ∨ q = (t + 24) ∨ (q = 100 ∧ j = 4) ∨ (q = 100 ∧ j = 7) ∨ (q = 100 ∧ j = 8) ∨ q = 102 ∨ q = 103 ∨ (q = 23 ∧ j = 1)) ∨ I q j = I q j := fun _ _ => Or.inr rfl
  have FJ : ∀ q j : Nat, (False) ∨ J q j = J q j := fun _ _ => Or.inr rfl
  have A_0_1 : A 0 1 = some 23 := gc_bA_0_1 hb
  have A_0_10 : A 0 10 = some 100 := gc_bA_0_10 hb
  have B_0 : 0 < 1000000 := by decide
  have B_100 : 100 < 1000000 := by decide
  have B_23 : 23 < 1000000 := by decide
  have R_23 : ro 23 = 3 := gc_bR_23 hb
  have S_0 : sh[0]? = some (false, 12, 17) := gc_bS_0 hb
  have S_100 : sh[100]? = some (false, 1, 19) := gc_bS_100 hb
  have S_23 : sh[23]? = some (false, 9, 10) := gc_bS_23 hb
  obtain ⟨S_t, R_t, B_t, A_t_0, h_t_1, A_t_1, h_t_3, A_t_2, S_t_5, R_t_5, B_t_5, A_t_3, S_t_6, R_t_6, B_t_6, A_t_4, h_t_7, A_t_5, S_t_9, R_t_9, B_t_9, A_t_7, S_t_10, R_t_10, B_t_10, A_t_8, h_t_11, A_t_9, S_t_13, R_t_13, B_t_13, A_t_10, S_t_14, R_t_14, B_t_14, A_t_12, S_t_15, R_t_15, B_t_15, A_t_14, S_t_16, R_t_16, B_t_16, A_t_15, h_t_17⟩ := id h_t
  obtain ⟨S_t_1, R_t_1, B_t_1, A_t_1_0, S_t_1_1, R_t_1_1, B_t_1_1, Q0_t_1, Q1_t_1, Q2_t_1⟩ := id h_t_1
  obtain ⟨S_t_3, R_t_3, B_t_3, A_t_3_0, S_t_3_1, R_t_3_1, B_t_3_1, Q0_t_3, Q1_t_3, Q2_t_3⟩ := id h_t_3
  obtain ⟨S_t_7, R_t_7, B_t_7, A_t_7_0, S_t_7_1, R_t_7_1, B_t_7_1, Q0_t_7, Q1_t_7, Q2_t_7⟩ := id h_t_7
  obtain ⟨S_t_11, R_t_11, B_t_11, A_t_11_0, S_t_11_1, R_t_11_1, B_t_11_1, Q0_t_11, Q1_t_11, Q2_t_11⟩ := id h_t_11
  obtain ⟨S_t_17, R_t_17, B_t_17, A_t_17_0, S_20, R_20, B_20, A_t_17_1, S_t_17_1, R_t_17_1, B_t_17_1, A_t_17_2, S_t_17_2, R_t_17_2, B_t_17_2, A_t_17_3, S_t_17_3, R_t_17_3, B_t_17_3, A_t_17_4, S_t_17_4, R_t_17_4, B_t_17_4, A_t_17_5, S_t_17_5, R_t_17_5, B_t_17_5, S_t_17_6, R_t_17_6, B_t_17_6, S_t_17_7, R_t_17_7, B_t_17_7⟩ := id h_t_17
  have hb9 : ∀ w : Int, fo_cs I t w ≤ 24 := fun w => (show 0 ≤ I (t + 13) _ ∧ I (t + 13) _ ≤ 24 from gc_in2 hI R_t_13 rfl rfl rfl).2
  have hD : gv_D (gc_E12 ws0 tb 5 (yX12_guess, cX12_guess, 4, (some .int)) kX12_guess) := gq_of oX12_guess
  refine gc_ev12 (d := 5) (l := kX12_guess) (Po := fun r hₚ => (∃ (Iₚ : gr_I) (Jₚ : gr_J), hₚ = gc_h sh Iₚ Jₚ A ∧ gc_Inv ro Iₚ ∧ (∀ q j : Nat, ((q = (t + 17) ∧ j = 8) ∨ (q = (t + 17) ∧ j = 9) ∨ q = (t + 18) ∨ q = (t + 19) ∨ q = (t + 20) ∨ q = (t + 21) ∨ (q = (t + 17) ∧ j = 6) ∨ (q = (t + 17) ∧ j = 7) ∨ q = (t + 23) ∨ q = (t + 24) ∨ (q = 100 ∧ j = 4) ∨ (q = 100 ∧ j = 7) ∨ (q = 100 ∧ j = 8) ∨ q = 102 ∨ q = 103 ∨ (q = 23 ∧ j = 1)) ∨ Iₚ q j = I q j) ∧ (∀ q j : Nat, (False) ∨ Jₚ q j = J q j) ∧ (∃ z : Int, r = some (.inl z) ∧ (-3) ≤ z ∧ z ≤ 24 ∧ (Iₚ 23 1 = 0) ∧ (gc_FB (t + 17) (24 * I t 11) Iₚ) ∧ (Iₚ (t + 17) 8 = I t 11) ∧ (I (t + 17) 6 = I (t + 17) 7 ∨ ¬ Iₚ (t + 17) 6 = Iₚ (t + 17) 7) ∧ (gh_BD I t Iₚ) ∧ fo_FC I Iₚ t (t + 17) ∧ gc_UP I Iₚ t z))) htb rfl (Nat.le_of_ble_eq_true rfl) ?_
  have N_23__t_18 : ¬ (23 = (t + 18)) := by omega
  have N_23__t_19 : ¬ (23 = (t + 19)) := by omega
  have N_23__t_20 : ¬ (23 = (t + 20)) := by omega
  have N_23__t_21 : ¬ (23 = (t + 21)) := by omega
  have N_23__t_23 : ¬ (23 = (t + 23)) := by omega
  have N_23__t_24 : ¬ (23 = (t + 24)) := by omega
  have N_t__t_18 : ¬ (t = (t + 18)) := by omega
  have N_t__t_19 : ¬ (t = (t + 19)) := by omega
  have N_t__t_20 : ¬ (t = (t + 20)) := by omega
  have N_t__t_21 : ¬ (t = (t + 21)) := by omega
  have N_t__t_23 : ¬ (t = (t + 23)) := by omega
  have N_t__t_24 : ¬ (t = (t + 24)) := by omega
  have N_t_17__100 : ¬ ((t + 17) = 100) := by omega
  have N_t_17__102 : ¬ ((t + 17) = 102) := by omega
  have N_t_17__103 : ¬ ((t + 17) = 103) := by omega
  have N_t__102 : ¬ (t = 102) := by omega
  have N_t__103 : ¬ (t = 103) := by omega
  have N_t_18__100 : ¬ ((t + 18) = 100) := by omega
  have N_t_18__102 : ¬ ((t + 18) = 102) := by omega
  have N_t_18__103 : ¬ ((t + 18) = 103) := by omega
  have N_t_19__100 : ¬ ((t + 19) = 100) := by omega
  have N_t_19__102 : ¬ ((t + 19) = 102) := by omega
  have N_t_19__103 : ¬ ((t + 19) = 103) := by omega
  have N_t_20__100 : ¬ ((t + 20) = 100) := by omega
  have N_t_20__102 : ¬ ((t + 20) = 102) := by omega
  have N_t_20__103 : ¬ ((t + 20) = 103) := by omega
  have N_t_21__100 : ¬ ((t + 21) = 100) := by omega
  have N_t_21__102 : ¬ ((t + 21) = 102) := by omega
  have N_t_21__103 : ¬ ((t + 21) = 103) := by omega
  have N_t_18__23 : ¬ ((t + 18) = 23) := by omega
  have N_t_19__23 : ¬ ((t + 19) = 23) := by omega
  have N_t_20__23 : ¬ ((t + 20) = 23) := by omega
  have N_t_21__23 : ¬ ((t + 21) = 23) := by omega
  have KBD_I : gh_BD I t I := gh_BD_rf
  have f1 := (gc_b_3_1 hI R_23)
  have f2 := (show 0 ≤ I (t + 17) 8 ∧ I (t + 17) 8 ≤ 64 from gc_in2 hI R_t_17 rfl rfl rfl)
  have f3 := (show 0 ≤ I t 11 ∧ I t 11 ≤ 64 from gc_in2 hI R_t rfl rfl rfl)
  have f4 := (show 0 ≤ I (t + 17) 6 ∧ I (t + 17) 6 ≤ 1 from gc_in2 hI R_t_17 rfl rfl rfl)
  have f5 := (show 0 ≤ I (t + 17) 7 ∧ I (t + 17) 7 ≤ 1 from gc_in2 hI R_t_17 rfl rfl rfl)
  refine gv_run 2 true hD (pcₚ := 2) (lvₚ := [(0, .inr (.inr (some 0))), (1, .inl a1)]) (stₚ := [.inl a1, .inr (.inr (some 0))]) (hₚ := gc_h sh I J A) (C := ((True ∧ True) ∧ True)) rfl ⟨⟨trivial, trivial⟩, trivial⟩ ?_
  refine gv_callV hD rfl (As := [.inl a1]) (st := []) rfl B_0 S_0 rfl (gc_lV12 hws rfl) (Nat.le_of_ble_eq_true rfl) (gz_Ev_mono (d := 1) (by decide) (d_X12_tongueAt hws htb (J := J) hI hb (by omega) (by omega) x1)) ?_
  show gv_X _ _ (5, [(0, .inr (.inr (some 0))), (1, .inl a1)], [.inr (.inr (some t))], sh, gc_h sh I J A)
  refine gv_run 2 true hD (pcₚ := 7) (lvₚ := [(2, .inr (.inr (some t))), (0, .inr (.inr (some 0))), (1, .inl a1)]) (stₚ := [.inr (.inr (some t))]) (hₚ := gc_h sh I J A) (C := ((True ∧ True) ∧ True)) rfl ⟨⟨trivial, trivial⟩, trivial⟩ ?_
  refine gv_get hD rfl rfl S_t ⟨by decide, B_t⟩ (gc_hA S_t rfl A_t_15) ?_
  show gv_X _ _ (10, [(2, .inr (.inr (some t))), (0, .inr (.inr (some 0))), (1, .inl a1)], [.inr (.inr (some (t + 17)))], sh, gc_h sh I J A)
  refine gv_run 1 true hD (pcₚ := 11) (lvₚ := [(2, .inr (.inr (some t))), (0, .inr (.inr (some 0))), (1, .inl a1)]) (stₚ := [.inr (.inr (some t)), .inr (.inr (some (t + 17)))]) (hₚ := gc_h sh I J A) (C := (True ∧ True)) rfl ⟨trivial, trivial⟩ ?_
  obtain ⟨r7, h7, E7, P7⟩ := d_X2_build_p (ws0 := ws0) (tb := tb) hws htb sh ro I J A hI (t + 17) t h_t_17 h_t G_t   x2 rfl x3 (by omega) y3 y1 y2 y4
  obtain ⟨I8, J9, rfl, hI8, g7, k7, ⟨rfl, q7⟩⟩ := P7
  have FI8 := gc_frc (W := fun q j => (q = (t + 17) ∧ j = 8) ∨ (q = (t + 17) ∧ j = 9) ∨ q = (t + 18) ∨ q = (t + 19) ∨ q = (t + 20) ∨ q = (t + 21) ∨ (q = (t + 17) ∧ j = 6) ∨ (q = (t + 17) ∧ j = 7) ∨ q = (t + 23) ∨ q = (t + 24) ∨ (q = 100 ∧ j = 4) ∨ (q = 100 ∧ j = 7) ∨ (q = 100 ∧ j = 8) ∨ q = 102 ∨ q = 103 ∨ (q = 23 ∧ j = 1)) (V := fun q j => (q = (t + 17) ∧ j = 6) ∨ (q = (t + 17) ∧ j = 7) ∨ (q = (t + 17) ∧ j = 8) ∨ (q = (t + 17) ∧ j = 9) ∨ q = (t + 18) ∨ q = (t + 19) ∨ q = (t + 20) ∨ q = (t + 21) ∨ q = (t + 23) ∨ q = (t + 24)) FI (fun q j h => (h.elim (fun h => (Or.inr (Or.inr (Or.inr (Or.inr (Or.inr (Or.inr (Or.inl h)))))))) (fun h => (h.elim (fun h => (Or.inr (Or.inr (Or.inr (Or.inr (Or.inr (Or.inr (Or.inr (Or.inl h))))))))) (fun h => (h.elim (fun h => (Or.inl h)) (fun h => (h.elim (fun h => (Or.inr (Or.inl h))) (fun h => (h.elim (fun h => (Or.inr (Or.inr (Or.inl h)))) (fun h => (h.elim (fun h => (Or.inr (Or.inr (Or.inr (Or.inl h))))) (fun h => (h.elim (fun h => (Or.inr (Or.inr (Or.inr (Or.inr (Or.inl h)))))) (fun h => (h.elim (fun h => (Or.inr (Or.inr (Or.inr (Or.inr (Or.inr (Or.inl h))))))) (fun h => (h.elim (fun h => (Or.inr (Or.inr (Or.inr (Or.inr (Or.inr (Or.inr (Or.inr (Or.inr (Or.inl h)))))))))) (fun h => (Or.inr (Or.inr (Or.inr (Or.inr (Or.inr (Or.inr (Or.inr (Or.inr (Or.inr (Or.inl h))))))))))))))))))))))))))))) g7
  have t10 := (g7 23 1).resolve_left (fun h => h.elim (fun h => absurd h.2 (by decide)) (fun h => h.elim (fun h => absurd h.2 (by decide)) (fun h => h.elim (fun h => absurd h.2 (by decide)) (fun h => h.elim (fun h => absurd h.2 (by decide)) (fun h => h.elim (fun h => absurd h N_23__t_18) (fun h => h.elim (fun h => absurd h N_23__t_19) (fun h => h.elim (fun h => absurd h N_23__t_20) (fun h => h.elim (fun h => absurd h N_23__t_21) (fun h => h.elim (fun h => absurd h N_23__t_23) (fun h => absurd h N_23__t_24))))))))))
  have t11 := (g7 t 11).resolve_left (fun h => h.elim (fun h => absurd h.2 (by decide)) (fun h => h.elim (fun h => absurd h.2 (by decide)) (fun h => h.elim (fun h => absurd h.2 (by decide)) (fun h => h.elim (fun h => absurd h.2 (by decide)) (fun h => h.elim (fun h => absurd h N_t__t_18) (fun h => h.elim (fun h => absurd h N_t__t_19) (fun h => h.elim (fun h => absurd h N_t__t_20) (fun h => h.elim (fun h => absurd h N_t__t_21) (fun h => h.elim (fun h => absurd h N_t__t_23) (fun h => absurd h N_t__t_24))))))))))
  have f12 := (show 0 ≤ I8 (t + 17) 8 ∧ I8 (t + 17) 8 ≤ 64 from gc_in2 hI8 R_t_17 rfl rfl rfl)
  have f13 := (show 0 ≤ I8 (t + 17) 6 ∧ I8 (t + 17) 6 ≤ 1 from gc_in2 hI8 R_t_17 rfl rfl rfl)
  have f14 := (show 0 ≤ I8 (t + 17) 7 ∧ I8 (t + 17) 7 ≤ 1 from gc_in2 hI8 R_t_17 rfl rfl rfl)
  obtain rfl : J = J9 := funext fun q => funext fun j => ((k7 q j).resolve_left id).symm
  have KBD_I8 : gh_BD I t I8 := gh_BD_tr KBD_I gh_tb_rf (by omega) (Or.inr (fun _ _ _ _ => ⟨q7.2.2.1, q7.2.2.2.2⟩))
  refine gv_callV hD rfl (As := [.inr (.inr (some t))]) (st := []) rfl B_t_17 S_t_17 rfl (gc_lV12 hws rfl) (Nat.le_of_ble_eq_true rfl) (gz_Ev_mono (d := 5) (by decide) E7) ?_
  show gv_X _ _ (14, [(2, .inr (.inr (some t))), (0, .inr (.inr (some 0))), (1, .inl a1)], [], sh, gc_h sh I8 J A)
  refine gv_run 1 true hD (pcₚ := 15) (lvₚ := [(2, .inr (.inr (some t))), (0, .inr (.inr (some 0))), (1, .inl a1)]) (stₚ := [.inr (.inr (some 0))]) (hₚ := gc_h sh I8 J A) (C := (True ∧ True)) rfl ⟨trivial, trivial⟩ ?_
  refine gv_get hD rfl rfl S_0 ⟨by decide, B_0⟩ (gc_hA S_0 rfl A_0_10) ?_
  show gv_X _ _ (18, [(2, .inr (.inr (some t))), (0, .inr (.inr (some 0))), (1, .inl a1)], [.inr (.inr (some 100))], sh, gc_h sh I8 J A)
  refine gv_run 2 true hD (pcₚ := 20) (lvₚ := [(2, .inr (.inr (some t))), (0, .inr (.inr (some 0))), (1, .inl a1)]) (stₚ := [.inr (.inr (some 0)), .inr (.inr (some t)), .inr (.inr (some 100))]) (hₚ := gc_h sh I8 J A) (C := ((True ∧ True) ∧ True)) rfl ⟨⟨trivial, trivial⟩, trivial⟩ ?_
  refine gv_get hD rfl rfl S_0 ⟨by decide, B_0⟩ (gc_hA S_0 rfl A_0_1) ?_
  show gv_X _ _ (23, [(2, .inr (.inr (some t))), (0, .inr (.inr (some 0))), (1, .inl a1)], [.inr (.inr (some 23)), .inr (.inr (some t)), .inr (.inr (some 100))], sh, gc_h sh I8 J A)
  have u_9 : gh_tb I I8 t := ⟨fun j => (g7 20 j).resolve_left (by omega), fun d j h1 h2 => (g7 (t + d) j).resolve_left (by omega), (g7 t 6).resolve_left (by omega), (g7 t 11).resolve_left (by omega)⟩
  obtain ⟨r15, h15, E15, P15⟩ := d_X1_noteGuesses_p (ws0 := ws0) (tb := tb) hws htb sh ro I8 J A hI8  t 23 hb h_t G_t (gc_b23 hb) (by omega) (fun y hy => by have h9 := y9 y (by rw [← gh_tb_al u_9]; exact hy); rw [show gc_pt I8 t y = gc_pt I t y from by unfold gc_pt; rw [gh_tb_fw u_9], (g7 (t + 11) 1).resolve_left (by omega)]; exact h9)
  obtain ⟨I16, J17, rfl, hI16, g15, k15, ⟨z15, rfl, q15⟩⟩ := P15
  have N_9 := q15.2.2
  replace q15 := And.intro q15.1 q15.2.1
  have FI16 := gc_frc (W := fun q j => (q = (t + 17) ∧ j = 8) ∨ (q = (t + 17) ∧ j = 9) ∨ q = (t + 18) ∨ q = (t + 19) ∨ q = (t + 20) ∨ q = (t + 21) ∨ (q = (t + 17) ∧ j = 6) ∨ (q = (t + 17) ∧ j = 7) ∨ q = (t + 23) ∨ q = (t + 24) ∨ (q = 100 ∧ j = 4) ∨ (q = 100 ∧ j = 7) ∨ (q = 100 ∧ j = 8) ∨ q = 102 ∨ q = 103 ∨ (q = 23 ∧ j = 1)) (V := fun q j => (q = 100 ∧ j = 4) ∨ (q = 100 ∧ j = 7) ∨ (q = 100 ∧ j = 8) ∨ q = 102 ∨ q = 103) FI8 (fun q j h => (h.elim (fun h => (Or.inr (Or.inr (Or.inr (Or.inr (Or.inr (Or.inr (Or.inr (Or.inr (Or.inr (Or.inr (Or.inl h)))))))))))) (fun h => (h.elim (fun h => (Or.inr (Or.inr (Or.inr (Or.inr (Or.inr (Or.inr (Or.inr (Or.inr (Or.inr (Or.inr (Or.inr (Or.inl h))))))))))))) (fun h => (h.elim (fun h => (Or.inr (Or.inr (Or.inr (Or.inr (Or.inr (Or.inr (Or.inr (Or.inr (Or.inr (Or.inr (Or.inr (Or.inr (Or.inl h)))))))))))))) (fun h => (h.elim (fun h => (Or.inr (Or.inr (Or.inr (Or.inr (Or.inr (Or.inr (Or.inr (Or.inr (Or.inr (Or.inr (Or.inr (Or.inr (Or.inr (Or.inl h))))))))))))))) (fun h => (Or.inr (Or.inr (Or.inr (Or.inr (Or.inr (Or.inr (Or.inr (Or.inr (Or.inr (Or.inr (Or.inr (Or.inr (Or.inr (Or.inr (Or.inl h)))))))))))))))))))))))) g15
  have t18 := (g15 23 1).resolve_left (fun h => h.elim (fun h => absurd h.2 (by decide)) (fun h => h.elim (fun h => absurd h.2 (by decide)) (fun h => h.elim (fun h => absurd h.2 (by decide)) (fun h => h.elim (fun h => absurd h (by decide)) (fun h => absurd h (by decide))))))
  have t19 := (g15 (t + 17) 8).resolve_left (fun h => h.elim (fun h => absurd h.2 (by decide)) (fun h => h.elim (fun h => absurd h.2 (by decide)) (fun h => h.elim (fun h => absurd h.1 N_t_17__100) (fun h => h.elim (fun h => absurd h N_t_17__102) (fun h => absurd h N_t_17__103)))))
  have t20 := (g15 t 11).resolve_left (fun h => h.elim (fun h => absurd h.2 (by decide)) (fun h => h.elim (fun h => absurd h.2 (by decide)) (fun h => h.elim (fun h => absurd h.2 (by decide)) (fun h => h.elim (fun h => absurd h N_t__102) (fun h => absurd h N_t__103)))))
  have t21 := (g15 (t + 17) 6).resolve_left (fun h => h.elim (fun h => absurd h.2 (by decide)) (fun h => h.elim (fun h => absurd h.2 (by decide)) (fun h => h.elim (fun h => absurd h.2 (by decide)) (fun h => h.elim (fun h => absurd h N_t_17__102) (fun h => absurd h N_t_17__103)))))
  have t22 := (g15 (t + 17) 7).resolve_left (fun h => h.elim (fun h => absurd h.2 (by decide)) (fun h => h.elim (fun h => absurd h.1 N_t_17__100) (fun h => h.elim (fun h => absurd h.2 (by decide)) (fun h => h.elim (fun h => absurd h N_t_17__102) (fun h => absurd h N_t_17__103)))))
  obtain rfl : J = J17 := funext fun q => funext fun j => ((k15 q j).resolve_left id).symm
  have KBD_I16 := gh_BD_fr KBD_I8 ((g15 (t + 17) 8).resolve_left (fun h => h.elim (fun h => absurd h.2 (by decide)) (fun h => h.elim (fun h => absurd h.2 (by decide)) (fun h => h.elim (fun h => absurd h.1 N_t_17__100) (fun h => h.elim (fun h => absurd h N_t_17__102) (fun h => absurd h N_t_17__103)))))) ((g15 (t + 17) 9).resolve_left (fun h => h.elim (fun h => absurd h.2 (by decide)) (fun h => h.elim (fun h => absurd h.2 (by decide)) (fun h => h.elim (fun h => absurd h.2 (by decide)) (fun h => h.elim (fun h => absurd h N_t_17__102) (fun h => absurd h N_t_17__103)))))) (fun k => (g15 (t + 18) k).resolve_left (fun h => h.elim (fun h => absurd h.1 N_t_18__100) (fun h => h.elim (fun h => absurd h.1 N_t_18__100) (fun h => h.elim (fun h => absurd h.1 N_t_18__100) (fun h => h.elim (fun h => absurd h N_t_18__102) (fun h => absurd h N_t_18__103)))))) (fun k => (g15 (t + 19) k).resolve_left (fun h => h.elim (fun h => absurd h.1 N_t_19__100) (fun h => h.elim (fun h => absurd h.1 N_t_19__100) (fun h => h.elim (fun h => absurd h.1 N_t_19__100) (fun h => h.elim (fun h => absurd h N_t_19__102) (fun h => absurd h N_t_19__103)))))) (fun k => (g15 (t + 20) k).resolve_left (fun h => h.elim (fun h => absurd h.1 N_t_20__100) (fun h => h.elim (fun h => absurd h.1 N_t_20__100) (fun h => h.elim (fun h => absurd h.1 N_t_20__100) (fun h => h.elim (fun h => absurd h N_t_20__102) (fun h => absurd h N_t_20__103)))))) (fun k => (g15 (t + 21) k).resolve_left (fun h => h.elim (fun h => absurd h.1 N_t_21__100) (fun h => h.elim (fun h => absurd h.1 N_t_21__100) (fun h => h.elim (fun h => absurd h.1 N_t_21__100) (fun h => h.elim (fun h => absurd h N_t_21__102) (fun h => absurd h N_t_21__103))))))
  refine gv_callV hD rfl (As := [.inr (.inr (some t)), .inr (.inr (some 23))]) (st := []) rfl B_100 S_100 rfl (gc_lV12 hws rfl) (Nat.le_of_ble_eq_true rfl) (gz_Ev_mono (d := 4) (by decide) E15) ?_
  show gv_X _ _ (26, [(2, .inr (.inr (some t))), (0, .inr (.inr (some 0))), (1, .inl a1)], [.inl z15], sh, gc_h sh I16 J A)
  refine gv_run 2 true hD (pcₚ := 28) (lvₚ := [(3, .inl z15), (2, .inr (.inr (some t))), (0, .inr (.inr (some 0))), (1, .inl a1)]) (stₚ := [.inr (.inr (some 0))]) (hₚ := gc_h sh I16 J A) (C := ((True ∧ True) ∧ True)) rfl ⟨⟨trivial, trivial⟩, trivial⟩ ?_
  refine gv_get hD rfl rfl S_0 ⟨by decide, B_0⟩ (gc_hA S_0 rfl A_0_1) ?_
  show gv_X _ _ (31, [(3, .inl z15), (2, .inr (.inr (some t))), (0, .inr (.inr (some 0))), (1, .inl a1)], [.inr (.inr (some 23))], sh, gc_h sh I16 J A)
  refine gv_run 1 true hD (pcₚ := 32) (lvₚ := [(3, .inl z15), (2, .inr (.inr (some t))), (0, .inr (.inr (some 0))), (1, .inl a1)]) (stₚ := [.inl 0, .inr (.inr (some 23))]) (hₚ := gc_h sh I16 J A) (C := (True ∧ True)) rfl ⟨trivial, trivial⟩ ?_
  refine gv_put hD rfl rfl S_23 ⟨by decide, B_23⟩ rfl trivial ?_
  refine gc_st (k := 1) hI16 S_23 rfl R_23 (lo := 0) (hi := 1000) rfl rfl (by omega) (by omega) (fun I23 hI23 q24 p24 => ?_)
  have FI23 := gc_frs (W := fun q j => (q = (t + 17) ∧ j = 8) ∨ (q = (t + 17) ∧ j = 9) ∨ q = (t + 18) ∨ q = (t + 19) ∨ q = (t + 20) ∨ q = (t + 21) ∨ (q = (t + 17) ∧ j = 6) ∨ (q = (t + 17) ∧ j = 7) ∨ q = (t + 23) ∨ q = (t + 24) ∨ (q = 100 ∧ j = 4) ∨ (q = 100 ∧ j = 7) ∨ (q = 100 ∧ j = 8) ∨ q = 102 ∨ q = 103 ∨ (q = 23 ∧ j = 1)) FI16 (Or.inr (Or.inr (Or.inr (Or.inr (Or.inr (Or.inr (Or.inr (Or.inr (Or.inr (Or.inr (Or.inr (Or.inr (Or.inr (Or.inr (Or.inr ⟨rfl, rfl⟩))))))))))))))) p24
  have t25 := p24 (t + 17) 8 (fun h => absurd h.2 (by decide))
  have t26 := p24 t 11 (fun h => absurd h.2 (by decide))
  have t27 := p24 (t + 17) 6 (fun h => absurd h.2 (by decide))
  have t28 := p24 (t + 17) 7 (fun h => absurd h.2 (by decide))
  have f29 := (gc_b_3_1 hI23 R_23)
  have KBD_I23 := gh_BD_fr KBD_I16 (p24 (t + 17) 8 (fun h => absurd h.2 (by decide))) (p24 (t + 17) 9 (fun h => absurd h.2 (by decide))) (fun k => p24 (t + 18) k (fun h => absurd h.1 N_t_18__23)) (fun k => p24 (t + 19) k (fun h => absurd h.1 N_t_19__23)) (fun k => p24 (t + 20) k (fun h => absurd h.1 N_t_20__23)) (fun k => p24 (t + 21) k (fun h => absurd h.1 N_t_21__23))
  show gv_X _ _ (35, [(3, .inl z15), (2, .inr (.inr (some t))), (0, .inr (.inr (some 0))), (1, .inl a1)], [], sh, gc_h sh I23 J A)
  refine gv_run 1 true hD (pcₚ := 36) (lvₚ := [(3, .inl z15), (2, .inr (.inr (some t))), (0, .inr (.inr (some 0))), (1, .inl a1)]) (stₚ := [.inl z15]) (hₚ := gc_h sh I23 J A) (C := (True ∧ True)) rfl ⟨trivial, trivial⟩ ?_
  exact gv_iret hD rfl ⟨I23, J, rfl, hI23, FI23, FJ, ⟨_, rfl, by omega, by omega, by omega, (gc_FB_fr q7.1 (fun k => ((p24 (t + 17 + 4) k (fun h => absurd h.1 (by omega))).trans ((g15 (t + 17 + 4) k).resolve_left (by omega)))) (fun k => ((p24 (t + 17 + 3) k (fun h => absurd h.1 (by omega))).trans ((g15 (t + 17 + 3) k).resolve_left (by omega))))), by omega, by omega, KBD_I23, (fo_FC_rw q7.2.2.2.2 (fun j => (p24 (t + 17 + 1) j (fun h => absurd h.1 (by omega))).trans ((g15 (t + 17 + 1) j).resolve_left (by omega))) (fun j => (p24 (t + 17 + 2) j (fun h => absurd h.1 (by omega))).trans ((g15 (t + 17 + 2) j).resolve_left (by omega))) (fun j => (p24 (t + 17 + 3) j (fun h => absurd h.1 (by omega))).trans ((g15 (t + 17 + 3) j).resolve_left (by omega))) (fun j => (p24 (t + 17 + 4) j (fun h => absurd h.1 (by omega))).trans ((g15 (t + 17 + 4) j).resolve_left (by omega)))), (gc_UP_mk N_9 u_9 ((g7 23 1).resolve_left (by omega)) (fun k => (g7 24 k).resolve_left (by omega)) ((g7 (t + 11) 1).resolve_left (by omega)) (fun k => (p24 (t + 17 + 1) k (fun h => absurd h.1 (by omega))).trans ((g15 (t + 17 + 1) k).resolve_left (by omega))) (fun k => (p24 (t + 17 + 2) k (fun h => absurd h.1 (by omega))).trans ((g15 (t + 17 + 2) k).resolve_left (by omega))) (p24 100 4 (fun h => absurd h.2 (by decide))) (p24 100 7 (fun h => absurd h.2 (by decide))) (p24 100 8 (fun h => absurd h.2 (by decide))) (fun k => p24 102 k (fun h => absurd h.1 (by decide))) (fun k => p24 103 k (fun h => absurd h.1 (by decide))))⟩⟩
set_option maxHeartbeats 8000000 in
set_option maxRecDepth 100000 in
theorem hh_guess_z {ws0 : List Cond} {tb : String → gz_T} (hws : gc_Ws ws0) (htb : gc_tbs tb) {sh : gz_Sh} {ro : Nat → Nat} {I : gr_I} {J : gr_J} {A : gc_A} (hs : gh_HS sh ro I J A) (hc : gh_HC sh ro A I) (a1 : Int) (h1 : 0 ≤ a1 ∧ a1 < I 8 1) (yl : ∀ t, A 10 (Int.toNat a1) = some t → (so_lhs I t ∧ fo_by I t) ∧ ∀ y, fo_al I t y → gc_pt I t y < I (t + 11) 1) : ∃ (t : Nat) (z : Int) (Iₚ : gr_I) (Jₚ : gr_J), gz_Ev ws0 tb 100 (yX12_guess, cX12_guess, 4, (some .int)) [.inr (.inr (some 0)), .inl a1] sh (gc_h sh I J A) (some (.inl z)) sh (gc_h sh Iₚ Jₚ A) 0 0 ∧ A 10 (Int.toNat a1) = some t ∧ (fo_FC I Iₚ t (t + 17) ∧ gc_UP I Iₚ t z) ∧ gh_K sh ro A I J Iₚ Jₚ (0) 2 := by
  have hb := hs.1
  have hI := hs.2.1
  have hok := hs.2.2.1
  have hT := hs.2.2.2.1
  have hU := hs.2.2.2.2.1
  have i8 : 0 ≤ I 8 1 ∧ I 8 1 ≤ 8 := gc_in hI (gc_bR hb (by decide) rfl) rfl rfl
  have h144 := gc_Base_len hb
  obtain ⟨c1, c2, c3, c4, c5, c6, c7, c8⟩ := id hc
  obtain ⟨t, ht, tL, tv, tl, tw⟩ := hU (Int.toNat a1) (by omega)
  have Tt := hT.1 (Int.toNat a1) t (by omega) ht
  have Gt := Tt.2.1
  have FB := c6 (Int.toNat a1) t (by omega) ht
  obtain ⟨r, hₚ, E, Iₚ, Jₚ, rfl, hIₚ, g, k, z, rfl, p0, p1, p2, p3, p4, pF, pB, pA⟩ := d_X12_guess_p hws htb sh ro I J A hI t a1 hb Tt.1 Tt.2.1 ⟨by omega, by omega⟩ ⟨by omega, by omega⟩ ht Tt.2.2 FB.1 (FB.2.1 (by omega)) (yl t ht).1.1 (yl t ht).1.2 FB.2.2.2.1 ((FB.2.2.2.2.1 (by omega)) (yl t ht).1.1 (yl t ht).1.2 FB.2.2.2.1).2 (yl t ht).2
  obtain ⟨b0, b1, b2, b3, b4, b5, b6, b7, b8, b9, b10, b11, b12, b13, b14, b15, b16, b17, b18, b19, b20, b21, b22, b23, b24, b25, b26, b27, b28, b29, b30, b31, b32, b33, b34, b35, b36, b37, b38, b39, b40, b41, b42, b43, b44⟩ := id Tt.1
  obtain ⟨f0, f1, f2, f3, f4, f5, f6, f7, f8, f9, f10, f11, f12, f13, f14, f15, f16, f17, f18, f19, f20, f21, f22, f23, f24, f25, f26, f27, f28, f29, f30, f31, f32⟩ := id b44
  have F_0 := f0
  have F_R := f1
  have F_1 := f8
  have F_2 := f12
  have F_3 := f16
  have F_4 := f20
  have F_5 := f24
  have F_6 := f27
  have F_7 := f30
  have lt7 := gc_x_lt F_7
  have ok' : gc_OK sh Iₚ Jₚ A := gh_OK_g hok (fun q j => (g q j).elim (fun h => by
      rcases h with ⟨rfl, rfl⟩ | ⟨rfl, rfl⟩ | rfl | rfl | rfl | rfl | ⟨rfl, rfl⟩ | ⟨rfl, rfl⟩ | rfl | rfl | ⟨rfl, rfl⟩ | ⟨rfl, rfl⟩ | ⟨rfl, rfl⟩ | rfl | rfl | ⟨rfl, rfl⟩
      · exact Or.inl (gh_ok0 F_0 rfl)
      · exact Or.inl (gh_ok0 F_0 rfl)
      · exact Or.inl (gh_ok0 F_1 rfl)
      · exact Or.inl (gh_ok0 F_2 rfl)
      · exact Or.inl (gh_ok0 F_3 rfl)
      · exact Or.inl (gh_ok0 F_4 rfl)
      · have h9 : (0 : Int) ≤ Iₚ (t + 17) 6 ∧ Iₚ (t + 17) 6 ≤ 1 := gc_in hIₚ (F_R) rfl rfl
        exact Or.inl (gh_okn (n := 6) F_0 rfl (by omega))
      · have h9 : (0 : Int) ≤ Iₚ (t + 17) 7 ∧ Iₚ (t + 17) 7 ≤ 1 := gc_in hIₚ (F_R) rfl rfl
        exact Or.inl (gh_okn (n := 6) F_0 rfl (by omega))
      · exact Or.inl (gh_ok0 F_6 rfl)
      · exact Or.inl (gh_ok0 F_7 rfl)
      · exact Or.inl (gh_ok0 (gc_bS hb (p := 100) rfl) rfl)
      · exact Or.inl (gh_ok0 (gc_bS hb (p := 100) rfl) rfl)
      · exact Or.inl (gh_ok0 (gc_bS hb (p := 100) rfl) rfl)
      · exact Or.inl (gh_ok0 (gc_bS hb (p := 102) rfl) rfl)
      · exact Or.inl (gh_ok0 (gc_bS hb (p := 103) rfl) rfl)
      · exact Or.inl (gh_ok0 (gc_bS hb (p := 23) rfl) rfl)
      ) Or.inr) (fun q j => (k q j).imp (fun h => h.elim) id)
  have hk := gh_HS_k (i := Int.toNat a1) hs (by omega) ht hIₚ ok' (fun q j => (g q j).imp (fun h => by omega) id) (fun q j => (k q j).imp (fun h => h.elim) id)
  refine ⟨t, z, Iₚ, Jₚ, gz_Ev_mono (by decide) E, ht, pA, ⟨hk.1, ⟨(gc_FN_fr c1 (fun k => ((g 49 k).resolve_left (by omega))) (fun k => ((g 50 k).resolve_left (by omega)))), (gc_FZ_fr c2 ((g 2 1).resolve_left (by omega)) (fun k => ((g 49 k).resolve_left (by omega))) (fun k => ((g 50 k).resolve_left (by omega)))), (by have h1 := ((g 86 2).resolve_left (by omega)); have h2 := ((g 86 4).resolve_left (by omega)); omega), (by have h1 := ((g 100 2).resolve_left (by omega)); have h2 := ((g 100 1).resolve_left (by omega)); have h3 := hk.2.1 8 1 (by decide) (by decide); omega), (gh_SN_fr c5 ((g 100 9).resolve_left (by omega))), (gh_FBT_t hT c6 hk.2 (by omega) (by omega) ht (fun q j hq => (g q j).imp (fun h => by omega) id) (by rw [p4]; exact p3) (by omega) (fun h9 => by omega) pB), (gh_TRE_k c7 hk.2 (fun q j h1 h2 h3 => ((g q j).resolve_left (by omega)))), (gh_RKO_fr hs c8 hk.2 (fun q j h1 h2 => ((g q j).resolve_left (by omega))))⟩, hk.2, by omega, (fun k9 h9 => ((g 24 k9).resolve_left (by omega))), ⟨(g 100 9).resolve_left (by omega), fun _ => ⟨(g 100 1).resolve_left (by omega), (g 100 2).resolve_left (by omega), fun k => (g 101 k).resolve_left (by omega)⟩, fun h => absurd rfl h, fun _ => ⟨(g 100 14).resolve_left (by omega), fun k => (g 111 k).resolve_left (by omega), fun k => (g 112 k).resolve_left (by omega)⟩⟩⟩⟩
set_option maxHeartbeats 8000000 in
set_option maxRecDepth 100000 in
theorem q_guess_z {ws0 : List Cond} {tb : String → gz_T} (hws : ∀ w ∈ gr_ws, w ∈ ws0) (htb : tb RX13 = gr_T) (ext : gz_Sh) {n : Nat} {I : gr_I} {J : gr_J} (h : gq_St n I) (hn : n < 64) (a1 : Int) (ha1 : (-2147483648) ≤ a1 ∧ a1 ≤ 2147483647) (y0 : gr_KQ I) (y1 : (0 ≤ a1 ∧ a1 < I 0 1) → ∀ x : Int, fo_br I a1 x → fo_pr I a1 x < I 17 (Int.toNat a1)) : ∃ r hₚ, gz_Ev ws0 tb 1000 (yX13_guess, cX13_guess, 8, (some .int)) [.inr (.inr (some 0)), .inl a1] (gr_sh ++ ext) (gr_h I J) r (gr_sh ++ ext) hₚ 0 0 ∧ (∃ (Iₚ : gr_I) (Jₚ : gr_J), hₚ = gr_h Iₚ Jₚ ∧ gq_St (n + 1) Iₚ ∧ (gq_T 2 I J Iₚ Jₚ ∧ ∀ k, Iₚ 56 k = I 56 k) ∧ (∃ z : Int, r = some (.inl z) ∧ (-2147483648) ≤ z ∧ z ≤ 2147483647 ∧ ((0 ≤ a1 ∧ a1 < I 0 1) → Iₚ 0 68 = 0) ∧ (¬ (0 ≤ a1 ∧ a1 < I 0 1) → Iₚ 0 68 = I 0 68) ∧ ((0 ≤ a1 ∧ a1 < I 0 1) → Iₚ 0 0 = 0) ∧ (¬ (0 ≤ a1 ∧ a1 < I 0 1) → Iₚ 0 0 = 1) ∧ fo_uP I Iₚ a1 z ∧ fo_nB I Iₚ a1)) := by
  obtain ⟨⟨hI, KTM, KVF, KGR, KTO, KFM, KFV, KPL, KOX⟩, KLE, b1, b2, b3, b4, b5⟩ := h
  have rt := (gr_b_0_68 hI)
  obtain ⟨r, h1, E, P⟩ := r_guess_p (ws0 := ws0) (tb := tb) hws htb ext I J hI a1 ha1 y0 y1
  obtain ⟨Iₚ, Jₚ, e1, hIₚ, F, G, ⟨z, hr, q⟩⟩ := P
  have qP := q.2.2.2.2.2.2.1
  have qN := q.2.2.2.2.2.2.2.1
  have qK := q.2.2.2.2.2.2.2.2
  replace q := And.intro q.1 (And.intro q.2.1 (And.intro q.2.2.1 (And.intro q.2.2.2.1 (And.intro q.2.2.2.2.1 q.2.2.2.2.2.1))))
  have KTM' := gr_TM_fr KTM (fun k => F 52 k rfl) (fun k => F 53 k rfl) (fun k => F 54 k rfl) (F 0 64 rfl)
  have KVF' := gr_VF_fr KVF (fun k => F 14 k rfl) (fun k => F 13 k rfl)
  have KGR' := gr_GR_fr KGR (fun k => F 19 k rfl) (fun k => F 18 k rfl) (fun k => F 36 k rfl) (fun k => F 41 k rfl) (fun k => F 42 k rfl) (fun k => F 43 k rfl) (fun k => F 45 k rfl) (fun k => F 46 k rfl) (fun k => F 47 k rfl) (fun k => F 6 k rfl) (fun k => F 7 k rfl) (fun k => F 8 k rfl) (F 0 3 rfl)
  have KTO' := gr_TO_fr KTO (fun k => F 52 k rfl) (fun k => F 53 k rfl) (fun k => F 54 k rfl) (fun k => F 55 k rfl) (fun k => F 6 k rfl) (F 0 64 rfl) (F 0 3 rfl)
  have KFM' := gr_FM_fr KFM (fun k => F 10 k rfl) (fun k => F 55 k rfl) (fun k => F 52 k rfl) (fun k => F 53 k rfl) (fun k => F 54 k rfl) (F 0 64 rfl) (F 0 3 rfl)
  have KFV' := gr_FV_fr KFV (fun k => F 87 k rfl) (fun k => F 88 k rfl) (fun k => F 104 k rfl) (fun k => F 90 k rfl) (fun k => F 91 k rfl) (fun k => F 92 k rfl) (fun k => F 94 k rfl) (fun k => F 95 k rfl) (fun k => F 97 k rfl) (fun k => F 98 k rfl) (fun k => F 19 k rfl) (fun k => F 18 k rfl) (fun k => F 41 k rfl) (fun k => F 6 k rfl) (fun k => F 99 k rfl) (fun k => F 105 k rfl) (fun k => F 107 k rfl) (fun k => F 108 k rfl) (fun k => F 110 k rfl) (fun k => F 111 k rfl) (F 0 157 rfl) (F 0 158 rfl) (F 0 177 rfl) (F 0 186 rfl) (F 0 159 rfl) hI
  have KPL' := gr_PL_fr KPL (fun k => F 114 k rfl) (fun k => F 115 k rfl) (fun k => F 6 k rfl) (F 0 3 rfl)
  have KOX' := gr_OX_fr KOX (fun k => F 121 k rfl) (fun k => F 120 k rfl)
  have e59 := F 0 59 rfl
  have e42 := F 0 42 rfl
  have e64 := F 0 64 rfl
  have e100 := F 0 100 rfl
  have eC := F 0 206 rfl
  have KLE' : gr_LE (20 * ((n + 1 : Nat) : Int)) Iₚ := gr_LE_tp KLE (fun k => F 19 k rfl) (by omega)
  exact ⟨r, h1, gz_Ev_mono (d := 7) (by decide) E, Iₚ, Jₚ, e1, ⟨⟨hIₚ, KTM', KVF', KGR', KTO', KFM', KFV', KPL', KOX'⟩, KLE', by omega, by omega, by omega, by omega, by omega⟩, ⟨gq_Tok F G qK (by decide) (by decide) ⟨fun _ => ⟨F 0 132 rfl, F 0 133 rfl, fun k => F 80 k rfl⟩, fun h => absurd rfl h, fun _ => ⟨F 0 211 rfl, fun k => F 132 k rfl, fun k => F 133 k rfl⟩⟩, fun k => F 56 k rfl⟩, ⟨z, hr, by omega, by omega, by omega, by omega, by omega, by omega, qP, qN⟩⟩
/-! endings on both sides (p12, p13) -/
section GG9
variable {i t : Nat} {I I1 Ir Ir1 : gr_I} {J Jr : gr_J} {A : gc_A}
theorem gs_prb (hR : gs_R I J A Ir Jr) (yS : gs_RV I A Ir) (b8 : I 8 1 ≤ 8) (hi : (i : Int) < I 8 1) (ht : A 10 i = some t) : (∀ x : Int, fo_br Ir (i : Int) x → fo_pr Ir (i : Int) x < Ir 17 (Int.toNat (i : Int))) ∧ (∀ y : Int, fo_al I t y → gc_pt I t y < I (t + 11) 1) ∧ Ir 17 (Int.toNat (i : Int)) = I (t + 11) 1 ∧ ∀ x : Nat, fo_al I t (x : Int) → fo_br Ir (i : Int) (x : Int) → gc_pt I t (x : Int) = fo_pr Ir (i : Int) (x : Int) := by
  have hT := hR.2.2.2.2.2.2.2.1
  obtain ⟨_, _, _, _, qp, _, _⟩ := hT i t hi ht
  have hh := yS.2.2 i t hi ht
  have e17 : Ir 17 (Int.toNat (i : Int)) = I (t + 11) 1 := qp.1.1.symm
  have key : ∀ w c : Int, 0 ≤ w → w < I t 11 → 0 ≤ c → c < fo_cs I t w → (gc_pt I t (24 * w + c) < I (t + 11) 1 ∧ gc_pt I t (24 * w + c) = fo_pr Ir (i : Int) (24 * w + c)) := fun w c w0 w1 c0 c1 => by
    have pw := gs_pw9 hR yS b8 hi ht w0 w1
    have a9 := (hh.2 w w0 w1).1.2.1
    have b24 := pw.1.2
    unfold gc_pt fo_pr
    rw [show (24 * w + c) / 24 = w from by omega]
    exact ⟨pw.1.1.2, a9⟩
  refine ⟨fun x h => ?_, fun y h => ?_, e17, fun x h _ => ?_⟩
  · have h2 := (gs_al_br hR yS b8 hi ht x).mpr h
    obtain ⟨w, c, e, w0, w1, c0, c1⟩ := h2
    have k := key w c w0 w1 c0 c1
    rw [e, ← k.2, e17]
    exact k.1
  · obtain ⟨w, c, e, w0, w1, c0, c1⟩ := h
    rw [e]
    exact (key w c w0 w1 c0 c1).1
  · obtain ⟨w, c, e, w0, w1, c0, c1⟩ := h
    rw [e]
    exact (key w c w0 w1 c0 c1).2
theorem gs_E_iff (hR : gs_R I J A Ir Jr) (yS : gs_RV I A Ir) (b8 : I 8 1 ≤ 8) (hi : (i : Int) < I 8 1) (ht : A 10 i = some t) (S : gs_FS I I1 t Ir1) {g gₚ : Nat → Int} {n n' : Int} (hn : n = n') (eg : ∀ k : Nat, (k : Int) < n → g k = gₚ k) (l : Int) (x : Nat) (l1 : 1 ≤ l) (l2 : l ≤ n) : (fo_al I t (x : Int) ∧ fo_ew (I1 (t + 17 + 1)) (I1 (t + 17 + 2)) (fun k : Nat => g (Int.toNat (n - l) + k)) l (x : Int)) ↔ (fo_br Ir (i : Int) (x : Int) ∧ fo_ew (Ir1 78) (Ir1 79) (fun k : Nat => gₚ (Int.toNat (n' - l) + k)) l (x : Int)) := by
  subst hn
  have ab := gs_al_br hR yS b8 hi ht (x : Int)
  have key : fo_al I t (x : Int) → I1 (t + 17 + 2) x = Ir1 79 x ∧ ∀ j : Nat, (j : Int) < I1 (t + 17 + 2) x → I1 (t + 17 + 1) (24 * x + j) = Ir1 78 (24 * x + j) := fun h => by
    obtain ⟨w, c, e, w0, w1, c0, c1⟩ := h
    have s := S w c w0 w1 c0 c1
    rw [← e, show Int.toNat (x : Int) = x from rfl, show Int.toNat (24 * (x : Int)) = 24 * x from by omega] at s
    exact s
  unfold fo_ew
  rw [show Int.toNat (x : Int) = x from rfl]
  constructor
  · intro h
    obtain ⟨h1, h2, h3⟩ := h
    obtain ⟨k1, k2⟩ := key h1
    refine ⟨ab.mp h1, by omega, fun j j0 j1 => ?_⟩
    have h4 := h3 j j0 j1
    have k3 := k2 (Int.toNat (I1 (t + 17 + 2) x - l + j)) (by omega)
    rw [show Int.toNat (24 * (x : Int) + I1 (t + 17 + 2) x - l + j) = 24 * x + Int.toNat (I1 (t + 17 + 2) x - l + j) from by omega, k3] at h4
    rw [← k1, show Int.toNat (24 * (x : Int) + I1 (t + 17 + 2) x - l + j) = 24 * x + Int.toNat (I1 (t + 17 + 2) x - l + j) from by omega, h4]
    exact eg _ (by omega)
  · intro h
    obtain ⟨h1, h2, h3⟩ := h
    have h5 := ab.mpr h1
    obtain ⟨k1, k2⟩ := key h5
    refine ⟨h5, by omega, fun j j0 j1 => ?_⟩
    have h4 := h3 j j0 j1
    have k3 := k2 (Int.toNat (I1 (t + 17 + 2) x - l + j)) (by omega)
    rw [← k1, show Int.toNat (24 * (x : Int) + I1 (t + 17 + 2) x - l + j) = 24 * x + Int.toNat (I1 (t + 17 + 2) x - l + j) from by omega, ← k3] at h4
    rw [show Int.toNat (24 * (x : Int) + I1 (t + 17 + 2) x - l + j) = 24 * x + Int.toNat (I1 (t + 17 + 2) x - l + j) from by omega, h4]
    exact (eg _ (by omega)).symm
end GG9
set_option maxHeartbeats 2000000 in
theorem gp_guessx {ws0 : List Cond} {tb : String → gz_T} (hws : gc_Ws ws0) (htb : gc_tbs tb) (hwr : ∀ w ∈ gr_ws, w ∈ ws0) (htr : tb RX13 = gr_T) (ext : gz_Sh) {n a s : Nat} {sh : gz_Sh} {ro : Nat → Nat} {I : gr_I} {J : gr_J} {A : gc_A} {Ir : gr_I} {Jr : gr_J} (h : gp_P n a s sh ro I J A Ir Jr) (hn : n < 64) (a1 : Int) (ra1 : (-2147483648) ≤ a1 ∧ a1 ≤ 2147483647) : ∃ (z : Int) (Irₚ : gr_I) (Jrₚ : gr_J), gz_Ev ws0 tb 1000 (yX13_guess, cX13_guess, 8, (some .int)) [.inr (.inr (some 0)), .inl a1] (gr_sh ++ ext) (gr_h Ir Jr) (some (.inl z)) (gr_sh ++ ext) (gr_h Irₚ Jrₚ) 0 0 ∧ gr_Inv Irₚ ∧ ((-2147483648) ≤ z ∧ z ≤ 2147483647) ∧ ((∃ (Iₚ : gr_I) (Jₚ : gr_J), gz_Ev ws0 tb 100 (yX12_guess, cX12_guess, 4, (some .int)) [.inr (.inr (some 0)), .inl a1] sh (gc_h sh I J A) (some (.inl z)) sh (gc_h sh Iₚ Jₚ A) 0 0 ∧ Irₚ 0 0 = 0 ∧ gp_P (n + 1) a s sh ro Iₚ Jₚ A Irₚ Jrₚ) ∨ (gk_T ws0 tb (yX12_guess, cX12_guess, 4, (some .int)) [.inr (.inr (some 0)), .inl a1] sh I J A px_IAE ∧ Irₚ 0 0 = 1 ∧ gp_P (n + 1) (a + 1) (s + 6) sh ro I J A Irₚ Jrₚ)) := by
  have hs := h.1.1
  have hc := h.1.2.1
  have hR := h.2.2.1
  have e1 : I 8 1 = Ir 0 1 := hR.2.2.2.1.1
  have e3 := h.2.2.2.1
  have h6 := h.2.2.2.2.1
  have hS := h.2.2.2.2.2
  have i3 := gk_tp hs
  have i8 : 0 ≤ I 8 1 ∧ I 8 1 ≤ 8 := gc_in hs.2.1 (gc_bR hs.1 (by decide) rfl) rfl rfl
  have pr0 : (0 ≤ a1 ∧ a1 < Ir 0 1) → ∀ x : Int, fo_br Ir a1 x → fo_pr Ir a1 x < Ir 17 (Int.toNat a1) := fun k => by
    obtain ⟨t9, ht9, _⟩ := hs.2.2.2.2.1 (Int.toNat a1) (by omega)
    have pr := gs_prb hR hS i8.2 (i := Int.toNat a1) (by omega) ht9
    rw [show ((Int.toNat a1 : Nat) : Int) = a1 from by omega] at pr
    exact pr.1
  obtain ⟨rr, hₚ, E, Irₚ, Jrₚ, rfl, q, t, z, rfl, l1, l2, P1, P2, P3, P4, P5, P6⟩ := q_guess_z hwr htr ext h.2.1.1 hn a1 ra1 h.2.1.2.2.1 pr0
  by_cases c : 0 ≤ a1 ∧ a1 < I 8 1
  · obtain ⟨t9, ht9, _⟩ := hs.2.2.2.2.1 (Int.toNat a1) (by omega)
    have ea : ((Int.toNat a1 : Nat) : Int) = a1 := by omega
    have pr := gs_prb hR hS i8.2 (i := Int.toNat a1) (by omega) ht9
    rw [ea] at pr
    have e9 : ∀ u, A 10 (Int.toNat a1) = some u → u = t9 := fun u hu => Option.some.inj (hu.symm.trans ht9)
    obtain ⟨t8, z9, Iₚ, Jₚ, E9, ht8, ⟨F9, N9⟩, K9⟩ := hh_guess_z hws htb hs hc a1 c (fun u hu => by
      rw [e9 u hu]
      exact ⟨⟨gs_lh9 hS (i := Int.toNat a1) (by omega) ht9, gs_by9 hR hS i8.2 (i := Int.toNat a1) (by omega) ht9⟩, pr.2.1⟩)
    rw [e9 t8 ht8] at F9 N9
    have wd : so_wd (I 23 1) (I 24) ↔ so_wd (Ir 0 68) (Ir 56) := ⟨fun g => ⟨by rw [← e3]; exact g.1, fun k hk => by rw [← h6 k (by omega)]; exact g.2 k (by omega)⟩, fun g => ⟨by rw [e3]; exact g.1, fun k hk => by rw [h6 k hk]; exact g.2 k (by omega)⟩⟩
    have key : z9 = z ∧ gs_Nb Iₚ Irₚ := by
      rcases P5 (by omega) with ⟨w1, r1, r2, r3⟩ | ⟨w1, r1, r2⟩
      · rcases N9 with ⟨v1, s1, s2⟩ | ⟨v1, _, _⟩
        · have FS := gs_FS_mk hR hS i8.2 (i := Int.toNat a1) (by omega) ht9 F9 (Ir1 := Irₚ) (by rw [ea]; exact r2)
          have mi := gs_E_iff hR hS i8.2 (i := Int.toNat a1) (by omega) ht9 FS (n := I 23 1) (n' := Ir 0 68) (g := I 24) (gₚ := Ir 56) e3 h6
          rw [ea] at mi
          have eL : fo_L0 Ir = gc_L0 (I 23 1) := by
            unfold fo_L0 gc_L0
            rw [e3]
          have eP : Ir 17 (Int.toNat a1) = I (t9 + 11) 1 := pr.2.2.1
          rw [eL, eP] at r3
          obtain ⟨k1, k2⟩ := fo_GF_u s2 r3 (fun l x l1 l2 => mi l x l1 (by have := (gc_L0_b (n := I 23 1)).2.1; omega)) pr.2.2.2
          refine ⟨by omega, k1, fun h9 => ?_⟩
          obtain ⟨m1, m2, m3⟩ := k2 h9
          exact ⟨m2, m1, m3⟩
        · exact absurd (wd.mpr w1) v1
      · rcases N9 with ⟨v1, _⟩ | ⟨_, s1, s2⟩
        · exact absurd (wd.mp v1) w1
        · exact ⟨by omega, by omega, fun h9 => by omega⟩
    obtain ⟨hz, nb⟩ := key
    rw [hz] at E9
    exact ⟨_, Irₚ, Jrₚ, E, q.1.1, ⟨l1, l2⟩, Or.inl ⟨Iₚ, Jₚ, E9, P3 (by omega), gp_kn h K9 (by omega) q t (P1 (by omega)) ⟨gs_Na_s h.2.1.2.2.2.1 (K9.2.2.2.2.2.2.1 (by decide)) (t.1.2.2.1 (by decide)) (Int.le_of_eq (K9.2.2.1.1 8 1 (by decide) (by decide)).symm) (fun t9 _ ht => ⟨ht, fun x hx => by rw [gh_tb_al (gh_SE_tb K9.2.2.1 (i := Int.toNat (I 100 1)) (by omega) ht)]; exact hx⟩), nb⟩⟩⟩
  · rcases gk_guess hws htb hs hc a1 ra1 with ⟨c9, _⟩ | ⟨c9, T9⟩
    · exact absurd c9 (by omega)
    · exact ⟨_, Irₚ, Jrₚ, E, q.1.1, ⟨l1, l2⟩, Or.inr ⟨T9, P4 (by omega), gp_tn h q t (P2 (by omega)) ⟨gs_Na_s h.2.1.2.2.2.1 ⟨rfl, rfl, fun _ => rfl⟩ (t.1.2.2.1 (by decide)) (Int.le_refl _) (fun _ _ ht => ⟨ht, fun _ hx => hx⟩), gs_Nb_s h.2.1.2.2.2.2 ⟨rfl, rfl, rfl, fun _ => rfl, fun _ => rfl⟩ (P6 (by omega))⟩⟩⟩
theorem gp_guess {ws0 : List Cond} {tb : String → gz_T} (hws : gc_Ws ws0) (htb : gc_tbs tb) (hwr : ∀ w ∈ gr_ws, w ∈ ws0) (htr : tb RX13 = gr_T) (ext : gz_Sh) {n a s : Nat} {sh : gz_Sh} {ro : Nat → Nat} {I : gr_I} {J : gr_J} {A : gc_A} {Ir : gr_I} {Jr : gr_J} (h : gp_P n a s sh ro I J A Ir Jr) (hn : n < 64) (a1 : Int) (ra1 : (-2147483648) ≤ a1 ∧ a1 ≤ 2147483647) : gp_S ws0 tb ext (yX12_guess, cX12_guess, 4, (some .int)) [.inr (.inr (some 0)), .inl a1] (yX13_guess, cX13_guess, 8, (some .int)) n a s sh ro I J A Ir Jr := by
  obtain ⟨z, Irₚ, Jrₚ, E, _, _, ⟨Iₚ, Jₚ, E9, _, P9⟩ | ⟨T9, _, P9⟩⟩ := gp_guessx hws htb hwr htr ext h hn a1 ra1
  · exact ⟨_, Irₚ, Jrₚ, E, Or.inl ⟨_, Iₚ, Jₚ, E9, P9⟩⟩
  · exact ⟨_, Irₚ, Jrₚ, E, Or.inr ⟨T9, P9⟩⟩
