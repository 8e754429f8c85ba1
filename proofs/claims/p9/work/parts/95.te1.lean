set_option maxHeartbeats 8000000 in
set_option maxRecDepth 100000 in
theorem d_X6_readFun_a_p_L53 {ws0 : List Cond} {tb : String → gz_T} (hws : gc_Ws ws0) (htb : gc_tbs tb) (sh : gz_Sh) (ro : Nat → Nat) (I : gr_I) (J : gr_J) (A : gc_A) (hI : gc_Inv ro I) (β : Int → Int) (η : Int) (p9 : Int) (Ir : gr_I) (Jr : gr_J)  (hb : gc_Base sh ro A)  (x0 : gc_AT β η p9 23 I J) (x1 : 0 ≤ p9) (x2 : I 1 18 = 0) (x3 : I 4 1 = Ir 0 3) (x4 : gs_NA (I 4 1) (J 5) (Jr 3)) (x5 : I 2 1 = Ir 0 2) (x6 : gs_NA (I 2 1) (J 3) (Jr 2)) (KLT_I : gc_LT I) (KTK_I : gc_TK I) : ∀ (n9 : Nat) (I10 : gr_I) (J11 : gr_J) (v1_12 : Int64) (v3_12 : Int) (v5_12 : Int) (p_12 : Int), (5 - v3_12).toNat < n9 → gc_Inv ro I10 → (∀ q j : Nat, ((q = 39 ∧ j = 3) ∨ (q = 39 ∧ j = 4) ∨ (q = 23 ∧ j = 5) ∨ (q = 23 ∧ j = 6) ∨ (q = 23 ∧ j = 7) ∨ (q = 23 ∧ j = 8) ∨ (q = 39 ∧ j = 7) ∨ q = 41 ∨ (q = 4 ∧ j = 1) ∨ (q = 11 ∧ (I 4 1 ≤ (j : Int))) ∨ (q = 12 ∧ (I 4 1 ≤ (j : Int))) ∨ (q = 13 ∧ (4 * I 4 1 ≤ (j : Int))) ∨ q = 14) ∨ I10 q j = I q j) → (∀ q j : Nat, ((q = 23 ∧ j = 9) ∨ q = 5) ∨ J11 q j = J q j) → gc_LT I10 → gc_TK I10 → ((0 ≤ v3_12 ∧ v3_12 ≤ 4) ∧ (0 ≤ v5_12 ∧ v5_12 ≤ 5) ∧ (0 ≤ p_12) ∧ (I10 23 1 = I 23 1) ∧ (I 23 5 ≤ I10 23 5) ∧ (I10 4 1 = I 4 1)) → (gc_rg 41 I10 v3_12 0 31) → (gc_AT β η p_12 23 I10 J11) → (v1_12 = gs_M β η p9) → ((gs_fun β η Ir Jr (I 39 5) p9) = gs_fun1 β η Ir Jr (I 39 5) (gs_fl β η Ir Jr 4 (gs_need β η 58 (gs_X β η p9)))) → (gs_fl β η Ir Jr 4 (gs_need β η 58 (gs_X β η p9)) = gs_fl β η Ir Jr (Int.toNat (4 - v3_12)) p_12) → (gs_cn β η 5 (gs_need β η 58 (gs_X β η p9)) = v3_12 + gs_cn β η (Int.toNat (5 - v3_12)) p_12) → (p_12 = gs_nx β η (Int.toNat v3_12) (gs_need β η 58 (gs_X β η p9))) → (∀ i : Nat, i < Int.toNat v3_12 → I10 41 i = gs_lk Ir Jr 2 2 (gs_rn β η (gs_nx β η i (gs_need β η 58 (gs_X β η p9))))) → (v5_12 = v3_12) → ((I10 4 1 = I 4 1) ∧ (∀ k, J11 5 k = J 5 k) ∧ (∀ k, I10 11 k = I 11 k) ∧ (∀ k, I10 12 k = I 12 k) ∧ (∀ k, I10 13 k = I 13 k) ∧ (∀ k, I10 14 k = I 14 k) ∧ (I10 39 5 = I 39 5) ∧ (I10 1 18 = I 1 18)) → gv_X (gc_E6 ws0 tb 4 (yX6_readFun, cX6_readFun, 7, (some .boolean)) kX6_readFun) (gv_Q cX6_readFun (some .boolean) sh (fun r hₚ => (∃ (Iₚ : gr_I) (Jₚ : gr_J), hₚ = gc_h sh Iₚ Jₚ A ∧ gc_Inv ro Iₚ ∧ (∀ q j : Nat, ((q = 39 ∧ j = 3) ∨ (q = 39 ∧ j = 4) ∨ (q = 23 ∧ j = 5) ∨ (q = 23 ∧ j = 6) ∨ (q = 23 ∧ j = 7) ∨ (q = 23 ∧ j = 8) ∨ (q = 39 ∧ j = 7) ∨ q = 41 ∨ (q = 4 ∧ j = 1) ∨ (q = 11 ∧ (I 4 1 ≤ (j : Int))) ∨ (q = 12 ∧ (I 4 1 ≤ (j : Int))) ∨ (q = 13 ∧ (4 * I 4 1 ≤ (j : Int))) ∨ q = 14) ∨ Iₚ q j = I q j) ∧ (∀ q j : Nat, ((q = 23 ∧ j = 9) ∨ q = 5) ∨ Jₚ q j = J q j) ∧ gc_LT Iₚ ∧ gc_TK Iₚ ∧ (∃ z : Int, r = some (.inl z) ∧ 0 ≤ z ∧ z ≤ 1 ∧ (Iₚ 23 1 = I 23 1) ∧ (I 23 5 ≤ Iₚ 23 5) ∧ (I 4 1 ≤ Iₚ 4 1) ∧ (z = 1 ∨ Iₚ 4 1 = I 4 1) ∧ (gs_Or z (0 ≤ (gs_fun β η Ir Jr (I 39 5) p9) ∧ gc_AT β η (gs_fun β η Ir Jr (I 39 5) p9) 23 Iₚ Jₚ ∧ gs_Cfun (gs_M β η p9) (gs_cn β η 5 (gs_need β η 58 (gs_X β η p9))) (fun i => gs_lk Ir Jr 2 2 (gs_rn β η (gs_nx β η i (gs_need β η 58 (gs_X β η p9))))) (gs_lk Ir Jr 2 2 (gs_rn β η (gs_need β η 62 (gs_fl β η Ir Jr 4 (gs_need β η 58 (gs_X β η p9)))))) I J Iₚ Jₚ ∧ gs_Cfc (gs_prc β η (gs_X β η (gs_need β η 62 (gs_fl β η Ir Jr 4 (gs_need β η 58 (gs_X β η p9)))))) I Iₚ) ((gs_fun β η Ir Jr (I 39 5) p9) < 0 ∧ Iₚ 39 4 = -1 - (gs_fun β η Ir Jr (I 39 5) p9) ∧ Iₚ 4 1 = I 4 1 ∧ ∀ j, Jₚ 5 j = J 5 j ∧ Iₚ 11 j = I 11 j ∧ Iₚ 12 j = I 12 j ∧ Iₚ 13 j = I 13 j ∧ Iₚ 14 j = I 14 j)))))) (53, [(0, .inr (.inr (some 39))), (1, .inr (.inl v1_12)), (3, .inl v3_12), (4, .inr (.inr (some 41))), (5, .inl v5_12)], [], sh, gc_h sh I10 J11 A) := by
  have FI : ∀ q j : Nat, ((q = 39 ∧ j = 3) ∨ (q = 39 ∧ j = 4) ∨ (q = 23 ∧ j = 5) ∨ (q = 23 ∧ j = 6) ∨ (q = 23 ∧ j = 7) ∨ (q = 23 ∧ j = 8) ∨ (q = 39 ∧ j = 7) ∨ q = 41 ∨ (q = 4 ∧ j = 1) ∨ (q = 11 ∧ (I 4 1 ≤ (j : Int))) ∨ (q = 12 ∧ (I 4 1 ≤ (j : Int))) ∨ (q = 13 ∧ (4 * I 4 1 ≤ (j : Int))) ∨ q = 14) ∨ I q j = I q j := fun _ _ => Or.inr rfl
  have FJ : ∀ q j : Nat, ((q = 23 ∧ j = 9) ∨ q = 5) ∨ J q j = J q j := fun _ _ => Or.inr rfl
  have A_1_0 : A 1 0 = some 2 := gc_bA_1_0 hb
  have A_1_1 : A 1 1 = some 4 := gc_bA_1_1 hb
  have A_1_6 : A 1 6 = some 11 := gc_bA_1_6 hb
  have A_1_7 : A 1 7 = some 12 := gc_bA_1_7 hb
  have A_1_8 : A 1 8 = some 13 := gc_bA_1_8 hb
  have A_1_9 : A 1 9 = some 14 := gc_bA_1_9 hb
  have A_39_0 : A 39 0 = some 1 := gc_bA_39_0 hb
  have A_39_1 : A 39 1 = some 23 := gc_bA_39_1 hb
  have A_39_10 : A 39 10 = some 41 := gc_bA_39_10 hb
  have B_1 : 1 < 1000000 := by decide
  have B_11 : 11 < 1000000 := by decide
  have B_12 : 12 < 1000000 := by decide
  have B_13 : 13 < 1000000 := by decide
  have B_14 : 14 < 1000000 := by decide
  have B_2 : 2 < 1000000 := by decide
  have B_23 : 23 < 1000000 := by decide
  have B_39 : 39 < 1000000 := by decide
  have B_4 : 4 < 1000000 := by decide
  have B_41 : 41 < 1000000 := by decide
  have R_1 : ro 1 = 22 := gc_bR_1 hb
  have R_11 : ro 11 = 25 := gc_bR_11 hb
  have R_12 : ro 12 = 26 := gc_bR_12 hb
  have R_13 : ro 13 = 25 := gc_bR_13 hb
  have R_14 : ro 14 = 27 := gc_bR_14 hb
  have R_2 : ro 2 = 9 := gc_bR_2 hb
  have R_23 : ro 23 = 3 := gc_bR_23 hb
  have R_39 : ro 39 = 42 := gc_bR_39 hb
  have R_4 : ro 4 = 11 := gc_bR_4 hb
  have R_41 : ro 41 = 0 := gc_bR_41 hb
  have S_1 : sh[1]? = some (false, 8, 21) := gc_bS_1 hb
  have S_11 : sh[11]? = some (true, 1, 96) := gc_bS_11 hb
  have S_12 : sh[12]? = some (true, 1, 96) := gc_bS_12 hb
  have S_13 : sh[13]? = some (true, 1, 384) := gc_bS_13 hb
  have S_14 : sh[14]? = some (true, 1, 96) := gc_bS_14 hb
  have S_2 : sh[2]? = some (false, 4, 2) := gc_bS_2 hb
  have S_23 : sh[23]? = some (false, 9, 10) := gc_bS_23 hb
  have S_39 : sh[39]? = some (false, 6, 19) := gc_bS_39 hb
  have S_4 : sh[4]? = some (false, 4, 2) := gc_bS_4 hb
  have S_41 : sh[41]? = some (true, 1, 25) := gc_bS_41 hb
  have hD : gv_D (gc_E6 ws0 tb 4 (yX6_readFun, cX6_readFun, 7, (some .boolean)) kX6_readFun) := gq_of oX6_readFun
  intro n9
  induction n9 with
  | zero => intro I10 J11 v1_12 v3_12 v5_12 p_12 hn; omega
  | succ n9 ih53 =>
    intro I10 J11 v1_12 v3_12 v5_12 p_12 hn hI10 FI10 FJ11 KLT_I10 KTK_I10 m_12 e0_12 e2_12 e3_12 e4_12 e5_12 e6_12 e7_12 e8_12 e9_12 e10_12
    obtain ⟨hv3_12, hv5_12, e1_12, e11_12, e12_12, e13_12⟩ := m_12
    have t13 := gc_TK_mo KTK_I10
    have f14 := (gc_b_3_1 hI10 R_23)
    have f15 := (gc_b_3_5 hI10 R_23)
    have f16 := (gc_b_3_6 hI10 R_23)
    have f17 := (gc_b_3_7 hI10 R_23)
    have f18 := (gc_b_11_1 hI10 R_4)
    have f19 := (gc_b_9_1 hI10 R_2)
    have f20 := (gc_b_42_5 hI10 R_39)
    have f21 := (gc_b_22_18 hI10 R_1)
    have t22 := gc_AT_l e2_12
    have L141 : ((0 ≤ v3_12 ∧ v3_12 ≤ 4) ∧ (0 ≤ p_12) ∧ (I10 23 1 = I 23 1) ∧ (I 23 5 ≤ I10 23 5) ∧ (I10 4 1 = I 4 1)) → (gc_rg 41 I10 v3_12 0 31) → (gc_AT β η p_12 23 I10 J11) → (v1_12 = gs_M β η p9) → ((gs_fun β η Ir Jr (I 39 5) p9) = gs_fun2 β η Ir Jr (I 39 5) (gs_need β η 62 p_12)) → (p_12 = gs_fl β η Ir Jr 4 (gs_need β η 58 (gs_X β η p9))) → (v3_12 = gs_cn β η 5 (gs_need β η 58 (gs_X β η p9))) → (∀ i : Nat, i < Int.toNat v3_12 → I10 41 i = gs_lk Ir Jr 2 2 (gs_rn β η (gs_nx β η i (gs_need β η 58 (gs_X β η p9))))) → ((I10 4 1 = I 4 1) ∧ (∀ k, J11 5 k = J 5 k) ∧ (∀ k, I10 11 k = I 11 k) ∧ (∀ k, I10 12 k = I 12 k) ∧ (∀ k, I10 13 k = I 13 k) ∧ (∀ k, I10 14 k = I 14 k) ∧ (I10 39 5 = I 39 5) ∧ (I10 1 18 = I 1 18)) → gv_X (gc_E6 ws0 tb 4 (yX6_readFun, cX6_readFun, 7, (some .boolean)) kX6_readFun) (gv_Q cX6_readFun (some .boolean) sh (fun r hₚ => (∃ (Iₚ : gr_I) (Jₚ : gr_J), hₚ = gc_h sh Iₚ Jₚ A ∧ gc_Inv ro Iₚ ∧ (∀ q j : Nat, ((q = 39 ∧ j = 3) ∨ (q = 39 ∧ j = 4) ∨ (q = 23 ∧ j = 5) ∨ (q = 23 ∧ j = 6) ∨ (q = 23 ∧ j = 7) ∨ (q = 23 ∧ j = 8) ∨ (q = 39 ∧ j = 7) ∨ q = 41 ∨ (q = 4 ∧ j = 1) ∨ (q = 11 ∧ (I 4 1 ≤ (j : Int))) ∨ (q = 12 ∧ (I 4 1 ≤ (j : Int))) ∨ (q = 13 ∧ (4 * I 4 1 ≤ (j : Int))) ∨ q = 14) ∨ Iₚ q j = I q j) ∧ (∀ q j : Nat, ((q = 23 ∧ j = 9) ∨ q = 5) ∨ Jₚ q j = J q j) ∧ gc_LT Iₚ ∧ gc_TK Iₚ ∧ (∃ z : Int, r = some (.inl z) ∧ 0 ≤ z ∧ z ≤ 1 ∧ (Iₚ 23 1 = I 23 1) ∧ (I 23 5 ≤ Iₚ 23 5) ∧ (I 4 1 ≤ Iₚ 4 1) ∧ (z = 1 ∨ Iₚ 4 1 = I 4 1) ∧ (gs_Or z (0 ≤ (gs_fun β η Ir Jr (I 39 5) p9) ∧ gc_AT β η (gs_fun β η Ir Jr (I 39 5) p9) 23 Iₚ Jₚ ∧ gs_Cfun (gs_M β η p9) (gs_cn β η 5 (gs_need β η 58 (gs_X β η p9))) (fun i => gs_lk Ir Jr 2 2 (gs_rn β η (gs_nx β η i (gs_need β η 58 (gs_X β η p9))))) (gs_lk Ir Jr 2 2 (gs_rn β η (gs_need β η 62 (gs_fl β η Ir Jr 4 (gs_need β η 58 (gs_X β η p9)))))) I J Iₚ Jₚ ∧ gs_Cfc (gs_prc β η (gs_X β η (gs_need β η 62 (gs_fl β η Ir Jr 4 (gs_need β η 58 (gs_X β η p9)))))) I Iₚ) ((gs_fun β η Ir Jr (I 39 5) p9) < 0 ∧ Iₚ 39 4 = -1 - (gs_fun β η Ir Jr (I 39 5) p9) ∧ Iₚ 4 1 = I 4 1 ∧ ∀ j, Jₚ 5 j = J 5 j ∧ Iₚ 11 j = I 11 j ∧ Iₚ 12 j = I 12 j ∧ Iₚ 13 j = I 13 j ∧ Iₚ 14 j = I 14 j)))))) (141, [(0, .inr (.inr (some 39))), (1, .inr (.inl v1_12)), (3, .inl v3_12), (4, .inr (.inr (some 41)))], [], sh, gc_h sh I10 J11 A) := by
      intro m_23 e0_23 e2_23 e3_23 e4_23 e5_23 e6_23 e7_23 e8_23
      obtain ⟨hv3_12_23, e1_23, e9_23, e10_23, e11_23⟩ := m_23
      have t24 := gc_TK_mo KTK_I10
      have f25 := (gc_b_3_1 hI10 R_23)
      have f26 := (gc_b_3_5 hI10 R_23)
      have f27 := (gc_b_3_6 hI10 R_23)
      have f28 := (gc_b_3_7 hI10 R_23)
      have f29 := (gc_b_11_1 hI10 R_4)
      have f30 := (gc_b_9_1 hI10 R_2)
      have f31 := (gc_b_42_5 hI10 R_39)
      have f32 := (gc_b_22_18 hI10 R_1)
      have t33 := gc_AT_l e2_12
      refine gv_run 2 true hD (pcₚ := 144) (lvₚ := [(0, .inr (.inr (some 39))), (1, .inr (.inl v1_12)), (3, .inl v3_12), (4, .inr (.inr (some 41)))]) (stₚ := [.inl 62, .inr (.inr (some 39))]) (hₚ := gc_h sh I10 J11 A) (C := ((True ∧ True) ∧ True)) rfl ⟨⟨trivial, trivial⟩, trivial⟩ ?_
      obtain ⟨r34, h34, E34, P34⟩ := d_X6_take_p (ws0 := ws0) (tb := tb) hws htb sh ro I10 J11 A hI10  β η p_12 62 hb   ⟨by omega, by omega⟩ (by omega) e2_12 (by omega) KLT_I10 KTK_I10
      obtain ⟨I35, J36, rfl, hI35, g34, k34, KLT_I35, KTK_I35, ⟨z34, rfl, q34⟩⟩ := P34
      have FI35 := gc_frc (W := fun q j => (q = 39 ∧ j = 3) ∨ (q = 39 ∧ j = 4) ∨ (q = 23 ∧ j = 5) ∨ (q = 23 ∧ j = 6) ∨ (q = 23 ∧ j = 7) ∨ (q = 23 ∧ j = 8) ∨ (q = 39 ∧ j = 7) ∨ q = 41 ∨ (q = 4 ∧ j = 1) ∨ (q = 11 ∧ (I 4 1 ≤ (j : Int))) ∨ (q = 12 ∧ (I 4 1 ≤ (j : Int))) ∨ (q = 13 ∧ (4 * I 4 1 ≤ (j : Int))) ∨ q = 14) (V := fun q j => (q = 39 ∧ j = 3) ∨ (q = 39 ∧ j = 4) ∨ (q = 23 ∧ j = 5) ∨ (q = 23 ∧ j = 6) ∨ (q = 23 ∧ j = 7) ∨ (q = 23 ∧ j = 8)) FI10 (fun q j h => (h.elim (fun h => (Or.inl h)) (fun h => (h.elim (fun h => (Or.inr (Or.inl h))) (fun h => (h.elim (fun h => (Or.inr (Or.inr (Or.inl h)))) (fun h => (h.elim (fun h => (Or.inr (Or.inr (Or.inr (Or.inl h))))) (fun h => (h.elim (fun h => (Or.inr (Or.inr (Or.inr (Or.inr (Or.inl h)))))) (fun h => (Or.inr (Or.inr (Or.inr (Or.inr (Or.inr (Or.inl h))))))))))))))))) g34
      have FJ36 := gc_frc (W := fun q j => (q = 23 ∧ j = 9) ∨ q = 5) (V := fun q j => (q = 23 ∧ j = 9)) FJ11 (fun q j h => (Or.inl h)) k34
      have t37 := (g34 23 1).resolve_left (fun h => h.elim (fun h => absurd h.2 (by decide)) (fun h => h.elim (fun h => absurd h.2 (by decide)) (fun h => h.elim (fun h => absurd h.2 (by decide)) (fun h => h.elim (fun h => absurd h.2 (by decide)) (fun h => h.elim (fun h => absurd h.2 (by decide)) (fun h => absurd h.2 (by decide)))))))
      have t38 := (g34 4 1).resolve_left (fun h => h.elim (fun h => absurd h.2 (by decide)) (fun h => h.elim (fun h => absurd h.2 (by decide)) (fun h => h.elim (fun h => absurd h.2 (by decide)) (fun h => h.elim (fun h => absurd h.2 (by decide)) (fun h => h.elim (fun h => absurd h.2 (by decide)) (fun h => absurd h.2 (by decide)))))))
      have t39 := (g34 2 1).resolve_left (fun h => h.elim (fun h => absurd h.2 (by decide)) (fun h => h.elim (fun h => absurd h.2 (by decide)) (fun h => h.elim (fun h => absurd h.2 (by decide)) (fun h => h.elim (fun h => absurd h.2 (by decide)) (fun h => h.elim (fun h => absurd h.2 (by decide)) (fun h => absurd h.2 (by decide)))))))
      have t40 := (g34 39 5).resolve_left (fun h => h.elim (fun h => absurd h.2 (by decide)) (fun h => h.elim (fun h => absurd h.2 (by decide)) (fun h => h.elim (fun h => absurd h.1 (by decide)) (fun h => h.elim (fun h => absurd h.2 (by decide)) (fun h => h.elim (fun h => absurd h.2 (by decide)) (fun h => absurd h.2 (by decide)))))))
      have t41 := (g34 1 18).resolve_left (fun h => h.elim (fun h => absurd h.2 (by decide)) (fun h => h.elim (fun h => absurd h.2 (by decide)) (fun h => h.elim (fun h => absurd h.2 (by decide)) (fun h => h.elim (fun h => absurd h.2 (by decide)) (fun h => h.elim (fun h => absurd h.2 (by decide)) (fun h => absurd h.2 (by decide)))))))
      have f42 := (gc_b_3_5 hI35 R_23)
      have f43 := (gc_b_3_6 hI35 R_23)
      have f44 := (gc_b_3_7 hI35 R_23)
      have t45 := gc_TK_mo KTK_I35
      refine gv_callV hD rfl (As := [.inl 62]) (st := []) rfl B_39 S_39 rfl (gc_lV6 hws rfl) (Nat.le_of_ble_eq_true rfl) (gz_Ev_mono (d := 3) (by decide) E34) ?_
      show gv_X _ _ (147, [(0, .inr (.inr (some 39))), (1, .inr (.inl v1_12)), (3, .inl v3_12), (4, .inr (.inr (some 41)))], [.inl z34], sh, gc_h sh I35 J36 A)
      refine gv_if_eq (t := 164) hD rfl rfl ⟨by omega, by omega⟩ (fun c46 => ?_) (fun c46 => ?_)
      · show gv_X _ _ (164, [(0, .inr (.inr (some 39))), (1, .inr (.inl v1_12)), (3, .inl v3_12), (4, .inr (.inr (some 41)))], [], sh, gc_h sh I35 J36 A)
        obtain ⟨u47, u47_⟩ := gs_or0 q34.2.2.2.2.2 (by omega)
        refine gv_run 1 true hD (pcₚ := 165) (lvₚ := [(0, .inr (.inr (some 39))), (1, .inr (.inl v1_12)), (3, .inl v3_12), (4, .inr (.inr (some 41)))]) (stₚ := [.inl 0]) (hₚ := gc_h sh I35 J36 A) (C := (True ∧ True)) rfl ⟨trivial, trivial⟩ ?_
        exact gv_zret hD rfl (by omega) ⟨I35, J36, rfl, hI35, FI35, FJ36, KLT_I35, KTK_I35, ⟨_, rfl, by omega, by omega, by omega, by omega, by omega, by omega, (Or.inr ⟨by omega, by first | (exfalso; omega) | (rw [e4_23]; unfold gs_fun2 gs_fun3; (repeat first | rw [if_pos (by omega)] | rw [if_neg (by omega)]); exact ⟨by omega, by omega, (((g34 4 1).resolve_left (by omega)).trans (e8_23.1)), fun j => ⟨(((k34 5 j).resolve_left (by omega)).trans (e8_23.2.1 j)), (((g34 11 j).resolve_left (by omega)).trans (e8_23.2.2.1 j)), (((g34 12 j).resolve_left (by omega)).trans (e8_23.2.2.2.1 j)), (((g34 13 j).resolve_left (by omega)).trans (e8_23.2.2.2.2.1 j)), (((g34 14 j).resolve_left (by omega)).trans (e8_23.2.2.2.2.2.1 j))⟩⟩)⟩)⟩⟩
      · show gv_X _ _ (150, [(0, .inr (.inr (some 39))), (1, .inr (.inl v1_12)), (3, .inl v3_12), (4, .inr (.inr (some 41)))], [], sh, gc_h sh I35 J36 A)
        obtain ⟨u48, A48⟩ := gs_or1 q34.2.2.2.2.2 (by omega)
        have t49 := gc_AT_l A48
        refine gv_run 2 true hD (pcₚ := 152) (lvₚ := [(0, .inr (.inr (some 39))), (1, .inr (.inl v1_12)), (3, .inl v3_12), (4, .inr (.inr (some 41)))]) (stₚ := [.inr (.inr (some 39)), .inr (.inr (some 39))]) (hₚ := gc_h sh I35 J36 A) (C := ((True ∧ True) ∧ True)) rfl ⟨⟨trivial, trivial⟩, trivial⟩ ?_
        refine gv_get hD rfl rfl S_39 ⟨by decide, B_39⟩ (gc_hA S_39 rfl A_39_0) ?_
        show gv_X _ _ (155, [(0, .inr (.inr (some 39))), (1, .inr (.inl v1_12)), (3, .inl v3_12), (4, .inr (.inr (some 41)))], [.inr (.inr (some 1)), .inr (.inr (some 39))], sh, gc_h sh I35 J36 A)
        refine gv_get hD rfl rfl S_1 ⟨by decide, B_1⟩ (gc_hA S_1 rfl A_1_0) ?_
        show gv_X _ _ (158, [(0, .inr (.inr (some 39))), (1, .inr (.inl v1_12)), (3, .inl v3_12), (4, .inr (.inr (some 41)))], [.inr (.inr (some 2)), .inr (.inr (some 39))], sh, gc_h sh I35 J36 A)
        obtain ⟨r50, h50, E50, P50⟩ := d_X6_needKnown_p (ws0 := ws0) (tb := tb) hws htb sh ro I35 J36 A hI35  32 9 β η (gs_need β η 62 p_12) 2 hb (gc_b2 hb)   A48 (by omega) 
        obtain ⟨I51, J52, rfl, hI51, g50, k50, ⟨z50, rfl, q50⟩⟩ := P50
        have FI51 := gc_frc (W := fun q j => (q = 39 ∧ j = 3) ∨ (q = 39 ∧ j = 4) ∨ (q = 23 ∧ j = 5) ∨ (q = 23 ∧ j = 6) ∨ (q = 23 ∧ j = 7) ∨ (q = 23 ∧ j = 8) ∨ (q = 39 ∧ j = 7) ∨ q = 41 ∨ (q = 4 ∧ j = 1) ∨ (q = 11 ∧ (I 4 1 ≤ (j : Int))) ∨ (q = 12 ∧ (I 4 1 ≤ (j : Int))) ∨ (q = 13 ∧ (4 * I 4 1 ≤ (j : Int))) ∨ q = 14) (V := fun q j => (q = 39 ∧ j = 3) ∨ (q = 39 ∧ j = 4)) FI35 (fun q j h => (h.elim (fun h => (Or.inl h)) (fun h => (Or.inr (Or.inl h))))) g50
        have t53 := (g50 23 1).resolve_left (fun h => h.elim (fun h => absurd h.2 (by decide)) (fun h => absurd h.2 (by decide)))
        have t54 := (g50 23 5).resolve_left (fun h => h.elim (fun h => absurd h.2 (by decide)) (fun h => absurd h.2 (by decide)))
        have t55 := (g50 23 6).resolve_left (fun h => h.elim (fun h => absurd h.2 (by decide)) (fun h => absurd h.2 (by decide)))
        have t56 := (g50 23 7).resolve_left (fun h => h.elim (fun h => absurd h.2 (by decide)) (fun h => absurd h.2 (by decide)))
        have t57 := (g50 4 1).resolve_left (fun h => h.elim (fun h => absurd h.2 (by decide)) (fun h => absurd h.2 (by decide)))
        have t58 := (g50 2 1).resolve_left (fun h => h.elim (fun h => absurd h.2 (by decide)) (fun h => absurd h.2 (by decide)))
        have t59 := (g50 39 5).resolve_left (fun h => h.elim (fun h => absurd h.2 (by decide)) (fun h => absurd h.2 (by decide)))
        have t60 := (g50 1 18).resolve_left (fun h => h.elim (fun h => absurd h.2 (by decide)) (fun h => absurd h.2 (by decide)))
        obtain rfl : J36 = J52 := funext fun q => funext fun j => ((k50 q j).resolve_left id).symm
        have KLT_I51 := gc_LT_fr KLT_I35 ((g50 23 5).resolve_left (fun h => h.elim (fun h => absurd h.2 (by decide)) (fun h => absurd h.2 (by decide)))) ((g50 23 6).resolve_left (fun h => h.elim (fun h => absurd h.2 (by decide)) (fun h => absurd h.2 (by decide)))) ((g50 23 7).resolve_left (fun h => h.elim (fun h => absurd h.2 (by decide)) (fun h => absurd h.2 (by decide)))) (fun k => (g50 24 k).resolve_left (fun h => h.elim (fun h => absurd h.1 (by decide)) (fun h => absurd h.1 (by decide))))
        have KTK_I51 := gc_TK_fr KTK_I35 ((g50 23 1).resolve_left (fun h => h.elim (fun h => absurd h.2 (by decide)) (fun h => absurd h.2 (by decide)))) ((g50 23 5).resolve_left (fun h => h.elim (fun h => absurd h.2 (by decide)) (fun h => absurd h.2 (by decide)))) ((g50 23 6).resolve_left (fun h => h.elim (fun h => absurd h.2 (by decide)) (fun h => absurd h.2 (by decide)))) ((g50 23 7).resolve_left (fun h => h.elim (fun h => absurd h.2 (by decide)) (fun h => absurd h.2 (by decide))))
        have A61 := gc_AT_I A48 ((g50 23 1).resolve_left (fun h => h.elim (fun h => absurd h.2 (by decide)) (fun h => absurd h.2 (by decide)))) ((g50 23 5).resolve_left (fun h => h.elim (fun h => absurd h.2 (by decide)) (fun h => absurd h.2 (by decide)))) ((g50 23 6).resolve_left (fun h => h.elim (fun h => absurd h.2 (by decide)) (fun h => absurd h.2 (by decide)))) ((g50 23 7).resolve_left (fun h => h.elim (fun h => absurd h.2 (by decide)) (fun h => absurd h.2 (by decide)))) ((g50 23 8).resolve_left (fun h => h.elim (fun h => absurd h.2 (by decide)) (fun h => absurd h.2 (by decide)))) (fun k => (g50 24 k).resolve_left (fun h => h.elim (fun h => absurd h.1 (by decide)) (fun h => absurd h.1 (by decide))))
        have t62 := gc_AT_l A61
        refine gv_callV hD rfl (As := [.inr (.inr (some 2))]) (st := []) rfl B_39 S_39 rfl (gc_lV6 hws rfl) (Nat.le_of_ble_eq_true rfl) (gz_Ev_mono (d := 3) (by decide) E50) ?_
        show gv_X _ _ (161, [(0, .inr (.inr (some 39))), (1, .inr (.inl v1_12)), (3, .inl v3_12), (4, .inr (.inr (some 41)))], [.inl z50], sh, gc_h sh I51 J36 A)
        refine gv_if_ne (t := 166) hD rfl rfl ⟨by omega, by omega⟩ (fun c63 => ?_) (fun c63 => ?_)
        · show gv_X _ _ (166, [(0, .inr (.inr (some 39))), (1, .inr (.inl v1_12)), (3, .inl v3_12), (4, .inr (.inr (some 41)))], [], sh, gc_h sh I51 J36 A)
          have u64 := gs_or1 q50.2.2.2 (by omega)
          have L50 : gs_T β η (gs_need β η 62 p_12) = 1 → gc_fd (J36 (2 + 1)) (gs_M β η (gs_need β η 62 p_12)) (Int.toNat (I35 2 1)) = gs_lk Ir Jr 2 2 (gs_rn β η (gs_need β η 62 p_12)) := (fun h => by rw [show I35 2 1 = I 2 1 from (((g34 2 1).resolve_left (by omega)).trans ((FI10 2 1).resolve_left (by omega))), show J36 (2 + 1) = J (2 + 1) from funext fun j => (((k34 3 j).resolve_left (by omega)).trans ((FJ11 3 j).resolve_left (by omega)))]; exact gs_NA_lk x6 x5 h)
          have t65 := L50 (by omega)
          refine gv_run 1 true hD (pcₚ := 167) (lvₚ := [(0, .inr (.inr (some 39))), (1, .inr (.inl v1_12)), (3, .inl v3_12), (4, .inr (.inr (some 41)))]) (stₚ := [.inr (.inr (some 39))]) (hₚ := gc_h sh I51 J36 A) (C := (True ∧ True)) rfl ⟨trivial, trivial⟩ ?_
          refine gv_get hD rfl rfl S_39 ⟨by decide, B_39⟩ (gc_hA S_39 rfl A_39_0) ?_
          show gv_X _ _ (170, [(0, .inr (.inr (some 39))), (1, .inr (.inl v1_12)), (3, .inl v3_12), (4, .inr (.inr (some 41)))], [.inr (.inr (some 1))], sh, gc_h sh I51 J36 A)
          refine gv_get hD rfl rfl S_1 ⟨by decide, B_1⟩ (gc_hA S_1 rfl A_1_0) ?_
          show gv_X _ _ (173, [(0, .inr (.inr (some 39))), (1, .inr (.inl v1_12)), (3, .inl v3_12), (4, .inr (.inr (some 41)))], [.inr (.inr (some 2))], sh, gc_h sh I51 J36 A)
          refine gv_run 1 true hD (pcₚ := 174) (lvₚ := [(0, .inr (.inr (some 39))), (1, .inr (.inl v1_12)), (3, .inl v3_12), (4, .inr (.inr (some 41)))]) (stₚ := [.inr (.inr (some 39)), .inr (.inr (some 2))]) (hₚ := gc_h sh I51 J36 A) (C := (True ∧ True)) rfl ⟨trivial, trivial⟩ ?_
          refine gv_get hD rfl rfl S_39 ⟨by decide, B_39⟩ (gc_hA S_39 rfl A_39_1) ?_
          show gv_X _ _ (177, [(0, .inr (.inr (some 39))), (1, .inr (.inl v1_12)), (3, .inl v3_12), (4, .inr (.inr (some 41)))], [.inr (.inr (some 23)), .inr (.inr (some 2))], sh, gc_h sh I51 J36 A)
          refine gv_get hD rfl rfl S_23 ⟨by decide, B_23⟩ (gc_hJ S_23 rfl) ?_
          show gv_X _ _ (180, [(0, .inr (.inr (some 39))), (1, .inr (.inl v1_12)), (3, .inl v3_12), (4, .inr (.inr (some 41)))], [.inr (.inl (J36 23 9)), .inr (.inr (some 2))], sh, gc_h sh I51 J36 A)
          obtain ⟨r66, h66, E66, P66⟩ := d_X4_find (ws0 := ws0) (tb := tb) hws htb sh ro I51 J36 A hI51 2 32 9 (J36 23 9) (gc_b2 hb)     
          obtain ⟨rfl, ⟨z66, rfl, q66⟩⟩ := P66
          have t67 : z66 = gs_lk Ir Jr 2 2 (gs_rn β η (gs_need β η 62 p_12)) := q66.2.2.2.trans (by rw [gc_AT_m A61 (by omega)]; exact (show gs_T β η (gs_need β η 62 p_12) = 1 → gc_fd (J36 (2 + 1)) (gs_M β η (gs_need β η 62 p_12)) (Int.toNat (I51 2 1)) = gs_lk Ir Jr 2 2 (gs_rn β η (gs_need β η 62 p_12)) from (fun h => by rw [show I51 2 1 = I 2 1 from ((((g50 2 1).resolve_left (by omega)).trans ((g34 2 1).resolve_left (by omega))).trans ((FI10 2 1).resolve_left (by omega))), show J36 (2 + 1) = J (2 + 1) from funext fun j => (((k34 3 j).resolve_left (by omega)).trans ((FJ11 3 j).resolve_left (by omega)))]; exact gs_NA_lk x6 x5 h)) (by omega))
          refine gv_callV hD rfl (As := [.inr (.inl (J36 23 9))]) (st := []) rfl B_2 S_2 rfl (gc_lV6 hws rfl) (Nat.le_of_ble_eq_true rfl) (gz_Ev_mono (d := 1) (by decide) E66) ?_
          show gv_X _ _ (183, [(0, .inr (.inr (some 39))), (1, .inr (.inl v1_12)), (3, .inl v3_12), (4, .inr (.inr (some 41)))], [.inl z66], sh, gc_h sh I51 J36 A)
          refine gv_run 2 true hD (pcₚ := 186) (lvₚ := [(5, .inl z66), (0, .inr (.inr (some 39))), (1, .inr (.inl v1_12)), (3, .inl v3_12), (4, .inr (.inr (some 41)))]) (stₚ := [.inr (.inr (some 39))]) (hₚ := gc_h sh I51 J36 A) (C := ((True ∧ True) ∧ True)) rfl ⟨⟨trivial, trivial⟩, trivial⟩ ?_
          refine gv_get hD rfl rfl S_39 ⟨by decide, B_39⟩ (gc_hA S_39 rfl A_39_1) ?_
          show gv_X _ _ (189, [(5, .inl z66), (0, .inr (.inr (some 39))), (1, .inr (.inl v1_12)), (3, .inl v3_12), (4, .inr (.inr (some 41)))], [.inr (.inr (some 23))], sh, gc_h sh I51 J36 A)
          have t69 := gc_TK_nx KTK_I51 (by omega)
          obtain ⟨r68, h68, E68, P68⟩ := d_X9_advance_p (ws0 := ws0) (tb := tb) hws htb sh ro I51 J36 A hI51 23 β η  (gc_b23 hb)    (by omega) A61.1.1 A61.1.2 
          obtain ⟨I70, J71, rfl, hI70, g68, k68, ⟨rfl, V68_0, V68_1, V68_2, V68_3, V68_4, q68⟩⟩ := P68
          have FI70 := gc_frc (W := fun q j => (q = 39 ∧ j = 3) ∨ (q = 39 ∧ j = 4) ∨ (q = 23 ∧ j = 5) ∨ (q = 23 ∧ j = 6) ∨ (q = 23 ∧ j = 7) ∨ (q = 23 ∧ j = 8) ∨ (q = 39 ∧ j = 7) ∨ q = 41 ∨ (q = 4 ∧ j = 1) ∨ (q = 11 ∧ (I 4 1 ≤ (j : Int))) ∨ (q = 12 ∧ (I 4 1 ≤ (j : Int))) ∨ (q = 13 ∧ (4 * I 4 1 ≤ (j : Int))) ∨ q = 14) (V := fun q j => (q = 23 ∧ j = 5) ∨ (q = 23 ∧ j = 6) ∨ (q = 23 ∧ j = 7) ∨ (q = 23 ∧ j = 8)) FI51 (fun q j h => (h.elim (fun h => (Or.inr (Or.inr (Or.inl h)))) (fun h => (h.elim (fun h => (Or.inr (Or.inr (Or.inr (Or.inl h))))) (fun h => (h.elim (fun h => (Or.inr (Or.inr (Or.inr (Or.inr (Or.inl h)))))) (fun h => (Or.inr (Or.inr (Or.inr (Or.inr (Or.inr (Or.inl h))))))))))))) g68
          have FJ71 := gc_frc (W := fun q j => (q = 23 ∧ j = 9) ∨ q = 5) (V := fun q j => (q = 23 ∧ j = 9)) FJ36 (fun q j h => (Or.inl h)) k68
          have t72 := (g68 23 1).resolve_left (fun h => h.elim (fun h => absurd h.2 (by decide)) (fun h => h.elim (fun h => absurd h.2 (by decide)) (fun h => h.elim (fun h => absurd h.2 (by decide)) (fun h => absurd h.2 (by decide)))))
          have t73 := (g68 4 1).resolve_left (fun h => h.elim (fun h => absurd h.2 (by decide)) (fun h => h.elim (fun h => absurd h.2 (by decide)) (fun h => h.elim (fun h => absurd h.2 (by decide)) (fun h => absurd h.2 (by decide)))))
          have t74 := (g68 2 1).resolve_left (fun h => h.elim (fun h => absurd h.2 (by decide)) (fun h => h.elim (fun h => absurd h.2 (by decide)) (fun h => h.elim (fun h => absurd h.2 (by decide)) (fun h => absurd h.2 (by decide)))))
          have t75 := (g68 39 5).resolve_left (fun h => h.elim (fun h => absurd h.1 (by decide)) (fun h => h.elim (fun h => absurd h.2 (by decide)) (fun h => h.elim (fun h => absurd h.2 (by decide)) (fun h => absurd h.2 (by decide)))))
          have t76 := (g68 1 18).resolve_left (fun h => h.elim (fun h => absurd h.2 (by decide)) (fun h => h.elim (fun h => absurd h.2 (by decide)) (fun h => h.elim (fun h => absurd h.2 (by decide)) (fun h => absurd h.2 (by decide)))))
          have f77 := (gc_b_3_5 hI70 R_23)
          have f78 := (gc_b_3_6 hI70 R_23)
          have f79 := (gc_b_3_7 hI70 R_23)
          have KLT_I70 : gc_LT I70 := q68.2.2.1
          have KTK_I70 : gc_TK I70 := And.intro V68_0 (And.intro V68_1 (And.intro V68_2 (And.intro V68_3 V68_4)))
          have t80 := gc_TK_mo KTK_I70
          clear V68_0 V68_1 V68_2 V68_3 V68_4
          have A81 := gc_AT_nx A61 q68.2.2.2
          have t82 := gc_AT_l A81
          refine gv_callV hD rfl (As := []) (st := []) rfl B_23 S_23 rfl (gc_lV6 hws rfl) (Nat.le_of_ble_eq_true rfl) (gz_Ev_mono (d := 2) (by decide) E68) ?_
          show gv_X _ _ (192, [(5, .inl z66), (0, .inr (.inr (some 39))), (1, .inr (.inl v1_12)), (3, .inl v3_12), (4, .inr (.inr (some 41)))], [], sh, gc_h sh I70 J71 A)
          refine gv_run 1 true hD (pcₚ := 193) (lvₚ := [(5, .inl z66), (0, .inr (.inr (some 39))), (1, .inr (.inl v1_12)), (3, .inl v3_12), (4, .inr (.inr (some 41)))]) (stₚ := [.inr (.inr (some 39))]) (hₚ := gc_h sh I70 J71 A) (C := (True ∧ True)) rfl ⟨trivial, trivial⟩ ?_
          obtain ⟨r83, h83, E83, P83⟩ := d_X6_readCost_p (ws0 := ws0) (tb := tb) hws htb sh ro I70 J71 A hI70  β η ((gs_X β η (gs_need β η 62 p_12)))  hb    A81 (by omega) KLT_I70 KTK_I70
          obtain ⟨I84, J85, rfl, hI84, g83, k83, KLT_I84, KTK_I84, ⟨z83, rfl, q83⟩⟩ := P83
          have FI84 := gc_frc (W := fun q j => (q = 39 ∧ j = 3) ∨ (q = 39 ∧ j = 4) ∨ (q = 23 ∧ j = 5) ∨ (q = 23 ∧ j = 6) ∨ (q = 23 ∧ j = 7) ∨ (q = 23 ∧ j = 8) ∨ (q = 39 ∧ j = 7) ∨ q = 41 ∨ (q = 4 ∧ j = 1) ∨ (q = 11 ∧ (I 4 1 ≤ (j : Int))) ∨ (q = 12 ∧ (I 4 1 ≤ (j : Int))) ∨ (q = 13 ∧ (4 * I 4 1 ≤ (j : Int))) ∨ q = 14) (V := fun q j => (q = 39 ∧ j = 3) ∨ (q = 39 ∧ j = 4) ∨ (q = 23 ∧ j = 5) ∨ (q = 23 ∧ j = 6) ∨ (q = 23 ∧ j = 7) ∨ (q = 23 ∧ j = 8) ∨ (q = 39 ∧ j = 7)) FI70 (fun q j h => (h.elim (fun h => (Or.inl h)) (fun h => (h.elim (fun h => (Or.inr (Or.inl h))) (fun h => (h.elim (fun h => (Or.inr (Or.inr (Or.inl h)))) (fun h => (h.elim (fun h => (Or.inr (Or.inr (Or.inr (Or.inl h))))) (fun h => (h.elim (fun h => (Or.inr (Or.inr (Or.inr (Or.inr (Or.inl h)))))) (fun h => (h.elim (fun h => (Or.inr (Or.inr (Or.inr (Or.inr (Or.inr (Or.inl h))))))) (fun h => (Or.inr (Or.inr (Or.inr (Or.inr (Or.inr (Or.inr (Or.inl h)))))))))))))))))))) g83
          have FJ85 := gc_frc (W := fun q j => (q = 23 ∧ j = 9) ∨ q = 5) (V := fun q j => (q = 23 ∧ j = 9)) FJ71 (fun q j h => (Or.inl h)) k83
          have t86 := (g83 23 1).resolve_left (fun h => h.elim (fun h => absurd h.2 (by decide)) (fun h => h.elim (fun h => absurd h.2 (by decide)) (fun h => h.elim (fun h => absurd h.2 (by decide)) (fun h => h.elim (fun h => absurd h.2 (by decide)) (fun h => h.elim (fun h => absurd h.2 (by decide)) (fun h => h.elim (fun h => absurd h.2 (by decide)) (fun h => absurd h.2 (by decide))))))))
          have t87 := (g83 4 1).resolve_left (fun h => h.elim (fun h => absurd h.2 (by decide)) (fun h => h.elim (fun h => absurd h.2 (by decide)) (fun h => h.elim (fun h => absurd h.2 (by decide)) (fun h => h.elim (fun h => absurd h.2 (by decide)) (fun h => h.elim (fun h => absurd h.2 (by decide)) (fun h => h.elim (fun h => absurd h.2 (by decide)) (fun h => absurd h.2 (by decide))))))))
          have t88 := (g83 2 1).resolve_left (fun h => h.elim (fun h => absurd h.2 (by decide)) (fun h => h.elim (fun h => absurd h.2 (by decide)) (fun h => h.elim (fun h => absurd h.2 (by decide)) (fun h => h.elim (fun h => absurd h.2 (by decide)) (fun h => h.elim (fun h => absurd h.2 (by decide)) (fun h => h.elim (fun h => absurd h.2 (by decide)) (fun h => absurd h.2 (by decide))))))))
          have t89 := (g83 39 5).resolve_left (fun h => h.elim (fun h => absurd h.2 (by decide)) (fun h => h.elim (fun h => absurd h.2 (by decide)) (fun h => h.elim (fun h => absurd h.1 (by decide)) (fun h => h.elim (fun h => absurd h.2 (by decide)) (fun h => h.elim (fun h => absurd h.2 (by decide)) (fun h => h.elim (fun h => absurd h.2 (by decide)) (fun h => absurd h.2 (by decide))))))))
          have t90 := (g83 1 18).resolve_left (fun h => h.elim (fun h => absurd h.2 (by decide)) (fun h => h.elim (fun h => absurd h.2 (by decide)) (fun h => h.elim (fun h => absurd h.2 (by decide)) (fun h => h.elim (fun h => absurd h.2 (by decide)) (fun h => h.elim (fun h => absurd h.2 (by decide)) (fun h => h.elim (fun h => absurd h.2 (by decide)) (fun h => absurd h.2 (by decide))))))))
          have f91 := (gc_b_3_5 hI84 R_23)
          have f92 := (gc_b_3_6 hI84 R_23)
          have f93 := (gc_b_3_7 hI84 R_23)
          have t94 := gc_TK_mo KTK_I84
          refine gv_callV hD rfl (As := []) (st := []) rfl B_39 S_39 rfl (gc_lV6 hws rfl) (Nat.le_of_ble_eq_true rfl) (gz_Ev_mono (d := 3) (by decide) E83) ?_
          show gv_X _ _ (196, [(5, .inl z66), (0, .inr (.inr (some 39))), (1, .inr (.inl v1_12)), (3, .inl v3_12), (4, .inr (.inr (some 41)))], [.inl z83], sh, gc_h sh I84 J85 A)
          refine gv_if_eq (t := 216) hD rfl rfl ⟨by omega, by omega⟩ (fun c95 => ?_) (fun c95 => ?_)
          · show gv_X _ _ (216, [(5, .inl z66), (0, .inr (.inr (some 39))), (1, .inr (.inl v1_12)), (3, .inl v3_12), (4, .inr (.inr (some 41)))], [], sh, gc_h sh I84 J85 A)
            obtain ⟨u96, u96_⟩ := gs_or0 q83.2.2.2.2 (by omega)
            refine gv_run 1 true hD (pcₚ := 217) (lvₚ := [(5, .inl z66), (0, .inr (.inr (some 39))), (1, .inr (.inl v1_12)), (3, .inl v3_12), (4, .inr (.inr (some 41)))]) (stₚ := [.inl 0]) (hₚ := gc_h sh I84 J85 A) (C := (True ∧ True)) rfl ⟨trivial, trivial⟩ ?_
            exact gv_zret hD rfl (by omega) ⟨I84, J85, rfl, hI84, FI84, FJ85, KLT_I84, KTK_I84, ⟨_, rfl, by omega, by omega, by omega, by omega, by omega, by omega, (Or.inr ⟨by omega, by first | (exfalso; omega) | (rw [e4_23]; unfold gs_fun2 gs_fun3; (repeat first | rw [if_pos (by omega)] | rw [if_neg (by omega)]); exact ⟨by omega, by omega, ((((((g83 4 1).resolve_left (by omega)).trans ((g68 4 1).resolve_left (by omega))).trans ((g50 4 1).resolve_left (by omega))).trans ((g34 4 1).resolve_left (by omega))).trans (e8_23.1)), fun j => ⟨(((((k83 5 j).resolve_left (by omega)).trans ((k68 5 j).resolve_left (by omega))).trans ((k34 5 j).resolve_left (by omega))).trans (e8_23.2.1 j)), ((((((g83 11 j).resolve_left (by omega)).trans ((g68 11 j).resolve_left (by omega))).trans ((g50 11 j).resolve_left (by omega))).trans ((g34 11 j).resolve_left (by omega))).trans (e8_23.2.2.1 j)), ((((((g83 12 j).resolve_left (by omega)).trans ((g68 12 j).resolve_left (by omega))).trans ((g50 12 j).resolve_left (by omega))).trans ((g34 12 j).resolve_left (by omega))).trans (e8_23.2.2.2.1 j)), ((((((g83 13 j).resolve_left (by omega)).trans ((g68 13 j).resolve_left (by omega))).trans ((g50 13 j).resolve_left (by omega))).trans ((g34 13 j).resolve_left (by omega))).trans (e8_23.2.2.2.2.1 j)), ((((((g83 14 j).resolve_left (by omega)).trans ((g68 14 j).resolve_left (by omega))).trans ((g50 14 j).resolve_left (by omega))).trans ((g34 14 j).resolve_left (by omega))).trans (e8_23.2.2.2.2.2.1 j))⟩⟩)⟩)⟩⟩
          · show gv_X _ _ (199, [(5, .inl z66), (0, .inr (.inr (some 39))), (1, .inr (.inl v1_12)), (3, .inl v3_12), (4, .inr (.inr (some 41)))], [], sh, gc_h sh I84 J85 A)
            obtain ⟨u97, A97, R97⟩ := gs_or1 q83.2.2.2.2 (by omega)
            have t98 := gc_AT_l A97
            refine gv_run 2 true hD (pcₚ := 201) (lvₚ := [(5, .inl z66), (0, .inr (.inr (some 39))), (1, .inr (.inl v1_12)), (3, .inl v3_12), (4, .inr (.inr (some 41)))]) (stₚ := [.inr (.inr (some 39)), .inr (.inr (some 39))]) (hₚ := gc_h sh I84 J85 A) (C := ((True ∧ True) ∧ True)) rfl ⟨⟨trivial, trivial⟩, trivial⟩ ?_
            refine gv_get hD rfl rfl S_39 ⟨by decide, B_39⟩ (gc_hA S_39 rfl A_39_0) ?_
            show gv_X _ _ (204, [(5, .inl z66), (0, .inr (.inr (some 39))), (1, .inr (.inl v1_12)), (3, .inl v3_12), (4, .inr (.inr (some 41)))], [.inr (.inr (some 1)), .inr (.inr (some 39))], sh, gc_h sh I84 J85 A)
            refine gv_get hD rfl rfl S_1 ⟨by decide, B_1⟩ (gc_hA S_1 rfl A_1_1) ?_
            show gv_X _ _ (207, [(5, .inl z66), (0, .inr (.inr (some 39))), (1, .inr (.inl v1_12)), (3, .inl v3_12), (4, .inr (.inr (some 41)))], [.inr (.inr (some 4)), .inr (.inr (some 39))], sh, gc_h sh I84 J85 A)
            obtain ⟨r99, h99, E99, P99⟩ := d_X4_isFull_p (ws0 := ws0) (tb := tb) hws htb sh ro I84 J85 A hI84 4 96 11  (gc_b4 hb)     
            obtain ⟨rfl, ⟨z99, rfl, q99⟩⟩ := P99
            refine gv_callV hD rfl (As := []) (st := [.inr (.inr (some 39))]) rfl B_4 S_4 rfl (gc_lV6 hws rfl) (Nat.le_of_ble_eq_true rfl) (gz_Ev_mono (d := 1) (by decide) E99) ?_
            show gv_X _ _ (210, [(5, .inl z66), (0, .inr (.inr (some 39))), (1, .inr (.inl v1_12)), (3, .inl v3_12), (4, .inr (.inr (some 41)))], [.inl z99, .inr (.inr (some 39))], sh, gc_h sh I84 J85 A)
            obtain ⟨r100, h100, E100, P100⟩ := d_X6_closes_p (ws0 := ws0) (tb := tb) hws htb sh ro I84 J85 A hI84  β η ((gs_cost β η (gs_X β η (gs_need β η 62 p_12)))) z99 hb   ⟨by omega, by omega⟩ A97 (by omega) (by omega) KLT_I84 KTK_I84
            obtain ⟨I101, J102, rfl, hI101, g100, k100, KLT_I101, KTK_I101, ⟨z100, rfl, q100⟩⟩ := P100
            have FI101 := gc_frc (W := fun q j => (q = 39 ∧ j = 3) ∨ (q = 39 ∧ j = 4) ∨ (q = 23 ∧ j = 5) ∨ (q = 23 ∧ j = 6) ∨ (q = 23 ∧ j = 7) ∨ (q = 23 ∧ j = 8) ∨ (q = 39 ∧ j = 7) ∨ q = 41 ∨ (q = 4 ∧ j = 1) ∨ (q = 11 ∧ (I 4 1 ≤ (j : Int))) ∨ (q = 12 ∧ (I 4 1 ≤ (j : Int))) ∨ (q = 13 ∧ (4 * I 4 1 ≤ (j : Int))) ∨ q = 14) (V := fun q j => (q = 39 ∧ j = 3) ∨ (q = 39 ∧ j = 4) ∨ (q = 23 ∧ j = 5) ∨ (q = 23 ∧ j = 6) ∨ (q = 23 ∧ j = 7) ∨ (q = 23 ∧ j = 8)) FI84 (fun q j h => (h.elim (fun h => (Or.inl h)) (fun h => (h.elim (fun h => (Or.inr (Or.inl h))) (fun h => (h.elim (fun h => (Or.inr (Or.inr (Or.inl h)))) (fun h => (h.elim (fun h => (Or.inr (Or.inr (Or.inr (Or.inl h))))) (fun h => (h.elim (fun h => (Or.inr (Or.inr (Or.inr (Or.inr (Or.inl h)))))) (fun h => (Or.inr (Or.inr (Or.inr (Or.inr (Or.inr (Or.inl h))))))))))))))))) g100
            have FJ102 := gc_frc (W := fun q j => (q = 23 ∧ j = 9) ∨ q = 5) (V := fun q j => (q = 23 ∧ j = 9)) FJ85 (fun q j h => (Or.inl h)) k100
            have t103 := (g100 23 1).resolve_left (fun h => h.elim (fun h => absurd h.2 (by decide)) (fun h => h.elim (fun h => absurd h.2 (by decide)) (fun h => h.elim (fun h => absurd h.2 (by decide)) (fun h => h.elim (fun h => absurd h.2 (by decide)) (fun h => h.elim (fun h => absurd h.2 (by decide)) (fun h => absurd h.2 (by decide)))))))
            have t104 := (g100 4 1).resolve_left (fun h => h.elim (fun h => absurd h.2 (by decide)) (fun h => h.elim (fun h => absurd h.2 (by decide)) (fun h => h.elim (fun h => absurd h.2 (by decide)) (fun h => h.elim (fun h => absurd h.2 (by decide)) (fun h => h.elim (fun h => absurd h.2 (by decide)) (fun h => absurd h.2 (by decide)))))))
            have t105 := (g100 2 1).resolve_left (fun h => h.elim (fun h => absurd h.2 (by decide)) (fun h => h.elim (fun h => absurd h.2 (by decide)) (fun h => h.elim (fun h => absurd h.2 (by decide)) (fun h => h.elim (fun h => absurd h.2 (by decide)) (fun h => h.elim (fun h => absurd h.2 (by decide)) (fun h => absurd h.2 (by decide)))))))
            have t106 := (g100 39 5).resolve_left (fun h => h.elim (fun h => absurd h.2 (by decide)) (fun h => h.elim (fun h => absurd h.2 (by decide)) (fun h => h.elim (fun h => absurd h.1 (by decide)) (fun h => h.elim (fun h => absurd h.2 (by decide)) (fun h => h.elim (fun h => absurd h.2 (by decide)) (fun h => absurd h.2 (by decide)))))))
            have t107 := (g100 1 18).resolve_left (fun h => h.elim (fun h => absurd h.2 (by decide)) (fun h => h.elim (fun h => absurd h.2 (by decide)) (fun h => h.elim (fun h => absurd h.2 (by decide)) (fun h => h.elim (fun h => absurd h.2 (by decide)) (fun h => h.elim (fun h => absurd h.2 (by decide)) (fun h => absurd h.2 (by decide)))))))
            have f108 := (gc_b_3_5 hI101 R_23)
            have f109 := (gc_b_3_6 hI101 R_23)
            have f110 := (gc_b_3_7 hI101 R_23)
            have t111 := gc_TK_mo KTK_I101
            refine gv_callV hD rfl (As := [.inl z99]) (st := []) rfl B_39 S_39 rfl (gc_lV6 hws rfl) (Nat.le_of_ble_eq_true rfl) (gz_Ev_mono (d := 4) (by decide) E100) ?_
            show gv_X _ _ (213, [(5, .inl z66), (0, .inr (.inr (some 39))), (1, .inr (.inl v1_12)), (3, .inl v3_12), (4, .inr (.inr (some 41)))], [.inl z100], sh, gc_h sh I101 J102 A)
            refine gv_if_ne (t := 218) hD rfl rfl ⟨by omega, by omega⟩ (fun c112 => ?_) (fun c112 => ?_)
            · show gv_X _ _ (218, [(5, .inl z66), (0, .inr (.inr (some 39))), (1, .inr (.inl v1_12)), (3, .inl v3_12), (4, .inr (.inr (some 41)))], [], sh, gc_h sh I101 J102 A)
              have V113 := q100.2.2.2.2.2
              rw [show I84 39 5 = I 39 5 from by omega] at V113
              rw [show (if z99 = 0 then (1 : Int) else 0) = (if Ir 0 3 < 96 then 1 else 0) from gs_rm (by omega)] at V113
              obtain ⟨u113, A113⟩ := gs_or1 V113 (by omega)
              have t114 := gc_AT_l A113
              refine gv_run 1 true hD (pcₚ := 219) (lvₚ := [(5, .inl z66), (0, .inr (.inr (some 39))), (1, .inr (.inl v1_12)), (3, .inl v3_12), (4, .inr (.inr (some 41)))]) (stₚ := [.inr (.inr (some 39))]) (hₚ := gc_h sh I101 J102 A) (C := (True ∧ True)) rfl ⟨trivial, trivial⟩ ?_
              refine gv_get hD rfl rfl S_39 ⟨by decide, B_39⟩ (gc_hA S_39 rfl A_39_0) ?_
              show gv_X _ _ (222, [(5, .inl z66), (0, .inr (.inr (some 39))), (1, .inr (.inl v1_12)), (3, .inl v3_12), (4, .inr (.inr (some 41)))], [.inr (.inr (some 1))], sh, gc_h sh I101 J102 A)
              refine gv_get hD rfl rfl S_1 ⟨by decide, B_1⟩ (gc_hA S_1 rfl A_1_1) ?_
              show gv_X _ _ (225, [(5, .inl z66), (0, .inr (.inr (some 39))), (1, .inr (.inl v1_12)), (3, .inl v3_12), (4, .inr (.inr (some 41)))], [.inr (.inr (some 4))], sh, gc_h sh I101 J102 A)
              have f115 := (gc_b_11_1 hI101 R_4)
              refine gv_get hD rfl rfl S_4 ⟨by decide, B_4⟩ (gc_hI S_4 rfl) ?_
              show gv_X _ _ (228, [(5, .inl z66), (0, .inr (.inr (some 39))), (1, .inr (.inl v1_12)), (3, .inl v3_12), (4, .inr (.inr (some 41)))], [.inl (I101 4 1)], sh, gc_h sh I101 J102 A)
              refine gv_run 2 true hD (pcₚ := 231) (lvₚ := [(6, .inl (I101 4 1)), (5, .inl z66), (0, .inr (.inr (some 39))), (1, .inr (.inl v1_12)), (3, .inl v3_12), (4, .inr (.inr (some 41)))]) (stₚ := [.inr (.inr (some 39))]) (hₚ := gc_h sh I101 J102 A) (C := ((True ∧ True) ∧ True)) rfl ⟨⟨trivial, trivial⟩, trivial⟩ ?_
              refine gv_get hD rfl rfl S_39 ⟨by decide, B_39⟩ (gc_hA S_39 rfl A_39_0) ?_
              show gv_X _ _ (234, [(6, .inl (I101 4 1)), (5, .inl z66), (0, .inr (.inr (some 39))), (1, .inr (.inl v1_12)), (3, .inl v3_12), (4, .inr (.inr (some 41)))], [.inr (.inr (some 1))], sh, gc_h sh I101 J102 A)
              refine gv_get hD rfl rfl S_1 ⟨by decide, B_1⟩ (gc_hA S_1 rfl A_1_1) ?_
              show gv_X _ _ (237, [(6, .inl (I101 4 1)), (5, .inl z66), (0, .inr (.inr (some 39))), (1, .inr (.inl v1_12)), (3, .inl v3_12), (4, .inr (.inr (some 41)))], [.inr (.inr (some 4))], sh, gc_h sh I101 J102 A)
              refine gv_run 1 true hD (pcₚ := 238) (lvₚ := [(6, .inl (I101 4 1)), (5, .inl z66), (0, .inr (.inr (some 39))), (1, .inr (.inl v1_12)), (3, .inl v3_12), (4, .inr (.inr (some 41)))]) (stₚ := [.inr (.inl v1_12), .inr (.inr (some 4))]) (hₚ := gc_h sh I101 J102 A) (C := (True ∧ True)) rfl ⟨trivial, trivial⟩ ?_
              obtain ⟨r116, h116, E116, P116⟩ := d_X4_put_p (ws0 := ws0) (tb := tb) hws htb sh ro I101 J102 A hI101 4 96 11 v1_12 (gc_b4 hb)     
              obtain ⟨I117, J118, rfl, hI117, g116, k116, ⟨rfl, q116⟩⟩ := P116
              have FI117 := gc_frc (W := fun q j => (q = 39 ∧ j = 3) ∨ (q = 39 ∧ j = 4) ∨ (q = 23 ∧ j = 5) ∨ (q = 23 ∧ j = 6) ∨ (q = 23 ∧ j = 7) ∨ (q = 23 ∧ j = 8) ∨ (q = 39 ∧ j = 7) ∨ q = 41 ∨ (q = 4 ∧ j = 1) ∨ (q = 11 ∧ (I 4 1 ≤ (j : Int))) ∨ (q = 12 ∧ (I 4 1 ≤ (j : Int))) ∨ (q = 13 ∧ (4 * I 4 1 ≤ (j : Int))) ∨ q = 14) (V := fun q j => (q = 4 ∧ j = 1)) FI101 (fun q j h => (Or.inr (Or.inr (Or.inr (Or.inr (Or.inr (Or.inr (Or.inr (Or.inr (Or.inl h)))))))))) g116
              have FJ118 := gc_frc (W := fun q j => (q = 23 ∧ j = 9) ∨ q = 5) (V := fun q j => q = 5) FJ102 (fun q j h => (Or.inr h)) k116
              have t119 := (g116 23 1).resolve_left (fun h => absurd h.1 (by decide))
              have t120 := (g116 23 5).resolve_left (fun h => absurd h.2 (by decide))
              have t121 := (g116 23 6).resolve_left (fun h => absurd h.2 (by decide))
              have t122 := (g116 23 7).resolve_left (fun h => absurd h.2 (by decide))
              have t123 := (g116 2 1).resolve_left (fun h => absurd h.1 (by decide))
              have t124 := (g116 39 5).resolve_left (fun h => absurd h.2 (by decide))
              have t125 := (g116 1 18).resolve_left (fun h => absurd h.2 (by decide))
              have f126 := (gc_b_11_1 hI117 R_4)
              have KLT_I117 := gc_LT_fr KLT_I101 ((g116 23 5).resolve_left (fun h => absurd h.2 (by decide))) ((g116 23 6).resolve_left (fun h => absurd h.2 (by decide))) ((g116 23 7).resolve_left (fun h => absurd h.2 (by decide))) (fun k => (g116 24 k).resolve_left (fun h => absurd h.1 (by decide)))
              have KTK_I117 := gc_TK_fr KTK_I101 ((g116 23 1).resolve_left (fun h => absurd h.1 (by decide))) ((g116 23 5).resolve_left (fun h => absurd h.2 (by decide))) ((g116 23 6).resolve_left (fun h => absurd h.2 (by decide))) ((g116 23 7).resolve_left (fun h => absurd h.2 (by decide)))
              have A127 := gc_AT_I A113 ((g116 23 1).resolve_left (fun h => absurd h.1 (by decide))) ((g116 23 5).resolve_left (fun h => absurd h.2 (by decide))) ((g116 23 6).resolve_left (fun h => absurd h.2 (by decide))) ((g116 23 7).resolve_left (fun h => absurd h.2 (by decide))) ((g116 23 8).resolve_left (fun h => absurd h.2 (by decide))) (fun k => (g116 24 k).resolve_left (fun h => absurd h.1 (by decide)))
              have A128 := gc_AT_J A127 ((k116 23 9).resolve_left (fun h => absurd h (by decide)))
              have t129 := gc_AT_l A128
              refine gv_callV hD rfl (As := [.inr (.inl v1_12)]) (st := []) rfl B_4 S_4 rfl (gc_lV6 hws rfl) (Nat.le_of_ble_eq_true rfl) (gz_Ev_mono (d := 1) (by decide) E116) ?_
              show gv_X _ _ (241, [(6, .inl (I101 4 1)), (5, .inl z66), (0, .inr (.inr (some 39))), (1, .inr (.inl v1_12)), (3, .inl v3_12), (4, .inr (.inr (some 41)))], [], sh, gc_h sh I117 J118 A)
              refine gv_run 1 true hD (pcₚ := 242) (lvₚ := [(6, .inl (I101 4 1)), (5, .inl z66), (0, .inr (.inr (some 39))), (1, .inr (.inl v1_12)), (3, .inl v3_12), (4, .inr (.inr (some 41)))]) (stₚ := [.inr (.inr (some 39))]) (hₚ := gc_h sh I117 J118 A) (C := (True ∧ True)) rfl ⟨trivial, trivial⟩ ?_
              refine gv_get hD rfl rfl S_39 ⟨by decide, B_39⟩ (gc_hA S_39 rfl A_39_0) ?_
              show gv_X _ _ (245, [(6, .inl (I101 4 1)), (5, .inl z66), (0, .inr (.inr (some 39))), (1, .inr (.inl v1_12)), (3, .inl v3_12), (4, .inr (.inr (some 41)))], [.inr (.inr (some 1))], sh, gc_h sh I117 J118 A)
              refine gv_get hD rfl rfl S_1 ⟨by decide, B_1⟩ (gc_hA S_1 rfl A_1_6) ?_
              show gv_X _ _ (248, [(6, .inl (I101 4 1)), (5, .inl z66), (0, .inr (.inr (some 39))), (1, .inr (.inl v1_12)), (3, .inl v3_12), (4, .inr (.inr (some 41)))], [.inr (.inr (some 11))], sh, gc_h sh I117 J118 A)
              refine gv_run 2 true hD (pcₚ := 252) (lvₚ := [(6, .inl (I101 4 1)), (5, .inl z66), (0, .inr (.inr (some 39))), (1, .inr (.inl v1_12)), (3, .inl v3_12), (4, .inr (.inr (some 41)))]) (stₚ := [.inl z66, .inl (I101 4 1), .inr (.inr (some 11))]) (hₚ := gc_h sh I117 J118 A) (C := ((True ∧ True) ∧ True)) rfl ⟨⟨trivial, trivial⟩, trivial⟩ ?_
              refine gv_iast hD rfl S_11 ⟨by decide, B_11⟩ ⟨by omega, by omega⟩ ?_
              refine gc_st hI117 S_11 rfl R_11 (lo := 0) (hi := 31) rfl rfl (by omega) (by omega) (fun I130 hI130 q131 p131 => ?_)
              have FI130 := gc_frs (W := fun q j => (q = 39 ∧ j = 3) ∨ (q = 39 ∧ j = 4) ∨ (q = 23 ∧ j = 5) ∨ (q = 23 ∧ j = 6) ∨ (q = 23 ∧ j = 7) ∨ (q = 23 ∧ j = 8) ∨ (q = 39 ∧ j = 7) ∨ q = 41 ∨ (q = 4 ∧ j = 1) ∨ (q = 11 ∧ (I 4 1 ≤ (j : Int))) ∨ (q = 12 ∧ (I 4 1 ≤ (j : Int))) ∨ (q = 13 ∧ (4 * I 4 1 ≤ (j : Int))) ∨ q = 14) FI117 (Or.inr (Or.inr (Or.inr (Or.inr (Or.inr (Or.inr (Or.inr (Or.inr (Or.inr (Or.inl ⟨rfl, by omega⟩)))))))))) p131
              have t132 := p131 23 1 (fun h => absurd h.1 (by decide))
              have t133 := p131 23 5 (fun h => absurd h.1 (by decide))
              have t134 := p131 23 6 (fun h => absurd h.1 (by decide))
              have t135 := p131 23 7 (fun h => absurd h.1 (by decide))
              have t136 := p131 4 1 (fun h => absurd h.1 (by decide))
              have t137 := p131 2 1 (fun h => absurd h.1 (by decide))
              have t138 := p131 39 5 (fun h => absurd h.1 (by decide))
              have t139 := p131 1 18 (fun h => absurd h.1 (by decide))
              have KLT_I130 := gc_LT_fr KLT_I117 (p131 23 5 (fun h => absurd h.1 (by decide))) (p131 23 6 (fun h => absurd h.1 (by decide))) (p131 23 7 (fun h => absurd h.1 (by decide))) (fun k => p131 24 k (fun h => absurd h.1 (by decide)))
              have KTK_I130 := gc_TK_fr KTK_I117 (p131 23 1 (fun h => absurd h.1 (by decide))) (p131 23 5 (fun h => absurd h.1 (by decide))) (p131 23 6 (fun h => absurd h.1 (by decide))) (p131 23 7 (fun h => absurd h.1 (by decide)))
              have A140 := gc_AT_I A128 (p131 23 1 (fun h => absurd h.1 (by decide))) (p131 23 5 (fun h => absurd h.1 (by decide))) (p131 23 6 (fun h => absurd h.1 (by decide))) (p131 23 7 (fun h => absurd h.1 (by decide))) (p131 23 8 (fun h => absurd h.1 (by decide))) (fun k => p131 24 k (fun h => absurd h.1 (by decide)))
              show gv_X _ _ (253, [(6, .inl (I101 4 1)), (5, .inl z66), (0, .inr (.inr (some 39))), (1, .inr (.inl v1_12)), (3, .inl v3_12), (4, .inr (.inr (some 41)))], [], sh, gc_h sh I130 J118 A)
              refine gv_run 1 true hD (pcₚ := 254) (lvₚ := [(6, .inl (I101 4 1)), (5, .inl z66), (0, .inr (.inr (some 39))), (1, .inr (.inl v1_12)), (3, .inl v3_12), (4, .inr (.inr (some 41)))]) (stₚ := [.inr (.inr (some 39))]) (hₚ := gc_h sh I130 J118 A) (C := (True ∧ True)) rfl ⟨trivial, trivial⟩ ?_
              refine gv_get hD rfl rfl S_39 ⟨by decide, B_39⟩ (gc_hA S_39 rfl A_39_0) ?_
              show gv_X _ _ (257, [(6, .inl (I101 4 1)), (5, .inl z66), (0, .inr (.inr (some 39))), (1, .inr (.inl v1_12)), (3, .inl v3_12), (4, .inr (.inr (some 41)))], [.inr (.inr (some 1))], sh, gc_h sh I130 J118 A)
              refine gv_get hD rfl rfl S_1 ⟨by decide, B_1⟩ (gc_hA S_1 rfl A_1_7) ?_
              show gv_X _ _ (260, [(6, .inl (I101 4 1)), (5, .inl z66), (0, .inr (.inr (some 39))), (1, .inr (.inl v1_12)), (3, .inl v3_12), (4, .inr (.inr (some 41)))], [.inr (.inr (some 12))], sh, gc_h sh I130 J118 A)
              refine gv_run 2 true hD (pcₚ := 263) (lvₚ := [(6, .inl (I101 4 1)), (5, .inl z66), (0, .inr (.inr (some 39))), (1, .inr (.inl v1_12)), (3, .inl v3_12), (4, .inr (.inr (some 41)))]) (stₚ := [.inl v3_12, .inl (I101 4 1), .inr (.inr (some 12))]) (hₚ := gc_h sh I130 J118 A) (C := ((True ∧ True) ∧ True)) rfl ⟨⟨trivial, trivial⟩, trivial⟩ ?_
              refine gv_iast hD rfl S_12 ⟨by decide, B_12⟩ ⟨by omega, by omega⟩ ?_
              refine gc_st hI130 S_12 rfl R_12 (lo := 0) (hi := 4) rfl rfl (by omega) (by omega) (fun I141 hI141 q142 p142 => ?_)
              have FI141 := gc_frs (W := fun q j => (q = 39 ∧ j = 3) ∨ (q = 39 ∧ j = 4) ∨ (q = 23 ∧ j = 5) ∨ (q = 23 ∧ j = 6) ∨ (q = 23 ∧ j = 7) ∨ (q = 23 ∧ j = 8) ∨ (q = 39 ∧ j = 7) ∨ q = 41 ∨ (q = 4 ∧ j = 1) ∨ (q = 11 ∧ (I 4 1 ≤ (j : Int))) ∨ (q = 12 ∧ (I 4 1 ≤ (j : Int))) ∨ (q = 13 ∧ (4 * I 4 1 ≤ (j : Int))) ∨ q = 14) FI130 (Or.inr (Or.inr (Or.inr (Or.inr (Or.inr (Or.inr (Or.inr (Or.inr (Or.inr (Or.inr (Or.inl ⟨rfl, by omega⟩))))))))))) p142
              have t143 := p142 23 1 (fun h => absurd h.1 (by decide))
              have t144 := p142 23 5 (fun h => absurd h.1 (by decide))
              have t145 := p142 23 6 (fun h => absurd h.1 (by decide))
              have t146 := p142 23 7 (fun h => absurd h.1 (by decide))
              have t147 := p142 4 1 (fun h => absurd h.1 (by decide))
              have t148 := p142 2 1 (fun h => absurd h.1 (by decide))
              have t149 := p142 39 5 (fun h => absurd h.1 (by decide))
              have t150 := p142 1 18 (fun h => absurd h.1 (by decide))
              have KLT_I141 := gc_LT_fr KLT_I130 (p142 23 5 (fun h => absurd h.1 (by decide))) (p142 23 6 (fun h => absurd h.1 (by decide))) (p142 23 7 (fun h => absurd h.1 (by decide))) (fun k => p142 24 k (fun h => absurd h.1 (by decide)))
              have KTK_I141 := gc_TK_fr KTK_I130 (p142 23 1 (fun h => absurd h.1 (by decide))) (p142 23 5 (fun h => absurd h.1 (by decide))) (p142 23 6 (fun h => absurd h.1 (by decide))) (p142 23 7 (fun h => absurd h.1 (by decide)))
              have A151 := gc_AT_I A140 (p142 23 1 (fun h => absurd h.1 (by decide))) (p142 23 5 (fun h => absurd h.1 (by decide))) (p142 23 6 (fun h => absurd h.1 (by decide))) (p142 23 7 (fun h => absurd h.1 (by decide))) (p142 23 8 (fun h => absurd h.1 (by decide))) (fun k => p142 24 k (fun h => absurd h.1 (by decide)))
              show gv_X _ _ (264, [(6, .inl (I101 4 1)), (5, .inl z66), (0, .inr (.inr (some 39))), (1, .inr (.inl v1_12)), (3, .inl v3_12), (4, .inr (.inr (some 41)))], [], sh, gc_h sh I141 J118 A)
              refine gv_run 1 true hD (pcₚ := 265) (lvₚ := [(6, .inl (I101 4 1)), (5, .inl z66), (0, .inr (.inr (some 39))), (1, .inr (.inl v1_12)), (3, .inl v3_12), (4, .inr (.inr (some 41)))]) (stₚ := [.inr (.inr (some 39))]) (hₚ := gc_h sh I141 J118 A) (C := (True ∧ True)) rfl ⟨trivial, trivial⟩ ?_
              refine gv_get hD rfl rfl S_39 ⟨by decide, B_39⟩ (gc_hA S_39 rfl A_39_0) ?_
              show gv_X _ _ (268, [(6, .inl (I101 4 1)), (5, .inl z66), (0, .inr (.inr (some 39))), (1, .inr (.inl v1_12)), (3, .inl v3_12), (4, .inr (.inr (some 41)))], [.inr (.inr (some 1))], sh, gc_h sh I141 J118 A)
              refine gv_get hD rfl rfl S_1 ⟨by decide, B_1⟩ (gc_hA S_1 rfl A_1_9) ?_
              show gv_X _ _ (271, [(6, .inl (I101 4 1)), (5, .inl z66), (0, .inr (.inr (some 39))), (1, .inr (.inl v1_12)), (3, .inl v3_12), (4, .inr (.inr (some 41)))], [.inr (.inr (some 14))], sh, gc_h sh I141 J118 A)
              refine gv_run 2 true hD (pcₚ := 274) (lvₚ := [(6, .inl (I101 4 1)), (5, .inl z66), (0, .inr (.inr (some 39))), (1, .inr (.inl v1_12)), (3, .inl v3_12), (4, .inr (.inr (some 41)))]) (stₚ := [.inr (.inr (some 39)), .inl (I101 4 1), .inr (.inr (some 14))]) (hₚ := gc_h sh I141 J118 A) (C := ((True ∧ True) ∧ True)) rfl ⟨⟨trivial, trivial⟩, trivial⟩ ?_
              have f152 := (gc_b_42_7 hI141 R_39)
              refine gv_get hD rfl rfl S_39 ⟨by decide, B_39⟩ (gc_hI S_39 rfl) ?_
              show gv_X _ _ (277, [(6, .inl (I101 4 1)), (5, .inl z66), (0, .inr (.inr (some 39))), (1, .inr (.inl v1_12)), (3, .inl v3_12), (4, .inr (.inr (some 41)))], [.inl (I141 39 7), .inl (I101 4 1), .inr (.inr (some 14))], sh, gc_h sh I141 J118 A)
              refine gv_iast hD rfl S_14 ⟨by decide, B_14⟩ ⟨by omega, by omega⟩ ?_
              refine gc_st hI141 S_14 rfl R_14 (lo := 0) (hi := 10000) rfl rfl (by omega) (by omega) (fun I153 hI153 q154 p154 => ?_)
              have FI153 := gc_frs (W := fun q j => (q = 39 ∧ j = 3) ∨ (q = 39 ∧ j = 4) ∨ (q = 23 ∧ j = 5) ∨ (q = 23 ∧ j = 6) ∨ (q = 23 ∧ j = 7) ∨ (q = 23 ∧ j = 8) ∨ (q = 39 ∧ j = 7) ∨ q = 41 ∨ (q = 4 ∧ j = 1) ∨ (q = 11 ∧ (I 4 1 ≤ (j : Int))) ∨ (q = 12 ∧ (I 4 1 ≤ (j : Int))) ∨ (q = 13 ∧ (4 * I 4 1 ≤ (j : Int))) ∨ q = 14) FI141 (Or.inr (Or.inr (Or.inr (Or.inr (Or.inr (Or.inr (Or.inr (Or.inr (Or.inr (Or.inr (Or.inr (Or.inr rfl)))))))))))) p154
              have t155 := p154 23 1 (fun h => absurd h.1 (by decide))
              have t156 := p154 23 5 (fun h => absurd h.1 (by decide))
              have t157 := p154 23 6 (fun h => absurd h.1 (by decide))
              have t158 := p154 23 7 (fun h => absurd h.1 (by decide))
              have t159 := p154 4 1 (fun h => absurd h.1 (by decide))
              have t160 := p154 2 1 (fun h => absurd h.1 (by decide))
              have t161 := p154 39 5 (fun h => absurd h.1 (by decide))
              have t162 := p154 1 18 (fun h => absurd h.1 (by decide))
              have KLT_I153 := gc_LT_fr KLT_I141 (p154 23 5 (fun h => absurd h.1 (by decide))) (p154 23 6 (fun h => absurd h.1 (by decide))) (p154 23 7 (fun h => absurd h.1 (by decide))) (fun k => p154 24 k (fun h => absurd h.1 (by decide)))
              have KTK_I153 := gc_TK_fr KTK_I141 (p154 23 1 (fun h => absurd h.1 (by decide))) (p154 23 5 (fun h => absurd h.1 (by decide))) (p154 23 6 (fun h => absurd h.1 (by decide))) (p154 23 7 (fun h => absurd h.1 (by decide)))
              have A163 := gc_AT_I A151 (p154 23 1 (fun h => absurd h.1 (by decide))) (p154 23 5 (fun h => absurd h.1 (by decide))) (p154 23 6 (fun h => absurd h.1 (by decide))) (p154 23 7 (fun h => absurd h.1 (by decide))) (p154 23 8 (fun h => absurd h.1 (by decide))) (fun k => p154 24 k (fun h => absurd h.1 (by decide)))
              show gv_X _ _ (278, [(6, .inl (I101 4 1)), (5, .inl z66), (0, .inr (.inr (some 39))), (1, .inr (.inl v1_12)), (3, .inl v3_12), (4, .inr (.inr (some 41)))], [], sh, gc_h sh I153 J118 A)
              refine gv_run 3 true hD (pcₚ := 282) (lvₚ := [(6, .inl (I101 4 1)), (5, .inl z66), (0, .inr (.inr (some 39))), (1, .inr (.inl v1_12)), (3, .inl v3_12), (4, .inr (.inr (some 41)))]) (stₚ := [.inr (.inr (some 39)), .inl 0, .inr (.inr (some 41))]) (hₚ := gc_h sh I153 J118 A) (C := (((True ∧ True) ∧ True) ∧ True)) rfl ⟨⟨⟨trivial, trivial⟩, trivial⟩, trivial⟩ ?_
              refine gv_get hD rfl rfl S_39 ⟨by decide, B_39⟩ (gc_hA S_39 rfl A_39_0) ?_
              show gv_X _ _ (285, [(6, .inl (I101 4 1)), (5, .inl z66), (0, .inr (.inr (some 39))), (1, .inr (.inl v1_12)), (3, .inl v3_12), (4, .inr (.inr (some 41)))], [.inr (.inr (some 1)), .inl 0, .inr (.inr (some 41))], sh, gc_h sh I153 J118 A)
              refine gv_get hD rfl rfl S_1 ⟨by decide, B_1⟩ (gc_hA S_1 rfl A_1_8) ?_
              show gv_X _ _ (288, [(6, .inl (I101 4 1)), (5, .inl z66), (0, .inr (.inr (some 39))), (1, .inr (.inl v1_12)), (3, .inl v3_12), (4, .inr (.inr (some 41)))], [.inr (.inr (some 13)), .inl 0, .inr (.inr (some 41))], sh, gc_h sh I153 J118 A)
              refine gv_run 4 true hD (pcₚ := 293) (lvₚ := [(6, .inl (I101 4 1)), (5, .inl z66), (0, .inr (.inr (some 39))), (1, .inr (.inl v1_12)), (3, .inl v3_12), (4, .inr (.inr (some 41)))]) (stₚ := [.inl v3_12, .inl ((I101 4 1) * 4), .inr (.inr (some 13)), .inl 0, .inr (.inr (some 41))]) (hₚ := gc_h sh I153 J118 A) (C := ((((True ∧ True) ∧ True) ∧ True) ∧ True)) rfl ⟨⟨⟨⟨trivial, trivial⟩, trivial⟩, trivial⟩, trivial⟩ ?_
              refine gv_copy hD rfl (gc_lC6_263 hws) (Nat.le_of_ble_eq_true rfl) ⟨B_41, B_13⟩ S_41 S_13 (by decide) ⟨by decide, by decide⟩ ⟨by omega, by omega, by omega⟩ (by omega) (by omega) (fun h => absurd h (by decide)) ?_
              refine gc_cp hI153 S_41 S_13 (by decide) (fun j hj => by have h9 := (gc_rg_fr (gc_rg_fr (gc_rg_fr (gc_rg_fr (gc_rg_fr (gc_rg_fr (gc_rg_fr (gc_rg_fr (gc_rg_fr e0_23 (fun k => (g34 41 k).resolve_left (by omega))) (fun k => (g50 41 k).resolve_left (by omega))) (fun k => (g68 41 k).resolve_left (by omega))) (fun k => (g83 41 k).resolve_left (by omega))) (fun k => (g100 41 k).resolve_left (by omega))) (fun k => (g116 41 k).resolve_left (by omega))) (fun k => p131 41 k (fun h => absurd h.1 (by omega)))) (fun k => p142 41 k (fun h => absurd h.1 (by omega)))) (fun k => p154 41 k (fun h => absurd h.1 (by omega)))) (j : Int) (by omega) (by omega); rw [show Int.toNat (0 : Int) + j = Int.toNat (j : Int) from by omega, R_13]; exact ⟨by show (0 : Int) ≤ _; omega, by show _ ≤ (31 : Int); omega⟩) (fun I165 hI165 p164 q164 => ?_)
              have FI165 := gc_frp (W := fun q j => (q = 39 ∧ j = 3) ∨ (q = 39 ∧ j = 4) ∨ (q = 23 ∧ j = 5) ∨ (q = 23 ∧ j = 6) ∨ (q = 23 ∧ j = 7) ∨ (q = 23 ∧ j = 8) ∨ (q = 39 ∧ j = 7) ∨ q = 41 ∨ (q = 4 ∧ j = 1) ∨ (q = 11 ∧ (I 4 1 ≤ (j : Int))) ∨ (q = 12 ∧ (I 4 1 ≤ (j : Int))) ∨ (q = 13 ∧ (4 * I 4 1 ≤ (j : Int))) ∨ q = 14) (V := fun q j => q = 13 ∧ Int.toNat (((I101 4 1) * 4)) ≤ j ∧ j < Int.toNat (((I101 4 1) * 4)) + Int.toNat v3_12) FI153 (fun q j h => (Or.inr (Or.inr (Or.inr (Or.inr (Or.inr (Or.inr (Or.inr (Or.inr (Or.inr (Or.inr (Or.inr (Or.inl ⟨h.1, by have := h.2; omega⟩))))))))))))) p164
              have KLT_I165 := gc_LT_fr KLT_I153 (p164 23 5 (fun h => absurd h.1 (by decide))) (p164 23 6 (fun h => absurd h.1 (by decide))) (p164 23 7 (fun h => absurd h.1 (by decide))) (fun k => p164 24 k (fun h => absurd h.1 (by decide)))
              have KTK_I165 := gc_TK_fr KTK_I153 (p164 23 1 (fun h => absurd h.1 (by decide))) (p164 23 5 (fun h => absurd h.1 (by decide))) (p164 23 6 (fun h => absurd h.1 (by decide))) (p164 23 7 (fun h => absurd h.1 (by decide)))
              have t167 := p164 23 1 (fun h => absurd h.1 (by decide))
              have t168 := p164 23 5 (fun h => absurd h.1 (by decide))
              have t169 := p164 23 6 (fun h => absurd h.1 (by decide))
              have t170 := p164 23 7 (fun h => absurd h.1 (by decide))
              have t171 := p164 4 1 (fun h => absurd h.1 (by decide))
              have t172 := p164 2 1 (fun h => absurd h.1 (by decide))
              have t173 := p164 39 5 (fun h => absurd h.1 (by decide))
              have t174 := p164 1 18 (fun h => absurd h.1 (by decide))
              have t175 := gc_TK_mo KTK_I165
              have f176 := (gc_b_3_1 hI165 R_23)
              have f177 := (gc_b_3_5 hI165 R_23)
              have f178 := (gc_b_3_6 hI165 R_23)
              have f179 := (gc_b_3_7 hI165 R_23)
              have f180 := (gc_b_11_1 hI165 R_4)
              have f181 := (gc_b_9_1 hI165 R_2)
              have f182 := (gc_b_42_5 hI165 R_39)
              have f183 := (gc_b_22_18 hI165 R_1)
              have A184 := gc_AT_I A163 (p164 23 1 (fun h => absurd h.1 (by decide))) (p164 23 5 (fun h => absurd h.1 (by decide))) (p164 23 6 (fun h => absurd h.1 (by decide))) (p164 23 7 (fun h => absurd h.1 (by decide))) (p164 23 8 (fun h => absurd h.1 (by decide))) (fun k => p164 24 k (fun h => absurd h.1 (by decide)))
              show gv_X _ _ (296, [(6, .inl (I101 4 1)), (5, .inl z66), (0, .inr (.inr (some 39))), (1, .inr (.inl v1_12)), (3, .inl v3_12), (4, .inr (.inr (some 41)))], [], sh, gc_h sh I165 J118 A)
              refine gv_run 1 true hD (pcₚ := 297) (lvₚ := [(6, .inl (I101 4 1)), (5, .inl z66), (0, .inr (.inr (some 39))), (1, .inr (.inl v1_12)), (3, .inl v3_12), (4, .inr (.inr (some 41)))]) (stₚ := [.inl 1]) (hₚ := gc_h sh I165 J118 A) (C := (True ∧ True)) rfl ⟨trivial, trivial⟩ ?_
              exact gv_zret hD rfl (by omega) ⟨I165, J118, rfl, hI165, FI165, FJ118, KLT_I165, KTK_I165, ⟨_, rfl, by omega, by omega, by omega, by omega, by omega, by omega, (Or.inl ⟨by omega, by have e9 : (gs_fun β η Ir Jr (I 39 5) p9) = (gs_done β η (if Ir 0 3 < 96 then 1 else 0) (I 39 5) (gs_cost β η (gs_X β η (gs_need β η 62 p_12)))) := (by first | (exfalso; omega) | (rw [e4_23]; unfold gs_fun2 gs_fun3; (repeat first | rw [if_pos (by omega)] | rw [if_neg (by omega)]))); rw [e9]; exact ⟨by omega, A184, (by rw [← e6_23, ← e5_23, show gs_lk Ir Jr 2 2 (gs_rn β η (gs_need β η 62 p_12)) = z66 from by omega]; exact ⟨(gs_Cfun_mk (by omega) ((gc_PU_tr q116.2.2.2 (((((((g100 4 1).resolve_left (by omega)).trans ((g83 4 1).resolve_left (by omega))).trans ((g68 4 1).resolve_left (by omega))).trans ((g50 4 1).resolve_left (by omega))).trans ((g34 4 1).resolve_left (by omega))).trans (e8_23.1)) (fun j => ((((((k100 5 j).resolve_left (by omega)).trans ((k83 5 j).resolve_left (by omega))).trans ((k68 5 j).resolve_left (by omega))).trans ((k34 5 j).resolve_left (by omega))).trans (e8_23.2.1 j))) e3_23) (by omega)) (fun j => ⟨((((((((g116 11 j).resolve_left (by omega)).trans ((g100 11 j).resolve_left (by omega))).trans ((g83 11 j).resolve_left (by omega))).trans ((g68 11 j).resolve_left (by omega))).trans ((g50 11 j).resolve_left (by omega))).trans ((g34 11 j).resolve_left (by omega))).trans (e8_23.2.2.1 j)), ((((((((g116 12 j).resolve_left (by omega)).trans ((g100 12 j).resolve_left (by omega))).trans ((g83 12 j).resolve_left (by omega))).trans ((g68 12 j).resolve_left (by omega))).trans ((g50 12 j).resolve_left (by omega))).trans ((g34 12 j).resolve_left (by omega))).trans (e8_23.2.2.2.1 j)), ((((((((g116 13 j).resolve_left (by omega)).trans ((g100 13 j).resolve_left (by omega))).trans ((g83 13 j).resolve_left (by omega))).trans ((g68 13 j).resolve_left (by omega))).trans ((g50 13 j).resolve_left (by omega))).trans ((g34 13 j).resolve_left (by omega))).trans (e8_23.2.2.2.2.1 j))⟩) (fun i hi => ((((((((((p154 41 i (by omega)).trans (p142 41 i (by omega))).trans (p131 41 i (by omega))).trans ((g116 41 i).resolve_left (by omega))).trans ((g100 41 i).resolve_left (by omega))).trans ((g83 41 i).resolve_left (by omega))).trans ((g68 41 i).resolve_left (by omega))).trans ((g50 41 i).resolve_left (by omega))).trans ((g34 41 i).resolve_left (by omega)))).trans (e7_23 i (by omega))) (by omega) p131 q131 (by omega) p142 q142 p154 (by omega) p164 q164), gs_Cfc_mk (fun j => ((((((((g116 14 j).resolve_left (by omega)).trans ((g100 14 j).resolve_left (by omega))).trans ((g83 14 j).resolve_left (by omega))).trans ((g68 14 j).resolve_left (by omega))).trans ((g50 14 j).resolve_left (by omega))).trans ((g34 14 j).resolve_left (by omega))).trans (e8_23.2.2.2.2.2.1 j))) p131 p142 (by omega) p154 q154 ((((((p142 39 7 (by omega)).trans (p131 39 7 (by omega))).trans ((g116 39 7).resolve_left (by omega))).trans ((g100 39 7).resolve_left (by omega)))).trans R97) p164⟩)⟩⟩)⟩⟩
            · show gv_X _ _ (216, [(5, .inl z66), (0, .inr (.inr (some 39))), (1, .inr (.inl v1_12)), (3, .inl v3_12), (4, .inr (.inr (some 41)))], [], sh, gc_h sh I101 J102 A)
              have V185 := q100.2.2.2.2.2
              rw [show I84 39 5 = I 39 5 from by omega] at V185
              rw [show (if z99 = 0 then (1 : Int) else 0) = (if Ir 0 3 < 96 then 1 else 0) from gs_rm (by omega)] at V185
              obtain ⟨u185, u185_⟩ := gs_or0 V185 (by omega)
              refine gv_run 1 true hD (pcₚ := 217) (lvₚ := [(5, .inl z66), (0, .inr (.inr (some 39))), (1, .inr (.inl v1_12)), (3, .inl v3_12), (4, .inr (.inr (some 41)))]) (stₚ := [.inl 0]) (hₚ := gc_h sh I101 J102 A) (C := (True ∧ True)) rfl ⟨trivial, trivial⟩ ?_
              exact gv_zret hD rfl (by omega) ⟨I101, J102, rfl, hI101, FI101, FJ102, KLT_I101, KTK_I101, ⟨_, rfl, by omega, by omega, by omega, by omega, by omega, by omega, (Or.inr ⟨by omega, by first | (exfalso; omega) | (rw [e4_23]; unfold gs_fun2 gs_fun3; (repeat first | rw [if_pos (by omega)] | rw [if_neg (by omega)]); exact ⟨by omega, by omega, (((((((g100 4 1).resolve_left (by omega)).trans ((g83 4 1).resolve_left (by omega))).trans ((g68 4 1).resolve_left (by omega))).trans ((g50 4 1).resolve_left (by omega))).trans ((g34 4 1).resolve_left (by omega))).trans (e8_23.1)), fun j => ⟨((((((k100 5 j).resolve_left (by omega)).trans ((k83 5 j).resolve_left (by omega))).trans ((k68 5 j).resolve_left (by omega))).trans ((k34 5 j).resolve_left (by omega))).trans (e8_23.2.1 j)), (((((((g100 11 j).resolve_left (by omega)).trans ((g83 11 j).resolve_left (by omega))).trans ((g68 11 j).resolve_left (by omega))).trans ((g50 11 j).resolve_left (by omega))).trans ((g34 11 j).resolve_left (by omega))).trans (e8_23.2.2.1 j)), (((((((g100 12 j).resolve_left (by omega)).trans ((g83 12 j).resolve_left (by omega))).trans ((g68 12 j).resolve_left (by omega))).trans ((g50 12 j).resolve_left (by omega))).trans ((g34 12 j).resolve_left (by omega))).trans (e8_23.2.2.2.1 j)), (((((((g100 13 j).resolve_left (by omega)).trans ((g83 13 j).resolve_left (by omega))).trans ((g68 13 j).resolve_left (by omega))).trans ((g50 13 j).resolve_left (by omega))).trans ((g34 13 j).resolve_left (by omega))).trans (e8_23.2.2.2.2.1 j)), (((((((g100 14 j).resolve_left (by omega)).trans ((g83 14 j).resolve_left (by omega))).trans ((g68 14 j).resolve_left (by omega))).trans ((g50 14 j).resolve_left (by omega))).trans ((g34 14 j).resolve_left (by omega))).trans (e8_23.2.2.2.2.2.1 j))⟩⟩)⟩)⟩⟩
        · show gv_X _ _ (164, [(0, .inr (.inr (some 39))), (1, .inr (.inl v1_12)), (3, .inl v3_12), (4, .inr (.inr (some 41)))], [], sh, gc_h sh I51 J36 A)
          have u186 := gs_or0 q50.2.2.2 (by omega)
          have L50 : gs_T β η (gs_need β η 62 p_12) = 1 → gc_fd (J36 (2 + 1)) (gs_M β η (gs_need β η 62 p_12)) (Int.toNat (I35 2 1)) = gs_lk Ir Jr 2 2 (gs_rn β η (gs_need β η 62 p_12)) := (fun h => by rw [show I35 2 1 = I 2 1 from (((g34 2 1).resolve_left (by omega)).trans ((FI10 2 1).resolve_left (by omega))), show J36 (2 + 1) = J (2 + 1) from funext fun j => (((k34 3 j).resolve_left (by omega)).trans ((FJ11 3 j).resolve_left (by omega)))]; exact gs_NA_lk x6 x5 h)
          refine gv_run 1 true hD (pcₚ := 165) (lvₚ := [(0, .inr (.inr (some 39))), (1, .inr (.inl v1_12)), (3, .inl v3_12), (4, .inr (.inr (some 41)))]) (stₚ := [.inl 0]) (hₚ := gc_h sh I51 J36 A) (C := (True ∧ True)) rfl ⟨trivial, trivial⟩ ?_
          exact gv_zret hD rfl (by omega) ⟨I51, J36, rfl, hI51, FI51, FJ36, KLT_I51, KTK_I51, ⟨_, rfl, by omega, by omega, by omega, by omega, by omega, by omega, (Or.inr ⟨by omega, by first | (exfalso; omega) | (rw [e4_23]; unfold gs_fun2 gs_fun3; by_cases c9 : gs_T β η (gs_need β η 62 p_12) = 1; (have h9 := L50 c9; (repeat first | rw [if_pos (by omega)] | rw [if_neg (by omega)]); exact ⟨by omega, by omega, ((((g50 4 1).resolve_left (by omega)).trans ((g34 4 1).resolve_left (by omega))).trans (e8_23.1)), fun j => ⟨(((k34 5 j).resolve_left (by omega)).trans (e8_23.2.1 j)), ((((g50 11 j).resolve_left (by omega)).trans ((g34 11 j).resolve_left (by omega))).trans (e8_23.2.2.1 j)), ((((g50 12 j).resolve_left (by omega)).trans ((g34 12 j).resolve_left (by omega))).trans (e8_23.2.2.2.1 j)), ((((g50 13 j).resolve_left (by omega)).trans ((g34 13 j).resolve_left (by omega))).trans (e8_23.2.2.2.2.1 j)), ((((g50 14 j).resolve_left (by omega)).trans ((g34 14 j).resolve_left (by omega))).trans (e8_23.2.2.2.2.2.1 j))⟩⟩); (repeat first | rw [if_pos (by omega)] | rw [if_neg (by omega)]); exact ⟨by omega, by omega, ((((g50 4 1).resolve_left (by omega)).trans ((g34 4 1).resolve_left (by omega))).trans (e8_23.1)), fun j => ⟨(((k34 5 j).resolve_left (by omega)).trans (e8_23.2.1 j)), ((((g50 11 j).resolve_left (by omega)).trans ((g34 11 j).resolve_left (by omega))).trans (e8_23.2.2.1 j)), ((((g50 12 j).resolve_left (by omega)).trans ((g34 12 j).resolve_left (by omega))).trans (e8_23.2.2.2.1 j)), ((((g50 13 j).resolve_left (by omega)).trans ((g34 13 j).resolve_left (by omega))).trans (e8_23.2.2.2.2.1 j)), ((((g50 14 j).resolve_left (by omega)).trans ((g34 14 j).resolve_left (by omega))).trans (e8_23.2.2.2.2.2.1 j))⟩⟩)⟩)⟩⟩
    refine gv_run 2 true hD (pcₚ := 56) (lvₚ := [(0, .inr (.inr (some 39))), (1, .inr (.inl v1_12)), (3, .inl v3_12), (4, .inr (.inr (some 41))), (5, .inl v5_12)]) (stₚ := [.inl 4, .inl v5_12]) (hₚ := gc_h sh I10 J11 A) (C := ((True ∧ True) ∧ True)) rfl ⟨⟨trivial, trivial⟩, trivial⟩ ?_
    refine gv_icmp_gt (t := 141) hD rfl rfl ⟨⟨by omega, by omega⟩, ⟨by omega, by omega⟩⟩ (fun c187 => ?_) (fun c187 => ?_)
    · show gv_X _ _ (141, [(0, .inr (.inr (some 39))), (1, .inr (.inl v1_12)), (3, .inl v3_12), (4, .inr (.inr (some 41))), (5, .inl v5_12)], [], sh, gc_h sh I10 J11 A)
      refine gv_pick [0, 1, 2, 3] rfl ?_
      exact L141 (by omega) e0_12 e2_12 e3_12 (by first | (exfalso; omega) | (rw [e4_12, e5_12, gs_fl_e (by omega)]; unfold gs_fun1; (repeat first | rw [if_pos (by omega)] | rw [if_neg (by omega)]))) (by first | (exfalso; omega) | (rw [e5_12, gs_fl_e (by omega)])) (by first | (exfalso; omega) | (rw [e6_12, gs_cn_e (by omega)]; omega)) (fun i hi => (rfl).trans (e8_12 i (by omega))) ⟨((e10_12.1)), (fun k => (e10_12.2.1 k)), (fun k => (e10_12.2.2.1 k)), (fun k => (e10_12.2.2.2.1 k)), (fun k => (e10_12.2.2.2.2.1 k)), (fun k => (e10_12.2.2.2.2.2.1 k)), ((e10_12.2.2.2.2.2.2.1)), ((e10_12.2.2.2.2.2.2.2))⟩
    · show gv_X _ _ (59, [(0, .inr (.inr (some 39))), (1, .inr (.inl v1_12)), (3, .inl v3_12), (4, .inr (.inr (some 41))), (5, .inl v5_12)], [], sh, gc_h sh I10 J11 A)
      refine gv_run 1 true hD (pcₚ := 60) (lvₚ := [(0, .inr (.inr (some 39))), (1, .inr (.inl v1_12)), (3, .inl v3_12), (4, .inr (.inr (some 41))), (5, .inl v5_12)]) (stₚ := [.inr (.inr (some 39))]) (hₚ := gc_h sh I10 J11 A) (C := (True ∧ True)) rfl ⟨trivial, trivial⟩ ?_
      refine gv_get hD rfl rfl S_39 ⟨by decide, B_39⟩ (gc_hA S_39 rfl A_39_1) ?_
      show gv_X _ _ (63, [(0, .inr (.inr (some 39))), (1, .inr (.inl v1_12)), (3, .inl v3_12), (4, .inr (.inr (some 41))), (5, .inl v5_12)], [.inr (.inr (some 23))], sh, gc_h sh I10 J11 A)
      have f188 := (gc_b_3_7 hI10 R_23)
      refine gv_get hD rfl rfl S_23 ⟨by decide, B_23⟩ (gc_hI S_23 rfl) ?_
      show gv_X _ _ (66, [(0, .inr (.inr (some 39))), (1, .inr (.inl v1_12)), (3, .inl v3_12), (4, .inr (.inr (some 41))), (5, .inl v5_12)], [.inl (I10 23 7)], sh, gc_h sh I10 J11 A)
      refine gv_run 1 true hD (pcₚ := 67) (lvₚ := [(0, .inr (.inr (some 39))), (1, .inr (.inl v1_12)), (3, .inl v3_12), (4, .inr (.inr (some 41))), (5, .inl v5_12)]) (stₚ := [.inl 1, .inl (I10 23 7)]) (hₚ := gc_h sh I10 J11 A) (C := (True ∧ True)) rfl ⟨trivial, trivial⟩ ?_
      refine gv_icmp_ne (t := 141) hD rfl rfl ⟨⟨by omega, by omega⟩, ⟨by omega, by omega⟩⟩ (fun c189 => ?_) (fun c189 => ?_)
      · show gv_X _ _ (141, [(0, .inr (.inr (some 39))), (1, .inr (.inl v1_12)), (3, .inl v3_12), (4, .inr (.inr (some 41))), (5, .inl v5_12)], [], sh, gc_h sh I10 J11 A)
        refine gv_pick [0, 1, 2, 3] rfl ?_
        exact L141 (by omega) e0_12 e2_12 e3_12 (by first | (exfalso; omega) | (rw [e4_12, e5_12, gs_fl_e (by omega)]; unfold gs_fun1; (repeat first | rw [if_pos (by omega)] | rw [if_neg (by omega)]))) (by first | (exfalso; omega) | (rw [e5_12, gs_fl_e (by omega)])) (by first | (exfalso; omega) | (rw [e6_12, gs_cn_e (by omega)]; omega)) (fun i hi => (rfl).trans (e8_12 i (by omega))) ⟨((e10_12.1)), (fun k => (e10_12.2.1 k)), (fun k => (e10_12.2.2.1 k)), (fun k => (e10_12.2.2.2.1 k)), (fun k => (e10_12.2.2.2.2.1 k)), (fun k => (e10_12.2.2.2.2.2.1 k)), ((e10_12.2.2.2.2.2.2.1)), ((e10_12.2.2.2.2.2.2.2))⟩
      · show gv_X _ _ (70, [(0, .inr (.inr (some 39))), (1, .inr (.inl v1_12)), (3, .inl v3_12), (4, .inr (.inr (some 41))), (5, .inl v5_12)], [], sh, gc_h sh I10 J11 A)
        refine gv_run 2 true hD (pcₚ := 72) (lvₚ := [(0, .inr (.inr (some 39))), (1, .inr (.inl v1_12)), (3, .inl v3_12), (4, .inr (.inr (some 41))), (5, .inl v5_12)]) (stₚ := [.inl 4, .inl v3_12]) (hₚ := gc_h sh I10 J11 A) (C := ((True ∧ True) ∧ True)) rfl ⟨⟨trivial, trivial⟩, trivial⟩ ?_
        refine gv_icmp_ne (t := 88) hD rfl rfl ⟨⟨by omega, by omega⟩, ⟨by omega, by omega⟩⟩ (fun c190 => ?_) (fun c190 => ?_)
        · show gv_X _ _ (88, [(0, .inr (.inr (some 39))), (1, .inr (.inl v1_12)), (3, .inl v3_12), (4, .inr (.inr (some 41))), (5, .inl v5_12)], [], sh, gc_h sh I10 J11 A)
          refine gv_run 2 true hD (pcₚ := 90) (lvₚ := [(0, .inr (.inr (some 39))), (1, .inr (.inl v1_12)), (3, .inl v3_12), (4, .inr (.inr (some 41))), (5, .inl v5_12)]) (stₚ := [.inr (.inr (some 39)), .inr (.inr (some 39))]) (hₚ := gc_h sh I10 J11 A) (C := ((True ∧ True) ∧ True)) rfl ⟨⟨trivial, trivial⟩, trivial⟩ ?_
          refine gv_get hD rfl rfl S_39 ⟨by decide, B_39⟩ (gc_hA S_39 rfl A_39_0) ?_
          show gv_X _ _ (93, [(0, .inr (.inr (some 39))), (1, .inr (.inl v1_12)), (3, .inl v3_12), (4, .inr (.inr (some 41))), (5, .inl v5_12)], [.inr (.inr (some 1)), .inr (.inr (some 39))], sh, gc_h sh I10 J11 A)
          refine gv_get hD rfl rfl S_1 ⟨by decide, B_1⟩ (gc_hA S_1 rfl A_1_0) ?_
          show gv_X _ _ (96, [(0, .inr (.inr (some 39))), (1, .inr (.inl v1_12)), (3, .inl v3_12), (4, .inr (.inr (some 41))), (5, .inl v5_12)], [.inr (.inr (some 2)), .inr (.inr (some 39))], sh, gc_h sh I10 J11 A)
          obtain ⟨r191, h191, E191, P191⟩ := d_X6_needKnown_p (ws0 := ws0) (tb := tb) hws htb sh ro I10 J11 A hI10  32 9 β η p_12 2 hb (gc_b2 hb)   e2_12 (by omega) 
          obtain ⟨I192, J193, rfl, hI192, g191, k191, ⟨z191, rfl, q191⟩⟩ := P191
          have FI192 := gc_frc (W := fun q j => (q = 39 ∧ j = 3) ∨ (q = 39 ∧ j = 4) ∨ (q = 23 ∧ j = 5) ∨ (q = 23 ∧ j = 6) ∨ (q = 23 ∧ j = 7) ∨ (q = 23 ∧ j = 8) ∨ (q = 39 ∧ j = 7) ∨ q = 41 ∨ (q = 4 ∧ j = 1) ∨ (q = 11 ∧ (I 4 1 ≤ (j : Int))) ∨ (q = 12 ∧ (I 4 1 ≤ (j : Int))) ∨ (q = 13 ∧ (4 * I 4 1 ≤ (j : Int))) ∨ q = 14) (V := fun q j => (q = 39 ∧ j = 3) ∨ (q = 39 ∧ j = 4)) FI10 (fun q j h => (h.elim (fun h => (Or.inl h)) (fun h => (Or.inr (Or.inl h))))) g191
          have t194 := (g191 23 1).resolve_left (fun h => h.elim (fun h => absurd h.2 (by decide)) (fun h => absurd h.2 (by decide)))
          have t195 := (g191 23 5).resolve_left (fun h => h.elim (fun h => absurd h.2 (by decide)) (fun h => absurd h.2 (by decide)))
          have t196 := (g191 23 6).resolve_left (fun h => h.elim (fun h => absurd h.2 (by decide)) (fun h => absurd h.2 (by decide)))
          have t197 := (g191 23 7).resolve_left (fun h => h.elim (fun h => absurd h.2 (by decide)) (fun h => absurd h.2 (by decide)))
          have t198 := (g191 4 1).resolve_left (fun h => h.elim (fun h => absurd h.2 (by decide)) (fun h => absurd h.2 (by decide)))
          have t199 := (g191 2 1).resolve_left (fun h => h.elim (fun h => absurd h.2 (by decide)) (fun h => absurd h.2 (by decide)))
          have t200 := (g191 39 5).resolve_left (fun h => h.elim (fun h => absurd h.2 (by decide)) (fun h => absurd h.2 (by decide)))
          have t201 := (g191 1 18).resolve_left (fun h => h.elim (fun h => absurd h.2 (by decide)) (fun h => absurd h.2 (by decide)))
          obtain rfl : J11 = J193 := funext fun q => funext fun j => ((k191 q j).resolve_left id).symm
          have KLT_I192 := gc_LT_fr KLT_I10 ((g191 23 5).resolve_left (fun h => h.elim (fun h => absurd h.2 (by decide)) (fun h => absurd h.2 (by decide)))) ((g191 23 6).resolve_left (fun h => h.elim (fun h => absurd h.2 (by decide)) (fun h => absurd h.2 (by decide)))) ((g191 23 7).resolve_left (fun h => h.elim (fun h => absurd h.2 (by decide)) (fun h => absurd h.2 (by decide)))) (fun k => (g191 24 k).resolve_left (fun h => h.elim (fun h => absurd h.1 (by decide)) (fun h => absurd h.1 (by decide))))
          have KTK_I192 := gc_TK_fr KTK_I10 ((g191 23 1).resolve_left (fun h => h.elim (fun h => absurd h.2 (by decide)) (fun h => absurd h.2 (by decide)))) ((g191 23 5).resolve_left (fun h => h.elim (fun h => absurd h.2 (by decide)) (fun h => absurd h.2 (by decide)))) ((g191 23 6).resolve_left (fun h => h.elim (fun h => absurd h.2 (by decide)) (fun h => absurd h.2 (by decide)))) ((g191 23 7).resolve_left (fun h => h.elim (fun h => absurd h.2 (by decide)) (fun h => absurd h.2 (by decide))))
          have A202 := gc_AT_I e2_12 ((g191 23 1).resolve_left (fun h => h.elim (fun h => absurd h.2 (by decide)) (fun h => absurd h.2 (by decide)))) ((g191 23 5).resolve_left (fun h => h.elim (fun h => absurd h.2 (by decide)) (fun h => absurd h.2 (by decide)))) ((g191 23 6).resolve_left (fun h => h.elim (fun h => absurd h.2 (by decide)) (fun h => absurd h.2 (by decide)))) ((g191 23 7).resolve_left (fun h => h.elim (fun h => absurd h.2 (by decide)) (fun h => absurd h.2 (by decide)))) ((g191 23 8).resolve_left (fun h => h.elim (fun h => absurd h.2 (by decide)) (fun h => absurd h.2 (by decide)))) (fun k => (g191 24 k).resolve_left (fun h => h.elim (fun h => absurd h.1 (by decide)) (fun h => absurd h.1 (by decide))))
          have t203 := gc_AT_l A202
          refine gv_callV hD rfl (As := [.inr (.inr (some 2))]) (st := []) rfl B_39 S_39 rfl (gc_lV6 hws rfl) (Nat.le_of_ble_eq_true rfl) (gz_Ev_mono (d := 3) (by decide) E191) ?_
          show gv_X _ _ (99, [(0, .inr (.inr (some 39))), (1, .inr (.inl v1_12)), (3, .inl v3_12), (4, .inr (.inr (some 41))), (5, .inl v5_12)], [.inl z191], sh, gc_h sh I192 J11 A)
          refine gv_if_ne (t := 104) hD rfl rfl ⟨by omega, by omega⟩ (fun c204 => ?_) (fun c204 => ?_)
          · show gv_X _ _ (104, [(0, .inr (.inr (some 39))), (1, .inr (.inl v1_12)), (3, .inl v3_12), (4, .inr (.inr (some 41))), (5, .inl v5_12)], [], sh, gc_h sh I192 J11 A)
            have u205 := gs_or1 q191.2.2.2 (by omega)
            have L191 : gs_T β η p_12 = 1 → gc_fd (J11 (2 + 1)) (gs_M β η p_12) (Int.toNat (I10 2 1)) = gs_lk Ir Jr 2 2 (gs_rn β η p_12) := (fun h => by rw [show I10 2 1 = I 2 1 from ((FI10 2 1).resolve_left (by omega)), show J11 (2 + 1) = J (2 + 1) from funext fun j => ((FJ11 3 j).resolve_left (by omega))]; exact gs_NA_lk x6 x5 h)
            have t206 := L191 (by omega)
            refine gv_run 4 true hD (pcₚ := 111) (lvₚ := [(3, .inl (v3_12 + 1)), (0, .inr (.inr (some 39))), (1, .inr (.inl v1_12)), (4, .inr (.inr (some 41))), (5, .inl v5_12)]) (stₚ := [.inr (.inr (some 39)), .inl v3_12, .inr (.inr (some 41))]) (hₚ := gc_h sh I192 J11 A) (C := ((((True ∧ True) ∧ True) ∧ True) ∧ True)) rfl ⟨⟨⟨⟨trivial, trivial⟩, trivial⟩, trivial⟩, trivial⟩ ?_
            refine gv_get hD rfl rfl S_39 ⟨by decide, B_39⟩ (gc_hA S_39 rfl A_39_0) ?_
            show gv_X _ _ (114, [(3, .inl (v3_12 + 1)), (0, .inr (.inr (some 39))), (1, .inr (.inl v1_12)), (4, .inr (.inr (some 41))), (5, .inl v5_12)], [.inr (.inr (some 1)), .inl v3_12, .inr (.inr (some 41))], sh, gc_h sh I192 J11 A)
            refine gv_get hD rfl rfl S_1 ⟨by decide, B_1⟩ (gc_hA S_1 rfl A_1_0) ?_
            show gv_X _ _ (117, [(3, .inl (v3_12 + 1)), (0, .inr (.inr (some 39))), (1, .inr (.inl v1_12)), (4, .inr (.inr (some 41))), (5, .inl v5_12)], [.inr (.inr (some 2)), .inl v3_12, .inr (.inr (some 41))], sh, gc_h sh I192 J11 A)
            refine gv_run 1 true hD (pcₚ := 118) (lvₚ := [(3, .inl (v3_12 + 1)), (0, .inr (.inr (some 39))), (1, .inr (.inl v1_12)), (4, .inr (.inr (some 41))), (5, .inl v5_12)]) (stₚ := [.inr (.inr (some 39)), .inr (.inr (some 2)), .inl v3_12, .inr (.inr (some 41))]) (hₚ := gc_h sh I192 J11 A) (C := (True ∧ True)) rfl ⟨trivial, trivial⟩ ?_
            refine gv_get hD rfl rfl S_39 ⟨by decide, B_39⟩ (gc_hA S_39 rfl A_39_1) ?_
            show gv_X _ _ (121, [(3, .inl (v3_12 + 1)), (0, .inr (.inr (some 39))), (1, .inr (.inl v1_12)), (4, .inr (.inr (some 41))), (5, .inl v5_12)], [.inr (.inr (some 23)), .inr (.inr (some 2)), .inl v3_12, .inr (.inr (some 41))], sh, gc_h sh I192 J11 A)
            refine gv_get hD rfl rfl S_23 ⟨by decide, B_23⟩ (gc_hJ S_23 rfl) ?_
            show gv_X _ _ (124, [(3, .inl (v3_12 + 1)), (0, .inr (.inr (some 39))), (1, .inr (.inl v1_12)), (4, .inr (.inr (some 41))), (5, .inl v5_12)], [.inr (.inl (J11 23 9)), .inr (.inr (some 2)), .inl v3_12, .inr (.inr (some 41))], sh, gc_h sh I192 J11 A)
            obtain ⟨r207, h207, E207, P207⟩ := d_X4_find (ws0 := ws0) (tb := tb) hws htb sh ro I192 J11 A hI192 2 32 9 (J11 23 9) (gc_b2 hb)     
            obtain ⟨rfl, ⟨z207, rfl, q207⟩⟩ := P207
            have t208 : z207 = gs_lk Ir Jr 2 2 (gs_rn β η p_12) := q207.2.2.2.trans (by rw [gc_AT_m A202 (by omega)]; exact (show gs_T β η p_12 = 1 → gc_fd (J11 (2 + 1)) (gs_M β η p_12) (Int.toNat (I192 2 1)) = gs_lk Ir Jr 2 2 (gs_rn β η p_12) from (fun h => by rw [show I192 2 1 = I 2 1 from (((g191 2 1).resolve_left (by omega)).trans ((FI10 2 1).resolve_left (by omega))), show J11 (2 + 1) = J (2 + 1) from funext fun j => ((FJ11 3 j).resolve_left (by omega))]; exact gs_NA_lk x6 x5 h)) (by omega))
            refine gv_callV hD rfl (As := [.inr (.inl (J11 23 9))]) (st := [.inl v3_12, .inr (.inr (some 41))]) rfl B_2 S_2 rfl (gc_lV6 hws rfl) (Nat.le_of_ble_eq_true rfl) (gz_Ev_mono (d := 1) (by decide) E207) ?_
            show gv_X _ _ (127, [(3, .inl (v3_12 + 1)), (0, .inr (.inr (some 39))), (1, .inr (.inl v1_12)), (4, .inr (.inr (some 41))), (5, .inl v5_12)], [.inl z207, .inl v3_12, .inr (.inr (some 41))], sh, gc_h sh I192 J11 A)
            refine gv_iast hD rfl S_41 ⟨by decide, B_41⟩ ⟨by omega, by omega⟩ ?_
            refine gc_st hI192 S_41 rfl R_41 (lo := (-2147483648)) (hi := 2147483647) rfl rfl (by omega) (by omega) (fun I209 hI209 q210 p210 => ?_)
            have FI209 := gc_frs (W := fun q j => (q = 39 ∧ j = 3) ∨ (q = 39 ∧ j = 4) ∨ (q = 23 ∧ j = 5) ∨ (q = 23 ∧ j = 6) ∨ (q = 23 ∧ j = 7) ∨ (q = 23 ∧ j = 8) ∨ (q = 39 ∧ j = 7) ∨ q = 41 ∨ (q = 4 ∧ j = 1) ∨ (q = 11 ∧ (I 4 1 ≤ (j : Int))) ∨ (q = 12 ∧ (I 4 1 ≤ (j : Int))) ∨ (q = 13 ∧ (4 * I 4 1 ≤ (j : Int))) ∨ q = 14) FI192 (Or.inr (Or.inr (Or.inr (Or.inr (Or.inr (Or.inr (Or.inr (Or.inl rfl)))))))) p210
            have t211 := p210 23 1 (fun h => absurd h.1 (by decide))
            have t212 := p210 23 5 (fun h => absurd h.1 (by decide))
            have t213 := p210 23 6 (fun h => absurd h.1 (by decide))
            have t214 := p210 23 7 (fun h => absurd h.1 (by decide))
            have t215 := p210 4 1 (fun h => absurd h.1 (by decide))
            have t216 := p210 2 1 (fun h => absurd h.1 (by decide))
            have t217 := p210 39 5 (fun h => absurd h.1 (by decide))
            have t218 := p210 1 18 (fun h => absurd h.1 (by decide))
            have KLT_I209 := gc_LT_fr KLT_I192 (p210 23 5 (fun h => absurd h.1 (by decide))) (p210 23 6 (fun h => absurd h.1 (by decide))) (p210 23 7 (fun h => absurd h.1 (by decide))) (fun k => p210 24 k (fun h => absurd h.1 (by decide)))
            have KTK_I209 := gc_TK_fr KTK_I192 (p210 23 1 (fun h => absurd h.1 (by decide))) (p210 23 5 (fun h => absurd h.1 (by decide))) (p210 23 6 (fun h => absurd h.1 (by decide))) (p210 23 7 (fun h => absurd h.1 (by decide)))
            have A219 := gc_AT_I A202 (p210 23 1 (fun h => absurd h.1 (by decide))) (p210 23 5 (fun h => absurd h.1 (by decide))) (p210 23 6 (fun h => absurd h.1 (by decide))) (p210 23 7 (fun h => absurd h.1 (by decide))) (p210 23 8 (fun h => absurd h.1 (by decide))) (fun k => p210 24 k (fun h => absurd h.1 (by decide)))
            show gv_X _ _ (128, [(3, .inl (v3_12 + 1)), (0, .inr (.inr (some 39))), (1, .inr (.inl v1_12)), (4, .inr (.inr (some 41))), (5, .inl v5_12)], [], sh, gc_h sh I209 J11 A)
            refine gv_run 1 true hD (pcₚ := 129) (lvₚ := [(3, .inl (v3_12 + 1)), (0, .inr (.inr (some 39))), (1, .inr (.inl v1_12)), (4, .inr (.inr (some 41))), (5, .inl v5_12)]) (stₚ := [.inr (.inr (some 39))]) (hₚ := gc_h sh I209 J11 A) (C := (True ∧ True)) rfl ⟨trivial, trivial⟩ ?_
            refine gv_get hD rfl rfl S_39 ⟨by decide, B_39⟩ (gc_hA S_39 rfl A_39_1) ?_
            show gv_X _ _ (132, [(3, .inl (v3_12 + 1)), (0, .inr (.inr (some 39))), (1, .inr (.inl v1_12)), (4, .inr (.inr (some 41))), (5, .inl v5_12)], [.inr (.inr (some 23))], sh, gc_h sh I209 J11 A)
            have t221 := gc_TK_nx KTK_I209 (by omega)
            obtain ⟨r220, h220, E220, P220⟩ := d_X9_advance_p (ws0 := ws0) (tb := tb) hws htb sh ro I209 J11 A hI209 23 β η  (gc_b23 hb)    (by omega) A219.1.1 A219.1.2 
            obtain ⟨I222, J223, rfl, hI222, g220, k220, ⟨rfl, V220_0, V220_1, V220_2, V220_3, V220_4, q220⟩⟩ := P220
            have FI222 := gc_frc (W := fun q j => (q = 39 ∧ j = 3) ∨ (q = 39 ∧ j = 4) ∨ (q = 23 ∧ j = 5) ∨ (q = 23 ∧ j = 6) ∨ (q = 23 ∧ j = 7) ∨ (q = 23 ∧ j = 8) ∨ (q = 39 ∧ j = 7) ∨ q = 41 ∨ (q = 4 ∧ j = 1) ∨ (q = 11 ∧ (I 4 1 ≤ (j : Int))) ∨ (q = 12 ∧ (I 4 1 ≤ (j : Int))) ∨ (q = 13 ∧ (4 * I 4 1 ≤ (j : Int))) ∨ q = 14) (V := fun q j => (q = 23 ∧ j = 5) ∨ (q = 23 ∧ j = 6) ∨ (q = 23 ∧ j = 7) ∨ (q = 23 ∧ j = 8)) FI209 (fun q j h => (h.elim (fun h => (Or.inr (Or.inr (Or.inl h)))) (fun h => (h.elim (fun h => (Or.inr (Or.inr (Or.inr (Or.inl h))))) (fun h => (h.elim (fun h => (Or.inr (Or.inr (Or.inr (Or.inr (Or.inl h)))))) (fun h => (Or.inr (Or.inr (Or.inr (Or.inr (Or.inr (Or.inl h))))))))))))) g220
            have FJ223 := gc_frc (W := fun q j => (q = 23 ∧ j = 9) ∨ q = 5) (V := fun q j => (q = 23 ∧ j = 9)) FJ11 (fun q j h => (Or.inl h)) k220
            have t224 := (g220 23 1).resolve_left (fun h => h.elim (fun h => absurd h.2 (by decide)) (fun h => h.elim (fun h => absurd h.2 (by decide)) (fun h => h.elim (fun h => absurd h.2 (by decide)) (fun h => absurd h.2 (by decide)))))
            have t225 := (g220 4 1).resolve_left (fun h => h.elim (fun h => absurd h.2 (by decide)) (fun h => h.elim (fun h => absurd h.2 (by decide)) (fun h => h.elim (fun h => absurd h.2 (by decide)) (fun h => absurd h.2 (by decide)))))
            have t226 := (g220 2 1).resolve_left (fun h => h.elim (fun h => absurd h.2 (by decide)) (fun h => h.elim (fun h => absurd h.2 (by decide)) (fun h => h.elim (fun h => absurd h.2 (by decide)) (fun h => absurd h.2 (by decide)))))
            have t227 := (g220 39 5).resolve_left (fun h => h.elim (fun h => absurd h.1 (by decide)) (fun h => h.elim (fun h => absurd h.2 (by decide)) (fun h => h.elim (fun h => absurd h.2 (by decide)) (fun h => absurd h.2 (by decide)))))
            have t228 := (g220 1 18).resolve_left (fun h => h.elim (fun h => absurd h.2 (by decide)) (fun h => h.elim (fun h => absurd h.2 (by decide)) (fun h => h.elim (fun h => absurd h.2 (by decide)) (fun h => absurd h.2 (by decide)))))
            have f229 := (gc_b_3_5 hI222 R_23)
            have f230 := (gc_b_3_6 hI222 R_23)
            have f231 := (gc_b_3_7 hI222 R_23)
            have KLT_I222 : gc_LT I222 := q220.2.2.1
            have KTK_I222 : gc_TK I222 := And.intro V220_0 (And.intro V220_1 (And.intro V220_2 (And.intro V220_3 V220_4)))
            have t232 := gc_TK_mo KTK_I222
            clear V220_0 V220_1 V220_2 V220_3 V220_4
            have A233 := gc_AT_nx A219 q220.2.2.2
            have t234 := gc_AT_l A233
            refine gv_callV hD rfl (As := []) (st := []) rfl B_23 S_23 rfl (gc_lV6 hws rfl) (Nat.le_of_ble_eq_true rfl) (gz_Ev_mono (d := 2) (by decide) E220) ?_
            show gv_X _ _ (135, [(3, .inl (v3_12 + 1)), (0, .inr (.inr (some 39))), (1, .inr (.inl v1_12)), (4, .inr (.inr (some 41))), (5, .inl v5_12)], [], sh, gc_h sh I222 J223 A)
            refine gv_run 2 true hD (pcₚ := 53) (lvₚ := [(5, .inl (v5_12 + 1)), (3, .inl (v3_12 + 1)), (0, .inr (.inr (some 39))), (1, .inr (.inl v1_12)), (4, .inr (.inr (some 41)))]) (stₚ := []) (hₚ := gc_h sh I222 J223 A) (C := ((True ∧ True) ∧ True)) rfl ⟨⟨trivial, trivial⟩, trivial⟩ ?_
            refine gv_pick [2, 3, 1, 4, 0] rfl ?_
            exact ih53 I222 J223 v1_12 (v3_12 + 1) (v5_12 + 1) (gs_X β η p_12) (by omega) hI222 FI222 FJ223 KLT_I222 KTK_I222 (by omega) (gc_rg_fr (gc_rg_push (gc_rg_fr e0_12 (fun k => (g191 41 k).resolve_left (by omega))) (by omega) p210 (by omega)) (fun k => (g220 41 k).resolve_left (by omega))) A233 e3_12 e4_12 (e5_12.trans (gs_fl_s (by omega) (by omega) (by omega))) (e6_12.trans (gs_cn_s (by omega) (by omega))) (by rw [show Int.toNat (v3_12 + 1) = Int.toNat v3_12 + 1 from by omega]; show gs_X β η _ = gs_X β η _; rw [← e7_12]) (fun i hi => (((g220 41 i).resolve_left (by omega))).trans (by by_cases c : i = Int.toNat v3_12; (rw [show i = (Int.toNat v3_12) from by omega, q210, show Int.toNat v3_12 = Int.toNat v3_12 from rfl, ← e7_12]; omega); exact (p210 41 i (fun h => c (by have h9 := h.2; omega))).trans ((((g191 41 i).resolve_left (by omega))).trans (e8_12 i (by omega))))) (by omega) ⟨((((((g220 4 1).resolve_left (by omega)).trans (p210 4 1 (by omega))).trans ((g191 4 1).resolve_left (by omega))).trans (e10_12.1))), (fun k => (((k220 5 k).resolve_left (by omega)).trans (e10_12.2.1 k))), (fun k => (((((g220 11 k).resolve_left (by omega)).trans (p210 11 k (by omega))).trans ((g191 11 k).resolve_left (by omega))).trans (e10_12.2.2.1 k))), (fun k => (((((g220 12 k).resolve_left (by omega)).trans (p210 12 k (by omega))).trans ((g191 12 k).resolve_left (by omega))).trans (e10_12.2.2.2.1 k))), (fun k => (((((g220 13 k).resolve_left (by omega)).trans (p210 13 k (by omega))).trans ((g191 13 k).resolve_left (by omega))).trans (e10_12.2.2.2.2.1 k))), (fun k => (((((g220 14 k).resolve_left (by omega)).trans (p210 14 k (by omega))).trans ((g191 14 k).resolve_left (by omega))).trans (e10_12.2.2.2.2.2.1 k))), ((((((g220 39 5).resolve_left (by omega)).trans (p210 39 5 (by omega))).trans ((g191 39 5).resolve_left (by omega))).trans (e10_12.2.2.2.2.2.2.1))), ((((((g220 1 18).resolve_left (by omega)).trans (p210 1 18 (by omega))).trans ((g191 1 18).resolve_left (by omega))).trans (e10_12.2.2.2.2.2.2.2)))⟩
          · show gv_X _ _ (102, [(0, .inr (.inr (some 39))), (1, .inr (.inl v1_12)), (3, .inl v3_12), (4, .inr (.inr (some 41))), (5, .inl v5_12)], [], sh, gc_h sh I192 J11 A)
            have u235 := gs_or0 q191.2.2.2 (by omega)
            have L191 : gs_T β η p_12 = 1 → gc_fd (J11 (2 + 1)) (gs_M β η p_12) (Int.toNat (I10 2 1)) = gs_lk Ir Jr 2 2 (gs_rn β η p_12) := (fun h => by rw [show I10 2 1 = I 2 1 from ((FI10 2 1).resolve_left (by omega)), show J11 (2 + 1) = J (2 + 1) from funext fun j => ((FJ11 3 j).resolve_left (by omega))]; exact gs_NA_lk x6 x5 h)
            refine gv_run 1 true hD (pcₚ := 103) (lvₚ := [(0, .inr (.inr (some 39))), (1, .inr (.inl v1_12)), (3, .inl v3_12), (4, .inr (.inr (some 41))), (5, .inl v5_12)]) (stₚ := [.inl 0]) (hₚ := gc_h sh I192 J11 A) (C := (True ∧ True)) rfl ⟨trivial, trivial⟩ ?_
            exact gv_zret hD rfl (by omega) ⟨I192, J11, rfl, hI192, FI192, FJ11, KLT_I192, KTK_I192, ⟨_, rfl, by omega, by omega, by omega, by omega, by omega, by omega, (Or.inr ⟨by omega, by first | (exfalso; omega) | (rw [e4_12, e5_12, gs_fl_x (by omega) (by have h8 := L191; omega)]; unfold gs_fun1; by_cases c9 : gs_T β η p_12 = 1; (have h9 := L191 c9; (repeat first | rw [if_pos (by omega)] | rw [if_neg (by omega)]); exact ⟨by omega, by omega, (((g191 4 1).resolve_left (by omega)).trans (e10_12.1)), fun j => ⟨(e10_12.2.1 j), (((g191 11 j).resolve_left (by omega)).trans (e10_12.2.2.1 j)), (((g191 12 j).resolve_left (by omega)).trans (e10_12.2.2.2.1 j)), (((g191 13 j).resolve_left (by omega)).trans (e10_12.2.2.2.2.1 j)), (((g191 14 j).resolve_left (by omega)).trans (e10_12.2.2.2.2.2.1 j))⟩⟩); (repeat first | rw [if_pos (by omega)] | rw [if_neg (by omega)]); exact ⟨by omega, by omega, (((g191 4 1).resolve_left (by omega)).trans (e10_12.1)), fun j => ⟨(e10_12.2.1 j), (((g191 11 j).resolve_left (by omega)).trans (e10_12.2.2.1 j)), (((g191 12 j).resolve_left (by omega)).trans (e10_12.2.2.2.1 j)), (((g191 13 j).resolve_left (by omega)).trans (e10_12.2.2.2.2.1 j)), (((g191 14 j).resolve_left (by omega)).trans (e10_12.2.2.2.2.2.1 j))⟩⟩)⟩)⟩⟩
        · show gv_X _ _ (75, [(0, .inr (.inr (some 39))), (1, .inr (.inl v1_12)), (3, .inl v3_12), (4, .inr (.inr (some 41))), (5, .inl v5_12)], [], sh, gc_h sh I10 J11 A)
          refine gv_run 3 true hD (pcₚ := 78) (lvₚ := [(0, .inr (.inr (some 39))), (1, .inr (.inl v1_12)), (3, .inl v3_12), (4, .inr (.inr (some 41))), (5, .inl v5_12)]) (stₚ := [.inr (.inr (some 39)), .inl 5, .inr (.inr (some 39))]) (hₚ := gc_h sh I10 J11 A) (C := (((True ∧ True) ∧ True) ∧ True)) rfl ⟨⟨⟨trivial, trivial⟩, trivial⟩, trivial⟩ ?_
          refine gv_get hD rfl rfl S_39 ⟨by decide, B_39⟩ (gc_hA S_39 rfl A_39_1) ?_
          show gv_X _ _ (81, [(0, .inr (.inr (some 39))), (1, .inr (.inl v1_12)), (3, .inl v3_12), (4, .inr (.inr (some 41))), (5, .inl v5_12)], [.inr (.inr (some 23)), .inl 5, .inr (.inr (some 39))], sh, gc_h sh I10 J11 A)
          have f236 := (gc_b_3_5 hI10 R_23)
          refine gv_get hD rfl rfl S_23 ⟨by decide, B_23⟩ (gc_hI S_23 rfl) ?_
          show gv_X _ _ (84, [(0, .inr (.inr (some 39))), (1, .inr (.inl v1_12)), (3, .inl v3_12), (4, .inr (.inr (some 41))), (5, .inl v5_12)], [.inl (I10 23 5), .inl 5, .inr (.inr (some 39))], sh, gc_h sh I10 J11 A)
          obtain ⟨r237, h237, E237, P237⟩ := d_X6_wrong_p (ws0 := ws0) (tb := tb) hws htb sh ro I10 J11 A hI10  5 (I10 23 5) hb   ⟨by omega, by omega⟩ ⟨by omega, by omega⟩  
          obtain ⟨I238, J239, rfl, hI238, g237, k237, ⟨z237, rfl, q237⟩⟩ := P237
          have FI238 := gc_frc (W := fun q j => (q = 39 ∧ j = 3) ∨ (q = 39 ∧ j = 4) ∨ (q = 23 ∧ j = 5) ∨ (q = 23 ∧ j = 6) ∨ (q = 23 ∧ j = 7) ∨ (q = 23 ∧ j = 8) ∨ (q = 39 ∧ j = 7) ∨ q = 41 ∨ (q = 4 ∧ j = 1) ∨ (q = 11 ∧ (I 4 1 ≤ (j : Int))) ∨ (q = 12 ∧ (I 4 1 ≤ (j : Int))) ∨ (q = 13 ∧ (4 * I 4 1 ≤ (j : Int))) ∨ q = 14) (V := fun q j => (q = 39 ∧ j = 3) ∨ (q = 39 ∧ j = 4)) FI10 (fun q j h => (h.elim (fun h => (Or.inl h)) (fun h => (Or.inr (Or.inl h))))) g237
          have t240 := (g237 23 1).resolve_left (fun h => h.elim (fun h => absurd h.2 (by decide)) (fun h => absurd h.2 (by decide)))
          have t241 := (g237 23 5).resolve_left (fun h => h.elim (fun h => absurd h.2 (by decide)) (fun h => absurd h.2 (by decide)))
          have t242 := (g237 23 6).resolve_left (fun h => h.elim (fun h => absurd h.2 (by decide)) (fun h => absurd h.2 (by decide)))
          have t243 := (g237 23 7).resolve_left (fun h => h.elim (fun h => absurd h.2 (by decide)) (fun h => absurd h.2 (by decide)))
          have t244 := (g237 4 1).resolve_left (fun h => h.elim (fun h => absurd h.2 (by decide)) (fun h => absurd h.2 (by decide)))
          have t245 := (g237 2 1).resolve_left (fun h => h.elim (fun h => absurd h.2 (by decide)) (fun h => absurd h.2 (by decide)))
          have t246 := (g237 39 5).resolve_left (fun h => h.elim (fun h => absurd h.2 (by decide)) (fun h => absurd h.2 (by decide)))
          have t247 := (g237 1 18).resolve_left (fun h => h.elim (fun h => absurd h.2 (by decide)) (fun h => absurd h.2 (by decide)))
          obtain rfl : J11 = J239 := funext fun q => funext fun j => ((k237 q j).resolve_left id).symm
          have KLT_I238 := gc_LT_fr KLT_I10 ((g237 23 5).resolve_left (fun h => h.elim (fun h => absurd h.2 (by decide)) (fun h => absurd h.2 (by decide)))) ((g237 23 6).resolve_left (fun h => h.elim (fun h => absurd h.2 (by decide)) (fun h => absurd h.2 (by decide)))) ((g237 23 7).resolve_left (fun h => h.elim (fun h => absurd h.2 (by decide)) (fun h => absurd h.2 (by decide)))) (fun k => (g237 24 k).resolve_left (fun h => h.elim (fun h => absurd h.1 (by decide)) (fun h => absurd h.1 (by decide))))
          have KTK_I238 := gc_TK_fr KTK_I10 ((g237 23 1).resolve_left (fun h => h.elim (fun h => absurd h.2 (by decide)) (fun h => absurd h.2 (by decide)))) ((g237 23 5).resolve_left (fun h => h.elim (fun h => absurd h.2 (by decide)) (fun h => absurd h.2 (by decide)))) ((g237 23 6).resolve_left (fun h => h.elim (fun h => absurd h.2 (by decide)) (fun h => absurd h.2 (by decide)))) ((g237 23 7).resolve_left (fun h => h.elim (fun h => absurd h.2 (by decide)) (fun h => absurd h.2 (by decide))))
          have A248 := gc_AT_I e2_12 ((g237 23 1).resolve_left (fun h => h.elim (fun h => absurd h.2 (by decide)) (fun h => absurd h.2 (by decide)))) ((g237 23 5).resolve_left (fun h => h.elim (fun h => absurd h.2 (by decide)) (fun h => absurd h.2 (by decide)))) ((g237 23 6).resolve_left (fun h => h.elim (fun h => absurd h.2 (by decide)) (fun h => absurd h.2 (by decide)))) ((g237 23 7).resolve_left (fun h => h.elim (fun h => absurd h.2 (by decide)) (fun h => absurd h.2 (by decide)))) ((g237 23 8).resolve_left (fun h => h.elim (fun h => absurd h.2 (by decide)) (fun h => absurd h.2 (by decide)))) (fun k => (g237 24 k).resolve_left (fun h => h.elim (fun h => absurd h.1 (by decide)) (fun h => absurd h.1 (by decide))))
          have t249 := gc_AT_l A248
          refine gv_callV hD rfl (As := [.inl 5, .inl (I10 23 5)]) (st := []) rfl B_39 S_39 rfl (gc_lV6 hws rfl) (Nat.le_of_ble_eq_true rfl) (gz_Ev_mono (d := 1) (by decide) E237) ?_
          show gv_X _ _ (87, [(0, .inr (.inr (some 39))), (1, .inr (.inl v1_12)), (3, .inl v3_12), (4, .inr (.inr (some 41))), (5, .inl v5_12)], [.inl z237], sh, gc_h sh I238 J11 A)
          exact gv_zret hD rfl (by omega) ⟨I238, J11, rfl, hI238, FI238, FJ11, KLT_I238, KTK_I238, ⟨_, rfl, by omega, by omega, by omega, by omega, by omega, by omega, (Or.inr ⟨by omega, by rw [e4_12, e5_12, gs_fl_x (by omega) (by omega)]; unfold gs_fun1; (repeat first | rw [if_pos (by omega)] | rw [if_neg (by omega)]); exact ⟨by omega, by omega, (((g237 4 1).resolve_left (by omega)).trans (e10_12.1)), fun j => ⟨(e10_12.2.1 j), (((g237 11 j).resolve_left (by omega)).trans (e10_12.2.2.1 j)), (((g237 12 j).resolve_left (by omega)).trans (e10_12.2.2.2.1 j)), (((g237 13 j).resolve_left (by omega)).trans (e10_12.2.2.2.2.1 j)), (((g237 14 j).resolve_left (by omega)).trans (e10_12.2.2.2.2.2.1 j))⟩⟩⟩)⟩⟩
set_option maxHeartbeats 8000000 in
set_option maxRecDepth 100000 in
theorem d_X6_readFun_a_p {ws0 : List Cond} {tb : String → gz_T} (hws : gc_Ws ws0) (htb : gc_tbs tb) (sh : gz_Sh) (ro : Nat → Nat) (I : gr_I) (J : gr_J) (A : gc_A) (hI : gc_Inv ro I) (β : Int → Int) (η : Int) (p9 : Int) (Ir : gr_I) (Jr : gr_J)  (hb : gc_Base sh ro A)  (x0 : gc_AT β η p9 23 I J) (x1 : 0 ≤ p9) (x2 : I 1 18 = 0) (x3 : I 4 1 = Ir 0 3) (x4 : gs_NA (I 4 1) (J 5) (Jr 3)) (x5 : I 2 1 = Ir 0 2) (x6 : gs_NA (I 2 1) (J 3) (Jr 2)) (KLT_I : gc_LT I) (KTK_I : gc_TK I) : ∃ r hₚ, gz_Ev ws0 tb 5 (yX6_readFun, cX6_readFun, 7, (some .boolean)) [.inr (.inr (some 39))] sh (gc_h sh I J A) r sh hₚ 0 0 ∧ (∃ (Iₚ : gr_I) (Jₚ : gr_J), hₚ = gc_h sh Iₚ Jₚ A ∧ gc_Inv ro Iₚ ∧ (∀ q j : Nat, ((q = 39 ∧ j = 3) ∨ (q = 39 ∧ j = 4) ∨ (q = 23 ∧ j = 5) ∨ (q = 23 ∧ j = 6) ∨ (q = 23 ∧ j = 7) ∨ (q = 23 ∧ j = 8) ∨ (q = 39 ∧ j = 7) ∨ q = 41 ∨ (q = 4 ∧ j = 1) ∨ (q = 11 ∧ (I 4 1 ≤ (j : Int))) ∨ (q = 12 ∧ (I 4 1 ≤ (j : Int))) ∨ (q = 13 ∧ (4 * I 4 1 ≤ (j : Int))) ∨ q = 14) ∨ Iₚ q j = I q j) ∧ (∀ q j : Nat, ((q = 23 ∧ j = 9) ∨ q = 5) ∨ Jₚ q j = J q j) ∧ gc_LT Iₚ ∧ gc_TK Iₚ ∧ (∃ z : Int, r = some (.inl z) ∧ 0 ≤ z ∧ z ≤ 1 ∧ (Iₚ 23 1 = I 23 1) ∧ (I 23 5 ≤ Iₚ 23 5) ∧ (I 4 1 ≤ Iₚ 4 1) ∧ (z = 1 ∨ Iₚ 4 1 = I 4 1) ∧ (gs_Or z (0 ≤ (gs_fun β η Ir Jr (I 39 5) p9) ∧ gc_AT β η (gs_fun β η Ir Jr (I 39 5) p9) 23 Iₚ Jₚ ∧ gs_Cfun (gs_M β η p9) (gs_cn β η 5 (gs_need β η 58 (gs_X β η p9))) (fun i => gs_lk Ir Jr 2 2 (gs_rn β η (gs_nx β η i (gs_need β η 58 (gs_X β η p9))))) (gs_lk Ir Jr 2 2 (gs_rn β η (gs_need β η 62 (gs_fl β η Ir Jr 4 (gs_need β η 58 (gs_X β η p9)))))) I J Iₚ Jₚ ∧ gs_Cfc (gs_prc β η (gs_X β η (gs_need β η 62 (gs_fl β η Ir Jr 4 (gs_need β η 58 (gs_X β η p9)))))) I Iₚ) ((gs_fun β η Ir Jr (I 39 5) p9) < 0 ∧ Iₚ 39 4 = -1 - (gs_fun β η Ir Jr (I 39 5) p9) ∧ Iₚ 4 1 = I 4 1 ∧ ∀ j, Jₚ 5 j = J 5 j ∧ Iₚ 11 j = I 11 j ∧ Iₚ 12 j = I 12 j ∧ Iₚ 13 j = I 13 j ∧ Iₚ 14 j = I 14 j)))) := by
  have FI : ∀ q j : Nat, ((q = 39 ∧ j = 3) ∨ (q = 39 ∧ j = 4) ∨ (q = 23 ∧ j = 5) ∨ (q = 23 ∧ j = 6) ∨ (q = 23 ∧ j = 7) ∨ (q = 23 ∧ j = 8) ∨ (q = 39 ∧ j = 7) ∨ q = 41 ∨ (q = 4 ∧ j = 1) ∨ (q = 11 ∧ (I 4 1 ≤ (j : Int))) ∨ (q = 12 ∧ (I 4 1 ≤ (j : Int))) ∨ (q = 13 ∧ (4 * I 4 1 ≤ (j : Int))) ∨ q = 14) ∨ I q j = I q j := fun _ _ => Or.inr rfl
  have FJ : ∀ q j : Nat, ((q = 23 ∧ j = 9) ∨ q = 5) ∨ J q j = J q j := fun _ _ => Or.inr rfl
  have A_1_0 : A 1 0 = some 2 := gc_bA_1_0 hb
  have A_1_1 : A 1 1 = some 4 := gc_bA_1_1 hb
  have A_1_6 : A 1 6 = some 11 := gc_bA_1_6 hb
  have A_1_7 : A 1 7 = some 12 := gc_bA_1_7 hb
  have A_1_8 : A 1 8 = some 13 := gc_bA_1_8 hb
  have A_1_9 : A 1 9 = some 14 := gc_bA_1_9 hb
  have A_39_0 : A 39 0 = some 1 := gc_bA_39_0 hb
  have A_39_1 : A 39 1 = some 23 := gc_bA_39_1 hb
  have A_39_10 : A 39 10 = some 41 := gc_bA_39_10 hb
  have B_1 : 1 < 1000000 := by decide
  have B_11 : 11 < 1000000 := by decide
  have B_12 : 12 < 1000000 := by decide
  have B_13 : 13 < 1000000 := by decide
  have B_14 : 14 < 1000000 := by decide
  have B_2 : 2 < 1000000 := by decide
  have B_23 : 23 < 1000000 := by decide
  have B_39 : 39 < 1000000 := by decide
  have B_4 : 4 < 1000000 := by decide
  have B_41 : 41 < 1000000 := by decide
  have R_1 : ro 1 = 22 := gc_bR_1 hb
  have R_11 : ro 11 = 25 := gc_bR_11 hb
  have R_12 : ro 12 = 26 := gc_bR_12 hb
  have R_13 : ro 13 = 25 := gc_bR_13 hb
  have R_14 : ro 14 = 27 := gc_bR_14 hb
  have R_2 : ro 2 = 9 := gc_bR_2 hb
  have R_23 : ro 23 = 3 := gc_bR_23 hb
  have R_39 : ro 39 = 42 := gc_bR_39 hb
  have R_4 : ro 4 = 11 := gc_bR_4 hb
  have R_41 : ro 41 = 0 := gc_bR_41 hb
  have S_1 : sh[1]? = some (false, 8, 21) := gc_bS_1 hb
  have S_11 : sh[11]? = some (true, 1, 96) := gc_bS_11 hb
  have S_12 : sh[12]? = some (true, 1, 96) := gc_bS_12 hb
  have S_13 : sh[13]? = some (true, 1, 384) := gc_bS_13 hb
  have S_14 : sh[14]? = some (true, 1, 96) := gc_bS_14 hb
  have S_2 : sh[2]? = some (false, 4, 2) := gc_bS_2 hb
  have S_23 : sh[23]? = some (false, 9, 10) := gc_bS_23 hb
  have S_39 : sh[39]? = some (false, 6, 19) := gc_bS_39 hb
  have S_4 : sh[4]? = some (false, 4, 2) := gc_bS_4 hb
  have S_41 : sh[41]? = some (true, 1, 25) := gc_bS_41 hb
  have hD : gv_D (gc_E6 ws0 tb 4 (yX6_readFun, cX6_readFun, 7, (some .boolean)) kX6_readFun) := gq_of oX6_readFun
  refine gc_ev6 (d := 4) (l := kX6_readFun) (Po := fun r hₚ => (∃ (Iₚ : gr_I) (Jₚ : gr_J), hₚ = gc_h sh Iₚ Jₚ A ∧ gc_Inv ro Iₚ ∧ (∀ q j : Nat, ((q = 39 ∧ j = 3) ∨ (q = 39 ∧ j = 4) ∨ (q = 23 ∧ j = 5) ∨ (q = 23 ∧ j = 6) ∨ (q = 23 ∧ j = 7) ∨ (q = 23 ∧ j = 8) ∨ (q = 39 ∧ j = 7) ∨ q = 41 ∨ (q = 4 ∧ j = 1) ∨ (q = 11 ∧ (I 4 1 ≤ (j : Int))) ∨ (q = 12 ∧ (I 4 1 ≤ (j : Int))) ∨ (q = 13 ∧ (4 * I 4 1 ≤ (j : Int))) ∨ q = 14) ∨ Iₚ q j = I q j) ∧ (∀ q j : Nat, ((q = 23 ∧ j = 9) ∨ q = 5) ∨ Jₚ q j = J q j) ∧ gc_LT Iₚ ∧ gc_TK Iₚ ∧ (∃ z : Int, r = some (.inl z) ∧ 0 ≤ z ∧ z ≤ 1 ∧ (Iₚ 23 1 = I 23 1) ∧ (I 23 5 ≤ Iₚ 23 5) ∧ (I 4 1 ≤ Iₚ 4 1) ∧ (z = 1 ∨ Iₚ 4 1 = I 4 1) ∧ (gs_Or z (0 ≤ (gs_fun β η Ir Jr (I 39 5) p9) ∧ gc_AT β η (gs_fun β η Ir Jr (I 39 5) p9) 23 Iₚ Jₚ ∧ gs_Cfun (gs_M β η p9) (gs_cn β η 5 (gs_need β η 58 (gs_X β η p9))) (fun i => gs_lk Ir Jr 2 2 (gs_rn β η (gs_nx β η i (gs_need β η 58 (gs_X β η p9))))) (gs_lk Ir Jr 2 2 (gs_rn β η (gs_need β η 62 (gs_fl β η Ir Jr 4 (gs_need β η 58 (gs_X β η p9)))))) I J Iₚ Jₚ ∧ gs_Cfc (gs_prc β η (gs_X β η (gs_need β η 62 (gs_fl β η Ir Jr 4 (gs_need β η 58 (gs_X β η p9)))))) I Iₚ) ((gs_fun β η Ir Jr (I 39 5) p9) < 0 ∧ Iₚ 39 4 = -1 - (gs_fun β η Ir Jr (I 39 5) p9) ∧ Iₚ 4 1 = I 4 1 ∧ ∀ j, Jₚ 5 j = J 5 j ∧ Iₚ 11 j = I 11 j ∧ Iₚ 12 j = I 12 j ∧ Iₚ 13 j = I 13 j ∧ Iₚ 14 j = I 14 j))))) htb rfl (Nat.le_of_ble_eq_true rfl) ?_
  have t1 := gc_TK_mo KTK_I
  have f2 := (gc_b_3_1 hI R_23)
  have f3 := (gc_b_3_5 hI R_23)
  have f4 := (gc_b_3_6 hI R_23)
  have f5 := (gc_b_3_7 hI R_23)
  have f6 := (gc_b_11_1 hI R_4)
  have f7 := (gc_b_9_1 hI R_2)
  have f8 := (gc_b_42_5 hI R_39)
  have f9 := (gc_b_22_18 hI R_1)
  have tAT := gc_AT_l x0
  have L53 : ∀ (n9 : Nat) (I10 : gr_I) (J11 : gr_J) (v1_12 : Int64) (v3_12 : Int) (v5_12 : Int) (p_12 : Int), (5 - v3_12).toNat < n9 → gc_Inv ro I10 → (∀ q j : Nat, ((q = 39 ∧ j = 3) ∨ (q = 39 ∧ j = 4) ∨ (q = 23 ∧ j = 5) ∨ (q = 23 ∧ j = 6) ∨ (q = 23 ∧ j = 7) ∨ (q = 23 ∧ j = 8) ∨ (q = 39 ∧ j = 7) ∨ q = 41 ∨ (q = 4 ∧ j = 1) ∨ (q = 11 ∧ (I 4 1 ≤ (j : Int))) ∨ (q = 12 ∧ (I 4 1 ≤ (j : Int))) ∨ (q = 13 ∧ (4 * I 4 1 ≤ (j : Int))) ∨ q = 14) ∨ I10 q j = I q j) → (∀ q j : Nat, ((q = 23 ∧ j = 9) ∨ q = 5) ∨ J11 q j = J q j) → gc_LT I10 → gc_TK I10 → ((0 ≤ v3_12 ∧ v3_12 ≤ 4) ∧ (0 ≤ v5_12 ∧ v5_12 ≤ 5) ∧ (0 ≤ p_12) ∧ (I10 23 1 = I 23 1) ∧ (I 23 5 ≤ I10 23 5) ∧ (I10 4 1 = I 4 1)) → (gc_rg 41 I10 v3_12 0 31) → (gc_AT β η p_12 23 I10 J11) → (v1_12 = gs_M β η p9) → ((gs_fun β η Ir Jr (I 39 5) p9) = gs_fun1 β η Ir Jr (I 39 5) (gs_fl β η Ir Jr 4 (gs_need β η 58 (gs_X β η p9)))) → (gs_fl β η Ir Jr 4 (gs_need β η 58 (gs_X β η p9)) = gs_fl β η Ir Jr (Int.toNat (4 - v3_12)) p_12) → (gs_cn β η 5 (gs_need β η 58 (gs_X β η p9)) = v3_12 + gs_cn β η (Int.toNat (5 - v3_12)) p_12) → (p_12 = gs_nx β η (Int.toNat v3_12) (gs_need β η 58 (gs_X β η p9))) → (∀ i : Nat, i < Int.toNat v3_12 → I10 41 i = gs_lk Ir Jr 2 2 (gs_rn β η (gs_nx β η i (gs_need β η 58 (gs_X β η p9))))) → (v5_12 = v3_12) → ((I10 4 1 = I 4 1) ∧ (∀ k, J11 5 k = J 5 k) ∧ (∀ k, I10 11 k = I 11 k) ∧ (∀ k, I10 12 k = I 12 k) ∧ (∀ k, I10 13 k = I 13 k) ∧ (∀ k, I10 14 k = I 14 k) ∧ (I10 39 5 = I 39 5) ∧ (I10 1 18 = I 1 18)) → gv_X (gc_E6 ws0 tb 4 (yX6_readFun, cX6_readFun, 7, (some .boolean)) kX6_readFun) (gv_Q cX6_readFun (some .boolean) sh (fun r hₚ => (∃ (Iₚ : gr_I) (Jₚ : gr_J), hₚ = gc_h sh Iₚ Jₚ A ∧ gc_Inv ro Iₚ ∧ (∀ q j : Nat, ((q = 39 ∧ j = 3) ∨ (q = 39 ∧ j = 4) ∨ (q = 23 ∧ j = 5) ∨ (q = 23 ∧ j = 6) ∨ (q = 23 ∧ j = 7) ∨ (q = 23 ∧ j = 8) ∨ (q = 39 ∧ j = 7) ∨ q = 41 ∨ (q = 4 ∧ j = 1) ∨ (q = 11 ∧ (I 4 1 ≤ (j : Int))) ∨ (q = 12 ∧ (I 4 1 ≤ (j : Int))) ∨ (q = 13 ∧ (4 * I 4 1 ≤ (j : Int))) ∨ q = 14) ∨ Iₚ q j = I q j) ∧ (∀ q j : Nat, ((q = 23 ∧ j = 9) ∨ q = 5) ∨ Jₚ q j = J q j) ∧ gc_LT Iₚ ∧ gc_TK Iₚ ∧ (∃ z : Int, r = some (.inl z) ∧ 0 ≤ z ∧ z ≤ 1 ∧ (Iₚ 23 1 = I 23 1) ∧ (I 23 5 ≤ Iₚ 23 5) ∧ (I 4 1 ≤ Iₚ 4 1) ∧ (z = 1 ∨ Iₚ 4 1 = I 4 1) ∧ (gs_Or z (0 ≤ (gs_fun β η Ir Jr (I 39 5) p9) ∧ gc_AT β η (gs_fun β η Ir Jr (I 39 5) p9) 23 Iₚ Jₚ ∧ gs_Cfun (gs_M β η p9) (gs_cn β η 5 (gs_need β η 58 (gs_X β η p9))) (fun i => gs_lk Ir Jr 2 2 (gs_rn β η (gs_nx β η i (gs_need β η 58 (gs_X β η p9))))) (gs_lk Ir Jr 2 2 (gs_rn β η (gs_need β η 62 (gs_fl β η Ir Jr 4 (gs_need β η 58 (gs_X β η p9)))))) I J Iₚ Jₚ ∧ gs_Cfc (gs_prc β η (gs_X β η (gs_need β η 62 (gs_fl β η Ir Jr 4 (gs_need β η 58 (gs_X β η p9)))))) I Iₚ) ((gs_fun β η Ir Jr (I 39 5) p9) < 0 ∧ Iₚ 39 4 = -1 - (gs_fun β η Ir Jr (I 39 5) p9) ∧ Iₚ 4 1 = I 4 1 ∧ ∀ j, Jₚ 5 j = J 5 j ∧ Iₚ 11 j = I 11 j ∧ Iₚ 12 j = I 12 j ∧ Iₚ 13 j = I 13 j ∧ Iₚ 14 j = I 14 j)))))) (53, [(0, .inr (.inr (some 39))), (1, .inr (.inl v1_12)), (3, .inl v3_12), (4, .inr (.inr (some 41))), (5, .inl v5_12)], [], sh, gc_h sh I10 J11 A) := d_X6_readFun_a_p_L53 (ws0 := ws0) (tb := tb) hws htb sh ro I J A hI β η p9 Ir Jr hb x0 x1 x2 x3 x4 x5 x6 KLT_I KTK_I
  refine gv_run 2 true hD (pcₚ := 2) (lvₚ := [(0, .inr (.inr (some 39)))]) (stₚ := [.inr (.inr (some 39)), .inr (.inr (some 39))]) (hₚ := gc_h sh I J A) (C := ((True ∧ True) ∧ True)) rfl ⟨⟨trivial, trivial⟩, trivial⟩ ?_
  refine gv_get hD rfl rfl S_39 ⟨by decide, B_39⟩ (gc_hA S_39 rfl A_39_0) ?_
  show gv_X _ _ (5, [(0, .inr (.inr (some 39)))], [.inr (.inr (some 1)), .inr (.inr (some 39))], sh, gc_h sh I J A)
  refine gv_get hD rfl rfl S_1 ⟨by decide, B_1⟩ (gc_hA S_1 rfl A_1_1) ?_
  show gv_X _ _ (8, [(0, .inr (.inr (some 39)))], [.inr (.inr (some 4)), .inr (.inr (some 39))], sh, gc_h sh I J A)
  obtain ⟨r250, h250, E250, P250⟩ := d_X6_needNew_p (ws0 := ws0) (tb := tb) hws htb sh ro I J A hI  96 11 β η p9 4 hb (gc_b4 hb)   x0 (by omega) 
  obtain ⟨I251, J252, rfl, hI251, g250, k250, ⟨z250, rfl, q250⟩⟩ := P250
  have FI251 := gc_frc (W := fun q j => (q = 39 ∧ j = 3) ∨ (q = 39 ∧ j = 4) ∨ (q = 23 ∧ j = 5) ∨ (q = 23 ∧ j = 6) ∨ (q = 23 ∧ j = 7) ∨ (q = 23 ∧ j = 8) ∨ (q = 39 ∧ j = 7) ∨ q = 41 ∨ (q = 4 ∧ j = 1) ∨ (q = 11 ∧ (I 4 1 ≤ (j : Int))) ∨ (q = 12 ∧ (I 4 1 ≤ (j : Int))) ∨ (q = 13 ∧ (4 * I 4 1 ≤ (j : Int))) ∨ q = 14) (V := fun q j => (q = 39 ∧ j = 3) ∨ (q = 39 ∧ j = 4)) FI (fun q j h => (h.elim (fun h => (Or.inl h)) (fun h => (Or.inr (Or.inl h))))) g250
  have t253 := (g250 23 1).resolve_left (fun h => h.elim (fun h => absurd h.2 (by decide)) (fun h => absurd h.2 (by decide)))
  have t254 := (g250 23 5).resolve_left (fun h => h.elim (fun h => absurd h.2 (by decide)) (fun h => absurd h.2 (by decide)))
  have t255 := (g250 23 6).resolve_left (fun h => h.elim (fun h => absurd h.2 (by decide)) (fun h => absurd h.2 (by decide)))
  have t256 := (g250 23 7).resolve_left (fun h => h.elim (fun h => absurd h.2 (by decide)) (fun h => absurd h.2 (by decide)))
  have t257 := (g250 4 1).resolve_left (fun h => h.elim (fun h => absurd h.2 (by decide)) (fun h => absurd h.2 (by decide)))
  have t258 := (g250 2 1).resolve_left (fun h => h.elim (fun h => absurd h.2 (by decide)) (fun h => absurd h.2 (by decide)))
  have t259 := (g250 39 5).resolve_left (fun h => h.elim (fun h => absurd h.2 (by decide)) (fun h => absurd h.2 (by decide)))
  have t260 := (g250 1 18).resolve_left (fun h => h.elim (fun h => absurd h.2 (by decide)) (fun h => absurd h.2 (by decide)))
  obtain rfl : J = J252 := funext fun q => funext fun j => ((k250 q j).resolve_left id).symm
  have KLT_I251 := gc_LT_fr KLT_I ((g250 23 5).resolve_left (fun h => h.elim (fun h => absurd h.2 (by decide)) (fun h => absurd h.2 (by decide)))) ((g250 23 6).resolve_left (fun h => h.elim (fun h => absurd h.2 (by decide)) (fun h => absurd h.2 (by decide)))) ((g250 23 7).resolve_left (fun h => h.elim (fun h => absurd h.2 (by decide)) (fun h => absurd h.2 (by decide)))) (fun k => (g250 24 k).resolve_left (fun h => h.elim (fun h => absurd h.1 (by decide)) (fun h => absurd h.1 (by decide))))
  have KTK_I251 := gc_TK_fr KTK_I ((g250 23 1).resolve_left (fun h => h.elim (fun h => absurd h.2 (by decide)) (fun h => absurd h.2 (by decide)))) ((g250 23 5).resolve_left (fun h => h.elim (fun h => absurd h.2 (by decide)) (fun h => absurd h.2 (by decide)))) ((g250 23 6).resolve_left (fun h => h.elim (fun h => absurd h.2 (by decide)) (fun h => absurd h.2 (by decide)))) ((g250 23 7).resolve_left (fun h => h.elim (fun h => absurd h.2 (by decide)) (fun h => absurd h.2 (by decide))))
  have A261 := gc_AT_I x0 ((g250 23 1).resolve_left (fun h => h.elim (fun h => absurd h.2 (by decide)) (fun h => absurd h.2 (by decide)))) ((g250 23 5).resolve_left (fun h => h.elim (fun h => absurd h.2 (by decide)) (fun h => absurd h.2 (by decide)))) ((g250 23 6).resolve_left (fun h => h.elim (fun h => absurd h.2 (by decide)) (fun h => absurd h.2 (by decide)))) ((g250 23 7).resolve_left (fun h => h.elim (fun h => absurd h.2 (by decide)) (fun h => absurd h.2 (by decide)))) ((g250 23 8).resolve_left (fun h => h.elim (fun h => absurd h.2 (by decide)) (fun h => absurd h.2 (by decide)))) (fun k => (g250 24 k).resolve_left (fun h => h.elim (fun h => absurd h.1 (by decide)) (fun h => absurd h.1 (by decide))))
  have t262 := gc_AT_l A261
  refine gv_callV hD rfl (As := [.inr (.inr (some 4))]) (st := []) rfl B_39 S_39 rfl (gc_lV6 hws rfl) (Nat.le_of_ble_eq_true rfl) (gz_Ev_mono (d := 3) (by decide) E250) ?_
  show gv_X _ _ (11, [(0, .inr (.inr (some 39)))], [.inl z250], sh, gc_h sh I251 J A)
  refine gv_if_ne (t := 16) hD rfl rfl ⟨by omega, by omega⟩ (fun c263 => ?_) (fun c263 => ?_)
  · show gv_X _ _ (16, [(0, .inr (.inr (some 39)))], [], sh, gc_h sh I251 J A)
    have u264 := gs_or1 q250.2.2.2 (by omega)
    have L250 : gs_T β η p9 = 1 → gc_fd (J (4 + 1)) (gs_M β η p9) (Int.toNat (I 4 1)) = gs_lk Ir Jr 3 3 (gs_rn β η p9) := (fun h => by exact gs_NA_lk x4 x3 h)
    have t265 := L250 (by omega)
    have tM := gc_AT_m A261 (by omega)
    refine gv_run 1 true hD (pcₚ := 17) (lvₚ := [(0, .inr (.inr (some 39)))]) (stₚ := [.inr (.inr (some 39))]) (hₚ := gc_h sh I251 J A) (C := (True ∧ True)) rfl ⟨trivial, trivial⟩ ?_
    refine gv_get hD rfl rfl S_39 ⟨by decide, B_39⟩ (gc_hA S_39 rfl A_39_1) ?_
    show gv_X _ _ (20, [(0, .inr (.inr (some 39)))], [.inr (.inr (some 23))], sh, gc_h sh I251 J A)
    refine gv_get hD rfl rfl S_23 ⟨by decide, B_23⟩ (gc_hJ S_23 rfl) ?_
    show gv_X _ _ (23, [(0, .inr (.inr (some 39)))], [.inr (.inl (J 23 9))], sh, gc_h sh I251 J A)
    refine gv_run 2 true hD (pcₚ := 25) (lvₚ := [(1, .inr (.inl (J 23 9))), (0, .inr (.inr (some 39)))]) (stₚ := [.inr (.inr (some 39))]) (hₚ := gc_h sh I251 J A) (C := ((True ∧ True) ∧ True)) rfl ⟨⟨trivial, trivial⟩, trivial⟩ ?_
    refine gv_get hD rfl rfl S_39 ⟨by decide, B_39⟩ (gc_hA S_39 rfl A_39_1) ?_
    show gv_X _ _ (28, [(1, .inr (.inl (J 23 9))), (0, .inr (.inr (some 39)))], [.inr (.inr (some 23))], sh, gc_h sh I251 J A)
    have t267 := gc_TK_nx KTK_I251 (by omega)
    obtain ⟨r266, h266, E266, P266⟩ := d_X9_advance_p (ws0 := ws0) (tb := tb) hws htb sh ro I251 J A hI251 23 β η  (gc_b23 hb)    (by omega) A261.1.1 A261.1.2 
    obtain ⟨I268, J269, rfl, hI268, g266, k266, ⟨rfl, V266_0, V266_1, V266_2, V266_3, V266_4, q266⟩⟩ := P266
    have FI268 := gc_frc (W := fun q j => (q = 39 ∧ j = 3) ∨ (q = 39 ∧ j = 4) ∨ (q = 23 ∧ j = 5) ∨ (q = 23 ∧ j = 6) ∨ (q = 23 ∧ j = 7) ∨ (q = 23 ∧ j = 8) ∨ (q = 39 ∧ j = 7) ∨ q = 41 ∨ (q = 4 ∧ j = 1) ∨ (q = 11 ∧ (I 4 1 ≤ (j : Int))) ∨ (q = 12 ∧ (I 4 1 ≤ (j : Int))) ∨ (q = 13 ∧ (4 * I 4 1 ≤ (j : Int))) ∨ q = 14) (V := fun q j => (q = 23 ∧ j = 5) ∨ (q = 23 ∧ j = 6) ∨ (q = 23 ∧ j = 7) ∨ (q = 23 ∧ j = 8)) FI251 (fun q j h => (h.elim (fun h => (Or.inr (Or.inr (Or.inl h)))) (fun h => (h.elim (fun h => (Or.inr (Or.inr (Or.inr (Or.inl h))))) (fun h => (h.elim (fun h => (Or.inr (Or.inr (Or.inr (Or.inr (Or.inl h)))))) (fun h => (Or.inr (Or.inr (Or.inr (Or.inr (Or.inr (Or.inl h))))))))))))) g266
    have FJ269 := gc_frc (W := fun q j => (q = 23 ∧ j = 9) ∨ q = 5) (V := fun q j => (q = 23 ∧ j = 9)) FJ (fun q j h => (Or.inl h)) k266
    have t270 := (g266 23 1).resolve_left (fun h => h.elim (fun h => absurd h.2 (by decide)) (fun h => h.elim (fun h => absurd h.2 (by decide)) (fun h => h.elim (fun h => absurd h.2 (by decide)) (fun h => absurd h.2 (by decide)))))
    have t271 := (g266 4 1).resolve_left (fun h => h.elim (fun h => absurd h.2 (by decide)) (fun h => h.elim (fun h => absurd h.2 (by decide)) (fun h => h.elim (fun h => absurd h.2 (by decide)) (fun h => absurd h.2 (by decide)))))
    have t272 := (g266 2 1).resolve_left (fun h => h.elim (fun h => absurd h.2 (by decide)) (fun h => h.elim (fun h => absurd h.2 (by decide)) (fun h => h.elim (fun h => absurd h.2 (by decide)) (fun h => absurd h.2 (by decide)))))
    have t273 := (g266 39 5).resolve_left (fun h => h.elim (fun h => absurd h.1 (by decide)) (fun h => h.elim (fun h => absurd h.2 (by decide)) (fun h => h.elim (fun h => absurd h.2 (by decide)) (fun h => absurd h.2 (by decide)))))
    have t274 := (g266 1 18).resolve_left (fun h => h.elim (fun h => absurd h.2 (by decide)) (fun h => h.elim (fun h => absurd h.2 (by decide)) (fun h => h.elim (fun h => absurd h.2 (by decide)) (fun h => absurd h.2 (by decide)))))
    have f275 := (gc_b_3_5 hI268 R_23)
    have f276 := (gc_b_3_6 hI268 R_23)
    have f277 := (gc_b_3_7 hI268 R_23)
    have KLT_I268 : gc_LT I268 := q266.2.2.1
    have KTK_I268 : gc_TK I268 := And.intro V266_0 (And.intro V266_1 (And.intro V266_2 (And.intro V266_3 V266_4)))
    have t278 := gc_TK_mo KTK_I268
    clear V266_0 V266_1 V266_2 V266_3 V266_4
    have A279 := gc_AT_nx A261 q266.2.2.2
    have t280 := gc_AT_l A279
    refine gv_callV hD rfl (As := []) (st := []) rfl B_23 S_23 rfl (gc_lV6 hws rfl) (Nat.le_of_ble_eq_true rfl) (gz_Ev_mono (d := 2) (by decide) E266) ?_
    show gv_X _ _ (31, [(1, .inr (.inl (J 23 9))), (0, .inr (.inr (some 39)))], [], sh, gc_h sh I268 J269 A)
    refine gv_run 2 true hD (pcₚ := 34) (lvₚ := [(1, .inr (.inl (J 23 9))), (0, .inr (.inr (some 39)))]) (stₚ := [.inl 58, .inr (.inr (some 39))]) (hₚ := gc_h sh I268 J269 A) (C := ((True ∧ True) ∧ True)) rfl ⟨⟨trivial, trivial⟩, trivial⟩ ?_
    obtain ⟨r281, h281, E281, P281⟩ := d_X6_take_p (ws0 := ws0) (tb := tb) hws htb sh ro I268 J269 A hI268  β η (gs_X β η p9) 58 hb   ⟨by omega, by omega⟩ (by omega) A279 (by omega) KLT_I268 KTK_I268
    obtain ⟨I282, J283, rfl, hI282, g281, k281, KLT_I282, KTK_I282, ⟨z281, rfl, q281⟩⟩ := P281
    have FI282 := gc_frc (W := fun q j => (q = 39 ∧ j = 3) ∨ (q = 39 ∧ j = 4) ∨ (q = 23 ∧ j = 5) ∨ (q = 23 ∧ j = 6) ∨ (q = 23 ∧ j = 7) ∨ (q = 23 ∧ j = 8) ∨ (q = 39 ∧ j = 7) ∨ q = 41 ∨ (q = 4 ∧ j = 1) ∨ (q = 11 ∧ (I 4 1 ≤ (j : Int))) ∨ (q = 12 ∧ (I 4 1 ≤ (j : Int))) ∨ (q = 13 ∧ (4 * I 4 1 ≤ (j : Int))) ∨ q = 14) (V := fun q j => (q = 39 ∧ j = 3) ∨ (q = 39 ∧ j = 4) ∨ (q = 23 ∧ j = 5) ∨ (q = 23 ∧ j = 6) ∨ (q = 23 ∧ j = 7) ∨ (q = 23 ∧ j = 8)) FI268 (fun q j h => (h.elim (fun h => (Or.inl h)) (fun h => (h.elim (fun h => (Or.inr (Or.inl h))) (fun h => (h.elim (fun h => (Or.inr (Or.inr (Or.inl h)))) (fun h => (h.elim (fun h => (Or.inr (Or.inr (Or.inr (Or.inl h))))) (fun h => (h.elim (fun h => (Or.inr (Or.inr (Or.inr (Or.inr (Or.inl h)))))) (fun h => (Or.inr (Or.inr (Or.inr (Or.inr (Or.inr (Or.inl h))))))))))))))))) g281
    have FJ283 := gc_frc (W := fun q j => (q = 23 ∧ j = 9) ∨ q = 5) (V := fun q j => (q = 23 ∧ j = 9)) FJ269 (fun q j h => (Or.inl h)) k281
    have t284 := (g281 23 1).resolve_left (fun h => h.elim (fun h => absurd h.2 (by decide)) (fun h => h.elim (fun h => absurd h.2 (by decide)) (fun h => h.elim (fun h => absurd h.2 (by decide)) (fun h => h.elim (fun h => absurd h.2 (by decide)) (fun h => h.elim (fun h => absurd h.2 (by decide)) (fun h => absurd h.2 (by decide)))))))
    have t285 := (g281 4 1).resolve_left (fun h => h.elim (fun h => absurd h.2 (by decide)) (fun h => h.elim (fun h => absurd h.2 (by decide)) (fun h => h.elim (fun h => absurd h.2 (by decide)) (fun h => h.elim (fun h => absurd h.2 (by decide)) (fun h => h.elim (fun h => absurd h.2 (by decide)) (fun h => absurd h.2 (by decide)))))))
    have t286 := (g281 2 1).resolve_left (fun h => h.elim (fun h => absurd h.2 (by decide)) (fun h => h.elim (fun h => absurd h.2 (by decide)) (fun h => h.elim (fun h => absurd h.2 (by decide)) (fun h => h.elim (fun h => absurd h.2 (by decide)) (fun h => h.elim (fun h => absurd h.2 (by decide)) (fun h => absurd h.2 (by decide)))))))
    have t287 := (g281 39 5).resolve_left (fun h => h.elim (fun h => absurd h.2 (by decide)) (fun h => h.elim (fun h => absurd h.2 (by decide)) (fun h => h.elim (fun h => absurd h.1 (by decide)) (fun h => h.elim (fun h => absurd h.2 (by decide)) (fun h => h.elim (fun h => absurd h.2 (by decide)) (fun h => absurd h.2 (by decide)))))))
    have t288 := (g281 1 18).resolve_left (fun h => h.elim (fun h => absurd h.2 (by decide)) (fun h => h.elim (fun h => absurd h.2 (by decide)) (fun h => h.elim (fun h => absurd h.2 (by decide)) (fun h => h.elim (fun h => absurd h.2 (by decide)) (fun h => h.elim (fun h => absurd h.2 (by decide)) (fun h => absurd h.2 (by decide)))))))
    have f289 := (gc_b_3_5 hI282 R_23)
    have f290 := (gc_b_3_6 hI282 R_23)
    have f291 := (gc_b_3_7 hI282 R_23)
    have t292 := gc_TK_mo KTK_I282
    refine gv_callV hD rfl (As := [.inl 58]) (st := []) rfl B_39 S_39 rfl (gc_lV6 hws rfl) (Nat.le_of_ble_eq_true rfl) (gz_Ev_mono (d := 3) (by decide) E281) ?_
    show gv_X _ _ (37, [(1, .inr (.inl (J 23 9))), (0, .inr (.inr (some 39)))], [.inl z281], sh, gc_h sh I282 J283 A)
    refine gv_if_ne (t := 42) hD rfl rfl ⟨by omega, by omega⟩ (fun c293 => ?_) (fun c293 => ?_)
    · show gv_X _ _ (42, [(1, .inr (.inl (J 23 9))), (0, .inr (.inr (some 39)))], [], sh, gc_h sh I282 J283 A)
      obtain ⟨u294, A294⟩ := gs_or1 q281.2.2.2.2.2 (by omega)
      have t295 := gc_AT_l A294
      refine gv_run 3 true hD (pcₚ := 45) (lvₚ := [(3, .inl 0), (1, .inr (.inl (J 23 9))), (0, .inr (.inr (some 39)))]) (stₚ := [.inr (.inr (some 39))]) (hₚ := gc_h sh I282 J283 A) (C := (((True ∧ True) ∧ True) ∧ True)) rfl ⟨⟨⟨trivial, trivial⟩, trivial⟩, trivial⟩ ?_
      refine gv_get hD rfl rfl S_39 ⟨by decide, B_39⟩ (gc_hA S_39 rfl A_39_10) ?_
      show gv_X _ _ (48, [(3, .inl 0), (1, .inr (.inl (J 23 9))), (0, .inr (.inr (some 39)))], [.inr (.inr (some 41))], sh, gc_h sh I282 J283 A)
      refine gv_run 3 true hD (pcₚ := 53) (lvₚ := [(5, .inl 0), (4, .inr (.inr (some 41))), (3, .inl 0), (1, .inr (.inl (J 23 9))), (0, .inr (.inr (some 39)))]) (stₚ := []) (hₚ := gc_h sh I282 J283 A) (C := (((True ∧ True) ∧ True) ∧ True)) rfl ⟨⟨⟨trivial, trivial⟩, trivial⟩, trivial⟩ ?_
      refine gv_pick [4, 3, 2, 1, 0] rfl ?_
      exact L53 _ I282 J283 (J 23 9) 0 0 ((gs_need β η 58 (gs_X β η p9))) (Nat.lt_succ_self _) hI282 FI282 FJ283 KLT_I282 KTK_I282 (by omega) (fun k a b => by omega) A294 tM (by unfold gs_fun gs_fun0; (repeat first | rw [if_pos (by omega)] | rw [if_neg (by omega)])) rfl (by show _ = (0 : Int) + gs_cn β η 5 (gs_need β η 58 (gs_X β η p9)); omega) rfl (fun i h => absurd h (by omega)) (by omega) ⟨(((((g281 4 1).resolve_left (by omega)).trans ((g266 4 1).resolve_left (by omega))).trans ((g250 4 1).resolve_left (by omega)))), (fun k => (((k281 5 k).resolve_left (by omega)).trans ((k266 5 k).resolve_left (by omega)))), (fun k => ((((g281 11 k).resolve_left (by omega)).trans ((g266 11 k).resolve_left (by omega))).trans ((g250 11 k).resolve_left (by omega)))), (fun k => ((((g281 12 k).resolve_left (by omega)).trans ((g266 12 k).resolve_left (by omega))).trans ((g250 12 k).resolve_left (by omega)))), (fun k => ((((g281 13 k).resolve_left (by omega)).trans ((g266 13 k).resolve_left (by omega))).trans ((g250 13 k).resolve_left (by omega)))), (fun k => ((((g281 14 k).resolve_left (by omega)).trans ((g266 14 k).resolve_left (by omega))).trans ((g250 14 k).resolve_left (by omega)))), (((((g281 39 5).resolve_left (by omega)).trans ((g266 39 5).resolve_left (by omega))).trans ((g250 39 5).resolve_left (by omega)))), (((((g281 1 18).resolve_left (by omega)).trans ((g266 1 18).resolve_left (by omega))).trans ((g250 1 18).resolve_left (by omega))))⟩
    · show gv_X _ _ (40, [(1, .inr (.inl (J 23 9))), (0, .inr (.inr (some 39)))], [], sh, gc_h sh I282 J283 A)
      obtain ⟨u296, u296_⟩ := gs_or0 q281.2.2.2.2.2 (by omega)
      refine gv_run 1 true hD (pcₚ := 41) (lvₚ := [(1, .inr (.inl (J 23 9))), (0, .inr (.inr (some 39)))]) (stₚ := [.inl 0]) (hₚ := gc_h sh I282 J283 A) (C := (True ∧ True)) rfl ⟨trivial, trivial⟩ ?_
      exact gv_zret hD rfl (by omega) ⟨I282, J283, rfl, hI282, FI282, FJ283, KLT_I282, KTK_I282, ⟨_, rfl, by omega, by omega, by omega, by omega, by omega, by omega, (Or.inr ⟨by omega, by first | (exfalso; omega) | (unfold gs_fun gs_fun0; (repeat first | rw [if_pos (by omega)] | rw [if_neg (by omega)]); exact ⟨by omega, by omega, ((((g281 4 1).resolve_left (by omega)).trans ((g266 4 1).resolve_left (by omega))).trans ((g250 4 1).resolve_left (by omega))), fun j => ⟨(((k281 5 j).resolve_left (by omega)).trans ((k266 5 j).resolve_left (by omega))), ((((g281 11 j).resolve_left (by omega)).trans ((g266 11 j).resolve_left (by omega))).trans ((g250 11 j).resolve_left (by omega))), ((((g281 12 j).resolve_left (by omega)).trans ((g266 12 j).resolve_left (by omega))).trans ((g250 12 j).resolve_left (by omega))), ((((g281 13 j).resolve_left (by omega)).trans ((g266 13 j).resolve_left (by omega))).trans ((g250 13 j).resolve_left (by omega))), ((((g281 14 j).resolve_left (by omega)).trans ((g266 14 j).resolve_left (by omega))).trans ((g250 14 j).resolve_left (by omega)))⟩⟩)⟩)⟩⟩
  · show gv_X _ _ (14, [(0, .inr (.inr (some 39)))], [], sh, gc_h sh I251 J A)
    have u297 := gs_or0 q250.2.2.2 (by omega)
    have L250 : gs_T β η p9 = 1 → gc_fd (J (4 + 1)) (gs_M β η p9) (Int.toNat (I 4 1)) = gs_lk Ir Jr 3 3 (gs_rn β η p9) := (fun h => by exact gs_NA_lk x4 x3 h)
    refine gv_run 1 true hD (pcₚ := 15) (lvₚ := [(0, .inr (.inr (some 39)))]) (stₚ := [.inl 0]) (hₚ := gc_h sh I251 J A) (C := (True ∧ True)) rfl ⟨trivial, trivial⟩ ?_
    exact gv_zret hD rfl (by omega) ⟨I251, J, rfl, hI251, FI251, FJ, KLT_I251, KTK_I251, ⟨_, rfl, by omega, by omega, by omega, by omega, by omega, by omega, (Or.inr ⟨by omega, by first | (exfalso; omega) | (unfold gs_fun gs_fun0; by_cases c9 : gs_T β η p9 = 1; (have h9 := L250 c9; (repeat first | rw [if_pos (by omega)] | rw [if_neg (by omega)]); exact ⟨by omega, by omega, ((g250 4 1).resolve_left (by omega)), fun j => ⟨rfl, ((g250 11 j).resolve_left (by omega)), ((g250 12 j).resolve_left (by omega)), ((g250 13 j).resolve_left (by omega)), ((g250 14 j).resolve_left (by omega))⟩⟩); (repeat first | rw [if_pos (by omega)] | rw [if_neg (by omega)]); exact ⟨by omega, by omega, ((g250 4 1).resolve_left (by omega)), fun j => ⟨rfl, ((g250 11 j).resolve_left (by omega)), ((g250 12 j).resolve_left (by omega)), ((g250 13 j).resolve_left (by omega)), ((g250 14 j).resolve_left (by omega))⟩⟩)⟩)⟩⟩
