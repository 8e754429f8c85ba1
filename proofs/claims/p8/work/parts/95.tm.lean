/-! PARITY, the class's side: PATTERN -/
theorem gs_rv_0 {β : Int → Int} {N : Int} {I : gr_I} {J : gr_J} {p : Int} : gs_rv β N I J 0 p = (gs_ws β N I J 1002 0 p).1 := if_pos rfl
/-- a PATTERN has come -/
def gs_Cpt (V : List Int) (t : Nat) (I I' : gr_I) : Prop := I' (t + 13) (Int.toNat (I (t + 11) 1)) = ((V.length : Nat) : Int) ∧ (∀ j, ¬ j = Int.toNat (I (t + 11) 1) → I' (t + 13) j = I (t + 13) j) ∧ (∀ j : Nat, j < V.length → gs_PX (I' (t + 14) (72 * Int.toNat (I (t + 11) 1) + 3 * j)) (V.getD j 0)) ∧ ∀ j : Nat, j < 72 * Int.toNat (I (t + 11) 1) → I' (t + 14) j = I (t + 14) j
set_option maxHeartbeats 8000000 in
theorem gs_Cpt_mk {V : List Int} {t k1 o o0 n : Nat} {I I1 I2 I3 : gr_I} (h : gs_CL I1 V) (e1 : k1 = Int.toNat (I (t + 11) 1)) (p1 : ∀ b j, ¬ (b = t + 13 ∧ j = k1) → I2 b j = I1 b j) (q1 : I2 (t + 13) k1 = I1 39 8) (p2 : ∀ b j, ¬ (b = t + 14 ∧ o ≤ j ∧ j < o + n) → I3 b j = I2 b j) (q2 : ∀ j, j < n → I3 (t + 14) (o + j) = I2 40 (o0 + j)) (ho : o = 72 * k1 ∧ o0 = 0) (hn : n = Int.toNat (3 * I1 39 8)) (h13 : ∀ j, I1 (t + 13) j = I (t + 13) j) (h14 : ∀ j, I1 (t + 14) j = I (t + 14) j) (ht : 144 ≤ t) : gs_Cpt V t I I3 := by
  obtain ⟨rfl, rfl⟩ := ho
  subst e1
  have l := h.1
  refine ⟨(p2 (t + 13) _ (by exact gz_m 0 (by omega))).trans (q1.trans l.symm), fun j hj => ((p2 (t + 13) j (by exact gz_m 1 (by omega))).trans (p1 (t + 13) j (by exact gz_m 2 (by omega)))).trans (h13 j), fun j hj => ?_, fun j hj => ((p2 (t + 14) j (by exact gz_m 3 (by omega))).trans (p1 (t + 14) j (by exact gz_m 4 (by omega)))).trans (h14 j)⟩
  rw [q2 (3 * j) (by exact gz_m 5 (by omega)), show 0 + 3 * j = 3 * j from by exact gz_m 6 (by omega), p1 40 (3 * j) (by exact gz_m 7 (by omega))]
  exact h.2 j hj
theorem gc_PU_af {p n : Nat} {w : Int64} {I I1 I2 : gr_I} {J J1 : gr_J} (h : gc_PU p n w I J I1 J1) (e : I2 p 1 = I1 p 1) : gc_PU p n w I J I2 J1 := fun hh => ⟨e.trans (h hh).1, (h hh).2⟩
/-- cells with FORMS one by one -/
theorem gs_qc_c {β : Int → Int} {N : Int} {I : gr_I} {J : gr_J} {m : Nat} {V : List fo_e} {p : Int} (h : 0 ≤ gs_cell β N I J p) : gs_qc β N I J (m + 1) V p = (if gs_T β N (gs_cell β N I J p) = 44 then gs_qc β N I J m (gs_inc V ((gs_ws β N I J 1002 0 p).2, gs_fxc β N (gs_fpl β N I J p))) (gs_X β N (gs_cell β N I J p)) else (gs_cell β N I J p, gs_inc V ((gs_ws β N I J 1002 0 p).2, gs_fxc β N (gs_fpl β N I J p)))) := by
  show gs_qcA β N (gs_qc β N I J m) V (gs_ws β N I J 1002 0 p) = _
  have e := gs_rv_0 (β := β) (N := N) (I := I) (J := J) (p := p)
  by_cases c1 : (gs_ws β N I J 1002 0 p).1 < 0
  · have : gs_cell β N I J p = gs_rv β N I J 0 p := if_pos (by rw [e]; exact c1)
    exact gz_m 0 (by omega)
  · by_cases c2 : gs_need β N 61 (gs_ws β N I J 1002 0 p).1 < 0
    · have : gs_cell β N I J p = gs_need β N 61 (gs_rv β N I J 0 p) := (if_neg (by rw [e]; exact c1)).trans (if_pos (by rw [e]; exact c2))
      rw [e] at this
      exact gz_m 1 (by omega)
    · have f : gs_cell β N I J p = gs_pf β N (gs_need β N 61 (gs_ws β N I J 1002 0 p).1) := by
        rw [← e]
        exact (if_neg (by rw [e]; exact c1)).trans (if_neg (by rw [e]; exact c2))
      have g : gs_fpl β N I J p = gs_need β N 61 (gs_ws β N I J 1002 0 p).1 := by
        unfold gs_fpl
        rw [e]
      rw [f] at h ⊢
      rw [g]
      exact (if_neg c1).trans ((if_neg c2).trans (if_neg (by exact gz_m 2 (by omega))))
theorem gs_qc_x {β : Int → Int} {N : Int} {I : gr_I} {J : gr_J} {m : Nat} {V : List fo_e} {p : Int} (h : gs_cell β N I J p < 0) : gs_qc β N I J (m + 1) V p = (gs_cell β N I J p, []) := by
  show gs_qcA β N (gs_qc β N I J m) V (gs_ws β N I J 1002 0 p) = _
  have e := gs_rv_0 (β := β) (N := N) (I := I) (J := J) (p := p)
  by_cases c1 : (gs_ws β N I J 1002 0 p).1 < 0
  · have f : gs_cell β N I J p = (gs_ws β N I J 1002 0 p).1 := (if_pos (by rw [e]; exact c1)).trans e
    rw [f]
    exact if_pos c1
  · by_cases c2 : gs_need β N 61 (gs_ws β N I J 1002 0 p).1 < 0
    · have f : gs_cell β N I J p = gs_need β N 61 (gs_ws β N I J 1002 0 p).1 := by
        rw [← e]
        exact (if_neg (by rw [e]; exact c1)).trans (if_pos (by rw [e]; exact c2))
      rw [f]
      exact (if_neg c1).trans (if_pos c2)
    · have f : gs_cell β N I J p = gs_pf β N (gs_need β N 61 (gs_ws β N I J 1002 0 p).1) := by
        rw [← e]
        exact (if_neg (by rw [e]; exact c1)).trans (if_neg (by rw [e]; exact c2))
      rw [f] at h ⊢
      exact (if_neg c1).trans ((if_neg c2).trans (if_pos h))
theorem gs_inc_len {V : List fo_e} {x : fo_e} : V.length ≤ (gs_inc V x).length := by
  induction V with
  | nil => exact Nat.zero_le _
  | cons y V ih =>
    show V.length + 1 ≤ (if y.1 = x.1 then x :: V else y :: gs_inc V x).length
    split
    · exact Nat.le_refl _
    · exact Nat.succ_le_succ ih
set_option maxHeartbeats 8000000 in
set_option maxRecDepth 100000 in
theorem d_X6_readPattern_p_L55 {ws0 : List Cond} {tb : String → gz_T} (hws : gc_Ws ws0) (htb : gc_tbs tb) (sh : gz_Sh) (ro : Nat → Nat) (I : gr_I) (J : gr_J) (A : gc_A) (hI : gc_Inv ro I) (t : Nat) (B : Int) (β : Int → Int) (η : Int) (p9 : Int) (Ir : gr_I) (Jr : gr_J)  (hb : gc_Base sh ro A) (h_t : gc_isTongue sh ro A t) (G_t : 144 ≤ t)  (x0 : B ≤ 1280 ∧ I 1 17 + I 23 1 ≤ B + I 23 5) (x1 : gc_AT β η p9 23 I J) (x2 : 0 ≤ p9) (x3 : I 1 18 = 0) (x4 : I (t + 11) 1 = Ir 17 (Int.toNat (Ir 0 6))) (x5 : gs_NA (I (t + 11) 1) (J (t + 12)) (fun k => Jr 23 (Int.toNat (24 * Ir 0 6 + (k : Int))))) (x6 : I (t + 3) 1 = Ir 14 (Int.toNat (Ir 0 6))) (x7 : gs_NA (I (t + 3) 1) (J (t + 4)) (fun k => Jr 21 (Int.toNat (48 * Ir 0 6 + (k : Int))))) (x8 : gs_VR Ir I t) (x9 : gs_PT Ir I t) (x10 : gs_PM Ir I t) (x11 : I 39 2 = (t : Int)) (KLT_I : gc_LT I) (KTK_I : gc_TK I) : ∀ (I15 : gr_I) (J16 : gr_J) (v1_17 : Int64) (p_17 : Int), gc_Inv ro I15 → (∀ q j : Nat, ((q = 39 ∧ j = 3) ∨ (q = 39 ∧ j = 4) ∨ (q = 23 ∧ j = 5) ∨ (q = 23 ∧ j = 6) ∨ (q = 23 ∧ j = 7) ∨ (q = 23 ∧ j = 8) ∨ (q = 1 ∧ j = 17) ∨ (q = 1 ∧ j = 18) ∨ q = 20 ∨ (q = 39 ∧ j = 6) ∨ (q = 39 ∧ j = 8) ∨ q = 40 ∨ (q = 41 ∧ j = 0) ∨ (q = 41 ∧ j = 1) ∨ (q = 41 ∧ j = 2) ∨ q = (t + 13) ∨ q = (t + 14) ∨ (q = (t + 11) ∧ j = 1)) ∨ I15 q j = I q j) → (∀ q j : Nat, ((q = 23 ∧ j = 9) ∨ q = (t + 12)) ∨ J16 q j = J q j) → gc_LT I15 → gc_TK I15 → gc_PKs I I15 → ((0 ≤ p_17) ∧ (I15 1 18 = 0) ∧ (I15 23 1 = I 23 1) ∧ (I 23 5 ≤ I15 23 5) ∧ (B ≤ 1280 ∧ I15 1 17 + I15 23 1 ≤ B + I15 23 5) ∧ (I15 39 2 = (t : Int))) → (gc_AT β η p_17 23 I15 J16) → (v1_17 = gs_M β η p9) → (∃ V : List fo_e, gs_qtw β η Ir Jr p9 = gs_qt2 β η Ir Jr V p_17 ∧ gs_CM I15 V) → ((I15 (t + 11) 1 = I (t + 11) 1) ∧ (∀ k, J16 (t + 12) k = J (t + 12) k) ∧ (∀ k, I15 (t + 13) k = I (t + 13) k) ∧ (∀ k, I15 (t + 14) k = I (t + 14) k) ∧ (I15 39 5 = I 39 5)) → gv_X (gc_E6 ws0 tb 4 (yX6_readPattern, cX6_readPattern, 6, (some .boolean)) kX6_readPattern) (gv_Q cX6_readPattern (some .boolean) sh (fun r h' => (∃ (I' : gr_I) (J' : gr_J), h' = gc_h sh I' J' A ∧ gc_Inv ro I' ∧ (∀ q j : Nat, ((q = 39 ∧ j = 3) ∨ (q = 39 ∧ j = 4) ∨ (q = 23 ∧ j = 5) ∨ (q = 23 ∧ j = 6) ∨ (q = 23 ∧ j = 7) ∨ (q = 23 ∧ j = 8) ∨ (q = 1 ∧ j = 17) ∨ (q = 1 ∧ j = 18) ∨ q = 20 ∨ (q = 39 ∧ j = 6) ∨ (q = 39 ∧ j = 8) ∨ q = 40 ∨ (q = 41 ∧ j = 0) ∨ (q = 41 ∧ j = 1) ∨ (q = 41 ∧ j = 2) ∨ q = (t + 13) ∨ q = (t + 14) ∨ (q = (t + 11) ∧ j = 1)) ∨ I' q j = I q j) ∧ (∀ q j : Nat, ((q = 23 ∧ j = 9) ∨ q = (t + 12)) ∨ J' q j = J q j) ∧ gc_LT I' ∧ gc_TK I' ∧ (∃ z : Int, r = some (.inl z) ∧ 0 ≤ z ∧ z ≤ 1 ∧ (I' 23 1 = I 23 1) ∧ (I 23 5 ≤ I' 23 5) ∧ (B ≤ 1280 ∧ I' 1 17 + I' 23 1 ≤ B + I' 23 5) ∧ (gc_PKs I I') ∧ (gs_Or z (0 ≤ (gs_pat β η Ir Jr (I 39 5) p9) ∧ gc_AT β η (gs_pat β η Ir Jr (I 39 5) p9) 23 I' J' ∧ gc_PU (t + 11) 24 (gs_M β η p9) I J I' J' ∧ (I (t + 11) 1 < 24 ∧ I' 1 18 = 0) ∧ gs_Cpt (gs_ptw β η Ir Jr p9).2 t I I' ∧ gs_Cct (gs_qtw β η Ir Jr p9).2 t I I') ((gs_pat β η Ir Jr (I 39 5) p9) < 0 ∧ I' 39 4 = -1 - (gs_pat β η Ir Jr (I 39 5) p9) ∧ I' (t + 11) 1 = I (t + 11) 1 ∧ ∀ j, J' (t + 12) j = J (t + 12) j ∧ I' (t + 13) j = I (t + 13) j ∧ I' (t + 14) j = I (t + 14) j)))))) (55, [(0, .inr (.inr (some 39))), (1, .inr (.inl v1_17))], [], sh, gc_h sh I15 J16 A) := by
  have FI : ∀ q j : Nat, ((q = 39 ∧ j = 3) ∨ (q = 39 ∧ j = 4) ∨ (q = 23 ∧ j = 5) ∨ (q = 23 ∧ j = 6) ∨ (q = 23 ∧ j = 7) ∨ (q = 23 ∧ j = 8) ∨ (q = 1 ∧ j = 17) ∨ (q = 1 ∧ j = 18) ∨ q = 20 ∨ (q = 39 ∧ j = 6) ∨ (q = 39 ∧ j = 8) ∨ q = 40 ∨ (q = 41 ∧ j = 0) ∨ (q = 41 ∧ j = 1) ∨ (q = 41 ∧ j = 2) ∨ q = (t + 13) ∨ q = (t + 14) ∨ (q = (t + 11) ∧ j = 1)) ∨ I q j = I q j := fun _ _ => Or.inr rfl
  have FJ : ∀ q j : Nat, ((q = 23 ∧ j = 9) ∨ q = (t + 12)) ∨ J q j = J q j := fun _ _ => Or.inr rfl
  have A_39_1 : A 39 1 = some 23 := gc_bA_39_1 hb
  have A_39_9 : A 39 9 = some 40 := gc_bA_39_9 hb
  have B_23 : 23 < 1000000 := by decide
  have B_39 : 39 < 1000000 := by decide
  have B_40 : 40 < 1000000 := by decide
  have R_1 : ro 1 = 22 := gc_bR_1 hb
  have R_23 : ro 23 = 3 := gc_bR_23 hb
  have R_39 : ro 39 = 42 := gc_bR_39 hb
  have R_40 : ro 40 = 39 := gc_bR_40 hb
  have R_41 : ro 41 = 0 := gc_bR_41 hb
  have S_23 : sh[23]? = some (false, 9, 10) := gc_bS_23 hb
  have S_39 : sh[39]? = some (false, 6, 19) := gc_bS_39 hb
  have S_40 : sh[40]? = some (true, 1, 72) := gc_bS_40 hb
  obtain ⟨S_t, R_t, B_t, A_t_0, h_t_1, A_t_1, h_t_3, A_t_2, S_t_5, R_t_5, B_t_5, A_t_3, S_t_6, R_t_6, B_t_6, A_t_4, h_t_7, A_t_5, S_t_9, R_t_9, B_t_9, A_t_7, S_t_10, R_t_10, B_t_10, A_t_8, h_t_11, A_t_9, S_t_13, R_t_13, B_t_13, A_t_10, S_t_14, R_t_14, B_t_14, A_t_12, S_t_15, R_t_15, B_t_15, A_t_14, S_t_16, R_t_16, B_t_16, A_t_15, h_t_17⟩ := id h_t
  obtain ⟨S_t_1, R_t_1, B_t_1, A_t_1_0, S_t_1_1, R_t_1_1, B_t_1_1, Q0_t_1, Q1_t_1, Q2_t_1⟩ := id h_t_1
  obtain ⟨S_t_3, R_t_3, B_t_3, A_t_3_0, S_t_3_1, R_t_3_1, B_t_3_1, Q0_t_3, Q1_t_3, Q2_t_3⟩ := id h_t_3
  obtain ⟨S_t_7, R_t_7, B_t_7, A_t_7_0, S_t_7_1, R_t_7_1, B_t_7_1, Q0_t_7, Q1_t_7, Q2_t_7⟩ := id h_t_7
  obtain ⟨S_t_11, R_t_11, B_t_11, A_t_11_0, S_t_11_1, R_t_11_1, B_t_11_1, Q0_t_11, Q1_t_11, Q2_t_11⟩ := id h_t_11
  obtain ⟨S_t_17, R_t_17, B_t_17, A_t_17_0, S_20, R_20, B_20, A_t_17_1, S_t_17_1, R_t_17_1, B_t_17_1, A_t_17_2, S_t_17_2, R_t_17_2, B_t_17_2, A_t_17_3, S_t_17_3, R_t_17_3, B_t_17_3, A_t_17_4, S_t_17_4, R_t_17_4, B_t_17_4, A_t_17_5, S_t_17_5, R_t_17_5, B_t_17_5, S_t_17_6, R_t_17_6, B_t_17_6, S_t_17_7, R_t_17_7, B_t_17_7⟩ := id h_t_17
  have hD : gv_D (gc_E6 ws0 tb 4 (yX6_readPattern, cX6_readPattern, 6, (some .boolean)) kX6_readPattern) := gq_of oX6_readPattern
  have N_23__t_11 : ¬ (23 = (t + 11)) := by exact gz_m 0 (by omega)
  have N_41__t_11 : ¬ (41 = (t + 11)) := by exact gz_m 1 (by omega)
  have N_24__t_11 : ¬ (24 = (t + 11)) := by exact gz_m 2 (by omega)
  have N_20__t_11 : ¬ (20 = (t + 11)) := by exact gz_m 3 (by omega)
  have N_23__t_12 : ¬ (23 = (t + 12)) := by exact gz_m 4 (by omega)
  have N_23__t_13 : ¬ (23 = (t + 13)) := by exact gz_m 5 (by omega)
  have N_1__t_13 : ¬ (1 = (t + 13)) := by exact gz_m 6 (by omega)
  have N_t_11__t_13 : ¬ ((t + 11) = (t + 13)) := by exact gz_m 7 (by omega)
  have N_41__t_13 : ¬ (41 = (t + 13)) := by exact gz_m 8 (by omega)
  have N_39__t_13 : ¬ (39 = (t + 13)) := by exact gz_m 9 (by omega)
  have N_24__t_13 : ¬ (24 = (t + 13)) := by exact gz_m 10 (by omega)
  have N_20__t_13 : ¬ (20 = (t + 13)) := by exact gz_m 11 (by omega)
  have N_23__t_14 : ¬ (23 = (t + 14)) := by exact gz_m 12 (by omega)
  have N_24__t_14 : ¬ (24 = (t + 14)) := by exact gz_m 13 (by omega)
  have N_1__t_14 : ¬ (1 = (t + 14)) := by exact gz_m 14 (by omega)
  have N_20__t_14 : ¬ (20 = (t + 14)) := by exact gz_m 15 (by omega)
  have N_t_11__t_14 : ¬ ((t + 11) = (t + 14)) := by exact gz_m 16 (by omega)
  have N_41__t_14 : ¬ (41 = (t + 14)) := by exact gz_m 17 (by omega)
  have N_39__t_14 : ¬ (39 = (t + 14)) := by exact gz_m 18 (by omega)
  have N_t_11__20 : ¬ ((t + 11) = 20) := by exact gz_m 19 (by omega)
  have N_t_11__41 : ¬ ((t + 11) = 41) := by exact gz_m 20 (by omega)
  have N_t_11__40 : ¬ ((t + 11) = 40) := by exact gz_m 21 (by omega)
  have KPK_I : gc_PKs I I := gc_PKs_rf
  have t1 := gc_TK_mo KTK_I
  have f2 := (gc_b_3_1 hI R_23)
  have f3 := (gc_b_3_5 hI R_23)
  have f4 := (gc_b_3_6 hI R_23)
  have f5 := (gc_b_3_7 hI R_23)
  have f6 := (gc_b_22_17 hI R_1)
  have f7 := (show 0 ≤ I (t + 11) 1 ∧ I (t + 11) 1 ≤ 24 from gc_in2 hI R_t_11 rfl rfl rfl)
  have f8 := (gc_b_0_0 hI R_41)
  have f9 := (gc_b_0_1 hI R_41)
  have f10 := (gc_b_0_2 hI R_41)
  have f11 := (gc_b_42_5 hI R_39)
  have f12 := (gc_b_22_18 hI R_1)
  have f13 := (gc_b_42_8 hI R_39)
  have f14 := (gc_b_42_2 hI R_39)
  have tAT := gc_AT_l x1
  intro I15 J16 v1_17 p_17 hI15 FI15 FJ16 KLT_I15 KTK_I15 KPK_I15 m_17 e1_17 e2_17 e3_17 e4_17
  obtain ⟨e0_17, e5_17, e6_17, e7_17, e8_17, e9_17⟩ := m_17
  have t18 := gc_TK_mo KTK_I15
  have f19 := (gc_b_3_1 hI15 R_23)
  have f20 := (gc_b_3_5 hI15 R_23)
  have f21 := (gc_b_3_6 hI15 R_23)
  have f22 := (gc_b_3_7 hI15 R_23)
  have f23 := (gc_b_22_17 hI15 R_1)
  have f24 := (show 0 ≤ I15 (t + 11) 1 ∧ I15 (t + 11) 1 ≤ 24 from gc_in2 hI15 R_t_11 rfl rfl rfl)
  have f25 := (gc_b_0_0 hI15 R_41)
  have f26 := (gc_b_0_1 hI15 R_41)
  have f27 := (gc_b_0_2 hI15 R_41)
  have f28 := (gc_b_42_5 hI15 R_39)
  have f29 := (gc_b_22_18 hI15 R_1)
  have f30 := (gc_b_42_8 hI15 R_39)
  have f31 := (gc_b_42_2 hI15 R_39)
  have t32 := gc_AT_l e1_17
  have L74 : ∀ (n9 : Nat) (I33 : gr_I) (J34 : gr_J) (v3_35 : Int) (v4_35 : Int) (v5_35 : Int) (p_35 : Int), (1001 - v5_35).toNat < n9 → gc_Inv ro I33 → (∀ q j : Nat, ((q = 39 ∧ j = 3) ∨ (q = 39 ∧ j = 4) ∨ (q = 23 ∧ j = 5) ∨ (q = 23 ∧ j = 6) ∨ (q = 23 ∧ j = 7) ∨ (q = 23 ∧ j = 8) ∨ (q = 1 ∧ j = 17) ∨ (q = 1 ∧ j = 18) ∨ q = 20 ∨ (q = 39 ∧ j = 6) ∨ (q = 39 ∧ j = 8) ∨ q = 40 ∨ (q = 41 ∧ j = 0) ∨ (q = 41 ∧ j = 1) ∨ (q = 41 ∧ j = 2) ∨ q = (t + 13) ∨ q = (t + 14) ∨ (q = (t + 11) ∧ j = 1)) ∨ I33 q j = I q j) → (∀ q j : Nat, ((q = 23 ∧ j = 9) ∨ q = (t + 12)) ∨ J34 q j = J q j) → gc_LT I33 → gc_TK I33 → gc_PKs I I33 → ((0 ≤ v3_35 ∧ v3_35 ≤ 1) ∧ (0 ≤ v4_35 ∧ v4_35 ≤ 1) ∧ (0 ≤ v5_35 ∧ v5_35 ≤ 1000) ∧ (0 ≤ p_35) ∧ ((v4_35 = 1 ∧ 2 * v5_35 ≤ I33 23 5) ∨ v4_35 = 0) ∧ (I33 1 18 = 0) ∧ (I33 23 1 = I 23 1) ∧ (I 23 5 ≤ I33 23 5) ∧ (B ≤ 1280 ∧ I33 1 17 + I33 23 1 ≤ B + I33 23 5) ∧ (I33 39 2 = (t : Int))) → (gc_AT β η p_35 23 I33 J34) → (v1_17 = gs_M β η p9) → (∃ V : List fo_e, gs_qtw β η Ir Jr p9 = (if v4_35 = 0 then (p_35, V) else gs_qc β η Ir Jr (Int.toNat (1002 - v5_35)) V p_35) ∧ ((v3_35 = 0 ∧ gs_CM I33 V) ∨ (v3_35 = 1 ∧ 25 ≤ ((V.length : Nat) : Int)))) → ((I33 (t + 11) 1 = I (t + 11) 1) ∧ (∀ k, J34 (t + 12) k = J (t + 12) k) ∧ (∀ k, I33 (t + 13) k = I (t + 13) k) ∧ (∀ k, I33 (t + 14) k = I (t + 14) k) ∧ (I33 39 5 = I 39 5)) → gv_X (gc_E6 ws0 tb 4 (yX6_readPattern, cX6_readPattern, 6, (some .boolean)) kX6_readPattern) (gv_Q cX6_readPattern (some .boolean) sh (fun r h' => (∃ (I' : gr_I) (J' : gr_J), h' = gc_h sh I' J' A ∧ gc_Inv ro I' ∧ (∀ q j : Nat, ((q = 39 ∧ j = 3) ∨ (q = 39 ∧ j = 4) ∨ (q = 23 ∧ j = 5) ∨ (q = 23 ∧ j = 6) ∨ (q = 23 ∧ j = 7) ∨ (q = 23 ∧ j = 8) ∨ (q = 1 ∧ j = 17) ∨ (q = 1 ∧ j = 18) ∨ q = 20 ∨ (q = 39 ∧ j = 6) ∨ (q = 39 ∧ j = 8) ∨ q = 40 ∨ (q = 41 ∧ j = 0) ∨ (q = 41 ∧ j = 1) ∨ (q = 41 ∧ j = 2) ∨ q = (t + 13) ∨ q = (t + 14) ∨ (q = (t + 11) ∧ j = 1)) ∨ I' q j = I q j) ∧ (∀ q j : Nat, ((q = 23 ∧ j = 9) ∨ q = (t + 12)) ∨ J' q j = J q j) ∧ gc_LT I' ∧ gc_TK I' ∧ (∃ z : Int, r = some (.inl z) ∧ 0 ≤ z ∧ z ≤ 1 ∧ (I' 23 1 = I 23 1) ∧ (I 23 5 ≤ I' 23 5) ∧ (B ≤ 1280 ∧ I' 1 17 + I' 23 1 ≤ B + I' 23 5) ∧ (gc_PKs I I') ∧ (gs_Or z (0 ≤ (gs_pat β η Ir Jr (I 39 5) p9) ∧ gc_AT β η (gs_pat β η Ir Jr (I 39 5) p9) 23 I' J' ∧ gc_PU (t + 11) 24 (gs_M β η p9) I J I' J' ∧ (I (t + 11) 1 < 24 ∧ I' 1 18 = 0) ∧ gs_Cpt (gs_ptw β η Ir Jr p9).2 t I I' ∧ gs_Cct (gs_qtw β η Ir Jr p9).2 t I I') ((gs_pat β η Ir Jr (I 39 5) p9) < 0 ∧ I' 39 4 = -1 - (gs_pat β η Ir Jr (I 39 5) p9) ∧ I' (t + 11) 1 = I (t + 11) 1 ∧ ∀ j, J' (t + 12) j = J (t + 12) j ∧ I' (t + 13) j = I (t + 13) j ∧ I' (t + 14) j = I (t + 14) j)))))) (74, [(0, .inr (.inr (some 39))), (1, .inr (.inl v1_17)), (3, .inl v3_35), (4, .inl v4_35), (5, .inl v5_35)], [], sh, gc_h sh I33 J34 A) := by
    intro n9
    induction n9 with
    | zero => intro I33 J34 v3_35 v4_35 v5_35 p_35 hn; exact gz_m 22 (by omega)
    | succ n9 ih74 =>
      intro I33 J34 v3_35 v4_35 v5_35 p_35 hn hI33 FI33 FJ34 KLT_I33 KTK_I33 KPK_I33 m_35 e1_35 e2_35 e3_35 e4_35
      clear e0_17 e5_17 e6_17 e7_17 e8_17 e9_17 t18 f19 f20 f21 f22 f23 f24 f25 f26 f27 f28 f29 f30 f31 t32
      obtain ⟨hv3_35, hv4_35, hv5_35, e0_35, e5_35, e6_35, e7_35, e8_35, e9_35, e10_35⟩ := m_35
      have t36 := gc_TK_mo KTK_I33
      have f37 := (gc_b_3_1 hI33 R_23)
      have f38 := (gc_b_3_5 hI33 R_23)
      have f39 := (gc_b_3_6 hI33 R_23)
      have f40 := (gc_b_3_7 hI33 R_23)
      have f41 := (gc_b_22_17 hI33 R_1)
      have f42 := (show 0 ≤ I33 (t + 11) 1 ∧ I33 (t + 11) 1 ≤ 24 from gc_in2 hI33 R_t_11 rfl rfl rfl)
      have f43 := (gc_b_0_0 hI33 R_41)
      have f44 := (gc_b_0_1 hI33 R_41)
      have f45 := (gc_b_0_2 hI33 R_41)
      have f46 := (gc_b_42_5 hI33 R_39)
      have f47 := (gc_b_22_18 hI33 R_1)
      have f48 := (gc_b_42_8 hI33 R_39)
      have f49 := (gc_b_42_2 hI33 R_39)
      have t50 := gc_AT_l e1_35
      have L150 : ((0 ≤ v3_35 ∧ v3_35 ≤ 1) ∧ (0 ≤ p_35) ∧ (I33 1 18 = 0) ∧ (I33 23 1 = I 23 1) ∧ (I 23 5 ≤ I33 23 5) ∧ (B ≤ 1280 ∧ I33 1 17 + I33 23 1 ≤ B + I33 23 5) ∧ (I33 39 2 = (t : Int))) → (gc_AT β η p_35 23 I33 J34) → (v1_17 = gs_M β η p9) → (∃ V : List fo_e, gs_qtw β η Ir Jr p9 = (p_35, V) ∧ ((v3_35 = 0 ∧ gs_CM I33 V) ∨ (v3_35 = 1 ∧ 25 ≤ ((V.length : Nat) : Int)))) → ((I33 (t + 11) 1 = I (t + 11) 1) ∧ (∀ k, J34 (t + 12) k = J (t + 12) k) ∧ (∀ k, I33 (t + 13) k = I (t + 13) k) ∧ (∀ k, I33 (t + 14) k = I (t + 14) k) ∧ (I33 39 5 = I 39 5)) → gv_X (gc_E6 ws0 tb 4 (yX6_readPattern, cX6_readPattern, 6, (some .boolean)) kX6_readPattern) (gv_Q cX6_readPattern (some .boolean) sh (fun r h' => (∃ (I' : gr_I) (J' : gr_J), h' = gc_h sh I' J' A ∧ gc_Inv ro I' ∧ (∀ q j : Nat, ((q = 39 ∧ j = 3) ∨ (q = 39 ∧ j = 4) ∨ (q = 23 ∧ j = 5) ∨ (q = 23 ∧ j = 6) ∨ (q = 23 ∧ j = 7) ∨ (q = 23 ∧ j = 8) ∨ (q = 1 ∧ j = 17) ∨ (q = 1 ∧ j = 18) ∨ q = 20 ∨ (q = 39 ∧ j = 6) ∨ (q = 39 ∧ j = 8) ∨ q = 40 ∨ (q = 41 ∧ j = 0) ∨ (q = 41 ∧ j = 1) ∨ (q = 41 ∧ j = 2) ∨ q = (t + 13) ∨ q = (t + 14) ∨ (q = (t + 11) ∧ j = 1)) ∨ I' q j = I q j) ∧ (∀ q j : Nat, ((q = 23 ∧ j = 9) ∨ q = (t + 12)) ∨ J' q j = J q j) ∧ gc_LT I' ∧ gc_TK I' ∧ (∃ z : Int, r = some (.inl z) ∧ 0 ≤ z ∧ z ≤ 1 ∧ (I' 23 1 = I 23 1) ∧ (I 23 5 ≤ I' 23 5) ∧ (B ≤ 1280 ∧ I' 1 17 + I' 23 1 ≤ B + I' 23 5) ∧ (gc_PKs I I') ∧ (gs_Or z (0 ≤ (gs_pat β η Ir Jr (I 39 5) p9) ∧ gc_AT β η (gs_pat β η Ir Jr (I 39 5) p9) 23 I' J' ∧ gc_PU (t + 11) 24 (gs_M β η p9) I J I' J' ∧ (I (t + 11) 1 < 24 ∧ I' 1 18 = 0) ∧ gs_Cpt (gs_ptw β η Ir Jr p9).2 t I I' ∧ gs_Cct (gs_qtw β η Ir Jr p9).2 t I I') ((gs_pat β η Ir Jr (I 39 5) p9) < 0 ∧ I' 39 4 = -1 - (gs_pat β η Ir Jr (I 39 5) p9) ∧ I' (t + 11) 1 = I (t + 11) 1 ∧ ∀ j, J' (t + 12) j = J (t + 12) j ∧ I' (t + 13) j = I (t + 13) j ∧ I' (t + 14) j = I (t + 14) j)))))) (150, [(0, .inr (.inr (some 39))), (1, .inr (.inl v1_17)), (3, .inl v3_35)], [], sh, gc_h sh I33 J34 A) := by
        intro m_51 e1_51 e2_51 e3_51 e4_51
        obtain ⟨hv3_35_51, e0_51, e5_51, e6_51, e7_51, e8_51, e9_51⟩ := m_51
        have t52 := gc_TK_mo KTK_I33
        have f53 := (gc_b_3_1 hI33 R_23)
        have f54 := (gc_b_3_5 hI33 R_23)
        have f55 := (gc_b_3_6 hI33 R_23)
        have f56 := (gc_b_3_7 hI33 R_23)
        have f57 := (gc_b_22_17 hI33 R_1)
        have f58 := (show 0 ≤ I33 (t + 11) 1 ∧ I33 (t + 11) 1 ≤ 24 from gc_in2 hI33 R_t_11 rfl rfl rfl)
        have f59 := (gc_b_0_0 hI33 R_41)
        have f60 := (gc_b_0_1 hI33 R_41)
        have f61 := (gc_b_0_2 hI33 R_41)
        have f62 := (gc_b_42_5 hI33 R_39)
        have f63 := (gc_b_22_18 hI33 R_1)
        have f64 := (gc_b_42_8 hI33 R_39)
        have f65 := (gc_b_42_2 hI33 R_39)
        have t66 := gc_AT_l e1_35
        refine gv_run 2 true hD (pc' := 153) (lv' := [(0, .inr (.inr (some 39))), (1, .inr (.inl v1_17)), (3, .inl v3_35)]) (st' := [.inl 125, .inr (.inr (some 39))]) (h' := gc_h sh I33 J34 A) (C := ((True ∧ True) ∧ True)) rfl ⟨⟨trivial, trivial⟩, trivial⟩ ?_
        obtain ⟨r67, h67, E67, P67⟩ := d_X6_take_p (ws0 := ws0) (tb := tb) hws htb sh ro I33 J34 A hI33  β η p_35 125 hb   ⟨by exact gz_m 23 (by omega), by exact gz_m 24 (by omega)⟩ (by exact gz_m 25 (by omega)) e1_35 (by exact gz_m 26 (by omega)) KLT_I33 KTK_I33
        obtain ⟨I68, J69, rfl, hI68, g67, k67, KLT_I68, KTK_I68, ⟨z67, rfl, q67⟩⟩ := P67
        have FI68 := gc_frc (W := fun q j => (q = 39 ∧ j = 3) ∨ (q = 39 ∧ j = 4) ∨ (q = 23 ∧ j = 5) ∨ (q = 23 ∧ j = 6) ∨ (q = 23 ∧ j = 7) ∨ (q = 23 ∧ j = 8) ∨ (q = 1 ∧ j = 17) ∨ (q = 1 ∧ j = 18) ∨ q = 20 ∨ (q = 39 ∧ j = 6) ∨ (q = 39 ∧ j = 8) ∨ q = 40 ∨ (q = 41 ∧ j = 0) ∨ (q = 41 ∧ j = 1) ∨ (q = 41 ∧ j = 2) ∨ q = (t + 13) ∨ q = (t + 14) ∨ (q = (t + 11) ∧ j = 1)) (V := fun q j => (q = 39 ∧ j = 3) ∨ (q = 39 ∧ j = 4) ∨ (q = 23 ∧ j = 5) ∨ (q = 23 ∧ j = 6) ∨ (q = 23 ∧ j = 7) ∨ (q = 23 ∧ j = 8)) FI33 (fun q j h => (h.elim (fun h => (Or.inl h)) (fun h => (h.elim (fun h => (Or.inr (Or.inl h))) (fun h => (h.elim (fun h => (Or.inr (Or.inr (Or.inl h)))) (fun h => (h.elim (fun h => (Or.inr (Or.inr (Or.inr (Or.inl h))))) (fun h => (h.elim (fun h => (Or.inr (Or.inr (Or.inr (Or.inr (Or.inl h)))))) (fun h => (Or.inr (Or.inr (Or.inr (Or.inr (Or.inr (Or.inl h))))))))))))))))) g67
        have FJ69 := gc_frc (W := fun q j => (q = 23 ∧ j = 9) ∨ q = (t + 12)) (V := fun q j => (q = 23 ∧ j = 9)) FJ34 (fun q j h => (Or.inl h)) k67
        have t70 := (g67 23 1).resolve_left (fun h => h.elim (fun h => absurd h.2 (gz_ne rfl)) (fun h => h.elim (fun h => absurd h.2 (gz_ne rfl)) (fun h => h.elim (fun h => absurd h.2 (gz_ne rfl)) (fun h => h.elim (fun h => absurd h.2 (gz_ne rfl)) (fun h => h.elim (fun h => absurd h.2 (gz_ne rfl)) (fun h => absurd h.2 (gz_ne rfl)))))))
        have t71 := (g67 1 17).resolve_left (fun h => h.elim (fun h => absurd h.2 (gz_ne rfl)) (fun h => h.elim (fun h => absurd h.2 (gz_ne rfl)) (fun h => h.elim (fun h => absurd h.2 (gz_ne rfl)) (fun h => h.elim (fun h => absurd h.2 (gz_ne rfl)) (fun h => h.elim (fun h => absurd h.2 (gz_ne rfl)) (fun h => absurd h.2 (gz_ne rfl)))))))
        have t72 := (g67 (t + 11) 1).resolve_left (fun h => h.elim (fun h => absurd h.2 (gz_ne rfl)) (fun h => h.elim (fun h => absurd h.2 (gz_ne rfl)) (fun h => h.elim (fun h => absurd h.2 (gz_ne rfl)) (fun h => h.elim (fun h => absurd h.2 (gz_ne rfl)) (fun h => h.elim (fun h => absurd h.2 (gz_ne rfl)) (fun h => absurd h.2 (gz_ne rfl)))))))
        have t73 := (g67 41 0).resolve_left (fun h => h.elim (fun h => absurd h.2 (gz_ne rfl)) (fun h => h.elim (fun h => absurd h.2 (gz_ne rfl)) (fun h => h.elim (fun h => absurd h.2 (gz_ne rfl)) (fun h => h.elim (fun h => absurd h.2 (gz_ne rfl)) (fun h => h.elim (fun h => absurd h.2 (gz_ne rfl)) (fun h => absurd h.2 (gz_ne rfl)))))))
        have t74 := (g67 41 1).resolve_left (fun h => h.elim (fun h => absurd h.2 (gz_ne rfl)) (fun h => h.elim (fun h => absurd h.2 (gz_ne rfl)) (fun h => h.elim (fun h => absurd h.2 (gz_ne rfl)) (fun h => h.elim (fun h => absurd h.2 (gz_ne rfl)) (fun h => h.elim (fun h => absurd h.2 (gz_ne rfl)) (fun h => absurd h.2 (gz_ne rfl)))))))
        have t75 := (g67 41 2).resolve_left (fun h => h.elim (fun h => absurd h.2 (gz_ne rfl)) (fun h => h.elim (fun h => absurd h.2 (gz_ne rfl)) (fun h => h.elim (fun h => absurd h.2 (gz_ne rfl)) (fun h => h.elim (fun h => absurd h.2 (gz_ne rfl)) (fun h => h.elim (fun h => absurd h.2 (gz_ne rfl)) (fun h => absurd h.2 (gz_ne rfl)))))))
        have t76 := (g67 39 5).resolve_left (fun h => h.elim (fun h => absurd h.2 (gz_ne rfl)) (fun h => h.elim (fun h => absurd h.2 (gz_ne rfl)) (fun h => h.elim (fun h => absurd h.1 (gz_ne rfl)) (fun h => h.elim (fun h => absurd h.2 (gz_ne rfl)) (fun h => h.elim (fun h => absurd h.2 (gz_ne rfl)) (fun h => absurd h.2 (gz_ne rfl)))))))
        have t77 := (g67 1 18).resolve_left (fun h => h.elim (fun h => absurd h.2 (gz_ne rfl)) (fun h => h.elim (fun h => absurd h.2 (gz_ne rfl)) (fun h => h.elim (fun h => absurd h.2 (gz_ne rfl)) (fun h => h.elim (fun h => absurd h.2 (gz_ne rfl)) (fun h => h.elim (fun h => absurd h.2 (gz_ne rfl)) (fun h => absurd h.2 (gz_ne rfl)))))))
        have t78 := (g67 39 8).resolve_left (fun h => h.elim (fun h => absurd h.2 (gz_ne rfl)) (fun h => h.elim (fun h => absurd h.2 (gz_ne rfl)) (fun h => h.elim (fun h => absurd h.2 (gz_ne rfl)) (fun h => h.elim (fun h => absurd h.2 (gz_ne rfl)) (fun h => h.elim (fun h => absurd h.2 (gz_ne rfl)) (fun h => absurd h.1 (gz_ne rfl)))))))
        have t79 := (g67 39 2).resolve_left (fun h => h.elim (fun h => absurd h.2 (gz_ne rfl)) (fun h => h.elim (fun h => absurd h.2 (gz_ne rfl)) (fun h => h.elim (fun h => absurd h.2 (gz_ne rfl)) (fun h => h.elim (fun h => absurd h.2 (gz_ne rfl)) (fun h => h.elim (fun h => absurd h.2 (gz_ne rfl)) (fun h => absurd h.2 (gz_ne rfl)))))))
        have f80 := (gc_b_3_5 hI68 R_23)
        have f81 := (gc_b_3_6 hI68 R_23)
        have f82 := (gc_b_3_7 hI68 R_23)
        have t83 := gc_TK_mo KTK_I68
        have KPK_I68 := gc_PKs_fr KPK_I33 ((g67 1 17).resolve_left (fun h => h.elim (fun h => absurd h.2 (gz_ne rfl)) (fun h => h.elim (fun h => absurd h.2 (gz_ne rfl)) (fun h => h.elim (fun h => absurd h.2 (gz_ne rfl)) (fun h => h.elim (fun h => absurd h.2 (gz_ne rfl)) (fun h => h.elim (fun h => absurd h.2 (gz_ne rfl)) (fun h => absurd h.2 (gz_ne rfl)))))))) (fun k => (g67 20 k).resolve_left (fun h => h.elim (fun h => absurd h.1 (gz_ne rfl)) (fun h => h.elim (fun h => absurd h.1 (gz_ne rfl)) (fun h => h.elim (fun h => absurd h.1 (gz_ne rfl)) (fun h => h.elim (fun h => absurd h.1 (gz_ne rfl)) (fun h => h.elim (fun h => absurd h.1 (gz_ne rfl)) (fun h => absurd h.1 (gz_ne rfl))))))))
        obtain ⟨V9, h9a, h9b⟩ := id e3_51
        have h9c : (v3_35 = 0 ∧ ((V9.length : Nat) : Int) = I33 39 8) ∨ (v3_35 = 1 ∧ 25 ≤ ((V9.length : Nat) : Int)) := h9b.imp (fun h => ⟨h.1, h.2.1⟩) id
        refine gv_callV hD rfl (As := [.inl 125]) (st := []) rfl B_39 S_39 rfl (gc_lV6 hws rfl) (Nat.le_of_ble_eq_true rfl) (gz_Ev_mono (d := 3) (by decide) E67) ?_
        show gv_X _ _ (156, [(0, .inr (.inr (some 39))), (1, .inr (.inl v1_17)), (3, .inl v3_35)], [.inl z67], sh, gc_h sh I68 J69 A)
        refine gv_if_eq (t := 188) hD rfl rfl ⟨by exact gz_m 27 (by omega), by exact gz_m 28 (by omega)⟩ (fun c84 => ?_) (fun c84 => ?_)
        · show gv_X _ _ (188, [(0, .inr (.inr (some 39))), (1, .inr (.inl v1_17)), (3, .inl v3_35)], [], sh, gc_h sh I68 J69 A)
          obtain ⟨u85, u85_⟩ := gs_or0 q67.2.2.2.2.2 (by exact gz_m 29 (by omega))
          refine gv_run 1 true hD (pc' := 189) (lv' := [(0, .inr (.inr (some 39))), (1, .inr (.inl v1_17)), (3, .inl v3_35)]) (st' := [.inl 0]) (h' := gc_h sh I68 J69 A) (C := (True ∧ True)) rfl ⟨trivial, trivial⟩ ?_
          exact gv_zret hD rfl (by exact gz_m 30 (by omega)) ⟨I68, J69, rfl, hI68, FI68, FJ69, KLT_I68, KTK_I68, ⟨_, rfl, by exact gz_m 31 (by omega), by exact gz_m 32 (by omega), by exact gz_m 33 (by omega), by exact gz_m 34 (by omega), by exact gz_m 35 (by omega), KPK_I68, (Or.inr ⟨by exact gz_m 36 (by omega), by first | (exfalso; exact gz_m 37 (by omega)) | (rw [gs_pat_e2 h9a (by exact gz_m 38 (by omega)) rfl]; unfold gs_pt4; (repeat first | rw [if_pos (by exact gz_m 39 (by omega))] | rw [if_neg (by exact gz_m 40 (by omega))]); exact ⟨by exact gz_m 41 (by omega), by exact gz_m 42 (by omega), (((g67 (t + 11) 1).resolve_left (by exact gz_m 43 (by omega))).trans (e4_51.1)), fun j => ⟨(((k67 (t + 12) j).resolve_left (by exact gz_m 44 (by omega))).trans (e4_51.2.1 j)), (((g67 (t + 13) j).resolve_left (by exact gz_m 45 (by omega))).trans (e4_51.2.2.1 j)), (((g67 (t + 14) j).resolve_left (by exact gz_m 46 (by omega))).trans (e4_51.2.2.2.1 j))⟩⟩)⟩)⟩⟩
        · show gv_X _ _ (159, [(0, .inr (.inr (some 39))), (1, .inr (.inl v1_17)), (3, .inl v3_35)], [], sh, gc_h sh I68 J69 A)
          obtain ⟨u86, A86⟩ := gs_or1 q67.2.2.2.2.2 (by exact gz_m 47 (by omega))
          have t87 := gc_AT_l A86
          refine gv_run 2 true hD (pc' := 161) (lv' := [(0, .inr (.inr (some 39))), (1, .inr (.inl v1_17)), (3, .inl v3_35)]) (st' := [.inl v3_35, .inr (.inr (some 39))]) (h' := gc_h sh I68 J69 A) (C := ((True ∧ True) ∧ True)) rfl ⟨⟨trivial, trivial⟩, trivial⟩ ?_
          refine gv_if_ne (t := 177) hD rfl rfl ⟨by exact gz_m 48 (by omega), by exact gz_m 49 (by omega)⟩ (fun c88 => ?_) (fun c88 => ?_)
          · show gv_X _ _ (177, [(0, .inr (.inr (some 39))), (1, .inr (.inl v1_17)), (3, .inl v3_35)], [.inr (.inr (some 39))], sh, gc_h sh I68 J69 A)
            refine gv_run 2 true hD (pc' := 182) (lv' := [(0, .inr (.inr (some 39))), (1, .inr (.inl v1_17)), (3, .inl v3_35)]) (st' := [.inl 1, .inr (.inr (some 39))]) (h' := gc_h sh I68 J69 A) (C := ((True ∧ True) ∧ True)) rfl ⟨⟨trivial, trivial⟩, trivial⟩ ?_
            obtain ⟨r89, h89, E89, P89⟩ := d_X6_closes_p (ws0 := ws0) (tb := tb) hws htb sh ro I68 J69 A hI68  β η (gs_need β η 125 p_35) 1 hb   ⟨by exact gz_m 50 (by omega), by exact gz_m 51 (by omega)⟩ A86 (by exact gz_m 52 (by omega)) (by exact gz_m 53 (by omega)) KLT_I68 KTK_I68
            obtain ⟨I90, J91, rfl, hI90, g89, k89, KLT_I90, KTK_I90, ⟨z89, rfl, q89⟩⟩ := P89
            have FI90 := gc_frc (W := fun q j => (q = 39 ∧ j = 3) ∨ (q = 39 ∧ j = 4) ∨ (q = 23 ∧ j = 5) ∨ (q = 23 ∧ j = 6) ∨ (q = 23 ∧ j = 7) ∨ (q = 23 ∧ j = 8) ∨ (q = 1 ∧ j = 17) ∨ (q = 1 ∧ j = 18) ∨ q = 20 ∨ (q = 39 ∧ j = 6) ∨ (q = 39 ∧ j = 8) ∨ q = 40 ∨ (q = 41 ∧ j = 0) ∨ (q = 41 ∧ j = 1) ∨ (q = 41 ∧ j = 2) ∨ q = (t + 13) ∨ q = (t + 14) ∨ (q = (t + 11) ∧ j = 1)) (V := fun q j => (q = 39 ∧ j = 3) ∨ (q = 39 ∧ j = 4) ∨ (q = 23 ∧ j = 5) ∨ (q = 23 ∧ j = 6) ∨ (q = 23 ∧ j = 7) ∨ (q = 23 ∧ j = 8)) FI68 (fun q j h => (h.elim (fun h => (Or.inl h)) (fun h => (h.elim (fun h => (Or.inr (Or.inl h))) (fun h => (h.elim (fun h => (Or.inr (Or.inr (Or.inl h)))) (fun h => (h.elim (fun h => (Or.inr (Or.inr (Or.inr (Or.inl h))))) (fun h => (h.elim (fun h => (Or.inr (Or.inr (Or.inr (Or.inr (Or.inl h)))))) (fun h => (Or.inr (Or.inr (Or.inr (Or.inr (Or.inr (Or.inl h))))))))))))))))) g89
            have FJ91 := gc_frc (W := fun q j => (q = 23 ∧ j = 9) ∨ q = (t + 12)) (V := fun q j => (q = 23 ∧ j = 9)) FJ69 (fun q j h => (Or.inl h)) k89
            have t92 := (g89 23 1).resolve_left (fun h => h.elim (fun h => absurd h.2 (gz_ne rfl)) (fun h => h.elim (fun h => absurd h.2 (gz_ne rfl)) (fun h => h.elim (fun h => absurd h.2 (gz_ne rfl)) (fun h => h.elim (fun h => absurd h.2 (gz_ne rfl)) (fun h => h.elim (fun h => absurd h.2 (gz_ne rfl)) (fun h => absurd h.2 (gz_ne rfl)))))))
            have t93 := (g89 1 17).resolve_left (fun h => h.elim (fun h => absurd h.2 (gz_ne rfl)) (fun h => h.elim (fun h => absurd h.2 (gz_ne rfl)) (fun h => h.elim (fun h => absurd h.2 (gz_ne rfl)) (fun h => h.elim (fun h => absurd h.2 (gz_ne rfl)) (fun h => h.elim (fun h => absurd h.2 (gz_ne rfl)) (fun h => absurd h.2 (gz_ne rfl)))))))
            have t94 := (g89 (t + 11) 1).resolve_left (fun h => h.elim (fun h => absurd h.2 (gz_ne rfl)) (fun h => h.elim (fun h => absurd h.2 (gz_ne rfl)) (fun h => h.elim (fun h => absurd h.2 (gz_ne rfl)) (fun h => h.elim (fun h => absurd h.2 (gz_ne rfl)) (fun h => h.elim (fun h => absurd h.2 (gz_ne rfl)) (fun h => absurd h.2 (gz_ne rfl)))))))
            have t95 := (g89 41 0).resolve_left (fun h => h.elim (fun h => absurd h.2 (gz_ne rfl)) (fun h => h.elim (fun h => absurd h.2 (gz_ne rfl)) (fun h => h.elim (fun h => absurd h.2 (gz_ne rfl)) (fun h => h.elim (fun h => absurd h.2 (gz_ne rfl)) (fun h => h.elim (fun h => absurd h.2 (gz_ne rfl)) (fun h => absurd h.2 (gz_ne rfl)))))))
            have t96 := (g89 41 1).resolve_left (fun h => h.elim (fun h => absurd h.2 (gz_ne rfl)) (fun h => h.elim (fun h => absurd h.2 (gz_ne rfl)) (fun h => h.elim (fun h => absurd h.2 (gz_ne rfl)) (fun h => h.elim (fun h => absurd h.2 (gz_ne rfl)) (fun h => h.elim (fun h => absurd h.2 (gz_ne rfl)) (fun h => absurd h.2 (gz_ne rfl)))))))
            have t97 := (g89 41 2).resolve_left (fun h => h.elim (fun h => absurd h.2 (gz_ne rfl)) (fun h => h.elim (fun h => absurd h.2 (gz_ne rfl)) (fun h => h.elim (fun h => absurd h.2 (gz_ne rfl)) (fun h => h.elim (fun h => absurd h.2 (gz_ne rfl)) (fun h => h.elim (fun h => absurd h.2 (gz_ne rfl)) (fun h => absurd h.2 (gz_ne rfl)))))))
            have t98 := (g89 39 5).resolve_left (fun h => h.elim (fun h => absurd h.2 (gz_ne rfl)) (fun h => h.elim (fun h => absurd h.2 (gz_ne rfl)) (fun h => h.elim (fun h => absurd h.1 (gz_ne rfl)) (fun h => h.elim (fun h => absurd h.2 (gz_ne rfl)) (fun h => h.elim (fun h => absurd h.2 (gz_ne rfl)) (fun h => absurd h.2 (gz_ne rfl)))))))
            have t99 := (g89 1 18).resolve_left (fun h => h.elim (fun h => absurd h.2 (gz_ne rfl)) (fun h => h.elim (fun h => absurd h.2 (gz_ne rfl)) (fun h => h.elim (fun h => absurd h.2 (gz_ne rfl)) (fun h => h.elim (fun h => absurd h.2 (gz_ne rfl)) (fun h => h.elim (fun h => absurd h.2 (gz_ne rfl)) (fun h => absurd h.2 (gz_ne rfl)))))))
            have t100 := (g89 39 8).resolve_left (fun h => h.elim (fun h => absurd h.2 (gz_ne rfl)) (fun h => h.elim (fun h => absurd h.2 (gz_ne rfl)) (fun h => h.elim (fun h => absurd h.2 (gz_ne rfl)) (fun h => h.elim (fun h => absurd h.2 (gz_ne rfl)) (fun h => h.elim (fun h => absurd h.2 (gz_ne rfl)) (fun h => absurd h.1 (gz_ne rfl)))))))
            have t101 := (g89 39 2).resolve_left (fun h => h.elim (fun h => absurd h.2 (gz_ne rfl)) (fun h => h.elim (fun h => absurd h.2 (gz_ne rfl)) (fun h => h.elim (fun h => absurd h.2 (gz_ne rfl)) (fun h => h.elim (fun h => absurd h.2 (gz_ne rfl)) (fun h => h.elim (fun h => absurd h.2 (gz_ne rfl)) (fun h => absurd h.2 (gz_ne rfl)))))))
            have f102 := (gc_b_3_5 hI90 R_23)
            have f103 := (gc_b_3_6 hI90 R_23)
            have f104 := (gc_b_3_7 hI90 R_23)
            have t105 := gc_TK_mo KTK_I90
            have KPK_I90 := gc_PKs_fr KPK_I68 ((g89 1 17).resolve_left (fun h => h.elim (fun h => absurd h.2 (gz_ne rfl)) (fun h => h.elim (fun h => absurd h.2 (gz_ne rfl)) (fun h => h.elim (fun h => absurd h.2 (gz_ne rfl)) (fun h => h.elim (fun h => absurd h.2 (gz_ne rfl)) (fun h => h.elim (fun h => absurd h.2 (gz_ne rfl)) (fun h => absurd h.2 (gz_ne rfl)))))))) (fun k => (g89 20 k).resolve_left (fun h => h.elim (fun h => absurd h.1 (gz_ne rfl)) (fun h => h.elim (fun h => absurd h.1 (gz_ne rfl)) (fun h => h.elim (fun h => absurd h.1 (gz_ne rfl)) (fun h => h.elim (fun h => absurd h.1 (gz_ne rfl)) (fun h => h.elim (fun h => absurd h.1 (gz_ne rfl)) (fun h => absurd h.1 (gz_ne rfl))))))))
            refine gv_callV hD rfl (As := [.inl 1]) (st := []) rfl B_39 S_39 rfl (gc_lV6 hws rfl) (Nat.le_of_ble_eq_true rfl) (gz_Ev_mono (d := 4) (by decide) E89) ?_
            show gv_X _ _ (185, [(0, .inr (.inr (some 39))), (1, .inr (.inl v1_17)), (3, .inl v3_35)], [.inl z89], sh, gc_h sh I90 J91 A)
            refine gv_if_ne (t := 190) hD rfl rfl ⟨by exact gz_m 54 (by omega), by exact gz_m 55 (by omega)⟩ (fun c106 => ?_) (fun c106 => ?_)
            · show gv_X _ _ (190, [(0, .inr (.inr (some 39))), (1, .inr (.inl v1_17)), (3, .inl v3_35)], [], sh, gc_h sh I90 J91 A)
              have V107 := q89.2.2.2.2.2
              rw [show I68 39 5 = I 39 5 from by exact gz_m 56 (by omega)] at V107
              rw [show (if (1 : Int) = 0 then (1 : Int) else 0) = 0 from if_neg (by decide)] at V107
              obtain ⟨u107, A107⟩ := gs_or1 V107 (by exact gz_m 57 (by omega))
              have t108 := gc_AT_l A107
              refine gv_run 1 true hD (pc' := 191) (lv' := [(0, .inr (.inr (some 39))), (1, .inr (.inl v1_17)), (3, .inl v3_35)]) (st' := [.inr (.inr (some 39))]) (h' := gc_h sh I90 J91 A) (C := (True ∧ True)) rfl ⟨trivial, trivial⟩ ?_
              refine gv_get hD rfl rfl S_39 ⟨by decide, B_39⟩ (gc_h5 (t := t) S_39 rfl (by exact gz_m 58 (by omega))) ?_
              show gv_X _ _ (194, [(0, .inr (.inr (some 39))), (1, .inr (.inl v1_17)), (3, .inl v3_35)], [.inr (.inr (some t))], sh, gc_h sh I90 J91 A)
              refine gv_get hD rfl rfl S_t ⟨by decide, B_t⟩ (gc_hA S_t rfl A_t_8) ?_
              show gv_X _ _ (197, [(0, .inr (.inr (some 39))), (1, .inr (.inl v1_17)), (3, .inl v3_35)], [.inr (.inr (some (t + 11)))], sh, gc_h sh I90 J91 A)
              have f109 := (show 0 ≤ I90 (t + 11) 1 ∧ I90 (t + 11) 1 ≤ 24 from gc_in2 hI90 R_t_11 rfl rfl rfl)
              refine gv_get hD rfl rfl S_t_11 ⟨by decide, B_t_11⟩ (gc_hI S_t_11 rfl) ?_
              show gv_X _ _ (200, [(0, .inr (.inr (some 39))), (1, .inr (.inl v1_17)), (3, .inl v3_35)], [.inl (I90 (t + 11) 1)], sh, gc_h sh I90 J91 A)
              refine gv_run 2 true hD (pc' := 203) (lv' := [(5, .inl (I90 (t + 11) 1)), (0, .inr (.inr (some 39))), (1, .inr (.inl v1_17)), (3, .inl v3_35)]) (st' := [.inr (.inr (some 39))]) (h' := gc_h sh I90 J91 A) (C := ((True ∧ True) ∧ True)) rfl ⟨⟨trivial, trivial⟩, trivial⟩ ?_
              refine gv_get hD rfl rfl S_39 ⟨by decide, B_39⟩ (gc_h5 (t := t) S_39 rfl (by exact gz_m 59 (by omega))) ?_
              show gv_X _ _ (206, [(5, .inl (I90 (t + 11) 1)), (0, .inr (.inr (some 39))), (1, .inr (.inl v1_17)), (3, .inl v3_35)], [.inr (.inr (some t))], sh, gc_h sh I90 J91 A)
              refine gv_get hD rfl rfl S_t ⟨by decide, B_t⟩ (gc_hA S_t rfl A_t_8) ?_
              show gv_X _ _ (209, [(5, .inl (I90 (t + 11) 1)), (0, .inr (.inr (some 39))), (1, .inr (.inl v1_17)), (3, .inl v3_35)], [.inr (.inr (some (t + 11)))], sh, gc_h sh I90 J91 A)
              refine gv_run 1 true hD (pc' := 210) (lv' := [(5, .inl (I90 (t + 11) 1)), (0, .inr (.inr (some 39))), (1, .inr (.inl v1_17)), (3, .inl v3_35)]) (st' := [.inr (.inl v1_17), .inr (.inr (some (t + 11)))]) (h' := gc_h sh I90 J91 A) (C := (True ∧ True)) rfl ⟨trivial, trivial⟩ ?_
              obtain ⟨r110, h110, E110, P110⟩ := d_X4_put_p (ws0 := ws0) (tb := tb) hws htb sh ro I90 J91 A hI90 (t + 11) 24 8 v1_17 h_t_11     
              obtain ⟨I111, J112, rfl, hI111, g110, k110, ⟨rfl, q110⟩⟩ := P110
              have FI111 := gc_frc (W := fun q j => (q = 39 ∧ j = 3) ∨ (q = 39 ∧ j = 4) ∨ (q = 23 ∧ j = 5) ∨ (q = 23 ∧ j = 6) ∨ (q = 23 ∧ j = 7) ∨ (q = 23 ∧ j = 8) ∨ (q = 1 ∧ j = 17) ∨ (q = 1 ∧ j = 18) ∨ q = 20 ∨ (q = 39 ∧ j = 6) ∨ (q = 39 ∧ j = 8) ∨ q = 40 ∨ (q = 41 ∧ j = 0) ∨ (q = 41 ∧ j = 1) ∨ (q = 41 ∧ j = 2) ∨ q = (t + 13) ∨ q = (t + 14) ∨ (q = (t + 11) ∧ j = 1)) (V := fun q j => (q = (t + 11) ∧ j = 1)) FI90 (fun q j h => (Or.inr (Or.inr (Or.inr (Or.inr (Or.inr (Or.inr (Or.inr (Or.inr (Or.inr (Or.inr (Or.inr (Or.inr (Or.inr (Or.inr (Or.inr (Or.inr (Or.inr h)))))))))))))))))) g110
              have FJ112 := gc_frc (W := fun q j => (q = 23 ∧ j = 9) ∨ q = (t + 12)) (V := fun q j => q = (t + 12)) FJ91 (fun q j h => (Or.inr h)) k110
              have t113 := (g110 23 1).resolve_left (fun h => absurd h.1 N_23__t_11)
              have t114 := (g110 23 5).resolve_left (fun h => absurd h.2 (gz_ne rfl))
              have t115 := (g110 23 6).resolve_left (fun h => absurd h.2 (gz_ne rfl))
              have t116 := (g110 23 7).resolve_left (fun h => absurd h.2 (gz_ne rfl))
              have t117 := (g110 1 17).resolve_left (fun h => absurd h.2 (gz_ne rfl))
              have t118 := (g110 41 0).resolve_left (fun h => absurd h.2 (gz_ne rfl))
              have t119 := (g110 41 1).resolve_left (fun h => absurd h.1 N_41__t_11)
              have t120 := (g110 41 2).resolve_left (fun h => absurd h.2 (gz_ne rfl))
              have t121 := (g110 39 5).resolve_left (fun h => absurd h.2 (gz_ne rfl))
              have t122 := (g110 1 18).resolve_left (fun h => absurd h.2 (gz_ne rfl))
              have t123 := (g110 39 8).resolve_left (fun h => absurd h.2 (gz_ne rfl))
              have t124 := (g110 39 2).resolve_left (fun h => absurd h.2 (gz_ne rfl))
              have f125 := (show 0 ≤ I111 (t + 11) 1 ∧ I111 (t + 11) 1 ≤ 24 from gc_in2 hI111 R_t_11 rfl rfl rfl)
              have KLT_I111 := gc_LT_fr KLT_I90 ((g110 23 5).resolve_left (fun h => absurd h.2 (gz_ne rfl))) ((g110 23 6).resolve_left (fun h => absurd h.2 (gz_ne rfl))) ((g110 23 7).resolve_left (fun h => absurd h.2 (gz_ne rfl))) (fun k => (g110 24 k).resolve_left (fun h => absurd h.1 N_24__t_11))
              have KTK_I111 := gc_TK_fr KTK_I90 ((g110 23 1).resolve_left (fun h => absurd h.1 N_23__t_11)) ((g110 23 5).resolve_left (fun h => absurd h.2 (gz_ne rfl))) ((g110 23 6).resolve_left (fun h => absurd h.2 (gz_ne rfl))) ((g110 23 7).resolve_left (fun h => absurd h.2 (gz_ne rfl)))
              have KPK_I111 := gc_PKs_fr KPK_I90 ((g110 1 17).resolve_left (fun h => absurd h.2 (gz_ne rfl))) (fun k => (g110 20 k).resolve_left (fun h => absurd h.1 N_20__t_11))
              have A126 := gc_AT_I A107 ((g110 23 1).resolve_left (fun h => absurd h.1 N_23__t_11)) ((g110 23 5).resolve_left (fun h => absurd h.2 (gz_ne rfl))) ((g110 23 6).resolve_left (fun h => absurd h.2 (gz_ne rfl))) ((g110 23 7).resolve_left (fun h => absurd h.2 (gz_ne rfl))) ((g110 23 8).resolve_left (fun h => absurd h.2 (gz_ne rfl))) (fun k => (g110 24 k).resolve_left (fun h => absurd h.1 N_24__t_11))
              have A127 := gc_AT_J A126 ((k110 23 9).resolve_left (fun h => absurd h N_23__t_12))
              have t128 := gc_AT_l A127
              refine gv_callV hD rfl (As := [.inr (.inl v1_17)]) (st := []) rfl B_t_11 S_t_11 rfl (gc_lV6 hws rfl) (Nat.le_of_ble_eq_true rfl) (gz_Ev_mono (d := 1) (by decide) E110) ?_
              show gv_X _ _ (213, [(5, .inl (I90 (t + 11) 1)), (0, .inr (.inr (some 39))), (1, .inr (.inl v1_17)), (3, .inl v3_35)], [], sh, gc_h sh I111 J112 A)
              refine gv_run 1 true hD (pc' := 214) (lv' := [(5, .inl (I90 (t + 11) 1)), (0, .inr (.inr (some 39))), (1, .inr (.inl v1_17)), (3, .inl v3_35)]) (st' := [.inr (.inr (some 39))]) (h' := gc_h sh I111 J112 A) (C := (True ∧ True)) rfl ⟨trivial, trivial⟩ ?_
              refine gv_get hD rfl rfl S_39 ⟨by decide, B_39⟩ (gc_h5 (t := t) S_39 rfl (by exact gz_m 60 (by omega))) ?_
              show gv_X _ _ (217, [(5, .inl (I90 (t + 11) 1)), (0, .inr (.inr (some 39))), (1, .inr (.inl v1_17)), (3, .inl v3_35)], [.inr (.inr (some t))], sh, gc_h sh I111 J112 A)
              refine gv_get hD rfl rfl S_t ⟨by decide, B_t⟩ (gc_hA S_t rfl A_t_9) ?_
              show gv_X _ _ (220, [(5, .inl (I90 (t + 11) 1)), (0, .inr (.inr (some 39))), (1, .inr (.inl v1_17)), (3, .inl v3_35)], [.inr (.inr (some (t + 13)))], sh, gc_h sh I111 J112 A)
              refine gv_run 2 true hD (pc' := 223) (lv' := [(5, .inl (I90 (t + 11) 1)), (0, .inr (.inr (some 39))), (1, .inr (.inl v1_17)), (3, .inl v3_35)]) (st' := [.inr (.inr (some 39)), .inl (I90 (t + 11) 1), .inr (.inr (some (t + 13)))]) (h' := gc_h sh I111 J112 A) (C := ((True ∧ True) ∧ True)) rfl ⟨⟨trivial, trivial⟩, trivial⟩ ?_
              have f129 := (gc_b_42_8 hI111 R_39)
              refine gv_get hD rfl rfl S_39 ⟨by decide, B_39⟩ (gc_hI S_39 rfl) ?_
              show gv_X _ _ (226, [(5, .inl (I90 (t + 11) 1)), (0, .inr (.inr (some 39))), (1, .inr (.inl v1_17)), (3, .inl v3_35)], [.inl (I111 39 8), .inl (I90 (t + 11) 1), .inr (.inr (some (t + 13)))], sh, gc_h sh I111 J112 A)
              refine gv_iast hD rfl S_t_13 ⟨by decide, B_t_13⟩ ⟨by exact gz_m 61 (by omega), by exact gz_m 62 (by omega)⟩ ?_
              refine gc_st hI111 S_t_13 rfl R_t_13 (lo := 0) (hi := 24) rfl rfl (by exact gz_m 63 (by omega)) (by exact gz_m 64 (by omega)) (fun I130 hI130 q131 p131 => ?_)
              have FI130 := gc_frs (W := fun q j => (q = 39 ∧ j = 3) ∨ (q = 39 ∧ j = 4) ∨ (q = 23 ∧ j = 5) ∨ (q = 23 ∧ j = 6) ∨ (q = 23 ∧ j = 7) ∨ (q = 23 ∧ j = 8) ∨ (q = 1 ∧ j = 17) ∨ (q = 1 ∧ j = 18) ∨ q = 20 ∨ (q = 39 ∧ j = 6) ∨ (q = 39 ∧ j = 8) ∨ q = 40 ∨ (q = 41 ∧ j = 0) ∨ (q = 41 ∧ j = 1) ∨ (q = 41 ∧ j = 2) ∨ q = (t + 13) ∨ q = (t + 14) ∨ (q = (t + 11) ∧ j = 1)) FI111 (Or.inr (Or.inr (Or.inr (Or.inr (Or.inr (Or.inr (Or.inr (Or.inr (Or.inr (Or.inr (Or.inr (Or.inr (Or.inr (Or.inr (Or.inr (Or.inl rfl)))))))))))))))) p131
              have t132 := p131 23 1 (fun h => absurd h.1 N_23__t_13)
              have t133 := p131 23 5 (fun h => absurd h.1 N_23__t_13)
              have t134 := p131 23 6 (fun h => absurd h.1 N_23__t_13)
              have t135 := p131 23 7 (fun h => absurd h.1 N_23__t_13)
              have t136 := p131 1 17 (fun h => absurd h.1 N_1__t_13)
              have t137 := p131 (t + 11) 1 (fun h => absurd h.1 N_t_11__t_13)
              have t138 := p131 41 0 (fun h => absurd h.1 N_41__t_13)
              have t139 := p131 41 1 (fun h => absurd h.1 N_41__t_13)
              have t140 := p131 41 2 (fun h => absurd h.1 N_41__t_13)
              have t141 := p131 39 5 (fun h => absurd h.1 N_39__t_13)
              have t142 := p131 1 18 (fun h => absurd h.1 N_1__t_13)
              have t143 := p131 39 8 (fun h => absurd h.1 N_39__t_13)
              have t144 := p131 39 2 (fun h => absurd h.1 N_39__t_13)
              have KLT_I130 := gc_LT_fr KLT_I111 (p131 23 5 (fun h => absurd h.1 N_23__t_13)) (p131 23 6 (fun h => absurd h.1 N_23__t_13)) (p131 23 7 (fun h => absurd h.1 N_23__t_13)) (fun k => p131 24 k (fun h => absurd h.1 N_24__t_13))
              have KTK_I130 := gc_TK_fr KTK_I111 (p131 23 1 (fun h => absurd h.1 N_23__t_13)) (p131 23 5 (fun h => absurd h.1 N_23__t_13)) (p131 23 6 (fun h => absurd h.1 N_23__t_13)) (p131 23 7 (fun h => absurd h.1 N_23__t_13))
              have KPK_I130 := gc_PKs_fr KPK_I111 (p131 1 17 (fun h => absurd h.1 N_1__t_13)) (fun k => p131 20 k (fun h => absurd h.1 N_20__t_13))
              have A145 := gc_AT_I A127 (p131 23 1 (fun h => absurd h.1 N_23__t_13)) (p131 23 5 (fun h => absurd h.1 N_23__t_13)) (p131 23 6 (fun h => absurd h.1 N_23__t_13)) (p131 23 7 (fun h => absurd h.1 N_23__t_13)) (p131 23 8 (fun h => absurd h.1 N_23__t_13)) (fun k => p131 24 k (fun h => absurd h.1 N_24__t_13))
              show gv_X _ _ (227, [(5, .inl (I90 (t + 11) 1)), (0, .inr (.inr (some 39))), (1, .inr (.inl v1_17)), (3, .inl v3_35)], [], sh, gc_h sh I130 J112 A)
              refine gv_run 1 true hD (pc' := 228) (lv' := [(5, .inl (I90 (t + 11) 1)), (0, .inr (.inr (some 39))), (1, .inr (.inl v1_17)), (3, .inl v3_35)]) (st' := [.inr (.inr (some 39))]) (h' := gc_h sh I130 J112 A) (C := (True ∧ True)) rfl ⟨trivial, trivial⟩ ?_
              refine gv_get hD rfl rfl S_39 ⟨by decide, B_39⟩ (gc_hA S_39 rfl A_39_9) ?_
              show gv_X _ _ (231, [(5, .inl (I90 (t + 11) 1)), (0, .inr (.inr (some 39))), (1, .inr (.inl v1_17)), (3, .inl v3_35)], [.inr (.inr (some 40))], sh, gc_h sh I130 J112 A)
              refine gv_run 2 true hD (pc' := 233) (lv' := [(5, .inl (I90 (t + 11) 1)), (0, .inr (.inr (some 39))), (1, .inr (.inl v1_17)), (3, .inl v3_35)]) (st' := [.inr (.inr (some 39)), .inl 0, .inr (.inr (some 40))]) (h' := gc_h sh I130 J112 A) (C := ((True ∧ True) ∧ True)) rfl ⟨⟨trivial, trivial⟩, trivial⟩ ?_
              refine gv_get hD rfl rfl S_39 ⟨by decide, B_39⟩ (gc_h5 (t := t) S_39 rfl (by exact gz_m 65 (by omega))) ?_
              show gv_X _ _ (236, [(5, .inl (I90 (t + 11) 1)), (0, .inr (.inr (some 39))), (1, .inr (.inl v1_17)), (3, .inl v3_35)], [.inr (.inr (some t)), .inl 0, .inr (.inr (some 40))], sh, gc_h sh I130 J112 A)
              refine gv_get hD rfl rfl S_t ⟨by decide, B_t⟩ (gc_hA S_t rfl A_t_10) ?_
              show gv_X _ _ (239, [(5, .inl (I90 (t + 11) 1)), (0, .inr (.inr (some 39))), (1, .inr (.inl v1_17)), (3, .inl v3_35)], [.inr (.inr (some (t + 14))), .inl 0, .inr (.inr (some 40))], sh, gc_h sh I130 J112 A)
              refine gv_run 6 true hD (pc' := 247) (lv' := [(5, .inl (I90 (t + 11) 1)), (0, .inr (.inr (some 39))), (1, .inr (.inl v1_17)), (3, .inl v3_35)]) (st' := [.inr (.inr (some 39)), .inl (((I90 (t + 11) 1) * 24) * 3), .inr (.inr (some (t + 14))), .inl 0, .inr (.inr (some 40))]) (h' := gc_h sh I130 J112 A) (C := ((((((True ∧ True) ∧ True) ∧ True) ∧ True) ∧ True) ∧ True)) rfl ⟨⟨⟨⟨⟨⟨trivial, trivial⟩, trivial⟩, trivial⟩, trivial⟩, trivial⟩, trivial⟩ ?_
              have f146 := (gc_b_42_8 hI130 R_39)
              refine gv_get hD rfl rfl S_39 ⟨by decide, B_39⟩ (gc_hI S_39 rfl) ?_
              show gv_X _ _ (250, [(5, .inl (I90 (t + 11) 1)), (0, .inr (.inr (some 39))), (1, .inr (.inl v1_17)), (3, .inl v3_35)], [.inl (I130 39 8), .inl (((I90 (t + 11) 1) * 24) * 3), .inr (.inr (some (t + 14))), .inl 0, .inr (.inr (some 40))], sh, gc_h sh I130 J112 A)
              refine gv_run 2 true hD (pc' := 252) (lv' := [(5, .inl (I90 (t + 11) 1)), (0, .inr (.inr (some 39))), (1, .inr (.inl v1_17)), (3, .inl v3_35)]) (st' := [.inl ((I130 39 8) * 3), .inl (((I90 (t + 11) 1) * 24) * 3), .inr (.inr (some (t + 14))), .inl 0, .inr (.inr (some 40))]) (h' := gc_h sh I130 J112 A) (C := ((True ∧ True) ∧ True)) rfl ⟨⟨trivial, trivial⟩, trivial⟩ ?_
              refine gv_copy hD rfl (gc_lC6_263 hws) (Nat.le_of_ble_eq_true rfl) ⟨B_40, B_t_14⟩ S_40 S_t_14 (by decide) ⟨by decide, by decide⟩ ⟨by exact gz_m 66 (by omega), by exact gz_m 67 (by omega), by exact gz_m 68 (by omega)⟩ (by exact gz_m 69 (by omega)) (by exact gz_m 70 (by omega)) (fun h => absurd h (gz_ne rfl)) ?_
              refine gc_cp hI130 S_40 S_t_14 (by decide) (fun j hj => gc_cprg (m := 2) hI130 R_40 R_t_14 rfl rfl (by exact gz_m 71 (by omega))) (fun I148 hI148 p147 q147 => ?_)
              have FI148 := gc_frp (W := fun q j => (q = 39 ∧ j = 3) ∨ (q = 39 ∧ j = 4) ∨ (q = 23 ∧ j = 5) ∨ (q = 23 ∧ j = 6) ∨ (q = 23 ∧ j = 7) ∨ (q = 23 ∧ j = 8) ∨ (q = 1 ∧ j = 17) ∨ (q = 1 ∧ j = 18) ∨ q = 20 ∨ (q = 39 ∧ j = 6) ∨ (q = 39 ∧ j = 8) ∨ q = 40 ∨ (q = 41 ∧ j = 0) ∨ (q = 41 ∧ j = 1) ∨ (q = 41 ∧ j = 2) ∨ q = (t + 13) ∨ q = (t + 14) ∨ (q = (t + 11) ∧ j = 1)) (V := fun q j => q = (t + 14) ∧ Int.toNat ((((I90 (t + 11) 1) * 24) * 3)) ≤ j ∧ j < Int.toNat ((((I90 (t + 11) 1) * 24) * 3)) + Int.toNat (((I130 39 8) * 3))) FI130 (fun q j h => (Or.inr (Or.inr (Or.inr (Or.inr (Or.inr (Or.inr (Or.inr (Or.inr (Or.inr (Or.inr (Or.inr (Or.inr (Or.inr (Or.inr (Or.inr (Or.inr (Or.inl h.1)))))))))))))))))) p147
              have KLT_I148 := gc_LT_fr KLT_I130 (p147 23 5 (fun h => absurd h.1 N_23__t_14)) (p147 23 6 (fun h => absurd h.1 N_23__t_14)) (p147 23 7 (fun h => absurd h.1 N_23__t_14)) (fun k => p147 24 k (fun h => absurd h.1 N_24__t_14))
              have KTK_I148 := gc_TK_fr KTK_I130 (p147 23 1 (fun h => absurd h.1 N_23__t_14)) (p147 23 5 (fun h => absurd h.1 N_23__t_14)) (p147 23 6 (fun h => absurd h.1 N_23__t_14)) (p147 23 7 (fun h => absurd h.1 N_23__t_14))
              have KPK_I148 := gc_PKs_fr KPK_I130 (p147 1 17 (fun h => absurd h.1 N_1__t_14)) (fun k => p147 20 k (fun h => absurd h.1 N_20__t_14))
              have t150 := p147 23 1 (fun h => absurd h.1 N_23__t_14)
              have t151 := p147 23 5 (fun h => absurd h.1 N_23__t_14)
              have t152 := p147 23 6 (fun h => absurd h.1 N_23__t_14)
              have t153 := p147 23 7 (fun h => absurd h.1 N_23__t_14)
              have t154 := p147 1 17 (fun h => absurd h.1 N_1__t_14)
              have t155 := p147 (t + 11) 1 (fun h => absurd h.1 N_t_11__t_14)
              have t156 := p147 41 0 (fun h => absurd h.1 N_41__t_14)
              have t157 := p147 41 1 (fun h => absurd h.1 N_41__t_14)
              have t158 := p147 41 2 (fun h => absurd h.1 N_41__t_14)
              have t159 := p147 39 5 (fun h => absurd h.1 N_39__t_14)
              have t160 := p147 1 18 (fun h => absurd h.1 N_1__t_14)
              have t161 := p147 39 8 (fun h => absurd h.1 N_39__t_14)
              have t162 := p147 39 2 (fun h => absurd h.1 N_39__t_14)
              have t163 := gc_TK_mo KTK_I148
              have f164 := (gc_b_3_1 hI148 R_23)
              have f165 := (gc_b_3_5 hI148 R_23)
              have f166 := (gc_b_3_6 hI148 R_23)
              have f167 := (gc_b_3_7 hI148 R_23)
              have f168 := (gc_b_22_17 hI148 R_1)
              have f169 := (show 0 ≤ I148 (t + 11) 1 ∧ I148 (t + 11) 1 ≤ 24 from gc_in2 hI148 R_t_11 rfl rfl rfl)
              have f170 := (gc_b_0_0 hI148 R_41)
              have f171 := (gc_b_0_1 hI148 R_41)
              have f172 := (gc_b_0_2 hI148 R_41)
              have f173 := (gc_b_42_5 hI148 R_39)
              have f174 := (gc_b_22_18 hI148 R_1)
              have f175 := (gc_b_42_8 hI148 R_39)
              have f176 := (gc_b_42_2 hI148 R_39)
              have A177 := gc_AT_I A145 (p147 23 1 (fun h => absurd h.1 N_23__t_14)) (p147 23 5 (fun h => absurd h.1 N_23__t_14)) (p147 23 6 (fun h => absurd h.1 N_23__t_14)) (p147 23 7 (fun h => absurd h.1 N_23__t_14)) (p147 23 8 (fun h => absurd h.1 N_23__t_14)) (fun k => p147 24 k (fun h => absurd h.1 N_24__t_14))
              show gv_X _ _ (255, [(5, .inl (I90 (t + 11) 1)), (0, .inr (.inr (some 39))), (1, .inr (.inl v1_17)), (3, .inl v3_35)], [], sh, gc_h sh I148 J112 A)
              refine gv_run 1 true hD (pc' := 256) (lv' := [(5, .inl (I90 (t + 11) 1)), (0, .inr (.inr (some 39))), (1, .inr (.inl v1_17)), (3, .inl v3_35)]) (st' := [.inl 1]) (h' := gc_h sh I148 J112 A) (C := (True ∧ True)) rfl ⟨trivial, trivial⟩ ?_
              exact gv_zret hD rfl (by exact gz_m 72 (by omega)) ⟨I148, J112, rfl, hI148, FI148, FJ112, KLT_I148, KTK_I148, ⟨_, rfl, by exact gz_m 73 (by omega), by exact gz_m 74 (by omega), by exact gz_m 75 (by omega), by exact gz_m 76 (by omega), by exact gz_m 77 (by omega), KPK_I148, (Or.inl ⟨by exact gz_m 78 (by omega), by first | (exfalso; exact gz_m 79 (by omega)) | (have e9 : (gs_pat β η Ir Jr (I 39 5) p9) = (gs_done β η 0 (I 39 5) (gs_need β η 125 p_35)) := (by rw [gs_pat_e2 h9a (by exact gz_m 80 (by omega)) rfl]; unfold gs_pt4; (repeat first | rw [if_pos (by exact gz_m 81 (by omega))] | rw [if_neg (by exact gz_m 82 (by omega))])); rw [e9]; exact ⟨by exact gz_m 83 (by omega), A177, (gc_PU_af (gc_PU_tr q110.2.2.2 ((((g89 (t + 11) 1).resolve_left (by exact gz_m 84 (by omega))).trans ((g67 (t + 11) 1).resolve_left (by exact gz_m 85 (by omega)))).trans (e4_51.1)) (fun j => ((((k89 (t + 12) j).resolve_left (by exact gz_m 86 (by omega))).trans ((k67 (t + 12) j).resolve_left (by exact gz_m 87 (by omega)))).trans (e4_51.2.1 j))) e2_51) ((p147 (t + 11) 1 (fun h => absurd h.1 (by exact gz_m 88 (by omega)))).trans (p131 (t + 11) 1 (by exact gz_m 89 (by omega))))), by exact gz_m 90 (by omega), (by rw [gs_ptw_2 h9a]; exact (gs_Cpt_mk (gs_CL_fr (gs_CM_CL (h9b.resolve_right (fun h => by have h8 := h.1; exact gz_m 91 (by omega))).2) ((((g110 39 8).resolve_left (by exact gz_m 92 (by omega))).trans ((g89 39 8).resolve_left (by exact gz_m 93 (by omega)))).trans ((g67 39 8).resolve_left (by exact gz_m 94 (by omega)))) (fun j => ((((g110 40 j).resolve_left (by exact gz_m 95 (by omega))).trans ((g89 40 j).resolve_left (by exact gz_m 96 (by omega)))).trans ((g67 40 j).resolve_left (by exact gz_m 97 (by omega)))))) (by exact gz_m 98 (by omega)) p131 (q131.trans (by exact gz_m 99 (by omega))) p147 q147 ⟨by exact gz_m 100 (by omega), rfl⟩ (by exact gz_m 101 (by omega)) (fun j => (((((g110 (t + 13) j).resolve_left (by exact gz_m 102 (by omega))).trans ((g89 (t + 13) j).resolve_left (by exact gz_m 103 (by omega)))).trans ((g67 (t + 13) j).resolve_left (by exact gz_m 104 (by omega)))).trans (e4_51.2.2.1 j))) (fun j => (((((g110 (t + 14) j).resolve_left (by exact gz_m 105 (by omega))).trans ((g89 (t + 14) j).resolve_left (by exact gz_m 106 (by omega)))).trans ((g67 (t + 14) j).resolve_left (by exact gz_m 107 (by omega)))).trans (e4_51.2.2.2.1 j))) (by exact gz_m 108 (by omega)))), (by rw [h9a]; exact (gs_Cct_mk (gs_CM_kp (h9b.resolve_right (fun h => by have h8 := h.1; exact gz_m 109 (by omega))).2 ((((g110 39 8).resolve_left (by exact gz_m 110 (by omega))).trans ((g89 39 8).resolve_left (by exact gz_m 111 (by omega)))).trans ((g67 39 8).resolve_left (by exact gz_m 112 (by omega)))) (fun j => ((((g110 40 j).resolve_left (by exact gz_m 113 (by omega))).trans ((g89 40 j).resolve_left (by exact gz_m 114 (by omega)))).trans ((g67 40 j).resolve_left (by exact gz_m 115 (by omega))))) (gc_PKs_fr (gc_PKs_fr (gc_PKs_fr gc_PKs_rf ((g67 1 17).resolve_left (by exact gz_m 116 (by omega))) (fun k => ((g67 20 k).resolve_left (by exact gz_m 117 (by omega))))) ((g89 1 17).resolve_left (by exact gz_m 118 (by omega))) (fun k => ((g89 20 k).resolve_left (by exact gz_m 119 (by omega))))) ((g110 1 17).resolve_left (by exact gz_m 120 (by omega))) (fun k => ((g110 20 k).resolve_left (by exact gz_m 121 (by omega)))))) (by exact gz_m 122 (by omega)) p131 p147 q147 ⟨by exact gz_m 123 (by omega), rfl⟩ (by exact gz_m 124 (by omega)) (by exact gz_m 125 (by omega)) gc_PKs_rf (fun j => rfl)))⟩)⟩)⟩⟩
            · show gv_X _ _ (188, [(0, .inr (.inr (some 39))), (1, .inr (.inl v1_17)), (3, .inl v3_35)], [], sh, gc_h sh I90 J91 A)
              have V178 := q89.2.2.2.2.2
              rw [show I68 39 5 = I 39 5 from by exact gz_m 126 (by omega)] at V178
              rw [show (if (1 : Int) = 0 then (1 : Int) else 0) = 0 from if_neg (by decide)] at V178
              obtain ⟨u178, u178_⟩ := gs_or0 V178 (by exact gz_m 127 (by omega))
              refine gv_run 1 true hD (pc' := 189) (lv' := [(0, .inr (.inr (some 39))), (1, .inr (.inl v1_17)), (3, .inl v3_35)]) (st' := [.inl 0]) (h' := gc_h sh I90 J91 A) (C := (True ∧ True)) rfl ⟨trivial, trivial⟩ ?_
              exact gv_zret hD rfl (by exact gz_m 128 (by omega)) ⟨I90, J91, rfl, hI90, FI90, FJ91, KLT_I90, KTK_I90, ⟨_, rfl, by exact gz_m 129 (by omega), by exact gz_m 130 (by omega), by exact gz_m 131 (by omega), by exact gz_m 132 (by omega), by exact gz_m 133 (by omega), KPK_I90, (Or.inr ⟨by exact gz_m 134 (by omega), by first | (exfalso; exact gz_m 135 (by omega)) | (rw [gs_pat_e2 h9a (by exact gz_m 136 (by omega)) rfl]; unfold gs_pt4; (repeat first | rw [if_pos (by exact gz_m 137 (by omega))] | rw [if_neg (by exact gz_m 138 (by omega))]); exact ⟨by exact gz_m 139 (by omega), by exact gz_m 140 (by omega), ((((g89 (t + 11) 1).resolve_left (by exact gz_m 141 (by omega))).trans ((g67 (t + 11) 1).resolve_left (by exact gz_m 142 (by omega)))).trans (e4_51.1)), fun j => ⟨((((k89 (t + 12) j).resolve_left (by exact gz_m 143 (by omega))).trans ((k67 (t + 12) j).resolve_left (by exact gz_m 144 (by omega)))).trans (e4_51.2.1 j)), ((((g89 (t + 13) j).resolve_left (by exact gz_m 145 (by omega))).trans ((g67 (t + 13) j).resolve_left (by exact gz_m 146 (by omega)))).trans (e4_51.2.2.1 j)), ((((g89 (t + 14) j).resolve_left (by exact gz_m 147 (by omega))).trans ((g67 (t + 14) j).resolve_left (by exact gz_m 148 (by omega)))).trans (e4_51.2.2.2.1 j))⟩⟩)⟩)⟩⟩
          · show gv_X _ _ (164, [(0, .inr (.inr (some 39))), (1, .inr (.inl v1_17)), (3, .inl v3_35)], [.inr (.inr (some 39))], sh, gc_h sh I68 J69 A)
            refine gv_run 1 true hD (pc' := 165) (lv' := [(0, .inr (.inr (some 39))), (1, .inr (.inl v1_17)), (3, .inl v3_35)]) (st' := [.inr (.inr (some 39)), .inr (.inr (some 39))]) (h' := gc_h sh I68 J69 A) (C := (True ∧ True)) rfl ⟨trivial, trivial⟩ ?_
            refine gv_get hD rfl rfl S_39 ⟨by decide, B_39⟩ (gc_h5 (t := t) S_39 rfl (by exact gz_m 149 (by omega))) ?_
            show gv_X _ _ (168, [(0, .inr (.inr (some 39))), (1, .inr (.inl v1_17)), (3, .inl v3_35)], [.inr (.inr (some t)), .inr (.inr (some 39))], sh, gc_h sh I68 J69 A)
            refine gv_get hD rfl rfl S_t ⟨by decide, B_t⟩ (gc_hA S_t rfl A_t_8) ?_
            show gv_X _ _ (171, [(0, .inr (.inr (some 39))), (1, .inr (.inl v1_17)), (3, .inl v3_35)], [.inr (.inr (some (t + 11))), .inr (.inr (some 39))], sh, gc_h sh I68 J69 A)
            obtain ⟨r179, h179, E179, P179⟩ := d_X4_isFull_p (ws0 := ws0) (tb := tb) hws htb sh ro I68 J69 A hI68 (t + 11) 24 8  h_t_11     
            obtain ⟨rfl, ⟨z179, rfl, q179⟩⟩ := P179
            refine gv_callV hD rfl (As := []) (st := [.inr (.inr (some 39))]) rfl B_t_11 S_t_11 rfl (gc_lV6 hws rfl) (Nat.le_of_ble_eq_true rfl) (gz_Ev_mono (d := 1) (by decide) E179) ?_
            show gv_X _ _ (174, [(0, .inr (.inr (some 39))), (1, .inr (.inl v1_17)), (3, .inl v3_35)], [.inl z179, .inr (.inr (some 39))], sh, gc_h sh I68 J69 A)
            refine gv_if_eq (t := 181) hD rfl rfl ⟨by exact gz_m 150 (by omega), by exact gz_m 151 (by omega)⟩ (fun c180 => ?_) (fun c180 => ?_)
            · show gv_X _ _ (181, [(0, .inr (.inr (some 39))), (1, .inr (.inl v1_17)), (3, .inl v3_35)], [.inr (.inr (some 39))], sh, gc_h sh I68 J69 A)
              refine gv_run 1 true hD (pc' := 182) (lv' := [(0, .inr (.inr (some 39))), (1, .inr (.inl v1_17)), (3, .inl v3_35)]) (st' := [.inl 0, .inr (.inr (some 39))]) (h' := gc_h sh I68 J69 A) (C := (True ∧ True)) rfl ⟨trivial, trivial⟩ ?_
              obtain ⟨r181, h181, E181, P181⟩ := d_X6_closes_p (ws0 := ws0) (tb := tb) hws htb sh ro I68 J69 A hI68  β η (gs_need β η 125 p_35) 0 hb   ⟨by exact gz_m 152 (by omega), by exact gz_m 153 (by omega)⟩ A86 (by exact gz_m 154 (by omega)) (by exact gz_m 155 (by omega)) KLT_I68 KTK_I68
              obtain ⟨I182, J183, rfl, hI182, g181, k181, KLT_I182, KTK_I182, ⟨z181, rfl, q181⟩⟩ := P181
              have FI182 := gc_frc (W := fun q j => (q = 39 ∧ j = 3) ∨ (q = 39 ∧ j = 4) ∨ (q = 23 ∧ j = 5) ∨ (q = 23 ∧ j = 6) ∨ (q = 23 ∧ j = 7) ∨ (q = 23 ∧ j = 8) ∨ (q = 1 ∧ j = 17) ∨ (q = 1 ∧ j = 18) ∨ q = 20 ∨ (q = 39 ∧ j = 6) ∨ (q = 39 ∧ j = 8) ∨ q = 40 ∨ (q = 41 ∧ j = 0) ∨ (q = 41 ∧ j = 1) ∨ (q = 41 ∧ j = 2) ∨ q = (t + 13) ∨ q = (t + 14) ∨ (q = (t + 11) ∧ j = 1)) (V := fun q j => (q = 39 ∧ j = 3) ∨ (q = 39 ∧ j = 4) ∨ (q = 23 ∧ j = 5) ∨ (q = 23 ∧ j = 6) ∨ (q = 23 ∧ j = 7) ∨ (q = 23 ∧ j = 8)) FI68 (fun q j h => (h.elim (fun h => (Or.inl h)) (fun h => (h.elim (fun h => (Or.inr (Or.inl h))) (fun h => (h.elim (fun h => (Or.inr (Or.inr (Or.inl h)))) (fun h => (h.elim (fun h => (Or.inr (Or.inr (Or.inr (Or.inl h))))) (fun h => (h.elim (fun h => (Or.inr (Or.inr (Or.inr (Or.inr (Or.inl h)))))) (fun h => (Or.inr (Or.inr (Or.inr (Or.inr (Or.inr (Or.inl h))))))))))))))))) g181
              have FJ183 := gc_frc (W := fun q j => (q = 23 ∧ j = 9) ∨ q = (t + 12)) (V := fun q j => (q = 23 ∧ j = 9)) FJ69 (fun q j h => (Or.inl h)) k181
              have t184 := (g181 23 1).resolve_left (fun h => h.elim (fun h => absurd h.2 (gz_ne rfl)) (fun h => h.elim (fun h => absurd h.2 (gz_ne rfl)) (fun h => h.elim (fun h => absurd h.2 (gz_ne rfl)) (fun h => h.elim (fun h => absurd h.2 (gz_ne rfl)) (fun h => h.elim (fun h => absurd h.2 (gz_ne rfl)) (fun h => absurd h.2 (gz_ne rfl)))))))
              have t185 := (g181 1 17).resolve_left (fun h => h.elim (fun h => absurd h.2 (gz_ne rfl)) (fun h => h.elim (fun h => absurd h.2 (gz_ne rfl)) (fun h => h.elim (fun h => absurd h.2 (gz_ne rfl)) (fun h => h.elim (fun h => absurd h.2 (gz_ne rfl)) (fun h => h.elim (fun h => absurd h.2 (gz_ne rfl)) (fun h => absurd h.2 (gz_ne rfl)))))))
              have t186 := (g181 (t + 11) 1).resolve_left (fun h => h.elim (fun h => absurd h.2 (gz_ne rfl)) (fun h => h.elim (fun h => absurd h.2 (gz_ne rfl)) (fun h => h.elim (fun h => absurd h.2 (gz_ne rfl)) (fun h => h.elim (fun h => absurd h.2 (gz_ne rfl)) (fun h => h.elim (fun h => absurd h.2 (gz_ne rfl)) (fun h => absurd h.2 (gz_ne rfl)))))))
              have t187 := (g181 41 0).resolve_left (fun h => h.elim (fun h => absurd h.2 (gz_ne rfl)) (fun h => h.elim (fun h => absurd h.2 (gz_ne rfl)) (fun h => h.elim (fun h => absurd h.2 (gz_ne rfl)) (fun h => h.elim (fun h => absurd h.2 (gz_ne rfl)) (fun h => h.elim (fun h => absurd h.2 (gz_ne rfl)) (fun h => absurd h.2 (gz_ne rfl)))))))
              have t188 := (g181 41 1).resolve_left (fun h => h.elim (fun h => absurd h.2 (gz_ne rfl)) (fun h => h.elim (fun h => absurd h.2 (gz_ne rfl)) (fun h => h.elim (fun h => absurd h.2 (gz_ne rfl)) (fun h => h.elim (fun h => absurd h.2 (gz_ne rfl)) (fun h => h.elim (fun h => absurd h.2 (gz_ne rfl)) (fun h => absurd h.2 (gz_ne rfl)))))))
              have t189 := (g181 41 2).resolve_left (fun h => h.elim (fun h => absurd h.2 (gz_ne rfl)) (fun h => h.elim (fun h => absurd h.2 (gz_ne rfl)) (fun h => h.elim (fun h => absurd h.2 (gz_ne rfl)) (fun h => h.elim (fun h => absurd h.2 (gz_ne rfl)) (fun h => h.elim (fun h => absurd h.2 (gz_ne rfl)) (fun h => absurd h.2 (gz_ne rfl)))))))
              have t190 := (g181 39 5).resolve_left (fun h => h.elim (fun h => absurd h.2 (gz_ne rfl)) (fun h => h.elim (fun h => absurd h.2 (gz_ne rfl)) (fun h => h.elim (fun h => absurd h.1 (gz_ne rfl)) (fun h => h.elim (fun h => absurd h.2 (gz_ne rfl)) (fun h => h.elim (fun h => absurd h.2 (gz_ne rfl)) (fun h => absurd h.2 (gz_ne rfl)))))))
              have t191 := (g181 1 18).resolve_left (fun h => h.elim (fun h => absurd h.2 (gz_ne rfl)) (fun h => h.elim (fun h => absurd h.2 (gz_ne rfl)) (fun h => h.elim (fun h => absurd h.2 (gz_ne rfl)) (fun h => h.elim (fun h => absurd h.2 (gz_ne rfl)) (fun h => h.elim (fun h => absurd h.2 (gz_ne rfl)) (fun h => absurd h.2 (gz_ne rfl)))))))
              have t192 := (g181 39 8).resolve_left (fun h => h.elim (fun h => absurd h.2 (gz_ne rfl)) (fun h => h.elim (fun h => absurd h.2 (gz_ne rfl)) (fun h => h.elim (fun h => absurd h.2 (gz_ne rfl)) (fun h => h.elim (fun h => absurd h.2 (gz_ne rfl)) (fun h => h.elim (fun h => absurd h.2 (gz_ne rfl)) (fun h => absurd h.1 (gz_ne rfl)))))))
              have t193 := (g181 39 2).resolve_left (fun h => h.elim (fun h => absurd h.2 (gz_ne rfl)) (fun h => h.elim (fun h => absurd h.2 (gz_ne rfl)) (fun h => h.elim (fun h => absurd h.2 (gz_ne rfl)) (fun h => h.elim (fun h => absurd h.2 (gz_ne rfl)) (fun h => h.elim (fun h => absurd h.2 (gz_ne rfl)) (fun h => absurd h.2 (gz_ne rfl)))))))
              have f194 := (gc_b_3_5 hI182 R_23)
              have f195 := (gc_b_3_6 hI182 R_23)
              have f196 := (gc_b_3_7 hI182 R_23)
              have t197 := gc_TK_mo KTK_I182
              have KPK_I182 := gc_PKs_fr KPK_I68 ((g181 1 17).resolve_left (fun h => h.elim (fun h => absurd h.2 (gz_ne rfl)) (fun h => h.elim (fun h => absurd h.2 (gz_ne rfl)) (fun h => h.elim (fun h => absurd h.2 (gz_ne rfl)) (fun h => h.elim (fun h => absurd h.2 (gz_ne rfl)) (fun h => h.elim (fun h => absurd h.2 (gz_ne rfl)) (fun h => absurd h.2 (gz_ne rfl)))))))) (fun k => (g181 20 k).resolve_left (fun h => h.elim (fun h => absurd h.1 (gz_ne rfl)) (fun h => h.elim (fun h => absurd h.1 (gz_ne rfl)) (fun h => h.elim (fun h => absurd h.1 (gz_ne rfl)) (fun h => h.elim (fun h => absurd h.1 (gz_ne rfl)) (fun h => h.elim (fun h => absurd h.1 (gz_ne rfl)) (fun h => absurd h.1 (gz_ne rfl))))))))
              refine gv_callV hD rfl (As := [.inl 0]) (st := []) rfl B_39 S_39 rfl (gc_lV6 hws rfl) (Nat.le_of_ble_eq_true rfl) (gz_Ev_mono (d := 4) (by decide) E181) ?_
              show gv_X _ _ (185, [(0, .inr (.inr (some 39))), (1, .inr (.inl v1_17)), (3, .inl v3_35)], [.inl z181], sh, gc_h sh I182 J183 A)
              refine gv_if_ne (t := 190) hD rfl rfl ⟨by exact gz_m 156 (by omega), by exact gz_m 157 (by omega)⟩ (fun c198 => ?_) (fun c198 => ?_)
              · show gv_X _ _ (190, [(0, .inr (.inr (some 39))), (1, .inr (.inl v1_17)), (3, .inl v3_35)], [], sh, gc_h sh I182 J183 A)
                have V199 := q181.2.2.2.2.2
                rw [show I68 39 5 = I 39 5 from by exact gz_m 158 (by omega)] at V199
                rw [show (if (0 : Int) = 0 then (1 : Int) else 0) = 1 from if_pos rfl] at V199
                obtain ⟨u199, A199⟩ := gs_or1 V199 (by exact gz_m 159 (by omega))
                have t200 := gc_AT_l A199
                refine gv_run 1 true hD (pc' := 191) (lv' := [(0, .inr (.inr (some 39))), (1, .inr (.inl v1_17)), (3, .inl v3_35)]) (st' := [.inr (.inr (some 39))]) (h' := gc_h sh I182 J183 A) (C := (True ∧ True)) rfl ⟨trivial, trivial⟩ ?_
                refine gv_get hD rfl rfl S_39 ⟨by decide, B_39⟩ (gc_h5 (t := t) S_39 rfl (by exact gz_m 160 (by omega))) ?_
                show gv_X _ _ (194, [(0, .inr (.inr (some 39))), (1, .inr (.inl v1_17)), (3, .inl v3_35)], [.inr (.inr (some t))], sh, gc_h sh I182 J183 A)
                refine gv_get hD rfl rfl S_t ⟨by decide, B_t⟩ (gc_hA S_t rfl A_t_8) ?_
                show gv_X _ _ (197, [(0, .inr (.inr (some 39))), (1, .inr (.inl v1_17)), (3, .inl v3_35)], [.inr (.inr (some (t + 11)))], sh, gc_h sh I182 J183 A)
                have f201 := (show 0 ≤ I182 (t + 11) 1 ∧ I182 (t + 11) 1 ≤ 24 from gc_in2 hI182 R_t_11 rfl rfl rfl)
                refine gv_get hD rfl rfl S_t_11 ⟨by decide, B_t_11⟩ (gc_hI S_t_11 rfl) ?_
                show gv_X _ _ (200, [(0, .inr (.inr (some 39))), (1, .inr (.inl v1_17)), (3, .inl v3_35)], [.inl (I182 (t + 11) 1)], sh, gc_h sh I182 J183 A)
                refine gv_run 2 true hD (pc' := 203) (lv' := [(5, .inl (I182 (t + 11) 1)), (0, .inr (.inr (some 39))), (1, .inr (.inl v1_17)), (3, .inl v3_35)]) (st' := [.inr (.inr (some 39))]) (h' := gc_h sh I182 J183 A) (C := ((True ∧ True) ∧ True)) rfl ⟨⟨trivial, trivial⟩, trivial⟩ ?_
                refine gv_get hD rfl rfl S_39 ⟨by decide, B_39⟩ (gc_h5 (t := t) S_39 rfl (by exact gz_m 161 (by omega))) ?_
                show gv_X _ _ (206, [(5, .inl (I182 (t + 11) 1)), (0, .inr (.inr (some 39))), (1, .inr (.inl v1_17)), (3, .inl v3_35)], [.inr (.inr (some t))], sh, gc_h sh I182 J183 A)
                refine gv_get hD rfl rfl S_t ⟨by decide, B_t⟩ (gc_hA S_t rfl A_t_8) ?_
                show gv_X _ _ (209, [(5, .inl (I182 (t + 11) 1)), (0, .inr (.inr (some 39))), (1, .inr (.inl v1_17)), (3, .inl v3_35)], [.inr (.inr (some (t + 11)))], sh, gc_h sh I182 J183 A)
                refine gv_run 1 true hD (pc' := 210) (lv' := [(5, .inl (I182 (t + 11) 1)), (0, .inr (.inr (some 39))), (1, .inr (.inl v1_17)), (3, .inl v3_35)]) (st' := [.inr (.inl v1_17), .inr (.inr (some (t + 11)))]) (h' := gc_h sh I182 J183 A) (C := (True ∧ True)) rfl ⟨trivial, trivial⟩ ?_
                obtain ⟨r202, h202, E202, P202⟩ := d_X4_put_p (ws0 := ws0) (tb := tb) hws htb sh ro I182 J183 A hI182 (t + 11) 24 8 v1_17 h_t_11     
                obtain ⟨I203, J204, rfl, hI203, g202, k202, ⟨rfl, q202⟩⟩ := P202
                have FI203 := gc_frc (W := fun q j => (q = 39 ∧ j = 3) ∨ (q = 39 ∧ j = 4) ∨ (q = 23 ∧ j = 5) ∨ (q = 23 ∧ j = 6) ∨ (q = 23 ∧ j = 7) ∨ (q = 23 ∧ j = 8) ∨ (q = 1 ∧ j = 17) ∨ (q = 1 ∧ j = 18) ∨ q = 20 ∨ (q = 39 ∧ j = 6) ∨ (q = 39 ∧ j = 8) ∨ q = 40 ∨ (q = 41 ∧ j = 0) ∨ (q = 41 ∧ j = 1) ∨ (q = 41 ∧ j = 2) ∨ q = (t + 13) ∨ q = (t + 14) ∨ (q = (t + 11) ∧ j = 1)) (V := fun q j => (q = (t + 11) ∧ j = 1)) FI182 (fun q j h => (Or.inr (Or.inr (Or.inr (Or.inr (Or.inr (Or.inr (Or.inr (Or.inr (Or.inr (Or.inr (Or.inr (Or.inr (Or.inr (Or.inr (Or.inr (Or.inr (Or.inr h)))))))))))))))))) g202
                have FJ204 := gc_frc (W := fun q j => (q = 23 ∧ j = 9) ∨ q = (t + 12)) (V := fun q j => q = (t + 12)) FJ183 (fun q j h => (Or.inr h)) k202
                have t205 := (g202 23 1).resolve_left (fun h => absurd h.1 N_23__t_11)
                have t206 := (g202 23 5).resolve_left (fun h => absurd h.2 (gz_ne rfl))
                have t207 := (g202 23 6).resolve_left (fun h => absurd h.2 (gz_ne rfl))
                have t208 := (g202 23 7).resolve_left (fun h => absurd h.2 (gz_ne rfl))
                have t209 := (g202 1 17).resolve_left (fun h => absurd h.2 (gz_ne rfl))
                have t210 := (g202 41 0).resolve_left (fun h => absurd h.2 (gz_ne rfl))
                have t211 := (g202 41 1).resolve_left (fun h => absurd h.1 N_41__t_11)
                have t212 := (g202 41 2).resolve_left (fun h => absurd h.2 (gz_ne rfl))
                have t213 := (g202 39 5).resolve_left (fun h => absurd h.2 (gz_ne rfl))
                have t214 := (g202 1 18).resolve_left (fun h => absurd h.2 (gz_ne rfl))
                have t215 := (g202 39 8).resolve_left (fun h => absurd h.2 (gz_ne rfl))
                have t216 := (g202 39 2).resolve_left (fun h => absurd h.2 (gz_ne rfl))
                have f217 := (show 0 ≤ I203 (t + 11) 1 ∧ I203 (t + 11) 1 ≤ 24 from gc_in2 hI203 R_t_11 rfl rfl rfl)
                have KLT_I203 := gc_LT_fr KLT_I182 ((g202 23 5).resolve_left (fun h => absurd h.2 (gz_ne rfl))) ((g202 23 6).resolve_left (fun h => absurd h.2 (gz_ne rfl))) ((g202 23 7).resolve_left (fun h => absurd h.2 (gz_ne rfl))) (fun k => (g202 24 k).resolve_left (fun h => absurd h.1 N_24__t_11))
                have KTK_I203 := gc_TK_fr KTK_I182 ((g202 23 1).resolve_left (fun h => absurd h.1 N_23__t_11)) ((g202 23 5).resolve_left (fun h => absurd h.2 (gz_ne rfl))) ((g202 23 6).resolve_left (fun h => absurd h.2 (gz_ne rfl))) ((g202 23 7).resolve_left (fun h => absurd h.2 (gz_ne rfl)))
                have KPK_I203 := gc_PKs_fr KPK_I182 ((g202 1 17).resolve_left (fun h => absurd h.2 (gz_ne rfl))) (fun k => (g202 20 k).resolve_left (fun h => absurd h.1 N_20__t_11))
                have A218 := gc_AT_I A199 ((g202 23 1).resolve_left (fun h => absurd h.1 N_23__t_11)) ((g202 23 5).resolve_left (fun h => absurd h.2 (gz_ne rfl))) ((g202 23 6).resolve_left (fun h => absurd h.2 (gz_ne rfl))) ((g202 23 7).resolve_left (fun h => absurd h.2 (gz_ne rfl))) ((g202 23 8).resolve_left (fun h => absurd h.2 (gz_ne rfl))) (fun k => (g202 24 k).resolve_left (fun h => absurd h.1 N_24__t_11))
                have A219 := gc_AT_J A218 ((k202 23 9).resolve_left (fun h => absurd h N_23__t_12))
                have t220 := gc_AT_l A219
                refine gv_callV hD rfl (As := [.inr (.inl v1_17)]) (st := []) rfl B_t_11 S_t_11 rfl (gc_lV6 hws rfl) (Nat.le_of_ble_eq_true rfl) (gz_Ev_mono (d := 1) (by decide) E202) ?_
                show gv_X _ _ (213, [(5, .inl (I182 (t + 11) 1)), (0, .inr (.inr (some 39))), (1, .inr (.inl v1_17)), (3, .inl v3_35)], [], sh, gc_h sh I203 J204 A)
                refine gv_run 1 true hD (pc' := 214) (lv' := [(5, .inl (I182 (t + 11) 1)), (0, .inr (.inr (some 39))), (1, .inr (.inl v1_17)), (3, .inl v3_35)]) (st' := [.inr (.inr (some 39))]) (h' := gc_h sh I203 J204 A) (C := (True ∧ True)) rfl ⟨trivial, trivial⟩ ?_
                refine gv_get hD rfl rfl S_39 ⟨by decide, B_39⟩ (gc_h5 (t := t) S_39 rfl (by exact gz_m 162 (by omega))) ?_
                show gv_X _ _ (217, [(5, .inl (I182 (t + 11) 1)), (0, .inr (.inr (some 39))), (1, .inr (.inl v1_17)), (3, .inl v3_35)], [.inr (.inr (some t))], sh, gc_h sh I203 J204 A)
                refine gv_get hD rfl rfl S_t ⟨by decide, B_t⟩ (gc_hA S_t rfl A_t_9) ?_
                show gv_X _ _ (220, [(5, .inl (I182 (t + 11) 1)), (0, .inr (.inr (some 39))), (1, .inr (.inl v1_17)), (3, .inl v3_35)], [.inr (.inr (some (t + 13)))], sh, gc_h sh I203 J204 A)
                refine gv_run 2 true hD (pc' := 223) (lv' := [(5, .inl (I182 (t + 11) 1)), (0, .inr (.inr (some 39))), (1, .inr (.inl v1_17)), (3, .inl v3_35)]) (st' := [.inr (.inr (some 39)), .inl (I182 (t + 11) 1), .inr (.inr (some (t + 13)))]) (h' := gc_h sh I203 J204 A) (C := ((True ∧ True) ∧ True)) rfl ⟨⟨trivial, trivial⟩, trivial⟩ ?_
                have f221 := (gc_b_42_8 hI203 R_39)
                refine gv_get hD rfl rfl S_39 ⟨by decide, B_39⟩ (gc_hI S_39 rfl) ?_
                show gv_X _ _ (226, [(5, .inl (I182 (t + 11) 1)), (0, .inr (.inr (some 39))), (1, .inr (.inl v1_17)), (3, .inl v3_35)], [.inl (I203 39 8), .inl (I182 (t + 11) 1), .inr (.inr (some (t + 13)))], sh, gc_h sh I203 J204 A)
                refine gv_iast hD rfl S_t_13 ⟨by decide, B_t_13⟩ ⟨by exact gz_m 163 (by omega), by exact gz_m 164 (by omega)⟩ ?_
                refine gc_st hI203 S_t_13 rfl R_t_13 (lo := 0) (hi := 24) rfl rfl (by exact gz_m 165 (by omega)) (by exact gz_m 166 (by omega)) (fun I222 hI222 q223 p223 => ?_)
                have FI222 := gc_frs (W := fun q j => (q = 39 ∧ j = 3) ∨ (q = 39 ∧ j = 4) ∨ (q = 23 ∧ j = 5) ∨ (q = 23 ∧ j = 6) ∨ (q = 23 ∧ j = 7) ∨ (q = 23 ∧ j = 8) ∨ (q = 1 ∧ j = 17) ∨ (q = 1 ∧ j = 18) ∨ q = 20 ∨ (q = 39 ∧ j = 6) ∨ (q = 39 ∧ j = 8) ∨ q = 40 ∨ (q = 41 ∧ j = 0) ∨ (q = 41 ∧ j = 1) ∨ (q = 41 ∧ j = 2) ∨ q = (t + 13) ∨ q = (t + 14) ∨ (q = (t + 11) ∧ j = 1)) FI203 (Or.inr (Or.inr (Or.inr (Or.inr (Or.inr (Or.inr (Or.inr (Or.inr (Or.inr (Or.inr (Or.inr (Or.inr (Or.inr (Or.inr (Or.inr (Or.inl rfl)))))))))))))))) p223
                have t224 := p223 23 1 (fun h => absurd h.1 N_23__t_13)
                have t225 := p223 23 5 (fun h => absurd h.1 N_23__t_13)
                have t226 := p223 23 6 (fun h => absurd h.1 N_23__t_13)
                have t227 := p223 23 7 (fun h => absurd h.1 N_23__t_13)
                have t228 := p223 1 17 (fun h => absurd h.1 N_1__t_13)
                have t229 := p223 (t + 11) 1 (fun h => absurd h.1 N_t_11__t_13)
                have t230 := p223 41 0 (fun h => absurd h.1 N_41__t_13)
                have t231 := p223 41 1 (fun h => absurd h.1 N_41__t_13)
                have t232 := p223 41 2 (fun h => absurd h.1 N_41__t_13)
                have t233 := p223 39 5 (fun h => absurd h.1 N_39__t_13)
                have t234 := p223 1 18 (fun h => absurd h.1 N_1__t_13)
                have t235 := p223 39 8 (fun h => absurd h.1 N_39__t_13)
                have t236 := p223 39 2 (fun h => absurd h.1 N_39__t_13)
                have KLT_I222 := gc_LT_fr KLT_I203 (p223 23 5 (fun h => absurd h.1 N_23__t_13)) (p223 23 6 (fun h => absurd h.1 N_23__t_13)) (p223 23 7 (fun h => absurd h.1 N_23__t_13)) (fun k => p223 24 k (fun h => absurd h.1 N_24__t_13))
                have KTK_I222 := gc_TK_fr KTK_I203 (p223 23 1 (fun h => absurd h.1 N_23__t_13)) (p223 23 5 (fun h => absurd h.1 N_23__t_13)) (p223 23 6 (fun h => absurd h.1 N_23__t_13)) (p223 23 7 (fun h => absurd h.1 N_23__t_13))
                have KPK_I222 := gc_PKs_fr KPK_I203 (p223 1 17 (fun h => absurd h.1 N_1__t_13)) (fun k => p223 20 k (fun h => absurd h.1 N_20__t_13))
                have A237 := gc_AT_I A219 (p223 23 1 (fun h => absurd h.1 N_23__t_13)) (p223 23 5 (fun h => absurd h.1 N_23__t_13)) (p223 23 6 (fun h => absurd h.1 N_23__t_13)) (p223 23 7 (fun h => absurd h.1 N_23__t_13)) (p223 23 8 (fun h => absurd h.1 N_23__t_13)) (fun k => p223 24 k (fun h => absurd h.1 N_24__t_13))
                show gv_X _ _ (227, [(5, .inl (I182 (t + 11) 1)), (0, .inr (.inr (some 39))), (1, .inr (.inl v1_17)), (3, .inl v3_35)], [], sh, gc_h sh I222 J204 A)
                refine gv_run 1 true hD (pc' := 228) (lv' := [(5, .inl (I182 (t + 11) 1)), (0, .inr (.inr (some 39))), (1, .inr (.inl v1_17)), (3, .inl v3_35)]) (st' := [.inr (.inr (some 39))]) (h' := gc_h sh I222 J204 A) (C := (True ∧ True)) rfl ⟨trivial, trivial⟩ ?_
                refine gv_get hD rfl rfl S_39 ⟨by decide, B_39⟩ (gc_hA S_39 rfl A_39_9) ?_
                show gv_X _ _ (231, [(5, .inl (I182 (t + 11) 1)), (0, .inr (.inr (some 39))), (1, .inr (.inl v1_17)), (3, .inl v3_35)], [.inr (.inr (some 40))], sh, gc_h sh I222 J204 A)
                refine gv_run 2 true hD (pc' := 233) (lv' := [(5, .inl (I182 (t + 11) 1)), (0, .inr (.inr (some 39))), (1, .inr (.inl v1_17)), (3, .inl v3_35)]) (st' := [.inr (.inr (some 39)), .inl 0, .inr (.inr (some 40))]) (h' := gc_h sh I222 J204 A) (C := ((True ∧ True) ∧ True)) rfl ⟨⟨trivial, trivial⟩, trivial⟩ ?_
                refine gv_get hD rfl rfl S_39 ⟨by decide, B_39⟩ (gc_h5 (t := t) S_39 rfl (by exact gz_m 167 (by omega))) ?_
                show gv_X _ _ (236, [(5, .inl (I182 (t + 11) 1)), (0, .inr (.inr (some 39))), (1, .inr (.inl v1_17)), (3, .inl v3_35)], [.inr (.inr (some t)), .inl 0, .inr (.inr (some 40))], sh, gc_h sh I222 J204 A)
                refine gv_get hD rfl rfl S_t ⟨by decide, B_t⟩ (gc_hA S_t rfl A_t_10) ?_
                show gv_X _ _ (239, [(5, .inl (I182 (t + 11) 1)), (0, .inr (.inr (some 39))), (1, .inr (.inl v1_17)), (3, .inl v3_35)], [.inr (.inr (some (t + 14))), .inl 0, .inr (.inr (some 40))], sh, gc_h sh I222 J204 A)
                refine gv_run 6 true hD (pc' := 247) (lv' := [(5, .inl (I182 (t + 11) 1)), (0, .inr (.inr (some 39))), (1, .inr (.inl v1_17)), (3, .inl v3_35)]) (st' := [.inr (.inr (some 39)), .inl (((I182 (t + 11) 1) * 24) * 3), .inr (.inr (some (t + 14))), .inl 0, .inr (.inr (some 40))]) (h' := gc_h sh I222 J204 A) (C := ((((((True ∧ True) ∧ True) ∧ True) ∧ True) ∧ True) ∧ True)) rfl ⟨⟨⟨⟨⟨⟨trivial, trivial⟩, trivial⟩, trivial⟩, trivial⟩, trivial⟩, trivial⟩ ?_
                have f238 := (gc_b_42_8 hI222 R_39)
                refine gv_get hD rfl rfl S_39 ⟨by decide, B_39⟩ (gc_hI S_39 rfl) ?_
                show gv_X _ _ (250, [(5, .inl (I182 (t + 11) 1)), (0, .inr (.inr (some 39))), (1, .inr (.inl v1_17)), (3, .inl v3_35)], [.inl (I222 39 8), .inl (((I182 (t + 11) 1) * 24) * 3), .inr (.inr (some (t + 14))), .inl 0, .inr (.inr (some 40))], sh, gc_h sh I222 J204 A)
                refine gv_run 2 true hD (pc' := 252) (lv' := [(5, .inl (I182 (t + 11) 1)), (0, .inr (.inr (some 39))), (1, .inr (.inl v1_17)), (3, .inl v3_35)]) (st' := [.inl ((I222 39 8) * 3), .inl (((I182 (t + 11) 1) * 24) * 3), .inr (.inr (some (t + 14))), .inl 0, .inr (.inr (some 40))]) (h' := gc_h sh I222 J204 A) (C := ((True ∧ True) ∧ True)) rfl ⟨⟨trivial, trivial⟩, trivial⟩ ?_
                refine gv_copy hD rfl (gc_lC6_263 hws) (Nat.le_of_ble_eq_true rfl) ⟨B_40, B_t_14⟩ S_40 S_t_14 (by decide) ⟨by decide, by decide⟩ ⟨by exact gz_m 168 (by omega), by exact gz_m 169 (by omega), by exact gz_m 170 (by omega)⟩ (by exact gz_m 171 (by omega)) (by exact gz_m 172 (by omega)) (fun h => absurd h (gz_ne rfl)) ?_
                refine gc_cp hI222 S_40 S_t_14 (by decide) (fun j hj => gc_cprg (m := 2) hI222 R_40 R_t_14 rfl rfl (by exact gz_m 173 (by omega))) (fun I240 hI240 p239 q239 => ?_)
                have FI240 := gc_frp (W := fun q j => (q = 39 ∧ j = 3) ∨ (q = 39 ∧ j = 4) ∨ (q = 23 ∧ j = 5) ∨ (q = 23 ∧ j = 6) ∨ (q = 23 ∧ j = 7) ∨ (q = 23 ∧ j = 8) ∨ (q = 1 ∧ j = 17) ∨ (q = 1 ∧ j = 18) ∨ q = 20 ∨ (q = 39 ∧ j = 6) ∨ (q = 39 ∧ j = 8) ∨ q = 40 ∨ (q = 41 ∧ j = 0) ∨ (q = 41 ∧ j = 1) ∨ (q = 41 ∧ j = 2) ∨ q = (t + 13) ∨ q = (t + 14) ∨ (q = (t + 11) ∧ j = 1)) (V := fun q j => q = (t + 14) ∧ Int.toNat ((((I182 (t + 11) 1) * 24) * 3)) ≤ j ∧ j < Int.toNat ((((I182 (t + 11) 1) * 24) * 3)) + Int.toNat (((I222 39 8) * 3))) FI222 (fun q j h => (Or.inr (Or.inr (Or.inr (Or.inr (Or.inr (Or.inr (Or.inr (Or.inr (Or.inr (Or.inr (Or.inr (Or.inr (Or.inr (Or.inr (Or.inr (Or.inr (Or.inl h.1)))))))))))))))))) p239
                have KLT_I240 := gc_LT_fr KLT_I222 (p239 23 5 (fun h => absurd h.1 N_23__t_14)) (p239 23 6 (fun h => absurd h.1 N_23__t_14)) (p239 23 7 (fun h => absurd h.1 N_23__t_14)) (fun k => p239 24 k (fun h => absurd h.1 N_24__t_14))
                have KTK_I240 := gc_TK_fr KTK_I222 (p239 23 1 (fun h => absurd h.1 N_23__t_14)) (p239 23 5 (fun h => absurd h.1 N_23__t_14)) (p239 23 6 (fun h => absurd h.1 N_23__t_14)) (p239 23 7 (fun h => absurd h.1 N_23__t_14))
                have KPK_I240 := gc_PKs_fr KPK_I222 (p239 1 17 (fun h => absurd h.1 N_1__t_14)) (fun k => p239 20 k (fun h => absurd h.1 N_20__t_14))
                have t242 := p239 23 1 (fun h => absurd h.1 N_23__t_14)
                have t243 := p239 23 5 (fun h => absurd h.1 N_23__t_14)
                have t244 := p239 23 6 (fun h => absurd h.1 N_23__t_14)
                have t245 := p239 23 7 (fun h => absurd h.1 N_23__t_14)
                have t246 := p239 1 17 (fun h => absurd h.1 N_1__t_14)
                have t247 := p239 (t + 11) 1 (fun h => absurd h.1 N_t_11__t_14)
                have t248 := p239 41 0 (fun h => absurd h.1 N_41__t_14)
                have t249 := p239 41 1 (fun h => absurd h.1 N_41__t_14)
                have t250 := p239 41 2 (fun h => absurd h.1 N_41__t_14)
                have t251 := p239 39 5 (fun h => absurd h.1 N_39__t_14)
                have t252 := p239 1 18 (fun h => absurd h.1 N_1__t_14)
                have t253 := p239 39 8 (fun h => absurd h.1 N_39__t_14)
                have t254 := p239 39 2 (fun h => absurd h.1 N_39__t_14)
                have t255 := gc_TK_mo KTK_I240
                have f256 := (gc_b_3_1 hI240 R_23)
                have f257 := (gc_b_3_5 hI240 R_23)
                have f258 := (gc_b_3_6 hI240 R_23)
                have f259 := (gc_b_3_7 hI240 R_23)
                have f260 := (gc_b_22_17 hI240 R_1)
                have f261 := (show 0 ≤ I240 (t + 11) 1 ∧ I240 (t + 11) 1 ≤ 24 from gc_in2 hI240 R_t_11 rfl rfl rfl)
                have f262 := (gc_b_0_0 hI240 R_41)
                have f263 := (gc_b_0_1 hI240 R_41)
                have f264 := (gc_b_0_2 hI240 R_41)
                have f265 := (gc_b_42_5 hI240 R_39)
                have f266 := (gc_b_22_18 hI240 R_1)
                have f267 := (gc_b_42_8 hI240 R_39)
                have f268 := (gc_b_42_2 hI240 R_39)
                have A269 := gc_AT_I A237 (p239 23 1 (fun h => absurd h.1 N_23__t_14)) (p239 23 5 (fun h => absurd h.1 N_23__t_14)) (p239 23 6 (fun h => absurd h.1 N_23__t_14)) (p239 23 7 (fun h => absurd h.1 N_23__t_14)) (p239 23 8 (fun h => absurd h.1 N_23__t_14)) (fun k => p239 24 k (fun h => absurd h.1 N_24__t_14))
                show gv_X _ _ (255, [(5, .inl (I182 (t + 11) 1)), (0, .inr (.inr (some 39))), (1, .inr (.inl v1_17)), (3, .inl v3_35)], [], sh, gc_h sh I240 J204 A)
                refine gv_run 1 true hD (pc' := 256) (lv' := [(5, .inl (I182 (t + 11) 1)), (0, .inr (.inr (some 39))), (1, .inr (.inl v1_17)), (3, .inl v3_35)]) (st' := [.inl 1]) (h' := gc_h sh I240 J204 A) (C := (True ∧ True)) rfl ⟨trivial, trivial⟩ ?_
                exact gv_zret hD rfl (by exact gz_m 174 (by omega)) ⟨I240, J204, rfl, hI240, FI240, FJ204, KLT_I240, KTK_I240, ⟨_, rfl, by exact gz_m 175 (by omega), by exact gz_m 176 (by omega), by exact gz_m 177 (by omega), by exact gz_m 178 (by omega), by exact gz_m 179 (by omega), KPK_I240, (Or.inl ⟨by exact gz_m 180 (by omega), by first | (exfalso; exact gz_m 181 (by omega)) | (have e9 : (gs_pat β η Ir Jr (I 39 5) p9) = (gs_done β η 1 (I 39 5) (gs_need β η 125 p_35)) := (by rw [gs_pat_e2 h9a (by exact gz_m 182 (by omega)) rfl]; unfold gs_pt4; (repeat first | rw [if_pos (by exact gz_m 183 (by omega))] | rw [if_neg (by exact gz_m 184 (by omega))])); rw [e9]; exact ⟨by exact gz_m 185 (by omega), A269, (gc_PU_af (gc_PU_tr q202.2.2.2 ((((g181 (t + 11) 1).resolve_left (by exact gz_m 186 (by omega))).trans ((g67 (t + 11) 1).resolve_left (by exact gz_m 187 (by omega)))).trans (e4_51.1)) (fun j => ((((k181 (t + 12) j).resolve_left (by exact gz_m 188 (by omega))).trans ((k67 (t + 12) j).resolve_left (by exact gz_m 189 (by omega)))).trans (e4_51.2.1 j))) e2_51) ((p239 (t + 11) 1 (fun h => absurd h.1 (by exact gz_m 190 (by omega)))).trans (p223 (t + 11) 1 (by exact gz_m 191 (by omega))))), by exact gz_m 192 (by omega), (by rw [gs_ptw_2 h9a]; exact (gs_Cpt_mk (gs_CL_fr (gs_CM_CL (h9b.resolve_right (fun h => by have h8 := h.1; exact gz_m 193 (by omega))).2) ((((g202 39 8).resolve_left (by exact gz_m 194 (by omega))).trans ((g181 39 8).resolve_left (by exact gz_m 195 (by omega)))).trans ((g67 39 8).resolve_left (by exact gz_m 196 (by omega)))) (fun j => ((((g202 40 j).resolve_left (by exact gz_m 197 (by omega))).trans ((g181 40 j).resolve_left (by exact gz_m 198 (by omega)))).trans ((g67 40 j).resolve_left (by exact gz_m 199 (by omega)))))) (by exact gz_m 200 (by omega)) p223 (q223.trans (by exact gz_m 201 (by omega))) p239 q239 ⟨by exact gz_m 202 (by omega), rfl⟩ (by exact gz_m 203 (by omega)) (fun j => (((((g202 (t + 13) j).resolve_left (by exact gz_m 204 (by omega))).trans ((g181 (t + 13) j).resolve_left (by exact gz_m 205 (by omega)))).trans ((g67 (t + 13) j).resolve_left (by exact gz_m 206 (by omega)))).trans (e4_51.2.2.1 j))) (fun j => (((((g202 (t + 14) j).resolve_left (by exact gz_m 207 (by omega))).trans ((g181 (t + 14) j).resolve_left (by exact gz_m 208 (by omega)))).trans ((g67 (t + 14) j).resolve_left (by exact gz_m 209 (by omega)))).trans (e4_51.2.2.2.1 j))) (by exact gz_m 210 (by omega)))), (by rw [h9a]; exact (gs_Cct_mk (gs_CM_kp (h9b.resolve_right (fun h => by have h8 := h.1; exact gz_m 211 (by omega))).2 ((((g202 39 8).resolve_left (by exact gz_m 212 (by omega))).trans ((g181 39 8).resolve_left (by exact gz_m 213 (by omega)))).trans ((g67 39 8).resolve_left (by exact gz_m 214 (by omega)))) (fun j => ((((g202 40 j).resolve_left (by exact gz_m 215 (by omega))).trans ((g181 40 j).resolve_left (by exact gz_m 216 (by omega)))).trans ((g67 40 j).resolve_left (by exact gz_m 217 (by omega))))) (gc_PKs_fr (gc_PKs_fr (gc_PKs_fr gc_PKs_rf ((g67 1 17).resolve_left (by exact gz_m 218 (by omega))) (fun k => ((g67 20 k).resolve_left (by exact gz_m 219 (by omega))))) ((g181 1 17).resolve_left (by exact gz_m 220 (by omega))) (fun k => ((g181 20 k).resolve_left (by exact gz_m 221 (by omega))))) ((g202 1 17).resolve_left (by exact gz_m 222 (by omega))) (fun k => ((g202 20 k).resolve_left (by exact gz_m 223 (by omega)))))) (by exact gz_m 224 (by omega)) p223 p239 q239 ⟨by exact gz_m 225 (by omega), rfl⟩ (by exact gz_m 226 (by omega)) (by exact gz_m 227 (by omega)) gc_PKs_rf (fun j => rfl)))⟩)⟩)⟩⟩
              · show gv_X _ _ (188, [(0, .inr (.inr (some 39))), (1, .inr (.inl v1_17)), (3, .inl v3_35)], [], sh, gc_h sh I182 J183 A)
                have V270 := q181.2.2.2.2.2
                rw [show I68 39 5 = I 39 5 from by exact gz_m 228 (by omega)] at V270
                rw [show (if (0 : Int) = 0 then (1 : Int) else 0) = 1 from if_pos rfl] at V270
                obtain ⟨u270, u270_⟩ := gs_or0 V270 (by exact gz_m 229 (by omega))
                refine gv_run 1 true hD (pc' := 189) (lv' := [(0, .inr (.inr (some 39))), (1, .inr (.inl v1_17)), (3, .inl v3_35)]) (st' := [.inl 0]) (h' := gc_h sh I182 J183 A) (C := (True ∧ True)) rfl ⟨trivial, trivial⟩ ?_
                exact gv_zret hD rfl (by exact gz_m 230 (by omega)) ⟨I182, J183, rfl, hI182, FI182, FJ183, KLT_I182, KTK_I182, ⟨_, rfl, by exact gz_m 231 (by omega), by exact gz_m 232 (by omega), by exact gz_m 233 (by omega), by exact gz_m 234 (by omega), by exact gz_m 235 (by omega), KPK_I182, (Or.inr ⟨by exact gz_m 236 (by omega), by first | (exfalso; exact gz_m 237 (by omega)) | (rw [gs_pat_e2 h9a (by exact gz_m 238 (by omega)) rfl]; unfold gs_pt4; (repeat first | rw [if_pos (by exact gz_m 239 (by omega))] | rw [if_neg (by exact gz_m 240 (by omega))]); exact ⟨by exact gz_m 241 (by omega), by exact gz_m 242 (by omega), ((((g181 (t + 11) 1).resolve_left (by exact gz_m 243 (by omega))).trans ((g67 (t + 11) 1).resolve_left (by exact gz_m 244 (by omega)))).trans (e4_51.1)), fun j => ⟨((((k181 (t + 12) j).resolve_left (by exact gz_m 245 (by omega))).trans ((k67 (t + 12) j).resolve_left (by exact gz_m 246 (by omega)))).trans (e4_51.2.1 j)), ((((g181 (t + 13) j).resolve_left (by exact gz_m 247 (by omega))).trans ((g67 (t + 13) j).resolve_left (by exact gz_m 248 (by omega)))).trans (e4_51.2.2.1 j)), ((((g181 (t + 14) j).resolve_left (by exact gz_m 249 (by omega))).trans ((g67 (t + 14) j).resolve_left (by exact gz_m 250 (by omega)))).trans (e4_51.2.2.2.1 j))⟩⟩)⟩)⟩⟩
            · show gv_X _ _ (177, [(0, .inr (.inr (some 39))), (1, .inr (.inl v1_17)), (3, .inl v3_35)], [.inr (.inr (some 39))], sh, gc_h sh I68 J69 A)
              refine gv_run 2 true hD (pc' := 182) (lv' := [(0, .inr (.inr (some 39))), (1, .inr (.inl v1_17)), (3, .inl v3_35)]) (st' := [.inl 1, .inr (.inr (some 39))]) (h' := gc_h sh I68 J69 A) (C := ((True ∧ True) ∧ True)) rfl ⟨⟨trivial, trivial⟩, trivial⟩ ?_
              obtain ⟨r271, h271, E271, P271⟩ := d_X6_closes_p (ws0 := ws0) (tb := tb) hws htb sh ro I68 J69 A hI68  β η (gs_need β η 125 p_35) 1 hb   ⟨by exact gz_m 251 (by omega), by exact gz_m 252 (by omega)⟩ A86 (by exact gz_m 253 (by omega)) (by exact gz_m 254 (by omega)) KLT_I68 KTK_I68
              obtain ⟨I272, J273, rfl, hI272, g271, k271, KLT_I272, KTK_I272, ⟨z271, rfl, q271⟩⟩ := P271
              have FI272 := gc_frc (W := fun q j => (q = 39 ∧ j = 3) ∨ (q = 39 ∧ j = 4) ∨ (q = 23 ∧ j = 5) ∨ (q = 23 ∧ j = 6) ∨ (q = 23 ∧ j = 7) ∨ (q = 23 ∧ j = 8) ∨ (q = 1 ∧ j = 17) ∨ (q = 1 ∧ j = 18) ∨ q = 20 ∨ (q = 39 ∧ j = 6) ∨ (q = 39 ∧ j = 8) ∨ q = 40 ∨ (q = 41 ∧ j = 0) ∨ (q = 41 ∧ j = 1) ∨ (q = 41 ∧ j = 2) ∨ q = (t + 13) ∨ q = (t + 14) ∨ (q = (t + 11) ∧ j = 1)) (V := fun q j => (q = 39 ∧ j = 3) ∨ (q = 39 ∧ j = 4) ∨ (q = 23 ∧ j = 5) ∨ (q = 23 ∧ j = 6) ∨ (q = 23 ∧ j = 7) ∨ (q = 23 ∧ j = 8)) FI68 (fun q j h => (h.elim (fun h => (Or.inl h)) (fun h => (h.elim (fun h => (Or.inr (Or.inl h))) (fun h => (h.elim (fun h => (Or.inr (Or.inr (Or.inl h)))) (fun h => (h.elim (fun h => (Or.inr (Or.inr (Or.inr (Or.inl h))))) (fun h => (h.elim (fun h => (Or.inr (Or.inr (Or.inr (Or.inr (Or.inl h)))))) (fun h => (Or.inr (Or.inr (Or.inr (Or.inr (Or.inr (Or.inl h))))))))))))))))) g271
              have FJ273 := gc_frc (W := fun q j => (q = 23 ∧ j = 9) ∨ q = (t + 12)) (V := fun q j => (q = 23 ∧ j = 9)) FJ69 (fun q j h => (Or.inl h)) k271
              have t274 := (g271 23 1).resolve_left (fun h => h.elim (fun h => absurd h.2 (gz_ne rfl)) (fun h => h.elim (fun h => absurd h.2 (gz_ne rfl)) (fun h => h.elim (fun h => absurd h.2 (gz_ne rfl)) (fun h => h.elim (fun h => absurd h.2 (gz_ne rfl)) (fun h => h.elim (fun h => absurd h.2 (gz_ne rfl)) (fun h => absurd h.2 (gz_ne rfl)))))))
              have t275 := (g271 1 17).resolve_left (fun h => h.elim (fun h => absurd h.2 (gz_ne rfl)) (fun h => h.elim (fun h => absurd h.2 (gz_ne rfl)) (fun h => h.elim (fun h => absurd h.2 (gz_ne rfl)) (fun h => h.elim (fun h => absurd h.2 (gz_ne rfl)) (fun h => h.elim (fun h => absurd h.2 (gz_ne rfl)) (fun h => absurd h.2 (gz_ne rfl)))))))
              have t276 := (g271 (t + 11) 1).resolve_left (fun h => h.elim (fun h => absurd h.2 (gz_ne rfl)) (fun h => h.elim (fun h => absurd h.2 (gz_ne rfl)) (fun h => h.elim (fun h => absurd h.2 (gz_ne rfl)) (fun h => h.elim (fun h => absurd h.2 (gz_ne rfl)) (fun h => h.elim (fun h => absurd h.2 (gz_ne rfl)) (fun h => absurd h.2 (gz_ne rfl)))))))
              have t277 := (g271 41 0).resolve_left (fun h => h.elim (fun h => absurd h.2 (gz_ne rfl)) (fun h => h.elim (fun h => absurd h.2 (gz_ne rfl)) (fun h => h.elim (fun h => absurd h.2 (gz_ne rfl)) (fun h => h.elim (fun h => absurd h.2 (gz_ne rfl)) (fun h => h.elim (fun h => absurd h.2 (gz_ne rfl)) (fun h => absurd h.2 (gz_ne rfl)))))))
              have t278 := (g271 41 1).resolve_left (fun h => h.elim (fun h => absurd h.2 (gz_ne rfl)) (fun h => h.elim (fun h => absurd h.2 (gz_ne rfl)) (fun h => h.elim (fun h => absurd h.2 (gz_ne rfl)) (fun h => h.elim (fun h => absurd h.2 (gz_ne rfl)) (fun h => h.elim (fun h => absurd h.2 (gz_ne rfl)) (fun h => absurd h.2 (gz_ne rfl)))))))
              have t279 := (g271 41 2).resolve_left (fun h => h.elim (fun h => absurd h.2 (gz_ne rfl)) (fun h => h.elim (fun h => absurd h.2 (gz_ne rfl)) (fun h => h.elim (fun h => absurd h.2 (gz_ne rfl)) (fun h => h.elim (fun h => absurd h.2 (gz_ne rfl)) (fun h => h.elim (fun h => absurd h.2 (gz_ne rfl)) (fun h => absurd h.2 (gz_ne rfl)))))))
              have t280 := (g271 39 5).resolve_left (fun h => h.elim (fun h => absurd h.2 (gz_ne rfl)) (fun h => h.elim (fun h => absurd h.2 (gz_ne rfl)) (fun h => h.elim (fun h => absurd h.1 (gz_ne rfl)) (fun h => h.elim (fun h => absurd h.2 (gz_ne rfl)) (fun h => h.elim (fun h => absurd h.2 (gz_ne rfl)) (fun h => absurd h.2 (gz_ne rfl)))))))
              have t281 := (g271 1 18).resolve_left (fun h => h.elim (fun h => absurd h.2 (gz_ne rfl)) (fun h => h.elim (fun h => absurd h.2 (gz_ne rfl)) (fun h => h.elim (fun h => absurd h.2 (gz_ne rfl)) (fun h => h.elim (fun h => absurd h.2 (gz_ne rfl)) (fun h => h.elim (fun h => absurd h.2 (gz_ne rfl)) (fun h => absurd h.2 (gz_ne rfl)))))))
              have t282 := (g271 39 8).resolve_left (fun h => h.elim (fun h => absurd h.2 (gz_ne rfl)) (fun h => h.elim (fun h => absurd h.2 (gz_ne rfl)) (fun h => h.elim (fun h => absurd h.2 (gz_ne rfl)) (fun h => h.elim (fun h => absurd h.2 (gz_ne rfl)) (fun h => h.elim (fun h => absurd h.2 (gz_ne rfl)) (fun h => absurd h.1 (gz_ne rfl)))))))
              have t283 := (g271 39 2).resolve_left (fun h => h.elim (fun h => absurd h.2 (gz_ne rfl)) (fun h => h.elim (fun h => absurd h.2 (gz_ne rfl)) (fun h => h.elim (fun h => absurd h.2 (gz_ne rfl)) (fun h => h.elim (fun h => absurd h.2 (gz_ne rfl)) (fun h => h.elim (fun h => absurd h.2 (gz_ne rfl)) (fun h => absurd h.2 (gz_ne rfl)))))))
              have f284 := (gc_b_3_5 hI272 R_23)
              have f285 := (gc_b_3_6 hI272 R_23)
              have f286 := (gc_b_3_7 hI272 R_23)
              have t287 := gc_TK_mo KTK_I272
              have KPK_I272 := gc_PKs_fr KPK_I68 ((g271 1 17).resolve_left (fun h => h.elim (fun h => absurd h.2 (gz_ne rfl)) (fun h => h.elim (fun h => absurd h.2 (gz_ne rfl)) (fun h => h.elim (fun h => absurd h.2 (gz_ne rfl)) (fun h => h.elim (fun h => absurd h.2 (gz_ne rfl)) (fun h => h.elim (fun h => absurd h.2 (gz_ne rfl)) (fun h => absurd h.2 (gz_ne rfl)))))))) (fun k => (g271 20 k).resolve_left (fun h => h.elim (fun h => absurd h.1 (gz_ne rfl)) (fun h => h.elim (fun h => absurd h.1 (gz_ne rfl)) (fun h => h.elim (fun h => absurd h.1 (gz_ne rfl)) (fun h => h.elim (fun h => absurd h.1 (gz_ne rfl)) (fun h => h.elim (fun h => absurd h.1 (gz_ne rfl)) (fun h => absurd h.1 (gz_ne rfl))))))))
              refine gv_callV hD rfl (As := [.inl 1]) (st := []) rfl B_39 S_39 rfl (gc_lV6 hws rfl) (Nat.le_of_ble_eq_true rfl) (gz_Ev_mono (d := 4) (by decide) E271) ?_
              show gv_X _ _ (185, [(0, .inr (.inr (some 39))), (1, .inr (.inl v1_17)), (3, .inl v3_35)], [.inl z271], sh, gc_h sh I272 J273 A)
              refine gv_if_ne (t := 190) hD rfl rfl ⟨by exact gz_m 255 (by omega), by exact gz_m 256 (by omega)⟩ (fun c288 => ?_) (fun c288 => ?_)
              · show gv_X _ _ (190, [(0, .inr (.inr (some 39))), (1, .inr (.inl v1_17)), (3, .inl v3_35)], [], sh, gc_h sh I272 J273 A)
                have V289 := q271.2.2.2.2.2
                rw [show I68 39 5 = I 39 5 from by exact gz_m 257 (by omega)] at V289
                rw [show (if (1 : Int) = 0 then (1 : Int) else 0) = 0 from if_neg (by decide)] at V289
                obtain ⟨u289, A289⟩ := gs_or1 V289 (by exact gz_m 258 (by omega))
                have t290 := gc_AT_l A289
                refine gv_run 1 true hD (pc' := 191) (lv' := [(0, .inr (.inr (some 39))), (1, .inr (.inl v1_17)), (3, .inl v3_35)]) (st' := [.inr (.inr (some 39))]) (h' := gc_h sh I272 J273 A) (C := (True ∧ True)) rfl ⟨trivial, trivial⟩ ?_
                refine gv_get hD rfl rfl S_39 ⟨by decide, B_39⟩ (gc_h5 (t := t) S_39 rfl (by exact gz_m 259 (by omega))) ?_
                show gv_X _ _ (194, [(0, .inr (.inr (some 39))), (1, .inr (.inl v1_17)), (3, .inl v3_35)], [.inr (.inr (some t))], sh, gc_h sh I272 J273 A)
                refine gv_get hD rfl rfl S_t ⟨by decide, B_t⟩ (gc_hA S_t rfl A_t_8) ?_
                show gv_X _ _ (197, [(0, .inr (.inr (some 39))), (1, .inr (.inl v1_17)), (3, .inl v3_35)], [.inr (.inr (some (t + 11)))], sh, gc_h sh I272 J273 A)
                have f291 := (show 0 ≤ I272 (t + 11) 1 ∧ I272 (t + 11) 1 ≤ 24 from gc_in2 hI272 R_t_11 rfl rfl rfl)
                refine gv_get hD rfl rfl S_t_11 ⟨by decide, B_t_11⟩ (gc_hI S_t_11 rfl) ?_
                show gv_X _ _ (200, [(0, .inr (.inr (some 39))), (1, .inr (.inl v1_17)), (3, .inl v3_35)], [.inl (I272 (t + 11) 1)], sh, gc_h sh I272 J273 A)
                refine gv_run 2 true hD (pc' := 203) (lv' := [(5, .inl (I272 (t + 11) 1)), (0, .inr (.inr (some 39))), (1, .inr (.inl v1_17)), (3, .inl v3_35)]) (st' := [.inr (.inr (some 39))]) (h' := gc_h sh I272 J273 A) (C := ((True ∧ True) ∧ True)) rfl ⟨⟨trivial, trivial⟩, trivial⟩ ?_
                refine gv_get hD rfl rfl S_39 ⟨by decide, B_39⟩ (gc_h5 (t := t) S_39 rfl (by exact gz_m 260 (by omega))) ?_
                show gv_X _ _ (206, [(5, .inl (I272 (t + 11) 1)), (0, .inr (.inr (some 39))), (1, .inr (.inl v1_17)), (3, .inl v3_35)], [.inr (.inr (some t))], sh, gc_h sh I272 J273 A)
                refine gv_get hD rfl rfl S_t ⟨by decide, B_t⟩ (gc_hA S_t rfl A_t_8) ?_
                show gv_X _ _ (209, [(5, .inl (I272 (t + 11) 1)), (0, .inr (.inr (some 39))), (1, .inr (.inl v1_17)), (3, .inl v3_35)], [.inr (.inr (some (t + 11)))], sh, gc_h sh I272 J273 A)
                refine gv_run 1 true hD (pc' := 210) (lv' := [(5, .inl (I272 (t + 11) 1)), (0, .inr (.inr (some 39))), (1, .inr (.inl v1_17)), (3, .inl v3_35)]) (st' := [.inr (.inl v1_17), .inr (.inr (some (t + 11)))]) (h' := gc_h sh I272 J273 A) (C := (True ∧ True)) rfl ⟨trivial, trivial⟩ ?_
                obtain ⟨r292, h292, E292, P292⟩ := d_X4_put_p (ws0 := ws0) (tb := tb) hws htb sh ro I272 J273 A hI272 (t + 11) 24 8 v1_17 h_t_11     
                obtain ⟨I293, J294, rfl, hI293, g292, k292, ⟨rfl, q292⟩⟩ := P292
                have FI293 := gc_frc (W := fun q j => (q = 39 ∧ j = 3) ∨ (q = 39 ∧ j = 4) ∨ (q = 23 ∧ j = 5) ∨ (q = 23 ∧ j = 6) ∨ (q = 23 ∧ j = 7) ∨ (q = 23 ∧ j = 8) ∨ (q = 1 ∧ j = 17) ∨ (q = 1 ∧ j = 18) ∨ q = 20 ∨ (q = 39 ∧ j = 6) ∨ (q = 39 ∧ j = 8) ∨ q = 40 ∨ (q = 41 ∧ j = 0) ∨ (q = 41 ∧ j = 1) ∨ (q = 41 ∧ j = 2) ∨ q = (t + 13) ∨ q = (t + 14) ∨ (q = (t + 11) ∧ j = 1)) (V := fun q j => (q = (t + 11) ∧ j = 1)) FI272 (fun q j h => (Or.inr (Or.inr (Or.inr (Or.inr (Or.inr (Or.inr (Or.inr (Or.inr (Or.inr (Or.inr (Or.inr (Or.inr (Or.inr (Or.inr (Or.inr (Or.inr (Or.inr h)))))))))))))))))) g292
                have FJ294 := gc_frc (W := fun q j => (q = 23 ∧ j = 9) ∨ q = (t + 12)) (V := fun q j => q = (t + 12)) FJ273 (fun q j h => (Or.inr h)) k292
                have t295 := (g292 23 1).resolve_left (fun h => absurd h.1 N_23__t_11)
                have t296 := (g292 23 5).resolve_left (fun h => absurd h.2 (gz_ne rfl))
                have t297 := (g292 23 6).resolve_left (fun h => absurd h.2 (gz_ne rfl))
                have t298 := (g292 23 7).resolve_left (fun h => absurd h.2 (gz_ne rfl))
                have t299 := (g292 1 17).resolve_left (fun h => absurd h.2 (gz_ne rfl))
                have t300 := (g292 41 0).resolve_left (fun h => absurd h.2 (gz_ne rfl))
                have t301 := (g292 41 1).resolve_left (fun h => absurd h.1 N_41__t_11)
                have t302 := (g292 41 2).resolve_left (fun h => absurd h.2 (gz_ne rfl))
                have t303 := (g292 39 5).resolve_left (fun h => absurd h.2 (gz_ne rfl))
                have t304 := (g292 1 18).resolve_left (fun h => absurd h.2 (gz_ne rfl))
                have t305 := (g292 39 8).resolve_left (fun h => absurd h.2 (gz_ne rfl))
                have t306 := (g292 39 2).resolve_left (fun h => absurd h.2 (gz_ne rfl))
                have f307 := (show 0 ≤ I293 (t + 11) 1 ∧ I293 (t + 11) 1 ≤ 24 from gc_in2 hI293 R_t_11 rfl rfl rfl)
                have KLT_I293 := gc_LT_fr KLT_I272 ((g292 23 5).resolve_left (fun h => absurd h.2 (gz_ne rfl))) ((g292 23 6).resolve_left (fun h => absurd h.2 (gz_ne rfl))) ((g292 23 7).resolve_left (fun h => absurd h.2 (gz_ne rfl))) (fun k => (g292 24 k).resolve_left (fun h => absurd h.1 N_24__t_11))
                have KTK_I293 := gc_TK_fr KTK_I272 ((g292 23 1).resolve_left (fun h => absurd h.1 N_23__t_11)) ((g292 23 5).resolve_left (fun h => absurd h.2 (gz_ne rfl))) ((g292 23 6).resolve_left (fun h => absurd h.2 (gz_ne rfl))) ((g292 23 7).resolve_left (fun h => absurd h.2 (gz_ne rfl)))
                have KPK_I293 := gc_PKs_fr KPK_I272 ((g292 1 17).resolve_left (fun h => absurd h.2 (gz_ne rfl))) (fun k => (g292 20 k).resolve_left (fun h => absurd h.1 N_20__t_11))
                have A308 := gc_AT_I A289 ((g292 23 1).resolve_left (fun h => absurd h.1 N_23__t_11)) ((g292 23 5).resolve_left (fun h => absurd h.2 (gz_ne rfl))) ((g292 23 6).resolve_left (fun h => absurd h.2 (gz_ne rfl))) ((g292 23 7).resolve_left (fun h => absurd h.2 (gz_ne rfl))) ((g292 23 8).resolve_left (fun h => absurd h.2 (gz_ne rfl))) (fun k => (g292 24 k).resolve_left (fun h => absurd h.1 N_24__t_11))
                have A309 := gc_AT_J A308 ((k292 23 9).resolve_left (fun h => absurd h N_23__t_12))
                have t310 := gc_AT_l A309
                refine gv_callV hD rfl (As := [.inr (.inl v1_17)]) (st := []) rfl B_t_11 S_t_11 rfl (gc_lV6 hws rfl) (Nat.le_of_ble_eq_true rfl) (gz_Ev_mono (d := 1) (by decide) E292) ?_
                show gv_X _ _ (213, [(5, .inl (I272 (t + 11) 1)), (0, .inr (.inr (some 39))), (1, .inr (.inl v1_17)), (3, .inl v3_35)], [], sh, gc_h sh I293 J294 A)
                refine gv_run 1 true hD (pc' := 214) (lv' := [(5, .inl (I272 (t + 11) 1)), (0, .inr (.inr (some 39))), (1, .inr (.inl v1_17)), (3, .inl v3_35)]) (st' := [.inr (.inr (some 39))]) (h' := gc_h sh I293 J294 A) (C := (True ∧ True)) rfl ⟨trivial, trivial⟩ ?_
                refine gv_get hD rfl rfl S_39 ⟨by decide, B_39⟩ (gc_h5 (t := t) S_39 rfl (by exact gz_m 261 (by omega))) ?_
                show gv_X _ _ (217, [(5, .inl (I272 (t + 11) 1)), (0, .inr (.inr (some 39))), (1, .inr (.inl v1_17)), (3, .inl v3_35)], [.inr (.inr (some t))], sh, gc_h sh I293 J294 A)
                refine gv_get hD rfl rfl S_t ⟨by decide, B_t⟩ (gc_hA S_t rfl A_t_9) ?_
                show gv_X _ _ (220, [(5, .inl (I272 (t + 11) 1)), (0, .inr (.inr (some 39))), (1, .inr (.inl v1_17)), (3, .inl v3_35)], [.inr (.inr (some (t + 13)))], sh, gc_h sh I293 J294 A)
                refine gv_run 2 true hD (pc' := 223) (lv' := [(5, .inl (I272 (t + 11) 1)), (0, .inr (.inr (some 39))), (1, .inr (.inl v1_17)), (3, .inl v3_35)]) (st' := [.inr (.inr (some 39)), .inl (I272 (t + 11) 1), .inr (.inr (some (t + 13)))]) (h' := gc_h sh I293 J294 A) (C := ((True ∧ True) ∧ True)) rfl ⟨⟨trivial, trivial⟩, trivial⟩ ?_
                have f311 := (gc_b_42_8 hI293 R_39)
                refine gv_get hD rfl rfl S_39 ⟨by decide, B_39⟩ (gc_hI S_39 rfl) ?_
                show gv_X _ _ (226, [(5, .inl (I272 (t + 11) 1)), (0, .inr (.inr (some 39))), (1, .inr (.inl v1_17)), (3, .inl v3_35)], [.inl (I293 39 8), .inl (I272 (t + 11) 1), .inr (.inr (some (t + 13)))], sh, gc_h sh I293 J294 A)
                refine gv_iast hD rfl S_t_13 ⟨by decide, B_t_13⟩ ⟨by exact gz_m 262 (by omega), by exact gz_m 263 (by omega)⟩ ?_
                refine gc_st hI293 S_t_13 rfl R_t_13 (lo := 0) (hi := 24) rfl rfl (by exact gz_m 264 (by omega)) (by exact gz_m 265 (by omega)) (fun I312 hI312 q313 p313 => ?_)
                have FI312 := gc_frs (W := fun q j => (q = 39 ∧ j = 3) ∨ (q = 39 ∧ j = 4) ∨ (q = 23 ∧ j = 5) ∨ (q = 23 ∧ j = 6) ∨ (q = 23 ∧ j = 7) ∨ (q = 23 ∧ j = 8) ∨ (q = 1 ∧ j = 17) ∨ (q = 1 ∧ j = 18) ∨ q = 20 ∨ (q = 39 ∧ j = 6) ∨ (q = 39 ∧ j = 8) ∨ q = 40 ∨ (q = 41 ∧ j = 0) ∨ (q = 41 ∧ j = 1) ∨ (q = 41 ∧ j = 2) ∨ q = (t + 13) ∨ q = (t + 14) ∨ (q = (t + 11) ∧ j = 1)) FI293 (Or.inr (Or.inr (Or.inr (Or.inr (Or.inr (Or.inr (Or.inr (Or.inr (Or.inr (Or.inr (Or.inr (Or.inr (Or.inr (Or.inr (Or.inr (Or.inl rfl)))))))))))))))) p313
                have t314 := p313 23 1 (fun h => absurd h.1 N_23__t_13)
                have t315 := p313 23 5 (fun h => absurd h.1 N_23__t_13)
                have t316 := p313 23 6 (fun h => absurd h.1 N_23__t_13)
                have t317 := p313 23 7 (fun h => absurd h.1 N_23__t_13)
                have t318 := p313 1 17 (fun h => absurd h.1 N_1__t_13)
                have t319 := p313 (t + 11) 1 (fun h => absurd h.1 N_t_11__t_13)
                have t320 := p313 41 0 (fun h => absurd h.1 N_41__t_13)
                have t321 := p313 41 1 (fun h => absurd h.1 N_41__t_13)
                have t322 := p313 41 2 (fun h => absurd h.1 N_41__t_13)
                have t323 := p313 39 5 (fun h => absurd h.1 N_39__t_13)
                have t324 := p313 1 18 (fun h => absurd h.1 N_1__t_13)
                have t325 := p313 39 8 (fun h => absurd h.1 N_39__t_13)
                have t326 := p313 39 2 (fun h => absurd h.1 N_39__t_13)
                have KLT_I312 := gc_LT_fr KLT_I293 (p313 23 5 (fun h => absurd h.1 N_23__t_13)) (p313 23 6 (fun h => absurd h.1 N_23__t_13)) (p313 23 7 (fun h => absurd h.1 N_23__t_13)) (fun k => p313 24 k (fun h => absurd h.1 N_24__t_13))
                have KTK_I312 := gc_TK_fr KTK_I293 (p313 23 1 (fun h => absurd h.1 N_23__t_13)) (p313 23 5 (fun h => absurd h.1 N_23__t_13)) (p313 23 6 (fun h => absurd h.1 N_23__t_13)) (p313 23 7 (fun h => absurd h.1 N_23__t_13))
                have KPK_I312 := gc_PKs_fr KPK_I293 (p313 1 17 (fun h => absurd h.1 N_1__t_13)) (fun k => p313 20 k (fun h => absurd h.1 N_20__t_13))
                have A327 := gc_AT_I A309 (p313 23 1 (fun h => absurd h.1 N_23__t_13)) (p313 23 5 (fun h => absurd h.1 N_23__t_13)) (p313 23 6 (fun h => absurd h.1 N_23__t_13)) (p313 23 7 (fun h => absurd h.1 N_23__t_13)) (p313 23 8 (fun h => absurd h.1 N_23__t_13)) (fun k => p313 24 k (fun h => absurd h.1 N_24__t_13))
                show gv_X _ _ (227, [(5, .inl (I272 (t + 11) 1)), (0, .inr (.inr (some 39))), (1, .inr (.inl v1_17)), (3, .inl v3_35)], [], sh, gc_h sh I312 J294 A)
                refine gv_run 1 true hD (pc' := 228) (lv' := [(5, .inl (I272 (t + 11) 1)), (0, .inr (.inr (some 39))), (1, .inr (.inl v1_17)), (3, .inl v3_35)]) (st' := [.inr (.inr (some 39))]) (h' := gc_h sh I312 J294 A) (C := (True ∧ True)) rfl ⟨trivial, trivial⟩ ?_
                refine gv_get hD rfl rfl S_39 ⟨by decide, B_39⟩ (gc_hA S_39 rfl A_39_9) ?_
                show gv_X _ _ (231, [(5, .inl (I272 (t + 11) 1)), (0, .inr (.inr (some 39))), (1, .inr (.inl v1_17)), (3, .inl v3_35)], [.inr (.inr (some 40))], sh, gc_h sh I312 J294 A)
                refine gv_run 2 true hD (pc' := 233) (lv' := [(5, .inl (I272 (t + 11) 1)), (0, .inr (.inr (some 39))), (1, .inr (.inl v1_17)), (3, .inl v3_35)]) (st' := [.inr (.inr (some 39)), .inl 0, .inr (.inr (some 40))]) (h' := gc_h sh I312 J294 A) (C := ((True ∧ True) ∧ True)) rfl ⟨⟨trivial, trivial⟩, trivial⟩ ?_
                refine gv_get hD rfl rfl S_39 ⟨by decide, B_39⟩ (gc_h5 (t := t) S_39 rfl (by exact gz_m 266 (by omega))) ?_
                show gv_X _ _ (236, [(5, .inl (I272 (t + 11) 1)), (0, .inr (.inr (some 39))), (1, .inr (.inl v1_17)), (3, .inl v3_35)], [.inr (.inr (some t)), .inl 0, .inr (.inr (some 40))], sh, gc_h sh I312 J294 A)
                refine gv_get hD rfl rfl S_t ⟨by decide, B_t⟩ (gc_hA S_t rfl A_t_10) ?_
                show gv_X _ _ (239, [(5, .inl (I272 (t + 11) 1)), (0, .inr (.inr (some 39))), (1, .inr (.inl v1_17)), (3, .inl v3_35)], [.inr (.inr (some (t + 14))), .inl 0, .inr (.inr (some 40))], sh, gc_h sh I312 J294 A)
                refine gv_run 6 true hD (pc' := 247) (lv' := [(5, .inl (I272 (t + 11) 1)), (0, .inr (.inr (some 39))), (1, .inr (.inl v1_17)), (3, .inl v3_35)]) (st' := [.inr (.inr (some 39)), .inl (((I272 (t + 11) 1) * 24) * 3), .inr (.inr (some (t + 14))), .inl 0, .inr (.inr (some 40))]) (h' := gc_h sh I312 J294 A) (C := ((((((True ∧ True) ∧ True) ∧ True) ∧ True) ∧ True) ∧ True)) rfl ⟨⟨⟨⟨⟨⟨trivial, trivial⟩, trivial⟩, trivial⟩, trivial⟩, trivial⟩, trivial⟩ ?_
                have f328 := (gc_b_42_8 hI312 R_39)
                refine gv_get hD rfl rfl S_39 ⟨by decide, B_39⟩ (gc_hI S_39 rfl) ?_
                show gv_X _ _ (250, [(5, .inl (I272 (t + 11) 1)), (0, .inr (.inr (some 39))), (1, .inr (.inl v1_17)), (3, .inl v3_35)], [.inl (I312 39 8), .inl (((I272 (t + 11) 1) * 24) * 3), .inr (.inr (some (t + 14))), .inl 0, .inr (.inr (some 40))], sh, gc_h sh I312 J294 A)
                refine gv_run 2 true hD (pc' := 252) (lv' := [(5, .inl (I272 (t + 11) 1)), (0, .inr (.inr (some 39))), (1, .inr (.inl v1_17)), (3, .inl v3_35)]) (st' := [.inl ((I312 39 8) * 3), .inl (((I272 (t + 11) 1) * 24) * 3), .inr (.inr (some (t + 14))), .inl 0, .inr (.inr (some 40))]) (h' := gc_h sh I312 J294 A) (C := ((True ∧ True) ∧ True)) rfl ⟨⟨trivial, trivial⟩, trivial⟩ ?_
                refine gv_copy hD rfl (gc_lC6_263 hws) (Nat.le_of_ble_eq_true rfl) ⟨B_40, B_t_14⟩ S_40 S_t_14 (by decide) ⟨by decide, by decide⟩ ⟨by exact gz_m 267 (by omega), by exact gz_m 268 (by omega), by exact gz_m 269 (by omega)⟩ (by exact gz_m 270 (by omega)) (by exact gz_m 271 (by omega)) (fun h => absurd h (gz_ne rfl)) ?_
                refine gc_cp hI312 S_40 S_t_14 (by decide) (fun j hj => gc_cprg (m := 2) hI312 R_40 R_t_14 rfl rfl (by exact gz_m 272 (by omega))) (fun I330 hI330 p329 q329 => ?_)
                have FI330 := gc_frp (W := fun q j => (q = 39 ∧ j = 3) ∨ (q = 39 ∧ j = 4) ∨ (q = 23 ∧ j = 5) ∨ (q = 23 ∧ j = 6) ∨ (q = 23 ∧ j = 7) ∨ (q = 23 ∧ j = 8) ∨ (q = 1 ∧ j = 17) ∨ (q = 1 ∧ j = 18) ∨ q = 20 ∨ (q = 39 ∧ j = 6) ∨ (q = 39 ∧ j = 8) ∨ q = 40 ∨ (q = 41 ∧ j = 0) ∨ (q = 41 ∧ j = 1) ∨ (q = 41 ∧ j = 2) ∨ q = (t + 13) ∨ q = (t + 14) ∨ (q = (t + 11) ∧ j = 1)) (V := fun q j => q = (t + 14) ∧ Int.toNat ((((I272 (t + 11) 1) * 24) * 3)) ≤ j ∧ j < Int.toNat ((((I272 (t + 11) 1) * 24) * 3)) + Int.toNat (((I312 39 8) * 3))) FI312 (fun q j h => (Or.inr (Or.inr (Or.inr (Or.inr (Or.inr (Or.inr (Or.inr (Or.inr (Or.inr (Or.inr (Or.inr (Or.inr (Or.inr (Or.inr (Or.inr (Or.inr (Or.inl h.1)))))))))))))))))) p329
                have KLT_I330 := gc_LT_fr KLT_I312 (p329 23 5 (fun h => absurd h.1 N_23__t_14)) (p329 23 6 (fun h => absurd h.1 N_23__t_14)) (p329 23 7 (fun h => absurd h.1 N_23__t_14)) (fun k => p329 24 k (fun h => absurd h.1 N_24__t_14))
                have KTK_I330 := gc_TK_fr KTK_I312 (p329 23 1 (fun h => absurd h.1 N_23__t_14)) (p329 23 5 (fun h => absurd h.1 N_23__t_14)) (p329 23 6 (fun h => absurd h.1 N_23__t_14)) (p329 23 7 (fun h => absurd h.1 N_23__t_14))
                have KPK_I330 := gc_PKs_fr KPK_I312 (p329 1 17 (fun h => absurd h.1 N_1__t_14)) (fun k => p329 20 k (fun h => absurd h.1 N_20__t_14))
                have t332 := p329 23 1 (fun h => absurd h.1 N_23__t_14)
                have t333 := p329 23 5 (fun h => absurd h.1 N_23__t_14)
                have t334 := p329 23 6 (fun h => absurd h.1 N_23__t_14)
                have t335 := p329 23 7 (fun h => absurd h.1 N_23__t_14)
                have t336 := p329 1 17 (fun h => absurd h.1 N_1__t_14)
                have t337 := p329 (t + 11) 1 (fun h => absurd h.1 N_t_11__t_14)
                have t338 := p329 41 0 (fun h => absurd h.1 N_41__t_14)
                have t339 := p329 41 1 (fun h => absurd h.1 N_41__t_14)
                have t340 := p329 41 2 (fun h => absurd h.1 N_41__t_14)
                have t341 := p329 39 5 (fun h => absurd h.1 N_39__t_14)
                have t342 := p329 1 18 (fun h => absurd h.1 N_1__t_14)
                have t343 := p329 39 8 (fun h => absurd h.1 N_39__t_14)
                have t344 := p329 39 2 (fun h => absurd h.1 N_39__t_14)
                have t345 := gc_TK_mo KTK_I330
                have f346 := (gc_b_3_1 hI330 R_23)
                have f347 := (gc_b_3_5 hI330 R_23)
                have f348 := (gc_b_3_6 hI330 R_23)
                have f349 := (gc_b_3_7 hI330 R_23)
                have f350 := (gc_b_22_17 hI330 R_1)
                have f351 := (show 0 ≤ I330 (t + 11) 1 ∧ I330 (t + 11) 1 ≤ 24 from gc_in2 hI330 R_t_11 rfl rfl rfl)
                have f352 := (gc_b_0_0 hI330 R_41)
                have f353 := (gc_b_0_1 hI330 R_41)
                have f354 := (gc_b_0_2 hI330 R_41)
                have f355 := (gc_b_42_5 hI330 R_39)
                have f356 := (gc_b_22_18 hI330 R_1)
                have f357 := (gc_b_42_8 hI330 R_39)
                have f358 := (gc_b_42_2 hI330 R_39)
                have A359 := gc_AT_I A327 (p329 23 1 (fun h => absurd h.1 N_23__t_14)) (p329 23 5 (fun h => absurd h.1 N_23__t_14)) (p329 23 6 (fun h => absurd h.1 N_23__t_14)) (p329 23 7 (fun h => absurd h.1 N_23__t_14)) (p329 23 8 (fun h => absurd h.1 N_23__t_14)) (fun k => p329 24 k (fun h => absurd h.1 N_24__t_14))
                show gv_X _ _ (255, [(5, .inl (I272 (t + 11) 1)), (0, .inr (.inr (some 39))), (1, .inr (.inl v1_17)), (3, .inl v3_35)], [], sh, gc_h sh I330 J294 A)
                refine gv_run 1 true hD (pc' := 256) (lv' := [(5, .inl (I272 (t + 11) 1)), (0, .inr (.inr (some 39))), (1, .inr (.inl v1_17)), (3, .inl v3_35)]) (st' := [.inl 1]) (h' := gc_h sh I330 J294 A) (C := (True ∧ True)) rfl ⟨trivial, trivial⟩ ?_
                exact gv_zret hD rfl (by exact gz_m 273 (by omega)) ⟨I330, J294, rfl, hI330, FI330, FJ294, KLT_I330, KTK_I330, ⟨_, rfl, by exact gz_m 274 (by omega), by exact gz_m 275 (by omega), by exact gz_m 276 (by omega), by exact gz_m 277 (by omega), by exact gz_m 278 (by omega), KPK_I330, (Or.inl ⟨by exact gz_m 279 (by omega), by first | (exfalso; exact gz_m 280 (by omega)) | (have e9 : (gs_pat β η Ir Jr (I 39 5) p9) = (gs_done β η 0 (I 39 5) (gs_need β η 125 p_35)) := (by rw [gs_pat_e2 h9a (by exact gz_m 281 (by omega)) rfl]; unfold gs_pt4; (repeat first | rw [if_pos (by exact gz_m 282 (by omega))] | rw [if_neg (by exact gz_m 283 (by omega))])); rw [e9]; exact ⟨by exact gz_m 284 (by omega), A359, (gc_PU_af (gc_PU_tr q292.2.2.2 ((((g271 (t + 11) 1).resolve_left (by exact gz_m 285 (by omega))).trans ((g67 (t + 11) 1).resolve_left (by exact gz_m 286 (by omega)))).trans (e4_51.1)) (fun j => ((((k271 (t + 12) j).resolve_left (by exact gz_m 287 (by omega))).trans ((k67 (t + 12) j).resolve_left (by exact gz_m 288 (by omega)))).trans (e4_51.2.1 j))) e2_51) ((p329 (t + 11) 1 (fun h => absurd h.1 (by exact gz_m 289 (by omega)))).trans (p313 (t + 11) 1 (by exact gz_m 290 (by omega))))), by exact gz_m 291 (by omega), (by rw [gs_ptw_2 h9a]; exact (gs_Cpt_mk (gs_CL_fr (gs_CM_CL (h9b.resolve_right (fun h => by have h8 := h.1; exact gz_m 292 (by omega))).2) ((((g292 39 8).resolve_left (by exact gz_m 293 (by omega))).trans ((g271 39 8).resolve_left (by exact gz_m 294 (by omega)))).trans ((g67 39 8).resolve_left (by exact gz_m 295 (by omega)))) (fun j => ((((g292 40 j).resolve_left (by exact gz_m 296 (by omega))).trans ((g271 40 j).resolve_left (by exact gz_m 297 (by omega)))).trans ((g67 40 j).resolve_left (by exact gz_m 298 (by omega)))))) (by exact gz_m 299 (by omega)) p313 (q313.trans (by exact gz_m 300 (by omega))) p329 q329 ⟨by exact gz_m 301 (by omega), rfl⟩ (by exact gz_m 302 (by omega)) (fun j => (((((g292 (t + 13) j).resolve_left (by exact gz_m 303 (by omega))).trans ((g271 (t + 13) j).resolve_left (by exact gz_m 304 (by omega)))).trans ((g67 (t + 13) j).resolve_left (by exact gz_m 305 (by omega)))).trans (e4_51.2.2.1 j))) (fun j => (((((g292 (t + 14) j).resolve_left (by exact gz_m 306 (by omega))).trans ((g271 (t + 14) j).resolve_left (by exact gz_m 307 (by omega)))).trans ((g67 (t + 14) j).resolve_left (by exact gz_m 308 (by omega)))).trans (e4_51.2.2.2.1 j))) (by exact gz_m 309 (by omega)))), (by rw [h9a]; exact (gs_Cct_mk (gs_CM_kp (h9b.resolve_right (fun h => by have h8 := h.1; exact gz_m 310 (by omega))).2 ((((g292 39 8).resolve_left (by exact gz_m 311 (by omega))).trans ((g271 39 8).resolve_left (by exact gz_m 312 (by omega)))).trans ((g67 39 8).resolve_left (by exact gz_m 313 (by omega)))) (fun j => ((((g292 40 j).resolve_left (by exact gz_m 314 (by omega))).trans ((g271 40 j).resolve_left (by exact gz_m 315 (by omega)))).trans ((g67 40 j).resolve_left (by exact gz_m 316 (by omega))))) (gc_PKs_fr (gc_PKs_fr (gc_PKs_fr gc_PKs_rf ((g67 1 17).resolve_left (by exact gz_m 317 (by omega))) (fun k => ((g67 20 k).resolve_left (by exact gz_m 318 (by omega))))) ((g271 1 17).resolve_left (by exact gz_m 319 (by omega))) (fun k => ((g271 20 k).resolve_left (by exact gz_m 320 (by omega))))) ((g292 1 17).resolve_left (by exact gz_m 321 (by omega))) (fun k => ((g292 20 k).resolve_left (by exact gz_m 322 (by omega)))))) (by exact gz_m 323 (by omega)) p313 p329 q329 ⟨by exact gz_m 324 (by omega), rfl⟩ (by exact gz_m 325 (by omega)) (by exact gz_m 326 (by omega)) gc_PKs_rf (fun j => rfl)))⟩)⟩)⟩⟩
              · show gv_X _ _ (188, [(0, .inr (.inr (some 39))), (1, .inr (.inl v1_17)), (3, .inl v3_35)], [], sh, gc_h sh I272 J273 A)
                have V360 := q271.2.2.2.2.2
                rw [show I68 39 5 = I 39 5 from by exact gz_m 327 (by omega)] at V360
                rw [show (if (1 : Int) = 0 then (1 : Int) else 0) = 0 from if_neg (by decide)] at V360
                obtain ⟨u360, u360_⟩ := gs_or0 V360 (by exact gz_m 328 (by omega))
                refine gv_run 1 true hD (pc' := 189) (lv' := [(0, .inr (.inr (some 39))), (1, .inr (.inl v1_17)), (3, .inl v3_35)]) (st' := [.inl 0]) (h' := gc_h sh I272 J273 A) (C := (True ∧ True)) rfl ⟨trivial, trivial⟩ ?_
                exact gv_zret hD rfl (by exact gz_m 329 (by omega)) ⟨I272, J273, rfl, hI272, FI272, FJ273, KLT_I272, KTK_I272, ⟨_, rfl, by exact gz_m 330 (by omega), by exact gz_m 331 (by omega), by exact gz_m 332 (by omega), by exact gz_m 333 (by omega), by exact gz_m 334 (by omega), KPK_I272, (Or.inr ⟨by exact gz_m 335 (by omega), by first | (exfalso; exact gz_m 336 (by omega)) | (rw [gs_pat_e2 h9a (by exact gz_m 337 (by omega)) rfl]; unfold gs_pt4; (repeat first | rw [if_pos (by exact gz_m 338 (by omega))] | rw [if_neg (by exact gz_m 339 (by omega))]); exact ⟨by exact gz_m 340 (by omega), by exact gz_m 341 (by omega), ((((g271 (t + 11) 1).resolve_left (by exact gz_m 342 (by omega))).trans ((g67 (t + 11) 1).resolve_left (by exact gz_m 343 (by omega)))).trans (e4_51.1)), fun j => ⟨((((k271 (t + 12) j).resolve_left (by exact gz_m 344 (by omega))).trans ((k67 (t + 12) j).resolve_left (by exact gz_m 345 (by omega)))).trans (e4_51.2.1 j)), ((((g271 (t + 13) j).resolve_left (by exact gz_m 346 (by omega))).trans ((g67 (t + 13) j).resolve_left (by exact gz_m 347 (by omega)))).trans (e4_51.2.2.1 j)), ((((g271 (t + 14) j).resolve_left (by exact gz_m 348 (by omega))).trans ((g67 (t + 14) j).resolve_left (by exact gz_m 349 (by omega)))).trans (e4_51.2.2.2.1 j))⟩⟩)⟩)⟩⟩
      refine gv_run 2 true hD (pc' := 79) (lv' := [(0, .inr (.inr (some 39))), (1, .inr (.inl v1_17)), (3, .inl v3_35), (4, .inl v4_35), (5, .inl v5_35)]) (st' := [.inl 1000, .inl v5_35]) (h' := gc_h sh I33 J34 A) (C := ((True ∧ True) ∧ True)) rfl ⟨⟨trivial, trivial⟩, trivial⟩ ?_
      refine gv_icmp_ge (t := 150) hD rfl rfl ⟨⟨by exact gz_m 350 (by omega), by exact gz_m 351 (by omega)⟩, ⟨by exact gz_m 352 (by omega), by exact gz_m 353 (by omega)⟩⟩ (fun c361 => ?_) (fun c361 => ?_)
      · show gv_X _ _ (150, [(0, .inr (.inr (some 39))), (1, .inr (.inl v1_17)), (3, .inl v3_35), (4, .inl v4_35), (5, .inl v5_35)], [], sh, gc_h sh I33 J34 A)
        refine gv_pick [0, 1, 2] rfl ?_
        exact L150 (by exact gz_m 354 (by omega)) e1_35 e2_35 (by obtain ⟨V, h1, h2⟩ := id e3_35; exact ⟨V, h1.trans (if_pos (by exact gz_m 355 (by omega))), h2⟩) ⟨((e4_35.1)), (fun k => (e4_35.2.1 k)), (fun k => (e4_35.2.2.1 k)), (fun k => (e4_35.2.2.2.1 k)), ((e4_35.2.2.2.2))⟩
      · show gv_X _ _ (82, [(0, .inr (.inr (some 39))), (1, .inr (.inl v1_17)), (3, .inl v3_35), (4, .inl v4_35), (5, .inl v5_35)], [], sh, gc_h sh I33 J34 A)
        refine gv_run 1 true hD (pc' := 84) (lv' := [(0, .inr (.inr (some 39))), (1, .inr (.inl v1_17)), (3, .inl v3_35), (4, .inl v4_35), (5, .inl v5_35)]) (st' := [.inl v4_35]) (h' := gc_h sh I33 J34 A) (C := (True ∧ True)) rfl ⟨trivial, trivial⟩ ?_
        refine gv_if_eq (t := 150) hD rfl rfl ⟨by exact gz_m 356 (by omega), by exact gz_m 357 (by omega)⟩ (fun c362 => ?_) (fun c362 => ?_)
        · show gv_X _ _ (150, [(0, .inr (.inr (some 39))), (1, .inr (.inl v1_17)), (3, .inl v3_35), (4, .inl v4_35), (5, .inl v5_35)], [], sh, gc_h sh I33 J34 A)
          refine gv_pick [0, 1, 2] rfl ?_
          exact L150 (by exact gz_m 358 (by omega)) e1_35 e2_35 (by obtain ⟨V, h1, h2⟩ := id e3_35; exact ⟨V, h1.trans (if_pos (by exact gz_m 359 (by omega))), h2⟩) ⟨((e4_35.1)), (fun k => (e4_35.2.1 k)), (fun k => (e4_35.2.2.1 k)), (fun k => (e4_35.2.2.2.1 k)), ((e4_35.2.2.2.2))⟩
        · show gv_X _ _ (87, [(0, .inr (.inr (some 39))), (1, .inr (.inl v1_17)), (3, .inl v3_35), (4, .inl v4_35), (5, .inl v5_35)], [], sh, gc_h sh I33 J34 A)
          refine gv_run 1 true hD (pc' := 88) (lv' := [(0, .inr (.inr (some 39))), (1, .inr (.inl v1_17)), (3, .inl v3_35), (4, .inl v4_35), (5, .inl v5_35)]) (st' := [.inr (.inr (some 39))]) (h' := gc_h sh I33 J34 A) (C := (True ∧ True)) rfl ⟨trivial, trivial⟩ ?_
          obtain ⟨r363, h363, E363, P363⟩ := d_X6_readCell_p (ws0 := ws0) (tb := tb) hws htb sh ro I33 J34 A hI33  t B β η p_35 Ir Jr  hb  h_t G_t   (by exact gz_m 360 (by omega)) e1_35 (by exact gz_m 361 (by omega)) (by exact gz_m 362 (by omega)) (by have h9 := x6; have h8 := (show I33 (t + 3) 1 = I (t + 3) 1 from ((FI33 (t + 3) 1).resolve_left (by exact gz_m 363 (by omega)))); exact gz_m 364 (by omega)) (by rw [show I33 (t + 3) 1 = I (t + 3) 1 from ((FI33 (t + 3) 1).resolve_left (by exact gz_m 365 (by omega))), show J34 (t + 4) = J (t + 4) from funext fun j => ((FJ34 (t + 4) j).resolve_left (by exact gz_m 366 (by omega)))]; exact x7) (gs_VR_fr x8 ((FI33 (t + 3) 1).resolve_left (by exact gz_m 367 (by omega))) (fun k => ((FI33 (t + 5) k).resolve_left (by exact gz_m 368 (by omega)))) (fun k => ((FI33 (t + 6) k).resolve_left (by exact gz_m 369 (by omega))))) (by exact gz_m 370 (by omega)) KLT_I33 KTK_I33
          obtain ⟨I364, J365, rfl, hI364, g363, k363, KLT_I364, KTK_I364, ⟨z363, rfl, q363⟩⟩ := P363
          have FI364 := gc_frc (W := fun q j => (q = 39 ∧ j = 3) ∨ (q = 39 ∧ j = 4) ∨ (q = 23 ∧ j = 5) ∨ (q = 23 ∧ j = 6) ∨ (q = 23 ∧ j = 7) ∨ (q = 23 ∧ j = 8) ∨ (q = 1 ∧ j = 17) ∨ (q = 1 ∧ j = 18) ∨ q = 20 ∨ (q = 39 ∧ j = 6) ∨ (q = 39 ∧ j = 8) ∨ q = 40 ∨ (q = 41 ∧ j = 0) ∨ (q = 41 ∧ j = 1) ∨ (q = 41 ∧ j = 2) ∨ q = (t + 13) ∨ q = (t + 14) ∨ (q = (t + 11) ∧ j = 1)) (V := fun q j => (q = 39 ∧ j = 3) ∨ (q = 39 ∧ j = 4) ∨ (q = 23 ∧ j = 5) ∨ (q = 23 ∧ j = 6) ∨ (q = 23 ∧ j = 7) ∨ (q = 23 ∧ j = 8) ∨ (q = 1 ∧ j = 17) ∨ (q = 1 ∧ j = 18) ∨ q = 20 ∨ (q = 39 ∧ j = 6) ∨ (q = 41 ∧ j = 0) ∨ (q = 41 ∧ j = 1) ∨ (q = 41 ∧ j = 2)) FI33 (fun q j h => (h.elim (fun h => (Or.inl h)) (fun h => (h.elim (fun h => (Or.inr (Or.inl h))) (fun h => (h.elim (fun h => (Or.inr (Or.inr (Or.inl h)))) (fun h => (h.elim (fun h => (Or.inr (Or.inr (Or.inr (Or.inl h))))) (fun h => (h.elim (fun h => (Or.inr (Or.inr (Or.inr (Or.inr (Or.inl h)))))) (fun h => (h.elim (fun h => (Or.inr (Or.inr (Or.inr (Or.inr (Or.inr (Or.inl h))))))) (fun h => (h.elim (fun h => (Or.inr (Or.inr (Or.inr (Or.inr (Or.inr (Or.inr (Or.inl h)))))))) (fun h => (h.elim (fun h => (Or.inr (Or.inr (Or.inr (Or.inr (Or.inr (Or.inr (Or.inr (Or.inl h))))))))) (fun h => (h.elim (fun h => (Or.inr (Or.inr (Or.inr (Or.inr (Or.inr (Or.inr (Or.inr (Or.inr (Or.inl h)))))))))) (fun h => (h.elim (fun h => (Or.inr (Or.inr (Or.inr (Or.inr (Or.inr (Or.inr (Or.inr (Or.inr (Or.inr (Or.inl h))))))))))) (fun h => (h.elim (fun h => (Or.inr (Or.inr (Or.inr (Or.inr (Or.inr (Or.inr (Or.inr (Or.inr (Or.inr (Or.inr (Or.inr (Or.inr (Or.inl h)))))))))))))) (fun h => (h.elim (fun h => (Or.inr (Or.inr (Or.inr (Or.inr (Or.inr (Or.inr (Or.inr (Or.inr (Or.inr (Or.inr (Or.inr (Or.inr (Or.inr (Or.inl h))))))))))))))) (fun h => (Or.inr (Or.inr (Or.inr (Or.inr (Or.inr (Or.inr (Or.inr (Or.inr (Or.inr (Or.inr (Or.inr (Or.inr (Or.inr (Or.inr (Or.inl h)))))))))))))))))))))))))))))))))))))))) g363
          have FJ365 := gc_frc (W := fun q j => (q = 23 ∧ j = 9) ∨ q = (t + 12)) (V := fun q j => (q = 23 ∧ j = 9)) FJ34 (fun q j h => (Or.inl h)) k363
          have t366 := (g363 23 1).resolve_left (fun h => h.elim (fun h => absurd h.2 (gz_ne rfl)) (fun h => h.elim (fun h => absurd h.2 (gz_ne rfl)) (fun h => h.elim (fun h => absurd h.2 (gz_ne rfl)) (fun h => h.elim (fun h => absurd h.2 (gz_ne rfl)) (fun h => h.elim (fun h => absurd h.2 (gz_ne rfl)) (fun h => h.elim (fun h => absurd h.2 (gz_ne rfl)) (fun h => h.elim (fun h => absurd h.2 (gz_ne rfl)) (fun h => h.elim (fun h => absurd h.2 (gz_ne rfl)) (fun h => h.elim (fun h => absurd h (gz_ne rfl)) (fun h => h.elim (fun h => absurd h.2 (gz_ne rfl)) (fun h => h.elim (fun h => absurd h.2 (gz_ne rfl)) (fun h => h.elim (fun h => absurd h.1 (gz_ne rfl)) (fun h => absurd h.2 (gz_ne rfl))))))))))))))
          have t367 := (g363 (t + 11) 1).resolve_left (fun h => h.elim (fun h => absurd h.2 (gz_ne rfl)) (fun h => h.elim (fun h => absurd h.2 (gz_ne rfl)) (fun h => h.elim (fun h => absurd h.2 (gz_ne rfl)) (fun h => h.elim (fun h => absurd h.2 (gz_ne rfl)) (fun h => h.elim (fun h => absurd h.2 (gz_ne rfl)) (fun h => h.elim (fun h => absurd h.2 (gz_ne rfl)) (fun h => h.elim (fun h => absurd h.2 (gz_ne rfl)) (fun h => h.elim (fun h => absurd h.2 (gz_ne rfl)) (fun h => h.elim (fun h => absurd h N_t_11__20) (fun h => h.elim (fun h => absurd h.2 (gz_ne rfl)) (fun h => h.elim (fun h => absurd h.2 (gz_ne rfl)) (fun h => h.elim (fun h => absurd h.1 N_t_11__41) (fun h => absurd h.2 (gz_ne rfl))))))))))))))
          have t368 := (g363 39 5).resolve_left (fun h => h.elim (fun h => absurd h.2 (gz_ne rfl)) (fun h => h.elim (fun h => absurd h.2 (gz_ne rfl)) (fun h => h.elim (fun h => absurd h.1 (gz_ne rfl)) (fun h => h.elim (fun h => absurd h.2 (gz_ne rfl)) (fun h => h.elim (fun h => absurd h.2 (gz_ne rfl)) (fun h => h.elim (fun h => absurd h.2 (gz_ne rfl)) (fun h => h.elim (fun h => absurd h.2 (gz_ne rfl)) (fun h => h.elim (fun h => absurd h.2 (gz_ne rfl)) (fun h => h.elim (fun h => absurd h (gz_ne rfl)) (fun h => h.elim (fun h => absurd h.2 (gz_ne rfl)) (fun h => h.elim (fun h => absurd h.2 (gz_ne rfl)) (fun h => h.elim (fun h => absurd h.2 (gz_ne rfl)) (fun h => absurd h.2 (gz_ne rfl))))))))))))))
          have t369 := (g363 39 8).resolve_left (fun h => h.elim (fun h => absurd h.2 (gz_ne rfl)) (fun h => h.elim (fun h => absurd h.2 (gz_ne rfl)) (fun h => h.elim (fun h => absurd h.2 (gz_ne rfl)) (fun h => h.elim (fun h => absurd h.2 (gz_ne rfl)) (fun h => h.elim (fun h => absurd h.2 (gz_ne rfl)) (fun h => h.elim (fun h => absurd h.1 (gz_ne rfl)) (fun h => h.elim (fun h => absurd h.2 (gz_ne rfl)) (fun h => h.elim (fun h => absurd h.2 (gz_ne rfl)) (fun h => h.elim (fun h => absurd h (gz_ne rfl)) (fun h => h.elim (fun h => absurd h.2 (gz_ne rfl)) (fun h => h.elim (fun h => absurd h.2 (gz_ne rfl)) (fun h => h.elim (fun h => absurd h.2 (gz_ne rfl)) (fun h => absurd h.2 (gz_ne rfl))))))))))))))
          have t370 := (g363 39 2).resolve_left (fun h => h.elim (fun h => absurd h.2 (gz_ne rfl)) (fun h => h.elim (fun h => absurd h.2 (gz_ne rfl)) (fun h => h.elim (fun h => absurd h.2 (gz_ne rfl)) (fun h => h.elim (fun h => absurd h.2 (gz_ne rfl)) (fun h => h.elim (fun h => absurd h.2 (gz_ne rfl)) (fun h => h.elim (fun h => absurd h.2 (gz_ne rfl)) (fun h => h.elim (fun h => absurd h.2 (gz_ne rfl)) (fun h => h.elim (fun h => absurd h.2 (gz_ne rfl)) (fun h => h.elim (fun h => absurd h (gz_ne rfl)) (fun h => h.elim (fun h => absurd h.2 (gz_ne rfl)) (fun h => h.elim (fun h => absurd h.2 (gz_ne rfl)) (fun h => h.elim (fun h => absurd h.2 (gz_ne rfl)) (fun h => absurd h.1 (gz_ne rfl))))))))))))))
          have f371 := (gc_b_3_5 hI364 R_23)
          have f372 := (gc_b_3_6 hI364 R_23)
          have f373 := (gc_b_3_7 hI364 R_23)
          have f374 := (gc_b_22_17 hI364 R_1)
          have f375 := (gc_b_0_0 hI364 R_41)
          have f376 := (gc_b_0_1 hI364 R_41)
          have f377 := (gc_b_0_2 hI364 R_41)
          have f378 := (gc_b_22_18 hI364 R_1)
          have t379 := gc_TK_mo KTK_I364
          have l363 := q363.2.2.2.2.2.2.1
          have KPK_I364 := gc_PKs_tr KPK_I33 l363
          obtain ⟨V9, h9a, h9b⟩ := id e3_35
          have h9c : (v3_35 = 0 ∧ ((V9.length : Nat) : Int) = I33 39 8) ∨ (v3_35 = 1 ∧ 25 ≤ ((V9.length : Nat) : Int)) := h9b.imp (fun h => ⟨h.1, h.2.1⟩) id
          refine gv_callV hD rfl (As := []) (st := []) rfl B_39 S_39 rfl (gc_lV6 hws rfl) (Nat.le_of_ble_eq_true rfl) (gz_Ev_mono (d := 4) (by decide) E363) ?_
          show gv_X _ _ (91, [(0, .inr (.inr (some 39))), (1, .inr (.inl v1_17)), (3, .inl v3_35), (4, .inl v4_35), (5, .inl v5_35)], [.inl z363], sh, gc_h sh I364 J365 A)
          refine gv_if_ne (t := 96) hD rfl rfl ⟨by exact gz_m 371 (by omega), by exact gz_m 372 (by omega)⟩ (fun c380 => ?_) (fun c380 => ?_)
          · show gv_X _ _ (96, [(0, .inr (.inr (some 39))), (1, .inr (.inl v1_17)), (3, .inl v3_35), (4, .inl v4_35), (5, .inl v5_35)], [], sh, gc_h sh I364 J365 A)
            obtain ⟨u381, A381, U381⟩ := gs_or1 q363.2.2.2.2.2.2.2 (by exact gz_m 373 (by omega))
            have t382 := gc_AT_l A381
            refine gv_run 1 true hD (pc' := 97) (lv' := [(0, .inr (.inr (some 39))), (1, .inr (.inl v1_17)), (3, .inl v3_35), (4, .inl v4_35), (5, .inl v5_35)]) (st' := [.inl v3_35]) (h' := gc_h sh I364 J365 A) (C := (True ∧ True)) rfl ⟨trivial, trivial⟩ ?_
            refine gv_if_ne (t := 107) hD rfl rfl ⟨by exact gz_m 374 (by omega), by exact gz_m 375 (by omega)⟩ (fun c383 => ?_) (fun c383 => ?_)
            · show gv_X _ _ (107, [(0, .inr (.inr (some 39))), (1, .inr (.inl v1_17)), (3, .inl v3_35), (4, .inl v4_35), (5, .inl v5_35)], [], sh, gc_h sh I364 J365 A)
              refine gv_run 4 true hD (pc' := 114) (lv' := [(3, .inl 1), (0, .inr (.inr (some 39))), (1, .inr (.inl v1_17)), (4, .inl v4_35), (5, .inl v5_35)]) (st' := [.inr (.inr (some 39))]) (h' := gc_h sh I364 J365 A) (C := ((((True ∧ True) ∧ True) ∧ True) ∧ True)) rfl ⟨⟨⟨⟨trivial, trivial⟩, trivial⟩, trivial⟩, trivial⟩ ?_
              refine gv_get hD rfl rfl S_39 ⟨by decide, B_39⟩ (gc_hA S_39 rfl A_39_1) ?_
              show gv_X _ _ (117, [(3, .inl 1), (0, .inr (.inr (some 39))), (1, .inr (.inl v1_17)), (4, .inl v4_35), (5, .inl v5_35)], [.inr (.inr (some 23))], sh, gc_h sh I364 J365 A)
              have f384 := (gc_b_3_7 hI364 R_23)
              refine gv_get hD rfl rfl S_23 ⟨by decide, B_23⟩ (gc_hI S_23 rfl) ?_
              show gv_X _ _ (120, [(3, .inl 1), (0, .inr (.inr (some 39))), (1, .inr (.inl v1_17)), (4, .inl v4_35), (5, .inl v5_35)], [.inl (I364 23 7)], sh, gc_h sh I364 J365 A)
              refine gv_run 1 true hD (pc' := 122) (lv' := [(3, .inl 1), (0, .inr (.inr (some 39))), (1, .inr (.inl v1_17)), (4, .inl v4_35), (5, .inl v5_35)]) (st' := [.inl 44, .inl (I364 23 7)]) (h' := gc_h sh I364 J365 A) (C := (True ∧ True)) rfl ⟨trivial, trivial⟩ ?_
              refine gv_icmp_ne (t := 129) hD rfl rfl ⟨⟨by exact gz_m 376 (by omega), by exact gz_m 377 (by omega)⟩, ⟨by exact gz_m 378 (by omega), by exact gz_m 379 (by omega)⟩⟩ (fun c385 => ?_) (fun c385 => ?_)
              · show gv_X _ _ (129, [(3, .inl 1), (0, .inr (.inr (some 39))), (1, .inr (.inl v1_17)), (4, .inl v4_35), (5, .inl v5_35)], [], sh, gc_h sh I364 J365 A)
                refine gv_run 3 true hD (pc' := 134) (lv' := [(4, .inl 0), (3, .inl 1), (0, .inr (.inr (some 39))), (1, .inr (.inl v1_17)), (5, .inl v5_35)]) (st' := [.inl 0]) (h' := gc_h sh I364 J365 A) (C := (((True ∧ True) ∧ True) ∧ True)) rfl ⟨⟨⟨trivial, trivial⟩, trivial⟩, trivial⟩ ?_
                refine gv_if_eq (t := 144) hD rfl rfl ⟨by exact gz_m 380 (by omega), by exact gz_m 381 (by omega)⟩ (fun c386 => ?_) (fun c386 => ?_)
                · show gv_X _ _ (144, [(4, .inl 0), (3, .inl 1), (0, .inr (.inr (some 39))), (1, .inr (.inl v1_17)), (5, .inl v5_35)], [], sh, gc_h sh I364 J365 A)
                  refine gv_run 2 true hD (pc' := 74) (lv' := [(5, .inl (v5_35 + 1)), (4, .inl 0), (3, .inl 1), (0, .inr (.inr (some 39))), (1, .inr (.inl v1_17))]) (st' := []) (h' := gc_h sh I364 J365 A) (C := ((True ∧ True) ∧ True)) rfl ⟨⟨trivial, trivial⟩, trivial⟩ ?_
                  refine gv_pick [3, 4, 2, 1, 0] rfl ?_
                  exact ih74 I364 J365 1 0 (v5_35 + 1) (gs_cell β η Ir Jr p_35) (by exact gz_m 382 (by omega)) hI364 FI364 FJ365 KLT_I364 KTK_I364 KPK_I364 (by exact gz_m 383 (by omega)) A381 e2_35 ⟨gs_inc V9 ((gs_ws β η Ir Jr 1002 0 p_35).2, gs_fxc β η (gs_fpl β η Ir Jr p_35)), h9a.trans (by rw [if_neg (by exact gz_m 384 (by omega)), show Int.toNat (1002 - v5_35) = Int.toNat (1002 - (v5_35 + 1)) + 1 from by exact gz_m 385 (by omega), gs_qc_c (by exact gz_m 386 (by omega)), if_neg (by exact gz_m 387 (by omega)), if_pos (by decide)]), Or.inr ⟨rfl, by have h8 := gs_inc_len (V := V9) (x := ((gs_ws β η Ir Jr 1002 0 p_35).2, gs_fxc β η (gs_fpl β η Ir Jr p_35))); exact gz_m 388 (by omega)⟩⟩ ⟨((((g363 (t + 11) 1).resolve_left (by exact gz_m 389 (by omega))).trans (e4_35.1))), (fun k => (((k363 (t + 12) k).resolve_left (by exact gz_m 390 (by omega))).trans (e4_35.2.1 k))), (fun k => (((g363 (t + 13) k).resolve_left (by exact gz_m 391 (by omega))).trans (e4_35.2.2.1 k))), (fun k => (((g363 (t + 14) k).resolve_left (by exact gz_m 392 (by omega))).trans (e4_35.2.2.2.1 k))), ((((g363 39 5).resolve_left (by exact gz_m 393 (by omega))).trans (e4_35.2.2.2.2)))⟩
                · exfalso; exact gz_m 394 (by omega)
              · show gv_X _ _ (125, [(3, .inl 1), (0, .inr (.inr (some 39))), (1, .inr (.inl v1_17)), (4, .inl v4_35), (5, .inl v5_35)], [], sh, gc_h sh I364 J365 A)
                refine gv_run 4 true hD (pc' := 134) (lv' := [(4, .inl 1), (3, .inl 1), (0, .inr (.inr (some 39))), (1, .inr (.inl v1_17)), (5, .inl v5_35)]) (st' := [.inl 1]) (h' := gc_h sh I364 J365 A) (C := ((((True ∧ True) ∧ True) ∧ True) ∧ True)) rfl ⟨⟨⟨⟨trivial, trivial⟩, trivial⟩, trivial⟩, trivial⟩ ?_
                refine gv_if_eq (t := 144) hD rfl rfl ⟨by exact gz_m 395 (by omega), by exact gz_m 396 (by omega)⟩ (fun c387 => ?_) (fun c387 => ?_)
                · exfalso; exact gz_m 397 (by omega)
                · show gv_X _ _ (137, [(4, .inl 1), (3, .inl 1), (0, .inr (.inr (some 39))), (1, .inr (.inl v1_17)), (5, .inl v5_35)], [], sh, gc_h sh I364 J365 A)
                  have t388 := gc_TK_st KTK_I364 (by exact gz_m 398 (by omega))
                  refine gv_run 1 true hD (pc' := 138) (lv' := [(4, .inl 1), (3, .inl 1), (0, .inr (.inr (some 39))), (1, .inr (.inl v1_17)), (5, .inl v5_35)]) (st' := [.inr (.inr (some 39))]) (h' := gc_h sh I364 J365 A) (C := (True ∧ True)) rfl ⟨trivial, trivial⟩ ?_
                  refine gv_get hD rfl rfl S_39 ⟨by decide, B_39⟩ (gc_hA S_39 rfl A_39_1) ?_
                  show gv_X _ _ (141, [(4, .inl 1), (3, .inl 1), (0, .inr (.inr (some 39))), (1, .inr (.inl v1_17)), (5, .inl v5_35)], [.inr (.inr (some 23))], sh, gc_h sh I364 J365 A)
                  have t390 := gc_TK_nx KTK_I364 (by exact gz_m 399 (by omega))
                  have t391 := gc_TK_st KTK_I364 (by exact gz_m 400 (by omega))
                  obtain ⟨r389, h389, E389, P389⟩ := d_X9_advance_p (ws0 := ws0) (tb := tb) hws htb sh ro I364 J365 A hI364 23 β η  (gc_b23 hb)    (by exact gz_m 401 (by omega)) A381.1.1 A381.1.2 
                  obtain ⟨I392, J393, rfl, hI392, g389, k389, ⟨rfl, V389_0, V389_1, V389_2, V389_3, V389_4, q389⟩⟩ := P389
                  have FI392 := gc_frc (W := fun q j => (q = 39 ∧ j = 3) ∨ (q = 39 ∧ j = 4) ∨ (q = 23 ∧ j = 5) ∨ (q = 23 ∧ j = 6) ∨ (q = 23 ∧ j = 7) ∨ (q = 23 ∧ j = 8) ∨ (q = 1 ∧ j = 17) ∨ (q = 1 ∧ j = 18) ∨ q = 20 ∨ (q = 39 ∧ j = 6) ∨ (q = 39 ∧ j = 8) ∨ q = 40 ∨ (q = 41 ∧ j = 0) ∨ (q = 41 ∧ j = 1) ∨ (q = 41 ∧ j = 2) ∨ q = (t + 13) ∨ q = (t + 14) ∨ (q = (t + 11) ∧ j = 1)) (V := fun q j => (q = 23 ∧ j = 5) ∨ (q = 23 ∧ j = 6) ∨ (q = 23 ∧ j = 7) ∨ (q = 23 ∧ j = 8)) FI364 (fun q j h => (h.elim (fun h => (Or.inr (Or.inr (Or.inl h)))) (fun h => (h.elim (fun h => (Or.inr (Or.inr (Or.inr (Or.inl h))))) (fun h => (h.elim (fun h => (Or.inr (Or.inr (Or.inr (Or.inr (Or.inl h)))))) (fun h => (Or.inr (Or.inr (Or.inr (Or.inr (Or.inr (Or.inl h))))))))))))) g389
                  have FJ393 := gc_frc (W := fun q j => (q = 23 ∧ j = 9) ∨ q = (t + 12)) (V := fun q j => (q = 23 ∧ j = 9)) FJ365 (fun q j h => (Or.inl h)) k389
                  have t394 := (g389 23 1).resolve_left (fun h => h.elim (fun h => absurd h.2 (gz_ne rfl)) (fun h => h.elim (fun h => absurd h.2 (gz_ne rfl)) (fun h => h.elim (fun h => absurd h.2 (gz_ne rfl)) (fun h => absurd h.2 (gz_ne rfl)))))
                  have t395 := (g389 1 17).resolve_left (fun h => h.elim (fun h => absurd h.2 (gz_ne rfl)) (fun h => h.elim (fun h => absurd h.2 (gz_ne rfl)) (fun h => h.elim (fun h => absurd h.2 (gz_ne rfl)) (fun h => absurd h.2 (gz_ne rfl)))))
                  have t396 := (g389 (t + 11) 1).resolve_left (fun h => h.elim (fun h => absurd h.2 (gz_ne rfl)) (fun h => h.elim (fun h => absurd h.2 (gz_ne rfl)) (fun h => h.elim (fun h => absurd h.2 (gz_ne rfl)) (fun h => absurd h.2 (gz_ne rfl)))))
                  have t397 := (g389 41 0).resolve_left (fun h => h.elim (fun h => absurd h.2 (gz_ne rfl)) (fun h => h.elim (fun h => absurd h.2 (gz_ne rfl)) (fun h => h.elim (fun h => absurd h.2 (gz_ne rfl)) (fun h => absurd h.2 (gz_ne rfl)))))
                  have t398 := (g389 41 1).resolve_left (fun h => h.elim (fun h => absurd h.2 (gz_ne rfl)) (fun h => h.elim (fun h => absurd h.2 (gz_ne rfl)) (fun h => h.elim (fun h => absurd h.2 (gz_ne rfl)) (fun h => absurd h.2 (gz_ne rfl)))))
                  have t399 := (g389 41 2).resolve_left (fun h => h.elim (fun h => absurd h.2 (gz_ne rfl)) (fun h => h.elim (fun h => absurd h.2 (gz_ne rfl)) (fun h => h.elim (fun h => absurd h.2 (gz_ne rfl)) (fun h => absurd h.2 (gz_ne rfl)))))
                  have t400 := (g389 39 5).resolve_left (fun h => h.elim (fun h => absurd h.1 (gz_ne rfl)) (fun h => h.elim (fun h => absurd h.2 (gz_ne rfl)) (fun h => h.elim (fun h => absurd h.2 (gz_ne rfl)) (fun h => absurd h.2 (gz_ne rfl)))))
                  have t401 := (g389 1 18).resolve_left (fun h => h.elim (fun h => absurd h.2 (gz_ne rfl)) (fun h => h.elim (fun h => absurd h.2 (gz_ne rfl)) (fun h => h.elim (fun h => absurd h.2 (gz_ne rfl)) (fun h => absurd h.2 (gz_ne rfl)))))
                  have t402 := (g389 39 8).resolve_left (fun h => h.elim (fun h => absurd h.2 (gz_ne rfl)) (fun h => h.elim (fun h => absurd h.2 (gz_ne rfl)) (fun h => h.elim (fun h => absurd h.2 (gz_ne rfl)) (fun h => absurd h.1 (gz_ne rfl)))))
                  have t403 := (g389 39 2).resolve_left (fun h => h.elim (fun h => absurd h.2 (gz_ne rfl)) (fun h => h.elim (fun h => absurd h.2 (gz_ne rfl)) (fun h => h.elim (fun h => absurd h.2 (gz_ne rfl)) (fun h => absurd h.2 (gz_ne rfl)))))
                  have f404 := (gc_b_3_5 hI392 R_23)
                  have f405 := (gc_b_3_6 hI392 R_23)
                  have f406 := (gc_b_3_7 hI392 R_23)
                  have KLT_I392 : gc_LT I392 := q389.2.2.1
                  have KPK_I392 := gc_PKs_fr KPK_I364 ((g389 1 17).resolve_left (fun h => h.elim (fun h => absurd h.2 (gz_ne rfl)) (fun h => h.elim (fun h => absurd h.2 (gz_ne rfl)) (fun h => h.elim (fun h => absurd h.2 (gz_ne rfl)) (fun h => absurd h.2 (gz_ne rfl)))))) (fun k => (g389 20 k).resolve_left (fun h => h.elim (fun h => absurd h.1 (gz_ne rfl)) (fun h => h.elim (fun h => absurd h.1 (gz_ne rfl)) (fun h => h.elim (fun h => absurd h.1 (gz_ne rfl)) (fun h => absurd h.1 (gz_ne rfl))))))
                  have KTK_I392 : gc_TK I392 := And.intro V389_0 (And.intro V389_1 (And.intro V389_2 (And.intro V389_3 V389_4)))
                  have t407 := gc_TK_mo KTK_I392
                  clear V389_0 V389_1 V389_2 V389_3 V389_4
                  have A408 := gc_AT_nx A381 q389.2.2.2
                  have t409 := gc_AT_l A408
                  refine gv_callV hD rfl (As := []) (st := []) rfl B_23 S_23 rfl (gc_lV6 hws rfl) (Nat.le_of_ble_eq_true rfl) (gz_Ev_mono (d := 2) (by decide) E389) ?_
                  show gv_X _ _ (144, [(4, .inl 1), (3, .inl 1), (0, .inr (.inr (some 39))), (1, .inr (.inl v1_17)), (5, .inl v5_35)], [], sh, gc_h sh I392 J393 A)
                  refine gv_run 2 true hD (pc' := 74) (lv' := [(5, .inl (v5_35 + 1)), (4, .inl 1), (3, .inl 1), (0, .inr (.inr (some 39))), (1, .inr (.inl v1_17))]) (st' := []) (h' := gc_h sh I392 J393 A) (C := ((True ∧ True) ∧ True)) rfl ⟨⟨trivial, trivial⟩, trivial⟩ ?_
                  refine gv_pick [3, 4, 2, 1, 0] rfl ?_
                  exact ih74 I392 J393 1 1 (v5_35 + 1) ((gs_X β η (gs_cell β η Ir Jr p_35))) (by exact gz_m 402 (by omega)) hI392 FI392 FJ393 KLT_I392 KTK_I392 KPK_I392 (by exact gz_m 403 (by omega)) A408 e2_35 ⟨gs_inc V9 ((gs_ws β η Ir Jr 1002 0 p_35).2, gs_fxc β η (gs_fpl β η Ir Jr p_35)), h9a.trans (by rw [if_neg (by exact gz_m 404 (by omega)), show Int.toNat (1002 - v5_35) = Int.toNat (1002 - (v5_35 + 1)) + 1 from by exact gz_m 405 (by omega), gs_qc_c (by exact gz_m 406 (by omega)), if_pos (by exact gz_m 407 (by omega)), if_neg (by decide)]), Or.inr ⟨rfl, by have h8 := gs_inc_len (V := V9) (x := ((gs_ws β η Ir Jr 1002 0 p_35).2, gs_fxc β η (gs_fpl β η Ir Jr p_35))); exact gz_m 408 (by omega)⟩⟩ ⟨(((((g389 (t + 11) 1).resolve_left (by exact gz_m 409 (by omega))).trans ((g363 (t + 11) 1).resolve_left (by exact gz_m 410 (by omega)))).trans (e4_35.1))), (fun k => ((((k389 (t + 12) k).resolve_left (by exact gz_m 411 (by omega))).trans ((k363 (t + 12) k).resolve_left (by exact gz_m 412 (by omega)))).trans (e4_35.2.1 k))), (fun k => ((((g389 (t + 13) k).resolve_left (by exact gz_m 413 (by omega))).trans ((g363 (t + 13) k).resolve_left (by exact gz_m 414 (by omega)))).trans (e4_35.2.2.1 k))), (fun k => ((((g389 (t + 14) k).resolve_left (by exact gz_m 415 (by omega))).trans ((g363 (t + 14) k).resolve_left (by exact gz_m 416 (by omega)))).trans (e4_35.2.2.2.1 k))), (((((g389 39 5).resolve_left (by exact gz_m 417 (by omega))).trans ((g363 39 5).resolve_left (by exact gz_m 418 (by omega)))).trans (e4_35.2.2.2.2)))⟩
            · show gv_X _ _ (100, [(0, .inr (.inr (some 39))), (1, .inr (.inl v1_17)), (3, .inl v3_35), (4, .inl v4_35), (5, .inl v5_35)], [], sh, gc_h sh I364 J365 A)
              refine gv_run 1 true hD (pc' := 101) (lv' := [(0, .inr (.inr (some 39))), (1, .inr (.inl v1_17)), (3, .inl v3_35), (4, .inl v4_35), (5, .inl v5_35)]) (st' := [.inr (.inr (some 39))]) (h' := gc_h sh I364 J365 A) (C := (True ∧ True)) rfl ⟨trivial, trivial⟩ ?_
              obtain ⟨r410, h410, E410, P410⟩ := d_X6_placeCell_p (ws0 := ws0) (tb := tb) hws htb sh ro I364 J365 A hI364  V9 (((gs_ws β η Ir Jr 1002 0 p_35).2, gs_fxc β η (gs_fpl β η Ir Jr p_35)))  hb    (by exact gz_m 419 (by omega)) (gs_CM_kp (h9b.resolve_right (fun h => by have h8 := h.1; exact gz_m 420 (by omega))).2 ((g363 39 8).resolve_left (by exact gz_m 421 (by omega))) (fun j => ((g363 40 j).resolve_left (by exact gz_m 422 (by omega)))) (gc_PKs_tr gc_PKs_rf l363)) (gs_cr9_mk U381.2.1 U381.2.2) 
              obtain ⟨I411, J412, rfl, hI411, g410, k410, ⟨z410, rfl, q410⟩⟩ := P410
              have FI411 := gc_frc (W := fun q j => (q = 39 ∧ j = 3) ∨ (q = 39 ∧ j = 4) ∨ (q = 23 ∧ j = 5) ∨ (q = 23 ∧ j = 6) ∨ (q = 23 ∧ j = 7) ∨ (q = 23 ∧ j = 8) ∨ (q = 1 ∧ j = 17) ∨ (q = 1 ∧ j = 18) ∨ q = 20 ∨ (q = 39 ∧ j = 6) ∨ (q = 39 ∧ j = 8) ∨ q = 40 ∨ (q = 41 ∧ j = 0) ∨ (q = 41 ∧ j = 1) ∨ (q = 41 ∧ j = 2) ∨ q = (t + 13) ∨ q = (t + 14) ∨ (q = (t + 11) ∧ j = 1)) (V := fun q j => (q = 39 ∧ j = 8) ∨ q = 40) FI364 (fun q j h => (h.elim (fun h => (Or.inr (Or.inr (Or.inr (Or.inr (Or.inr (Or.inr (Or.inr (Or.inr (Or.inr (Or.inr (Or.inl h)))))))))))) (fun h => (Or.inr (Or.inr (Or.inr (Or.inr (Or.inr (Or.inr (Or.inr (Or.inr (Or.inr (Or.inr (Or.inr (Or.inl h))))))))))))))) g410
              have t413 := (g410 23 1).resolve_left (fun h => h.elim (fun h => absurd h.2 (gz_ne rfl)) (fun h => absurd h (gz_ne rfl)))
              have t414 := (g410 23 5).resolve_left (fun h => h.elim (fun h => absurd h.2 (gz_ne rfl)) (fun h => absurd h (gz_ne rfl)))
              have t415 := (g410 23 6).resolve_left (fun h => h.elim (fun h => absurd h.2 (gz_ne rfl)) (fun h => absurd h (gz_ne rfl)))
              have t416 := (g410 23 7).resolve_left (fun h => h.elim (fun h => absurd h.2 (gz_ne rfl)) (fun h => absurd h (gz_ne rfl)))
              have t417 := (g410 1 17).resolve_left (fun h => h.elim (fun h => absurd h.2 (gz_ne rfl)) (fun h => absurd h (gz_ne rfl)))
              have t418 := (g410 (t + 11) 1).resolve_left (fun h => h.elim (fun h => absurd h.2 (gz_ne rfl)) (fun h => absurd h N_t_11__40))
              have t419 := (g410 41 0).resolve_left (fun h => h.elim (fun h => absurd h.2 (gz_ne rfl)) (fun h => absurd h (gz_ne rfl)))
              have t420 := (g410 41 1).resolve_left (fun h => h.elim (fun h => absurd h.2 (gz_ne rfl)) (fun h => absurd h (gz_ne rfl)))
              have t421 := (g410 41 2).resolve_left (fun h => h.elim (fun h => absurd h.2 (gz_ne rfl)) (fun h => absurd h (gz_ne rfl)))
              have t422 := (g410 39 5).resolve_left (fun h => h.elim (fun h => absurd h.2 (gz_ne rfl)) (fun h => absurd h (gz_ne rfl)))
              have t423 := (g410 1 18).resolve_left (fun h => h.elim (fun h => absurd h.2 (gz_ne rfl)) (fun h => absurd h (gz_ne rfl)))
              have t424 := (g410 39 2).resolve_left (fun h => h.elim (fun h => absurd h.2 (gz_ne rfl)) (fun h => absurd h (gz_ne rfl)))
              have f425 := (gc_b_42_8 hI411 R_39)
              obtain rfl : J365 = J412 := funext fun q => funext fun j => ((k410 q j).resolve_left id).symm
              have KLT_I411 := gc_LT_fr KLT_I364 ((g410 23 5).resolve_left (fun h => h.elim (fun h => absurd h.2 (gz_ne rfl)) (fun h => absurd h (gz_ne rfl)))) ((g410 23 6).resolve_left (fun h => h.elim (fun h => absurd h.2 (gz_ne rfl)) (fun h => absurd h (gz_ne rfl)))) ((g410 23 7).resolve_left (fun h => h.elim (fun h => absurd h.2 (gz_ne rfl)) (fun h => absurd h (gz_ne rfl)))) (fun k => (g410 24 k).resolve_left (fun h => h.elim (fun h => absurd h.1 (gz_ne rfl)) (fun h => absurd h (gz_ne rfl))))
              have KTK_I411 := gc_TK_fr KTK_I364 ((g410 23 1).resolve_left (fun h => h.elim (fun h => absurd h.2 (gz_ne rfl)) (fun h => absurd h (gz_ne rfl)))) ((g410 23 5).resolve_left (fun h => h.elim (fun h => absurd h.2 (gz_ne rfl)) (fun h => absurd h (gz_ne rfl)))) ((g410 23 6).resolve_left (fun h => h.elim (fun h => absurd h.2 (gz_ne rfl)) (fun h => absurd h (gz_ne rfl)))) ((g410 23 7).resolve_left (fun h => h.elim (fun h => absurd h.2 (gz_ne rfl)) (fun h => absurd h (gz_ne rfl))))
              have KPK_I411 := gc_PKs_fr KPK_I364 ((g410 1 17).resolve_left (fun h => h.elim (fun h => absurd h.2 (gz_ne rfl)) (fun h => absurd h (gz_ne rfl)))) (fun k => (g410 20 k).resolve_left (fun h => h.elim (fun h => absurd h.1 (gz_ne rfl)) (fun h => absurd h (gz_ne rfl))))
              have A426 := gc_AT_I A381 ((g410 23 1).resolve_left (fun h => h.elim (fun h => absurd h.2 (gz_ne rfl)) (fun h => absurd h (gz_ne rfl)))) ((g410 23 5).resolve_left (fun h => h.elim (fun h => absurd h.2 (gz_ne rfl)) (fun h => absurd h (gz_ne rfl)))) ((g410 23 6).resolve_left (fun h => h.elim (fun h => absurd h.2 (gz_ne rfl)) (fun h => absurd h (gz_ne rfl)))) ((g410 23 7).resolve_left (fun h => h.elim (fun h => absurd h.2 (gz_ne rfl)) (fun h => absurd h (gz_ne rfl)))) ((g410 23 8).resolve_left (fun h => h.elim (fun h => absurd h.1 (gz_ne rfl)) (fun h => absurd h (gz_ne rfl)))) (fun k => (g410 24 k).resolve_left (fun h => h.elim (fun h => absurd h.1 (gz_ne rfl)) (fun h => absurd h (gz_ne rfl))))
              have t427 := gc_AT_l A426
              refine gv_callV hD rfl (As := []) (st := []) rfl B_39 S_39 rfl (gc_lV6 hws rfl) (Nat.le_of_ble_eq_true rfl) (gz_Ev_mono (d := 2) (by decide) E410) ?_
              show gv_X _ _ (104, [(0, .inr (.inr (some 39))), (1, .inr (.inl v1_17)), (3, .inl v3_35), (4, .inl v4_35), (5, .inl v5_35)], [.inl z410], sh, gc_h sh I411 J365 A)
              refine gv_if_ne (t := 111) hD rfl rfl ⟨by exact gz_m 423 (by omega), by exact gz_m 424 (by omega)⟩ (fun c428 => ?_) (fun c428 => ?_)
              · show gv_X _ _ (111, [(0, .inr (.inr (some 39))), (1, .inr (.inl v1_17)), (3, .inl v3_35), (4, .inl v4_35), (5, .inl v5_35)], [], sh, gc_h sh I411 J365 A)
                refine gv_run 3 true hD (pc' := 114) (lv' := [(3, .inl 0), (0, .inr (.inr (some 39))), (1, .inr (.inl v1_17)), (4, .inl v4_35), (5, .inl v5_35)]) (st' := [.inr (.inr (some 39))]) (h' := gc_h sh I411 J365 A) (C := (((True ∧ True) ∧ True) ∧ True)) rfl ⟨⟨⟨trivial, trivial⟩, trivial⟩, trivial⟩ ?_
                refine gv_get hD rfl rfl S_39 ⟨by decide, B_39⟩ (gc_hA S_39 rfl A_39_1) ?_
                show gv_X _ _ (117, [(3, .inl 0), (0, .inr (.inr (some 39))), (1, .inr (.inl v1_17)), (4, .inl v4_35), (5, .inl v5_35)], [.inr (.inr (some 23))], sh, gc_h sh I411 J365 A)
                have f429 := (gc_b_3_7 hI411 R_23)
                refine gv_get hD rfl rfl S_23 ⟨by decide, B_23⟩ (gc_hI S_23 rfl) ?_
                show gv_X _ _ (120, [(3, .inl 0), (0, .inr (.inr (some 39))), (1, .inr (.inl v1_17)), (4, .inl v4_35), (5, .inl v5_35)], [.inl (I411 23 7)], sh, gc_h sh I411 J365 A)
                refine gv_run 1 true hD (pc' := 122) (lv' := [(3, .inl 0), (0, .inr (.inr (some 39))), (1, .inr (.inl v1_17)), (4, .inl v4_35), (5, .inl v5_35)]) (st' := [.inl 44, .inl (I411 23 7)]) (h' := gc_h sh I411 J365 A) (C := (True ∧ True)) rfl ⟨trivial, trivial⟩ ?_
                refine gv_icmp_ne (t := 129) hD rfl rfl ⟨⟨by exact gz_m 425 (by omega), by exact gz_m 426 (by omega)⟩, ⟨by exact gz_m 427 (by omega), by exact gz_m 428 (by omega)⟩⟩ (fun c430 => ?_) (fun c430 => ?_)
                · show gv_X _ _ (129, [(3, .inl 0), (0, .inr (.inr (some 39))), (1, .inr (.inl v1_17)), (4, .inl v4_35), (5, .inl v5_35)], [], sh, gc_h sh I411 J365 A)
                  refine gv_run 3 true hD (pc' := 134) (lv' := [(4, .inl 0), (3, .inl 0), (0, .inr (.inr (some 39))), (1, .inr (.inl v1_17)), (5, .inl v5_35)]) (st' := [.inl 0]) (h' := gc_h sh I411 J365 A) (C := (((True ∧ True) ∧ True) ∧ True)) rfl ⟨⟨⟨trivial, trivial⟩, trivial⟩, trivial⟩ ?_
                  refine gv_if_eq (t := 144) hD rfl rfl ⟨by exact gz_m 429 (by omega), by exact gz_m 430 (by omega)⟩ (fun c431 => ?_) (fun c431 => ?_)
                  · show gv_X _ _ (144, [(4, .inl 0), (3, .inl 0), (0, .inr (.inr (some 39))), (1, .inr (.inl v1_17)), (5, .inl v5_35)], [], sh, gc_h sh I411 J365 A)
                    refine gv_run 2 true hD (pc' := 74) (lv' := [(5, .inl (v5_35 + 1)), (4, .inl 0), (3, .inl 0), (0, .inr (.inr (some 39))), (1, .inr (.inl v1_17))]) (st' := []) (h' := gc_h sh I411 J365 A) (C := ((True ∧ True) ∧ True)) rfl ⟨⟨trivial, trivial⟩, trivial⟩ ?_
                    refine gv_pick [3, 4, 2, 1, 0] rfl ?_
                    exact ih74 I411 J365 0 0 (v5_35 + 1) (gs_cell β η Ir Jr p_35) (by exact gz_m 431 (by omega)) hI411 FI411 FJ365 KLT_I411 KTK_I411 KPK_I411 (by exact gz_m 432 (by omega)) A426 e2_35 ⟨gs_inc V9 ((gs_ws β η Ir Jr 1002 0 p_35).2, gs_fxc β η (gs_fpl β η Ir Jr p_35)), h9a.trans (by rw [if_neg (by exact gz_m 433 (by omega)), show Int.toNat (1002 - v5_35) = Int.toNat (1002 - (v5_35 + 1)) + 1 from by exact gz_m 434 (by omega), gs_qc_c (by exact gz_m 435 (by omega)), if_neg (by exact gz_m 436 (by omega)), if_pos (by decide)]), Or.inl ⟨rfl, gs_CM_kp (q410.2.2.resolve_right (fun h => by have h8 := h.1; exact gz_m 437 (by omega))).2 rfl (fun j => rfl) gc_PKs_rf⟩⟩ ⟨(((((g410 (t + 11) 1).resolve_left (by exact gz_m 438 (by omega))).trans ((g363 (t + 11) 1).resolve_left (by exact gz_m 439 (by omega)))).trans (e4_35.1))), (fun k => (((k363 (t + 12) k).resolve_left (by exact gz_m 440 (by omega))).trans (e4_35.2.1 k))), (fun k => ((((g410 (t + 13) k).resolve_left (by exact gz_m 441 (by omega))).trans ((g363 (t + 13) k).resolve_left (by exact gz_m 442 (by omega)))).trans (e4_35.2.2.1 k))), (fun k => ((((g410 (t + 14) k).resolve_left (by exact gz_m 443 (by omega))).trans ((g363 (t + 14) k).resolve_left (by exact gz_m 444 (by omega)))).trans (e4_35.2.2.2.1 k))), (((((g410 39 5).resolve_left (by exact gz_m 445 (by omega))).trans ((g363 39 5).resolve_left (by exact gz_m 446 (by omega)))).trans (e4_35.2.2.2.2)))⟩
                  · exfalso; exact gz_m 447 (by omega)
                · show gv_X _ _ (125, [(3, .inl 0), (0, .inr (.inr (some 39))), (1, .inr (.inl v1_17)), (4, .inl v4_35), (5, .inl v5_35)], [], sh, gc_h sh I411 J365 A)
                  refine gv_run 4 true hD (pc' := 134) (lv' := [(4, .inl 1), (3, .inl 0), (0, .inr (.inr (some 39))), (1, .inr (.inl v1_17)), (5, .inl v5_35)]) (st' := [.inl 1]) (h' := gc_h sh I411 J365 A) (C := ((((True ∧ True) ∧ True) ∧ True) ∧ True)) rfl ⟨⟨⟨⟨trivial, trivial⟩, trivial⟩, trivial⟩, trivial⟩ ?_
                  refine gv_if_eq (t := 144) hD rfl rfl ⟨by exact gz_m 448 (by omega), by exact gz_m 449 (by omega)⟩ (fun c432 => ?_) (fun c432 => ?_)
                  · exfalso; exact gz_m 450 (by omega)
                  · show gv_X _ _ (137, [(4, .inl 1), (3, .inl 0), (0, .inr (.inr (some 39))), (1, .inr (.inl v1_17)), (5, .inl v5_35)], [], sh, gc_h sh I411 J365 A)
                    have t433 := gc_TK_st KTK_I411 (by exact gz_m 451 (by omega))
                    refine gv_run 1 true hD (pc' := 138) (lv' := [(4, .inl 1), (3, .inl 0), (0, .inr (.inr (some 39))), (1, .inr (.inl v1_17)), (5, .inl v5_35)]) (st' := [.inr (.inr (some 39))]) (h' := gc_h sh I411 J365 A) (C := (True ∧ True)) rfl ⟨trivial, trivial⟩ ?_
                    refine gv_get hD rfl rfl S_39 ⟨by decide, B_39⟩ (gc_hA S_39 rfl A_39_1) ?_
                    show gv_X _ _ (141, [(4, .inl 1), (3, .inl 0), (0, .inr (.inr (some 39))), (1, .inr (.inl v1_17)), (5, .inl v5_35)], [.inr (.inr (some 23))], sh, gc_h sh I411 J365 A)
                    have t435 := gc_TK_nx KTK_I411 (by exact gz_m 452 (by omega))
                    have t436 := gc_TK_st KTK_I411 (by exact gz_m 453 (by omega))
                    obtain ⟨r434, h434, E434, P434⟩ := d_X9_advance_p (ws0 := ws0) (tb := tb) hws htb sh ro I411 J365 A hI411 23 β η  (gc_b23 hb)    (by exact gz_m 454 (by omega)) A426.1.1 A426.1.2 
                    obtain ⟨I437, J438, rfl, hI437, g434, k434, ⟨rfl, V434_0, V434_1, V434_2, V434_3, V434_4, q434⟩⟩ := P434
                    have FI437 := gc_frc (W := fun q j => (q = 39 ∧ j = 3) ∨ (q = 39 ∧ j = 4) ∨ (q = 23 ∧ j = 5) ∨ (q = 23 ∧ j = 6) ∨ (q = 23 ∧ j = 7) ∨ (q = 23 ∧ j = 8) ∨ (q = 1 ∧ j = 17) ∨ (q = 1 ∧ j = 18) ∨ q = 20 ∨ (q = 39 ∧ j = 6) ∨ (q = 39 ∧ j = 8) ∨ q = 40 ∨ (q = 41 ∧ j = 0) ∨ (q = 41 ∧ j = 1) ∨ (q = 41 ∧ j = 2) ∨ q = (t + 13) ∨ q = (t + 14) ∨ (q = (t + 11) ∧ j = 1)) (V := fun q j => (q = 23 ∧ j = 5) ∨ (q = 23 ∧ j = 6) ∨ (q = 23 ∧ j = 7) ∨ (q = 23 ∧ j = 8)) FI411 (fun q j h => (h.elim (fun h => (Or.inr (Or.inr (Or.inl h)))) (fun h => (h.elim (fun h => (Or.inr (Or.inr (Or.inr (Or.inl h))))) (fun h => (h.elim (fun h => (Or.inr (Or.inr (Or.inr (Or.inr (Or.inl h)))))) (fun h => (Or.inr (Or.inr (Or.inr (Or.inr (Or.inr (Or.inl h))))))))))))) g434
                    have FJ438 := gc_frc (W := fun q j => (q = 23 ∧ j = 9) ∨ q = (t + 12)) (V := fun q j => (q = 23 ∧ j = 9)) FJ365 (fun q j h => (Or.inl h)) k434
                    have t439 := (g434 23 1).resolve_left (fun h => h.elim (fun h => absurd h.2 (gz_ne rfl)) (fun h => h.elim (fun h => absurd h.2 (gz_ne rfl)) (fun h => h.elim (fun h => absurd h.2 (gz_ne rfl)) (fun h => absurd h.2 (gz_ne rfl)))))
                    have t440 := (g434 1 17).resolve_left (fun h => h.elim (fun h => absurd h.2 (gz_ne rfl)) (fun h => h.elim (fun h => absurd h.2 (gz_ne rfl)) (fun h => h.elim (fun h => absurd h.2 (gz_ne rfl)) (fun h => absurd h.2 (gz_ne rfl)))))
                    have t441 := (g434 (t + 11) 1).resolve_left (fun h => h.elim (fun h => absurd h.2 (gz_ne rfl)) (fun h => h.elim (fun h => absurd h.2 (gz_ne rfl)) (fun h => h.elim (fun h => absurd h.2 (gz_ne rfl)) (fun h => absurd h.2 (gz_ne rfl)))))
                    have t442 := (g434 41 0).resolve_left (fun h => h.elim (fun h => absurd h.2 (gz_ne rfl)) (fun h => h.elim (fun h => absurd h.2 (gz_ne rfl)) (fun h => h.elim (fun h => absurd h.2 (gz_ne rfl)) (fun h => absurd h.2 (gz_ne rfl)))))
                    have t443 := (g434 41 1).resolve_left (fun h => h.elim (fun h => absurd h.2 (gz_ne rfl)) (fun h => h.elim (fun h => absurd h.2 (gz_ne rfl)) (fun h => h.elim (fun h => absurd h.2 (gz_ne rfl)) (fun h => absurd h.2 (gz_ne rfl)))))
                    have t444 := (g434 41 2).resolve_left (fun h => h.elim (fun h => absurd h.2 (gz_ne rfl)) (fun h => h.elim (fun h => absurd h.2 (gz_ne rfl)) (fun h => h.elim (fun h => absurd h.2 (gz_ne rfl)) (fun h => absurd h.2 (gz_ne rfl)))))
                    have t445 := (g434 39 5).resolve_left (fun h => h.elim (fun h => absurd h.1 (gz_ne rfl)) (fun h => h.elim (fun h => absurd h.2 (gz_ne rfl)) (fun h => h.elim (fun h => absurd h.2 (gz_ne rfl)) (fun h => absurd h.2 (gz_ne rfl)))))
                    have t446 := (g434 1 18).resolve_left (fun h => h.elim (fun h => absurd h.2 (gz_ne rfl)) (fun h => h.elim (fun h => absurd h.2 (gz_ne rfl)) (fun h => h.elim (fun h => absurd h.2 (gz_ne rfl)) (fun h => absurd h.2 (gz_ne rfl)))))
                    have t447 := (g434 39 8).resolve_left (fun h => h.elim (fun h => absurd h.2 (gz_ne rfl)) (fun h => h.elim (fun h => absurd h.2 (gz_ne rfl)) (fun h => h.elim (fun h => absurd h.2 (gz_ne rfl)) (fun h => absurd h.1 (gz_ne rfl)))))
                    have t448 := (g434 39 2).resolve_left (fun h => h.elim (fun h => absurd h.2 (gz_ne rfl)) (fun h => h.elim (fun h => absurd h.2 (gz_ne rfl)) (fun h => h.elim (fun h => absurd h.2 (gz_ne rfl)) (fun h => absurd h.2 (gz_ne rfl)))))
                    have f449 := (gc_b_3_5 hI437 R_23)
                    have f450 := (gc_b_3_6 hI437 R_23)
                    have f451 := (gc_b_3_7 hI437 R_23)
                    have KLT_I437 : gc_LT I437 := q434.2.2.1
                    have KPK_I437 := gc_PKs_fr KPK_I411 ((g434 1 17).resolve_left (fun h => h.elim (fun h => absurd h.2 (gz_ne rfl)) (fun h => h.elim (fun h => absurd h.2 (gz_ne rfl)) (fun h => h.elim (fun h => absurd h.2 (gz_ne rfl)) (fun h => absurd h.2 (gz_ne rfl)))))) (fun k => (g434 20 k).resolve_left (fun h => h.elim (fun h => absurd h.1 (gz_ne rfl)) (fun h => h.elim (fun h => absurd h.1 (gz_ne rfl)) (fun h => h.elim (fun h => absurd h.1 (gz_ne rfl)) (fun h => absurd h.1 (gz_ne rfl))))))
                    have KTK_I437 : gc_TK I437 := And.intro V434_0 (And.intro V434_1 (And.intro V434_2 (And.intro V434_3 V434_4)))
                    have t452 := gc_TK_mo KTK_I437
                    clear V434_0 V434_1 V434_2 V434_3 V434_4
                    have A453 := gc_AT_nx A426 q434.2.2.2
                    have t454 := gc_AT_l A453
                    refine gv_callV hD rfl (As := []) (st := []) rfl B_23 S_23 rfl (gc_lV6 hws rfl) (Nat.le_of_ble_eq_true rfl) (gz_Ev_mono (d := 2) (by decide) E434) ?_
                    show gv_X _ _ (144, [(4, .inl 1), (3, .inl 0), (0, .inr (.inr (some 39))), (1, .inr (.inl v1_17)), (5, .inl v5_35)], [], sh, gc_h sh I437 J438 A)
                    refine gv_run 2 true hD (pc' := 74) (lv' := [(5, .inl (v5_35 + 1)), (4, .inl 1), (3, .inl 0), (0, .inr (.inr (some 39))), (1, .inr (.inl v1_17))]) (st' := []) (h' := gc_h sh I437 J438 A) (C := ((True ∧ True) ∧ True)) rfl ⟨⟨trivial, trivial⟩, trivial⟩ ?_
                    refine gv_pick [3, 4, 2, 1, 0] rfl ?_
                    exact ih74 I437 J438 0 1 (v5_35 + 1) ((gs_X β η (gs_cell β η Ir Jr p_35))) (by exact gz_m 455 (by omega)) hI437 FI437 FJ438 KLT_I437 KTK_I437 KPK_I437 (by exact gz_m 456 (by omega)) A453 e2_35 ⟨gs_inc V9 ((gs_ws β η Ir Jr 1002 0 p_35).2, gs_fxc β η (gs_fpl β η Ir Jr p_35)), h9a.trans (by rw [if_neg (by exact gz_m 457 (by omega)), show Int.toNat (1002 - v5_35) = Int.toNat (1002 - (v5_35 + 1)) + 1 from by exact gz_m 458 (by omega), gs_qc_c (by exact gz_m 459 (by omega)), if_pos (by exact gz_m 460 (by omega)), if_neg (by decide)]), Or.inl ⟨rfl, gs_CM_kp (q410.2.2.resolve_right (fun h => by have h8 := h.1; exact gz_m 461 (by omega))).2 ((g434 39 8).resolve_left (by exact gz_m 462 (by omega))) (fun j => ((g434 40 j).resolve_left (by exact gz_m 463 (by omega)))) (gc_PKs_fr gc_PKs_rf ((g434 1 17).resolve_left (by exact gz_m 464 (by omega))) (fun k => ((g434 20 k).resolve_left (by exact gz_m 465 (by omega)))))⟩⟩ ⟨((((((g434 (t + 11) 1).resolve_left (by exact gz_m 466 (by omega))).trans ((g410 (t + 11) 1).resolve_left (by exact gz_m 467 (by omega)))).trans ((g363 (t + 11) 1).resolve_left (by exact gz_m 468 (by omega)))).trans (e4_35.1))), (fun k => ((((k434 (t + 12) k).resolve_left (by exact gz_m 469 (by omega))).trans ((k363 (t + 12) k).resolve_left (by exact gz_m 470 (by omega)))).trans (e4_35.2.1 k))), (fun k => (((((g434 (t + 13) k).resolve_left (by exact gz_m 471 (by omega))).trans ((g410 (t + 13) k).resolve_left (by exact gz_m 472 (by omega)))).trans ((g363 (t + 13) k).resolve_left (by exact gz_m 473 (by omega)))).trans (e4_35.2.2.1 k))), (fun k => (((((g434 (t + 14) k).resolve_left (by exact gz_m 474 (by omega))).trans ((g410 (t + 14) k).resolve_left (by exact gz_m 475 (by omega)))).trans ((g363 (t + 14) k).resolve_left (by exact gz_m 476 (by omega)))).trans (e4_35.2.2.2.1 k))), ((((((g434 39 5).resolve_left (by exact gz_m 477 (by omega))).trans ((g410 39 5).resolve_left (by exact gz_m 478 (by omega)))).trans ((g363 39 5).resolve_left (by exact gz_m 479 (by omega)))).trans (e4_35.2.2.2.2)))⟩
              · show gv_X _ _ (107, [(0, .inr (.inr (some 39))), (1, .inr (.inl v1_17)), (3, .inl v3_35), (4, .inl v4_35), (5, .inl v5_35)], [], sh, gc_h sh I411 J365 A)
                refine gv_run 4 true hD (pc' := 114) (lv' := [(3, .inl 1), (0, .inr (.inr (some 39))), (1, .inr (.inl v1_17)), (4, .inl v4_35), (5, .inl v5_35)]) (st' := [.inr (.inr (some 39))]) (h' := gc_h sh I411 J365 A) (C := ((((True ∧ True) ∧ True) ∧ True) ∧ True)) rfl ⟨⟨⟨⟨trivial, trivial⟩, trivial⟩, trivial⟩, trivial⟩ ?_
                refine gv_get hD rfl rfl S_39 ⟨by decide, B_39⟩ (gc_hA S_39 rfl A_39_1) ?_
                show gv_X _ _ (117, [(3, .inl 1), (0, .inr (.inr (some 39))), (1, .inr (.inl v1_17)), (4, .inl v4_35), (5, .inl v5_35)], [.inr (.inr (some 23))], sh, gc_h sh I411 J365 A)
                have f455 := (gc_b_3_7 hI411 R_23)
                refine gv_get hD rfl rfl S_23 ⟨by decide, B_23⟩ (gc_hI S_23 rfl) ?_
                show gv_X _ _ (120, [(3, .inl 1), (0, .inr (.inr (some 39))), (1, .inr (.inl v1_17)), (4, .inl v4_35), (5, .inl v5_35)], [.inl (I411 23 7)], sh, gc_h sh I411 J365 A)
                refine gv_run 1 true hD (pc' := 122) (lv' := [(3, .inl 1), (0, .inr (.inr (some 39))), (1, .inr (.inl v1_17)), (4, .inl v4_35), (5, .inl v5_35)]) (st' := [.inl 44, .inl (I411 23 7)]) (h' := gc_h sh I411 J365 A) (C := (True ∧ True)) rfl ⟨trivial, trivial⟩ ?_
                refine gv_icmp_ne (t := 129) hD rfl rfl ⟨⟨by exact gz_m 480 (by omega), by exact gz_m 481 (by omega)⟩, ⟨by exact gz_m 482 (by omega), by exact gz_m 483 (by omega)⟩⟩ (fun c456 => ?_) (fun c456 => ?_)
                · show gv_X _ _ (129, [(3, .inl 1), (0, .inr (.inr (some 39))), (1, .inr (.inl v1_17)), (4, .inl v4_35), (5, .inl v5_35)], [], sh, gc_h sh I411 J365 A)
                  refine gv_run 3 true hD (pc' := 134) (lv' := [(4, .inl 0), (3, .inl 1), (0, .inr (.inr (some 39))), (1, .inr (.inl v1_17)), (5, .inl v5_35)]) (st' := [.inl 0]) (h' := gc_h sh I411 J365 A) (C := (((True ∧ True) ∧ True) ∧ True)) rfl ⟨⟨⟨trivial, trivial⟩, trivial⟩, trivial⟩ ?_
                  refine gv_if_eq (t := 144) hD rfl rfl ⟨by exact gz_m 484 (by omega), by exact gz_m 485 (by omega)⟩ (fun c457 => ?_) (fun c457 => ?_)
                  · show gv_X _ _ (144, [(4, .inl 0), (3, .inl 1), (0, .inr (.inr (some 39))), (1, .inr (.inl v1_17)), (5, .inl v5_35)], [], sh, gc_h sh I411 J365 A)
                    refine gv_run 2 true hD (pc' := 74) (lv' := [(5, .inl (v5_35 + 1)), (4, .inl 0), (3, .inl 1), (0, .inr (.inr (some 39))), (1, .inr (.inl v1_17))]) (st' := []) (h' := gc_h sh I411 J365 A) (C := ((True ∧ True) ∧ True)) rfl ⟨⟨trivial, trivial⟩, trivial⟩ ?_
                    refine gv_pick [3, 4, 2, 1, 0] rfl ?_
                    exact ih74 I411 J365 1 0 (v5_35 + 1) (gs_cell β η Ir Jr p_35) (by exact gz_m 486 (by omega)) hI411 FI411 FJ365 KLT_I411 KTK_I411 KPK_I411 (by exact gz_m 487 (by omega)) A426 e2_35 ⟨gs_inc V9 ((gs_ws β η Ir Jr 1002 0 p_35).2, gs_fxc β η (gs_fpl β η Ir Jr p_35)), h9a.trans (by rw [if_neg (by exact gz_m 488 (by omega)), show Int.toNat (1002 - v5_35) = Int.toNat (1002 - (v5_35 + 1)) + 1 from by exact gz_m 489 (by omega), gs_qc_c (by exact gz_m 490 (by omega)), if_neg (by exact gz_m 491 (by omega)), if_pos (by decide)]), Or.inr ⟨rfl, (q410.2.2.resolve_left (fun h => by have h8 := h.1; exact gz_m 492 (by omega))).2⟩⟩ ⟨(((((g410 (t + 11) 1).resolve_left (by exact gz_m 493 (by omega))).trans ((g363 (t + 11) 1).resolve_left (by exact gz_m 494 (by omega)))).trans (e4_35.1))), (fun k => (((k363 (t + 12) k).resolve_left (by exact gz_m 495 (by omega))).trans (e4_35.2.1 k))), (fun k => ((((g410 (t + 13) k).resolve_left (by exact gz_m 496 (by omega))).trans ((g363 (t + 13) k).resolve_left (by exact gz_m 497 (by omega)))).trans (e4_35.2.2.1 k))), (fun k => ((((g410 (t + 14) k).resolve_left (by exact gz_m 498 (by omega))).trans ((g363 (t + 14) k).resolve_left (by exact gz_m 499 (by omega)))).trans (e4_35.2.2.2.1 k))), (((((g410 39 5).resolve_left (by exact gz_m 500 (by omega))).trans ((g363 39 5).resolve_left (by exact gz_m 501 (by omega)))).trans (e4_35.2.2.2.2)))⟩
                  · exfalso; exact gz_m 502 (by omega)
                · show gv_X _ _ (125, [(3, .inl 1), (0, .inr (.inr (some 39))), (1, .inr (.inl v1_17)), (4, .inl v4_35), (5, .inl v5_35)], [], sh, gc_h sh I411 J365 A)
                  refine gv_run 4 true hD (pc' := 134) (lv' := [(4, .inl 1), (3, .inl 1), (0, .inr (.inr (some 39))), (1, .inr (.inl v1_17)), (5, .inl v5_35)]) (st' := [.inl 1]) (h' := gc_h sh I411 J365 A) (C := ((((True ∧ True) ∧ True) ∧ True) ∧ True)) rfl ⟨⟨⟨⟨trivial, trivial⟩, trivial⟩, trivial⟩, trivial⟩ ?_
                  refine gv_if_eq (t := 144) hD rfl rfl ⟨by exact gz_m 503 (by omega), by exact gz_m 504 (by omega)⟩ (fun c458 => ?_) (fun c458 => ?_)
                  · exfalso; exact gz_m 505 (by omega)
                  · show gv_X _ _ (137, [(4, .inl 1), (3, .inl 1), (0, .inr (.inr (some 39))), (1, .inr (.inl v1_17)), (5, .inl v5_35)], [], sh, gc_h sh I411 J365 A)
                    have t459 := gc_TK_st KTK_I411 (by exact gz_m 506 (by omega))
                    refine gv_run 1 true hD (pc' := 138) (lv' := [(4, .inl 1), (3, .inl 1), (0, .inr (.inr (some 39))), (1, .inr (.inl v1_17)), (5, .inl v5_35)]) (st' := [.inr (.inr (some 39))]) (h' := gc_h sh I411 J365 A) (C := (True ∧ True)) rfl ⟨trivial, trivial⟩ ?_
                    refine gv_get hD rfl rfl S_39 ⟨by decide, B_39⟩ (gc_hA S_39 rfl A_39_1) ?_
                    show gv_X _ _ (141, [(4, .inl 1), (3, .inl 1), (0, .inr (.inr (some 39))), (1, .inr (.inl v1_17)), (5, .inl v5_35)], [.inr (.inr (some 23))], sh, gc_h sh I411 J365 A)
                    have t461 := gc_TK_nx KTK_I411 (by exact gz_m 507 (by omega))
                    have t462 := gc_TK_st KTK_I411 (by exact gz_m 508 (by omega))
                    obtain ⟨r460, h460, E460, P460⟩ := d_X9_advance_p (ws0 := ws0) (tb := tb) hws htb sh ro I411 J365 A hI411 23 β η  (gc_b23 hb)    (by exact gz_m 509 (by omega)) A426.1.1 A426.1.2 
                    obtain ⟨I463, J464, rfl, hI463, g460, k460, ⟨rfl, V460_0, V460_1, V460_2, V460_3, V460_4, q460⟩⟩ := P460
                    have FI463 := gc_frc (W := fun q j => (q = 39 ∧ j = 3) ∨ (q = 39 ∧ j = 4) ∨ (q = 23 ∧ j = 5) ∨ (q = 23 ∧ j = 6) ∨ (q = 23 ∧ j = 7) ∨ (q = 23 ∧ j = 8) ∨ (q = 1 ∧ j = 17) ∨ (q = 1 ∧ j = 18) ∨ q = 20 ∨ (q = 39 ∧ j = 6) ∨ (q = 39 ∧ j = 8) ∨ q = 40 ∨ (q = 41 ∧ j = 0) ∨ (q = 41 ∧ j = 1) ∨ (q = 41 ∧ j = 2) ∨ q = (t + 13) ∨ q = (t + 14) ∨ (q = (t + 11) ∧ j = 1)) (V := fun q j => (q = 23 ∧ j = 5) ∨ (q = 23 ∧ j = 6) ∨ (q = 23 ∧ j = 7) ∨ (q = 23 ∧ j = 8)) FI411 (fun q j h => (h.elim (fun h => (Or.inr (Or.inr (Or.inl h)))) (fun h => (h.elim (fun h => (Or.inr (Or.inr (Or.inr (Or.inl h))))) (fun h => (h.elim (fun h => (Or.inr (Or.inr (Or.inr (Or.inr (Or.inl h)))))) (fun h => (Or.inr (Or.inr (Or.inr (Or.inr (Or.inr (Or.inl h))))))))))))) g460
                    have FJ464 := gc_frc (W := fun q j => (q = 23 ∧ j = 9) ∨ q = (t + 12)) (V := fun q j => (q = 23 ∧ j = 9)) FJ365 (fun q j h => (Or.inl h)) k460
                    have t465 := (g460 23 1).resolve_left (fun h => h.elim (fun h => absurd h.2 (gz_ne rfl)) (fun h => h.elim (fun h => absurd h.2 (gz_ne rfl)) (fun h => h.elim (fun h => absurd h.2 (gz_ne rfl)) (fun h => absurd h.2 (gz_ne rfl)))))
                    have t466 := (g460 1 17).resolve_left (fun h => h.elim (fun h => absurd h.2 (gz_ne rfl)) (fun h => h.elim (fun h => absurd h.2 (gz_ne rfl)) (fun h => h.elim (fun h => absurd h.2 (gz_ne rfl)) (fun h => absurd h.2 (gz_ne rfl)))))
                    have t467 := (g460 (t + 11) 1).resolve_left (fun h => h.elim (fun h => absurd h.2 (gz_ne rfl)) (fun h => h.elim (fun h => absurd h.2 (gz_ne rfl)) (fun h => h.elim (fun h => absurd h.2 (gz_ne rfl)) (fun h => absurd h.2 (gz_ne rfl)))))
                    have t468 := (g460 41 0).resolve_left (fun h => h.elim (fun h => absurd h.2 (gz_ne rfl)) (fun h => h.elim (fun h => absurd h.2 (gz_ne rfl)) (fun h => h.elim (fun h => absurd h.2 (gz_ne rfl)) (fun h => absurd h.2 (gz_ne rfl)))))
                    have t469 := (g460 41 1).resolve_left (fun h => h.elim (fun h => absurd h.2 (gz_ne rfl)) (fun h => h.elim (fun h => absurd h.2 (gz_ne rfl)) (fun h => h.elim (fun h => absurd h.2 (gz_ne rfl)) (fun h => absurd h.2 (gz_ne rfl)))))
                    have t470 := (g460 41 2).resolve_left (fun h => h.elim (fun h => absurd h.2 (gz_ne rfl)) (fun h => h.elim (fun h => absurd h.2 (gz_ne rfl)) (fun h => h.elim (fun h => absurd h.2 (gz_ne rfl)) (fun h => absurd h.2 (gz_ne rfl)))))
                    have t471 := (g460 39 5).resolve_left (fun h => h.elim (fun h => absurd h.1 (gz_ne rfl)) (fun h => h.elim (fun h => absurd h.2 (gz_ne rfl)) (fun h => h.elim (fun h => absurd h.2 (gz_ne rfl)) (fun h => absurd h.2 (gz_ne rfl)))))
                    have t472 := (g460 1 18).resolve_left (fun h => h.elim (fun h => absurd h.2 (gz_ne rfl)) (fun h => h.elim (fun h => absurd h.2 (gz_ne rfl)) (fun h => h.elim (fun h => absurd h.2 (gz_ne rfl)) (fun h => absurd h.2 (gz_ne rfl)))))
                    have t473 := (g460 39 8).resolve_left (fun h => h.elim (fun h => absurd h.2 (gz_ne rfl)) (fun h => h.elim (fun h => absurd h.2 (gz_ne rfl)) (fun h => h.elim (fun h => absurd h.2 (gz_ne rfl)) (fun h => absurd h.1 (gz_ne rfl)))))
                    have t474 := (g460 39 2).resolve_left (fun h => h.elim (fun h => absurd h.2 (gz_ne rfl)) (fun h => h.elim (fun h => absurd h.2 (gz_ne rfl)) (fun h => h.elim (fun h => absurd h.2 (gz_ne rfl)) (fun h => absurd h.2 (gz_ne rfl)))))
                    have f475 := (gc_b_3_5 hI463 R_23)
                    have f476 := (gc_b_3_6 hI463 R_23)
                    have f477 := (gc_b_3_7 hI463 R_23)
                    have KLT_I463 : gc_LT I463 := q460.2.2.1
                    have KPK_I463 := gc_PKs_fr KPK_I411 ((g460 1 17).resolve_left (fun h => h.elim (fun h => absurd h.2 (gz_ne rfl)) (fun h => h.elim (fun h => absurd h.2 (gz_ne rfl)) (fun h => h.elim (fun h => absurd h.2 (gz_ne rfl)) (fun h => absurd h.2 (gz_ne rfl)))))) (fun k => (g460 20 k).resolve_left (fun h => h.elim (fun h => absurd h.1 (gz_ne rfl)) (fun h => h.elim (fun h => absurd h.1 (gz_ne rfl)) (fun h => h.elim (fun h => absurd h.1 (gz_ne rfl)) (fun h => absurd h.1 (gz_ne rfl))))))
                    have KTK_I463 : gc_TK I463 := And.intro V460_0 (And.intro V460_1 (And.intro V460_2 (And.intro V460_3 V460_4)))
                    have t478 := gc_TK_mo KTK_I463
                    clear V460_0 V460_1 V460_2 V460_3 V460_4
                    have A479 := gc_AT_nx A426 q460.2.2.2
                    have t480 := gc_AT_l A479
                    refine gv_callV hD rfl (As := []) (st := []) rfl B_23 S_23 rfl (gc_lV6 hws rfl) (Nat.le_of_ble_eq_true rfl) (gz_Ev_mono (d := 2) (by decide) E460) ?_
                    show gv_X _ _ (144, [(4, .inl 1), (3, .inl 1), (0, .inr (.inr (some 39))), (1, .inr (.inl v1_17)), (5, .inl v5_35)], [], sh, gc_h sh I463 J464 A)
                    refine gv_run 2 true hD (pc' := 74) (lv' := [(5, .inl (v5_35 + 1)), (4, .inl 1), (3, .inl 1), (0, .inr (.inr (some 39))), (1, .inr (.inl v1_17))]) (st' := []) (h' := gc_h sh I463 J464 A) (C := ((True ∧ True) ∧ True)) rfl ⟨⟨trivial, trivial⟩, trivial⟩ ?_
                    refine gv_pick [3, 4, 2, 1, 0] rfl ?_
                    exact ih74 I463 J464 1 1 (v5_35 + 1) ((gs_X β η (gs_cell β η Ir Jr p_35))) (by exact gz_m 510 (by omega)) hI463 FI463 FJ464 KLT_I463 KTK_I463 KPK_I463 (by exact gz_m 511 (by omega)) A479 e2_35 ⟨gs_inc V9 ((gs_ws β η Ir Jr 1002 0 p_35).2, gs_fxc β η (gs_fpl β η Ir Jr p_35)), h9a.trans (by rw [if_neg (by exact gz_m 512 (by omega)), show Int.toNat (1002 - v5_35) = Int.toNat (1002 - (v5_35 + 1)) + 1 from by exact gz_m 513 (by omega), gs_qc_c (by exact gz_m 514 (by omega)), if_pos (by exact gz_m 515 (by omega)), if_neg (by decide)]), Or.inr ⟨rfl, (q410.2.2.resolve_left (fun h => by have h8 := h.1; exact gz_m 516 (by omega))).2⟩⟩ ⟨((((((g460 (t + 11) 1).resolve_left (by exact gz_m 517 (by omega))).trans ((g410 (t + 11) 1).resolve_left (by exact gz_m 518 (by omega)))).trans ((g363 (t + 11) 1).resolve_left (by exact gz_m 519 (by omega)))).trans (e4_35.1))), (fun k => ((((k460 (t + 12) k).resolve_left (by exact gz_m 520 (by omega))).trans ((k363 (t + 12) k).resolve_left (by exact gz_m 521 (by omega)))).trans (e4_35.2.1 k))), (fun k => (((((g460 (t + 13) k).resolve_left (by exact gz_m 522 (by omega))).trans ((g410 (t + 13) k).resolve_left (by exact gz_m 523 (by omega)))).trans ((g363 (t + 13) k).resolve_left (by exact gz_m 524 (by omega)))).trans (e4_35.2.2.1 k))), (fun k => (((((g460 (t + 14) k).resolve_left (by exact gz_m 525 (by omega))).trans ((g410 (t + 14) k).resolve_left (by exact gz_m 526 (by omega)))).trans ((g363 (t + 14) k).resolve_left (by exact gz_m 527 (by omega)))).trans (e4_35.2.2.2.1 k))), ((((((g460 39 5).resolve_left (by exact gz_m 528 (by omega))).trans ((g410 39 5).resolve_left (by exact gz_m 529 (by omega)))).trans ((g363 39 5).resolve_left (by exact gz_m 530 (by omega)))).trans (e4_35.2.2.2.2)))⟩
          · show gv_X _ _ (94, [(0, .inr (.inr (some 39))), (1, .inr (.inl v1_17)), (3, .inl v3_35), (4, .inl v4_35), (5, .inl v5_35)], [], sh, gc_h sh I364 J365 A)
            obtain ⟨u481, u481_⟩ := gs_or0 q363.2.2.2.2.2.2.2 (by exact gz_m 531 (by omega))
            refine gv_run 1 true hD (pc' := 95) (lv' := [(0, .inr (.inr (some 39))), (1, .inr (.inl v1_17)), (3, .inl v3_35), (4, .inl v4_35), (5, .inl v5_35)]) (st' := [.inl 0]) (h' := gc_h sh I364 J365 A) (C := (True ∧ True)) rfl ⟨trivial, trivial⟩ ?_
            exact gv_zret hD rfl (by exact gz_m 532 (by omega)) ⟨I364, J365, rfl, hI364, FI364, FJ365, KLT_I364, KTK_I364, ⟨_, rfl, by exact gz_m 533 (by omega), by exact gz_m 534 (by omega), by exact gz_m 535 (by omega), by exact gz_m 536 (by omega), by exact gz_m 537 (by omega), KPK_I364, (Or.inr ⟨by exact gz_m 538 (by omega), by have h8 : gs_qtw β η Ir Jr p9 = (gs_cell β η Ir Jr p_35, []) := h9a.trans (by rw [if_neg (by exact gz_m 539 (by omega)), show Int.toNat (1002 - v5_35) = Int.toNat (1002 - (v5_35 + 1)) + 1 from by exact gz_m 540 (by omega), gs_qc_x (by exact gz_m 541 (by omega))]); rw [gs_pat_x2 h8 (by exact gz_m 542 (by omega))]; exact ⟨by exact gz_m 543 (by omega), by exact gz_m 544 (by omega), (((g363 (t + 11) 1).resolve_left (by exact gz_m 545 (by omega))).trans (e4_35.1)), fun j => ⟨(((k363 (t + 12) j).resolve_left (by exact gz_m 546 (by omega))).trans (e4_35.2.1 j)), (((g363 (t + 13) j).resolve_left (by exact gz_m 547 (by omega))).trans (e4_35.2.2.1 j)), (((g363 (t + 14) j).resolve_left (by exact gz_m 548 (by omega))).trans (e4_35.2.2.2.1 j))⟩⟩⟩)⟩⟩
  refine gv_run 2 true hD (pc' := 58) (lv' := [(0, .inr (.inr (some 39))), (1, .inr (.inl v1_17))]) (st' := [.inl 123, .inr (.inr (some 39))]) (h' := gc_h sh I15 J16 A) (C := ((True ∧ True) ∧ True)) rfl ⟨⟨trivial, trivial⟩, trivial⟩ ?_
  obtain ⟨r482, h482, E482, P482⟩ := d_X6_take_p (ws0 := ws0) (tb := tb) hws htb sh ro I15 J16 A hI15  β η p_17 123 hb   ⟨by exact gz_m 549 (by omega), by exact gz_m 550 (by omega)⟩ (by exact gz_m 551 (by omega)) e1_17 (by exact gz_m 552 (by omega)) KLT_I15 KTK_I15
  obtain ⟨I483, J484, rfl, hI483, g482, k482, KLT_I483, KTK_I483, ⟨z482, rfl, q482⟩⟩ := P482
  have FI483 := gc_frc (W := fun q j => (q = 39 ∧ j = 3) ∨ (q = 39 ∧ j = 4) ∨ (q = 23 ∧ j = 5) ∨ (q = 23 ∧ j = 6) ∨ (q = 23 ∧ j = 7) ∨ (q = 23 ∧ j = 8) ∨ (q = 1 ∧ j = 17) ∨ (q = 1 ∧ j = 18) ∨ q = 20 ∨ (q = 39 ∧ j = 6) ∨ (q = 39 ∧ j = 8) ∨ q = 40 ∨ (q = 41 ∧ j = 0) ∨ (q = 41 ∧ j = 1) ∨ (q = 41 ∧ j = 2) ∨ q = (t + 13) ∨ q = (t + 14) ∨ (q = (t + 11) ∧ j = 1)) (V := fun q j => (q = 39 ∧ j = 3) ∨ (q = 39 ∧ j = 4) ∨ (q = 23 ∧ j = 5) ∨ (q = 23 ∧ j = 6) ∨ (q = 23 ∧ j = 7) ∨ (q = 23 ∧ j = 8)) FI15 (fun q j h => (h.elim (fun h => (Or.inl h)) (fun h => (h.elim (fun h => (Or.inr (Or.inl h))) (fun h => (h.elim (fun h => (Or.inr (Or.inr (Or.inl h)))) (fun h => (h.elim (fun h => (Or.inr (Or.inr (Or.inr (Or.inl h))))) (fun h => (h.elim (fun h => (Or.inr (Or.inr (Or.inr (Or.inr (Or.inl h)))))) (fun h => (Or.inr (Or.inr (Or.inr (Or.inr (Or.inr (Or.inl h))))))))))))))))) g482
  have FJ484 := gc_frc (W := fun q j => (q = 23 ∧ j = 9) ∨ q = (t + 12)) (V := fun q j => (q = 23 ∧ j = 9)) FJ16 (fun q j h => (Or.inl h)) k482
  have t485 := (g482 23 1).resolve_left (fun h => h.elim (fun h => absurd h.2 (gz_ne rfl)) (fun h => h.elim (fun h => absurd h.2 (gz_ne rfl)) (fun h => h.elim (fun h => absurd h.2 (gz_ne rfl)) (fun h => h.elim (fun h => absurd h.2 (gz_ne rfl)) (fun h => h.elim (fun h => absurd h.2 (gz_ne rfl)) (fun h => absurd h.2 (gz_ne rfl)))))))
  have t486 := (g482 1 17).resolve_left (fun h => h.elim (fun h => absurd h.2 (gz_ne rfl)) (fun h => h.elim (fun h => absurd h.2 (gz_ne rfl)) (fun h => h.elim (fun h => absurd h.2 (gz_ne rfl)) (fun h => h.elim (fun h => absurd h.2 (gz_ne rfl)) (fun h => h.elim (fun h => absurd h.2 (gz_ne rfl)) (fun h => absurd h.2 (gz_ne rfl)))))))
  have t487 := (g482 (t + 11) 1).resolve_left (fun h => h.elim (fun h => absurd h.2 (gz_ne rfl)) (fun h => h.elim (fun h => absurd h.2 (gz_ne rfl)) (fun h => h.elim (fun h => absurd h.2 (gz_ne rfl)) (fun h => h.elim (fun h => absurd h.2 (gz_ne rfl)) (fun h => h.elim (fun h => absurd h.2 (gz_ne rfl)) (fun h => absurd h.2 (gz_ne rfl)))))))
  have t488 := (g482 41 0).resolve_left (fun h => h.elim (fun h => absurd h.2 (gz_ne rfl)) (fun h => h.elim (fun h => absurd h.2 (gz_ne rfl)) (fun h => h.elim (fun h => absurd h.2 (gz_ne rfl)) (fun h => h.elim (fun h => absurd h.2 (gz_ne rfl)) (fun h => h.elim (fun h => absurd h.2 (gz_ne rfl)) (fun h => absurd h.2 (gz_ne rfl)))))))
  have t489 := (g482 41 1).resolve_left (fun h => h.elim (fun h => absurd h.2 (gz_ne rfl)) (fun h => h.elim (fun h => absurd h.2 (gz_ne rfl)) (fun h => h.elim (fun h => absurd h.2 (gz_ne rfl)) (fun h => h.elim (fun h => absurd h.2 (gz_ne rfl)) (fun h => h.elim (fun h => absurd h.2 (gz_ne rfl)) (fun h => absurd h.2 (gz_ne rfl)))))))
  have t490 := (g482 41 2).resolve_left (fun h => h.elim (fun h => absurd h.2 (gz_ne rfl)) (fun h => h.elim (fun h => absurd h.2 (gz_ne rfl)) (fun h => h.elim (fun h => absurd h.2 (gz_ne rfl)) (fun h => h.elim (fun h => absurd h.2 (gz_ne rfl)) (fun h => h.elim (fun h => absurd h.2 (gz_ne rfl)) (fun h => absurd h.2 (gz_ne rfl)))))))
  have t491 := (g482 39 5).resolve_left (fun h => h.elim (fun h => absurd h.2 (gz_ne rfl)) (fun h => h.elim (fun h => absurd h.2 (gz_ne rfl)) (fun h => h.elim (fun h => absurd h.1 (gz_ne rfl)) (fun h => h.elim (fun h => absurd h.2 (gz_ne rfl)) (fun h => h.elim (fun h => absurd h.2 (gz_ne rfl)) (fun h => absurd h.2 (gz_ne rfl)))))))
  have t492 := (g482 1 18).resolve_left (fun h => h.elim (fun h => absurd h.2 (gz_ne rfl)) (fun h => h.elim (fun h => absurd h.2 (gz_ne rfl)) (fun h => h.elim (fun h => absurd h.2 (gz_ne rfl)) (fun h => h.elim (fun h => absurd h.2 (gz_ne rfl)) (fun h => h.elim (fun h => absurd h.2 (gz_ne rfl)) (fun h => absurd h.2 (gz_ne rfl)))))))
  have t493 := (g482 39 8).resolve_left (fun h => h.elim (fun h => absurd h.2 (gz_ne rfl)) (fun h => h.elim (fun h => absurd h.2 (gz_ne rfl)) (fun h => h.elim (fun h => absurd h.2 (gz_ne rfl)) (fun h => h.elim (fun h => absurd h.2 (gz_ne rfl)) (fun h => h.elim (fun h => absurd h.2 (gz_ne rfl)) (fun h => absurd h.1 (gz_ne rfl)))))))
  have t494 := (g482 39 2).resolve_left (fun h => h.elim (fun h => absurd h.2 (gz_ne rfl)) (fun h => h.elim (fun h => absurd h.2 (gz_ne rfl)) (fun h => h.elim (fun h => absurd h.2 (gz_ne rfl)) (fun h => h.elim (fun h => absurd h.2 (gz_ne rfl)) (fun h => h.elim (fun h => absurd h.2 (gz_ne rfl)) (fun h => absurd h.2 (gz_ne rfl)))))))
  have f495 := (gc_b_3_5 hI483 R_23)
  have f496 := (gc_b_3_6 hI483 R_23)
  have f497 := (gc_b_3_7 hI483 R_23)
  have t498 := gc_TK_mo KTK_I483
  have KPK_I483 := gc_PKs_fr KPK_I15 ((g482 1 17).resolve_left (fun h => h.elim (fun h => absurd h.2 (gz_ne rfl)) (fun h => h.elim (fun h => absurd h.2 (gz_ne rfl)) (fun h => h.elim (fun h => absurd h.2 (gz_ne rfl)) (fun h => h.elim (fun h => absurd h.2 (gz_ne rfl)) (fun h => h.elim (fun h => absurd h.2 (gz_ne rfl)) (fun h => absurd h.2 (gz_ne rfl)))))))) (fun k => (g482 20 k).resolve_left (fun h => h.elim (fun h => absurd h.1 (gz_ne rfl)) (fun h => h.elim (fun h => absurd h.1 (gz_ne rfl)) (fun h => h.elim (fun h => absurd h.1 (gz_ne rfl)) (fun h => h.elim (fun h => absurd h.1 (gz_ne rfl)) (fun h => h.elim (fun h => absurd h.1 (gz_ne rfl)) (fun h => absurd h.1 (gz_ne rfl))))))))
  refine gv_callV hD rfl (As := [.inl 123]) (st := []) rfl B_39 S_39 rfl (gc_lV6 hws rfl) (Nat.le_of_ble_eq_true rfl) (gz_Ev_mono (d := 3) (by decide) E482) ?_
  show gv_X _ _ (61, [(0, .inr (.inr (some 39))), (1, .inr (.inl v1_17))], [.inl z482], sh, gc_h sh I483 J484 A)
  refine gv_if_ne (t := 66) hD rfl rfl ⟨by exact gz_m 553 (by omega), by exact gz_m 554 (by omega)⟩ (fun c499 => ?_) (fun c499 => ?_)
  · show gv_X _ _ (66, [(0, .inr (.inr (some 39))), (1, .inr (.inl v1_17))], [], sh, gc_h sh I483 J484 A)
    obtain ⟨u500, A500⟩ := gs_or1 q482.2.2.2.2.2 (by exact gz_m 555 (by omega))
    have t501 := gc_AT_l A500
    refine gv_run 6 true hD (pc' := 74) (lv' := [(5, .inl 0), (4, .inl 1), (3, .inl 0), (0, .inr (.inr (some 39))), (1, .inr (.inl v1_17))]) (st' := []) (h' := gc_h sh I483 J484 A) (C := ((((((True ∧ True) ∧ True) ∧ True) ∧ True) ∧ True) ∧ True)) rfl ⟨⟨⟨⟨⟨⟨trivial, trivial⟩, trivial⟩, trivial⟩, trivial⟩, trivial⟩, trivial⟩ ?_
    refine gv_pick [3, 4, 2, 1, 0] rfl ?_
    exact L74 _ I483 J484 0 1 0 (gs_need β η 123 p_17) (Nat.lt_succ_self _) hI483 FI483 FJ484 KLT_I483 KTK_I483 KPK_I483 (by exact gz_m 556 (by omega)) A500 e2_17 (by obtain ⟨V, h1, h2⟩ := id e3_17; exact ⟨V, h1.trans (by unfold gs_qt2; rw [if_neg (by exact gz_m 557 (by omega)), if_neg (by decide)]; (try rfl)), Or.inl ⟨rfl, gs_CM_kp h2 ((g482 39 8).resolve_left (by exact gz_m 558 (by omega))) (fun j => ((g482 40 j).resolve_left (by exact gz_m 559 (by omega)))) (gc_PKs_fr gc_PKs_rf ((g482 1 17).resolve_left (by exact gz_m 560 (by omega))) (fun k => ((g482 20 k).resolve_left (by exact gz_m 561 (by omega)))))⟩⟩) ⟨((((g482 (t + 11) 1).resolve_left (by exact gz_m 562 (by omega))).trans (e4_17.1))), (fun k => (((k482 (t + 12) k).resolve_left (by exact gz_m 563 (by omega))).trans (e4_17.2.1 k))), (fun k => (((g482 (t + 13) k).resolve_left (by exact gz_m 564 (by omega))).trans (e4_17.2.2.1 k))), (fun k => (((g482 (t + 14) k).resolve_left (by exact gz_m 565 (by omega))).trans (e4_17.2.2.2.1 k))), ((((g482 39 5).resolve_left (by exact gz_m 566 (by omega))).trans (e4_17.2.2.2.2)))⟩
  · show gv_X _ _ (64, [(0, .inr (.inr (some 39))), (1, .inr (.inl v1_17))], [], sh, gc_h sh I483 J484 A)
    obtain ⟨u502, u502_⟩ := gs_or0 q482.2.2.2.2.2 (by exact gz_m 567 (by omega))
    refine gv_run 1 true hD (pc' := 65) (lv' := [(0, .inr (.inr (some 39))), (1, .inr (.inl v1_17))]) (st' := [.inl 0]) (h' := gc_h sh I483 J484 A) (C := (True ∧ True)) rfl ⟨trivial, trivial⟩ ?_
    exact gv_zret hD rfl (by exact gz_m 568 (by omega)) ⟨I483, J484, rfl, hI483, FI483, FJ484, KLT_I483, KTK_I483, ⟨_, rfl, by exact gz_m 569 (by omega), by exact gz_m 570 (by omega), by exact gz_m 571 (by omega), by exact gz_m 572 (by omega), by exact gz_m 573 (by omega), KPK_I483, (Or.inr ⟨by exact gz_m 574 (by omega), by obtain ⟨V, h1, h2⟩ := id e3_17; have h8 : gs_qtw β η Ir Jr p9 = (gs_need β η 123 p_17, []) := h1.trans (by unfold gs_qt2; rw [if_pos (by exact gz_m 575 (by omega))]); rw [gs_pat_x2 h8 (by exact gz_m 576 (by omega))]; exact ⟨by exact gz_m 577 (by omega), by exact gz_m 578 (by omega), (((g482 (t + 11) 1).resolve_left (by exact gz_m 579 (by omega))).trans (e4_17.1)), fun j => ⟨(((k482 (t + 12) j).resolve_left (by exact gz_m 580 (by omega))).trans (e4_17.2.1 j)), (((g482 (t + 13) j).resolve_left (by exact gz_m 581 (by omega))).trans (e4_17.2.2.1 j)), (((g482 (t + 14) j).resolve_left (by exact gz_m 582 (by omega))).trans (e4_17.2.2.2.1 j))⟩⟩⟩)⟩⟩
set_option maxHeartbeats 8000000 in
set_option maxRecDepth 100000 in
theorem d_X6_readPattern_p {ws0 : List Cond} {tb : String → gz_T} (hws : gc_Ws ws0) (htb : gc_tbs tb) (sh : gz_Sh) (ro : Nat → Nat) (I : gr_I) (J : gr_J) (A : gc_A) (hI : gc_Inv ro I) (t : Nat) (B : Int) (β : Int → Int) (η : Int) (p9 : Int) (Ir : gr_I) (Jr : gr_J)  (hb : gc_Base sh ro A) (h_t : gc_isTongue sh ro A t) (G_t : 144 ≤ t)  (x0 : B ≤ 1280 ∧ I 1 17 + I 23 1 ≤ B + I 23 5) (x1 : gc_AT β η p9 23 I J) (x2 : 0 ≤ p9) (x3 : I 1 18 = 0) (x4 : I (t + 11) 1 = Ir 17 (Int.toNat (Ir 0 6))) (x5 : gs_NA (I (t + 11) 1) (J (t + 12)) (fun k => Jr 23 (Int.toNat (24 * Ir 0 6 + (k : Int))))) (x6 : I (t + 3) 1 = Ir 14 (Int.toNat (Ir 0 6))) (x7 : gs_NA (I (t + 3) 1) (J (t + 4)) (fun k => Jr 21 (Int.toNat (48 * Ir 0 6 + (k : Int))))) (x8 : gs_VR Ir I t) (x9 : gs_PT Ir I t) (x10 : gs_PM Ir I t) (x11 : I 39 2 = (t : Int)) (KLT_I : gc_LT I) (KTK_I : gc_TK I) : ∃ r h', gz_Ev ws0 tb 5 (yX6_readPattern, cX6_readPattern, 6, (some .boolean)) [.inr (.inr (some 39))] sh (gc_h sh I J A) r sh h' 0 0 ∧ (∃ (I' : gr_I) (J' : gr_J), h' = gc_h sh I' J' A ∧ gc_Inv ro I' ∧ (∀ q j : Nat, ((q = 39 ∧ j = 3) ∨ (q = 39 ∧ j = 4) ∨ (q = 23 ∧ j = 5) ∨ (q = 23 ∧ j = 6) ∨ (q = 23 ∧ j = 7) ∨ (q = 23 ∧ j = 8) ∨ (q = 1 ∧ j = 17) ∨ (q = 1 ∧ j = 18) ∨ q = 20 ∨ (q = 39 ∧ j = 6) ∨ (q = 39 ∧ j = 8) ∨ q = 40 ∨ (q = 41 ∧ j = 0) ∨ (q = 41 ∧ j = 1) ∨ (q = 41 ∧ j = 2) ∨ q = (t + 13) ∨ q = (t + 14) ∨ (q = (t + 11) ∧ j = 1)) ∨ I' q j = I q j) ∧ (∀ q j : Nat, ((q = 23 ∧ j = 9) ∨ q = (t + 12)) ∨ J' q j = J q j) ∧ gc_LT I' ∧ gc_TK I' ∧ (∃ z : Int, r = some (.inl z) ∧ 0 ≤ z ∧ z ≤ 1 ∧ (I' 23 1 = I 23 1) ∧ (I 23 5 ≤ I' 23 5) ∧ (B ≤ 1280 ∧ I' 1 17 + I' 23 1 ≤ B + I' 23 5) ∧ (gc_PKs I I') ∧ (gs_Or z (0 ≤ (gs_pat β η Ir Jr (I 39 5) p9) ∧ gc_AT β η (gs_pat β η Ir Jr (I 39 5) p9) 23 I' J' ∧ gc_PU (t + 11) 24 (gs_M β η p9) I J I' J' ∧ (I (t + 11) 1 < 24 ∧ I' 1 18 = 0) ∧ gs_Cpt (gs_ptw β η Ir Jr p9).2 t I I' ∧ gs_Cct (gs_qtw β η Ir Jr p9).2 t I I') ((gs_pat β η Ir Jr (I 39 5) p9) < 0 ∧ I' 39 4 = -1 - (gs_pat β η Ir Jr (I 39 5) p9) ∧ I' (t + 11) 1 = I (t + 11) 1 ∧ ∀ j, J' (t + 12) j = J (t + 12) j ∧ I' (t + 13) j = I (t + 13) j ∧ I' (t + 14) j = I (t + 14) j)))) := by
  have FI : ∀ q j : Nat, ((q = 39 ∧ j = 3) ∨ (q = 39 ∧ j = 4) ∨ (q = 23 ∧ j = 5) ∨ (q = 23 ∧ j = 6) ∨ (q = 23 ∧ j = 7) ∨ (q = 23 ∧ j = 8) ∨ (q = 1 ∧ j = 17) ∨ (q = 1 ∧ j = 18) ∨ q = 20 ∨ (q = 39 ∧ j = 6) ∨ (q = 39 ∧ j = 8) ∨ q = 40 ∨ (q = 41 ∧ j = 0) ∨ (q = 41 ∧ j = 1) ∨ (q = 41 ∧ j = 2) ∨ q = (t + 13) ∨ q = (t + 14) ∨ (q = (t + 11) ∧ j = 1)) ∨ I q j = I q j := fun _ _ => Or.inr rfl
  have FJ : ∀ q j : Nat, ((q = 23 ∧ j = 9) ∨ q = (t + 12)) ∨ J q j = J q j := fun _ _ => Or.inr rfl
  have A_39_1 : A 39 1 = some 23 := gc_bA_39_1 hb
  have A_39_9 : A 39 9 = some 40 := gc_bA_39_9 hb
  have B_23 : 23 < 1000000 := by decide
  have B_39 : 39 < 1000000 := by decide
  have B_40 : 40 < 1000000 := by decide
  have R_1 : ro 1 = 22 := gc_bR_1 hb
  have R_23 : ro 23 = 3 := gc_bR_23 hb
  have R_39 : ro 39 = 42 := gc_bR_39 hb
  have R_40 : ro 40 = 39 := gc_bR_40 hb
  have R_41 : ro 41 = 0 := gc_bR_41 hb
  have S_23 : sh[23]? = some (false, 9, 10) := gc_bS_23 hb
  have S_39 : sh[39]? = some (false, 6, 19) := gc_bS_39 hb
  have S_40 : sh[40]? = some (true, 1, 72) := gc_bS_40 hb
  obtain ⟨S_t, R_t, B_t, A_t_0, h_t_1, A_t_1, h_t_3, A_t_2, S_t_5, R_t_5, B_t_5, A_t_3, S_t_6, R_t_6, B_t_6, A_t_4, h_t_7, A_t_5, S_t_9, R_t_9, B_t_9, A_t_7, S_t_10, R_t_10, B_t_10, A_t_8, h_t_11, A_t_9, S_t_13, R_t_13, B_t_13, A_t_10, S_t_14, R_t_14, B_t_14, A_t_12, S_t_15, R_t_15, B_t_15, A_t_14, S_t_16, R_t_16, B_t_16, A_t_15, h_t_17⟩ := id h_t
  obtain ⟨S_t_1, R_t_1, B_t_1, A_t_1_0, S_t_1_1, R_t_1_1, B_t_1_1, Q0_t_1, Q1_t_1, Q2_t_1⟩ := id h_t_1
  obtain ⟨S_t_3, R_t_3, B_t_3, A_t_3_0, S_t_3_1, R_t_3_1, B_t_3_1, Q0_t_3, Q1_t_3, Q2_t_3⟩ := id h_t_3
  obtain ⟨S_t_7, R_t_7, B_t_7, A_t_7_0, S_t_7_1, R_t_7_1, B_t_7_1, Q0_t_7, Q1_t_7, Q2_t_7⟩ := id h_t_7
  obtain ⟨S_t_11, R_t_11, B_t_11, A_t_11_0, S_t_11_1, R_t_11_1, B_t_11_1, Q0_t_11, Q1_t_11, Q2_t_11⟩ := id h_t_11
  obtain ⟨S_t_17, R_t_17, B_t_17, A_t_17_0, S_20, R_20, B_20, A_t_17_1, S_t_17_1, R_t_17_1, B_t_17_1, A_t_17_2, S_t_17_2, R_t_17_2, B_t_17_2, A_t_17_3, S_t_17_3, R_t_17_3, B_t_17_3, A_t_17_4, S_t_17_4, R_t_17_4, B_t_17_4, A_t_17_5, S_t_17_5, R_t_17_5, B_t_17_5, S_t_17_6, R_t_17_6, B_t_17_6, S_t_17_7, R_t_17_7, B_t_17_7⟩ := id h_t_17
  have hD : gv_D (gc_E6 ws0 tb 4 (yX6_readPattern, cX6_readPattern, 6, (some .boolean)) kX6_readPattern) := gq_of oX6_readPattern
  refine gc_ev6 (d := 4) (l := kX6_readPattern) (Po := fun r h' => (∃ (I' : gr_I) (J' : gr_J), h' = gc_h sh I' J' A ∧ gc_Inv ro I' ∧ (∀ q j : Nat, ((q = 39 ∧ j = 3) ∨ (q = 39 ∧ j = 4) ∨ (q = 23 ∧ j = 5) ∨ (q = 23 ∧ j = 6) ∨ (q = 23 ∧ j = 7) ∨ (q = 23 ∧ j = 8) ∨ (q = 1 ∧ j = 17) ∨ (q = 1 ∧ j = 18) ∨ q = 20 ∨ (q = 39 ∧ j = 6) ∨ (q = 39 ∧ j = 8) ∨ q = 40 ∨ (q = 41 ∧ j = 0) ∨ (q = 41 ∧ j = 1) ∨ (q = 41 ∧ j = 2) ∨ q = (t + 13) ∨ q = (t + 14) ∨ (q = (t + 11) ∧ j = 1)) ∨ I' q j = I q j) ∧ (∀ q j : Nat, ((q = 23 ∧ j = 9) ∨ q = (t + 12)) ∨ J' q j = J q j) ∧ gc_LT I' ∧ gc_TK I' ∧ (∃ z : Int, r = some (.inl z) ∧ 0 ≤ z ∧ z ≤ 1 ∧ (I' 23 1 = I 23 1) ∧ (I 23 5 ≤ I' 23 5) ∧ (B ≤ 1280 ∧ I' 1 17 + I' 23 1 ≤ B + I' 23 5) ∧ (gc_PKs I I') ∧ (gs_Or z (0 ≤ (gs_pat β η Ir Jr (I 39 5) p9) ∧ gc_AT β η (gs_pat β η Ir Jr (I 39 5) p9) 23 I' J' ∧ gc_PU (t + 11) 24 (gs_M β η p9) I J I' J' ∧ (I (t + 11) 1 < 24 ∧ I' 1 18 = 0) ∧ gs_Cpt (gs_ptw β η Ir Jr p9).2 t I I' ∧ gs_Cct (gs_qtw β η Ir Jr p9).2 t I I') ((gs_pat β η Ir Jr (I 39 5) p9) < 0 ∧ I' 39 4 = -1 - (gs_pat β η Ir Jr (I 39 5) p9) ∧ I' (t + 11) 1 = I (t + 11) 1 ∧ ∀ j, J' (t + 12) j = J (t + 12) j ∧ I' (t + 13) j = I (t + 13) j ∧ I' (t + 14) j = I (t + 14) j))))) htb rfl (Nat.le_of_ble_eq_true rfl) ?_
  have N_23__t_11 : ¬ (23 = (t + 11)) := by exact gz_m 0 (by omega)
  have N_41__t_11 : ¬ (41 = (t + 11)) := by exact gz_m 1 (by omega)
  have N_24__t_11 : ¬ (24 = (t + 11)) := by exact gz_m 2 (by omega)
  have N_20__t_11 : ¬ (20 = (t + 11)) := by exact gz_m 3 (by omega)
  have N_23__t_12 : ¬ (23 = (t + 12)) := by exact gz_m 4 (by omega)
  have N_23__t_13 : ¬ (23 = (t + 13)) := by exact gz_m 5 (by omega)
  have N_1__t_13 : ¬ (1 = (t + 13)) := by exact gz_m 6 (by omega)
  have N_t_11__t_13 : ¬ ((t + 11) = (t + 13)) := by exact gz_m 7 (by omega)
  have N_41__t_13 : ¬ (41 = (t + 13)) := by exact gz_m 8 (by omega)
  have N_39__t_13 : ¬ (39 = (t + 13)) := by exact gz_m 9 (by omega)
  have N_24__t_13 : ¬ (24 = (t + 13)) := by exact gz_m 10 (by omega)
  have N_20__t_13 : ¬ (20 = (t + 13)) := by exact gz_m 11 (by omega)
  have N_23__t_14 : ¬ (23 = (t + 14)) := by exact gz_m 12 (by omega)
  have N_24__t_14 : ¬ (24 = (t + 14)) := by exact gz_m 13 (by omega)
  have N_1__t_14 : ¬ (1 = (t + 14)) := by exact gz_m 14 (by omega)
  have N_20__t_14 : ¬ (20 = (t + 14)) := by exact gz_m 15 (by omega)
  have N_t_11__t_14 : ¬ ((t + 11) = (t + 14)) := by exact gz_m 16 (by omega)
  have N_41__t_14 : ¬ (41 = (t + 14)) := by exact gz_m 17 (by omega)
  have N_39__t_14 : ¬ (39 = (t + 14)) := by exact gz_m 18 (by omega)
  have N_t_11__20 : ¬ ((t + 11) = 20) := by exact gz_m 19 (by omega)
  have N_t_11__41 : ¬ ((t + 11) = 41) := by exact gz_m 20 (by omega)
  have N_t_11__40 : ¬ ((t + 11) = 40) := by exact gz_m 21 (by omega)
  have KPK_I : gc_PKs I I := gc_PKs_rf
  have t1 := gc_TK_mo KTK_I
  have f2 := (gc_b_3_1 hI R_23)
  have f3 := (gc_b_3_5 hI R_23)
  have f4 := (gc_b_3_6 hI R_23)
  have f5 := (gc_b_3_7 hI R_23)
  have f6 := (gc_b_22_17 hI R_1)
  have f7 := (show 0 ≤ I (t + 11) 1 ∧ I (t + 11) 1 ≤ 24 from gc_in2 hI R_t_11 rfl rfl rfl)
  have f8 := (gc_b_0_0 hI R_41)
  have f9 := (gc_b_0_1 hI R_41)
  have f10 := (gc_b_0_2 hI R_41)
  have f11 := (gc_b_42_5 hI R_39)
  have f12 := (gc_b_22_18 hI R_1)
  have f13 := (gc_b_42_8 hI R_39)
  have f14 := (gc_b_42_2 hI R_39)
  have tAT := gc_AT_l x1
  have L55 : ∀ (I15 : gr_I) (J16 : gr_J) (v1_17 : Int64) (p_17 : Int), gc_Inv ro I15 → (∀ q j : Nat, ((q = 39 ∧ j = 3) ∨ (q = 39 ∧ j = 4) ∨ (q = 23 ∧ j = 5) ∨ (q = 23 ∧ j = 6) ∨ (q = 23 ∧ j = 7) ∨ (q = 23 ∧ j = 8) ∨ (q = 1 ∧ j = 17) ∨ (q = 1 ∧ j = 18) ∨ q = 20 ∨ (q = 39 ∧ j = 6) ∨ (q = 39 ∧ j = 8) ∨ q = 40 ∨ (q = 41 ∧ j = 0) ∨ (q = 41 ∧ j = 1) ∨ (q = 41 ∧ j = 2) ∨ q = (t + 13) ∨ q = (t + 14) ∨ (q = (t + 11) ∧ j = 1)) ∨ I15 q j = I q j) → (∀ q j : Nat, ((q = 23 ∧ j = 9) ∨ q = (t + 12)) ∨ J16 q j = J q j) → gc_LT I15 → gc_TK I15 → gc_PKs I I15 → ((0 ≤ p_17) ∧ (I15 1 18 = 0) ∧ (I15 23 1 = I 23 1) ∧ (I 23 5 ≤ I15 23 5) ∧ (B ≤ 1280 ∧ I15 1 17 + I15 23 1 ≤ B + I15 23 5) ∧ (I15 39 2 = (t : Int))) → (gc_AT β η p_17 23 I15 J16) → (v1_17 = gs_M β η p9) → (∃ V : List fo_e, gs_qtw β η Ir Jr p9 = gs_qt2 β η Ir Jr V p_17 ∧ gs_CM I15 V) → ((I15 (t + 11) 1 = I (t + 11) 1) ∧ (∀ k, J16 (t + 12) k = J (t + 12) k) ∧ (∀ k, I15 (t + 13) k = I (t + 13) k) ∧ (∀ k, I15 (t + 14) k = I (t + 14) k) ∧ (I15 39 5 = I 39 5)) → gv_X (gc_E6 ws0 tb 4 (yX6_readPattern, cX6_readPattern, 6, (some .boolean)) kX6_readPattern) (gv_Q cX6_readPattern (some .boolean) sh (fun r h' => (∃ (I' : gr_I) (J' : gr_J), h' = gc_h sh I' J' A ∧ gc_Inv ro I' ∧ (∀ q j : Nat, ((q = 39 ∧ j = 3) ∨ (q = 39 ∧ j = 4) ∨ (q = 23 ∧ j = 5) ∨ (q = 23 ∧ j = 6) ∨ (q = 23 ∧ j = 7) ∨ (q = 23 ∧ j = 8) ∨ (q = 1 ∧ j = 17) ∨ (q = 1 ∧ j = 18) ∨ q = 20 ∨ (q = 39 ∧ j = 6) ∨ (q = 39 ∧ j = 8) ∨ q = 40 ∨ (q = 41 ∧ j = 0) ∨ (q = 41 ∧ j = 1) ∨ (q = 41 ∧ j = 2) ∨ q = (t + 13) ∨ q = (t + 14) ∨ (q = (t + 11) ∧ j = 1)) ∨ I' q j = I q j) ∧ (∀ q j : Nat, ((q = 23 ∧ j = 9) ∨ q = (t + 12)) ∨ J' q j = J q j) ∧ gc_LT I' ∧ gc_TK I' ∧ (∃ z : Int, r = some (.inl z) ∧ 0 ≤ z ∧ z ≤ 1 ∧ (I' 23 1 = I 23 1) ∧ (I 23 5 ≤ I' 23 5) ∧ (B ≤ 1280 ∧ I' 1 17 + I' 23 1 ≤ B + I' 23 5) ∧ (gc_PKs I I') ∧ (gs_Or z (0 ≤ (gs_pat β η Ir Jr (I 39 5) p9) ∧ gc_AT β η (gs_pat β η Ir Jr (I 39 5) p9) 23 I' J' ∧ gc_PU (t + 11) 24 (gs_M β η p9) I J I' J' ∧ (I (t + 11) 1 < 24 ∧ I' 1 18 = 0) ∧ gs_Cpt (gs_ptw β η Ir Jr p9).2 t I I' ∧ gs_Cct (gs_qtw β η Ir Jr p9).2 t I I') ((gs_pat β η Ir Jr (I 39 5) p9) < 0 ∧ I' 39 4 = -1 - (gs_pat β η Ir Jr (I 39 5) p9) ∧ I' (t + 11) 1 = I (t + 11) 1 ∧ ∀ j, J' (t + 12) j = J (t + 12) j ∧ I' (t + 13) j = I (t + 13) j ∧ I' (t + 14) j = I (t + 14) j)))))) (55, [(0, .inr (.inr (some 39))), (1, .inr (.inl v1_17))], [], sh, gc_h sh I15 J16 A) := d_X6_readPattern_p_L55 (ws0 := ws0) (tb := tb) hws htb sh ro I J A hI t B β η p9 Ir Jr hb h_t G_t x0 x1 x2 x3 x4 x5 x6 x7 x8 x9 x10 x11 KLT_I KTK_I
  refine gv_run 2 true hD (pc' := 2) (lv' := [(0, .inr (.inr (some 39)))]) (st' := [.inr (.inr (some 39)), .inr (.inr (some 39))]) (h' := gc_h sh I J A) (C := ((True ∧ True) ∧ True)) rfl ⟨⟨trivial, trivial⟩, trivial⟩ ?_
  refine gv_get hD rfl rfl S_39 ⟨by decide, B_39⟩ (gc_h5 (t := t) S_39 rfl (by exact gz_m 583 (by omega))) ?_
  show gv_X _ _ (5, [(0, .inr (.inr (some 39)))], [.inr (.inr (some t)), .inr (.inr (some 39))], sh, gc_h sh I J A)
  refine gv_get hD rfl rfl S_t ⟨by decide, B_t⟩ (gc_hA S_t rfl A_t_8) ?_
  show gv_X _ _ (8, [(0, .inr (.inr (some 39)))], [.inr (.inr (some (t + 11))), .inr (.inr (some 39))], sh, gc_h sh I J A)
  obtain ⟨r503, h503, E503, P503⟩ := d_X6_needNew_p (ws0 := ws0) (tb := tb) hws htb sh ro I J A hI  24 8 β η p9 (t + 11) hb h_t_11   x1 (by exact gz_m 584 (by omega)) 
  obtain ⟨I504, J505, rfl, hI504, g503, k503, ⟨z503, rfl, q503⟩⟩ := P503
  have FI504 := gc_frc (W := fun q j => (q = 39 ∧ j = 3) ∨ (q = 39 ∧ j = 4) ∨ (q = 23 ∧ j = 5) ∨ (q = 23 ∧ j = 6) ∨ (q = 23 ∧ j = 7) ∨ (q = 23 ∧ j = 8) ∨ (q = 1 ∧ j = 17) ∨ (q = 1 ∧ j = 18) ∨ q = 20 ∨ (q = 39 ∧ j = 6) ∨ (q = 39 ∧ j = 8) ∨ q = 40 ∨ (q = 41 ∧ j = 0) ∨ (q = 41 ∧ j = 1) ∨ (q = 41 ∧ j = 2) ∨ q = (t + 13) ∨ q = (t + 14) ∨ (q = (t + 11) ∧ j = 1)) (V := fun q j => (q = 39 ∧ j = 3) ∨ (q = 39 ∧ j = 4)) FI (fun q j h => (h.elim (fun h => (Or.inl h)) (fun h => (Or.inr (Or.inl h))))) g503
  have t506 := (g503 23 1).resolve_left (fun h => h.elim (fun h => absurd h.2 (gz_ne rfl)) (fun h => absurd h.2 (gz_ne rfl)))
  have t507 := (g503 23 5).resolve_left (fun h => h.elim (fun h => absurd h.2 (gz_ne rfl)) (fun h => absurd h.2 (gz_ne rfl)))
  have t508 := (g503 23 6).resolve_left (fun h => h.elim (fun h => absurd h.2 (gz_ne rfl)) (fun h => absurd h.2 (gz_ne rfl)))
  have t509 := (g503 23 7).resolve_left (fun h => h.elim (fun h => absurd h.2 (gz_ne rfl)) (fun h => absurd h.2 (gz_ne rfl)))
  have t510 := (g503 1 17).resolve_left (fun h => h.elim (fun h => absurd h.2 (gz_ne rfl)) (fun h => absurd h.2 (gz_ne rfl)))
  have t511 := (g503 (t + 11) 1).resolve_left (fun h => h.elim (fun h => absurd h.2 (gz_ne rfl)) (fun h => absurd h.2 (gz_ne rfl)))
  have t512 := (g503 41 0).resolve_left (fun h => h.elim (fun h => absurd h.2 (gz_ne rfl)) (fun h => absurd h.2 (gz_ne rfl)))
  have t513 := (g503 41 1).resolve_left (fun h => h.elim (fun h => absurd h.2 (gz_ne rfl)) (fun h => absurd h.2 (gz_ne rfl)))
  have t514 := (g503 41 2).resolve_left (fun h => h.elim (fun h => absurd h.2 (gz_ne rfl)) (fun h => absurd h.2 (gz_ne rfl)))
  have t515 := (g503 39 5).resolve_left (fun h => h.elim (fun h => absurd h.2 (gz_ne rfl)) (fun h => absurd h.2 (gz_ne rfl)))
  have t516 := (g503 1 18).resolve_left (fun h => h.elim (fun h => absurd h.2 (gz_ne rfl)) (fun h => absurd h.2 (gz_ne rfl)))
  have t517 := (g503 39 8).resolve_left (fun h => h.elim (fun h => absurd h.2 (gz_ne rfl)) (fun h => absurd h.2 (gz_ne rfl)))
  have t518 := (g503 39 2).resolve_left (fun h => h.elim (fun h => absurd h.2 (gz_ne rfl)) (fun h => absurd h.2 (gz_ne rfl)))
  obtain rfl : J = J505 := funext fun q => funext fun j => ((k503 q j).resolve_left id).symm
  have KLT_I504 := gc_LT_fr KLT_I ((g503 23 5).resolve_left (fun h => h.elim (fun h => absurd h.2 (gz_ne rfl)) (fun h => absurd h.2 (gz_ne rfl)))) ((g503 23 6).resolve_left (fun h => h.elim (fun h => absurd h.2 (gz_ne rfl)) (fun h => absurd h.2 (gz_ne rfl)))) ((g503 23 7).resolve_left (fun h => h.elim (fun h => absurd h.2 (gz_ne rfl)) (fun h => absurd h.2 (gz_ne rfl)))) (fun k => (g503 24 k).resolve_left (fun h => h.elim (fun h => absurd h.1 (gz_ne rfl)) (fun h => absurd h.1 (gz_ne rfl))))
  have KTK_I504 := gc_TK_fr KTK_I ((g503 23 1).resolve_left (fun h => h.elim (fun h => absurd h.2 (gz_ne rfl)) (fun h => absurd h.2 (gz_ne rfl)))) ((g503 23 5).resolve_left (fun h => h.elim (fun h => absurd h.2 (gz_ne rfl)) (fun h => absurd h.2 (gz_ne rfl)))) ((g503 23 6).resolve_left (fun h => h.elim (fun h => absurd h.2 (gz_ne rfl)) (fun h => absurd h.2 (gz_ne rfl)))) ((g503 23 7).resolve_left (fun h => h.elim (fun h => absurd h.2 (gz_ne rfl)) (fun h => absurd h.2 (gz_ne rfl))))
  have KPK_I504 := gc_PKs_fr KPK_I ((g503 1 17).resolve_left (fun h => h.elim (fun h => absurd h.2 (gz_ne rfl)) (fun h => absurd h.2 (gz_ne rfl)))) (fun k => (g503 20 k).resolve_left (fun h => h.elim (fun h => absurd h.1 (gz_ne rfl)) (fun h => absurd h.1 (gz_ne rfl))))
  have A519 := gc_AT_I x1 ((g503 23 1).resolve_left (fun h => h.elim (fun h => absurd h.2 (gz_ne rfl)) (fun h => absurd h.2 (gz_ne rfl)))) ((g503 23 5).resolve_left (fun h => h.elim (fun h => absurd h.2 (gz_ne rfl)) (fun h => absurd h.2 (gz_ne rfl)))) ((g503 23 6).resolve_left (fun h => h.elim (fun h => absurd h.2 (gz_ne rfl)) (fun h => absurd h.2 (gz_ne rfl)))) ((g503 23 7).resolve_left (fun h => h.elim (fun h => absurd h.2 (gz_ne rfl)) (fun h => absurd h.2 (gz_ne rfl)))) ((g503 23 8).resolve_left (fun h => h.elim (fun h => absurd h.2 (gz_ne rfl)) (fun h => absurd h.2 (gz_ne rfl)))) (fun k => (g503 24 k).resolve_left (fun h => h.elim (fun h => absurd h.1 (gz_ne rfl)) (fun h => absurd h.1 (gz_ne rfl))))
  have t520 := gc_AT_l A519
  refine gv_callV hD rfl (As := [.inr (.inr (some (t + 11)))]) (st := []) rfl B_39 S_39 rfl (gc_lV6 hws rfl) (Nat.le_of_ble_eq_true rfl) (gz_Ev_mono (d := 3) (by decide) E503) ?_
  show gv_X _ _ (11, [(0, .inr (.inr (some 39)))], [.inl z503], sh, gc_h sh I504 J A)
  refine gv_if_ne (t := 16) hD rfl rfl ⟨by exact gz_m 585 (by omega), by exact gz_m 586 (by omega)⟩ (fun c521 => ?_) (fun c521 => ?_)
  · show gv_X _ _ (16, [(0, .inr (.inr (some 39)))], [], sh, gc_h sh I504 J A)
    have u522 := gs_or1 q503.2.2.2 (by exact gz_m 587 (by omega))
    have L503 : gs_T β η p9 = 1 → gc_fd (J ((t + 11) + 1)) (gs_M β η p9) (Int.toNat (I (t + 11) 1)) = gs_lt Jr 23 (24 * Ir 0 6) (Ir 17 (Int.toNat (Ir 0 6))) (gs_rn β η p9) := (fun h => by exact gs_NA_lt x5 x4 h)
    have t523 := L503 (by exact gz_m 588 (by omega))
    have tM := gc_AT_m A519 (by exact gz_m 589 (by omega))
    refine gv_run 1 true hD (pc' := 17) (lv' := [(0, .inr (.inr (some 39)))]) (st' := [.inr (.inr (some 39))]) (h' := gc_h sh I504 J A) (C := (True ∧ True)) rfl ⟨trivial, trivial⟩ ?_
    refine gv_get hD rfl rfl S_39 ⟨by decide, B_39⟩ (gc_hA S_39 rfl A_39_1) ?_
    show gv_X _ _ (20, [(0, .inr (.inr (some 39)))], [.inr (.inr (some 23))], sh, gc_h sh I504 J A)
    refine gv_get hD rfl rfl S_23 ⟨by decide, B_23⟩ (gc_hJ S_23 rfl) ?_
    show gv_X _ _ (23, [(0, .inr (.inr (some 39)))], [.inr (.inl (J 23 9))], sh, gc_h sh I504 J A)
    refine gv_run 2 true hD (pc' := 25) (lv' := [(1, .inr (.inl (J 23 9))), (0, .inr (.inr (some 39)))]) (st' := [.inr (.inr (some 39))]) (h' := gc_h sh I504 J A) (C := ((True ∧ True) ∧ True)) rfl ⟨⟨trivial, trivial⟩, trivial⟩ ?_
    refine gv_get hD rfl rfl S_39 ⟨by decide, B_39⟩ (gc_hA S_39 rfl A_39_1) ?_
    show gv_X _ _ (28, [(1, .inr (.inl (J 23 9))), (0, .inr (.inr (some 39)))], [.inr (.inr (some 23))], sh, gc_h sh I504 J A)
    have t525 := gc_TK_nx KTK_I504 (by exact gz_m 590 (by omega))
    have t526 := gc_TK_st KTK_I504 (by exact gz_m 591 (by omega))
    obtain ⟨r524, h524, E524, P524⟩ := d_X9_advance_p (ws0 := ws0) (tb := tb) hws htb sh ro I504 J A hI504 23 β η  (gc_b23 hb)    (by exact gz_m 592 (by omega)) A519.1.1 A519.1.2 
    obtain ⟨I527, J528, rfl, hI527, g524, k524, ⟨rfl, V524_0, V524_1, V524_2, V524_3, V524_4, q524⟩⟩ := P524
    have FI527 := gc_frc (W := fun q j => (q = 39 ∧ j = 3) ∨ (q = 39 ∧ j = 4) ∨ (q = 23 ∧ j = 5) ∨ (q = 23 ∧ j = 6) ∨ (q = 23 ∧ j = 7) ∨ (q = 23 ∧ j = 8) ∨ (q = 1 ∧ j = 17) ∨ (q = 1 ∧ j = 18) ∨ q = 20 ∨ (q = 39 ∧ j = 6) ∨ (q = 39 ∧ j = 8) ∨ q = 40 ∨ (q = 41 ∧ j = 0) ∨ (q = 41 ∧ j = 1) ∨ (q = 41 ∧ j = 2) ∨ q = (t + 13) ∨ q = (t + 14) ∨ (q = (t + 11) ∧ j = 1)) (V := fun q j => (q = 23 ∧ j = 5) ∨ (q = 23 ∧ j = 6) ∨ (q = 23 ∧ j = 7) ∨ (q = 23 ∧ j = 8)) FI504 (fun q j h => (h.elim (fun h => (Or.inr (Or.inr (Or.inl h)))) (fun h => (h.elim (fun h => (Or.inr (Or.inr (Or.inr (Or.inl h))))) (fun h => (h.elim (fun h => (Or.inr (Or.inr (Or.inr (Or.inr (Or.inl h)))))) (fun h => (Or.inr (Or.inr (Or.inr (Or.inr (Or.inr (Or.inl h))))))))))))) g524
    have FJ528 := gc_frc (W := fun q j => (q = 23 ∧ j = 9) ∨ q = (t + 12)) (V := fun q j => (q = 23 ∧ j = 9)) FJ (fun q j h => (Or.inl h)) k524
    have t529 := (g524 23 1).resolve_left (fun h => h.elim (fun h => absurd h.2 (gz_ne rfl)) (fun h => h.elim (fun h => absurd h.2 (gz_ne rfl)) (fun h => h.elim (fun h => absurd h.2 (gz_ne rfl)) (fun h => absurd h.2 (gz_ne rfl)))))
    have t530 := (g524 1 17).resolve_left (fun h => h.elim (fun h => absurd h.2 (gz_ne rfl)) (fun h => h.elim (fun h => absurd h.2 (gz_ne rfl)) (fun h => h.elim (fun h => absurd h.2 (gz_ne rfl)) (fun h => absurd h.2 (gz_ne rfl)))))
    have t531 := (g524 (t + 11) 1).resolve_left (fun h => h.elim (fun h => absurd h.2 (gz_ne rfl)) (fun h => h.elim (fun h => absurd h.2 (gz_ne rfl)) (fun h => h.elim (fun h => absurd h.2 (gz_ne rfl)) (fun h => absurd h.2 (gz_ne rfl)))))
    have t532 := (g524 41 0).resolve_left (fun h => h.elim (fun h => absurd h.2 (gz_ne rfl)) (fun h => h.elim (fun h => absurd h.2 (gz_ne rfl)) (fun h => h.elim (fun h => absurd h.2 (gz_ne rfl)) (fun h => absurd h.2 (gz_ne rfl)))))
    have t533 := (g524 41 1).resolve_left (fun h => h.elim (fun h => absurd h.2 (gz_ne rfl)) (fun h => h.elim (fun h => absurd h.2 (gz_ne rfl)) (fun h => h.elim (fun h => absurd h.2 (gz_ne rfl)) (fun h => absurd h.2 (gz_ne rfl)))))
    have t534 := (g524 41 2).resolve_left (fun h => h.elim (fun h => absurd h.2 (gz_ne rfl)) (fun h => h.elim (fun h => absurd h.2 (gz_ne rfl)) (fun h => h.elim (fun h => absurd h.2 (gz_ne rfl)) (fun h => absurd h.2 (gz_ne rfl)))))
    have t535 := (g524 39 5).resolve_left (fun h => h.elim (fun h => absurd h.1 (gz_ne rfl)) (fun h => h.elim (fun h => absurd h.2 (gz_ne rfl)) (fun h => h.elim (fun h => absurd h.2 (gz_ne rfl)) (fun h => absurd h.2 (gz_ne rfl)))))
    have t536 := (g524 1 18).resolve_left (fun h => h.elim (fun h => absurd h.2 (gz_ne rfl)) (fun h => h.elim (fun h => absurd h.2 (gz_ne rfl)) (fun h => h.elim (fun h => absurd h.2 (gz_ne rfl)) (fun h => absurd h.2 (gz_ne rfl)))))
    have t537 := (g524 39 8).resolve_left (fun h => h.elim (fun h => absurd h.2 (gz_ne rfl)) (fun h => h.elim (fun h => absurd h.2 (gz_ne rfl)) (fun h => h.elim (fun h => absurd h.2 (gz_ne rfl)) (fun h => absurd h.1 (gz_ne rfl)))))
    have t538 := (g524 39 2).resolve_left (fun h => h.elim (fun h => absurd h.2 (gz_ne rfl)) (fun h => h.elim (fun h => absurd h.2 (gz_ne rfl)) (fun h => h.elim (fun h => absurd h.2 (gz_ne rfl)) (fun h => absurd h.2 (gz_ne rfl)))))
    have f539 := (gc_b_3_5 hI527 R_23)
    have f540 := (gc_b_3_6 hI527 R_23)
    have f541 := (gc_b_3_7 hI527 R_23)
    have KLT_I527 : gc_LT I527 := q524.2.2.1
    have KPK_I527 := gc_PKs_fr KPK_I504 ((g524 1 17).resolve_left (fun h => h.elim (fun h => absurd h.2 (gz_ne rfl)) (fun h => h.elim (fun h => absurd h.2 (gz_ne rfl)) (fun h => h.elim (fun h => absurd h.2 (gz_ne rfl)) (fun h => absurd h.2 (gz_ne rfl)))))) (fun k => (g524 20 k).resolve_left (fun h => h.elim (fun h => absurd h.1 (gz_ne rfl)) (fun h => h.elim (fun h => absurd h.1 (gz_ne rfl)) (fun h => h.elim (fun h => absurd h.1 (gz_ne rfl)) (fun h => absurd h.1 (gz_ne rfl))))))
    have KTK_I527 : gc_TK I527 := And.intro V524_0 (And.intro V524_1 (And.intro V524_2 (And.intro V524_3 V524_4)))
    have t542 := gc_TK_mo KTK_I527
    clear V524_0 V524_1 V524_2 V524_3 V524_4
    have A543 := gc_AT_nx A519 q524.2.2.2
    have t544 := gc_AT_l A543
    refine gv_callV hD rfl (As := []) (st := []) rfl B_23 S_23 rfl (gc_lV6 hws rfl) (Nat.le_of_ble_eq_true rfl) (gz_Ev_mono (d := 2) (by decide) E524) ?_
    show gv_X _ _ (31, [(1, .inr (.inl (J 23 9))), (0, .inr (.inr (some 39)))], [], sh, gc_h sh I527 J528 A)
    refine gv_run 2 true hD (pc' := 33) (lv' := [(1, .inr (.inl (J 23 9))), (0, .inr (.inr (some 39)))]) (st' := [.inl 0, .inr (.inr (some 39))]) (h' := gc_h sh I527 J528 A) (C := ((True ∧ True) ∧ True)) rfl ⟨⟨trivial, trivial⟩, trivial⟩ ?_
    refine gv_put hD rfl rfl S_39 ⟨by decide, B_39⟩ rfl trivial ?_
    refine gc_st (k := 8) hI527 S_39 rfl R_39 (lo := 0) (hi := 24) rfl rfl (by exact gz_m 593 (by omega)) (by exact gz_m 594 (by omega)) (fun I545 hI545 q546 p546 => ?_)
    have FI545 := gc_frs (W := fun q j => (q = 39 ∧ j = 3) ∨ (q = 39 ∧ j = 4) ∨ (q = 23 ∧ j = 5) ∨ (q = 23 ∧ j = 6) ∨ (q = 23 ∧ j = 7) ∨ (q = 23 ∧ j = 8) ∨ (q = 1 ∧ j = 17) ∨ (q = 1 ∧ j = 18) ∨ q = 20 ∨ (q = 39 ∧ j = 6) ∨ (q = 39 ∧ j = 8) ∨ q = 40 ∨ (q = 41 ∧ j = 0) ∨ (q = 41 ∧ j = 1) ∨ (q = 41 ∧ j = 2) ∨ q = (t + 13) ∨ q = (t + 14) ∨ (q = (t + 11) ∧ j = 1)) FI527 (Or.inr (Or.inr (Or.inr (Or.inr (Or.inr (Or.inr (Or.inr (Or.inr (Or.inr (Or.inr (Or.inl ⟨rfl, rfl⟩))))))))))) p546
    have t547 := p546 23 1 (fun h => absurd h.2 (gz_ne rfl))
    have t548 := p546 23 5 (fun h => absurd h.2 (gz_ne rfl))
    have t549 := p546 23 6 (fun h => absurd h.2 (gz_ne rfl))
    have t550 := p546 23 7 (fun h => absurd h.2 (gz_ne rfl))
    have t551 := p546 1 17 (fun h => absurd h.2 (gz_ne rfl))
    have t552 := p546 (t + 11) 1 (fun h => absurd h.2 (gz_ne rfl))
    have t553 := p546 41 0 (fun h => absurd h.2 (gz_ne rfl))
    have t554 := p546 41 1 (fun h => absurd h.2 (gz_ne rfl))
    have t555 := p546 41 2 (fun h => absurd h.2 (gz_ne rfl))
    have t556 := p546 39 5 (fun h => absurd h.2 (gz_ne rfl))
    have t557 := p546 1 18 (fun h => absurd h.2 (gz_ne rfl))
    have t558 := p546 39 2 (fun h => absurd h.2 (gz_ne rfl))
    have f559 := (gc_b_42_8 hI545 R_39)
    have KLT_I545 := gc_LT_fr KLT_I527 (p546 23 5 (fun h => absurd h.2 (gz_ne rfl))) (p546 23 6 (fun h => absurd h.2 (gz_ne rfl))) (p546 23 7 (fun h => absurd h.2 (gz_ne rfl))) (fun k => p546 24 k (fun h => absurd h.1 (gz_ne rfl)))
    have KTK_I545 := gc_TK_fr KTK_I527 (p546 23 1 (fun h => absurd h.2 (gz_ne rfl))) (p546 23 5 (fun h => absurd h.2 (gz_ne rfl))) (p546 23 6 (fun h => absurd h.2 (gz_ne rfl))) (p546 23 7 (fun h => absurd h.2 (gz_ne rfl)))
    have KPK_I545 := gc_PKs_fr KPK_I527 (p546 1 17 (fun h => absurd h.2 (gz_ne rfl))) (fun k => p546 20 k (fun h => absurd h.1 (gz_ne rfl)))
    have A560 := gc_AT_I A543 (p546 23 1 (fun h => absurd h.2 (gz_ne rfl))) (p546 23 5 (fun h => absurd h.2 (gz_ne rfl))) (p546 23 6 (fun h => absurd h.2 (gz_ne rfl))) (p546 23 7 (fun h => absurd h.2 (gz_ne rfl))) (p546 23 8 (fun h => absurd h.1 (gz_ne rfl))) (fun k => p546 24 k (fun h => absurd h.1 (gz_ne rfl)))
    show gv_X _ _ (36, [(1, .inr (.inl (J 23 9))), (0, .inr (.inr (some 39)))], [], sh, gc_h sh I545 J528 A)
    refine gv_run 2 true hD (pc' := 40) (lv' := [(1, .inr (.inl (J 23 9))), (0, .inr (.inr (some 39)))]) (st' := [.inr (.inl (28518)), .inr (.inr (some 39))]) (h' := gc_h sh I545 J528 A) (C := ((True ∧ True) ∧ True)) rfl ⟨⟨trivial, trivial⟩, trivial⟩ ?_
    obtain ⟨r561, h561, E561, P561⟩ := d_X6_isWord_p (ws0 := ws0) (tb := tb) hws htb sh ro I545 J528 A hI545  β η (gs_X β η p9) (28518) hb    A560 (by exact gz_m 595 (by omega)) 
    obtain ⟨rfl, ⟨z561, rfl, q561⟩⟩ := P561
    have t562 : z561 = gs_kw β η (gs_X β η p9) (gs_W 94) := q561.2.2.2.trans (gs_kwc_kw (gs_W_al 94 (by decide) (by decide)))
    refine gv_callV hD rfl (As := [.inr (.inl (28518))]) (st := []) rfl B_39 S_39 rfl (gc_lV6 hws rfl) (Nat.le_of_ble_eq_true rfl) (gz_Ev_mono (d := 1) (by decide) E561) ?_
    show gv_X _ _ (43, [(1, .inr (.inl (J 23 9))), (0, .inr (.inr (some 39)))], [.inl z561], sh, gc_h sh I545 J528 A)
    refine gv_if_eq (t := 55) hD rfl rfl ⟨by exact gz_m 596 (by omega), by exact gz_m 597 (by omega)⟩ (fun c563 => ?_) (fun c563 => ?_)
    · show gv_X _ _ (55, [(1, .inr (.inl (J 23 9))), (0, .inr (.inr (some 39)))], [], sh, gc_h sh I545 J528 A)
      refine gv_pick [1, 0] rfl ?_
      exact L55 I545 J528 (J 23 9) (gs_X β η p9) hI545 FI545 FJ528 KLT_I545 KTK_I545 KPK_I545 (by exact gz_m 598 (by omega)) A560 tM ⟨[], (by unfold gs_qtw gs_qt1; (repeat first | rw [if_pos (by exact gz_m 599 (by omega))] | rw [if_neg (by exact gz_m 600 (by omega))])), gs_CM_0 (by exact gz_m 601 (by omega))⟩ ⟨((((p546 (t + 11) 1 (by exact gz_m 602 (by omega))).trans ((g524 (t + 11) 1).resolve_left (by exact gz_m 603 (by omega)))).trans ((g503 (t + 11) 1).resolve_left (by exact gz_m 604 (by omega))))), (fun k => ((k524 (t + 12) k).resolve_left (by exact gz_m 605 (by omega)))), (fun k => (((p546 (t + 13) k (by exact gz_m 606 (by omega))).trans ((g524 (t + 13) k).resolve_left (by exact gz_m 607 (by omega)))).trans ((g503 (t + 13) k).resolve_left (by exact gz_m 608 (by omega))))), (fun k => (((p546 (t + 14) k (by exact gz_m 609 (by omega))).trans ((g524 (t + 14) k).resolve_left (by exact gz_m 610 (by omega)))).trans ((g503 (t + 14) k).resolve_left (by exact gz_m 611 (by omega))))), ((((p546 39 5 (by exact gz_m 612 (by omega))).trans ((g524 39 5).resolve_left (by exact gz_m 613 (by omega)))).trans ((g503 39 5).resolve_left (by exact gz_m 614 (by omega)))))⟩
    · show gv_X _ _ (46, [(1, .inr (.inl (J 23 9))), (0, .inr (.inr (some 39)))], [], sh, gc_h sh I545 J528 A)
      refine gv_run 1 true hD (pc' := 47) (lv' := [(1, .inr (.inl (J 23 9))), (0, .inr (.inr (some 39)))]) (st' := [.inr (.inr (some 39))]) (h' := gc_h sh I545 J528 A) (C := (True ∧ True)) rfl ⟨trivial, trivial⟩ ?_
      obtain ⟨r564, h564, E564, P564⟩ := d_X6_readParent_p (ws0 := ws0) (tb := tb) hws htb sh ro I545 J528 A hI545  t β η (gs_X β η p9) Ir Jr  hb  h_t G_t   (by exact gz_m 615 (by omega)) A560 (by exact gz_m 616 (by omega)) (by have h9 := x4; have h8 := (show I545 (t + 11) 1 = I (t + 11) 1 from (((p546 (t + 11) 1 (by exact gz_m 617 (by omega))).trans ((g524 (t + 11) 1).resolve_left (by exact gz_m 618 (by omega)))).trans ((g503 (t + 11) 1).resolve_left (by exact gz_m 619 (by omega))))); exact gz_m 620 (by omega)) (by rw [show I545 (t + 11) 1 = I (t + 11) 1 from (((p546 (t + 11) 1 (by exact gz_m 621 (by omega))).trans ((g524 (t + 11) 1).resolve_left (by exact gz_m 622 (by omega)))).trans ((g503 (t + 11) 1).resolve_left (by exact gz_m 623 (by omega)))), show J528 (t + 12) = J (t + 12) from funext fun j => ((k524 (t + 12) j).resolve_left (by exact gz_m 624 (by omega)))]; exact x5) (gs_PT_fr x9 (((p546 (t + 11) 1 (by exact gz_m 625 (by omega))).trans ((g524 (t + 11) 1).resolve_left (by exact gz_m 626 (by omega)))).trans ((g503 (t + 11) 1).resolve_left (by exact gz_m 627 (by omega)))) (fun k => (((p546 (t + 13) k (by exact gz_m 628 (by omega))).trans ((g524 (t + 13) k).resolve_left (by exact gz_m 629 (by omega)))).trans ((g503 (t + 13) k).resolve_left (by exact gz_m 630 (by omega))))) (fun k => (((p546 (t + 14) k (by exact gz_m 631 (by omega))).trans ((g524 (t + 14) k).resolve_left (by exact gz_m 632 (by omega)))).trans ((g503 (t + 14) k).resolve_left (by exact gz_m 633 (by omega)))))) (gs_PM_fr x10 (((p546 (t + 11) 1 (by exact gz_m 634 (by omega))).trans ((g524 (t + 11) 1).resolve_left (by exact gz_m 635 (by omega)))).trans ((g503 (t + 11) 1).resolve_left (by exact gz_m 636 (by omega)))) (fun k => (((p546 (t + 13) k (by exact gz_m 637 (by omega))).trans ((g524 (t + 13) k).resolve_left (by exact gz_m 638 (by omega)))).trans ((g503 (t + 13) k).resolve_left (by exact gz_m 639 (by omega))))) (fun k => (((p546 (t + 14) k (by exact gz_m 640 (by omega))).trans ((g524 (t + 14) k).resolve_left (by exact gz_m 641 (by omega)))).trans ((g503 (t + 14) k).resolve_left (by exact gz_m 642 (by omega))))) KPK_I545) (by exact gz_m 643 (by omega)) KLT_I545 KTK_I545
      obtain ⟨I565, J566, rfl, hI565, g564, k564, KLT_I565, KTK_I565, ⟨z564, rfl, q564⟩⟩ := P564
      have FI565 := gc_frc (W := fun q j => (q = 39 ∧ j = 3) ∨ (q = 39 ∧ j = 4) ∨ (q = 23 ∧ j = 5) ∨ (q = 23 ∧ j = 6) ∨ (q = 23 ∧ j = 7) ∨ (q = 23 ∧ j = 8) ∨ (q = 1 ∧ j = 17) ∨ (q = 1 ∧ j = 18) ∨ q = 20 ∨ (q = 39 ∧ j = 6) ∨ (q = 39 ∧ j = 8) ∨ q = 40 ∨ (q = 41 ∧ j = 0) ∨ (q = 41 ∧ j = 1) ∨ (q = 41 ∧ j = 2) ∨ q = (t + 13) ∨ q = (t + 14) ∨ (q = (t + 11) ∧ j = 1)) (V := fun q j => (q = 39 ∧ j = 3) ∨ (q = 39 ∧ j = 4) ∨ (q = 23 ∧ j = 5) ∨ (q = 23 ∧ j = 6) ∨ (q = 23 ∧ j = 7) ∨ (q = 23 ∧ j = 8) ∨ (q = 39 ∧ j = 8) ∨ q = 40) FI545 (fun q j h => (h.elim (fun h => (Or.inl h)) (fun h => (h.elim (fun h => (Or.inr (Or.inl h))) (fun h => (h.elim (fun h => (Or.inr (Or.inr (Or.inl h)))) (fun h => (h.elim (fun h => (Or.inr (Or.inr (Or.inr (Or.inl h))))) (fun h => (h.elim (fun h => (Or.inr (Or.inr (Or.inr (Or.inr (Or.inl h)))))) (fun h => (h.elim (fun h => (Or.inr (Or.inr (Or.inr (Or.inr (Or.inr (Or.inl h))))))) (fun h => (h.elim (fun h => (Or.inr (Or.inr (Or.inr (Or.inr (Or.inr (Or.inr (Or.inr (Or.inr (Or.inr (Or.inr (Or.inl h)))))))))))) (fun h => (Or.inr (Or.inr (Or.inr (Or.inr (Or.inr (Or.inr (Or.inr (Or.inr (Or.inr (Or.inr (Or.inr (Or.inl h))))))))))))))))))))))))))) g564
      have FJ566 := gc_frc (W := fun q j => (q = 23 ∧ j = 9) ∨ q = (t + 12)) (V := fun q j => (q = 23 ∧ j = 9)) FJ528 (fun q j h => (Or.inl h)) k564
      have t567 := (g564 23 1).resolve_left (fun h => h.elim (fun h => absurd h.2 (gz_ne rfl)) (fun h => h.elim (fun h => absurd h.2 (gz_ne rfl)) (fun h => h.elim (fun h => absurd h.2 (gz_ne rfl)) (fun h => h.elim (fun h => absurd h.2 (gz_ne rfl)) (fun h => h.elim (fun h => absurd h.2 (gz_ne rfl)) (fun h => h.elim (fun h => absurd h.2 (gz_ne rfl)) (fun h => h.elim (fun h => absurd h.2 (gz_ne rfl)) (fun h => absurd h (gz_ne rfl)))))))))
      have t568 := (g564 1 17).resolve_left (fun h => h.elim (fun h => absurd h.2 (gz_ne rfl)) (fun h => h.elim (fun h => absurd h.2 (gz_ne rfl)) (fun h => h.elim (fun h => absurd h.2 (gz_ne rfl)) (fun h => h.elim (fun h => absurd h.2 (gz_ne rfl)) (fun h => h.elim (fun h => absurd h.2 (gz_ne rfl)) (fun h => h.elim (fun h => absurd h.2 (gz_ne rfl)) (fun h => h.elim (fun h => absurd h.2 (gz_ne rfl)) (fun h => absurd h (gz_ne rfl)))))))))
      have t569 := (g564 (t + 11) 1).resolve_left (fun h => h.elim (fun h => absurd h.2 (gz_ne rfl)) (fun h => h.elim (fun h => absurd h.2 (gz_ne rfl)) (fun h => h.elim (fun h => absurd h.2 (gz_ne rfl)) (fun h => h.elim (fun h => absurd h.2 (gz_ne rfl)) (fun h => h.elim (fun h => absurd h.2 (gz_ne rfl)) (fun h => h.elim (fun h => absurd h.2 (gz_ne rfl)) (fun h => h.elim (fun h => absurd h.2 (gz_ne rfl)) (fun h => absurd h N_t_11__40))))))))
      have t570 := (g564 41 0).resolve_left (fun h => h.elim (fun h => absurd h.2 (gz_ne rfl)) (fun h => h.elim (fun h => absurd h.2 (gz_ne rfl)) (fun h => h.elim (fun h => absurd h.2 (gz_ne rfl)) (fun h => h.elim (fun h => absurd h.2 (gz_ne rfl)) (fun h => h.elim (fun h => absurd h.2 (gz_ne rfl)) (fun h => h.elim (fun h => absurd h.2 (gz_ne rfl)) (fun h => h.elim (fun h => absurd h.2 (gz_ne rfl)) (fun h => absurd h (gz_ne rfl)))))))))
      have t571 := (g564 41 1).resolve_left (fun h => h.elim (fun h => absurd h.2 (gz_ne rfl)) (fun h => h.elim (fun h => absurd h.2 (gz_ne rfl)) (fun h => h.elim (fun h => absurd h.2 (gz_ne rfl)) (fun h => h.elim (fun h => absurd h.2 (gz_ne rfl)) (fun h => h.elim (fun h => absurd h.2 (gz_ne rfl)) (fun h => h.elim (fun h => absurd h.2 (gz_ne rfl)) (fun h => h.elim (fun h => absurd h.2 (gz_ne rfl)) (fun h => absurd h (gz_ne rfl)))))))))
      have t572 := (g564 41 2).resolve_left (fun h => h.elim (fun h => absurd h.2 (gz_ne rfl)) (fun h => h.elim (fun h => absurd h.2 (gz_ne rfl)) (fun h => h.elim (fun h => absurd h.2 (gz_ne rfl)) (fun h => h.elim (fun h => absurd h.2 (gz_ne rfl)) (fun h => h.elim (fun h => absurd h.2 (gz_ne rfl)) (fun h => h.elim (fun h => absurd h.2 (gz_ne rfl)) (fun h => h.elim (fun h => absurd h.2 (gz_ne rfl)) (fun h => absurd h (gz_ne rfl)))))))))
      have t573 := (g564 39 5).resolve_left (fun h => h.elim (fun h => absurd h.2 (gz_ne rfl)) (fun h => h.elim (fun h => absurd h.2 (gz_ne rfl)) (fun h => h.elim (fun h => absurd h.1 (gz_ne rfl)) (fun h => h.elim (fun h => absurd h.2 (gz_ne rfl)) (fun h => h.elim (fun h => absurd h.2 (gz_ne rfl)) (fun h => h.elim (fun h => absurd h.2 (gz_ne rfl)) (fun h => h.elim (fun h => absurd h.2 (gz_ne rfl)) (fun h => absurd h (gz_ne rfl)))))))))
      have t574 := (g564 1 18).resolve_left (fun h => h.elim (fun h => absurd h.2 (gz_ne rfl)) (fun h => h.elim (fun h => absurd h.2 (gz_ne rfl)) (fun h => h.elim (fun h => absurd h.2 (gz_ne rfl)) (fun h => h.elim (fun h => absurd h.2 (gz_ne rfl)) (fun h => h.elim (fun h => absurd h.2 (gz_ne rfl)) (fun h => h.elim (fun h => absurd h.2 (gz_ne rfl)) (fun h => h.elim (fun h => absurd h.2 (gz_ne rfl)) (fun h => absurd h (gz_ne rfl)))))))))
      have t575 := (g564 39 2).resolve_left (fun h => h.elim (fun h => absurd h.2 (gz_ne rfl)) (fun h => h.elim (fun h => absurd h.2 (gz_ne rfl)) (fun h => h.elim (fun h => absurd h.2 (gz_ne rfl)) (fun h => h.elim (fun h => absurd h.2 (gz_ne rfl)) (fun h => h.elim (fun h => absurd h.2 (gz_ne rfl)) (fun h => h.elim (fun h => absurd h.2 (gz_ne rfl)) (fun h => h.elim (fun h => absurd h.2 (gz_ne rfl)) (fun h => absurd h (gz_ne rfl)))))))))
      have f576 := (gc_b_3_5 hI565 R_23)
      have f577 := (gc_b_3_6 hI565 R_23)
      have f578 := (gc_b_3_7 hI565 R_23)
      have f579 := (gc_b_42_8 hI565 R_39)
      have t580 := gc_TK_mo KTK_I565
      have KPK_I565 := gc_PKs_fr KPK_I545 ((g564 1 17).resolve_left (fun h => h.elim (fun h => absurd h.2 (gz_ne rfl)) (fun h => h.elim (fun h => absurd h.2 (gz_ne rfl)) (fun h => h.elim (fun h => absurd h.2 (gz_ne rfl)) (fun h => h.elim (fun h => absurd h.2 (gz_ne rfl)) (fun h => h.elim (fun h => absurd h.2 (gz_ne rfl)) (fun h => h.elim (fun h => absurd h.2 (gz_ne rfl)) (fun h => h.elim (fun h => absurd h.2 (gz_ne rfl)) (fun h => absurd h (gz_ne rfl)))))))))) (fun k => (g564 20 k).resolve_left (fun h => h.elim (fun h => absurd h.1 (gz_ne rfl)) (fun h => h.elim (fun h => absurd h.1 (gz_ne rfl)) (fun h => h.elim (fun h => absurd h.1 (gz_ne rfl)) (fun h => h.elim (fun h => absurd h.1 (gz_ne rfl)) (fun h => h.elim (fun h => absurd h.1 (gz_ne rfl)) (fun h => h.elim (fun h => absurd h.1 (gz_ne rfl)) (fun h => h.elim (fun h => absurd h.1 (gz_ne rfl)) (fun h => absurd h (gz_ne rfl))))))))))
      refine gv_callV hD rfl (As := []) (st := []) rfl B_39 S_39 rfl (gc_lV6 hws rfl) (Nat.le_of_ble_eq_true rfl) (gz_Ev_mono (d := 4) (by decide) E564) ?_
      show gv_X _ _ (50, [(1, .inr (.inl (J 23 9))), (0, .inr (.inr (some 39)))], [.inl z564], sh, gc_h sh I565 J566 A)
      refine gv_if_ne (t := 55) hD rfl rfl ⟨by exact gz_m 644 (by omega), by exact gz_m 645 (by omega)⟩ (fun c581 => ?_) (fun c581 => ?_)
      · show gv_X _ _ (55, [(1, .inr (.inl (J 23 9))), (0, .inr (.inr (some 39)))], [], sh, gc_h sh I565 J566 A)
        obtain ⟨u582, A582, U582⟩ := gs_or1 q564.2.2.2.2 (by exact gz_m 646 (by omega))
        have t583 := gc_AT_l A582
        refine gv_pick [1, 0] rfl ?_
        exact L55 I565 J566 (J 23 9) ((gs_par β η Ir Jr (gs_X β η p9))) hI565 FI565 FJ566 KLT_I565 KTK_I565 KPK_I565 (by exact gz_m 647 (by omega)) A582 tM ⟨_, (by unfold gs_qtw gs_qt1; (repeat first | rw [if_pos (by exact gz_m 648 (by omega))] | rw [if_neg (by exact gz_m 649 (by omega))]); exact U582.2), U582.1⟩ ⟨((((((g564 (t + 11) 1).resolve_left (by exact gz_m 650 (by omega))).trans (p546 (t + 11) 1 (by exact gz_m 651 (by omega)))).trans ((g524 (t + 11) 1).resolve_left (by exact gz_m 652 (by omega)))).trans ((g503 (t + 11) 1).resolve_left (by exact gz_m 653 (by omega))))), (fun k => (((k564 (t + 12) k).resolve_left (by exact gz_m 654 (by omega))).trans ((k524 (t + 12) k).resolve_left (by exact gz_m 655 (by omega))))), (fun k => (((((g564 (t + 13) k).resolve_left (by exact gz_m 656 (by omega))).trans (p546 (t + 13) k (by exact gz_m 657 (by omega)))).trans ((g524 (t + 13) k).resolve_left (by exact gz_m 658 (by omega)))).trans ((g503 (t + 13) k).resolve_left (by exact gz_m 659 (by omega))))), (fun k => (((((g564 (t + 14) k).resolve_left (by exact gz_m 660 (by omega))).trans (p546 (t + 14) k (by exact gz_m 661 (by omega)))).trans ((g524 (t + 14) k).resolve_left (by exact gz_m 662 (by omega)))).trans ((g503 (t + 14) k).resolve_left (by exact gz_m 663 (by omega))))), ((((((g564 39 5).resolve_left (by exact gz_m 664 (by omega))).trans (p546 39 5 (by exact gz_m 665 (by omega)))).trans ((g524 39 5).resolve_left (by exact gz_m 666 (by omega)))).trans ((g503 39 5).resolve_left (by exact gz_m 667 (by omega)))))⟩
      · show gv_X _ _ (53, [(1, .inr (.inl (J 23 9))), (0, .inr (.inr (some 39)))], [], sh, gc_h sh I565 J566 A)
        obtain ⟨u584, u584_, U584⟩ := gs_or0 q564.2.2.2.2 (by exact gz_m 668 (by omega))
        refine gv_run 1 true hD (pc' := 54) (lv' := [(1, .inr (.inl (J 23 9))), (0, .inr (.inr (some 39)))]) (st' := [.inl 0]) (h' := gc_h sh I565 J566 A) (C := (True ∧ True)) rfl ⟨trivial, trivial⟩ ?_
        exact gv_zret hD rfl (by exact gz_m 669 (by omega)) ⟨I565, J566, rfl, hI565, FI565, FJ566, KLT_I565, KTK_I565, ⟨_, rfl, by exact gz_m 670 (by omega), by exact gz_m 671 (by omega), by exact gz_m 672 (by omega), by exact gz_m 673 (by omega), by exact gz_m 674 (by omega), KPK_I565, (Or.inr ⟨by exact gz_m 675 (by omega), by have h8 : gs_qtw β η Ir Jr p9 = (gs_par β η Ir Jr (gs_X β η p9), []) := (by unfold gs_qtw gs_qt1; (repeat first | rw [if_pos (by exact gz_m 676 (by omega))] | rw [if_neg (by exact gz_m 677 (by omega))]); exact U584); rw [gs_pat_x2 h8 (by exact gz_m 678 (by omega))]; exact ⟨by exact gz_m 679 (by omega), by exact gz_m 680 (by omega), (((((g564 (t + 11) 1).resolve_left (by exact gz_m 681 (by omega))).trans (p546 (t + 11) 1 (by exact gz_m 682 (by omega)))).trans ((g524 (t + 11) 1).resolve_left (by exact gz_m 683 (by omega)))).trans ((g503 (t + 11) 1).resolve_left (by exact gz_m 684 (by omega)))), fun j => ⟨(((k564 (t + 12) j).resolve_left (by exact gz_m 685 (by omega))).trans ((k524 (t + 12) j).resolve_left (by exact gz_m 686 (by omega)))), (((((g564 (t + 13) j).resolve_left (by exact gz_m 687 (by omega))).trans (p546 (t + 13) j (by exact gz_m 688 (by omega)))).trans ((g524 (t + 13) j).resolve_left (by exact gz_m 689 (by omega)))).trans ((g503 (t + 13) j).resolve_left (by exact gz_m 690 (by omega)))), (((((g564 (t + 14) j).resolve_left (by exact gz_m 691 (by omega))).trans (p546 (t + 14) j (by exact gz_m 692 (by omega)))).trans ((g524 (t + 14) j).resolve_left (by exact gz_m 693 (by omega)))).trans ((g503 (t + 14) j).resolve_left (by exact gz_m 694 (by omega))))⟩⟩⟩)⟩⟩
  · show gv_X _ _ (14, [(0, .inr (.inr (some 39)))], [], sh, gc_h sh I504 J A)
    have u585 := gs_or0 q503.2.2.2 (by exact gz_m 695 (by omega))
    have L503 : gs_T β η p9 = 1 → gc_fd (J ((t + 11) + 1)) (gs_M β η p9) (Int.toNat (I (t + 11) 1)) = gs_lt Jr 23 (24 * Ir 0 6) (Ir 17 (Int.toNat (Ir 0 6))) (gs_rn β η p9) := (fun h => by exact gs_NA_lt x5 x4 h)
    refine gv_run 1 true hD (pc' := 15) (lv' := [(0, .inr (.inr (some 39)))]) (st' := [.inl 0]) (h' := gc_h sh I504 J A) (C := (True ∧ True)) rfl ⟨trivial, trivial⟩ ?_
    exact gv_zret hD rfl (by exact gz_m 696 (by omega)) ⟨I504, J, rfl, hI504, FI504, FJ, KLT_I504, KTK_I504, ⟨_, rfl, by exact gz_m 697 (by omega), by exact gz_m 698 (by omega), by exact gz_m 699 (by omega), by exact gz_m 700 (by omega), by exact gz_m 701 (by omega), KPK_I504, (Or.inr ⟨by exact gz_m 702 (by omega), by have h8 : gs_qtw β η Ir Jr p9 = (-1 - gs_A β η p9, []) := (by unfold gs_qtw; by_cases c9 : gs_T β η p9 = 1; (have h9 := L503 c9; (repeat first | rw [if_pos (by exact gz_m 703 (by omega))] | rw [if_neg (by exact gz_m 704 (by omega))])); (repeat first | rw [if_pos (by exact gz_m 705 (by omega))] | rw [if_neg (by exact gz_m 706 (by omega))])); rw [gs_pat_x2 h8 (by exact gz_m 707 (by omega))]; exact ⟨by exact gz_m 708 (by omega), by exact gz_m 709 (by omega), ((g503 (t + 11) 1).resolve_left (by exact gz_m 710 (by omega))), fun j => ⟨rfl, ((g503 (t + 13) j).resolve_left (by exact gz_m 711 (by omega))), ((g503 (t + 14) j).resolve_left (by exact gz_m 712 (by omega)))⟩⟩⟩)⟩⟩
