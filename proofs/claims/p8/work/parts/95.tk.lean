/-! PARITY, the class's side: FEATURE -/
/-- m VALUES of a new FEATURE have come -/
def gs_Cfv (ns : Nat → Int64) (m t : Nat) (I : gr_I) (J : gr_J) (I' : gr_I) (J' : gr_J) : Prop :=
  I' (t + 3) 1 = I (t + 3) 1 + m ∧ (∀ i : Nat, i < m → J' (t + 4) (Int.toNat (I (t + 3) 1) + i) = ns i ∧ I' (t + 5) (Int.toNat (I (t + 3) 1) + i) = I (t + 1) 1 ∧ I' (t + 6) (Int.toNat (I (t + 3) 1) + i) = i + 1) ∧ ∀ j, ¬ (Int.toNat (I (t + 3) 1) ≤ j ∧ j < Int.toNat (I (t + 3) 1) + m) → J' (t + 4) j = J (t + 4) j ∧ I' (t + 5) j = I (t + 5) j ∧ I' (t + 6) j = I (t + 6) j
theorem gs_Cfv_0 {ns : Nat → Int64} {t : Nat} {I : gr_I} {J : gr_J} {I' : gr_I} {J' : gr_J} (h3 : I' (t + 3) 1 = I (t + 3) 1) (h4 : ∀ j, J' (t + 4) j = J (t + 4) j) (h5 : ∀ j, I' (t + 5) j = I (t + 5) j) (h6 : ∀ j, I' (t + 6) j = I (t + 6) j) : gs_Cfv ns 0 t I J I' J' :=
  ⟨by omega, fun i hi => absurd hi (by omega), fun j _ => ⟨h4 j, h5 j, h6 j⟩⟩
theorem gs_Cfv_fr {ns : Nat → Int64} {m t : Nat} {I : gr_I} {J : gr_J} {I1 I2 : gr_I} {J1 J2 : gr_J} (h : gs_Cfv ns m t I J I1 J1) (h3 : I2 (t + 3) 1 = I1 (t + 3) 1) (h4 : ∀ j, J2 (t + 4) j = J1 (t + 4) j) (h5 : ∀ j, I2 (t + 5) j = I1 (t + 5) j) (h6 : ∀ j, I2 (t + 6) j = I1 (t + 6) j) : gs_Cfv ns m t I J I2 J2 :=
  ⟨by rw [h3]; exact h.1, fun i hi => by rw [h4, h5, h6]; exact h.2.1 i hi, fun j hj => by rw [h4, h5, h6]; exact h.2.2 j hj⟩
set_option maxHeartbeats 8000000 in
theorem gs_Cfv_s {ns : Nat → Int64} {m t k1 k2 : Nat} {I I1 I2 I3 I4 : gr_I} {J J1 J2 : gr_J} (h : gs_Cfv ns m t I J I1 J1) (h0 : 0 ≤ I (t + 3) 1) (p1 : ∀ b j, ¬ (b = t + 5 ∧ j = k1) → I2 b j = I1 b j) (q1 : I2 (t + 5) k1 = I (t + 1) 1) (e1 : k1 = Int.toNat (I1 (t + 3) 1)) (p2 : ∀ b j, ¬ (b = t + 6 ∧ j = k2) → I3 b j = I2 b j) (q2 : I3 (t + 6) k2 = (m : Int) + 1) (e2 : k2 = Int.toNat (I1 (t + 3) 1)) (pu : gc_PU (t + 3) 48 (ns m) I3 J1 I4 J2) (hr : I1 (t + 3) 1 < 48) (f5 : ∀ j, I4 (t + 5) j = I3 (t + 5) j) (f6 : ∀ j, I4 (t + 6) j = I3 (t + 6) j) : gs_Cfv ns (m + 1) t I J I4 J2 := by
  obtain ⟨a, b, c⟩ := h
  have e3 : I3 (t + 3) 1 = I1 (t + 3) 1 := (p2 (t + 3) 1 (by exact gz_m 0 (by omega))).trans (p1 (t + 3) 1 (by exact gz_m 1 (by omega)))
  obtain ⟨u1, u2, u3⟩ := pu (by rw [e3]; exact hr)
  rw [e3] at u1 u2 u3
  have ek : Int.toNat (I1 (t + 3) 1) = Int.toNat (I (t + 3) 1) + m := by exact gz_m 2 (by omega)
  rw [ek] at u2 u3 e1 e2
  subst e1
  subst e2
  refine ⟨by exact gz_m 3 (by omega), fun i hi => ?_, fun j hj => ⟨(u3 j (by exact gz_m 4 (by omega))).trans (c j (by exact gz_m 5 (by omega))).1, ((f5 j).trans ((p2 (t + 5) j (by exact gz_m 6 (by omega))).trans (p1 (t + 5) j (by exact gz_m 7 (by omega))))).trans (c j (by exact gz_m 8 (by omega))).2.1, ((f6 j).trans ((p2 (t + 6) j (by exact gz_m 9 (by omega))).trans (p1 (t + 6) j (by exact gz_m 10 (by omega))))).trans (c j (by exact gz_m 11 (by omega))).2.2⟩⟩
  by_cases d : i = m
  · subst d
    exact ⟨u2, (f5 _).trans ((p2 (t + 5) _ (by exact gz_m 12 (by omega))).trans q1), (f6 _).trans q2⟩
  · have x := b i (by exact gz_m 13 (by omega))
    exact ⟨(u3 _ (by exact gz_m 14 (by omega))).trans x.1, ((f5 _).trans ((p2 (t + 5) _ (by exact gz_m 15 (by omega))).trans (p1 (t + 5) _ (by exact gz_m 16 (by omega))))).trans x.2.1, ((f6 _).trans ((p2 (t + 6) _ (by exact gz_m 17 (by omega))).trans (p1 (t + 6) _ (by exact gz_m 18 (by omega))))).trans x.2.2⟩
theorem gs_fea_f {β : Int → Int} {N q0 p n : Int} {f : Nat → Int64} (h : ∀ i : Nat, i < Int.toNat n → f i = gs_M β N (gs_nx β N i q0) ∧ gs_T β N (gs_nx β N i q0) = 1) (hT : gs_T β N p = 1) : gc_fd f (gs_M β N p) (Int.toNat n) = gs_find (fun i => gs_rn β N (gs_nx β N (Int.toNat (0 + i)) q0)) n (gs_rn β N p) := by
  refine gs_NA_find (fun k hk => ?_) (gs_al_p hT)
  have x := h k (by omega)
  show gs_al (f k) (gs_rn β N (gs_nx β N (Int.toNat (0 + (k : Int))) q0))
  rw [show Int.toNat (0 + (k : Int)) = k from by omega, x.1]
  exact gs_al_p x.2
theorem gs_fea_d {β : Int → Int} {N : Int} {I : gr_I} {first q0 q : Int} (hq : ¬ q < 0) (h : ¬ gs_cn β N 7 q0 = 1 ∨ ¬ gs_T β N q = 59) : gs_fea1 β N I first q0 q = gs_done β N (if I 13 (Int.toNat (I 0 6)) < 8 then 1 else 0) first q := by
  unfold gs_fea1
  rw [if_neg hq]
  by_cases c : gs_T β N q = 59
  · rw [if_pos c, if_neg (h.resolve_right (fun g => g c))]
  · rw [if_neg c]
    exact (if_neg c).symm
set_option maxHeartbeats 8000000 in
set_option maxRecDepth 100000 in
theorem d_X6_readFeature_p_L64 {ws0 : List Cond} {tb : String → gz_T} (hws : gc_Ws ws0) (htb : gc_tbs tb) (sh : gz_Sh) (ro : Nat → Nat) (I : gr_I) (J : gr_J) (A : gc_A) (hI : gc_Inv ro I) (t : Nat) (β : Int → Int) (η : Int) (p9 : Int) (Ir : gr_I) (Jr : gr_J)  (hb : gc_Base sh ro A) (h_t : gc_isTongue sh ro A t) (G_t : 144 ≤ t)  (x0 : I (t + 3) 1 ≤ 6 * I (t + 1) 1) (x1 : gc_AT β η p9 23 I J) (x2 : 0 ≤ p9) (x3 : I 1 18 = 0) (x4 : I (t + 1) 1 = Ir 13 (Int.toNat (Ir 0 6))) (x5 : gs_NA (I (t + 1) 1) (J (t + 2)) (fun k => Jr 20 (Int.toNat (8 * Ir 0 6 + (k : Int))))) (x6 : I (t + 3) 1 = Ir 14 (Int.toNat (Ir 0 6))) (x7 : gs_NA (I (t + 3) 1) (J (t + 4)) (fun k => Jr 21 (Int.toNat (48 * Ir 0 6 + (k : Int))))) (x8 : I 39 2 = (t : Int)) (KLT_I : gc_LT I) (KTK_I : gc_TK I) : ∀ (n9 : Nat) (I11 : gr_I) (J12 : gr_J) (v1_13 : Int64) (v3_13 : Int) (v4_13 : Int) (v5_13 : Int) (p_13 : Int), (7 - v4_13).toNat < n9 → gc_Inv ro I11 → (∀ q j : Nat, ((q = 39 ∧ j = 3) ∨ (q = 39 ∧ j = 4) ∨ (q = 23 ∧ j = 5) ∨ (q = 23 ∧ j = 6) ∨ (q = 23 ∧ j = 7) ∨ (q = 23 ∧ j = 8) ∨ q = (t + 5) ∨ q = (t + 6) ∨ (q = (t + 3) ∧ j = 1) ∨ (q = (t + 1) ∧ j = 1)) ∨ I11 q j = I q j) → (∀ q j : Nat, ((q = 23 ∧ j = 9) ∨ q = 42 ∨ q = (t + 4) ∨ q = (t + 2)) ∨ J12 q j = J q j) → gc_LT I11 → gc_TK I11 → ((0 ≤ v3_13 ∧ v3_13 ≤ 1000) ∧ (0 ≤ v4_13 ∧ v4_13 ≤ 6) ∧ (0 ≤ v5_13 ∧ v5_13 ≤ 7) ∧ (0 ≤ p_13) ∧ (I11 23 1 = I 23 1) ∧ (I 23 5 ≤ I11 23 5) ∧ (I11 (t + 3) 1 ≤ 6 * I11 (t + 1) 1) ∧ (I11 39 2 = (t : Int))) → (gc_AT β η p_13 23 I11 J12) → (v1_13 = gs_M β η p9) → ((gs_fea β η Ir Jr (I 39 5) p9) = gs_fea1 β η Ir (I 39 5) (gs_need β η 61 (gs_X β η p9)) (gs_vl β η Ir Jr (gs_need β η 61 (gs_X β η p9)) 6 0)) → (gs_vl β η Ir Jr (gs_need β η 61 (gs_X β η p9)) 6 0 = gs_vl β η Ir Jr (gs_need β η 61 (gs_X β η p9)) (Int.toNat (6 - v4_13)) v4_13) → (gs_cn β η 7 (gs_need β η 61 (gs_X β η p9)) = v4_13 + gs_cn β η (Int.toNat (7 - v4_13)) p_13) → (p_13 = gs_nx β η (Int.toNat v4_13) (gs_need β η 61 (gs_X β η p9))) → (v3_13 = gs_A β η (gs_need β η 61 (gs_X β η p9))) → (v5_13 = v4_13) → (∀ i : Nat, i < Int.toNat v4_13 → J12 42 i = gs_M β η (gs_nx β η i (gs_need β η 61 (gs_X β η p9))) ∧ gs_T β η (gs_nx β η i (gs_need β η 61 (gs_X β η p9))) = 1) → ((I11 (t + 1) 1 = I (t + 1) 1) ∧ (I11 (t + 3) 1 = I (t + 3) 1) ∧ (I11 39 5 = I 39 5) ∧ (I11 1 18 = I 1 18) ∧ (∀ k, J12 (t + 2) k = J (t + 2) k) ∧ (∀ k, J12 (t + 4) k = J (t + 4) k) ∧ (∀ k, I11 (t + 5) k = I (t + 5) k) ∧ (∀ k, I11 (t + 6) k = I (t + 6) k)) → gv_X (gc_E6 ws0 tb 4 (yX6_readFeature, cX6_readFeature, 7, (some .boolean)) kX6_readFeature) (gv_Q cX6_readFeature (some .boolean) sh (fun r h' => (∃ (I' : gr_I) (J' : gr_J), h' = gc_h sh I' J' A ∧ gc_Inv ro I' ∧ (∀ q j : Nat, ((q = 39 ∧ j = 3) ∨ (q = 39 ∧ j = 4) ∨ (q = 23 ∧ j = 5) ∨ (q = 23 ∧ j = 6) ∨ (q = 23 ∧ j = 7) ∨ (q = 23 ∧ j = 8) ∨ q = (t + 5) ∨ q = (t + 6) ∨ (q = (t + 3) ∧ j = 1) ∨ (q = (t + 1) ∧ j = 1)) ∨ I' q j = I q j) ∧ (∀ q j : Nat, ((q = 23 ∧ j = 9) ∨ q = 42 ∨ q = (t + 4) ∨ q = (t + 2)) ∨ J' q j = J q j) ∧ gc_LT I' ∧ gc_TK I' ∧ (∃ z : Int, r = some (.inl z) ∧ 0 ≤ z ∧ z ≤ 1 ∧ (I' 23 1 = I 23 1) ∧ (I 23 5 ≤ I' 23 5) ∧ (I' (t + 3) 1 ≤ 6 * I' (t + 1) 1) ∧ (gs_Or z (0 ≤ (gs_fea β η Ir Jr (I 39 5) p9) ∧ gc_AT β η (gs_fea β η Ir Jr (I 39 5) p9) 23 I' J' ∧ gc_PU (t + 1) 8 (gs_M β η p9) I J I' J' ∧ I (t + 1) 1 < 8 ∧ gs_Cfv (fun i => gs_M β η (gs_nx β η i (gs_need β η 61 (gs_X β η p9)))) (Int.toNat (gs_cn β η 7 (gs_need β η 61 (gs_X β η p9)))) t I J I' J') ((gs_fea β η Ir Jr (I 39 5) p9) < 0 ∧ I' 39 4 = -1 - (gs_fea β η Ir Jr (I 39 5) p9) ∧ I' (t + 1) 1 = I (t + 1) 1 ∧ I' (t + 3) 1 = I (t + 3) 1 ∧ ∀ j, J' (t + 2) j = J (t + 2) j ∧ J' (t + 4) j = J (t + 4) j ∧ I' (t + 5) j = I (t + 5) j ∧ I' (t + 6) j = I (t + 6) j)))))) (64, [(0, .inr (.inr (some 39))), (1, .inr (.inl v1_13)), (3, .inl v3_13), (4, .inl v4_13), (5, .inl v5_13)], [], sh, gc_h sh I11 J12 A) := by
  have FI : ∀ q j : Nat, ((q = 39 ∧ j = 3) ∨ (q = 39 ∧ j = 4) ∨ (q = 23 ∧ j = 5) ∨ (q = 23 ∧ j = 6) ∨ (q = 23 ∧ j = 7) ∨ (q = 23 ∧ j = 8) ∨ q = (t + 5) ∨ q = (t + 6) ∨ (q = (t + 3) ∧ j = 1) ∨ (q = (t + 1) ∧ j = 1)) ∨ I q j = I q j := fun _ _ => Or.inr rfl
  have FJ : ∀ q j : Nat, ((q = 23 ∧ j = 9) ∨ q = 42 ∨ q = (t + 4) ∨ q = (t + 2)) ∨ J q j = J q j := fun _ _ => Or.inr rfl
  have A_39_1 : A 39 1 = some 23 := gc_bA_39_1 hb
  have A_39_11 : A 39 11 = some 42 := gc_bA_39_11 hb
  have B_23 : 23 < 1000000 := by decide
  have B_39 : 39 < 1000000 := by decide
  have B_42 : 42 < 1000000 := by decide
  have R_1 : ro 1 = 22 := gc_bR_1 hb
  have R_23 : ro 23 = 3 := gc_bR_23 hb
  have R_39 : ro 39 = 42 := gc_bR_39 hb
  have S_23 : sh[23]? = some (false, 9, 10) := gc_bS_23 hb
  have S_39 : sh[39]? = some (false, 6, 19) := gc_bS_39 hb
  have S_42 : sh[42]? = some (true, 2, 6) := gc_bS_42 hb
  obtain ⟨S_t, R_t, B_t, A_t_0, h_t_1, A_t_1, h_t_3, A_t_2, S_t_5, R_t_5, B_t_5, A_t_3, S_t_6, R_t_6, B_t_6, A_t_4, h_t_7, A_t_5, S_t_9, R_t_9, B_t_9, A_t_7, S_t_10, R_t_10, B_t_10, A_t_8, h_t_11, A_t_9, S_t_13, R_t_13, B_t_13, A_t_10, S_t_14, R_t_14, B_t_14, A_t_12, S_t_15, R_t_15, B_t_15, A_t_14, S_t_16, R_t_16, B_t_16, A_t_15, h_t_17⟩ := id h_t
  obtain ⟨S_t_1, R_t_1, B_t_1, A_t_1_0, S_t_1_1, R_t_1_1, B_t_1_1, Q0_t_1, Q1_t_1, Q2_t_1⟩ := id h_t_1
  obtain ⟨S_t_3, R_t_3, B_t_3, A_t_3_0, S_t_3_1, R_t_3_1, B_t_3_1, Q0_t_3, Q1_t_3, Q2_t_3⟩ := id h_t_3
  obtain ⟨S_t_7, R_t_7, B_t_7, A_t_7_0, S_t_7_1, R_t_7_1, B_t_7_1, Q0_t_7, Q1_t_7, Q2_t_7⟩ := id h_t_7
  obtain ⟨S_t_11, R_t_11, B_t_11, A_t_11_0, S_t_11_1, R_t_11_1, B_t_11_1, Q0_t_11, Q1_t_11, Q2_t_11⟩ := id h_t_11
  obtain ⟨S_t_17, R_t_17, B_t_17, A_t_17_0, S_20, R_20, B_20, A_t_17_1, S_t_17_1, R_t_17_1, B_t_17_1, A_t_17_2, S_t_17_2, R_t_17_2, B_t_17_2, A_t_17_3, S_t_17_3, R_t_17_3, B_t_17_3, A_t_17_4, S_t_17_4, R_t_17_4, B_t_17_4, A_t_17_5, S_t_17_5, R_t_17_5, B_t_17_5, S_t_17_6, R_t_17_6, B_t_17_6, S_t_17_7, R_t_17_7, B_t_17_7⟩ := id h_t_17
  have hD : gv_D (gc_E6 ws0 tb 4 (yX6_readFeature, cX6_readFeature, 7, (some .boolean)) kX6_readFeature) := gq_of oX6_readFeature
  have N_23__t_1 : ¬ (23 = (t + 1)) := by exact gz_m 0 (by omega)
  have N_t_3__t_1 : ¬ ((t + 3) = (t + 1)) := by exact gz_m 1 (by omega)
  have N_24__t_1 : ¬ (24 = (t + 1)) := by exact gz_m 2 (by omega)
  have N_23__t_2 : ¬ (23 = (t + 2)) := by exact gz_m 3 (by omega)
  have N_23__t_5 : ¬ (23 = (t + 5)) := by exact gz_m 4 (by omega)
  have N_t_3__t_5 : ¬ ((t + 3) = (t + 5)) := by exact gz_m 5 (by omega)
  have N_t_1__t_5 : ¬ ((t + 1) = (t + 5)) := by exact gz_m 6 (by omega)
  have N_39__t_5 : ¬ (39 = (t + 5)) := by exact gz_m 7 (by omega)
  have N_1__t_5 : ¬ (1 = (t + 5)) := by exact gz_m 8 (by omega)
  have N_24__t_5 : ¬ (24 = (t + 5)) := by exact gz_m 9 (by omega)
  have N_23__t_6 : ¬ (23 = (t + 6)) := by exact gz_m 10 (by omega)
  have N_t_3__t_6 : ¬ ((t + 3) = (t + 6)) := by exact gz_m 11 (by omega)
  have N_t_1__t_6 : ¬ ((t + 1) = (t + 6)) := by exact gz_m 12 (by omega)
  have N_39__t_6 : ¬ (39 = (t + 6)) := by exact gz_m 13 (by omega)
  have N_1__t_6 : ¬ (1 = (t + 6)) := by exact gz_m 14 (by omega)
  have N_24__t_6 : ¬ (24 = (t + 6)) := by exact gz_m 15 (by omega)
  have N_23__t_3 : ¬ (23 = (t + 3)) := by exact gz_m 16 (by omega)
  have N_t_1__t_3 : ¬ ((t + 1) = (t + 3)) := by exact gz_m 17 (by omega)
  have N_24__t_3 : ¬ (24 = (t + 3)) := by exact gz_m 18 (by omega)
  have N_23__t_4 : ¬ (23 = (t + 4)) := by exact gz_m 19 (by omega)
  have t1 := gc_TK_mo KTK_I
  have f2 := (gc_b_3_1 hI R_23)
  have f3 := (gc_b_3_5 hI R_23)
  have f4 := (gc_b_3_6 hI R_23)
  have f5 := (gc_b_3_7 hI R_23)
  have f6 := (show 0 ≤ I (t + 3) 1 ∧ I (t + 3) 1 ≤ 48 from gc_in2 hI R_t_3 rfl rfl rfl)
  have f7 := (show 0 ≤ I (t + 1) 1 ∧ I (t + 1) 1 ≤ 8 from gc_in2 hI R_t_1 rfl rfl rfl)
  have f8 := (gc_b_42_5 hI R_39)
  have f9 := (gc_b_22_18 hI R_1)
  have f10 := (gc_b_42_2 hI R_39)
  have tAT := gc_AT_l x1
  intro n9
  induction n9 with
  | zero => intro I11 J12 v1_13 v3_13 v4_13 v5_13 p_13 hn; exact gz_m 20 (by omega)
  | succ n9 ih64 =>
    intro I11 J12 v1_13 v3_13 v4_13 v5_13 p_13 hn hI11 FI11 FJ12 KLT_I11 KTK_I11 m_13 e1_13 e2_13 e3_13 e4_13 e5_13 e6_13 e7_13 e8_13 e9_13 e10_13
    obtain ⟨hv3_13, hv4_13, hv5_13, e0_13, e11_13, e12_13, e13_13, e14_13⟩ := m_13
    have t14 := gc_TK_mo KTK_I11
    have f15 := (gc_b_3_1 hI11 R_23)
    have f16 := (gc_b_3_5 hI11 R_23)
    have f17 := (gc_b_3_6 hI11 R_23)
    have f18 := (gc_b_3_7 hI11 R_23)
    have f19 := (show 0 ≤ I11 (t + 3) 1 ∧ I11 (t + 3) 1 ≤ 48 from gc_in2 hI11 R_t_3 rfl rfl rfl)
    have f20 := (show 0 ≤ I11 (t + 1) 1 ∧ I11 (t + 1) 1 ≤ 8 from gc_in2 hI11 R_t_1 rfl rfl rfl)
    have f21 := (gc_b_42_5 hI11 R_39)
    have f22 := (gc_b_22_18 hI11 R_1)
    have f23 := (gc_b_42_2 hI11 R_39)
    have t24 := gc_AT_l e1_13
    have L121 : ∀ (n9 : Nat) (I25 : gr_I) (J26 : gr_J) (v6_27 : Int) (p_27 : Int), (6 - v6_27).toNat < n9 → gc_Inv ro I25 → (∀ q j : Nat, ((q = 39 ∧ j = 3) ∨ (q = 39 ∧ j = 4) ∨ (q = 23 ∧ j = 5) ∨ (q = 23 ∧ j = 6) ∨ (q = 23 ∧ j = 7) ∨ (q = 23 ∧ j = 8) ∨ q = (t + 5) ∨ q = (t + 6) ∨ (q = (t + 3) ∧ j = 1) ∨ (q = (t + 1) ∧ j = 1)) ∨ I25 q j = I q j) → (∀ q j : Nat, ((q = 23 ∧ j = 9) ∨ q = 42 ∨ q = (t + 4) ∨ q = (t + 2)) ∨ J26 q j = J q j) → gc_LT I25 → gc_TK I25 → ((0 ≤ v3_13 ∧ v3_13 ≤ 1000) ∧ (0 ≤ v4_13 ∧ v4_13 ≤ 5) ∧ (0 ≤ v5_13 ∧ v5_13 ≤ 6) ∧ (0 ≤ v6_27 ∧ v6_27 ≤ 5) ∧ (v4_13 ≤ 5) ∧ (I25 23 7 = 1) ∧ (0 ≤ p_27) ∧ (I25 23 1 = I 23 1) ∧ (I 23 5 ≤ I25 23 5) ∧ (I25 (t + 3) 1 ≤ 6 * I25 (t + 1) 1) ∧ (I25 39 2 = (t : Int))) → (gc_AT β η p_27 23 I25 J26) → (p_27 = gs_nx β η (Int.toNat v4_13) (gs_need β η 61 (gs_X β η p9))) → (gs_T β η p_27 = 1) → (gs_lt Jr 21 (48 * Ir 0 6) (Ir 14 (Int.toNat (Ir 0 6))) (gs_rn β η p_27) < 0) → (gc_nf (J26 42) (gs_M β η p_27) (Int.toNat v6_27)) → (∀ i : Nat, i < Int.toNat v4_13 → J26 42 i = gs_M β η (gs_nx β η i (gs_need β η 61 (gs_X β η p9))) ∧ gs_T β η (gs_nx β η i (gs_need β η 61 (gs_X β η p9))) = 1) → ((I25 (t + 1) 1 = I (t + 1) 1) ∧ (I25 (t + 3) 1 = I (t + 3) 1) ∧ (I25 39 5 = I 39 5) ∧ (I25 1 18 = I 1 18) ∧ (∀ k, J26 (t + 2) k = J (t + 2) k) ∧ (∀ k, J26 (t + 4) k = J (t + 4) k) ∧ (∀ k, I25 (t + 5) k = I (t + 5) k) ∧ (∀ k, I25 (t + 6) k = I (t + 6) k)) → gv_X (gc_E6 ws0 tb 4 (yX6_readFeature, cX6_readFeature, 7, (some .boolean)) kX6_readFeature) (gv_Q cX6_readFeature (some .boolean) sh (fun r h' => (∃ (I' : gr_I) (J' : gr_J), h' = gc_h sh I' J' A ∧ gc_Inv ro I' ∧ (∀ q j : Nat, ((q = 39 ∧ j = 3) ∨ (q = 39 ∧ j = 4) ∨ (q = 23 ∧ j = 5) ∨ (q = 23 ∧ j = 6) ∨ (q = 23 ∧ j = 7) ∨ (q = 23 ∧ j = 8) ∨ q = (t + 5) ∨ q = (t + 6) ∨ (q = (t + 3) ∧ j = 1) ∨ (q = (t + 1) ∧ j = 1)) ∨ I' q j = I q j) ∧ (∀ q j : Nat, ((q = 23 ∧ j = 9) ∨ q = 42 ∨ q = (t + 4) ∨ q = (t + 2)) ∨ J' q j = J q j) ∧ gc_LT I' ∧ gc_TK I' ∧ (∃ z : Int, r = some (.inl z) ∧ 0 ≤ z ∧ z ≤ 1 ∧ (I' 23 1 = I 23 1) ∧ (I 23 5 ≤ I' 23 5) ∧ (I' (t + 3) 1 ≤ 6 * I' (t + 1) 1) ∧ (gs_Or z (0 ≤ (gs_fea β η Ir Jr (I 39 5) p9) ∧ gc_AT β η (gs_fea β η Ir Jr (I 39 5) p9) 23 I' J' ∧ gc_PU (t + 1) 8 (gs_M β η p9) I J I' J' ∧ I (t + 1) 1 < 8 ∧ gs_Cfv (fun i => gs_M β η (gs_nx β η i (gs_need β η 61 (gs_X β η p9)))) (Int.toNat (gs_cn β η 7 (gs_need β η 61 (gs_X β η p9)))) t I J I' J') ((gs_fea β η Ir Jr (I 39 5) p9) < 0 ∧ I' 39 4 = -1 - (gs_fea β η Ir Jr (I 39 5) p9) ∧ I' (t + 1) 1 = I (t + 1) 1 ∧ I' (t + 3) 1 = I (t + 3) 1 ∧ ∀ j, J' (t + 2) j = J (t + 2) j ∧ J' (t + 4) j = J (t + 4) j ∧ I' (t + 5) j = I (t + 5) j ∧ I' (t + 6) j = I (t + 6) j)))))) (121, [(0, .inr (.inr (some 39))), (1, .inr (.inl v1_13)), (3, .inl v3_13), (4, .inl v4_13), (5, .inl v5_13), (6, .inl v6_27)], [], sh, gc_h sh I25 J26 A) := by
      intro n9
      induction n9 with
      | zero => intro I25 J26 v6_27 p_27 hn; exact gz_m 21 (by omega)
      | succ n9 ih121 =>
        intro I25 J26 v6_27 p_27 hn hI25 FI25 FJ26 KLT_I25 KTK_I25 m_27 e3_27 e4_27 e5_27 e6_27 e7_27 e8_27 e9_27
        clear hv3_13 hv4_13 hv5_13 e0_13 e11_13 e12_13 e13_13 e14_13 t14 f15 f16 f17 f18 f19 f20 f21 f22 f23 t24
        obtain ⟨hv3_13_27, hv4_13_27, hv5_13_27, hv6_27, e0_27, e1_27, e2_27, e10_27, e11_27, e12_27, e13_27⟩ := m_27
        have t28 := gc_TK_mo KTK_I25
        have f29 := (gc_b_3_1 hI25 R_23)
        have f30 := (gc_b_3_5 hI25 R_23)
        have f31 := (gc_b_3_6 hI25 R_23)
        have f32 := (gc_b_3_7 hI25 R_23)
        have f33 := (show 0 ≤ I25 (t + 3) 1 ∧ I25 (t + 3) 1 ≤ 48 from gc_in2 hI25 R_t_3 rfl rfl rfl)
        have f34 := (show 0 ≤ I25 (t + 1) 1 ∧ I25 (t + 1) 1 ≤ 8 from gc_in2 hI25 R_t_1 rfl rfl rfl)
        have f35 := (gc_b_42_5 hI25 R_39)
        have f36 := (gc_b_22_18 hI25 R_1)
        have f37 := (gc_b_42_2 hI25 R_39)
        have t38 := gc_AT_l e3_27
        refine gv_run 2 true hD (pc' := 125) (lv' := [(0, .inr (.inr (some 39))), (1, .inr (.inl v1_13)), (3, .inl v3_13), (4, .inl v4_13), (5, .inl v5_13), (6, .inl v6_27)]) (st' := [.inl v4_13, .inl v6_27]) (h' := gc_h sh I25 J26 A) (C := ((True ∧ True) ∧ True)) rfl ⟨⟨trivial, trivial⟩, trivial⟩ ?_
        refine gv_icmp_ge (t := 165) hD rfl rfl ⟨⟨by exact gz_m 22 (by omega), by exact gz_m 23 (by omega)⟩, ⟨by exact gz_m 24 (by omega), by exact gz_m 25 (by omega)⟩⟩ (fun c39 => ?_) (fun c39 => ?_)
        · show gv_X _ _ (165, [(0, .inr (.inr (some 39))), (1, .inr (.inl v1_13)), (3, .inl v3_13), (4, .inl v4_13), (5, .inl v5_13), (6, .inl v6_27)], [], sh, gc_h sh I25 J26 A)
          refine gv_run 1 true hD (pc' := 166) (lv' := [(0, .inr (.inr (some 39))), (1, .inr (.inl v1_13)), (3, .inl v3_13), (4, .inl v4_13), (5, .inl v5_13), (6, .inl v6_27)]) (st' := [.inr (.inr (some 39))]) (h' := gc_h sh I25 J26 A) (C := (True ∧ True)) rfl ⟨trivial, trivial⟩ ?_
          refine gv_get hD rfl rfl S_39 ⟨by decide, B_39⟩ (gc_hA S_39 rfl A_39_11) ?_
          show gv_X _ _ (169, [(0, .inr (.inr (some 39))), (1, .inr (.inl v1_13)), (3, .inl v3_13), (4, .inl v4_13), (5, .inl v5_13), (6, .inl v6_27)], [.inr (.inr (some 42))], sh, gc_h sh I25 J26 A)
          refine gv_run 3 true hD (pc' := 175) (lv' := [(4, .inl (v4_13 + 1)), (0, .inr (.inr (some 39))), (1, .inr (.inl v1_13)), (3, .inl v3_13), (5, .inl v5_13), (6, .inl v6_27)]) (st' := [.inr (.inr (some 39)), .inl v4_13, .inr (.inr (some 42))]) (h' := gc_h sh I25 J26 A) (C := (((True ∧ True) ∧ True) ∧ True)) rfl ⟨⟨⟨trivial, trivial⟩, trivial⟩, trivial⟩ ?_
          refine gv_get hD rfl rfl S_39 ⟨by decide, B_39⟩ (gc_hA S_39 rfl A_39_1) ?_
          show gv_X _ _ (178, [(4, .inl (v4_13 + 1)), (0, .inr (.inr (some 39))), (1, .inr (.inl v1_13)), (3, .inl v3_13), (5, .inl v5_13), (6, .inl v6_27)], [.inr (.inr (some 23)), .inl v4_13, .inr (.inr (some 42))], sh, gc_h sh I25 J26 A)
          refine gv_get hD rfl rfl S_23 ⟨by decide, B_23⟩ (gc_hJ S_23 rfl) ?_
          show gv_X _ _ (181, [(4, .inl (v4_13 + 1)), (0, .inr (.inr (some 39))), (1, .inr (.inl v1_13)), (3, .inl v3_13), (5, .inl v5_13), (6, .inl v6_27)], [.inr (.inl (J26 23 9)), .inl v4_13, .inr (.inr (some 42))], sh, gc_h sh I25 J26 A)
          refine gv_last hD rfl S_42 ⟨by decide, B_42⟩ ⟨by exact gz_m 26 (by omega), by exact gz_m 27 (by omega)⟩ ?_
          refine gc_stJ S_42 rfl (fun J40 q41 p41 => ?_)
          have FJ40 := gc_frs (W := fun q j => (q = 23 ∧ j = 9) ∨ q = 42 ∨ q = (t + 4) ∨ q = (t + 2)) FJ26 (Or.inr (Or.inl rfl)) p41
          have A42 := gc_AT_J e3_27 (p41 23 9 (fun h => absurd h.1 (gz_ne rfl)))
          show gv_X _ _ (182, [(4, .inl (v4_13 + 1)), (0, .inr (.inr (some 39))), (1, .inr (.inl v1_13)), (3, .inl v3_13), (5, .inl v5_13), (6, .inl v6_27)], [], sh, gc_h sh I25 J40 A)
          refine gv_run 1 true hD (pc' := 183) (lv' := [(4, .inl (v4_13 + 1)), (0, .inr (.inr (some 39))), (1, .inr (.inl v1_13)), (3, .inl v3_13), (5, .inl v5_13), (6, .inl v6_27)]) (st' := [.inr (.inr (some 39))]) (h' := gc_h sh I25 J40 A) (C := (True ∧ True)) rfl ⟨trivial, trivial⟩ ?_
          refine gv_get hD rfl rfl S_39 ⟨by decide, B_39⟩ (gc_hA S_39 rfl A_39_1) ?_
          show gv_X _ _ (186, [(4, .inl (v4_13 + 1)), (0, .inr (.inr (some 39))), (1, .inr (.inl v1_13)), (3, .inl v3_13), (5, .inl v5_13), (6, .inl v6_27)], [.inr (.inr (some 23))], sh, gc_h sh I25 J40 A)
          have t44 := gc_TK_nx KTK_I25 (by exact gz_m 28 (by omega))
          obtain ⟨r43, h43, E43, P43⟩ := d_X9_advance_p (ws0 := ws0) (tb := tb) hws htb sh ro I25 J40 A hI25 23 β η  (gc_b23 hb)    (by exact gz_m 29 (by omega)) A42.1.1 A42.1.2 
          obtain ⟨I45, J46, rfl, hI45, g43, k43, ⟨rfl, V43_0, V43_1, V43_2, V43_3, V43_4, q43⟩⟩ := P43
          have FI45 := gc_frc (W := fun q j => (q = 39 ∧ j = 3) ∨ (q = 39 ∧ j = 4) ∨ (q = 23 ∧ j = 5) ∨ (q = 23 ∧ j = 6) ∨ (q = 23 ∧ j = 7) ∨ (q = 23 ∧ j = 8) ∨ q = (t + 5) ∨ q = (t + 6) ∨ (q = (t + 3) ∧ j = 1) ∨ (q = (t + 1) ∧ j = 1)) (V := fun q j => (q = 23 ∧ j = 5) ∨ (q = 23 ∧ j = 6) ∨ (q = 23 ∧ j = 7) ∨ (q = 23 ∧ j = 8)) FI25 (fun q j h => (h.elim (fun h => (Or.inr (Or.inr (Or.inl h)))) (fun h => (h.elim (fun h => (Or.inr (Or.inr (Or.inr (Or.inl h))))) (fun h => (h.elim (fun h => (Or.inr (Or.inr (Or.inr (Or.inr (Or.inl h)))))) (fun h => (Or.inr (Or.inr (Or.inr (Or.inr (Or.inr (Or.inl h))))))))))))) g43
          have FJ46 := gc_frc (W := fun q j => (q = 23 ∧ j = 9) ∨ q = 42 ∨ q = (t + 4) ∨ q = (t + 2)) (V := fun q j => (q = 23 ∧ j = 9)) FJ40 (fun q j h => (Or.inl h)) k43
          have t47 := (g43 23 1).resolve_left (fun h => h.elim (fun h => absurd h.2 (gz_ne rfl)) (fun h => h.elim (fun h => absurd h.2 (gz_ne rfl)) (fun h => h.elim (fun h => absurd h.2 (gz_ne rfl)) (fun h => absurd h.2 (gz_ne rfl)))))
          have t48 := (g43 (t + 3) 1).resolve_left (fun h => h.elim (fun h => absurd h.2 (gz_ne rfl)) (fun h => h.elim (fun h => absurd h.2 (gz_ne rfl)) (fun h => h.elim (fun h => absurd h.2 (gz_ne rfl)) (fun h => absurd h.2 (gz_ne rfl)))))
          have t49 := (g43 (t + 1) 1).resolve_left (fun h => h.elim (fun h => absurd h.2 (gz_ne rfl)) (fun h => h.elim (fun h => absurd h.2 (gz_ne rfl)) (fun h => h.elim (fun h => absurd h.2 (gz_ne rfl)) (fun h => absurd h.2 (gz_ne rfl)))))
          have t50 := (g43 39 5).resolve_left (fun h => h.elim (fun h => absurd h.1 (gz_ne rfl)) (fun h => h.elim (fun h => absurd h.2 (gz_ne rfl)) (fun h => h.elim (fun h => absurd h.2 (gz_ne rfl)) (fun h => absurd h.2 (gz_ne rfl)))))
          have t51 := (g43 1 18).resolve_left (fun h => h.elim (fun h => absurd h.2 (gz_ne rfl)) (fun h => h.elim (fun h => absurd h.2 (gz_ne rfl)) (fun h => h.elim (fun h => absurd h.2 (gz_ne rfl)) (fun h => absurd h.2 (gz_ne rfl)))))
          have t52 := (g43 39 2).resolve_left (fun h => h.elim (fun h => absurd h.2 (gz_ne rfl)) (fun h => h.elim (fun h => absurd h.2 (gz_ne rfl)) (fun h => h.elim (fun h => absurd h.2 (gz_ne rfl)) (fun h => absurd h.2 (gz_ne rfl)))))
          have f53 := (gc_b_3_5 hI45 R_23)
          have f54 := (gc_b_3_6 hI45 R_23)
          have f55 := (gc_b_3_7 hI45 R_23)
          have KLT_I45 : gc_LT I45 := q43.2.2.1
          have KTK_I45 : gc_TK I45 := And.intro V43_0 (And.intro V43_1 (And.intro V43_2 (And.intro V43_3 V43_4)))
          have t56 := gc_TK_mo KTK_I45
          clear V43_0 V43_1 V43_2 V43_3 V43_4
          have A57 := gc_AT_nx A42 q43.2.2.2
          have t58 := gc_AT_l A57
          refine gv_callV hD rfl (As := []) (st := []) rfl B_23 S_23 rfl (gc_lV6 hws rfl) (Nat.le_of_ble_eq_true rfl) (gz_Ev_mono (d := 2) (by decide) E43) ?_
          show gv_X _ _ (189, [(4, .inl (v4_13 + 1)), (0, .inr (.inr (some 39))), (1, .inr (.inl v1_13)), (3, .inl v3_13), (5, .inl v5_13), (6, .inl v6_27)], [], sh, gc_h sh I45 J46 A)
          refine gv_run 2 true hD (pc' := 64) (lv' := [(5, .inl (v5_13 + 1)), (4, .inl (v4_13 + 1)), (0, .inr (.inr (some 39))), (1, .inr (.inl v1_13)), (3, .inl v3_13), (6, .inl v6_27)]) (st' := []) (h' := gc_h sh I45 J46 A) (C := ((True ∧ True) ∧ True)) rfl ⟨⟨trivial, trivial⟩, trivial⟩ ?_
          refine gv_pick [2, 3, 4, 1, 0] rfl ?_
          exact ih64 I45 J46 v1_13 v3_13 (v4_13 + 1) (v5_13 + 1) (gs_X β η p_27) (by exact gz_m 30 (by omega)) hI45 FI45 FJ46 KLT_I45 KTK_I45 (by exact gz_m 31 (by omega)) A57 e2_13 e3_13 (e4_13.trans (gs_vl_s e4_27 (by exact gz_m 32 (by omega)) (by exact gz_m 33 (by omega)) (by exact gz_m 34 (by omega)) (by have h9 := gs_fea_f (q0 := (gs_need β η 61 (gs_X β η p9))) e8_27 (show gs_T β η p_27 = 1 by exact gz_m 35 (by omega)); have h8 := gc_fd_r0 (m := v4_13) e7_27 (by exact gz_m 36 (by omega)); exact gz_m 37 (by omega)))) (e5_13.trans (by rw [show p_13 = p_27 from e6_13.trans e4_27.symm]; exact gs_cn7_s (by exact gz_m 38 (by omega)) (by exact gz_m 39 (by omega)))) (by rw [show Int.toNat (v4_13 + 1) = Int.toNat v4_13 + 1 from by exact gz_m 40 (by omega)]; show gs_X β η _ = gs_X β η _; rw [← e4_27]) e7_13 (by exact gz_m 41 (by omega)) (fun i hi => by by_cases c : i = Int.toNat v4_13; (rw [c, ← e4_27]; exact ⟨(by have h9 : J46 42 (Int.toNat v4_13) = J26 23 9 := (((k43 42 (Int.toNat v4_13)).resolve_left (by exact gz_m 42 (by omega)))).trans q41; rw [h9]; exact gc_AT_m e3_27 (by exact gz_m 43 (by omega))), by exact gz_m 44 (by omega)⟩); exact ⟨(((k43 42 i).resolve_left (by exact gz_m 45 (by omega)))).trans ((p41 42 i (fun h => c (by have h9 := h.2; exact gz_m 46 (by omega)))).trans ((Eq.refl _).trans (e8_27 i (by exact gz_m 47 (by omega))).1)), (e8_27 i (by exact gz_m 48 (by omega))).2⟩) ⟨((((g43 (t + 1) 1).resolve_left (by exact gz_m 49 (by omega))).trans (e9_27.1))), ((((g43 (t + 3) 1).resolve_left (by exact gz_m 50 (by omega))).trans (e9_27.2.1))), ((((g43 39 5).resolve_left (by exact gz_m 51 (by omega))).trans (e9_27.2.2.1))), ((((g43 1 18).resolve_left (by exact gz_m 52 (by omega))).trans (e9_27.2.2.2.1))), (fun k => ((((k43 (t + 2) k).resolve_left (by exact gz_m 53 (by omega))).trans (p41 (t + 2) k (by exact gz_m 54 (by omega)))).trans (e9_27.2.2.2.2.1 k))), (fun k => ((((k43 (t + 4) k).resolve_left (by exact gz_m 55 (by omega))).trans (p41 (t + 4) k (by exact gz_m 56 (by omega)))).trans (e9_27.2.2.2.2.2.1 k))), (fun k => (((g43 (t + 5) k).resolve_left (by exact gz_m 57 (by omega))).trans (e9_27.2.2.2.2.2.2.1 k))), (fun k => (((g43 (t + 6) k).resolve_left (by exact gz_m 58 (by omega))).trans (e9_27.2.2.2.2.2.2.2 k)))⟩
        · show gv_X _ _ (128, [(0, .inr (.inr (some 39))), (1, .inr (.inl v1_13)), (3, .inl v3_13), (4, .inl v4_13), (5, .inl v5_13), (6, .inl v6_27)], [], sh, gc_h sh I25 J26 A)
          refine gv_run 1 true hD (pc' := 129) (lv' := [(0, .inr (.inr (some 39))), (1, .inr (.inl v1_13)), (3, .inl v3_13), (4, .inl v4_13), (5, .inl v5_13), (6, .inl v6_27)]) (st' := [.inr (.inr (some 39))]) (h' := gc_h sh I25 J26 A) (C := (True ∧ True)) rfl ⟨trivial, trivial⟩ ?_
          refine gv_get hD rfl rfl S_39 ⟨by decide, B_39⟩ (gc_hA S_39 rfl A_39_11) ?_
          show gv_X _ _ (132, [(0, .inr (.inr (some 39))), (1, .inr (.inl v1_13)), (3, .inl v3_13), (4, .inl v4_13), (5, .inl v5_13), (6, .inl v6_27)], [.inr (.inr (some 42))], sh, gc_h sh I25 J26 A)
          refine gv_run 1 true hD (pc' := 134) (lv' := [(0, .inr (.inr (some 39))), (1, .inr (.inl v1_13)), (3, .inl v3_13), (4, .inl v4_13), (5, .inl v5_13), (6, .inl v6_27)]) (st' := [.inl v6_27, .inr (.inr (some 42))]) (h' := gc_h sh I25 J26 A) (C := (True ∧ True)) rfl ⟨trivial, trivial⟩ ?_
          refine gv_lald hD rfl S_42 rfl ⟨by decide, B_42⟩ ⟨by exact gz_m 59 (by omega), by exact gz_m 60 (by omega)⟩ (gc_jJ S_42 rfl) ?_
          show gv_X _ _ (135, [(0, .inr (.inr (some 39))), (1, .inr (.inl v1_13)), (3, .inl v3_13), (4, .inl v4_13), (5, .inl v5_13), (6, .inl v6_27)], [.inr (.inl (J26 42 (Int.toNat v6_27)))], sh, gc_h sh I25 J26 A)
          refine gv_run 1 true hD (pc' := 136) (lv' := [(0, .inr (.inr (some 39))), (1, .inr (.inl v1_13)), (3, .inl v3_13), (4, .inl v4_13), (5, .inl v5_13), (6, .inl v6_27)]) (st' := [.inr (.inr (some 39)), .inr (.inl (J26 42 (Int.toNat v6_27)))]) (h' := gc_h sh I25 J26 A) (C := (True ∧ True)) rfl ⟨trivial, trivial⟩ ?_
          refine gv_get hD rfl rfl S_39 ⟨by decide, B_39⟩ (gc_hA S_39 rfl A_39_1) ?_
          show gv_X _ _ (139, [(0, .inr (.inr (some 39))), (1, .inr (.inl v1_13)), (3, .inl v3_13), (4, .inl v4_13), (5, .inl v5_13), (6, .inl v6_27)], [.inr (.inr (some 23)), .inr (.inl (J26 42 (Int.toNat v6_27)))], sh, gc_h sh I25 J26 A)
          refine gv_get hD rfl rfl S_23 ⟨by decide, B_23⟩ (gc_hJ S_23 rfl) ?_
          show gv_X _ _ (142, [(0, .inr (.inr (some 39))), (1, .inr (.inl v1_13)), (3, .inl v3_13), (4, .inl v4_13), (5, .inl v5_13), (6, .inl v6_27)], [.inr (.inl (J26 23 9)), .inr (.inl (J26 42 (Int.toNat v6_27)))], sh, gc_h sh I25 J26 A)
          have f59 := gw_cmp ((J26 42 (Int.toNat v6_27))) ((J26 23 9))
          refine gv_run 1 true hD (pc' := 143) (lv' := [(0, .inr (.inr (some 39))), (1, .inr (.inl v1_13)), (3, .inl v3_13), (4, .inl v4_13), (5, .inl v5_13), (6, .inl v6_27)]) (st' := [.inl ((lg_cmp ((J26 42 (Int.toNat v6_27))) ((J26 23 9))).toInt)]) (h' := gc_h sh I25 J26 A) (C := (True ∧ True)) rfl ⟨trivial, trivial⟩ ?_
          refine gv_if_ne (t := 159) hD rfl rfl ⟨by exact gz_m 61 (by omega), by exact gz_m 62 (by omega)⟩ (fun c60 => ?_) (fun c60 => ?_)
          · show gv_X _ _ (159, [(0, .inr (.inr (some 39))), (1, .inr (.inl v1_13)), (3, .inl v3_13), (4, .inl v4_13), (5, .inl v5_13), (6, .inl v6_27)], [], sh, gc_h sh I25 J26 A)
            have j60 := gs_cmpn (a := (J26 42 (Int.toNat v6_27))) (b := (J26 23 9)) (by exact gz_m 63 (by omega))
            refine gv_run 2 true hD (pc' := 121) (lv' := [(6, .inl (v6_27 + 1)), (0, .inr (.inr (some 39))), (1, .inr (.inl v1_13)), (3, .inl v3_13), (4, .inl v4_13), (5, .inl v5_13)]) (st' := []) (h' := gc_h sh I25 J26 A) (C := ((True ∧ True) ∧ True)) rfl ⟨⟨trivial, trivial⟩, trivial⟩ ?_
            refine gv_pick [1, 2, 3, 4, 5, 0] rfl ?_
            exact ih121 I25 J26 (v6_27 + 1) p_27 (by exact gz_m 64 (by omega)) hI25 FI25 FJ26 KLT_I25 KTK_I25 (by exact gz_m 65 (by omega)) e3_27 e4_27 (by exact gz_m 66 (by omega)) (by exact gz_m 67 (by omega)) (fun k hk => by by_cases c : k = Int.toNat v6_27; (rw [c, ← gc_AT_m e3_27 (by exact gz_m 68 (by omega))]; exact j60); exact e7_27 k (by exact gz_m 69 (by omega))) (fun i hi => ⟨(rfl).trans (e8_27 i (by exact gz_m 70 (by omega))).1, (e8_27 i (by exact gz_m 71 (by omega))).2⟩) ⟨((e9_27.1)), ((e9_27.2.1)), ((e9_27.2.2.1)), ((e9_27.2.2.2.1)), (fun k => (e9_27.2.2.2.2.1 k)), (fun k => (e9_27.2.2.2.2.2.1 k)), (fun k => (e9_27.2.2.2.2.2.2.1 k)), (fun k => (e9_27.2.2.2.2.2.2.2 k))⟩
          · show gv_X _ _ (146, [(0, .inr (.inr (some 39))), (1, .inr (.inl v1_13)), (3, .inl v3_13), (4, .inl v4_13), (5, .inl v5_13), (6, .inl v6_27)], [], sh, gc_h sh I25 J26 A)
            have j60 := gs_cmp0 (a := (J26 42 (Int.toNat v6_27))) (b := (J26 23 9)) (by exact gz_m 72 (by omega))
            refine gv_run 3 true hD (pc' := 149) (lv' := [(0, .inr (.inr (some 39))), (1, .inr (.inl v1_13)), (3, .inl v3_13), (4, .inl v4_13), (5, .inl v5_13), (6, .inl v6_27)]) (st' := [.inr (.inr (some 39)), .inl 4, .inr (.inr (some 39))]) (h' := gc_h sh I25 J26 A) (C := (((True ∧ True) ∧ True) ∧ True)) rfl ⟨⟨⟨trivial, trivial⟩, trivial⟩, trivial⟩ ?_
            refine gv_get hD rfl rfl S_39 ⟨by decide, B_39⟩ (gc_hA S_39 rfl A_39_1) ?_
            show gv_X _ _ (152, [(0, .inr (.inr (some 39))), (1, .inr (.inl v1_13)), (3, .inl v3_13), (4, .inl v4_13), (5, .inl v5_13), (6, .inl v6_27)], [.inr (.inr (some 23)), .inl 4, .inr (.inr (some 39))], sh, gc_h sh I25 J26 A)
            have f61 := (gc_b_3_5 hI25 R_23)
            refine gv_get hD rfl rfl S_23 ⟨by decide, B_23⟩ (gc_hI S_23 rfl) ?_
            show gv_X _ _ (155, [(0, .inr (.inr (some 39))), (1, .inr (.inl v1_13)), (3, .inl v3_13), (4, .inl v4_13), (5, .inl v5_13), (6, .inl v6_27)], [.inl (I25 23 5), .inl 4, .inr (.inr (some 39))], sh, gc_h sh I25 J26 A)
            obtain ⟨r62, h62, E62, P62⟩ := d_X6_wrong_p (ws0 := ws0) (tb := tb) hws htb sh ro I25 J26 A hI25  4 (I25 23 5) hb   ⟨by exact gz_m 73 (by omega), by exact gz_m 74 (by omega)⟩ ⟨by exact gz_m 75 (by omega), by exact gz_m 76 (by omega)⟩  
            obtain ⟨I63, J64, rfl, hI63, g62, k62, ⟨z62, rfl, q62⟩⟩ := P62
            have FI63 := gc_frc (W := fun q j => (q = 39 ∧ j = 3) ∨ (q = 39 ∧ j = 4) ∨ (q = 23 ∧ j = 5) ∨ (q = 23 ∧ j = 6) ∨ (q = 23 ∧ j = 7) ∨ (q = 23 ∧ j = 8) ∨ q = (t + 5) ∨ q = (t + 6) ∨ (q = (t + 3) ∧ j = 1) ∨ (q = (t + 1) ∧ j = 1)) (V := fun q j => (q = 39 ∧ j = 3) ∨ (q = 39 ∧ j = 4)) FI25 (fun q j h => (h.elim (fun h => (Or.inl h)) (fun h => (Or.inr (Or.inl h))))) g62
            have t65 := (g62 23 1).resolve_left (fun h => h.elim (fun h => absurd h.2 (gz_ne rfl)) (fun h => absurd h.2 (gz_ne rfl)))
            have t66 := (g62 23 5).resolve_left (fun h => h.elim (fun h => absurd h.2 (gz_ne rfl)) (fun h => absurd h.2 (gz_ne rfl)))
            have t67 := (g62 23 6).resolve_left (fun h => h.elim (fun h => absurd h.2 (gz_ne rfl)) (fun h => absurd h.2 (gz_ne rfl)))
            have t68 := (g62 23 7).resolve_left (fun h => h.elim (fun h => absurd h.2 (gz_ne rfl)) (fun h => absurd h.2 (gz_ne rfl)))
            have t69 := (g62 (t + 3) 1).resolve_left (fun h => h.elim (fun h => absurd h.2 (gz_ne rfl)) (fun h => absurd h.2 (gz_ne rfl)))
            have t70 := (g62 (t + 1) 1).resolve_left (fun h => h.elim (fun h => absurd h.2 (gz_ne rfl)) (fun h => absurd h.2 (gz_ne rfl)))
            have t71 := (g62 39 5).resolve_left (fun h => h.elim (fun h => absurd h.2 (gz_ne rfl)) (fun h => absurd h.2 (gz_ne rfl)))
            have t72 := (g62 1 18).resolve_left (fun h => h.elim (fun h => absurd h.2 (gz_ne rfl)) (fun h => absurd h.2 (gz_ne rfl)))
            have t73 := (g62 39 2).resolve_left (fun h => h.elim (fun h => absurd h.2 (gz_ne rfl)) (fun h => absurd h.2 (gz_ne rfl)))
            obtain rfl : J26 = J64 := funext fun q => funext fun j => ((k62 q j).resolve_left id).symm
            have KLT_I63 := gc_LT_fr KLT_I25 ((g62 23 5).resolve_left (fun h => h.elim (fun h => absurd h.2 (gz_ne rfl)) (fun h => absurd h.2 (gz_ne rfl)))) ((g62 23 6).resolve_left (fun h => h.elim (fun h => absurd h.2 (gz_ne rfl)) (fun h => absurd h.2 (gz_ne rfl)))) ((g62 23 7).resolve_left (fun h => h.elim (fun h => absurd h.2 (gz_ne rfl)) (fun h => absurd h.2 (gz_ne rfl)))) (fun k => (g62 24 k).resolve_left (fun h => h.elim (fun h => absurd h.1 (gz_ne rfl)) (fun h => absurd h.1 (gz_ne rfl))))
            have KTK_I63 := gc_TK_fr KTK_I25 ((g62 23 1).resolve_left (fun h => h.elim (fun h => absurd h.2 (gz_ne rfl)) (fun h => absurd h.2 (gz_ne rfl)))) ((g62 23 5).resolve_left (fun h => h.elim (fun h => absurd h.2 (gz_ne rfl)) (fun h => absurd h.2 (gz_ne rfl)))) ((g62 23 6).resolve_left (fun h => h.elim (fun h => absurd h.2 (gz_ne rfl)) (fun h => absurd h.2 (gz_ne rfl)))) ((g62 23 7).resolve_left (fun h => h.elim (fun h => absurd h.2 (gz_ne rfl)) (fun h => absurd h.2 (gz_ne rfl))))
            have A74 := gc_AT_I e3_27 ((g62 23 1).resolve_left (fun h => h.elim (fun h => absurd h.2 (gz_ne rfl)) (fun h => absurd h.2 (gz_ne rfl)))) ((g62 23 5).resolve_left (fun h => h.elim (fun h => absurd h.2 (gz_ne rfl)) (fun h => absurd h.2 (gz_ne rfl)))) ((g62 23 6).resolve_left (fun h => h.elim (fun h => absurd h.2 (gz_ne rfl)) (fun h => absurd h.2 (gz_ne rfl)))) ((g62 23 7).resolve_left (fun h => h.elim (fun h => absurd h.2 (gz_ne rfl)) (fun h => absurd h.2 (gz_ne rfl)))) ((g62 23 8).resolve_left (fun h => h.elim (fun h => absurd h.2 (gz_ne rfl)) (fun h => absurd h.2 (gz_ne rfl)))) (fun k => (g62 24 k).resolve_left (fun h => h.elim (fun h => absurd h.1 (gz_ne rfl)) (fun h => absurd h.1 (gz_ne rfl))))
            have t75 := gc_AT_l A74
            refine gv_callV hD rfl (As := [.inl 4, .inl (I25 23 5)]) (st := []) rfl B_39 S_39 rfl (gc_lV6 hws rfl) (Nat.le_of_ble_eq_true rfl) (gz_Ev_mono (d := 1) (by decide) E62) ?_
            show gv_X _ _ (158, [(0, .inr (.inr (some 39))), (1, .inr (.inl v1_13)), (3, .inl v3_13), (4, .inl v4_13), (5, .inl v5_13), (6, .inl v6_27)], [.inl z62], sh, gc_h sh I63 J26 A)
            exact gv_zret hD rfl (by exact gz_m 77 (by omega)) ⟨I63, J26, rfl, hI63, FI63, FJ26, KLT_I63, KTK_I63, ⟨_, rfl, by exact gz_m 78 (by omega), by exact gz_m 79 (by omega), by exact gz_m 80 (by omega), by exact gz_m 81 (by omega), by exact gz_m 82 (by omega), (Or.inr ⟨by exact gz_m 83 (by omega), by first | (exfalso; exact gz_m 84 (by omega)) | (rw [e3_13, e4_13, gs_vl_x e4_27 (by exact gz_m 85 (by omega)) (Or.inr (Or.inr (by have h9 := gs_fea_f (q0 := (gs_need β η 61 (gs_X β η p9))) e8_27 (show gs_T β η p_27 = 1 by exact gz_m 86 (by omega)); have h8 := gc_fd_r1 (m := v4_13) e7_27 (j60.trans (gc_AT_m e3_27 (by exact gz_m 87 (by omega)))) (by exact gz_m 88 (by omega)); exact gz_m 89 (by omega))))]; unfold gs_fea1; (repeat first | rw [if_pos (by exact gz_m 90 (by omega))] | rw [if_neg (by exact gz_m 91 (by omega))]); exact ⟨by exact gz_m 92 (by omega), by exact gz_m 93 (by omega), (((g62 (t + 1) 1).resolve_left (by exact gz_m 94 (by omega))).trans (e9_27.1)), (((g62 (t + 3) 1).resolve_left (by exact gz_m 95 (by omega))).trans (e9_27.2.1)), fun j => ⟨(e9_27.2.2.2.2.1 j), (e9_27.2.2.2.2.2.1 j), (((g62 (t + 5) j).resolve_left (by exact gz_m 96 (by omega))).trans (e9_27.2.2.2.2.2.2.1 j)), (((g62 (t + 6) j).resolve_left (by exact gz_m 97 (by omega))).trans (e9_27.2.2.2.2.2.2.2 j))⟩⟩)⟩)⟩⟩
    have L195 : ((0 ≤ v3_13 ∧ v3_13 ≤ 1000) ∧ (0 ≤ v4_13 ∧ v4_13 ≤ 6) ∧ (0 ≤ p_13) ∧ (I11 23 1 = I 23 1) ∧ (I 23 5 ≤ I11 23 5) ∧ (I11 (t + 3) 1 ≤ 6 * I11 (t + 1) 1) ∧ (I11 39 2 = (t : Int))) → (gc_AT β η p_13 23 I11 J12) → (v1_13 = gs_M β η p9) → ((gs_fea β η Ir Jr (I 39 5) p9) = gs_fea1 β η Ir (I 39 5) (gs_need β η 61 (gs_X β η p9)) p_13) → (v4_13 = gs_cn β η 7 (gs_need β η 61 (gs_X β η p9))) → (v3_13 = gs_A β η (gs_need β η 61 (gs_X β η p9))) → (∀ i : Nat, i < Int.toNat v4_13 → J12 42 i = gs_M β η (gs_nx β η i (gs_need β η 61 (gs_X β η p9))) ∧ gs_T β η (gs_nx β η i (gs_need β η 61 (gs_X β η p9))) = 1) → ((I11 (t + 1) 1 = I (t + 1) 1) ∧ (I11 (t + 3) 1 = I (t + 3) 1) ∧ (I11 39 5 = I 39 5) ∧ (I11 1 18 = I 1 18) ∧ (∀ k, J12 (t + 2) k = J (t + 2) k) ∧ (∀ k, J12 (t + 4) k = J (t + 4) k) ∧ (∀ k, I11 (t + 5) k = I (t + 5) k) ∧ (∀ k, I11 (t + 6) k = I (t + 6) k)) → gv_X (gc_E6 ws0 tb 4 (yX6_readFeature, cX6_readFeature, 7, (some .boolean)) kX6_readFeature) (gv_Q cX6_readFeature (some .boolean) sh (fun r h' => (∃ (I' : gr_I) (J' : gr_J), h' = gc_h sh I' J' A ∧ gc_Inv ro I' ∧ (∀ q j : Nat, ((q = 39 ∧ j = 3) ∨ (q = 39 ∧ j = 4) ∨ (q = 23 ∧ j = 5) ∨ (q = 23 ∧ j = 6) ∨ (q = 23 ∧ j = 7) ∨ (q = 23 ∧ j = 8) ∨ q = (t + 5) ∨ q = (t + 6) ∨ (q = (t + 3) ∧ j = 1) ∨ (q = (t + 1) ∧ j = 1)) ∨ I' q j = I q j) ∧ (∀ q j : Nat, ((q = 23 ∧ j = 9) ∨ q = 42 ∨ q = (t + 4) ∨ q = (t + 2)) ∨ J' q j = J q j) ∧ gc_LT I' ∧ gc_TK I' ∧ (∃ z : Int, r = some (.inl z) ∧ 0 ≤ z ∧ z ≤ 1 ∧ (I' 23 1 = I 23 1) ∧ (I 23 5 ≤ I' 23 5) ∧ (I' (t + 3) 1 ≤ 6 * I' (t + 1) 1) ∧ (gs_Or z (0 ≤ (gs_fea β η Ir Jr (I 39 5) p9) ∧ gc_AT β η (gs_fea β η Ir Jr (I 39 5) p9) 23 I' J' ∧ gc_PU (t + 1) 8 (gs_M β η p9) I J I' J' ∧ I (t + 1) 1 < 8 ∧ gs_Cfv (fun i => gs_M β η (gs_nx β η i (gs_need β η 61 (gs_X β η p9)))) (Int.toNat (gs_cn β η 7 (gs_need β η 61 (gs_X β η p9)))) t I J I' J') ((gs_fea β η Ir Jr (I 39 5) p9) < 0 ∧ I' 39 4 = -1 - (gs_fea β η Ir Jr (I 39 5) p9) ∧ I' (t + 1) 1 = I (t + 1) 1 ∧ I' (t + 3) 1 = I (t + 3) 1 ∧ ∀ j, J' (t + 2) j = J (t + 2) j ∧ J' (t + 4) j = J (t + 4) j ∧ I' (t + 5) j = I (t + 5) j ∧ I' (t + 6) j = I (t + 6) j)))))) (195, [(0, .inr (.inr (some 39))), (1, .inr (.inl v1_13)), (3, .inl v3_13), (4, .inl v4_13)], [], sh, gc_h sh I11 J12 A) := by
      intro m_76 e1_76 e2_76 e3_76 e4_76 e5_76 e6_76 e7_76
      obtain ⟨hv3_13_76, hv4_13_76, e0_76, e8_76, e9_76, e10_76, e11_76⟩ := m_76
      have t77 := gc_TK_mo KTK_I11
      have f78 := (gc_b_3_1 hI11 R_23)
      have f79 := (gc_b_3_5 hI11 R_23)
      have f80 := (gc_b_3_6 hI11 R_23)
      have f81 := (gc_b_3_7 hI11 R_23)
      have f82 := (show 0 ≤ I11 (t + 3) 1 ∧ I11 (t + 3) 1 ≤ 48 from gc_in2 hI11 R_t_3 rfl rfl rfl)
      have f83 := (show 0 ≤ I11 (t + 1) 1 ∧ I11 (t + 1) 1 ≤ 8 from gc_in2 hI11 R_t_1 rfl rfl rfl)
      have f84 := (gc_b_42_5 hI11 R_39)
      have f85 := (gc_b_22_18 hI11 R_1)
      have f86 := (gc_b_42_2 hI11 R_39)
      have t87 := gc_AT_l e1_13
      have L220 : ((0 ≤ v4_13 ∧ v4_13 ≤ 6) ∧ (0 ≤ p_13) ∧ (I11 23 1 = I 23 1) ∧ (I 23 5 ≤ I11 23 5) ∧ (I11 (t + 3) 1 ≤ 6 * I11 (t + 1) 1) ∧ (I11 39 2 = (t : Int))) → (gc_AT β η p_13 23 I11 J12) → (v1_13 = gs_M β η p9) → ((gs_fea β η Ir Jr (I 39 5) p9) = gs_done β η (if Ir 13 (Int.toNat (Ir 0 6)) < 8 then 1 else 0) (I 39 5) p_13) → (v4_13 = gs_cn β η 7 (gs_need β η 61 (gs_X β η p9))) → (∀ i : Nat, i < Int.toNat v4_13 → J12 42 i = gs_M β η (gs_nx β η i (gs_need β η 61 (gs_X β η p9))) ∧ gs_T β η (gs_nx β η i (gs_need β η 61 (gs_X β η p9))) = 1) → ((I11 (t + 1) 1 = I (t + 1) 1) ∧ (I11 (t + 3) 1 = I (t + 3) 1) ∧ (I11 39 5 = I 39 5) ∧ (I11 1 18 = I 1 18) ∧ (∀ k, J12 (t + 2) k = J (t + 2) k) ∧ (∀ k, J12 (t + 4) k = J (t + 4) k) ∧ (∀ k, I11 (t + 5) k = I (t + 5) k) ∧ (∀ k, I11 (t + 6) k = I (t + 6) k)) → gv_X (gc_E6 ws0 tb 4 (yX6_readFeature, cX6_readFeature, 7, (some .boolean)) kX6_readFeature) (gv_Q cX6_readFeature (some .boolean) sh (fun r h' => (∃ (I' : gr_I) (J' : gr_J), h' = gc_h sh I' J' A ∧ gc_Inv ro I' ∧ (∀ q j : Nat, ((q = 39 ∧ j = 3) ∨ (q = 39 ∧ j = 4) ∨ (q = 23 ∧ j = 5) ∨ (q = 23 ∧ j = 6) ∨ (q = 23 ∧ j = 7) ∨ (q = 23 ∧ j = 8) ∨ q = (t + 5) ∨ q = (t + 6) ∨ (q = (t + 3) ∧ j = 1) ∨ (q = (t + 1) ∧ j = 1)) ∨ I' q j = I q j) ∧ (∀ q j : Nat, ((q = 23 ∧ j = 9) ∨ q = 42 ∨ q = (t + 4) ∨ q = (t + 2)) ∨ J' q j = J q j) ∧ gc_LT I' ∧ gc_TK I' ∧ (∃ z : Int, r = some (.inl z) ∧ 0 ≤ z ∧ z ≤ 1 ∧ (I' 23 1 = I 23 1) ∧ (I 23 5 ≤ I' 23 5) ∧ (I' (t + 3) 1 ≤ 6 * I' (t + 1) 1) ∧ (gs_Or z (0 ≤ (gs_fea β η Ir Jr (I 39 5) p9) ∧ gc_AT β η (gs_fea β η Ir Jr (I 39 5) p9) 23 I' J' ∧ gc_PU (t + 1) 8 (gs_M β η p9) I J I' J' ∧ I (t + 1) 1 < 8 ∧ gs_Cfv (fun i => gs_M β η (gs_nx β η i (gs_need β η 61 (gs_X β η p9)))) (Int.toNat (gs_cn β η 7 (gs_need β η 61 (gs_X β η p9)))) t I J I' J') ((gs_fea β η Ir Jr (I 39 5) p9) < 0 ∧ I' 39 4 = -1 - (gs_fea β η Ir Jr (I 39 5) p9) ∧ I' (t + 1) 1 = I (t + 1) 1 ∧ I' (t + 3) 1 = I (t + 3) 1 ∧ ∀ j, J' (t + 2) j = J (t + 2) j ∧ J' (t + 4) j = J (t + 4) j ∧ I' (t + 5) j = I (t + 5) j ∧ I' (t + 6) j = I (t + 6) j)))))) (220, [(0, .inr (.inr (some 39))), (1, .inr (.inl v1_13)), (4, .inl v4_13)], [], sh, gc_h sh I11 J12 A) := by
        intro m_88 e1_88 e2_88 e3_88 e4_88 e5_88 e6_88
        obtain ⟨hv4_13_88, e0_88, e7_88, e8_88, e9_88, e10_88⟩ := m_88
        have t89 := gc_TK_mo KTK_I11
        have f90 := (gc_b_3_1 hI11 R_23)
        have f91 := (gc_b_3_5 hI11 R_23)
        have f92 := (gc_b_3_6 hI11 R_23)
        have f93 := (gc_b_3_7 hI11 R_23)
        have f94 := (show 0 ≤ I11 (t + 3) 1 ∧ I11 (t + 3) 1 ≤ 48 from gc_in2 hI11 R_t_3 rfl rfl rfl)
        have f95 := (show 0 ≤ I11 (t + 1) 1 ∧ I11 (t + 1) 1 ≤ 8 from gc_in2 hI11 R_t_1 rfl rfl rfl)
        have f96 := (gc_b_42_5 hI11 R_39)
        have f97 := (gc_b_22_18 hI11 R_1)
        have f98 := (gc_b_42_2 hI11 R_39)
        have t99 := gc_AT_l e1_13
        have L242 : ∀ (n9 : Nat) (I100 : gr_I) (J101 : gr_J) (v5_102 : Int) (p_102 : Int), (7 - v5_102).toNat < n9 → gc_Inv ro I100 → (∀ q j : Nat, ((q = 39 ∧ j = 3) ∨ (q = 39 ∧ j = 4) ∨ (q = 23 ∧ j = 5) ∨ (q = 23 ∧ j = 6) ∨ (q = 23 ∧ j = 7) ∨ (q = 23 ∧ j = 8) ∨ q = (t + 5) ∨ q = (t + 6) ∨ (q = (t + 3) ∧ j = 1) ∨ (q = (t + 1) ∧ j = 1)) ∨ I100 q j = I q j) → (∀ q j : Nat, ((q = 23 ∧ j = 9) ∨ q = 42 ∨ q = (t + 4) ∨ q = (t + 2)) ∨ J101 q j = J q j) → gc_LT I100 → gc_TK I100 → ((0 ≤ v4_13 ∧ v4_13 ≤ 6) ∧ (0 ≤ v5_102 ∧ v5_102 ≤ 6) ∧ (I100 (t + 3) 1 ≤ 6 * I100 (t + 1) 1 + v5_102) ∧ (I100 (t + 1) 1 < 8) ∧ (0 ≤ p_102) ∧ (v5_102 ≤ v4_13) ∧ (I100 23 1 = I 23 1) ∧ (I 23 5 ≤ I100 23 5) ∧ (I100 39 2 = (t : Int))) → (gc_AT β η p_102 23 I100 J101) → (v1_13 = gs_M β η p9) → ((gs_fea β η Ir Jr (I 39 5) p9) = p_102) → (v4_13 = gs_cn β η 7 (gs_need β η 61 (gs_X β η p9))) → (∀ i : Nat, i < Int.toNat v4_13 → J101 42 i = gs_M β η (gs_nx β η i (gs_need β η 61 (gs_X β η p9))) ∧ gs_T β η (gs_nx β η i (gs_need β η 61 (gs_X β η p9))) = 1) → (gs_Cfv (fun i => gs_M β η (gs_nx β η i (gs_need β η 61 (gs_X β η p9)))) (Int.toNat v5_102) t I J I100 J101) → ((I100 (t + 1) 1 = I (t + 1) 1) ∧ (∀ k, J101 (t + 2) k = J (t + 2) k)) → gv_X (gc_E6 ws0 tb 4 (yX6_readFeature, cX6_readFeature, 7, (some .boolean)) kX6_readFeature) (gv_Q cX6_readFeature (some .boolean) sh (fun r h' => (∃ (I' : gr_I) (J' : gr_J), h' = gc_h sh I' J' A ∧ gc_Inv ro I' ∧ (∀ q j : Nat, ((q = 39 ∧ j = 3) ∨ (q = 39 ∧ j = 4) ∨ (q = 23 ∧ j = 5) ∨ (q = 23 ∧ j = 6) ∨ (q = 23 ∧ j = 7) ∨ (q = 23 ∧ j = 8) ∨ q = (t + 5) ∨ q = (t + 6) ∨ (q = (t + 3) ∧ j = 1) ∨ (q = (t + 1) ∧ j = 1)) ∨ I' q j = I q j) ∧ (∀ q j : Nat, ((q = 23 ∧ j = 9) ∨ q = 42 ∨ q = (t + 4) ∨ q = (t + 2)) ∨ J' q j = J q j) ∧ gc_LT I' ∧ gc_TK I' ∧ (∃ z : Int, r = some (.inl z) ∧ 0 ≤ z ∧ z ≤ 1 ∧ (I' 23 1 = I 23 1) ∧ (I 23 5 ≤ I' 23 5) ∧ (I' (t + 3) 1 ≤ 6 * I' (t + 1) 1) ∧ (gs_Or z (0 ≤ (gs_fea β η Ir Jr (I 39 5) p9) ∧ gc_AT β η (gs_fea β η Ir Jr (I 39 5) p9) 23 I' J' ∧ gc_PU (t + 1) 8 (gs_M β η p9) I J I' J' ∧ I (t + 1) 1 < 8 ∧ gs_Cfv (fun i => gs_M β η (gs_nx β η i (gs_need β η 61 (gs_X β η p9)))) (Int.toNat (gs_cn β η 7 (gs_need β η 61 (gs_X β η p9)))) t I J I' J') ((gs_fea β η Ir Jr (I 39 5) p9) < 0 ∧ I' 39 4 = -1 - (gs_fea β η Ir Jr (I 39 5) p9) ∧ I' (t + 1) 1 = I (t + 1) 1 ∧ I' (t + 3) 1 = I (t + 3) 1 ∧ ∀ j, J' (t + 2) j = J (t + 2) j ∧ J' (t + 4) j = J (t + 4) j ∧ I' (t + 5) j = I (t + 5) j ∧ I' (t + 6) j = I (t + 6) j)))))) (242, [(0, .inr (.inr (some 39))), (1, .inr (.inl v1_13)), (4, .inl v4_13), (5, .inl v5_102)], [], sh, gc_h sh I100 J101 A) := by
          intro n9
          induction n9 with
          | zero => intro I100 J101 v5_102 p_102 hn; exact gz_m 98 (by omega)
          | succ n9 ih242 =>
            intro I100 J101 v5_102 p_102 hn hI100 FI100 FJ101 KLT_I100 KTK_I100 m_102 e3_102 e4_102 e5_102 e6_102 e7_102 e8_102 e9_102
            clear hv4_13_88 e0_88 e7_88 e8_88 e9_88 e10_88 t89 f90 f91 f92 f93 f94 f95 f96 f97 f98 t99 hv3_13_76 hv4_13_76 e0_76 e8_76 e9_76 e10_76 e11_76 t77 f78 f79 f80 f81 f82 f83 f84 f85 f86 t87 hv3_13 hv4_13 hv5_13 e0_13 e11_13 e12_13 e13_13 e14_13 t14 f15 f16 f17 f18 f19 f20 f21 f22 f23 t24
            obtain ⟨hv4_13_102, hv5_102, e0_102, e1_102, e2_102, e10_102, e11_102, e12_102, e13_102⟩ := m_102
            have t103 := gc_TK_mo KTK_I100
            have f104 := (gc_b_3_1 hI100 R_23)
            have f105 := (gc_b_3_5 hI100 R_23)
            have f106 := (gc_b_3_6 hI100 R_23)
            have f107 := (gc_b_3_7 hI100 R_23)
            have f108 := (show 0 ≤ I100 (t + 3) 1 ∧ I100 (t + 3) 1 ≤ 48 from gc_in2 hI100 R_t_3 rfl rfl rfl)
            have f109 := (show 0 ≤ I100 (t + 1) 1 ∧ I100 (t + 1) 1 ≤ 8 from gc_in2 hI100 R_t_1 rfl rfl rfl)
            have f110 := (gc_b_42_5 hI100 R_39)
            have f111 := (gc_b_22_18 hI100 R_1)
            have f112 := (gc_b_42_2 hI100 R_39)
            have t113 := gc_AT_l e3_102
            refine gv_run 2 true hD (pc' := 246) (lv' := [(0, .inr (.inr (some 39))), (1, .inr (.inl v1_13)), (4, .inl v4_13), (5, .inl v5_102)]) (st' := [.inl v4_13, .inl v5_102]) (h' := gc_h sh I100 J101 A) (C := ((True ∧ True) ∧ True)) rfl ⟨⟨trivial, trivial⟩, trivial⟩ ?_
            refine gv_icmp_ge (t := 322) hD rfl rfl ⟨⟨by exact gz_m 99 (by omega), by exact gz_m 100 (by omega)⟩, ⟨by exact gz_m 101 (by omega), by exact gz_m 102 (by omega)⟩⟩ (fun c114 => ?_) (fun c114 => ?_)
            · show gv_X _ _ (322, [(0, .inr (.inr (some 39))), (1, .inr (.inl v1_13)), (4, .inl v4_13), (5, .inl v5_102)], [], sh, gc_h sh I100 J101 A)
              refine gv_run 1 true hD (pc' := 323) (lv' := [(0, .inr (.inr (some 39))), (1, .inr (.inl v1_13)), (4, .inl v4_13), (5, .inl v5_102)]) (st' := [.inr (.inr (some 39))]) (h' := gc_h sh I100 J101 A) (C := (True ∧ True)) rfl ⟨trivial, trivial⟩ ?_
              refine gv_get hD rfl rfl S_39 ⟨by decide, B_39⟩ (gc_h5 (t := t) S_39 rfl (by exact gz_m 103 (by omega))) ?_
              show gv_X _ _ (326, [(0, .inr (.inr (some 39))), (1, .inr (.inl v1_13)), (4, .inl v4_13), (5, .inl v5_102)], [.inr (.inr (some t))], sh, gc_h sh I100 J101 A)
              refine gv_get hD rfl rfl S_t ⟨by decide, B_t⟩ (gc_hA S_t rfl A_t_0) ?_
              show gv_X _ _ (329, [(0, .inr (.inr (some 39))), (1, .inr (.inl v1_13)), (4, .inl v4_13), (5, .inl v5_102)], [.inr (.inr (some (t + 1)))], sh, gc_h sh I100 J101 A)
              refine gv_run 1 true hD (pc' := 330) (lv' := [(0, .inr (.inr (some 39))), (1, .inr (.inl v1_13)), (4, .inl v4_13), (5, .inl v5_102)]) (st' := [.inr (.inl v1_13), .inr (.inr (some (t + 1)))]) (h' := gc_h sh I100 J101 A) (C := (True ∧ True)) rfl ⟨trivial, trivial⟩ ?_
              obtain ⟨r115, h115, E115, P115⟩ := d_X4_put_p (ws0 := ws0) (tb := tb) hws htb sh ro I100 J101 A hI100 (t + 1) 8 6 v1_13 h_t_1     
              obtain ⟨I116, J117, rfl, hI116, g115, k115, ⟨rfl, q115⟩⟩ := P115
              have FI116 := gc_frc (W := fun q j => (q = 39 ∧ j = 3) ∨ (q = 39 ∧ j = 4) ∨ (q = 23 ∧ j = 5) ∨ (q = 23 ∧ j = 6) ∨ (q = 23 ∧ j = 7) ∨ (q = 23 ∧ j = 8) ∨ q = (t + 5) ∨ q = (t + 6) ∨ (q = (t + 3) ∧ j = 1) ∨ (q = (t + 1) ∧ j = 1)) (V := fun q j => (q = (t + 1) ∧ j = 1)) FI100 (fun q j h => (Or.inr (Or.inr (Or.inr (Or.inr (Or.inr (Or.inr (Or.inr (Or.inr (Or.inr h)))))))))) g115
              have FJ117 := gc_frc (W := fun q j => (q = 23 ∧ j = 9) ∨ q = 42 ∨ q = (t + 4) ∨ q = (t + 2)) (V := fun q j => q = (t + 2)) FJ101 (fun q j h => (Or.inr (Or.inr (Or.inr h)))) k115
              have t118 := (g115 23 1).resolve_left (fun h => absurd h.1 N_23__t_1)
              have t119 := (g115 23 5).resolve_left (fun h => absurd h.2 (gz_ne rfl))
              have t120 := (g115 23 6).resolve_left (fun h => absurd h.2 (gz_ne rfl))
              have t121 := (g115 23 7).resolve_left (fun h => absurd h.2 (gz_ne rfl))
              have t122 := (g115 (t + 3) 1).resolve_left (fun h => absurd h.1 N_t_3__t_1)
              have t123 := (g115 39 5).resolve_left (fun h => absurd h.2 (gz_ne rfl))
              have t124 := (g115 1 18).resolve_left (fun h => absurd h.2 (gz_ne rfl))
              have t125 := (g115 39 2).resolve_left (fun h => absurd h.2 (gz_ne rfl))
              have f126 := (show 0 ≤ I116 (t + 1) 1 ∧ I116 (t + 1) 1 ≤ 8 from gc_in2 hI116 R_t_1 rfl rfl rfl)
              have KLT_I116 := gc_LT_fr KLT_I100 ((g115 23 5).resolve_left (fun h => absurd h.2 (gz_ne rfl))) ((g115 23 6).resolve_left (fun h => absurd h.2 (gz_ne rfl))) ((g115 23 7).resolve_left (fun h => absurd h.2 (gz_ne rfl))) (fun k => (g115 24 k).resolve_left (fun h => absurd h.1 N_24__t_1))
              have KTK_I116 := gc_TK_fr KTK_I100 ((g115 23 1).resolve_left (fun h => absurd h.1 N_23__t_1)) ((g115 23 5).resolve_left (fun h => absurd h.2 (gz_ne rfl))) ((g115 23 6).resolve_left (fun h => absurd h.2 (gz_ne rfl))) ((g115 23 7).resolve_left (fun h => absurd h.2 (gz_ne rfl)))
              have A127 := gc_AT_I e3_102 ((g115 23 1).resolve_left (fun h => absurd h.1 N_23__t_1)) ((g115 23 5).resolve_left (fun h => absurd h.2 (gz_ne rfl))) ((g115 23 6).resolve_left (fun h => absurd h.2 (gz_ne rfl))) ((g115 23 7).resolve_left (fun h => absurd h.2 (gz_ne rfl))) ((g115 23 8).resolve_left (fun h => absurd h.2 (gz_ne rfl))) (fun k => (g115 24 k).resolve_left (fun h => absurd h.1 N_24__t_1))
              have A128 := gc_AT_J A127 ((k115 23 9).resolve_left (fun h => absurd h N_23__t_2))
              have t129 := gc_AT_l A128
              refine gv_callV hD rfl (As := [.inr (.inl v1_13)]) (st := []) rfl B_t_1 S_t_1 rfl (gc_lV6 hws rfl) (Nat.le_of_ble_eq_true rfl) (gz_Ev_mono (d := 1) (by decide) E115) ?_
              show gv_X _ _ (333, [(0, .inr (.inr (some 39))), (1, .inr (.inl v1_13)), (4, .inl v4_13), (5, .inl v5_102)], [], sh, gc_h sh I116 J117 A)
              refine gv_run 1 true hD (pc' := 334) (lv' := [(0, .inr (.inr (some 39))), (1, .inr (.inl v1_13)), (4, .inl v4_13), (5, .inl v5_102)]) (st' := [.inl 1]) (h' := gc_h sh I116 J117 A) (C := (True ∧ True)) rfl ⟨trivial, trivial⟩ ?_
              exact gv_zret hD rfl (by exact gz_m 104 (by omega)) ⟨I116, J117, rfl, hI116, FI116, FJ117, KLT_I116, KTK_I116, ⟨_, rfl, by exact gz_m 105 (by omega), by exact gz_m 106 (by omega), by exact gz_m 107 (by omega), by exact gz_m 108 (by omega), by exact gz_m 109 (by omega), (Or.inl ⟨by exact gz_m 110 (by omega), by rw [e5_102]; exact ⟨by exact gz_m 111 (by omega), A128, (gc_PU_tr q115.2.2.2 (e9_102.1) (fun j => (e9_102.2 j)) e4_102), by exact gz_m 112 (by omega), (by rw [show Int.toNat (gs_cn β η 7 (gs_need β η 61 (gs_X β η p9))) = Int.toNat v5_102 from by exact gz_m 113 (by omega)]; exact (gs_Cfv_fr e8_102 ((g115 (t + 3) 1).resolve_left (by exact gz_m 114 (by omega))) (fun j => ((k115 (t + 4) j).resolve_left (by exact gz_m 115 (by omega)))) (fun j => (g115 (t + 5) j).resolve_left (by exact gz_m 116 (by omega))) (fun j => (g115 (t + 6) j).resolve_left (by exact gz_m 117 (by omega)))))⟩⟩)⟩⟩
            · show gv_X _ _ (249, [(0, .inr (.inr (some 39))), (1, .inr (.inl v1_13)), (4, .inl v4_13), (5, .inl v5_102)], [], sh, gc_h sh I100 J101 A)
              refine gv_run 1 true hD (pc' := 250) (lv' := [(0, .inr (.inr (some 39))), (1, .inr (.inl v1_13)), (4, .inl v4_13), (5, .inl v5_102)]) (st' := [.inr (.inr (some 39))]) (h' := gc_h sh I100 J101 A) (C := (True ∧ True)) rfl ⟨trivial, trivial⟩ ?_
              refine gv_get hD rfl rfl S_39 ⟨by decide, B_39⟩ (gc_h5 (t := t) S_39 rfl (by exact gz_m 118 (by omega))) ?_
              show gv_X _ _ (253, [(0, .inr (.inr (some 39))), (1, .inr (.inl v1_13)), (4, .inl v4_13), (5, .inl v5_102)], [.inr (.inr (some t))], sh, gc_h sh I100 J101 A)
              refine gv_get hD rfl rfl S_t ⟨by decide, B_t⟩ (gc_hA S_t rfl A_t_2) ?_
              show gv_X _ _ (256, [(0, .inr (.inr (some 39))), (1, .inr (.inl v1_13)), (4, .inl v4_13), (5, .inl v5_102)], [.inr (.inr (some (t + 5)))], sh, gc_h sh I100 J101 A)
              refine gv_run 1 true hD (pc' := 257) (lv' := [(0, .inr (.inr (some 39))), (1, .inr (.inl v1_13)), (4, .inl v4_13), (5, .inl v5_102)]) (st' := [.inr (.inr (some 39)), .inr (.inr (some (t + 5)))]) (h' := gc_h sh I100 J101 A) (C := (True ∧ True)) rfl ⟨trivial, trivial⟩ ?_
              refine gv_get hD rfl rfl S_39 ⟨by decide, B_39⟩ (gc_h5 (t := t) S_39 rfl (by exact gz_m 119 (by omega))) ?_
              show gv_X _ _ (260, [(0, .inr (.inr (some 39))), (1, .inr (.inl v1_13)), (4, .inl v4_13), (5, .inl v5_102)], [.inr (.inr (some t)), .inr (.inr (some (t + 5)))], sh, gc_h sh I100 J101 A)
              refine gv_get hD rfl rfl S_t ⟨by decide, B_t⟩ (gc_hA S_t rfl A_t_1) ?_
              show gv_X _ _ (263, [(0, .inr (.inr (some 39))), (1, .inr (.inl v1_13)), (4, .inl v4_13), (5, .inl v5_102)], [.inr (.inr (some (t + 3))), .inr (.inr (some (t + 5)))], sh, gc_h sh I100 J101 A)
              have f130 := (show 0 ≤ I100 (t + 3) 1 ∧ I100 (t + 3) 1 ≤ 48 from gc_in2 hI100 R_t_3 rfl rfl rfl)
              refine gv_get hD rfl rfl S_t_3 ⟨by decide, B_t_3⟩ (gc_hI S_t_3 rfl) ?_
              show gv_X _ _ (266, [(0, .inr (.inr (some 39))), (1, .inr (.inl v1_13)), (4, .inl v4_13), (5, .inl v5_102)], [.inl (I100 (t + 3) 1), .inr (.inr (some (t + 5)))], sh, gc_h sh I100 J101 A)
              refine gv_run 1 true hD (pc' := 267) (lv' := [(0, .inr (.inr (some 39))), (1, .inr (.inl v1_13)), (4, .inl v4_13), (5, .inl v5_102)]) (st' := [.inr (.inr (some 39)), .inl (I100 (t + 3) 1), .inr (.inr (some (t + 5)))]) (h' := gc_h sh I100 J101 A) (C := (True ∧ True)) rfl ⟨trivial, trivial⟩ ?_
              refine gv_get hD rfl rfl S_39 ⟨by decide, B_39⟩ (gc_h5 (t := t) S_39 rfl (by exact gz_m 120 (by omega))) ?_
              show gv_X _ _ (270, [(0, .inr (.inr (some 39))), (1, .inr (.inl v1_13)), (4, .inl v4_13), (5, .inl v5_102)], [.inr (.inr (some t)), .inl (I100 (t + 3) 1), .inr (.inr (some (t + 5)))], sh, gc_h sh I100 J101 A)
              refine gv_get hD rfl rfl S_t ⟨by decide, B_t⟩ (gc_hA S_t rfl A_t_0) ?_
              show gv_X _ _ (273, [(0, .inr (.inr (some 39))), (1, .inr (.inl v1_13)), (4, .inl v4_13), (5, .inl v5_102)], [.inr (.inr (some (t + 1))), .inl (I100 (t + 3) 1), .inr (.inr (some (t + 5)))], sh, gc_h sh I100 J101 A)
              have f131 := (show 0 ≤ I100 (t + 1) 1 ∧ I100 (t + 1) 1 ≤ 8 from gc_in2 hI100 R_t_1 rfl rfl rfl)
              refine gv_get hD rfl rfl S_t_1 ⟨by decide, B_t_1⟩ (gc_hI S_t_1 rfl) ?_
              show gv_X _ _ (276, [(0, .inr (.inr (some 39))), (1, .inr (.inl v1_13)), (4, .inl v4_13), (5, .inl v5_102)], [.inl (I100 (t + 1) 1), .inl (I100 (t + 3) 1), .inr (.inr (some (t + 5)))], sh, gc_h sh I100 J101 A)
              refine gv_iast hD rfl S_t_5 ⟨by decide, B_t_5⟩ ⟨by exact gz_m 121 (by omega), by exact gz_m 122 (by omega)⟩ ?_
              refine gc_st hI100 S_t_5 rfl R_t_5 (lo := 0) (hi := 7) rfl rfl (by exact gz_m 123 (by omega)) (by exact gz_m 124 (by omega)) (fun I132 hI132 q133 p133 => ?_)
              have FI132 := gc_frs (W := fun q j => (q = 39 ∧ j = 3) ∨ (q = 39 ∧ j = 4) ∨ (q = 23 ∧ j = 5) ∨ (q = 23 ∧ j = 6) ∨ (q = 23 ∧ j = 7) ∨ (q = 23 ∧ j = 8) ∨ q = (t + 5) ∨ q = (t + 6) ∨ (q = (t + 3) ∧ j = 1) ∨ (q = (t + 1) ∧ j = 1)) FI100 (Or.inr (Or.inr (Or.inr (Or.inr (Or.inr (Or.inr (Or.inl rfl))))))) p133
              have t134 := p133 23 1 (fun h => absurd h.1 N_23__t_5)
              have t135 := p133 23 5 (fun h => absurd h.1 N_23__t_5)
              have t136 := p133 23 6 (fun h => absurd h.1 N_23__t_5)
              have t137 := p133 23 7 (fun h => absurd h.1 N_23__t_5)
              have t138 := p133 (t + 3) 1 (fun h => absurd h.1 N_t_3__t_5)
              have t139 := p133 (t + 1) 1 (fun h => absurd h.1 N_t_1__t_5)
              have t140 := p133 39 5 (fun h => absurd h.1 N_39__t_5)
              have t141 := p133 1 18 (fun h => absurd h.1 N_1__t_5)
              have t142 := p133 39 2 (fun h => absurd h.1 N_39__t_5)
              have KLT_I132 := gc_LT_fr KLT_I100 (p133 23 5 (fun h => absurd h.1 N_23__t_5)) (p133 23 6 (fun h => absurd h.1 N_23__t_5)) (p133 23 7 (fun h => absurd h.1 N_23__t_5)) (fun k => p133 24 k (fun h => absurd h.1 N_24__t_5))
              have KTK_I132 := gc_TK_fr KTK_I100 (p133 23 1 (fun h => absurd h.1 N_23__t_5)) (p133 23 5 (fun h => absurd h.1 N_23__t_5)) (p133 23 6 (fun h => absurd h.1 N_23__t_5)) (p133 23 7 (fun h => absurd h.1 N_23__t_5))
              have A143 := gc_AT_I e3_102 (p133 23 1 (fun h => absurd h.1 N_23__t_5)) (p133 23 5 (fun h => absurd h.1 N_23__t_5)) (p133 23 6 (fun h => absurd h.1 N_23__t_5)) (p133 23 7 (fun h => absurd h.1 N_23__t_5)) (p133 23 8 (fun h => absurd h.1 N_23__t_5)) (fun k => p133 24 k (fun h => absurd h.1 N_24__t_5))
              show gv_X _ _ (277, [(0, .inr (.inr (some 39))), (1, .inr (.inl v1_13)), (4, .inl v4_13), (5, .inl v5_102)], [], sh, gc_h sh I132 J101 A)
              refine gv_run 1 true hD (pc' := 278) (lv' := [(0, .inr (.inr (some 39))), (1, .inr (.inl v1_13)), (4, .inl v4_13), (5, .inl v5_102)]) (st' := [.inr (.inr (some 39))]) (h' := gc_h sh I132 J101 A) (C := (True ∧ True)) rfl ⟨trivial, trivial⟩ ?_
              refine gv_get hD rfl rfl S_39 ⟨by decide, B_39⟩ (gc_h5 (t := t) S_39 rfl (by exact gz_m 125 (by omega))) ?_
              show gv_X _ _ (281, [(0, .inr (.inr (some 39))), (1, .inr (.inl v1_13)), (4, .inl v4_13), (5, .inl v5_102)], [.inr (.inr (some t))], sh, gc_h sh I132 J101 A)
              refine gv_get hD rfl rfl S_t ⟨by decide, B_t⟩ (gc_hA S_t rfl A_t_3) ?_
              show gv_X _ _ (284, [(0, .inr (.inr (some 39))), (1, .inr (.inl v1_13)), (4, .inl v4_13), (5, .inl v5_102)], [.inr (.inr (some (t + 6)))], sh, gc_h sh I132 J101 A)
              refine gv_run 1 true hD (pc' := 285) (lv' := [(0, .inr (.inr (some 39))), (1, .inr (.inl v1_13)), (4, .inl v4_13), (5, .inl v5_102)]) (st' := [.inr (.inr (some 39)), .inr (.inr (some (t + 6)))]) (h' := gc_h sh I132 J101 A) (C := (True ∧ True)) rfl ⟨trivial, trivial⟩ ?_
              refine gv_get hD rfl rfl S_39 ⟨by decide, B_39⟩ (gc_h5 (t := t) S_39 rfl (by exact gz_m 126 (by omega))) ?_
              show gv_X _ _ (288, [(0, .inr (.inr (some 39))), (1, .inr (.inl v1_13)), (4, .inl v4_13), (5, .inl v5_102)], [.inr (.inr (some t)), .inr (.inr (some (t + 6)))], sh, gc_h sh I132 J101 A)
              refine gv_get hD rfl rfl S_t ⟨by decide, B_t⟩ (gc_hA S_t rfl A_t_1) ?_
              show gv_X _ _ (291, [(0, .inr (.inr (some 39))), (1, .inr (.inl v1_13)), (4, .inl v4_13), (5, .inl v5_102)], [.inr (.inr (some (t + 3))), .inr (.inr (some (t + 6)))], sh, gc_h sh I132 J101 A)
              have f144 := (show 0 ≤ I132 (t + 3) 1 ∧ I132 (t + 3) 1 ≤ 48 from gc_in2 hI132 R_t_3 rfl rfl rfl)
              refine gv_get hD rfl rfl S_t_3 ⟨by decide, B_t_3⟩ (gc_hI S_t_3 rfl) ?_
              show gv_X _ _ (294, [(0, .inr (.inr (some 39))), (1, .inr (.inl v1_13)), (4, .inl v4_13), (5, .inl v5_102)], [.inl (I132 (t + 3) 1), .inr (.inr (some (t + 6)))], sh, gc_h sh I132 J101 A)
              refine gv_run 3 true hD (pc' := 298) (lv' := [(0, .inr (.inr (some 39))), (1, .inr (.inl v1_13)), (4, .inl v4_13), (5, .inl v5_102)]) (st' := [.inl (v5_102 + 1), .inl (I132 (t + 3) 1), .inr (.inr (some (t + 6)))]) (h' := gc_h sh I132 J101 A) (C := (((True ∧ True) ∧ True) ∧ True)) rfl ⟨⟨⟨trivial, trivial⟩, trivial⟩, trivial⟩ ?_
              refine gv_iast hD rfl S_t_6 ⟨by decide, B_t_6⟩ ⟨by exact gz_m 127 (by omega), by exact gz_m 128 (by omega)⟩ ?_
              refine gc_st hI132 S_t_6 rfl R_t_6 (lo := 0) (hi := 6) rfl rfl (by exact gz_m 129 (by omega)) (by exact gz_m 130 (by omega)) (fun I145 hI145 q146 p146 => ?_)
              have FI145 := gc_frs (W := fun q j => (q = 39 ∧ j = 3) ∨ (q = 39 ∧ j = 4) ∨ (q = 23 ∧ j = 5) ∨ (q = 23 ∧ j = 6) ∨ (q = 23 ∧ j = 7) ∨ (q = 23 ∧ j = 8) ∨ q = (t + 5) ∨ q = (t + 6) ∨ (q = (t + 3) ∧ j = 1) ∨ (q = (t + 1) ∧ j = 1)) FI132 (Or.inr (Or.inr (Or.inr (Or.inr (Or.inr (Or.inr (Or.inr (Or.inl rfl)))))))) p146
              have t147 := p146 23 1 (fun h => absurd h.1 N_23__t_6)
              have t148 := p146 23 5 (fun h => absurd h.1 N_23__t_6)
              have t149 := p146 23 6 (fun h => absurd h.1 N_23__t_6)
              have t150 := p146 23 7 (fun h => absurd h.1 N_23__t_6)
              have t151 := p146 (t + 3) 1 (fun h => absurd h.1 N_t_3__t_6)
              have t152 := p146 (t + 1) 1 (fun h => absurd h.1 N_t_1__t_6)
              have t153 := p146 39 5 (fun h => absurd h.1 N_39__t_6)
              have t154 := p146 1 18 (fun h => absurd h.1 N_1__t_6)
              have t155 := p146 39 2 (fun h => absurd h.1 N_39__t_6)
              have KLT_I145 := gc_LT_fr KLT_I132 (p146 23 5 (fun h => absurd h.1 N_23__t_6)) (p146 23 6 (fun h => absurd h.1 N_23__t_6)) (p146 23 7 (fun h => absurd h.1 N_23__t_6)) (fun k => p146 24 k (fun h => absurd h.1 N_24__t_6))
              have KTK_I145 := gc_TK_fr KTK_I132 (p146 23 1 (fun h => absurd h.1 N_23__t_6)) (p146 23 5 (fun h => absurd h.1 N_23__t_6)) (p146 23 6 (fun h => absurd h.1 N_23__t_6)) (p146 23 7 (fun h => absurd h.1 N_23__t_6))
              have A156 := gc_AT_I A143 (p146 23 1 (fun h => absurd h.1 N_23__t_6)) (p146 23 5 (fun h => absurd h.1 N_23__t_6)) (p146 23 6 (fun h => absurd h.1 N_23__t_6)) (p146 23 7 (fun h => absurd h.1 N_23__t_6)) (p146 23 8 (fun h => absurd h.1 N_23__t_6)) (fun k => p146 24 k (fun h => absurd h.1 N_24__t_6))
              show gv_X _ _ (299, [(0, .inr (.inr (some 39))), (1, .inr (.inl v1_13)), (4, .inl v4_13), (5, .inl v5_102)], [], sh, gc_h sh I145 J101 A)
              refine gv_run 1 true hD (pc' := 300) (lv' := [(0, .inr (.inr (some 39))), (1, .inr (.inl v1_13)), (4, .inl v4_13), (5, .inl v5_102)]) (st' := [.inr (.inr (some 39))]) (h' := gc_h sh I145 J101 A) (C := (True ∧ True)) rfl ⟨trivial, trivial⟩ ?_
              refine gv_get hD rfl rfl S_39 ⟨by decide, B_39⟩ (gc_h5 (t := t) S_39 rfl (by exact gz_m 131 (by omega))) ?_
              show gv_X _ _ (303, [(0, .inr (.inr (some 39))), (1, .inr (.inl v1_13)), (4, .inl v4_13), (5, .inl v5_102)], [.inr (.inr (some t))], sh, gc_h sh I145 J101 A)
              refine gv_get hD rfl rfl S_t ⟨by decide, B_t⟩ (gc_hA S_t rfl A_t_1) ?_
              show gv_X _ _ (306, [(0, .inr (.inr (some 39))), (1, .inr (.inl v1_13)), (4, .inl v4_13), (5, .inl v5_102)], [.inr (.inr (some (t + 3)))], sh, gc_h sh I145 J101 A)
              refine gv_run 1 true hD (pc' := 307) (lv' := [(0, .inr (.inr (some 39))), (1, .inr (.inl v1_13)), (4, .inl v4_13), (5, .inl v5_102)]) (st' := [.inr (.inr (some 39)), .inr (.inr (some (t + 3)))]) (h' := gc_h sh I145 J101 A) (C := (True ∧ True)) rfl ⟨trivial, trivial⟩ ?_
              refine gv_get hD rfl rfl S_39 ⟨by decide, B_39⟩ (gc_hA S_39 rfl A_39_11) ?_
              show gv_X _ _ (310, [(0, .inr (.inr (some 39))), (1, .inr (.inl v1_13)), (4, .inl v4_13), (5, .inl v5_102)], [.inr (.inr (some 42)), .inr (.inr (some (t + 3)))], sh, gc_h sh I145 J101 A)
              refine gv_run 1 true hD (pc' := 312) (lv' := [(0, .inr (.inr (some 39))), (1, .inr (.inl v1_13)), (4, .inl v4_13), (5, .inl v5_102)]) (st' := [.inl v5_102, .inr (.inr (some 42)), .inr (.inr (some (t + 3)))]) (h' := gc_h sh I145 J101 A) (C := (True ∧ True)) rfl ⟨trivial, trivial⟩ ?_
              refine gv_lald hD rfl S_42 rfl ⟨by decide, B_42⟩ ⟨by exact gz_m 132 (by omega), by exact gz_m 133 (by omega)⟩ (gc_jJ S_42 rfl) ?_
              show gv_X _ _ (313, [(0, .inr (.inr (some 39))), (1, .inr (.inl v1_13)), (4, .inl v4_13), (5, .inl v5_102)], [.inr (.inl (J101 42 (Int.toNat v5_102))), .inr (.inr (some (t + 3)))], sh, gc_h sh I145 J101 A)
              obtain ⟨r157, h157, E157, P157⟩ := d_X4_put_p (ws0 := ws0) (tb := tb) hws htb sh ro I145 J101 A hI145 (t + 3) 48 10 ((J101 42 (Int.toNat v5_102))) h_t_3     
              obtain ⟨I158, J159, rfl, hI158, g157, k157, ⟨rfl, q157⟩⟩ := P157
              have FI158 := gc_frc (W := fun q j => (q = 39 ∧ j = 3) ∨ (q = 39 ∧ j = 4) ∨ (q = 23 ∧ j = 5) ∨ (q = 23 ∧ j = 6) ∨ (q = 23 ∧ j = 7) ∨ (q = 23 ∧ j = 8) ∨ q = (t + 5) ∨ q = (t + 6) ∨ (q = (t + 3) ∧ j = 1) ∨ (q = (t + 1) ∧ j = 1)) (V := fun q j => (q = (t + 3) ∧ j = 1)) FI145 (fun q j h => (Or.inr (Or.inr (Or.inr (Or.inr (Or.inr (Or.inr (Or.inr (Or.inr (Or.inl h)))))))))) g157
              have FJ159 := gc_frc (W := fun q j => (q = 23 ∧ j = 9) ∨ q = 42 ∨ q = (t + 4) ∨ q = (t + 2)) (V := fun q j => q = (t + 4)) FJ101 (fun q j h => (Or.inr (Or.inr (Or.inl h)))) k157
              have t160 := (g157 23 1).resolve_left (fun h => absurd h.1 N_23__t_3)
              have t161 := (g157 23 5).resolve_left (fun h => absurd h.2 (gz_ne rfl))
              have t162 := (g157 23 6).resolve_left (fun h => absurd h.2 (gz_ne rfl))
              have t163 := (g157 23 7).resolve_left (fun h => absurd h.2 (gz_ne rfl))
              have t164 := (g157 (t + 1) 1).resolve_left (fun h => absurd h.1 N_t_1__t_3)
              have t165 := (g157 39 5).resolve_left (fun h => absurd h.2 (gz_ne rfl))
              have t166 := (g157 1 18).resolve_left (fun h => absurd h.2 (gz_ne rfl))
              have t167 := (g157 39 2).resolve_left (fun h => absurd h.2 (gz_ne rfl))
              have f168 := (show 0 ≤ I158 (t + 3) 1 ∧ I158 (t + 3) 1 ≤ 48 from gc_in2 hI158 R_t_3 rfl rfl rfl)
              have KLT_I158 := gc_LT_fr KLT_I145 ((g157 23 5).resolve_left (fun h => absurd h.2 (gz_ne rfl))) ((g157 23 6).resolve_left (fun h => absurd h.2 (gz_ne rfl))) ((g157 23 7).resolve_left (fun h => absurd h.2 (gz_ne rfl))) (fun k => (g157 24 k).resolve_left (fun h => absurd h.1 N_24__t_3))
              have KTK_I158 := gc_TK_fr KTK_I145 ((g157 23 1).resolve_left (fun h => absurd h.1 N_23__t_3)) ((g157 23 5).resolve_left (fun h => absurd h.2 (gz_ne rfl))) ((g157 23 6).resolve_left (fun h => absurd h.2 (gz_ne rfl))) ((g157 23 7).resolve_left (fun h => absurd h.2 (gz_ne rfl)))
              have A169 := gc_AT_I A156 ((g157 23 1).resolve_left (fun h => absurd h.1 N_23__t_3)) ((g157 23 5).resolve_left (fun h => absurd h.2 (gz_ne rfl))) ((g157 23 6).resolve_left (fun h => absurd h.2 (gz_ne rfl))) ((g157 23 7).resolve_left (fun h => absurd h.2 (gz_ne rfl))) ((g157 23 8).resolve_left (fun h => absurd h.2 (gz_ne rfl))) (fun k => (g157 24 k).resolve_left (fun h => absurd h.1 N_24__t_3))
              have A170 := gc_AT_J A169 ((k157 23 9).resolve_left (fun h => absurd h N_23__t_4))
              have t171 := gc_AT_l A170
              refine gv_callV hD rfl (As := [.inr (.inl (J101 42 (Int.toNat v5_102)))]) (st := []) rfl B_t_3 S_t_3 rfl (gc_lV6 hws rfl) (Nat.le_of_ble_eq_true rfl) (gz_Ev_mono (d := 1) (by decide) E157) ?_
              show gv_X _ _ (316, [(0, .inr (.inr (some 39))), (1, .inr (.inl v1_13)), (4, .inl v4_13), (5, .inl v5_102)], [], sh, gc_h sh I158 J159 A)
              refine gv_run 2 true hD (pc' := 242) (lv' := [(5, .inl (v5_102 + 1)), (0, .inr (.inr (some 39))), (1, .inr (.inl v1_13)), (4, .inl v4_13)]) (st' := []) (h' := gc_h sh I158 J159 A) (C := ((True ∧ True) ∧ True)) rfl ⟨⟨trivial, trivial⟩, trivial⟩ ?_
              refine gv_pick [1, 2, 3, 0] rfl ?_
              exact ih242 I158 J159 (v5_102 + 1) p_102 (by exact gz_m 134 (by omega)) hI158 FI158 FJ159 KLT_I158 KTK_I158 (by exact gz_m 135 (by omega)) A170 e4_102 e5_102 e6_102 (fun i hi => ⟨(((k157 42 i).resolve_left (by exact gz_m 136 (by omega)))).trans (e7_102 i (by exact gz_m 137 (by omega))).1, (e7_102 i (by exact gz_m 138 (by omega))).2⟩) (by rw [show Int.toNat (v5_102 + 1) = Int.toNat v5_102 + 1 from by exact gz_m 139 (by omega)]; exact gs_Cfv_s e8_102 (by exact gz_m 140 (by omega)) p133 (q133.trans (by exact gz_m 141 (by omega))) (by exact gz_m 142 (by omega)) p146 (q146.trans (by exact gz_m 143 (by omega))) (by exact gz_m 144 (by omega)) (by rw [← (e7_102 (Int.toNat v5_102) (by exact gz_m 145 (by omega))).1]; exact q157.2.2.2) (by exact gz_m 146 (by omega)) (fun j => (g157 (t + 5) j).resolve_left (by exact gz_m 147 (by omega))) (fun j => (g157 (t + 6) j).resolve_left (by exact gz_m 148 (by omega)))) ⟨((((((g157 (t + 1) 1).resolve_left (by exact gz_m 149 (by omega))).trans (p146 (t + 1) 1 (by exact gz_m 150 (by omega)))).trans (p133 (t + 1) 1 (by exact gz_m 151 (by omega)))).trans (e9_102.1))), (fun k => (((k157 (t + 2) k).resolve_left (by exact gz_m 152 (by omega))).trans (e9_102.2 k)))⟩
        refine gv_run 2 true hD (pc' := 222) (lv' := [(0, .inr (.inr (some 39))), (1, .inr (.inl v1_13)), (4, .inl v4_13)]) (st' := [.inr (.inr (some 39)), .inr (.inr (some 39))]) (h' := gc_h sh I11 J12 A) (C := ((True ∧ True) ∧ True)) rfl ⟨⟨trivial, trivial⟩, trivial⟩ ?_
        refine gv_get hD rfl rfl S_39 ⟨by decide, B_39⟩ (gc_h5 (t := t) S_39 rfl (by exact gz_m 153 (by omega))) ?_
        show gv_X _ _ (225, [(0, .inr (.inr (some 39))), (1, .inr (.inl v1_13)), (4, .inl v4_13)], [.inr (.inr (some t)), .inr (.inr (some 39))], sh, gc_h sh I11 J12 A)
        refine gv_get hD rfl rfl S_t ⟨by decide, B_t⟩ (gc_hA S_t rfl A_t_0) ?_
        show gv_X _ _ (228, [(0, .inr (.inr (some 39))), (1, .inr (.inl v1_13)), (4, .inl v4_13)], [.inr (.inr (some (t + 1))), .inr (.inr (some 39))], sh, gc_h sh I11 J12 A)
        obtain ⟨r172, h172, E172, P172⟩ := d_X4_isFull_p (ws0 := ws0) (tb := tb) hws htb sh ro I11 J12 A hI11 (t + 1) 8 6  h_t_1     
        obtain ⟨rfl, ⟨z172, rfl, q172⟩⟩ := P172
        refine gv_callV hD rfl (As := []) (st := [.inr (.inr (some 39))]) rfl B_t_1 S_t_1 rfl (gc_lV6 hws rfl) (Nat.le_of_ble_eq_true rfl) (gz_Ev_mono (d := 1) (by decide) E172) ?_
        show gv_X _ _ (231, [(0, .inr (.inr (some 39))), (1, .inr (.inl v1_13)), (4, .inl v4_13)], [.inl z172, .inr (.inr (some 39))], sh, gc_h sh I11 J12 A)
        obtain ⟨r173, h173, E173, P173⟩ := d_X6_closes_p (ws0 := ws0) (tb := tb) hws htb sh ro I11 J12 A hI11  β η p_13 z172 hb   ⟨by exact gz_m 154 (by omega), by exact gz_m 155 (by omega)⟩ e1_13 (by exact gz_m 156 (by omega)) (by exact gz_m 157 (by omega)) KLT_I11 KTK_I11
        obtain ⟨I174, J175, rfl, hI174, g173, k173, KLT_I174, KTK_I174, ⟨z173, rfl, q173⟩⟩ := P173
        have FI174 := gc_frc (W := fun q j => (q = 39 ∧ j = 3) ∨ (q = 39 ∧ j = 4) ∨ (q = 23 ∧ j = 5) ∨ (q = 23 ∧ j = 6) ∨ (q = 23 ∧ j = 7) ∨ (q = 23 ∧ j = 8) ∨ q = (t + 5) ∨ q = (t + 6) ∨ (q = (t + 3) ∧ j = 1) ∨ (q = (t + 1) ∧ j = 1)) (V := fun q j => (q = 39 ∧ j = 3) ∨ (q = 39 ∧ j = 4) ∨ (q = 23 ∧ j = 5) ∨ (q = 23 ∧ j = 6) ∨ (q = 23 ∧ j = 7) ∨ (q = 23 ∧ j = 8)) FI11 (fun q j h => (h.elim (fun h => (Or.inl h)) (fun h => (h.elim (fun h => (Or.inr (Or.inl h))) (fun h => (h.elim (fun h => (Or.inr (Or.inr (Or.inl h)))) (fun h => (h.elim (fun h => (Or.inr (Or.inr (Or.inr (Or.inl h))))) (fun h => (h.elim (fun h => (Or.inr (Or.inr (Or.inr (Or.inr (Or.inl h)))))) (fun h => (Or.inr (Or.inr (Or.inr (Or.inr (Or.inr (Or.inl h))))))))))))))))) g173
        have FJ175 := gc_frc (W := fun q j => (q = 23 ∧ j = 9) ∨ q = 42 ∨ q = (t + 4) ∨ q = (t + 2)) (V := fun q j => (q = 23 ∧ j = 9)) FJ12 (fun q j h => (Or.inl h)) k173
        have t176 := (g173 23 1).resolve_left (fun h => h.elim (fun h => absurd h.2 (gz_ne rfl)) (fun h => h.elim (fun h => absurd h.2 (gz_ne rfl)) (fun h => h.elim (fun h => absurd h.2 (gz_ne rfl)) (fun h => h.elim (fun h => absurd h.2 (gz_ne rfl)) (fun h => h.elim (fun h => absurd h.2 (gz_ne rfl)) (fun h => absurd h.2 (gz_ne rfl)))))))
        have t177 := (g173 (t + 3) 1).resolve_left (fun h => h.elim (fun h => absurd h.2 (gz_ne rfl)) (fun h => h.elim (fun h => absurd h.2 (gz_ne rfl)) (fun h => h.elim (fun h => absurd h.2 (gz_ne rfl)) (fun h => h.elim (fun h => absurd h.2 (gz_ne rfl)) (fun h => h.elim (fun h => absurd h.2 (gz_ne rfl)) (fun h => absurd h.2 (gz_ne rfl)))))))
        have t178 := (g173 (t + 1) 1).resolve_left (fun h => h.elim (fun h => absurd h.2 (gz_ne rfl)) (fun h => h.elim (fun h => absurd h.2 (gz_ne rfl)) (fun h => h.elim (fun h => absurd h.2 (gz_ne rfl)) (fun h => h.elim (fun h => absurd h.2 (gz_ne rfl)) (fun h => h.elim (fun h => absurd h.2 (gz_ne rfl)) (fun h => absurd h.2 (gz_ne rfl)))))))
        have t179 := (g173 39 5).resolve_left (fun h => h.elim (fun h => absurd h.2 (gz_ne rfl)) (fun h => h.elim (fun h => absurd h.2 (gz_ne rfl)) (fun h => h.elim (fun h => absurd h.1 (gz_ne rfl)) (fun h => h.elim (fun h => absurd h.2 (gz_ne rfl)) (fun h => h.elim (fun h => absurd h.2 (gz_ne rfl)) (fun h => absurd h.2 (gz_ne rfl)))))))
        have t180 := (g173 1 18).resolve_left (fun h => h.elim (fun h => absurd h.2 (gz_ne rfl)) (fun h => h.elim (fun h => absurd h.2 (gz_ne rfl)) (fun h => h.elim (fun h => absurd h.2 (gz_ne rfl)) (fun h => h.elim (fun h => absurd h.2 (gz_ne rfl)) (fun h => h.elim (fun h => absurd h.2 (gz_ne rfl)) (fun h => absurd h.2 (gz_ne rfl)))))))
        have t181 := (g173 39 2).resolve_left (fun h => h.elim (fun h => absurd h.2 (gz_ne rfl)) (fun h => h.elim (fun h => absurd h.2 (gz_ne rfl)) (fun h => h.elim (fun h => absurd h.2 (gz_ne rfl)) (fun h => h.elim (fun h => absurd h.2 (gz_ne rfl)) (fun h => h.elim (fun h => absurd h.2 (gz_ne rfl)) (fun h => absurd h.2 (gz_ne rfl)))))))
        have f182 := (gc_b_3_5 hI174 R_23)
        have f183 := (gc_b_3_6 hI174 R_23)
        have f184 := (gc_b_3_7 hI174 R_23)
        have t185 := gc_TK_mo KTK_I174
        refine gv_callV hD rfl (As := [.inl z172]) (st := []) rfl B_39 S_39 rfl (gc_lV6 hws rfl) (Nat.le_of_ble_eq_true rfl) (gz_Ev_mono (d := 4) (by decide) E173) ?_
        show gv_X _ _ (234, [(0, .inr (.inr (some 39))), (1, .inr (.inl v1_13)), (4, .inl v4_13)], [.inl z173], sh, gc_h sh I174 J175 A)
        refine gv_if_ne (t := 239) hD rfl rfl ⟨by exact gz_m 158 (by omega), by exact gz_m 159 (by omega)⟩ (fun c186 => ?_) (fun c186 => ?_)
        · show gv_X _ _ (239, [(0, .inr (.inr (some 39))), (1, .inr (.inl v1_13)), (4, .inl v4_13)], [], sh, gc_h sh I174 J175 A)
          have V187 := q173.2.2.2.2.2
          rw [show I11 39 5 = I 39 5 from by exact gz_m 160 (by omega)] at V187
          rw [show (if z172 = 0 then (1 : Int) else 0) = (if Ir 13 (Int.toNat (Ir 0 6)) < 8 then 1 else 0) from gs_rm (by exact gz_m 161 (by omega))] at V187
          obtain ⟨u187, A187⟩ := gs_or1 V187 (by exact gz_m 162 (by omega))
          have t188 := gc_AT_l A187
          refine gv_run 2 true hD (pc' := 242) (lv' := [(5, .inl 0), (0, .inr (.inr (some 39))), (1, .inr (.inl v1_13)), (4, .inl v4_13)]) (st' := []) (h' := gc_h sh I174 J175 A) (C := ((True ∧ True) ∧ True)) rfl ⟨⟨trivial, trivial⟩, trivial⟩ ?_
          refine gv_pick [1, 2, 3, 0] rfl ?_
          exact L242 _ I174 J175 0 ((gs_done β η (if Ir 13 (Int.toNat (Ir 0 6)) < 8 then 1 else 0) (I 39 5) p_13)) (Nat.lt_succ_self _) hI174 FI174 FJ175 KLT_I174 KTK_I174 (by exact gz_m 163 (by omega)) A187 e2_88 e3_88 e4_88 (fun i hi => ⟨(((k173 42 i).resolve_left (by exact gz_m 164 (by omega)))).trans (e5_88 i (by exact gz_m 165 (by omega))).1, (e5_88 i (by exact gz_m 166 (by omega))).2⟩) (gs_Cfv_0 (((g173 (t + 3) 1).resolve_left (by exact gz_m 167 (by omega))).trans (e6_88.2.1)) (fun j => (((k173 (t + 4) j).resolve_left (by exact gz_m 168 (by omega))).trans (e6_88.2.2.2.2.2.1 j))) (fun j => (((g173 (t + 5) j).resolve_left (by exact gz_m 169 (by omega))).trans (e6_88.2.2.2.2.2.2.1 j))) (fun j => (((g173 (t + 6) j).resolve_left (by exact gz_m 170 (by omega))).trans (e6_88.2.2.2.2.2.2.2 j)))) ⟨((((g173 (t + 1) 1).resolve_left (by exact gz_m 171 (by omega))).trans (e6_88.1))), (fun k => (((k173 (t + 2) k).resolve_left (by exact gz_m 172 (by omega))).trans (e6_88.2.2.2.2.1 k)))⟩
        · show gv_X _ _ (237, [(0, .inr (.inr (some 39))), (1, .inr (.inl v1_13)), (4, .inl v4_13)], [], sh, gc_h sh I174 J175 A)
          have V189 := q173.2.2.2.2.2
          rw [show I11 39 5 = I 39 5 from by exact gz_m 173 (by omega)] at V189
          rw [show (if z172 = 0 then (1 : Int) else 0) = (if Ir 13 (Int.toNat (Ir 0 6)) < 8 then 1 else 0) from gs_rm (by exact gz_m 174 (by omega))] at V189
          obtain ⟨u189, u189_⟩ := gs_or0 V189 (by exact gz_m 175 (by omega))
          refine gv_run 1 true hD (pc' := 238) (lv' := [(0, .inr (.inr (some 39))), (1, .inr (.inl v1_13)), (4, .inl v4_13)]) (st' := [.inl 0]) (h' := gc_h sh I174 J175 A) (C := (True ∧ True)) rfl ⟨trivial, trivial⟩ ?_
          exact gv_zret hD rfl (by exact gz_m 176 (by omega)) ⟨I174, J175, rfl, hI174, FI174, FJ175, KLT_I174, KTK_I174, ⟨_, rfl, by exact gz_m 177 (by omega), by exact gz_m 178 (by omega), by exact gz_m 179 (by omega), by exact gz_m 180 (by omega), by exact gz_m 181 (by omega), (Or.inr ⟨by exact gz_m 182 (by omega), by rw [e3_88]; exact ⟨by exact gz_m 183 (by omega), by exact gz_m 184 (by omega), (((g173 (t + 1) 1).resolve_left (by exact gz_m 185 (by omega))).trans (e6_88.1)), (((g173 (t + 3) 1).resolve_left (by exact gz_m 186 (by omega))).trans (e6_88.2.1)), fun j => ⟨(((k173 (t + 2) j).resolve_left (by exact gz_m 187 (by omega))).trans (e6_88.2.2.2.2.1 j)), (((k173 (t + 4) j).resolve_left (by exact gz_m 188 (by omega))).trans (e6_88.2.2.2.2.2.1 j)), (((g173 (t + 5) j).resolve_left (by exact gz_m 189 (by omega))).trans (e6_88.2.2.2.2.2.2.1 j)), (((g173 (t + 6) j).resolve_left (by exact gz_m 190 (by omega))).trans (e6_88.2.2.2.2.2.2.2 j))⟩⟩⟩)⟩⟩
      refine gv_run 2 true hD (pc' := 198) (lv' := [(0, .inr (.inr (some 39))), (1, .inr (.inl v1_13)), (3, .inl v3_13), (4, .inl v4_13)]) (st' := [.inl 1, .inl v4_13]) (h' := gc_h sh I11 J12 A) (C := ((True ∧ True) ∧ True)) rfl ⟨⟨trivial, trivial⟩, trivial⟩ ?_
      refine gv_icmp_ne (t := 220) hD rfl rfl ⟨⟨by exact gz_m 191 (by omega), by exact gz_m 192 (by omega)⟩, ⟨by exact gz_m 193 (by omega), by exact gz_m 194 (by omega)⟩⟩ (fun c190 => ?_) (fun c190 => ?_)
      · show gv_X _ _ (220, [(0, .inr (.inr (some 39))), (1, .inr (.inl v1_13)), (3, .inl v3_13), (4, .inl v4_13)], [], sh, gc_h sh I11 J12 A)
        refine gv_pick [0, 1, 3] rfl ?_
        exact L220 (by exact gz_m 195 (by omega)) e1_13 e2_76 (e3_76.trans (gs_fea_d (by exact gz_m 196 (by omega)) (by exact gz_m 197 (by omega)))) e4_76 (fun i hi => ⟨(rfl).trans (e6_76 i (by exact gz_m 198 (by omega))).1, (e6_76 i (by exact gz_m 199 (by omega))).2⟩) ⟨((e7_76.1)), ((e7_76.2.1)), ((e7_76.2.2.1)), ((e7_76.2.2.2.1)), (fun k => (e7_76.2.2.2.2.1 k)), (fun k => (e7_76.2.2.2.2.2.1 k)), (fun k => (e7_76.2.2.2.2.2.2.1 k)), (fun k => (e7_76.2.2.2.2.2.2.2 k))⟩
      · show gv_X _ _ (201, [(0, .inr (.inr (some 39))), (1, .inr (.inl v1_13)), (3, .inl v3_13), (4, .inl v4_13)], [], sh, gc_h sh I11 J12 A)
        refine gv_run 1 true hD (pc' := 202) (lv' := [(0, .inr (.inr (some 39))), (1, .inr (.inl v1_13)), (3, .inl v3_13), (4, .inl v4_13)]) (st' := [.inr (.inr (some 39))]) (h' := gc_h sh I11 J12 A) (C := (True ∧ True)) rfl ⟨trivial, trivial⟩ ?_
        refine gv_get hD rfl rfl S_39 ⟨by decide, B_39⟩ (gc_hA S_39 rfl A_39_1) ?_
        show gv_X _ _ (205, [(0, .inr (.inr (some 39))), (1, .inr (.inl v1_13)), (3, .inl v3_13), (4, .inl v4_13)], [.inr (.inr (some 23))], sh, gc_h sh I11 J12 A)
        have f191 := (gc_b_3_7 hI11 R_23)
        refine gv_get hD rfl rfl S_23 ⟨by decide, B_23⟩ (gc_hI S_23 rfl) ?_
        show gv_X _ _ (208, [(0, .inr (.inr (some 39))), (1, .inr (.inl v1_13)), (3, .inl v3_13), (4, .inl v4_13)], [.inl (I11 23 7)], sh, gc_h sh I11 J12 A)
        refine gv_run 1 true hD (pc' := 210) (lv' := [(0, .inr (.inr (some 39))), (1, .inr (.inl v1_13)), (3, .inl v3_13), (4, .inl v4_13)]) (st' := [.inl 59, .inl (I11 23 7)]) (h' := gc_h sh I11 J12 A) (C := (True ∧ True)) rfl ⟨trivial, trivial⟩ ?_
        refine gv_icmp_ne (t := 220) hD rfl rfl ⟨⟨by exact gz_m 200 (by omega), by exact gz_m 201 (by omega)⟩, ⟨by exact gz_m 202 (by omega), by exact gz_m 203 (by omega)⟩⟩ (fun c192 => ?_) (fun c192 => ?_)
        · show gv_X _ _ (220, [(0, .inr (.inr (some 39))), (1, .inr (.inl v1_13)), (3, .inl v3_13), (4, .inl v4_13)], [], sh, gc_h sh I11 J12 A)
          refine gv_pick [0, 1, 3] rfl ?_
          exact L220 (by exact gz_m 204 (by omega)) e1_13 e2_76 (e3_76.trans (gs_fea_d (by exact gz_m 205 (by omega)) (by exact gz_m 206 (by omega)))) e4_76 (fun i hi => ⟨(rfl).trans (e6_76 i (by exact gz_m 207 (by omega))).1, (e6_76 i (by exact gz_m 208 (by omega))).2⟩) ⟨((e7_76.1)), ((e7_76.2.1)), ((e7_76.2.2.1)), ((e7_76.2.2.2.1)), (fun k => (e7_76.2.2.2.2.1 k)), (fun k => (e7_76.2.2.2.2.2.1 k)), (fun k => (e7_76.2.2.2.2.2.2.1 k)), (fun k => (e7_76.2.2.2.2.2.2.2 k))⟩
        · show gv_X _ _ (213, [(0, .inr (.inr (some 39))), (1, .inr (.inl v1_13)), (3, .inl v3_13), (4, .inl v4_13)], [], sh, gc_h sh I11 J12 A)
          refine gv_run 3 true hD (pc' := 216) (lv' := [(0, .inr (.inr (some 39))), (1, .inr (.inl v1_13)), (3, .inl v3_13), (4, .inl v4_13)]) (st' := [.inl v3_13, .inl 5, .inr (.inr (some 39))]) (h' := gc_h sh I11 J12 A) (C := (((True ∧ True) ∧ True) ∧ True)) rfl ⟨⟨⟨trivial, trivial⟩, trivial⟩, trivial⟩ ?_
          obtain ⟨r193, h193, E193, P193⟩ := d_X6_wrong_p (ws0 := ws0) (tb := tb) hws htb sh ro I11 J12 A hI11  5 v3_13 hb   ⟨by exact gz_m 209 (by omega), by exact gz_m 210 (by omega)⟩ ⟨by exact gz_m 211 (by omega), by exact gz_m 212 (by omega)⟩  
          obtain ⟨I194, J195, rfl, hI194, g193, k193, ⟨z193, rfl, q193⟩⟩ := P193
          have FI194 := gc_frc (W := fun q j => (q = 39 ∧ j = 3) ∨ (q = 39 ∧ j = 4) ∨ (q = 23 ∧ j = 5) ∨ (q = 23 ∧ j = 6) ∨ (q = 23 ∧ j = 7) ∨ (q = 23 ∧ j = 8) ∨ q = (t + 5) ∨ q = (t + 6) ∨ (q = (t + 3) ∧ j = 1) ∨ (q = (t + 1) ∧ j = 1)) (V := fun q j => (q = 39 ∧ j = 3) ∨ (q = 39 ∧ j = 4)) FI11 (fun q j h => (h.elim (fun h => (Or.inl h)) (fun h => (Or.inr (Or.inl h))))) g193
          have t196 := (g193 23 1).resolve_left (fun h => h.elim (fun h => absurd h.2 (gz_ne rfl)) (fun h => absurd h.2 (gz_ne rfl)))
          have t197 := (g193 23 5).resolve_left (fun h => h.elim (fun h => absurd h.2 (gz_ne rfl)) (fun h => absurd h.2 (gz_ne rfl)))
          have t198 := (g193 23 6).resolve_left (fun h => h.elim (fun h => absurd h.2 (gz_ne rfl)) (fun h => absurd h.2 (gz_ne rfl)))
          have t199 := (g193 23 7).resolve_left (fun h => h.elim (fun h => absurd h.2 (gz_ne rfl)) (fun h => absurd h.2 (gz_ne rfl)))
          have t200 := (g193 (t + 3) 1).resolve_left (fun h => h.elim (fun h => absurd h.2 (gz_ne rfl)) (fun h => absurd h.2 (gz_ne rfl)))
          have t201 := (g193 (t + 1) 1).resolve_left (fun h => h.elim (fun h => absurd h.2 (gz_ne rfl)) (fun h => absurd h.2 (gz_ne rfl)))
          have t202 := (g193 39 5).resolve_left (fun h => h.elim (fun h => absurd h.2 (gz_ne rfl)) (fun h => absurd h.2 (gz_ne rfl)))
          have t203 := (g193 1 18).resolve_left (fun h => h.elim (fun h => absurd h.2 (gz_ne rfl)) (fun h => absurd h.2 (gz_ne rfl)))
          have t204 := (g193 39 2).resolve_left (fun h => h.elim (fun h => absurd h.2 (gz_ne rfl)) (fun h => absurd h.2 (gz_ne rfl)))
          obtain rfl : J12 = J195 := funext fun q => funext fun j => ((k193 q j).resolve_left id).symm
          have KLT_I194 := gc_LT_fr KLT_I11 ((g193 23 5).resolve_left (fun h => h.elim (fun h => absurd h.2 (gz_ne rfl)) (fun h => absurd h.2 (gz_ne rfl)))) ((g193 23 6).resolve_left (fun h => h.elim (fun h => absurd h.2 (gz_ne rfl)) (fun h => absurd h.2 (gz_ne rfl)))) ((g193 23 7).resolve_left (fun h => h.elim (fun h => absurd h.2 (gz_ne rfl)) (fun h => absurd h.2 (gz_ne rfl)))) (fun k => (g193 24 k).resolve_left (fun h => h.elim (fun h => absurd h.1 (gz_ne rfl)) (fun h => absurd h.1 (gz_ne rfl))))
          have KTK_I194 := gc_TK_fr KTK_I11 ((g193 23 1).resolve_left (fun h => h.elim (fun h => absurd h.2 (gz_ne rfl)) (fun h => absurd h.2 (gz_ne rfl)))) ((g193 23 5).resolve_left (fun h => h.elim (fun h => absurd h.2 (gz_ne rfl)) (fun h => absurd h.2 (gz_ne rfl)))) ((g193 23 6).resolve_left (fun h => h.elim (fun h => absurd h.2 (gz_ne rfl)) (fun h => absurd h.2 (gz_ne rfl)))) ((g193 23 7).resolve_left (fun h => h.elim (fun h => absurd h.2 (gz_ne rfl)) (fun h => absurd h.2 (gz_ne rfl))))
          have A205 := gc_AT_I e1_13 ((g193 23 1).resolve_left (fun h => h.elim (fun h => absurd h.2 (gz_ne rfl)) (fun h => absurd h.2 (gz_ne rfl)))) ((g193 23 5).resolve_left (fun h => h.elim (fun h => absurd h.2 (gz_ne rfl)) (fun h => absurd h.2 (gz_ne rfl)))) ((g193 23 6).resolve_left (fun h => h.elim (fun h => absurd h.2 (gz_ne rfl)) (fun h => absurd h.2 (gz_ne rfl)))) ((g193 23 7).resolve_left (fun h => h.elim (fun h => absurd h.2 (gz_ne rfl)) (fun h => absurd h.2 (gz_ne rfl)))) ((g193 23 8).resolve_left (fun h => h.elim (fun h => absurd h.2 (gz_ne rfl)) (fun h => absurd h.2 (gz_ne rfl)))) (fun k => (g193 24 k).resolve_left (fun h => h.elim (fun h => absurd h.1 (gz_ne rfl)) (fun h => absurd h.1 (gz_ne rfl))))
          have t206 := gc_AT_l A205
          refine gv_callV hD rfl (As := [.inl 5, .inl v3_13]) (st := []) rfl B_39 S_39 rfl (gc_lV6 hws rfl) (Nat.le_of_ble_eq_true rfl) (gz_Ev_mono (d := 1) (by decide) E193) ?_
          show gv_X _ _ (219, [(0, .inr (.inr (some 39))), (1, .inr (.inl v1_13)), (3, .inl v3_13), (4, .inl v4_13)], [.inl z193], sh, gc_h sh I194 J12 A)
          exact gv_zret hD rfl (by exact gz_m 213 (by omega)) ⟨I194, J12, rfl, hI194, FI194, FJ12, KLT_I194, KTK_I194, ⟨_, rfl, by exact gz_m 214 (by omega), by exact gz_m 215 (by omega), by exact gz_m 216 (by omega), by exact gz_m 217 (by omega), by exact gz_m 218 (by omega), (Or.inr ⟨by exact gz_m 219 (by omega), by first | (exfalso; exact gz_m 220 (by omega)) | (rw [e3_76]; unfold gs_fea1; (repeat first | rw [if_pos (by exact gz_m 221 (by omega))] | rw [if_neg (by exact gz_m 222 (by omega))]); exact ⟨by exact gz_m 223 (by omega), by exact gz_m 224 (by omega), (((g193 (t + 1) 1).resolve_left (by exact gz_m 225 (by omega))).trans (e7_76.1)), (((g193 (t + 3) 1).resolve_left (by exact gz_m 226 (by omega))).trans (e7_76.2.1)), fun j => ⟨(e7_76.2.2.2.2.1 j), (e7_76.2.2.2.2.2.1 j), (((g193 (t + 5) j).resolve_left (by exact gz_m 227 (by omega))).trans (e7_76.2.2.2.2.2.2.1 j)), (((g193 (t + 6) j).resolve_left (by exact gz_m 228 (by omega))).trans (e7_76.2.2.2.2.2.2.2 j))⟩⟩)⟩)⟩⟩
    refine gv_run 2 true hD (pc' := 68) (lv' := [(0, .inr (.inr (some 39))), (1, .inr (.inl v1_13)), (3, .inl v3_13), (4, .inl v4_13), (5, .inl v5_13)]) (st' := [.inl 6, .inl v5_13]) (h' := gc_h sh I11 J12 A) (C := ((True ∧ True) ∧ True)) rfl ⟨⟨trivial, trivial⟩, trivial⟩ ?_
    refine gv_icmp_gt (t := 195) hD rfl rfl ⟨⟨by exact gz_m 229 (by omega), by exact gz_m 230 (by omega)⟩, ⟨by exact gz_m 231 (by omega), by exact gz_m 232 (by omega)⟩⟩ (fun c207 => ?_) (fun c207 => ?_)
    · show gv_X _ _ (195, [(0, .inr (.inr (some 39))), (1, .inr (.inl v1_13)), (3, .inl v3_13), (4, .inl v4_13), (5, .inl v5_13)], [], sh, gc_h sh I11 J12 A)
      refine gv_pick [0, 1, 2, 3] rfl ?_
      exact L195 (by exact gz_m 233 (by omega)) e1_13 e2_13 (by first | (exfalso; exact gz_m 234 (by omega)) | (rw [e3_13, e4_13, gs_vl_e e6_13 (by exact gz_m 235 (by omega))])) (by first | (exfalso; exact gz_m 236 (by omega)) | (rw [e5_13, gs_cn_e (by exact gz_m 237 (by omega))]; exact gz_m 238 (by omega))) e7_13 (fun i hi => ⟨(rfl).trans (e9_13 i (by exact gz_m 239 (by omega))).1, (e9_13 i (by exact gz_m 240 (by omega))).2⟩) ⟨((e10_13.1)), ((e10_13.2.1)), ((e10_13.2.2.1)), ((e10_13.2.2.2.1)), (fun k => (e10_13.2.2.2.2.1 k)), (fun k => (e10_13.2.2.2.2.2.1 k)), (fun k => (e10_13.2.2.2.2.2.2.1 k)), (fun k => (e10_13.2.2.2.2.2.2.2 k))⟩
    · show gv_X _ _ (71, [(0, .inr (.inr (some 39))), (1, .inr (.inl v1_13)), (3, .inl v3_13), (4, .inl v4_13), (5, .inl v5_13)], [], sh, gc_h sh I11 J12 A)
      refine gv_run 1 true hD (pc' := 72) (lv' := [(0, .inr (.inr (some 39))), (1, .inr (.inl v1_13)), (3, .inl v3_13), (4, .inl v4_13), (5, .inl v5_13)]) (st' := [.inr (.inr (some 39))]) (h' := gc_h sh I11 J12 A) (C := (True ∧ True)) rfl ⟨trivial, trivial⟩ ?_
      refine gv_get hD rfl rfl S_39 ⟨by decide, B_39⟩ (gc_hA S_39 rfl A_39_1) ?_
      show gv_X _ _ (75, [(0, .inr (.inr (some 39))), (1, .inr (.inl v1_13)), (3, .inl v3_13), (4, .inl v4_13), (5, .inl v5_13)], [.inr (.inr (some 23))], sh, gc_h sh I11 J12 A)
      have f208 := (gc_b_3_7 hI11 R_23)
      refine gv_get hD rfl rfl S_23 ⟨by decide, B_23⟩ (gc_hI S_23 rfl) ?_
      show gv_X _ _ (78, [(0, .inr (.inr (some 39))), (1, .inr (.inl v1_13)), (3, .inl v3_13), (4, .inl v4_13), (5, .inl v5_13)], [.inl (I11 23 7)], sh, gc_h sh I11 J12 A)
      refine gv_run 1 true hD (pc' := 79) (lv' := [(0, .inr (.inr (some 39))), (1, .inr (.inl v1_13)), (3, .inl v3_13), (4, .inl v4_13), (5, .inl v5_13)]) (st' := [.inl 1, .inl (I11 23 7)]) (h' := gc_h sh I11 J12 A) (C := (True ∧ True)) rfl ⟨trivial, trivial⟩ ?_
      refine gv_icmp_ne (t := 195) hD rfl rfl ⟨⟨by exact gz_m 241 (by omega), by exact gz_m 242 (by omega)⟩, ⟨by exact gz_m 243 (by omega), by exact gz_m 244 (by omega)⟩⟩ (fun c209 => ?_) (fun c209 => ?_)
      · show gv_X _ _ (195, [(0, .inr (.inr (some 39))), (1, .inr (.inl v1_13)), (3, .inl v3_13), (4, .inl v4_13), (5, .inl v5_13)], [], sh, gc_h sh I11 J12 A)
        refine gv_pick [0, 1, 2, 3] rfl ?_
        exact L195 (by exact gz_m 245 (by omega)) e1_13 e2_13 (by first | (exfalso; exact gz_m 246 (by omega)) | (rw [e3_13, e4_13, gs_vl_e e6_13 (by exact gz_m 247 (by omega))])) (by first | (exfalso; exact gz_m 248 (by omega)) | (rw [e5_13, gs_cn_e (by exact gz_m 249 (by omega))]; exact gz_m 250 (by omega))) e7_13 (fun i hi => ⟨(rfl).trans (e9_13 i (by exact gz_m 251 (by omega))).1, (e9_13 i (by exact gz_m 252 (by omega))).2⟩) ⟨((e10_13.1)), ((e10_13.2.1)), ((e10_13.2.2.1)), ((e10_13.2.2.2.1)), (fun k => (e10_13.2.2.2.2.1 k)), (fun k => (e10_13.2.2.2.2.2.1 k)), (fun k => (e10_13.2.2.2.2.2.2.1 k)), (fun k => (e10_13.2.2.2.2.2.2.2 k))⟩
      · show gv_X _ _ (82, [(0, .inr (.inr (some 39))), (1, .inr (.inl v1_13)), (3, .inl v3_13), (4, .inl v4_13), (5, .inl v5_13)], [], sh, gc_h sh I11 J12 A)
        refine gv_run 2 true hD (pc' := 86) (lv' := [(0, .inr (.inr (some 39))), (1, .inr (.inl v1_13)), (3, .inl v3_13), (4, .inl v4_13), (5, .inl v5_13)]) (st' := [.inl 6, .inl v4_13]) (h' := gc_h sh I11 J12 A) (C := ((True ∧ True) ∧ True)) rfl ⟨⟨trivial, trivial⟩, trivial⟩ ?_
        refine gv_icmp_ne (t := 102) hD rfl rfl ⟨⟨by exact gz_m 253 (by omega), by exact gz_m 254 (by omega)⟩, ⟨by exact gz_m 255 (by omega), by exact gz_m 256 (by omega)⟩⟩ (fun c210 => ?_) (fun c210 => ?_)
        · show gv_X _ _ (102, [(0, .inr (.inr (some 39))), (1, .inr (.inl v1_13)), (3, .inl v3_13), (4, .inl v4_13), (5, .inl v5_13)], [], sh, gc_h sh I11 J12 A)
          refine gv_run 2 true hD (pc' := 104) (lv' := [(0, .inr (.inr (some 39))), (1, .inr (.inl v1_13)), (3, .inl v3_13), (4, .inl v4_13), (5, .inl v5_13)]) (st' := [.inr (.inr (some 39)), .inr (.inr (some 39))]) (h' := gc_h sh I11 J12 A) (C := ((True ∧ True) ∧ True)) rfl ⟨⟨trivial, trivial⟩, trivial⟩ ?_
          refine gv_get hD rfl rfl S_39 ⟨by decide, B_39⟩ (gc_h5 (t := t) S_39 rfl (by exact gz_m 257 (by omega))) ?_
          show gv_X _ _ (107, [(0, .inr (.inr (some 39))), (1, .inr (.inl v1_13)), (3, .inl v3_13), (4, .inl v4_13), (5, .inl v5_13)], [.inr (.inr (some t)), .inr (.inr (some 39))], sh, gc_h sh I11 J12 A)
          refine gv_get hD rfl rfl S_t ⟨by decide, B_t⟩ (gc_hA S_t rfl A_t_1) ?_
          show gv_X _ _ (110, [(0, .inr (.inr (some 39))), (1, .inr (.inl v1_13)), (3, .inl v3_13), (4, .inl v4_13), (5, .inl v5_13)], [.inr (.inr (some (t + 3))), .inr (.inr (some 39))], sh, gc_h sh I11 J12 A)
          obtain ⟨r211, h211, E211, P211⟩ := d_X6_needNew_p (ws0 := ws0) (tb := tb) hws htb sh ro I11 J12 A hI11  48 10 β η p_13 (t + 3) hb h_t_3   e1_13 (by exact gz_m 258 (by omega)) 
          obtain ⟨I212, J213, rfl, hI212, g211, k211, ⟨z211, rfl, q211⟩⟩ := P211
          have FI212 := gc_frc (W := fun q j => (q = 39 ∧ j = 3) ∨ (q = 39 ∧ j = 4) ∨ (q = 23 ∧ j = 5) ∨ (q = 23 ∧ j = 6) ∨ (q = 23 ∧ j = 7) ∨ (q = 23 ∧ j = 8) ∨ q = (t + 5) ∨ q = (t + 6) ∨ (q = (t + 3) ∧ j = 1) ∨ (q = (t + 1) ∧ j = 1)) (V := fun q j => (q = 39 ∧ j = 3) ∨ (q = 39 ∧ j = 4)) FI11 (fun q j h => (h.elim (fun h => (Or.inl h)) (fun h => (Or.inr (Or.inl h))))) g211
          have t214 := (g211 23 1).resolve_left (fun h => h.elim (fun h => absurd h.2 (gz_ne rfl)) (fun h => absurd h.2 (gz_ne rfl)))
          have t215 := (g211 23 5).resolve_left (fun h => h.elim (fun h => absurd h.2 (gz_ne rfl)) (fun h => absurd h.2 (gz_ne rfl)))
          have t216 := (g211 23 6).resolve_left (fun h => h.elim (fun h => absurd h.2 (gz_ne rfl)) (fun h => absurd h.2 (gz_ne rfl)))
          have t217 := (g211 23 7).resolve_left (fun h => h.elim (fun h => absurd h.2 (gz_ne rfl)) (fun h => absurd h.2 (gz_ne rfl)))
          have t218 := (g211 (t + 3) 1).resolve_left (fun h => h.elim (fun h => absurd h.2 (gz_ne rfl)) (fun h => absurd h.2 (gz_ne rfl)))
          have t219 := (g211 (t + 1) 1).resolve_left (fun h => h.elim (fun h => absurd h.2 (gz_ne rfl)) (fun h => absurd h.2 (gz_ne rfl)))
          have t220 := (g211 39 5).resolve_left (fun h => h.elim (fun h => absurd h.2 (gz_ne rfl)) (fun h => absurd h.2 (gz_ne rfl)))
          have t221 := (g211 1 18).resolve_left (fun h => h.elim (fun h => absurd h.2 (gz_ne rfl)) (fun h => absurd h.2 (gz_ne rfl)))
          have t222 := (g211 39 2).resolve_left (fun h => h.elim (fun h => absurd h.2 (gz_ne rfl)) (fun h => absurd h.2 (gz_ne rfl)))
          obtain rfl : J12 = J213 := funext fun q => funext fun j => ((k211 q j).resolve_left id).symm
          have KLT_I212 := gc_LT_fr KLT_I11 ((g211 23 5).resolve_left (fun h => h.elim (fun h => absurd h.2 (gz_ne rfl)) (fun h => absurd h.2 (gz_ne rfl)))) ((g211 23 6).resolve_left (fun h => h.elim (fun h => absurd h.2 (gz_ne rfl)) (fun h => absurd h.2 (gz_ne rfl)))) ((g211 23 7).resolve_left (fun h => h.elim (fun h => absurd h.2 (gz_ne rfl)) (fun h => absurd h.2 (gz_ne rfl)))) (fun k => (g211 24 k).resolve_left (fun h => h.elim (fun h => absurd h.1 (gz_ne rfl)) (fun h => absurd h.1 (gz_ne rfl))))
          have KTK_I212 := gc_TK_fr KTK_I11 ((g211 23 1).resolve_left (fun h => h.elim (fun h => absurd h.2 (gz_ne rfl)) (fun h => absurd h.2 (gz_ne rfl)))) ((g211 23 5).resolve_left (fun h => h.elim (fun h => absurd h.2 (gz_ne rfl)) (fun h => absurd h.2 (gz_ne rfl)))) ((g211 23 6).resolve_left (fun h => h.elim (fun h => absurd h.2 (gz_ne rfl)) (fun h => absurd h.2 (gz_ne rfl)))) ((g211 23 7).resolve_left (fun h => h.elim (fun h => absurd h.2 (gz_ne rfl)) (fun h => absurd h.2 (gz_ne rfl))))
          have A223 := gc_AT_I e1_13 ((g211 23 1).resolve_left (fun h => h.elim (fun h => absurd h.2 (gz_ne rfl)) (fun h => absurd h.2 (gz_ne rfl)))) ((g211 23 5).resolve_left (fun h => h.elim (fun h => absurd h.2 (gz_ne rfl)) (fun h => absurd h.2 (gz_ne rfl)))) ((g211 23 6).resolve_left (fun h => h.elim (fun h => absurd h.2 (gz_ne rfl)) (fun h => absurd h.2 (gz_ne rfl)))) ((g211 23 7).resolve_left (fun h => h.elim (fun h => absurd h.2 (gz_ne rfl)) (fun h => absurd h.2 (gz_ne rfl)))) ((g211 23 8).resolve_left (fun h => h.elim (fun h => absurd h.2 (gz_ne rfl)) (fun h => absurd h.2 (gz_ne rfl)))) (fun k => (g211 24 k).resolve_left (fun h => h.elim (fun h => absurd h.1 (gz_ne rfl)) (fun h => absurd h.1 (gz_ne rfl))))
          have t224 := gc_AT_l A223
          refine gv_callV hD rfl (As := [.inr (.inr (some (t + 3)))]) (st := []) rfl B_39 S_39 rfl (gc_lV6 hws rfl) (Nat.le_of_ble_eq_true rfl) (gz_Ev_mono (d := 3) (by decide) E211) ?_
          show gv_X _ _ (113, [(0, .inr (.inr (some 39))), (1, .inr (.inl v1_13)), (3, .inl v3_13), (4, .inl v4_13), (5, .inl v5_13)], [.inl z211], sh, gc_h sh I212 J12 A)
          refine gv_if_ne (t := 118) hD rfl rfl ⟨by exact gz_m 259 (by omega), by exact gz_m 260 (by omega)⟩ (fun c225 => ?_) (fun c225 => ?_)
          · show gv_X _ _ (118, [(0, .inr (.inr (some 39))), (1, .inr (.inl v1_13)), (3, .inl v3_13), (4, .inl v4_13), (5, .inl v5_13)], [], sh, gc_h sh I212 J12 A)
            have u226 := gs_or1 q211.2.2.2 (by exact gz_m 261 (by omega))
            have L211 : gs_T β η p_13 = 1 → gc_fd (J12 ((t + 3) + 1)) (gs_M β η p_13) (Int.toNat (I11 (t + 3) 1)) = gs_lt Jr 21 (48 * Ir 0 6) (Ir 14 (Int.toNat (Ir 0 6))) (gs_rn β η p_13) := (fun h => by rw [show I11 (t + 3) 1 = I (t + 3) 1 from (e10_13.2.1), show J12 ((t + 3) + 1) = J ((t + 3) + 1) from funext fun j => (e10_13.2.2.2.2.2.1 j)]; exact gs_NA_lt x7 x6 h)
            have t227 := L211 (by exact gz_m 262 (by omega))
            refine gv_run 2 true hD (pc' := 121) (lv' := [(6, .inl 0), (0, .inr (.inr (some 39))), (1, .inr (.inl v1_13)), (3, .inl v3_13), (4, .inl v4_13), (5, .inl v5_13)]) (st' := []) (h' := gc_h sh I212 J12 A) (C := ((True ∧ True) ∧ True)) rfl ⟨⟨trivial, trivial⟩, trivial⟩ ?_
            refine gv_pick [1, 2, 3, 4, 5, 0] rfl ?_
            exact L121 _ I212 J12 0 p_13 (Nat.lt_succ_self _) hI212 FI212 FJ12 KLT_I212 KTK_I212 (by exact gz_m 263 (by omega)) A223 e6_13 (by exact gz_m 264 (by omega)) (by exact gz_m 265 (by omega)) (fun k hk => absurd hk (by exact gz_m 266 (by omega))) (fun i hi => ⟨(rfl).trans (e9_13 i (by exact gz_m 267 (by omega))).1, (e9_13 i (by exact gz_m 268 (by omega))).2⟩) ⟨((((g211 (t + 1) 1).resolve_left (by exact gz_m 269 (by omega))).trans (e10_13.1))), ((((g211 (t + 3) 1).resolve_left (by exact gz_m 270 (by omega))).trans (e10_13.2.1))), ((((g211 39 5).resolve_left (by exact gz_m 271 (by omega))).trans (e10_13.2.2.1))), ((((g211 1 18).resolve_left (by exact gz_m 272 (by omega))).trans (e10_13.2.2.2.1))), (fun k => (e10_13.2.2.2.2.1 k)), (fun k => (e10_13.2.2.2.2.2.1 k)), (fun k => (((g211 (t + 5) k).resolve_left (by exact gz_m 273 (by omega))).trans (e10_13.2.2.2.2.2.2.1 k))), (fun k => (((g211 (t + 6) k).resolve_left (by exact gz_m 274 (by omega))).trans (e10_13.2.2.2.2.2.2.2 k)))⟩
          · show gv_X _ _ (116, [(0, .inr (.inr (some 39))), (1, .inr (.inl v1_13)), (3, .inl v3_13), (4, .inl v4_13), (5, .inl v5_13)], [], sh, gc_h sh I212 J12 A)
            have u228 := gs_or0 q211.2.2.2 (by exact gz_m 275 (by omega))
            have L211 : gs_T β η p_13 = 1 → gc_fd (J12 ((t + 3) + 1)) (gs_M β η p_13) (Int.toNat (I11 (t + 3) 1)) = gs_lt Jr 21 (48 * Ir 0 6) (Ir 14 (Int.toNat (Ir 0 6))) (gs_rn β η p_13) := (fun h => by rw [show I11 (t + 3) 1 = I (t + 3) 1 from (e10_13.2.1), show J12 ((t + 3) + 1) = J ((t + 3) + 1) from funext fun j => (e10_13.2.2.2.2.2.1 j)]; exact gs_NA_lt x7 x6 h)
            refine gv_run 1 true hD (pc' := 117) (lv' := [(0, .inr (.inr (some 39))), (1, .inr (.inl v1_13)), (3, .inl v3_13), (4, .inl v4_13), (5, .inl v5_13)]) (st' := [.inl 0]) (h' := gc_h sh I212 J12 A) (C := (True ∧ True)) rfl ⟨trivial, trivial⟩ ?_
            exact gv_zret hD rfl (by exact gz_m 276 (by omega)) ⟨I212, J12, rfl, hI212, FI212, FJ12, KLT_I212, KTK_I212, ⟨_, rfl, by exact gz_m 277 (by omega), by exact gz_m 278 (by omega), by exact gz_m 279 (by omega), by exact gz_m 280 (by omega), by exact gz_m 281 (by omega), (Or.inr ⟨by exact gz_m 282 (by omega), by first | (exfalso; exact gz_m 283 (by omega)) | (rw [e3_13, e4_13, gs_vl_x e6_13 (by exact gz_m 284 (by omega)) (Or.inr (Or.inl (by have h9 := L211 (by exact gz_m 285 (by omega)); exact gz_m 286 (by omega))))]; unfold gs_fea1; (repeat first | rw [if_pos (by exact gz_m 287 (by omega))] | rw [if_neg (by exact gz_m 288 (by omega))]); exact ⟨by exact gz_m 289 (by omega), by exact gz_m 290 (by omega), (((g211 (t + 1) 1).resolve_left (by exact gz_m 291 (by omega))).trans (e10_13.1)), (((g211 (t + 3) 1).resolve_left (by exact gz_m 292 (by omega))).trans (e10_13.2.1)), fun j => ⟨(e10_13.2.2.2.2.1 j), (e10_13.2.2.2.2.2.1 j), (((g211 (t + 5) j).resolve_left (by exact gz_m 293 (by omega))).trans (e10_13.2.2.2.2.2.2.1 j)), (((g211 (t + 6) j).resolve_left (by exact gz_m 294 (by omega))).trans (e10_13.2.2.2.2.2.2.2 j))⟩⟩)⟩)⟩⟩
        · show gv_X _ _ (89, [(0, .inr (.inr (some 39))), (1, .inr (.inl v1_13)), (3, .inl v3_13), (4, .inl v4_13), (5, .inl v5_13)], [], sh, gc_h sh I11 J12 A)
          refine gv_run 3 true hD (pc' := 92) (lv' := [(0, .inr (.inr (some 39))), (1, .inr (.inl v1_13)), (3, .inl v3_13), (4, .inl v4_13), (5, .inl v5_13)]) (st' := [.inr (.inr (some 39)), .inl 5, .inr (.inr (some 39))]) (h' := gc_h sh I11 J12 A) (C := (((True ∧ True) ∧ True) ∧ True)) rfl ⟨⟨⟨trivial, trivial⟩, trivial⟩, trivial⟩ ?_
          refine gv_get hD rfl rfl S_39 ⟨by decide, B_39⟩ (gc_hA S_39 rfl A_39_1) ?_
          show gv_X _ _ (95, [(0, .inr (.inr (some 39))), (1, .inr (.inl v1_13)), (3, .inl v3_13), (4, .inl v4_13), (5, .inl v5_13)], [.inr (.inr (some 23)), .inl 5, .inr (.inr (some 39))], sh, gc_h sh I11 J12 A)
          have f229 := (gc_b_3_5 hI11 R_23)
          refine gv_get hD rfl rfl S_23 ⟨by decide, B_23⟩ (gc_hI S_23 rfl) ?_
          show gv_X _ _ (98, [(0, .inr (.inr (some 39))), (1, .inr (.inl v1_13)), (3, .inl v3_13), (4, .inl v4_13), (5, .inl v5_13)], [.inl (I11 23 5), .inl 5, .inr (.inr (some 39))], sh, gc_h sh I11 J12 A)
          obtain ⟨r230, h230, E230, P230⟩ := d_X6_wrong_p (ws0 := ws0) (tb := tb) hws htb sh ro I11 J12 A hI11  5 (I11 23 5) hb   ⟨by exact gz_m 295 (by omega), by exact gz_m 296 (by omega)⟩ ⟨by exact gz_m 297 (by omega), by exact gz_m 298 (by omega)⟩  
          obtain ⟨I231, J232, rfl, hI231, g230, k230, ⟨z230, rfl, q230⟩⟩ := P230
          have FI231 := gc_frc (W := fun q j => (q = 39 ∧ j = 3) ∨ (q = 39 ∧ j = 4) ∨ (q = 23 ∧ j = 5) ∨ (q = 23 ∧ j = 6) ∨ (q = 23 ∧ j = 7) ∨ (q = 23 ∧ j = 8) ∨ q = (t + 5) ∨ q = (t + 6) ∨ (q = (t + 3) ∧ j = 1) ∨ (q = (t + 1) ∧ j = 1)) (V := fun q j => (q = 39 ∧ j = 3) ∨ (q = 39 ∧ j = 4)) FI11 (fun q j h => (h.elim (fun h => (Or.inl h)) (fun h => (Or.inr (Or.inl h))))) g230
          have t233 := (g230 23 1).resolve_left (fun h => h.elim (fun h => absurd h.2 (gz_ne rfl)) (fun h => absurd h.2 (gz_ne rfl)))
          have t234 := (g230 23 5).resolve_left (fun h => h.elim (fun h => absurd h.2 (gz_ne rfl)) (fun h => absurd h.2 (gz_ne rfl)))
          have t235 := (g230 23 6).resolve_left (fun h => h.elim (fun h => absurd h.2 (gz_ne rfl)) (fun h => absurd h.2 (gz_ne rfl)))
          have t236 := (g230 23 7).resolve_left (fun h => h.elim (fun h => absurd h.2 (gz_ne rfl)) (fun h => absurd h.2 (gz_ne rfl)))
          have t237 := (g230 (t + 3) 1).resolve_left (fun h => h.elim (fun h => absurd h.2 (gz_ne rfl)) (fun h => absurd h.2 (gz_ne rfl)))
          have t238 := (g230 (t + 1) 1).resolve_left (fun h => h.elim (fun h => absurd h.2 (gz_ne rfl)) (fun h => absurd h.2 (gz_ne rfl)))
          have t239 := (g230 39 5).resolve_left (fun h => h.elim (fun h => absurd h.2 (gz_ne rfl)) (fun h => absurd h.2 (gz_ne rfl)))
          have t240 := (g230 1 18).resolve_left (fun h => h.elim (fun h => absurd h.2 (gz_ne rfl)) (fun h => absurd h.2 (gz_ne rfl)))
          have t241 := (g230 39 2).resolve_left (fun h => h.elim (fun h => absurd h.2 (gz_ne rfl)) (fun h => absurd h.2 (gz_ne rfl)))
          obtain rfl : J12 = J232 := funext fun q => funext fun j => ((k230 q j).resolve_left id).symm
          have KLT_I231 := gc_LT_fr KLT_I11 ((g230 23 5).resolve_left (fun h => h.elim (fun h => absurd h.2 (gz_ne rfl)) (fun h => absurd h.2 (gz_ne rfl)))) ((g230 23 6).resolve_left (fun h => h.elim (fun h => absurd h.2 (gz_ne rfl)) (fun h => absurd h.2 (gz_ne rfl)))) ((g230 23 7).resolve_left (fun h => h.elim (fun h => absurd h.2 (gz_ne rfl)) (fun h => absurd h.2 (gz_ne rfl)))) (fun k => (g230 24 k).resolve_left (fun h => h.elim (fun h => absurd h.1 (gz_ne rfl)) (fun h => absurd h.1 (gz_ne rfl))))
          have KTK_I231 := gc_TK_fr KTK_I11 ((g230 23 1).resolve_left (fun h => h.elim (fun h => absurd h.2 (gz_ne rfl)) (fun h => absurd h.2 (gz_ne rfl)))) ((g230 23 5).resolve_left (fun h => h.elim (fun h => absurd h.2 (gz_ne rfl)) (fun h => absurd h.2 (gz_ne rfl)))) ((g230 23 6).resolve_left (fun h => h.elim (fun h => absurd h.2 (gz_ne rfl)) (fun h => absurd h.2 (gz_ne rfl)))) ((g230 23 7).resolve_left (fun h => h.elim (fun h => absurd h.2 (gz_ne rfl)) (fun h => absurd h.2 (gz_ne rfl))))
          have A242 := gc_AT_I e1_13 ((g230 23 1).resolve_left (fun h => h.elim (fun h => absurd h.2 (gz_ne rfl)) (fun h => absurd h.2 (gz_ne rfl)))) ((g230 23 5).resolve_left (fun h => h.elim (fun h => absurd h.2 (gz_ne rfl)) (fun h => absurd h.2 (gz_ne rfl)))) ((g230 23 6).resolve_left (fun h => h.elim (fun h => absurd h.2 (gz_ne rfl)) (fun h => absurd h.2 (gz_ne rfl)))) ((g230 23 7).resolve_left (fun h => h.elim (fun h => absurd h.2 (gz_ne rfl)) (fun h => absurd h.2 (gz_ne rfl)))) ((g230 23 8).resolve_left (fun h => h.elim (fun h => absurd h.2 (gz_ne rfl)) (fun h => absurd h.2 (gz_ne rfl)))) (fun k => (g230 24 k).resolve_left (fun h => h.elim (fun h => absurd h.1 (gz_ne rfl)) (fun h => absurd h.1 (gz_ne rfl))))
          have t243 := gc_AT_l A242
          refine gv_callV hD rfl (As := [.inl 5, .inl (I11 23 5)]) (st := []) rfl B_39 S_39 rfl (gc_lV6 hws rfl) (Nat.le_of_ble_eq_true rfl) (gz_Ev_mono (d := 1) (by decide) E230) ?_
          show gv_X _ _ (101, [(0, .inr (.inr (some 39))), (1, .inr (.inl v1_13)), (3, .inl v3_13), (4, .inl v4_13), (5, .inl v5_13)], [.inl z230], sh, gc_h sh I231 J12 A)
          exact gv_zret hD rfl (by exact gz_m 299 (by omega)) ⟨I231, J12, rfl, hI231, FI231, FJ12, KLT_I231, KTK_I231, ⟨_, rfl, by exact gz_m 300 (by omega), by exact gz_m 301 (by omega), by exact gz_m 302 (by omega), by exact gz_m 303 (by omega), by exact gz_m 304 (by omega), (Or.inr ⟨by exact gz_m 305 (by omega), by first | (exfalso; exact gz_m 306 (by omega)) | (rw [e3_13, e4_13, gs_vl_x e6_13 (by exact gz_m 307 (by omega)) (Or.inl (by exact gz_m 308 (by omega)))]; unfold gs_fea1; (repeat first | rw [if_pos (by exact gz_m 309 (by omega))] | rw [if_neg (by exact gz_m 310 (by omega))]); exact ⟨by exact gz_m 311 (by omega), by exact gz_m 312 (by omega), (((g230 (t + 1) 1).resolve_left (by exact gz_m 313 (by omega))).trans (e10_13.1)), (((g230 (t + 3) 1).resolve_left (by exact gz_m 314 (by omega))).trans (e10_13.2.1)), fun j => ⟨(e10_13.2.2.2.2.1 j), (e10_13.2.2.2.2.2.1 j), (((g230 (t + 5) j).resolve_left (by exact gz_m 315 (by omega))).trans (e10_13.2.2.2.2.2.2.1 j)), (((g230 (t + 6) j).resolve_left (by exact gz_m 316 (by omega))).trans (e10_13.2.2.2.2.2.2.2 j))⟩⟩)⟩)⟩⟩
set_option maxHeartbeats 8000000 in
set_option maxRecDepth 100000 in
theorem d_X6_readFeature_p {ws0 : List Cond} {tb : String → gz_T} (hws : gc_Ws ws0) (htb : gc_tbs tb) (sh : gz_Sh) (ro : Nat → Nat) (I : gr_I) (J : gr_J) (A : gc_A) (hI : gc_Inv ro I) (t : Nat) (β : Int → Int) (η : Int) (p9 : Int) (Ir : gr_I) (Jr : gr_J)  (hb : gc_Base sh ro A) (h_t : gc_isTongue sh ro A t) (G_t : 144 ≤ t)  (x0 : I (t + 3) 1 ≤ 6 * I (t + 1) 1) (x1 : gc_AT β η p9 23 I J) (x2 : 0 ≤ p9) (x3 : I 1 18 = 0) (x4 : I (t + 1) 1 = Ir 13 (Int.toNat (Ir 0 6))) (x5 : gs_NA (I (t + 1) 1) (J (t + 2)) (fun k => Jr 20 (Int.toNat (8 * Ir 0 6 + (k : Int))))) (x6 : I (t + 3) 1 = Ir 14 (Int.toNat (Ir 0 6))) (x7 : gs_NA (I (t + 3) 1) (J (t + 4)) (fun k => Jr 21 (Int.toNat (48 * Ir 0 6 + (k : Int))))) (x8 : I 39 2 = (t : Int)) (KLT_I : gc_LT I) (KTK_I : gc_TK I) : ∃ r h', gz_Ev ws0 tb 5 (yX6_readFeature, cX6_readFeature, 7, (some .boolean)) [.inr (.inr (some 39))] sh (gc_h sh I J A) r sh h' 0 0 ∧ (∃ (I' : gr_I) (J' : gr_J), h' = gc_h sh I' J' A ∧ gc_Inv ro I' ∧ (∀ q j : Nat, ((q = 39 ∧ j = 3) ∨ (q = 39 ∧ j = 4) ∨ (q = 23 ∧ j = 5) ∨ (q = 23 ∧ j = 6) ∨ (q = 23 ∧ j = 7) ∨ (q = 23 ∧ j = 8) ∨ q = (t + 5) ∨ q = (t + 6) ∨ (q = (t + 3) ∧ j = 1) ∨ (q = (t + 1) ∧ j = 1)) ∨ I' q j = I q j) ∧ (∀ q j : Nat, ((q = 23 ∧ j = 9) ∨ q = 42 ∨ q = (t + 4) ∨ q = (t + 2)) ∨ J' q j = J q j) ∧ gc_LT I' ∧ gc_TK I' ∧ (∃ z : Int, r = some (.inl z) ∧ 0 ≤ z ∧ z ≤ 1 ∧ (I' 23 1 = I 23 1) ∧ (I 23 5 ≤ I' 23 5) ∧ (I' (t + 3) 1 ≤ 6 * I' (t + 1) 1) ∧ (gs_Or z (0 ≤ (gs_fea β η Ir Jr (I 39 5) p9) ∧ gc_AT β η (gs_fea β η Ir Jr (I 39 5) p9) 23 I' J' ∧ gc_PU (t + 1) 8 (gs_M β η p9) I J I' J' ∧ I (t + 1) 1 < 8 ∧ gs_Cfv (fun i => gs_M β η (gs_nx β η i (gs_need β η 61 (gs_X β η p9)))) (Int.toNat (gs_cn β η 7 (gs_need β η 61 (gs_X β η p9)))) t I J I' J') ((gs_fea β η Ir Jr (I 39 5) p9) < 0 ∧ I' 39 4 = -1 - (gs_fea β η Ir Jr (I 39 5) p9) ∧ I' (t + 1) 1 = I (t + 1) 1 ∧ I' (t + 3) 1 = I (t + 3) 1 ∧ ∀ j, J' (t + 2) j = J (t + 2) j ∧ J' (t + 4) j = J (t + 4) j ∧ I' (t + 5) j = I (t + 5) j ∧ I' (t + 6) j = I (t + 6) j)))) := by
  have FI : ∀ q j : Nat, ((q = 39 ∧ j = 3) ∨ (q = 39 ∧ j = 4) ∨ (q = 23 ∧ j = 5) ∨ (q = 23 ∧ j = 6) ∨ (q = 23 ∧ j = 7) ∨ (q = 23 ∧ j = 8) ∨ q = (t + 5) ∨ q = (t + 6) ∨ (q = (t + 3) ∧ j = 1) ∨ (q = (t + 1) ∧ j = 1)) ∨ I q j = I q j := fun _ _ => Or.inr rfl
  have FJ : ∀ q j : Nat, ((q = 23 ∧ j = 9) ∨ q = 42 ∨ q = (t + 4) ∨ q = (t + 2)) ∨ J q j = J q j := fun _ _ => Or.inr rfl
  have A_39_1 : A 39 1 = some 23 := gc_bA_39_1 hb
  have A_39_11 : A 39 11 = some 42 := gc_bA_39_11 hb
  have B_23 : 23 < 1000000 := by decide
  have B_39 : 39 < 1000000 := by decide
  have B_42 : 42 < 1000000 := by decide
  have R_1 : ro 1 = 22 := gc_bR_1 hb
  have R_23 : ro 23 = 3 := gc_bR_23 hb
  have R_39 : ro 39 = 42 := gc_bR_39 hb
  have S_23 : sh[23]? = some (false, 9, 10) := gc_bS_23 hb
  have S_39 : sh[39]? = some (false, 6, 19) := gc_bS_39 hb
  have S_42 : sh[42]? = some (true, 2, 6) := gc_bS_42 hb
  obtain ⟨S_t, R_t, B_t, A_t_0, h_t_1, A_t_1, h_t_3, A_t_2, S_t_5, R_t_5, B_t_5, A_t_3, S_t_6, R_t_6, B_t_6, A_t_4, h_t_7, A_t_5, S_t_9, R_t_9, B_t_9, A_t_7, S_t_10, R_t_10, B_t_10, A_t_8, h_t_11, A_t_9, S_t_13, R_t_13, B_t_13, A_t_10, S_t_14, R_t_14, B_t_14, A_t_12, S_t_15, R_t_15, B_t_15, A_t_14, S_t_16, R_t_16, B_t_16, A_t_15, h_t_17⟩ := id h_t
  obtain ⟨S_t_1, R_t_1, B_t_1, A_t_1_0, S_t_1_1, R_t_1_1, B_t_1_1, Q0_t_1, Q1_t_1, Q2_t_1⟩ := id h_t_1
  obtain ⟨S_t_3, R_t_3, B_t_3, A_t_3_0, S_t_3_1, R_t_3_1, B_t_3_1, Q0_t_3, Q1_t_3, Q2_t_3⟩ := id h_t_3
  obtain ⟨S_t_7, R_t_7, B_t_7, A_t_7_0, S_t_7_1, R_t_7_1, B_t_7_1, Q0_t_7, Q1_t_7, Q2_t_7⟩ := id h_t_7
  obtain ⟨S_t_11, R_t_11, B_t_11, A_t_11_0, S_t_11_1, R_t_11_1, B_t_11_1, Q0_t_11, Q1_t_11, Q2_t_11⟩ := id h_t_11
  obtain ⟨S_t_17, R_t_17, B_t_17, A_t_17_0, S_20, R_20, B_20, A_t_17_1, S_t_17_1, R_t_17_1, B_t_17_1, A_t_17_2, S_t_17_2, R_t_17_2, B_t_17_2, A_t_17_3, S_t_17_3, R_t_17_3, B_t_17_3, A_t_17_4, S_t_17_4, R_t_17_4, B_t_17_4, A_t_17_5, S_t_17_5, R_t_17_5, B_t_17_5, S_t_17_6, R_t_17_6, B_t_17_6, S_t_17_7, R_t_17_7, B_t_17_7⟩ := id h_t_17
  have hD : gv_D (gc_E6 ws0 tb 4 (yX6_readFeature, cX6_readFeature, 7, (some .boolean)) kX6_readFeature) := gq_of oX6_readFeature
  refine gc_ev6 (d := 4) (l := kX6_readFeature) (Po := fun r h' => (∃ (I' : gr_I) (J' : gr_J), h' = gc_h sh I' J' A ∧ gc_Inv ro I' ∧ (∀ q j : Nat, ((q = 39 ∧ j = 3) ∨ (q = 39 ∧ j = 4) ∨ (q = 23 ∧ j = 5) ∨ (q = 23 ∧ j = 6) ∨ (q = 23 ∧ j = 7) ∨ (q = 23 ∧ j = 8) ∨ q = (t + 5) ∨ q = (t + 6) ∨ (q = (t + 3) ∧ j = 1) ∨ (q = (t + 1) ∧ j = 1)) ∨ I' q j = I q j) ∧ (∀ q j : Nat, ((q = 23 ∧ j = 9) ∨ q = 42 ∨ q = (t + 4) ∨ q = (t + 2)) ∨ J' q j = J q j) ∧ gc_LT I' ∧ gc_TK I' ∧ (∃ z : Int, r = some (.inl z) ∧ 0 ≤ z ∧ z ≤ 1 ∧ (I' 23 1 = I 23 1) ∧ (I 23 5 ≤ I' 23 5) ∧ (I' (t + 3) 1 ≤ 6 * I' (t + 1) 1) ∧ (gs_Or z (0 ≤ (gs_fea β η Ir Jr (I 39 5) p9) ∧ gc_AT β η (gs_fea β η Ir Jr (I 39 5) p9) 23 I' J' ∧ gc_PU (t + 1) 8 (gs_M β η p9) I J I' J' ∧ I (t + 1) 1 < 8 ∧ gs_Cfv (fun i => gs_M β η (gs_nx β η i (gs_need β η 61 (gs_X β η p9)))) (Int.toNat (gs_cn β η 7 (gs_need β η 61 (gs_X β η p9)))) t I J I' J') ((gs_fea β η Ir Jr (I 39 5) p9) < 0 ∧ I' 39 4 = -1 - (gs_fea β η Ir Jr (I 39 5) p9) ∧ I' (t + 1) 1 = I (t + 1) 1 ∧ I' (t + 3) 1 = I (t + 3) 1 ∧ ∀ j, J' (t + 2) j = J (t + 2) j ∧ J' (t + 4) j = J (t + 4) j ∧ I' (t + 5) j = I (t + 5) j ∧ I' (t + 6) j = I (t + 6) j))))) htb rfl (Nat.le_of_ble_eq_true rfl) ?_
  have N_23__t_1 : ¬ (23 = (t + 1)) := by exact gz_m 0 (by omega)
  have N_t_3__t_1 : ¬ ((t + 3) = (t + 1)) := by exact gz_m 1 (by omega)
  have N_24__t_1 : ¬ (24 = (t + 1)) := by exact gz_m 2 (by omega)
  have N_23__t_2 : ¬ (23 = (t + 2)) := by exact gz_m 3 (by omega)
  have N_23__t_5 : ¬ (23 = (t + 5)) := by exact gz_m 4 (by omega)
  have N_t_3__t_5 : ¬ ((t + 3) = (t + 5)) := by exact gz_m 5 (by omega)
  have N_t_1__t_5 : ¬ ((t + 1) = (t + 5)) := by exact gz_m 6 (by omega)
  have N_39__t_5 : ¬ (39 = (t + 5)) := by exact gz_m 7 (by omega)
  have N_1__t_5 : ¬ (1 = (t + 5)) := by exact gz_m 8 (by omega)
  have N_24__t_5 : ¬ (24 = (t + 5)) := by exact gz_m 9 (by omega)
  have N_23__t_6 : ¬ (23 = (t + 6)) := by exact gz_m 10 (by omega)
  have N_t_3__t_6 : ¬ ((t + 3) = (t + 6)) := by exact gz_m 11 (by omega)
  have N_t_1__t_6 : ¬ ((t + 1) = (t + 6)) := by exact gz_m 12 (by omega)
  have N_39__t_6 : ¬ (39 = (t + 6)) := by exact gz_m 13 (by omega)
  have N_1__t_6 : ¬ (1 = (t + 6)) := by exact gz_m 14 (by omega)
  have N_24__t_6 : ¬ (24 = (t + 6)) := by exact gz_m 15 (by omega)
  have N_23__t_3 : ¬ (23 = (t + 3)) := by exact gz_m 16 (by omega)
  have N_t_1__t_3 : ¬ ((t + 1) = (t + 3)) := by exact gz_m 17 (by omega)
  have N_24__t_3 : ¬ (24 = (t + 3)) := by exact gz_m 18 (by omega)
  have N_23__t_4 : ¬ (23 = (t + 4)) := by exact gz_m 19 (by omega)
  have t1 := gc_TK_mo KTK_I
  have f2 := (gc_b_3_1 hI R_23)
  have f3 := (gc_b_3_5 hI R_23)
  have f4 := (gc_b_3_6 hI R_23)
  have f5 := (gc_b_3_7 hI R_23)
  have f6 := (show 0 ≤ I (t + 3) 1 ∧ I (t + 3) 1 ≤ 48 from gc_in2 hI R_t_3 rfl rfl rfl)
  have f7 := (show 0 ≤ I (t + 1) 1 ∧ I (t + 1) 1 ≤ 8 from gc_in2 hI R_t_1 rfl rfl rfl)
  have f8 := (gc_b_42_5 hI R_39)
  have f9 := (gc_b_22_18 hI R_1)
  have f10 := (gc_b_42_2 hI R_39)
  have tAT := gc_AT_l x1
  have L64 : ∀ (n9 : Nat) (I11 : gr_I) (J12 : gr_J) (v1_13 : Int64) (v3_13 : Int) (v4_13 : Int) (v5_13 : Int) (p_13 : Int), (7 - v4_13).toNat < n9 → gc_Inv ro I11 → (∀ q j : Nat, ((q = 39 ∧ j = 3) ∨ (q = 39 ∧ j = 4) ∨ (q = 23 ∧ j = 5) ∨ (q = 23 ∧ j = 6) ∨ (q = 23 ∧ j = 7) ∨ (q = 23 ∧ j = 8) ∨ q = (t + 5) ∨ q = (t + 6) ∨ (q = (t + 3) ∧ j = 1) ∨ (q = (t + 1) ∧ j = 1)) ∨ I11 q j = I q j) → (∀ q j : Nat, ((q = 23 ∧ j = 9) ∨ q = 42 ∨ q = (t + 4) ∨ q = (t + 2)) ∨ J12 q j = J q j) → gc_LT I11 → gc_TK I11 → ((0 ≤ v3_13 ∧ v3_13 ≤ 1000) ∧ (0 ≤ v4_13 ∧ v4_13 ≤ 6) ∧ (0 ≤ v5_13 ∧ v5_13 ≤ 7) ∧ (0 ≤ p_13) ∧ (I11 23 1 = I 23 1) ∧ (I 23 5 ≤ I11 23 5) ∧ (I11 (t + 3) 1 ≤ 6 * I11 (t + 1) 1) ∧ (I11 39 2 = (t : Int))) → (gc_AT β η p_13 23 I11 J12) → (v1_13 = gs_M β η p9) → ((gs_fea β η Ir Jr (I 39 5) p9) = gs_fea1 β η Ir (I 39 5) (gs_need β η 61 (gs_X β η p9)) (gs_vl β η Ir Jr (gs_need β η 61 (gs_X β η p9)) 6 0)) → (gs_vl β η Ir Jr (gs_need β η 61 (gs_X β η p9)) 6 0 = gs_vl β η Ir Jr (gs_need β η 61 (gs_X β η p9)) (Int.toNat (6 - v4_13)) v4_13) → (gs_cn β η 7 (gs_need β η 61 (gs_X β η p9)) = v4_13 + gs_cn β η (Int.toNat (7 - v4_13)) p_13) → (p_13 = gs_nx β η (Int.toNat v4_13) (gs_need β η 61 (gs_X β η p9))) → (v3_13 = gs_A β η (gs_need β η 61 (gs_X β η p9))) → (v5_13 = v4_13) → (∀ i : Nat, i < Int.toNat v4_13 → J12 42 i = gs_M β η (gs_nx β η i (gs_need β η 61 (gs_X β η p9))) ∧ gs_T β η (gs_nx β η i (gs_need β η 61 (gs_X β η p9))) = 1) → ((I11 (t + 1) 1 = I (t + 1) 1) ∧ (I11 (t + 3) 1 = I (t + 3) 1) ∧ (I11 39 5 = I 39 5) ∧ (I11 1 18 = I 1 18) ∧ (∀ k, J12 (t + 2) k = J (t + 2) k) ∧ (∀ k, J12 (t + 4) k = J (t + 4) k) ∧ (∀ k, I11 (t + 5) k = I (t + 5) k) ∧ (∀ k, I11 (t + 6) k = I (t + 6) k)) → gv_X (gc_E6 ws0 tb 4 (yX6_readFeature, cX6_readFeature, 7, (some .boolean)) kX6_readFeature) (gv_Q cX6_readFeature (some .boolean) sh (fun r h' => (∃ (I' : gr_I) (J' : gr_J), h' = gc_h sh I' J' A ∧ gc_Inv ro I' ∧ (∀ q j : Nat, ((q = 39 ∧ j = 3) ∨ (q = 39 ∧ j = 4) ∨ (q = 23 ∧ j = 5) ∨ (q = 23 ∧ j = 6) ∨ (q = 23 ∧ j = 7) ∨ (q = 23 ∧ j = 8) ∨ q = (t + 5) ∨ q = (t + 6) ∨ (q = (t + 3) ∧ j = 1) ∨ (q = (t + 1) ∧ j = 1)) ∨ I' q j = I q j) ∧ (∀ q j : Nat, ((q = 23 ∧ j = 9) ∨ q = 42 ∨ q = (t + 4) ∨ q = (t + 2)) ∨ J' q j = J q j) ∧ gc_LT I' ∧ gc_TK I' ∧ (∃ z : Int, r = some (.inl z) ∧ 0 ≤ z ∧ z ≤ 1 ∧ (I' 23 1 = I 23 1) ∧ (I 23 5 ≤ I' 23 5) ∧ (I' (t + 3) 1 ≤ 6 * I' (t + 1) 1) ∧ (gs_Or z (0 ≤ (gs_fea β η Ir Jr (I 39 5) p9) ∧ gc_AT β η (gs_fea β η Ir Jr (I 39 5) p9) 23 I' J' ∧ gc_PU (t + 1) 8 (gs_M β η p9) I J I' J' ∧ I (t + 1) 1 < 8 ∧ gs_Cfv (fun i => gs_M β η (gs_nx β η i (gs_need β η 61 (gs_X β η p9)))) (Int.toNat (gs_cn β η 7 (gs_need β η 61 (gs_X β η p9)))) t I J I' J') ((gs_fea β η Ir Jr (I 39 5) p9) < 0 ∧ I' 39 4 = -1 - (gs_fea β η Ir Jr (I 39 5) p9) ∧ I' (t + 1) 1 = I (t + 1) 1 ∧ I' (t + 3) 1 = I (t + 3) 1 ∧ ∀ j, J' (t + 2) j = J (t + 2) j ∧ J' (t + 4) j = J (t + 4) j ∧ I' (t + 5) j = I (t + 5) j ∧ I' (t + 6) j = I (t + 6) j)))))) (64, [(0, .inr (.inr (some 39))), (1, .inr (.inl v1_13)), (3, .inl v3_13), (4, .inl v4_13), (5, .inl v5_13)], [], sh, gc_h sh I11 J12 A) := d_X6_readFeature_p_L64 (ws0 := ws0) (tb := tb) hws htb sh ro I J A hI t β η p9 Ir Jr hb h_t G_t x0 x1 x2 x3 x4 x5 x6 x7 x8 KLT_I KTK_I
  refine gv_run 2 true hD (pc' := 2) (lv' := [(0, .inr (.inr (some 39)))]) (st' := [.inr (.inr (some 39)), .inr (.inr (some 39))]) (h' := gc_h sh I J A) (C := ((True ∧ True) ∧ True)) rfl ⟨⟨trivial, trivial⟩, trivial⟩ ?_
  refine gv_get hD rfl rfl S_39 ⟨by decide, B_39⟩ (gc_h5 (t := t) S_39 rfl (by exact gz_m 317 (by omega))) ?_
  show gv_X _ _ (5, [(0, .inr (.inr (some 39)))], [.inr (.inr (some t)), .inr (.inr (some 39))], sh, gc_h sh I J A)
  refine gv_get hD rfl rfl S_t ⟨by decide, B_t⟩ (gc_hA S_t rfl A_t_0) ?_
  show gv_X _ _ (8, [(0, .inr (.inr (some 39)))], [.inr (.inr (some (t + 1))), .inr (.inr (some 39))], sh, gc_h sh I J A)
  obtain ⟨r244, h244, E244, P244⟩ := d_X6_needNew_p (ws0 := ws0) (tb := tb) hws htb sh ro I J A hI  8 6 β η p9 (t + 1) hb h_t_1   x1 (by exact gz_m 318 (by omega)) 
  obtain ⟨I245, J246, rfl, hI245, g244, k244, ⟨z244, rfl, q244⟩⟩ := P244
  have FI245 := gc_frc (W := fun q j => (q = 39 ∧ j = 3) ∨ (q = 39 ∧ j = 4) ∨ (q = 23 ∧ j = 5) ∨ (q = 23 ∧ j = 6) ∨ (q = 23 ∧ j = 7) ∨ (q = 23 ∧ j = 8) ∨ q = (t + 5) ∨ q = (t + 6) ∨ (q = (t + 3) ∧ j = 1) ∨ (q = (t + 1) ∧ j = 1)) (V := fun q j => (q = 39 ∧ j = 3) ∨ (q = 39 ∧ j = 4)) FI (fun q j h => (h.elim (fun h => (Or.inl h)) (fun h => (Or.inr (Or.inl h))))) g244
  have t247 := (g244 23 1).resolve_left (fun h => h.elim (fun h => absurd h.2 (gz_ne rfl)) (fun h => absurd h.2 (gz_ne rfl)))
  have t248 := (g244 23 5).resolve_left (fun h => h.elim (fun h => absurd h.2 (gz_ne rfl)) (fun h => absurd h.2 (gz_ne rfl)))
  have t249 := (g244 23 6).resolve_left (fun h => h.elim (fun h => absurd h.2 (gz_ne rfl)) (fun h => absurd h.2 (gz_ne rfl)))
  have t250 := (g244 23 7).resolve_left (fun h => h.elim (fun h => absurd h.2 (gz_ne rfl)) (fun h => absurd h.2 (gz_ne rfl)))
  have t251 := (g244 (t + 3) 1).resolve_left (fun h => h.elim (fun h => absurd h.2 (gz_ne rfl)) (fun h => absurd h.2 (gz_ne rfl)))
  have t252 := (g244 (t + 1) 1).resolve_left (fun h => h.elim (fun h => absurd h.2 (gz_ne rfl)) (fun h => absurd h.2 (gz_ne rfl)))
  have t253 := (g244 39 5).resolve_left (fun h => h.elim (fun h => absurd h.2 (gz_ne rfl)) (fun h => absurd h.2 (gz_ne rfl)))
  have t254 := (g244 1 18).resolve_left (fun h => h.elim (fun h => absurd h.2 (gz_ne rfl)) (fun h => absurd h.2 (gz_ne rfl)))
  have t255 := (g244 39 2).resolve_left (fun h => h.elim (fun h => absurd h.2 (gz_ne rfl)) (fun h => absurd h.2 (gz_ne rfl)))
  obtain rfl : J = J246 := funext fun q => funext fun j => ((k244 q j).resolve_left id).symm
  have KLT_I245 := gc_LT_fr KLT_I ((g244 23 5).resolve_left (fun h => h.elim (fun h => absurd h.2 (gz_ne rfl)) (fun h => absurd h.2 (gz_ne rfl)))) ((g244 23 6).resolve_left (fun h => h.elim (fun h => absurd h.2 (gz_ne rfl)) (fun h => absurd h.2 (gz_ne rfl)))) ((g244 23 7).resolve_left (fun h => h.elim (fun h => absurd h.2 (gz_ne rfl)) (fun h => absurd h.2 (gz_ne rfl)))) (fun k => (g244 24 k).resolve_left (fun h => h.elim (fun h => absurd h.1 (gz_ne rfl)) (fun h => absurd h.1 (gz_ne rfl))))
  have KTK_I245 := gc_TK_fr KTK_I ((g244 23 1).resolve_left (fun h => h.elim (fun h => absurd h.2 (gz_ne rfl)) (fun h => absurd h.2 (gz_ne rfl)))) ((g244 23 5).resolve_left (fun h => h.elim (fun h => absurd h.2 (gz_ne rfl)) (fun h => absurd h.2 (gz_ne rfl)))) ((g244 23 6).resolve_left (fun h => h.elim (fun h => absurd h.2 (gz_ne rfl)) (fun h => absurd h.2 (gz_ne rfl)))) ((g244 23 7).resolve_left (fun h => h.elim (fun h => absurd h.2 (gz_ne rfl)) (fun h => absurd h.2 (gz_ne rfl))))
  have A256 := gc_AT_I x1 ((g244 23 1).resolve_left (fun h => h.elim (fun h => absurd h.2 (gz_ne rfl)) (fun h => absurd h.2 (gz_ne rfl)))) ((g244 23 5).resolve_left (fun h => h.elim (fun h => absurd h.2 (gz_ne rfl)) (fun h => absurd h.2 (gz_ne rfl)))) ((g244 23 6).resolve_left (fun h => h.elim (fun h => absurd h.2 (gz_ne rfl)) (fun h => absurd h.2 (gz_ne rfl)))) ((g244 23 7).resolve_left (fun h => h.elim (fun h => absurd h.2 (gz_ne rfl)) (fun h => absurd h.2 (gz_ne rfl)))) ((g244 23 8).resolve_left (fun h => h.elim (fun h => absurd h.2 (gz_ne rfl)) (fun h => absurd h.2 (gz_ne rfl)))) (fun k => (g244 24 k).resolve_left (fun h => h.elim (fun h => absurd h.1 (gz_ne rfl)) (fun h => absurd h.1 (gz_ne rfl))))
  have t257 := gc_AT_l A256
  refine gv_callV hD rfl (As := [.inr (.inr (some (t + 1)))]) (st := []) rfl B_39 S_39 rfl (gc_lV6 hws rfl) (Nat.le_of_ble_eq_true rfl) (gz_Ev_mono (d := 3) (by decide) E244) ?_
  show gv_X _ _ (11, [(0, .inr (.inr (some 39)))], [.inl z244], sh, gc_h sh I245 J A)
  refine gv_if_ne (t := 16) hD rfl rfl ⟨by exact gz_m 319 (by omega), by exact gz_m 320 (by omega)⟩ (fun c258 => ?_) (fun c258 => ?_)
  · show gv_X _ _ (16, [(0, .inr (.inr (some 39)))], [], sh, gc_h sh I245 J A)
    have u259 := gs_or1 q244.2.2.2 (by exact gz_m 321 (by omega))
    have L244 : gs_T β η p9 = 1 → gc_fd (J ((t + 1) + 1)) (gs_M β η p9) (Int.toNat (I (t + 1) 1)) = gs_lt Jr 20 (8 * Ir 0 6) (Ir 13 (Int.toNat (Ir 0 6))) (gs_rn β η p9) := (fun h => by exact gs_NA_lt x5 x4 h)
    have t260 := L244 (by exact gz_m 322 (by omega))
    have tM := gc_AT_m A256 (by exact gz_m 323 (by omega))
    refine gv_run 1 true hD (pc' := 17) (lv' := [(0, .inr (.inr (some 39)))]) (st' := [.inr (.inr (some 39))]) (h' := gc_h sh I245 J A) (C := (True ∧ True)) rfl ⟨trivial, trivial⟩ ?_
    refine gv_get hD rfl rfl S_39 ⟨by decide, B_39⟩ (gc_hA S_39 rfl A_39_1) ?_
    show gv_X _ _ (20, [(0, .inr (.inr (some 39)))], [.inr (.inr (some 23))], sh, gc_h sh I245 J A)
    refine gv_get hD rfl rfl S_23 ⟨by decide, B_23⟩ (gc_hJ S_23 rfl) ?_
    show gv_X _ _ (23, [(0, .inr (.inr (some 39)))], [.inr (.inl (J 23 9))], sh, gc_h sh I245 J A)
    refine gv_run 2 true hD (pc' := 25) (lv' := [(1, .inr (.inl (J 23 9))), (0, .inr (.inr (some 39)))]) (st' := [.inr (.inr (some 39))]) (h' := gc_h sh I245 J A) (C := ((True ∧ True) ∧ True)) rfl ⟨⟨trivial, trivial⟩, trivial⟩ ?_
    refine gv_get hD rfl rfl S_39 ⟨by decide, B_39⟩ (gc_hA S_39 rfl A_39_1) ?_
    show gv_X _ _ (28, [(1, .inr (.inl (J 23 9))), (0, .inr (.inr (some 39)))], [.inr (.inr (some 23))], sh, gc_h sh I245 J A)
    have t262 := gc_TK_nx KTK_I245 (by exact gz_m 324 (by omega))
    obtain ⟨r261, h261, E261, P261⟩ := d_X9_advance_p (ws0 := ws0) (tb := tb) hws htb sh ro I245 J A hI245 23 β η  (gc_b23 hb)    (by exact gz_m 325 (by omega)) A256.1.1 A256.1.2 
    obtain ⟨I263, J264, rfl, hI263, g261, k261, ⟨rfl, V261_0, V261_1, V261_2, V261_3, V261_4, q261⟩⟩ := P261
    have FI263 := gc_frc (W := fun q j => (q = 39 ∧ j = 3) ∨ (q = 39 ∧ j = 4) ∨ (q = 23 ∧ j = 5) ∨ (q = 23 ∧ j = 6) ∨ (q = 23 ∧ j = 7) ∨ (q = 23 ∧ j = 8) ∨ q = (t + 5) ∨ q = (t + 6) ∨ (q = (t + 3) ∧ j = 1) ∨ (q = (t + 1) ∧ j = 1)) (V := fun q j => (q = 23 ∧ j = 5) ∨ (q = 23 ∧ j = 6) ∨ (q = 23 ∧ j = 7) ∨ (q = 23 ∧ j = 8)) FI245 (fun q j h => (h.elim (fun h => (Or.inr (Or.inr (Or.inl h)))) (fun h => (h.elim (fun h => (Or.inr (Or.inr (Or.inr (Or.inl h))))) (fun h => (h.elim (fun h => (Or.inr (Or.inr (Or.inr (Or.inr (Or.inl h)))))) (fun h => (Or.inr (Or.inr (Or.inr (Or.inr (Or.inr (Or.inl h))))))))))))) g261
    have FJ264 := gc_frc (W := fun q j => (q = 23 ∧ j = 9) ∨ q = 42 ∨ q = (t + 4) ∨ q = (t + 2)) (V := fun q j => (q = 23 ∧ j = 9)) FJ (fun q j h => (Or.inl h)) k261
    have t265 := (g261 23 1).resolve_left (fun h => h.elim (fun h => absurd h.2 (gz_ne rfl)) (fun h => h.elim (fun h => absurd h.2 (gz_ne rfl)) (fun h => h.elim (fun h => absurd h.2 (gz_ne rfl)) (fun h => absurd h.2 (gz_ne rfl)))))
    have t266 := (g261 (t + 3) 1).resolve_left (fun h => h.elim (fun h => absurd h.2 (gz_ne rfl)) (fun h => h.elim (fun h => absurd h.2 (gz_ne rfl)) (fun h => h.elim (fun h => absurd h.2 (gz_ne rfl)) (fun h => absurd h.2 (gz_ne rfl)))))
    have t267 := (g261 (t + 1) 1).resolve_left (fun h => h.elim (fun h => absurd h.2 (gz_ne rfl)) (fun h => h.elim (fun h => absurd h.2 (gz_ne rfl)) (fun h => h.elim (fun h => absurd h.2 (gz_ne rfl)) (fun h => absurd h.2 (gz_ne rfl)))))
    have t268 := (g261 39 5).resolve_left (fun h => h.elim (fun h => absurd h.1 (gz_ne rfl)) (fun h => h.elim (fun h => absurd h.2 (gz_ne rfl)) (fun h => h.elim (fun h => absurd h.2 (gz_ne rfl)) (fun h => absurd h.2 (gz_ne rfl)))))
    have t269 := (g261 1 18).resolve_left (fun h => h.elim (fun h => absurd h.2 (gz_ne rfl)) (fun h => h.elim (fun h => absurd h.2 (gz_ne rfl)) (fun h => h.elim (fun h => absurd h.2 (gz_ne rfl)) (fun h => absurd h.2 (gz_ne rfl)))))
    have t270 := (g261 39 2).resolve_left (fun h => h.elim (fun h => absurd h.2 (gz_ne rfl)) (fun h => h.elim (fun h => absurd h.2 (gz_ne rfl)) (fun h => h.elim (fun h => absurd h.2 (gz_ne rfl)) (fun h => absurd h.2 (gz_ne rfl)))))
    have f271 := (gc_b_3_5 hI263 R_23)
    have f272 := (gc_b_3_6 hI263 R_23)
    have f273 := (gc_b_3_7 hI263 R_23)
    have KLT_I263 : gc_LT I263 := q261.2.2.1
    have KTK_I263 : gc_TK I263 := And.intro V261_0 (And.intro V261_1 (And.intro V261_2 (And.intro V261_3 V261_4)))
    have t274 := gc_TK_mo KTK_I263
    clear V261_0 V261_1 V261_2 V261_3 V261_4
    have A275 := gc_AT_nx A256 q261.2.2.2
    have t276 := gc_AT_l A275
    refine gv_callV hD rfl (As := []) (st := []) rfl B_23 S_23 rfl (gc_lV6 hws rfl) (Nat.le_of_ble_eq_true rfl) (gz_Ev_mono (d := 2) (by decide) E261) ?_
    show gv_X _ _ (31, [(1, .inr (.inl (J 23 9))), (0, .inr (.inr (some 39)))], [], sh, gc_h sh I263 J264 A)
    refine gv_run 2 true hD (pc' := 34) (lv' := [(1, .inr (.inl (J 23 9))), (0, .inr (.inr (some 39)))]) (st' := [.inl 61, .inr (.inr (some 39))]) (h' := gc_h sh I263 J264 A) (C := ((True ∧ True) ∧ True)) rfl ⟨⟨trivial, trivial⟩, trivial⟩ ?_
    obtain ⟨r277, h277, E277, P277⟩ := d_X6_take_p (ws0 := ws0) (tb := tb) hws htb sh ro I263 J264 A hI263  β η (gs_X β η p9) 61 hb   ⟨by exact gz_m 326 (by omega), by exact gz_m 327 (by omega)⟩ (by exact gz_m 328 (by omega)) A275 (by exact gz_m 329 (by omega)) KLT_I263 KTK_I263
    obtain ⟨I278, J279, rfl, hI278, g277, k277, KLT_I278, KTK_I278, ⟨z277, rfl, q277⟩⟩ := P277
    have FI278 := gc_frc (W := fun q j => (q = 39 ∧ j = 3) ∨ (q = 39 ∧ j = 4) ∨ (q = 23 ∧ j = 5) ∨ (q = 23 ∧ j = 6) ∨ (q = 23 ∧ j = 7) ∨ (q = 23 ∧ j = 8) ∨ q = (t + 5) ∨ q = (t + 6) ∨ (q = (t + 3) ∧ j = 1) ∨ (q = (t + 1) ∧ j = 1)) (V := fun q j => (q = 39 ∧ j = 3) ∨ (q = 39 ∧ j = 4) ∨ (q = 23 ∧ j = 5) ∨ (q = 23 ∧ j = 6) ∨ (q = 23 ∧ j = 7) ∨ (q = 23 ∧ j = 8)) FI263 (fun q j h => (h.elim (fun h => (Or.inl h)) (fun h => (h.elim (fun h => (Or.inr (Or.inl h))) (fun h => (h.elim (fun h => (Or.inr (Or.inr (Or.inl h)))) (fun h => (h.elim (fun h => (Or.inr (Or.inr (Or.inr (Or.inl h))))) (fun h => (h.elim (fun h => (Or.inr (Or.inr (Or.inr (Or.inr (Or.inl h)))))) (fun h => (Or.inr (Or.inr (Or.inr (Or.inr (Or.inr (Or.inl h))))))))))))))))) g277
    have FJ279 := gc_frc (W := fun q j => (q = 23 ∧ j = 9) ∨ q = 42 ∨ q = (t + 4) ∨ q = (t + 2)) (V := fun q j => (q = 23 ∧ j = 9)) FJ264 (fun q j h => (Or.inl h)) k277
    have t280 := (g277 23 1).resolve_left (fun h => h.elim (fun h => absurd h.2 (gz_ne rfl)) (fun h => h.elim (fun h => absurd h.2 (gz_ne rfl)) (fun h => h.elim (fun h => absurd h.2 (gz_ne rfl)) (fun h => h.elim (fun h => absurd h.2 (gz_ne rfl)) (fun h => h.elim (fun h => absurd h.2 (gz_ne rfl)) (fun h => absurd h.2 (gz_ne rfl)))))))
    have t281 := (g277 (t + 3) 1).resolve_left (fun h => h.elim (fun h => absurd h.2 (gz_ne rfl)) (fun h => h.elim (fun h => absurd h.2 (gz_ne rfl)) (fun h => h.elim (fun h => absurd h.2 (gz_ne rfl)) (fun h => h.elim (fun h => absurd h.2 (gz_ne rfl)) (fun h => h.elim (fun h => absurd h.2 (gz_ne rfl)) (fun h => absurd h.2 (gz_ne rfl)))))))
    have t282 := (g277 (t + 1) 1).resolve_left (fun h => h.elim (fun h => absurd h.2 (gz_ne rfl)) (fun h => h.elim (fun h => absurd h.2 (gz_ne rfl)) (fun h => h.elim (fun h => absurd h.2 (gz_ne rfl)) (fun h => h.elim (fun h => absurd h.2 (gz_ne rfl)) (fun h => h.elim (fun h => absurd h.2 (gz_ne rfl)) (fun h => absurd h.2 (gz_ne rfl)))))))
    have t283 := (g277 39 5).resolve_left (fun h => h.elim (fun h => absurd h.2 (gz_ne rfl)) (fun h => h.elim (fun h => absurd h.2 (gz_ne rfl)) (fun h => h.elim (fun h => absurd h.1 (gz_ne rfl)) (fun h => h.elim (fun h => absurd h.2 (gz_ne rfl)) (fun h => h.elim (fun h => absurd h.2 (gz_ne rfl)) (fun h => absurd h.2 (gz_ne rfl)))))))
    have t284 := (g277 1 18).resolve_left (fun h => h.elim (fun h => absurd h.2 (gz_ne rfl)) (fun h => h.elim (fun h => absurd h.2 (gz_ne rfl)) (fun h => h.elim (fun h => absurd h.2 (gz_ne rfl)) (fun h => h.elim (fun h => absurd h.2 (gz_ne rfl)) (fun h => h.elim (fun h => absurd h.2 (gz_ne rfl)) (fun h => absurd h.2 (gz_ne rfl)))))))
    have t285 := (g277 39 2).resolve_left (fun h => h.elim (fun h => absurd h.2 (gz_ne rfl)) (fun h => h.elim (fun h => absurd h.2 (gz_ne rfl)) (fun h => h.elim (fun h => absurd h.2 (gz_ne rfl)) (fun h => h.elim (fun h => absurd h.2 (gz_ne rfl)) (fun h => h.elim (fun h => absurd h.2 (gz_ne rfl)) (fun h => absurd h.2 (gz_ne rfl)))))))
    have f286 := (gc_b_3_5 hI278 R_23)
    have f287 := (gc_b_3_6 hI278 R_23)
    have f288 := (gc_b_3_7 hI278 R_23)
    have t289 := gc_TK_mo KTK_I278
    refine gv_callV hD rfl (As := [.inl 61]) (st := []) rfl B_39 S_39 rfl (gc_lV6 hws rfl) (Nat.le_of_ble_eq_true rfl) (gz_Ev_mono (d := 3) (by decide) E277) ?_
    show gv_X _ _ (37, [(1, .inr (.inl (J 23 9))), (0, .inr (.inr (some 39)))], [.inl z277], sh, gc_h sh I278 J279 A)
    refine gv_if_eq (t := 48) hD rfl rfl ⟨by exact gz_m 330 (by omega), by exact gz_m 331 (by omega)⟩ (fun c290 => ?_) (fun c290 => ?_)
    · show gv_X _ _ (48, [(1, .inr (.inl (J 23 9))), (0, .inr (.inr (some 39)))], [], sh, gc_h sh I278 J279 A)
      obtain ⟨u291, u291_⟩ := gs_or0 q277.2.2.2.2.2 (by exact gz_m 332 (by omega))
      refine gv_run 1 true hD (pc' := 49) (lv' := [(1, .inr (.inl (J 23 9))), (0, .inr (.inr (some 39)))]) (st' := [.inl 0]) (h' := gc_h sh I278 J279 A) (C := (True ∧ True)) rfl ⟨trivial, trivial⟩ ?_
      exact gv_zret hD rfl (by exact gz_m 333 (by omega)) ⟨I278, J279, rfl, hI278, FI278, FJ279, KLT_I278, KTK_I278, ⟨_, rfl, by exact gz_m 334 (by omega), by exact gz_m 335 (by omega), by exact gz_m 336 (by omega), by exact gz_m 337 (by omega), by exact gz_m 338 (by omega), (Or.inr ⟨by exact gz_m 339 (by omega), by first | (exfalso; exact gz_m 340 (by omega)) | (unfold gs_fea gs_fea0; (repeat first | rw [if_pos (by exact gz_m 341 (by omega))] | rw [if_neg (by exact gz_m 342 (by omega))]); exact ⟨by exact gz_m 343 (by omega), by exact gz_m 344 (by omega), ((((g277 (t + 1) 1).resolve_left (by exact gz_m 345 (by omega))).trans ((g261 (t + 1) 1).resolve_left (by exact gz_m 346 (by omega)))).trans ((g244 (t + 1) 1).resolve_left (by exact gz_m 347 (by omega)))), ((((g277 (t + 3) 1).resolve_left (by exact gz_m 348 (by omega))).trans ((g261 (t + 3) 1).resolve_left (by exact gz_m 349 (by omega)))).trans ((g244 (t + 3) 1).resolve_left (by exact gz_m 350 (by omega)))), fun j => ⟨(((k277 (t + 2) j).resolve_left (by exact gz_m 351 (by omega))).trans ((k261 (t + 2) j).resolve_left (by exact gz_m 352 (by omega)))), (((k277 (t + 4) j).resolve_left (by exact gz_m 353 (by omega))).trans ((k261 (t + 4) j).resolve_left (by exact gz_m 354 (by omega)))), ((((g277 (t + 5) j).resolve_left (by exact gz_m 355 (by omega))).trans ((g261 (t + 5) j).resolve_left (by exact gz_m 356 (by omega)))).trans ((g244 (t + 5) j).resolve_left (by exact gz_m 357 (by omega)))), ((((g277 (t + 6) j).resolve_left (by exact gz_m 358 (by omega))).trans ((g261 (t + 6) j).resolve_left (by exact gz_m 359 (by omega)))).trans ((g244 (t + 6) j).resolve_left (by exact gz_m 360 (by omega))))⟩⟩)⟩)⟩⟩
    · show gv_X _ _ (40, [(1, .inr (.inl (J 23 9))), (0, .inr (.inr (some 39)))], [], sh, gc_h sh I278 J279 A)
      obtain ⟨u292, A292⟩ := gs_or1 q277.2.2.2.2.2 (by exact gz_m 361 (by omega))
      have t293 := gc_AT_l A292
      refine gv_run 2 true hD (pc' := 42) (lv' := [(1, .inr (.inl (J 23 9))), (0, .inr (.inr (some 39)))]) (st' := [.inl 1, .inr (.inr (some 39))]) (h' := gc_h sh I278 J279 A) (C := ((True ∧ True) ∧ True)) rfl ⟨⟨trivial, trivial⟩, trivial⟩ ?_
      obtain ⟨r294, h294, E294, P294⟩ := d_X6_need_p (ws0 := ws0) (tb := tb) hws htb sh ro I278 J279 A hI278  β η ((gs_need β η 61 (gs_X β η p9))) 1 hb   ⟨by exact gz_m 362 (by omega), by exact gz_m 363 (by omega)⟩ A292 (by exact gz_m 364 (by omega)) 
      obtain ⟨I295, J296, rfl, hI295, g294, k294, ⟨z294, rfl, q294⟩⟩ := P294
      have FI295 := gc_frc (W := fun q j => (q = 39 ∧ j = 3) ∨ (q = 39 ∧ j = 4) ∨ (q = 23 ∧ j = 5) ∨ (q = 23 ∧ j = 6) ∨ (q = 23 ∧ j = 7) ∨ (q = 23 ∧ j = 8) ∨ q = (t + 5) ∨ q = (t + 6) ∨ (q = (t + 3) ∧ j = 1) ∨ (q = (t + 1) ∧ j = 1)) (V := fun q j => (q = 39 ∧ j = 3) ∨ (q = 39 ∧ j = 4)) FI278 (fun q j h => (h.elim (fun h => (Or.inl h)) (fun h => (Or.inr (Or.inl h))))) g294
      have t297 := (g294 23 1).resolve_left (fun h => h.elim (fun h => absurd h.2 (gz_ne rfl)) (fun h => absurd h.2 (gz_ne rfl)))
      have t298 := (g294 23 5).resolve_left (fun h => h.elim (fun h => absurd h.2 (gz_ne rfl)) (fun h => absurd h.2 (gz_ne rfl)))
      have t299 := (g294 23 6).resolve_left (fun h => h.elim (fun h => absurd h.2 (gz_ne rfl)) (fun h => absurd h.2 (gz_ne rfl)))
      have t300 := (g294 23 7).resolve_left (fun h => h.elim (fun h => absurd h.2 (gz_ne rfl)) (fun h => absurd h.2 (gz_ne rfl)))
      have t301 := (g294 (t + 3) 1).resolve_left (fun h => h.elim (fun h => absurd h.2 (gz_ne rfl)) (fun h => absurd h.2 (gz_ne rfl)))
      have t302 := (g294 (t + 1) 1).resolve_left (fun h => h.elim (fun h => absurd h.2 (gz_ne rfl)) (fun h => absurd h.2 (gz_ne rfl)))
      have t303 := (g294 39 5).resolve_left (fun h => h.elim (fun h => absurd h.2 (gz_ne rfl)) (fun h => absurd h.2 (gz_ne rfl)))
      have t304 := (g294 1 18).resolve_left (fun h => h.elim (fun h => absurd h.2 (gz_ne rfl)) (fun h => absurd h.2 (gz_ne rfl)))
      have t305 := (g294 39 2).resolve_left (fun h => h.elim (fun h => absurd h.2 (gz_ne rfl)) (fun h => absurd h.2 (gz_ne rfl)))
      obtain rfl : J279 = J296 := funext fun q => funext fun j => ((k294 q j).resolve_left id).symm
      have KLT_I295 := gc_LT_fr KLT_I278 ((g294 23 5).resolve_left (fun h => h.elim (fun h => absurd h.2 (gz_ne rfl)) (fun h => absurd h.2 (gz_ne rfl)))) ((g294 23 6).resolve_left (fun h => h.elim (fun h => absurd h.2 (gz_ne rfl)) (fun h => absurd h.2 (gz_ne rfl)))) ((g294 23 7).resolve_left (fun h => h.elim (fun h => absurd h.2 (gz_ne rfl)) (fun h => absurd h.2 (gz_ne rfl)))) (fun k => (g294 24 k).resolve_left (fun h => h.elim (fun h => absurd h.1 (gz_ne rfl)) (fun h => absurd h.1 (gz_ne rfl))))
      have KTK_I295 := gc_TK_fr KTK_I278 ((g294 23 1).resolve_left (fun h => h.elim (fun h => absurd h.2 (gz_ne rfl)) (fun h => absurd h.2 (gz_ne rfl)))) ((g294 23 5).resolve_left (fun h => h.elim (fun h => absurd h.2 (gz_ne rfl)) (fun h => absurd h.2 (gz_ne rfl)))) ((g294 23 6).resolve_left (fun h => h.elim (fun h => absurd h.2 (gz_ne rfl)) (fun h => absurd h.2 (gz_ne rfl)))) ((g294 23 7).resolve_left (fun h => h.elim (fun h => absurd h.2 (gz_ne rfl)) (fun h => absurd h.2 (gz_ne rfl))))
      have A306 := gc_AT_I A292 ((g294 23 1).resolve_left (fun h => h.elim (fun h => absurd h.2 (gz_ne rfl)) (fun h => absurd h.2 (gz_ne rfl)))) ((g294 23 5).resolve_left (fun h => h.elim (fun h => absurd h.2 (gz_ne rfl)) (fun h => absurd h.2 (gz_ne rfl)))) ((g294 23 6).resolve_left (fun h => h.elim (fun h => absurd h.2 (gz_ne rfl)) (fun h => absurd h.2 (gz_ne rfl)))) ((g294 23 7).resolve_left (fun h => h.elim (fun h => absurd h.2 (gz_ne rfl)) (fun h => absurd h.2 (gz_ne rfl)))) ((g294 23 8).resolve_left (fun h => h.elim (fun h => absurd h.2 (gz_ne rfl)) (fun h => absurd h.2 (gz_ne rfl)))) (fun k => (g294 24 k).resolve_left (fun h => h.elim (fun h => absurd h.1 (gz_ne rfl)) (fun h => absurd h.1 (gz_ne rfl))))
      have t307 := gc_AT_l A306
      refine gv_callV hD rfl (As := [.inl 1]) (st := []) rfl B_39 S_39 rfl (gc_lV6 hws rfl) (Nat.le_of_ble_eq_true rfl) (gz_Ev_mono (d := 2) (by decide) E294) ?_
      show gv_X _ _ (45, [(1, .inr (.inl (J 23 9))), (0, .inr (.inr (some 39)))], [.inl z294], sh, gc_h sh I295 J279 A)
      refine gv_if_ne (t := 50) hD rfl rfl ⟨by exact gz_m 365 (by omega), by exact gz_m 366 (by omega)⟩ (fun c308 => ?_) (fun c308 => ?_)
      · show gv_X _ _ (50, [(1, .inr (.inl (J 23 9))), (0, .inr (.inr (some 39)))], [], sh, gc_h sh I295 J279 A)
        have u309 := gs_or1 q294.2.2.2 (by exact gz_m 367 (by omega))
        refine gv_run 1 true hD (pc' := 51) (lv' := [(1, .inr (.inl (J 23 9))), (0, .inr (.inr (some 39)))]) (st' := [.inr (.inr (some 39))]) (h' := gc_h sh I295 J279 A) (C := (True ∧ True)) rfl ⟨trivial, trivial⟩ ?_
        refine gv_get hD rfl rfl S_39 ⟨by decide, B_39⟩ (gc_hA S_39 rfl A_39_1) ?_
        show gv_X _ _ (54, [(1, .inr (.inl (J 23 9))), (0, .inr (.inr (some 39)))], [.inr (.inr (some 23))], sh, gc_h sh I295 J279 A)
        have f310 := (gc_b_3_5 hI295 R_23)
        refine gv_get hD rfl rfl S_23 ⟨by decide, B_23⟩ (gc_hI S_23 rfl) ?_
        show gv_X _ _ (57, [(1, .inr (.inl (J 23 9))), (0, .inr (.inr (some 39)))], [.inl (I295 23 5)], sh, gc_h sh I295 J279 A)
        refine gv_run 5 true hD (pc' := 64) (lv' := [(5, .inl 0), (4, .inl 0), (3, .inl (I295 23 5)), (1, .inr (.inl (J 23 9))), (0, .inr (.inr (some 39)))]) (st' := []) (h' := gc_h sh I295 J279 A) (C := (((((True ∧ True) ∧ True) ∧ True) ∧ True) ∧ True)) rfl ⟨⟨⟨⟨⟨trivial, trivial⟩, trivial⟩, trivial⟩, trivial⟩, trivial⟩ ?_
        refine gv_pick [4, 3, 2, 1, 0] rfl ?_
        exact L64 _ I295 J279 (J 23 9) (I295 23 5) 0 0 ((gs_need β η 61 (gs_X β η p9))) (Nat.lt_succ_self _) hI295 FI295 FJ279 KLT_I295 KTK_I295 (by exact gz_m 368 (by omega)) A306 tM (by unfold gs_fea gs_fea0; (repeat first | rw [if_pos (by exact gz_m 369 (by omega))] | rw [if_neg (by exact gz_m 370 (by omega))])) rfl (by show _ = (0 : Int) + gs_cn β η 7 (gs_need β η 61 (gs_X β η p9)); exact gz_m 371 (by omega)) rfl (by exact gz_m 372 (by omega)) (by exact gz_m 373 (by omega)) (fun i h => absurd h (by exact gz_m 374 (by omega))) ⟨((((((g294 (t + 1) 1).resolve_left (by exact gz_m 375 (by omega))).trans ((g277 (t + 1) 1).resolve_left (by exact gz_m 376 (by omega)))).trans ((g261 (t + 1) 1).resolve_left (by exact gz_m 377 (by omega)))).trans ((g244 (t + 1) 1).resolve_left (by exact gz_m 378 (by omega))))), ((((((g294 (t + 3) 1).resolve_left (by exact gz_m 379 (by omega))).trans ((g277 (t + 3) 1).resolve_left (by exact gz_m 380 (by omega)))).trans ((g261 (t + 3) 1).resolve_left (by exact gz_m 381 (by omega)))).trans ((g244 (t + 3) 1).resolve_left (by exact gz_m 382 (by omega))))), ((((((g294 39 5).resolve_left (by exact gz_m 383 (by omega))).trans ((g277 39 5).resolve_left (by exact gz_m 384 (by omega)))).trans ((g261 39 5).resolve_left (by exact gz_m 385 (by omega)))).trans ((g244 39 5).resolve_left (by exact gz_m 386 (by omega))))), ((((((g294 1 18).resolve_left (by exact gz_m 387 (by omega))).trans ((g277 1 18).resolve_left (by exact gz_m 388 (by omega)))).trans ((g261 1 18).resolve_left (by exact gz_m 389 (by omega)))).trans ((g244 1 18).resolve_left (by exact gz_m 390 (by omega))))), (fun k => (((k277 (t + 2) k).resolve_left (by exact gz_m 391 (by omega))).trans ((k261 (t + 2) k).resolve_left (by exact gz_m 392 (by omega))))), (fun k => (((k277 (t + 4) k).resolve_left (by exact gz_m 393 (by omega))).trans ((k261 (t + 4) k).resolve_left (by exact gz_m 394 (by omega))))), (fun k => (((((g294 (t + 5) k).resolve_left (by exact gz_m 395 (by omega))).trans ((g277 (t + 5) k).resolve_left (by exact gz_m 396 (by omega)))).trans ((g261 (t + 5) k).resolve_left (by exact gz_m 397 (by omega)))).trans ((g244 (t + 5) k).resolve_left (by exact gz_m 398 (by omega))))), (fun k => (((((g294 (t + 6) k).resolve_left (by exact gz_m 399 (by omega))).trans ((g277 (t + 6) k).resolve_left (by exact gz_m 400 (by omega)))).trans ((g261 (t + 6) k).resolve_left (by exact gz_m 401 (by omega)))).trans ((g244 (t + 6) k).resolve_left (by exact gz_m 402 (by omega)))))⟩
      · show gv_X _ _ (48, [(1, .inr (.inl (J 23 9))), (0, .inr (.inr (some 39)))], [], sh, gc_h sh I295 J279 A)
        have u311 := gs_or0 q294.2.2.2 (by exact gz_m 403 (by omega))
        refine gv_run 1 true hD (pc' := 49) (lv' := [(1, .inr (.inl (J 23 9))), (0, .inr (.inr (some 39)))]) (st' := [.inl 0]) (h' := gc_h sh I295 J279 A) (C := (True ∧ True)) rfl ⟨trivial, trivial⟩ ?_
        exact gv_zret hD rfl (by exact gz_m 404 (by omega)) ⟨I295, J279, rfl, hI295, FI295, FJ279, KLT_I295, KTK_I295, ⟨_, rfl, by exact gz_m 405 (by omega), by exact gz_m 406 (by omega), by exact gz_m 407 (by omega), by exact gz_m 408 (by omega), by exact gz_m 409 (by omega), (Or.inr ⟨by exact gz_m 410 (by omega), by first | (exfalso; exact gz_m 411 (by omega)) | (unfold gs_fea gs_fea0; (repeat first | rw [if_pos (by exact gz_m 412 (by omega))] | rw [if_neg (by exact gz_m 413 (by omega))]); exact ⟨by exact gz_m 414 (by omega), by exact gz_m 415 (by omega), (((((g294 (t + 1) 1).resolve_left (by exact gz_m 416 (by omega))).trans ((g277 (t + 1) 1).resolve_left (by exact gz_m 417 (by omega)))).trans ((g261 (t + 1) 1).resolve_left (by exact gz_m 418 (by omega)))).trans ((g244 (t + 1) 1).resolve_left (by exact gz_m 419 (by omega)))), (((((g294 (t + 3) 1).resolve_left (by exact gz_m 420 (by omega))).trans ((g277 (t + 3) 1).resolve_left (by exact gz_m 421 (by omega)))).trans ((g261 (t + 3) 1).resolve_left (by exact gz_m 422 (by omega)))).trans ((g244 (t + 3) 1).resolve_left (by exact gz_m 423 (by omega)))), fun j => ⟨(((k277 (t + 2) j).resolve_left (by exact gz_m 424 (by omega))).trans ((k261 (t + 2) j).resolve_left (by exact gz_m 425 (by omega)))), (((k277 (t + 4) j).resolve_left (by exact gz_m 426 (by omega))).trans ((k261 (t + 4) j).resolve_left (by exact gz_m 427 (by omega)))), (((((g294 (t + 5) j).resolve_left (by exact gz_m 428 (by omega))).trans ((g277 (t + 5) j).resolve_left (by exact gz_m 429 (by omega)))).trans ((g261 (t + 5) j).resolve_left (by exact gz_m 430 (by omega)))).trans ((g244 (t + 5) j).resolve_left (by exact gz_m 431 (by omega)))), (((((g294 (t + 6) j).resolve_left (by exact gz_m 432 (by omega))).trans ((g277 (t + 6) j).resolve_left (by exact gz_m 433 (by omega)))).trans ((g261 (t + 6) j).resolve_left (by exact gz_m 434 (by omega)))).trans ((g244 (t + 6) j).resolve_left (by exact gz_m 435 (by omega))))⟩⟩)⟩)⟩⟩
  · show gv_X _ _ (14, [(0, .inr (.inr (some 39)))], [], sh, gc_h sh I245 J A)
    have u312 := gs_or0 q244.2.2.2 (by exact gz_m 436 (by omega))
    have L244 : gs_T β η p9 = 1 → gc_fd (J ((t + 1) + 1)) (gs_M β η p9) (Int.toNat (I (t + 1) 1)) = gs_lt Jr 20 (8 * Ir 0 6) (Ir 13 (Int.toNat (Ir 0 6))) (gs_rn β η p9) := (fun h => by exact gs_NA_lt x5 x4 h)
    refine gv_run 1 true hD (pc' := 15) (lv' := [(0, .inr (.inr (some 39)))]) (st' := [.inl 0]) (h' := gc_h sh I245 J A) (C := (True ∧ True)) rfl ⟨trivial, trivial⟩ ?_
    exact gv_zret hD rfl (by exact gz_m 437 (by omega)) ⟨I245, J, rfl, hI245, FI245, FJ, KLT_I245, KTK_I245, ⟨_, rfl, by exact gz_m 438 (by omega), by exact gz_m 439 (by omega), by exact gz_m 440 (by omega), by exact gz_m 441 (by omega), by exact gz_m 442 (by omega), (Or.inr ⟨by exact gz_m 443 (by omega), by first | (exfalso; exact gz_m 444 (by omega)) | (unfold gs_fea gs_fea0; by_cases c9 : gs_T β η p9 = 1; (have h9 := L244 c9; (repeat first | rw [if_pos (by exact gz_m 445 (by omega))] | rw [if_neg (by exact gz_m 446 (by omega))]); exact ⟨by exact gz_m 447 (by omega), by exact gz_m 448 (by omega), ((g244 (t + 1) 1).resolve_left (by exact gz_m 449 (by omega))), ((g244 (t + 3) 1).resolve_left (by exact gz_m 450 (by omega))), fun j => ⟨rfl, rfl, ((g244 (t + 5) j).resolve_left (by exact gz_m 451 (by omega))), ((g244 (t + 6) j).resolve_left (by exact gz_m 452 (by omega)))⟩⟩); (repeat first | rw [if_pos (by exact gz_m 453 (by omega))] | rw [if_neg (by exact gz_m 454 (by omega))]); exact ⟨by exact gz_m 455 (by omega), by exact gz_m 456 (by omega), ((g244 (t + 1) 1).resolve_left (by exact gz_m 457 (by omega))), ((g244 (t + 3) 1).resolve_left (by exact gz_m 458 (by omega))), fun j => ⟨rfl, rfl, ((g244 (t + 5) j).resolve_left (by exact gz_m 459 (by omega))), ((g244 (t + 6) j).resolve_left (by exact gz_m 460 (by omega)))⟩⟩)⟩)⟩⟩
