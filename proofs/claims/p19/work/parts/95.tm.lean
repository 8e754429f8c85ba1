/-! PARITY, the class's side: PATTERN -/
theorem gs_rv_0 {β : Int → Int} {N : Int} {I : gr_I} {J : gr_J} {p : Int} : gs_rv β N I J 0 p = (gs_ws β N I J 1002 0 p).1 := if_pos rfl
theorem gs_pc_c {β : Int → Int} {N : Int} {I : gr_I} {J : gr_J} {m : Nat} {V : List Int} {p : Int} (h : 0 ≤ gs_cell β N I J p) : gs_pc β N I J (m + 1) V p = (if gs_T β N (gs_cell β N I J p) = 44 then gs_pc β N I J m (gs_ins V (gs_ws β N I J 1002 0 p).2) (gs_X β N (gs_cell β N I J p)) else (gs_cell β N I J p, gs_ins V (gs_ws β N I J 1002 0 p).2)) := by
  show gs_pcA β N (gs_pc β N I J m) V (gs_ws β N I J 1002 0 p) = _
  have e := gs_rv_0 (β := β) (N := N) (I := I) (J := J) (p := p)
  by_cases c1 : (gs_ws β N I J 1002 0 p).1 < 0
  · have : gs_cell β N I J p = gs_rv β N I J 0 p := if_pos (by rw [e]; exact c1)
    omega
  · by_cases c2 : gs_need β N 61 (gs_ws β N I J 1002 0 p).1 < 0
    · have : gs_cell β N I J p = gs_need β N 61 (gs_rv β N I J 0 p) := (if_neg (by rw [e]; exact c1)).trans (if_pos (by rw [e]; exact c2))
      rw [e] at this
      omega
    · have f : gs_cell β N I J p = gs_pf β N (gs_need β N 61 (gs_ws β N I J 1002 0 p).1) := by
        rw [← e]
        exact (if_neg (by rw [e]; exact c1)).trans (if_neg (by rw [e]; exact c2))
      rw [f] at h ⊢
      exact (if_neg c1).trans ((if_neg c2).trans (if_neg (by omega)))
theorem gs_pc_x {β : Int → Int} {N : Int} {I : gr_I} {J : gr_J} {m : Nat} {V : List Int} {p : Int} (h : gs_cell β N I J p < 0) : gs_pc β N I J (m + 1) V p = (gs_cell β N I J p, []) := by
  show gs_pcA β N (gs_pc β N I J m) V (gs_ws β N I J 1002 0 p) = _
  have e := gs_rv_0 (β := β) (N := N) (I := I) (J := J) (p := p)
  by_cases c1 : (gs_ws β N I J 1002 0 p).1 < 0
  · have f : gs_cell β N I J p = (gs_ws β N I J 1002 0 p).1 := (if_pos (by rw [e]; exact c1)).trans e
    rw [f]
    exact if_pos c1
  · by_cases c2 : gs_need β N 61 (gs_ws β N I J 1002 0 p).1 < 0
    · have f : gs_cell β N I J p = gs_need β N 61 (gs_ws β N I J 1002 0 p).1 := by
        rw [← e]
        exact (if_neg (by rw [e]; exact c1)).trans (if_pos (by rw [e]; exact c2))
      rw [f]
      exact (if_neg c1).trans (if_pos c2)
    · have f : gs_cell β N I J p = gs_pf β N (gs_need β N 61 (gs_ws β N I J 1002 0 p).1) := by
        rw [← e]
        exact (if_neg (by rw [e]; exact c1)).trans (if_neg (by rw [e]; exact c2))
      rw [f] at h ⊢
      exact (if_neg c1).trans ((if_neg c2).trans (if_pos h))
/-- a PATTERN has come -/
def gs_Cpt (V : List Int) (t : Nat) (I I' : gr_I) : Prop := I' (t + 13) (Int.toNat (I (t + 11) 1)) = ((V.length : Nat) : Int) ∧ (∀ j, ¬ j = Int.toNat (I (t + 11) 1) → I' (t + 13) j = I (t + 13) j) ∧ (∀ j : Nat, j < V.length → gs_PX (I' (t + 14) (72 * Int.toNat (I (t + 11) 1) + 3 * j)) (V.getD j 0)) ∧ ∀ j : Nat, j < 72 * Int.toNat (I (t + 11) 1) → I' (t + 14) j = I (t + 14) j
theorem gs_Cpt_mk {V : List Int} {t k1 o o0 n : Nat} {I I1 I2 I3 : gr_I} (h : gs_CL I1 V) (e1 : k1 = Int.toNat (I (t + 11) 1)) (p1 : ∀ b j, ¬ (b = t + 13 ∧ j = k1) → I2 b j = I1 b j) (q1 : I2 (t + 13) k1 = I1 39 8) (p2 : ∀ b j, ¬ (b = t + 14 ∧ o ≤ j ∧ j < o + n) → I3 b j = I2 b j) (q2 : ∀ j, j < n → I3 (t + 14) (o + j) = I2 40 (o0 + j)) (ho : o = 72 * k1 ∧ o0 = 0) (hn : n = Int.toNat (3 * I1 39 8)) (h13 : ∀ j, I1 (t + 13) j = I (t + 13) j) (h14 : ∀ j, I1 (t + 14) j = I (t + 14) j) (ht : 144 ≤ t) : gs_Cpt V t I I3 := by
  obtain ⟨rfl, rfl⟩ := ho
  subst e1
  have l := h.1
  refine ⟨(p2 (t + 13) _ (by omega)).trans (q1.trans l.symm), fun j hj => ((p2 (t + 13) j (by omega)).trans (p1 (t + 13) j (by omega))).trans (h13 j), fun j hj => ?_, fun j hj => ((p2 (t + 14) j (by omega)).trans (p1 (t + 14) j (by omega))).trans (h14 j)⟩
  rw [q2 (3 * j) (by omega), show 0 + 3 * j = 3 * j from by omega, p1 40 (3 * j) (by omega)]
  exact h.2 j hj
theorem gc_PU_af {p n : Nat} {w : Int64} {I I1 I2 : gr_I} {J J1 : gr_J} (h : gc_PU p n w I J I1 J1) (e : I2 p 1 = I1 p 1) : gc_PU p n w I J I2 J1 := fun hh => ⟨e.trans (h hh).1, (h hh).2⟩
set_option maxHeartbeats 4000000 in
set_option maxRecDepth 100000 in
theorem d_X6_readPattern_p {ws0 : List Cond} {tb : String → gz_T} (hws : gc_Ws ws0) (htb : gc_tbs tb) (sh : gz_Sh) (ro : Nat → Nat) (I : gr_I) (J : gr_J) (A : gc_A) (hI : gc_Inv ro I) (t : Nat) (B : Int) (β : Int → Int) (η : Int) (p9 : Int) (Ir : gr_I) (Jr : gr_J)  (hb : gc_Base sh ro A) (h_t : gc_isTongue sh ro A t) (G_t : 144 ≤ t)  (x0 : B ≤ 1280 ∧ I 1 17 + I 23 1 ≤ B + I 23 5) (x1 : gc_AT β η p9 23 I J) (x2 : 0 ≤ p9) (x3 : I 1 18 = 0) (x4 : I (t + 11) 1 = Ir 17 (Int.toNat (Ir 0 6))) (x5 : gs_NA (I (t + 11) 1) (J (t + 12)) (fun k => Jr 23 (Int.toNat (24 * Ir 0 6 + (k : Int))))) (x6 : I (t + 3) 1 = Ir 14 (Int.toNat (Ir 0 6))) (x7 : gs_NA (I (t + 3) 1) (J (t + 4)) (fun k => Jr 21 (Int.toNat (48 * Ir 0 6 + (k : Int))))) (x8 : gs_VR Ir I t) (x9 : gs_PT Ir I t) (x10 : I 39 2 = (t : Int)) (KLT_I : gc_LT I) (KTK_I : gc_TK I) : ∃ r h', gz_Ev ws0 tb 5 (yX6_readPattern, cX6_readPattern, 6, (some .boolean)) [.inr (.inr (some 39))] sh (gc_h sh I J A) r sh h' 0 0 ∧ (∃ (I' : gr_I) (J' : gr_J), h' = gc_h sh I' J' A ∧ gc_Inv ro I' ∧ (∀ q j : Nat, ((q = 39 ∧ j = 3) ∨ (q = 39 ∧ j = 4) ∨ (q = 23 ∧ j = 5) ∨ (q = 23 ∧ j = 6) ∨ (q = 23 ∧ j = 7) ∨ (q = 23 ∧ j = 8) ∨ (q = 1 ∧ j = 17) ∨ (q = 1 ∧ j = 18) ∨ q = 20 ∨ (q = 39 ∧ j = 6) ∨ (q = 39 ∧ j = 8) ∨ q = 40 ∨ (q = 41 ∧ j = 0) ∨ (q = 41 ∧ j = 1) ∨ (q = 41 ∧ j = 2) ∨ q = (t + 13) ∨ q = (t + 14) ∨ (q = (t + 11) ∧ j = 1)) ∨ I' q j = I q j) ∧ (∀ q j : Nat, ((q = 23 ∧ j = 9) ∨ q = (t + 12)) ∨ J' q j = J q j) ∧ gc_LT I' ∧ gc_TK I' ∧ (∃ z : Int, r = some (.inl z) ∧ 0 ≤ z ∧ z ≤ 1 ∧ (I' 23 1 = I 23 1) ∧ (I 23 5 ≤ I' 23 5) ∧ (B ≤ 1280 ∧ I' 1 17 + I' 23 1 ≤ B + I' 23 5) ∧ (gs_Or z (0 ≤ (gs_pat β η Ir Jr (I 39 5) p9) ∧ gc_AT β η (gs_pat β η Ir Jr (I 39 5) p9) 23 I' J' ∧ gc_PU (t + 11) 24 (gs_M β η p9) I J I' J' ∧ (I (t + 11) 1 < 24 ∧ I' 1 18 = 0) ∧ gs_Cpt (gs_ptw β η Ir Jr p9).2 t I I') ((gs_pat β η Ir Jr (I 39 5) p9) < 0 ∧ I' 39 4 = -1 - (gs_pat β η Ir Jr (I 39 5) p9) ∧ I' (t + 11) 1 = I (t + 11) 1 ∧ ∀ j, J' (t + 12) j = J (t + 12) j ∧ I' (t + 13) j = I (t + 13) j ∧ I' (t + 14) j = I (t + 14) j)))) := by
  have FI : ∀ q j : Nat, ((q = 39 ∧ j = 3) ∨ (q = 39 ∧ j = 4) ∨ (q = 23 ∧ j = 5) ∨ (q = 23 ∧ j = 6) ∨ (q = 23 ∧ j = 7) ∨ (q = 23 ∧ j = 8) ∨ (q = 1 ∧ j = 17) ∨ (q = 1 ∧ j = 18) ∨ q = 20 ∨ (q = 39 ∧ j = 6) ∨ (q = 39 ∧ j = 8) ∨ q = 40 ∨ (q = 41 ∧ j = 0) ∨ (q = 41 ∧ j = 1) ∨ (q = 41 ∧ j = 2) ∨ q = (t + 13) ∨ q = (t + 14) ∨ (q = (t + 11) ∧ j = 1)) ∨ I q j = I q j := fun _ _ => Or.inr rfl
  have FJ : ∀ q j : Nat, ((q = 23 ∧ j = 9) ∨ q = (t + 12)) ∨ J q j = J q j := fun _ _ => Or.inr rfl
  have A_39_1 : A 39 1 = some 23 := gc_bA hb rfl
  have A_39_9 : A 39 9 = some 40 := gc_bA hb rfl
  have B_23 : 23 < 1000000 := by decide
  have B_39 : 39 < 1000000 := by decide
  have B_40 : 40 < 1000000 := by decide
  have R_1 : ro 1 = 22 := gc_bR hb (by decide) rfl
  have R_23 : ro 23 = 3 := gc_bR hb (by decide) rfl
  have R_39 : ro 39 = 42 := gc_bR hb (by decide) rfl
  have R_40 : ro 40 = 39 := gc_bR hb (by decide) rfl
  have R_41 : ro 41 = 0 := gc_bR hb (by decide) rfl
  have S_23 : sh[23]? = some (false, 9, 10) := gc_bS hb rfl
  have S_39 : sh[39]? = some (false, 6, 19) := gc_bS hb rfl
  have S_40 : sh[40]? = some (true, 1, 72) := gc_bS hb rfl
  obtain ⟨S_t, R_t, B_t, A_t_0, h_t_1, A_t_1, h_t_3, A_t_2, S_t_5, R_t_5, B_t_5, A_t_3, S_t_6, R_t_6, B_t_6, A_t_4, h_t_7, A_t_5, S_t_9, R_t_9, B_t_9, A_t_7, S_t_10, R_t_10, B_t_10, A_t_8, h_t_11, A_t_9, S_t_13, R_t_13, B_t_13, A_t_10, S_t_14, R_t_14, B_t_14, A_t_12, S_t_15, R_t_15, B_t_15, A_t_14, S_t_16, R_t_16, B_t_16, A_t_15, h_t_17⟩ := id h_t
  obtain ⟨S_t_1, R_t_1, B_t_1, A_t_1_0, S_t_1_1, R_t_1_1, B_t_1_1, Q0_t_1, Q1_t_1, Q2_t_1⟩ := id h_t_1
  obtain ⟨S_t_3, R_t_3, B_t_3, A_t_3_0, S_t_3_1, R_t_3_1, B_t_3_1, Q0_t_3, Q1_t_3, Q2_t_3⟩ := id h_t_3
  obtain ⟨S_t_7, R_t_7, B_t_7, A_t_7_0, S_t_7_1, R_t_7_1, B_t_7_1, Q0_t_7, Q1_t_7, Q2_t_7⟩ := id h_t_7
  obtain ⟨S_t_11, R_t_11, B_t_11, A_t_11_0, S_t_11_1, R_t_11_1, B_t_11_1, Q0_t_11, Q1_t_11, Q2_t_11⟩ := id h_t_11
  obtain ⟨S_t_17, R_t_17, B_t_17, A_t_17_0, S_20, R_20, B_20, A_t_17_1, S_t_17_1, R_t_17_1, B_t_17_1, A_t_17_2, S_t_17_2, R_t_17_2, B_t_17_2, A_t_17_3, S_t_17_3, R_t_17_3, B_t_17_3, A_t_17_4, S_t_17_4, R_t_17_4, B_t_17_4, A_t_17_5, S_t_17_5, R_t_17_5, B_t_17_5, S_t_17_6, R_t_17_6, B_t_17_6, S_t_17_7, R_t_17_7, B_t_17_7⟩ := id h_t_17
  have hD : gv_D (gc_E6 ws0 tb 4 (yX6_readPattern, cX6_readPattern, 6, (some .boolean)) kX6_readPattern) := gq_ok oX6_readPattern
  refine gc_ev6 (d := 4) (l := kX6_readPattern) (Po := fun r h' => (∃ (I' : gr_I) (J' : gr_J), h' = gc_h sh I' J' A ∧ gc_Inv ro I' ∧ (∀ q j : Nat, ((q = 39 ∧ j = 3) ∨ (q = 39 ∧ j = 4) ∨ (q = 23 ∧ j = 5) ∨ (q = 23 ∧ j = 6) ∨ (q = 23 ∧ j = 7) ∨ (q = 23 ∧ j = 8) ∨ (q = 1 ∧ j = 17) ∨ (q = 1 ∧ j = 18) ∨ q = 20 ∨ (q = 39 ∧ j = 6) ∨ (q = 39 ∧ j = 8) ∨ q = 40 ∨ (q = 41 ∧ j = 0) ∨ (q = 41 ∧ j = 1) ∨ (q = 41 ∧ j = 2) ∨ q = (t + 13) ∨ q = (t + 14) ∨ (q = (t + 11) ∧ j = 1)) ∨ I' q j = I q j) ∧ (∀ q j : Nat, ((q = 23 ∧ j = 9) ∨ q = (t + 12)) ∨ J' q j = J q j) ∧ gc_LT I' ∧ gc_TK I' ∧ (∃ z : Int, r = some (.inl z) ∧ 0 ≤ z ∧ z ≤ 1 ∧ (I' 23 1 = I 23 1) ∧ (I 23 5 ≤ I' 23 5) ∧ (B ≤ 1280 ∧ I' 1 17 + I' 23 1 ≤ B + I' 23 5) ∧ (gs_Or z (0 ≤ (gs_pat β η Ir Jr (I 39 5) p9) ∧ gc_AT β η (gs_pat β η Ir Jr (I 39 5) p9) 23 I' J' ∧ gc_PU (t + 11) 24 (gs_M β η p9) I J I' J' ∧ (I (t + 11) 1 < 24 ∧ I' 1 18 = 0) ∧ gs_Cpt (gs_ptw β η Ir Jr p9).2 t I I') ((gs_pat β η Ir Jr (I 39 5) p9) < 0 ∧ I' 39 4 = -1 - (gs_pat β η Ir Jr (I 39 5) p9) ∧ I' (t + 11) 1 = I (t + 11) 1 ∧ ∀ j, J' (t + 12) j = J (t + 12) j ∧ I' (t + 13) j = I (t + 13) j ∧ I' (t + 14) j = I (t + 14) j))))) htb rfl (Nat.le_of_ble_eq_true rfl) ?_
  have N_23__t_11 : ¬ (23 = (t + 11)) := by omega
  have N_41__t_11 : ¬ (41 = (t + 11)) := by omega
  have N_24__t_11 : ¬ (24 = (t + 11)) := by omega
  have N_23__t_12 : ¬ (23 = (t + 12)) := by omega
  have N_23__t_13 : ¬ (23 = (t + 13)) := by omega
  have N_1__t_13 : ¬ (1 = (t + 13)) := by omega
  have N_t_11__t_13 : ¬ ((t + 11) = (t + 13)) := by omega
  have N_41__t_13 : ¬ (41 = (t + 13)) := by omega
  have N_39__t_13 : ¬ (39 = (t + 13)) := by omega
  have N_24__t_13 : ¬ (24 = (t + 13)) := by omega
  have N_23__t_14 : ¬ (23 = (t + 14)) := by omega
  have N_24__t_14 : ¬ (24 = (t + 14)) := by omega
  have N_1__t_14 : ¬ (1 = (t + 14)) := by omega
  have N_t_11__t_14 : ¬ ((t + 11) = (t + 14)) := by omega
  have N_41__t_14 : ¬ (41 = (t + 14)) := by omega
  have N_39__t_14 : ¬ (39 = (t + 14)) := by omega
  have N_t_11__20 : ¬ ((t + 11) = 20) := by omega
  have N_t_11__41 : ¬ ((t + 11) = 41) := by omega
  have N_t_11__40 : ¬ ((t + 11) = 40) := by omega
  have t1 := gc_TK_mo KTK_I
  have f2 := (show 0 ≤ I 23 1 ∧ I 23 1 ≤ 1000 from gc_in hI R_23 rfl rfl)
  have f3 := (show 0 ≤ I 23 5 ∧ I 23 5 ≤ 1000 from gc_in hI R_23 rfl rfl)
  have f4 := (show 0 ≤ I 23 6 ∧ I 23 6 ≤ 1001 from gc_in hI R_23 rfl rfl)
  have f5 := (show 0 ≤ I 23 7 ∧ I 23 7 ≤ 125 from gc_in hI R_23 rfl rfl)
  have f6 := (show 0 ≤ I 1 17 ∧ I 1 17 ≤ 12000 from gc_in hI R_1 rfl rfl)
  have f7 := (show 0 ≤ I (t + 11) 1 ∧ I (t + 11) 1 ≤ 24 from gc_in hI R_t_11 rfl rfl)
  have f8 := (show (-2147483648) ≤ I 41 0 ∧ I 41 0 ≤ 2147483647 from gc_in hI R_41 rfl rfl)
  have f9 := (show (-2147483648) ≤ I 41 1 ∧ I 41 1 ≤ 2147483647 from gc_in hI R_41 rfl rfl)
  have f10 := (show (-2147483648) ≤ I 41 2 ∧ I 41 2 ≤ 2147483647 from gc_in hI R_41 rfl rfl)
  have f11 := (show 0 ≤ I 39 5 ∧ I 39 5 ≤ 1000 from gc_in hI R_39 rfl rfl)
  have f12 := (show 0 ≤ I 1 18 ∧ I 1 18 ≤ 1 from gc_in hI R_1 rfl rfl)
  have f13 := (show 0 ≤ I 39 8 ∧ I 39 8 ≤ 24 from gc_in hI R_39 rfl rfl)
  have f14 := (show (-1) ≤ I 39 2 ∧ I 39 2 ≤ 999999 from gc_in hI R_39 rfl rfl)
  have tAT := gc_AT_l x1
  have L55 : ∀ (I15 : gr_I) (J16 : gr_J) (v1_17 : Int64) (p_17 : Int), gc_Inv ro I15 → (∀ q j : Nat, ((q = 39 ∧ j = 3) ∨ (q = 39 ∧ j = 4) ∨ (q = 23 ∧ j = 5) ∨ (q = 23 ∧ j = 6) ∨ (q = 23 ∧ j = 7) ∨ (q = 23 ∧ j = 8) ∨ (q = 1 ∧ j = 17) ∨ (q = 1 ∧ j = 18) ∨ q = 20 ∨ (q = 39 ∧ j = 6) ∨ (q = 39 ∧ j = 8) ∨ q = 40 ∨ (q = 41 ∧ j = 0) ∨ (q = 41 ∧ j = 1) ∨ (q = 41 ∧ j = 2) ∨ q = (t + 13) ∨ q = (t + 14) ∨ (q = (t + 11) ∧ j = 1)) ∨ I15 q j = I q j) → (∀ q j : Nat, ((q = 23 ∧ j = 9) ∨ q = (t + 12)) ∨ J16 q j = J q j) → gc_LT I15 → gc_TK I15 → ((0 ≤ p_17) ∧ (I15 1 18 = 0) ∧ (I15 23 1 = I 23 1) ∧ (I 23 5 ≤ I15 23 5) ∧ (B ≤ 1280 ∧ I15 1 17 + I15 23 1 ≤ B + I15 23 5) ∧ (I15 39 2 = (t : Int))) → (gc_AT β η p_17 23 I15 J16) → (v1_17 = gs_M β η p9) → (∃ V : List Int, gs_ptw β η Ir Jr p9 = gs_pt2 β η Ir Jr V p_17 ∧ gs_CL I15 V) → ((I15 (t + 11) 1 = I (t + 11) 1) ∧ (∀ k, J16 (t + 12) k = J (t + 12) k) ∧ (∀ k, I15 (t + 13) k = I (t + 13) k) ∧ (∀ k, I15 (t + 14) k = I (t + 14) k) ∧ (I15 39 5 = I 39 5)) → gv_X (gc_E6 ws0 tb 4 (yX6_readPattern, cX6_readPattern, 6, (some .boolean)) kX6_readPattern) (gv_Q cX6_readPattern (some .boolean) sh (fun r h' => (∃ (I' : gr_I) (J' : gr_J), h' = gc_h sh I' J' A ∧ gc_Inv ro I' ∧ (∀ q j : Nat, ((q = 39 ∧ j = 3) ∨ (q = 39 ∧ j = 4) ∨ (q = 23 ∧ j = 5) ∨ (q = 23 ∧ j = 6) ∨ (q = 23 ∧ j = 7) ∨ (q = 23 ∧ j = 8) ∨ (q = 1 ∧ j = 17) ∨ (q = 1 ∧ j = 18) ∨ q = 20 ∨ (q = 39 ∧ j = 6) ∨ (q = 39 ∧ j = 8) ∨ q = 40 ∨ (q = 41 ∧ j = 0) ∨ (q = 41 ∧ j = 1) ∨ (q = 41 ∧ j = 2) ∨ q = (t + 13) ∨ q = (t + 14) ∨ (q = (t + 11) ∧ j = 1)) ∨ I' q j = I q j) ∧ (∀ q j : Nat, ((q = 23 ∧ j = 9) ∨ q = (t + 12)) ∨ J' q j = J q j) ∧ gc_LT I' ∧ gc_TK I' ∧ (∃ z : Int, r = some (.inl z) ∧ 0 ≤ z ∧ z ≤ 1 ∧ (I' 23 1 = I 23 1) ∧ (I 23 5 ≤ I' 23 5) ∧ (B ≤ 1280 ∧ I' 1 17 + I' 23 1 ≤ B + I' 23 5) ∧ (gs_Or z (0 ≤ (gs_pat β η Ir Jr (I 39 5) p9) ∧ gc_AT β η (gs_pat β η Ir Jr (I 39 5) p9) 23 I' J' ∧ gc_PU (t + 11) 24 (gs_M β η p9) I J I' J' ∧ (I (t + 11) 1 < 24 ∧ I' 1 18 = 0) ∧ gs_Cpt (gs_ptw β η Ir Jr p9).2 t I I') ((gs_pat β η Ir Jr (I 39 5) p9) < 0 ∧ I' 39 4 = -1 - (gs_pat β η Ir Jr (I 39 5) p9) ∧ I' (t + 11) 1 = I (t + 11) 1 ∧ ∀ j, J' (t + 12) j = J (t + 12) j ∧ I' (t + 13) j = I (t + 13) j ∧ I' (t + 14) j = I (t + 14) j)))))) (55, [(0, .inr (.inr (some 39))), (1, .inr (.inl v1_17))], [], sh, gc_h sh I15 J16 A) := by
    intro I15 J16 v1_17 p_17 hI15 FI15 FJ16 KLT_I15 KTK_I15 m_17 e1_17 e2_17 e3_17 e4_17
    obtain ⟨e0_17, e5_17, e6_17, e7_17, e8_17, e9_17⟩ := m_17
    have t18 := gc_TK_mo KTK_I15
    have f19 := (show 0 ≤ I15 23 1 ∧ I15 23 1 ≤ 1000 from gc_in hI15 R_23 rfl rfl)
    have f20 := (show 0 ≤ I15 23 5 ∧ I15 23 5 ≤ 1000 from gc_in hI15 R_23 rfl rfl)
    have f21 := (show 0 ≤ I15 23 6 ∧ I15 23 6 ≤ 1001 from gc_in hI15 R_23 rfl rfl)
    have f22 := (show 0 ≤ I15 23 7 ∧ I15 23 7 ≤ 125 from gc_in hI15 R_23 rfl rfl)
    have f23 := (show 0 ≤ I15 1 17 ∧ I15 1 17 ≤ 12000 from gc_in hI15 R_1 rfl rfl)
    have f24 := (show 0 ≤ I15 (t + 11) 1 ∧ I15 (t + 11) 1 ≤ 24 from gc_in hI15 R_t_11 rfl rfl)
    have f25 := (show (-2147483648) ≤ I15 41 0 ∧ I15 41 0 ≤ 2147483647 from gc_in hI15 R_41 rfl rfl)
    have f26 := (show (-2147483648) ≤ I15 41 1 ∧ I15 41 1 ≤ 2147483647 from gc_in hI15 R_41 rfl rfl)
    have f27 := (show (-2147483648) ≤ I15 41 2 ∧ I15 41 2 ≤ 2147483647 from gc_in hI15 R_41 rfl rfl)
    have f28 := (show 0 ≤ I15 39 5 ∧ I15 39 5 ≤ 1000 from gc_in hI15 R_39 rfl rfl)
    have f29 := (show 0 ≤ I15 1 18 ∧ I15 1 18 ≤ 1 from gc_in hI15 R_1 rfl rfl)
    have f30 := (show 0 ≤ I15 39 8 ∧ I15 39 8 ≤ 24 from gc_in hI15 R_39 rfl rfl)
    have f31 := (show (-1) ≤ I15 39 2 ∧ I15 39 2 ≤ 999999 from gc_in hI15 R_39 rfl rfl)
    have t32 := gc_AT_l e1_17
    have L74 : ∀ (n9 : Nat) (I33 : gr_I) (J34 : gr_J) (v3_35 : Int) (v4_35 : Int) (v5_35 : Int) (p_35 : Int), (1001 - v5_35).toNat < n9 → gc_Inv ro I33 → (∀ q j : Nat, ((q = 39 ∧ j = 3) ∨ (q = 39 ∧ j = 4) ∨ (q = 23 ∧ j = 5) ∨ (q = 23 ∧ j = 6) ∨ (q = 23 ∧ j = 7) ∨ (q = 23 ∧ j = 8) ∨ (q = 1 ∧ j = 17) ∨ (q = 1 ∧ j = 18) ∨ q = 20 ∨ (q = 39 ∧ j = 6) ∨ (q = 39 ∧ j = 8) ∨ q = 40 ∨ (q = 41 ∧ j = 0) ∨ (q = 41 ∧ j = 1) ∨ (q = 41 ∧ j = 2) ∨ q = (t + 13) ∨ q = (t + 14) ∨ (q = (t + 11) ∧ j = 1)) ∨ I33 q j = I q j) → (∀ q j : Nat, ((q = 23 ∧ j = 9) ∨ q = (t + 12)) ∨ J34 q j = J q j) → gc_LT I33 → gc_TK I33 → ((0 ≤ v3_35 ∧ v3_35 ≤ 1) ∧ (0 ≤ v4_35 ∧ v4_35 ≤ 1) ∧ (0 ≤ v5_35 ∧ v5_35 ≤ 1000) ∧ (0 ≤ p_35) ∧ ((v4_35 = 1 ∧ 2 * v5_35 ≤ I33 23 5) ∨ v4_35 = 0) ∧ (I33 1 18 = 0) ∧ (I33 23 1 = I 23 1) ∧ (I 23 5 ≤ I33 23 5) ∧ (B ≤ 1280 ∧ I33 1 17 + I33 23 1 ≤ B + I33 23 5) ∧ (I33 39 2 = (t : Int))) → (gc_AT β η p_35 23 I33 J34) → (v1_17 = gs_M β η p9) → (∃ V : List Int, gs_ptw β η Ir Jr p9 = (if v4_35 = 0 then (p_35, V) else gs_pc β η Ir Jr (Int.toNat (1002 - v5_35)) V p_35) ∧ ((v3_35 = 0 ∧ gs_CL I33 V) ∨ (v3_35 = 1 ∧ 25 ≤ ((V.length : Nat) : Int)))) → ((I33 (t + 11) 1 = I (t + 11) 1) ∧ (∀ k, J34 (t + 12) k = J (t + 12) k) ∧ (∀ k, I33 (t + 13) k = I (t + 13) k) ∧ (∀ k, I33 (t + 14) k = I (t + 14) k) ∧ (I33 39 5 = I 39 5)) → gv_X (gc_E6 ws0 tb 4 (yX6_readPattern, cX6_readPattern, 6, (some .boolean)) kX6_readPattern) (gv_Q cX6_readPattern (some .boolean) sh (fun r h' => (∃ (I' : gr_I) (J' : gr_J), h' = gc_h sh I' J' A ∧ gc_Inv ro I' ∧ (∀ q j : Nat, ((q = 39 ∧ j = 3) ∨ (q = 39 ∧ j = 4) ∨ (q = 23 ∧ j = 5) ∨ (q = 23 ∧ j = 6) ∨ (q = 23 ∧ j = 7) ∨ (q = 23 ∧ j = 8) ∨ (q = 1 ∧ j = 17) ∨ (q = 1 ∧ j = 18) ∨ q = 20 ∨ (q = 39 ∧ j = 6) ∨ (q = 39 ∧ j = 8) ∨ q = 40 ∨ (q = 41 ∧ j = 0) ∨ (q = 41 ∧ j = 1) ∨ (q = 41 ∧ j = 2) ∨ q = (t + 13) ∨ q = (t + 14) ∨ (q = (t + 11) ∧ j = 1)) ∨ I' q j = I q j) ∧ (∀ q j : Nat, ((q = 23 ∧ j = 9) ∨ q = (t + 12)) ∨ J' q j = J q j) ∧ gc_LT I' ∧ gc_TK I' ∧ (∃ z : Int, r = some (.inl z) ∧ 0 ≤ z ∧ z ≤ 1 ∧ (I' 23 1 = I 23 1) ∧ (I 23 5 ≤ I' 23 5) ∧ (B ≤ 1280 ∧ I' 1 17 + I' 23 1 ≤ B + I' 23 5) ∧ (gs_Or z (0 ≤ (gs_pat β η Ir Jr (I 39 5) p9) ∧ gc_AT β η (gs_pat β η Ir Jr (I 39 5) p9) 23 I' J' ∧ gc_PU (t + 11) 24 (gs_M β η p9) I J I' J' ∧ (I (t + 11) 1 < 24 ∧ I' 1 18 = 0) ∧ gs_Cpt (gs_ptw β η Ir Jr p9).2 t I I') ((gs_pat β η Ir Jr (I 39 5) p9) < 0 ∧ I' 39 4 = -1 - (gs_pat β η Ir Jr (I 39 5) p9) ∧ I' (t + 11) 1 = I (t + 11) 1 ∧ ∀ j, J' (t + 12) j = J (t + 12) j ∧ I' (t + 13) j = I (t + 13) j ∧ I' (t + 14) j = I (t + 14) j)))))) (74, [(0, .inr (.inr (some 39))), (1, .inr (.inl v1_17)), (3, .inl v3_35), (4, .inl v4_35), (5, .inl v5_35)], [], sh, gc_h sh I33 J34 A) := by
      intro n9
      induction n9 with
      | zero => intro I33 J34 v3_35 v4_35 v5_35 p_35 hn; omega
      | succ n9 ih74 =>
        intro I33 J34 v3_35 v4_35 v5_35 p_35 hn hI33 FI33 FJ34 KLT_I33 KTK_I33 m_35 e1_35 e2_35 e3_35 e4_35
        clear e0_17 e5_17 e6_17 e7_17 e8_17 e9_17 t18 f19 f20 f21 f22 f23 f24 f25 f26 f27 f28 f29 f30 f31 t32
        obtain ⟨hv3_35, hv4_35, hv5_35, e0_35, e5_35, e6_35, e7_35, e8_35, e9_35, e10_35⟩ := m_35
        have t36 := gc_TK_mo KTK_I33
        have f37 := (show 0 ≤ I33 23 1 ∧ I33 23 1 ≤ 1000 from gc_in hI33 R_23 rfl rfl)
        have f38 := (show 0 ≤ I33 23 5 ∧ I33 23 5 ≤ 1000 from gc_in hI33 R_23 rfl rfl)
        have f39 := (show 0 ≤ I33 23 6 ∧ I33 23 6 ≤ 1001 from gc_in hI33 R_23 rfl rfl)
        have f40 := (show 0 ≤ I33 23 7 ∧ I33 23 7 ≤ 125 from gc_in hI33 R_23 rfl rfl)
        have f41 := (show 0 ≤ I33 1 17 ∧ I33 1 17 ≤ 12000 from gc_in hI33 R_1 rfl rfl)
        have f42 := (show 0 ≤ I33 (t + 11) 1 ∧ I33 (t + 11) 1 ≤ 24 from gc_in hI33 R_t_11 rfl rfl)
        have f43 := (show (-2147483648) ≤ I33 41 0 ∧ I33 41 0 ≤ 2147483647 from gc_in hI33 R_41 rfl rfl)
        have f44 := (show (-2147483648) ≤ I33 41 1 ∧ I33 41 1 ≤ 2147483647 from gc_in hI33 R_41 rfl rfl)
        have f45 := (show (-2147483648) ≤ I33 41 2 ∧ I33 41 2 ≤ 2147483647 from gc_in hI33 R_41 rfl rfl)
        have f46 := (show 0 ≤ I33 39 5 ∧ I33 39 5 ≤ 1000 from gc_in hI33 R_39 rfl rfl)
        have f47 := (show 0 ≤ I33 1 18 ∧ I33 1 18 ≤ 1 from gc_in hI33 R_1 rfl rfl)
        have f48 := (show 0 ≤ I33 39 8 ∧ I33 39 8 ≤ 24 from gc_in hI33 R_39 rfl rfl)
        have f49 := (show (-1) ≤ I33 39 2 ∧ I33 39 2 ≤ 999999 from gc_in hI33 R_39 rfl rfl)
        have t50 := gc_AT_l e1_35
        have L150 : ((0 ≤ v3_35 ∧ v3_35 ≤ 1) ∧ (0 ≤ p_35) ∧ (I33 1 18 = 0) ∧ (I33 23 1 = I 23 1) ∧ (I 23 5 ≤ I33 23 5) ∧ (B ≤ 1280 ∧ I33 1 17 + I33 23 1 ≤ B + I33 23 5) ∧ (I33 39 2 = (t : Int))) → (gc_AT β η p_35 23 I33 J34) → (v1_17 = gs_M β η p9) → (∃ V : List Int, gs_ptw β η Ir Jr p9 = (p_35, V) ∧ ((v3_35 = 0 ∧ gs_CL I33 V) ∨ (v3_35 = 1 ∧ 25 ≤ ((V.length : Nat) : Int)))) → ((I33 (t + 11) 1 = I (t + 11) 1) ∧ (∀ k, J34 (t + 12) k = J (t + 12) k) ∧ (∀ k, I33 (t + 13) k = I (t + 13) k) ∧ (∀ k, I33 (t + 14) k = I (t + 14) k) ∧ (I33 39 5 = I 39 5)) → gv_X (gc_E6 ws0 tb 4 (yX6_readPattern, cX6_readPattern, 6, (some .boolean)) kX6_readPattern) (gv_Q cX6_readPattern (some .boolean) sh (fun r h' => (∃ (I' : gr_I) (J' : gr_J), h' = gc_h sh I' J' A ∧ gc_Inv ro I' ∧ (∀ q j : Nat, ((q = 39 ∧ j = 3) ∨ (q = 39 ∧ j = 4) ∨ (q = 23 ∧ j = 5) ∨ (q = 23 ∧ j = 6) ∨ (q = 23 ∧ j = 7) ∨ (q = 23 ∧ j = 8) ∨ (q = 1 ∧ j = 17) ∨ (q = 1 ∧ j = 18) ∨ q = 20 ∨ (q = 39 ∧ j = 6) ∨ (q = 39 ∧ j = 8) ∨ q = 40 ∨ (q = 41 ∧ j = 0) ∨ (q = 41 ∧ j = 1) ∨ (q = 41 ∧ j = 2) ∨ q = (t + 13) ∨ q = (t + 14) ∨ (q = (t + 11) ∧ j = 1)) ∨ I' q j = I q j) ∧ (∀ q j : Nat, ((q = 23 ∧ j = 9) ∨ q = (t + 12)) ∨ J' q j = J q j) ∧ gc_LT I' ∧ gc_TK I' ∧ (∃ z : Int, r = some (.inl z) ∧ 0 ≤ z ∧ z ≤ 1 ∧ (I' 23 1 = I 23 1) ∧ (I 23 5 ≤ I' 23 5) ∧ (B ≤ 1280 ∧ I' 1 17 + I' 23 1 ≤ B + I' 23 5) ∧ (gs_Or z (0 ≤ (gs_pat β η Ir Jr (I 39 5) p9) ∧ gc_AT β η (gs_pat β η Ir Jr (I 39 5) p9) 23 I' J' ∧ gc_PU (t + 11) 24 (gs_M β η p9) I J I' J' ∧ (I (t + 11) 1 < 24 ∧ I' 1 18 = 0) ∧ gs_Cpt (gs_ptw β η Ir Jr p9).2 t I I') ((gs_pat β η Ir Jr (I 39 5) p9) < 0 ∧ I' 39 4 = -1 - (gs_pat β η Ir Jr (I 39 5) p9) ∧ I' (t + 11) 1 = I (t + 11) 1 ∧ ∀ j, J' (t + 12) j = J (t + 12) j ∧ I' (t + 13) j = I (t + 13) j ∧ I' (t + 14) j = I (t + 14) j)))))) (150, [(0, .inr (.inr (some 39))), (1, .inr (.inl v1_17)), (3, .inl v3_35)], [], sh, gc_h sh I33 J34 A) := by
          intro m_51 e1_51 e2_51 e3_51 e4_51
          obtain ⟨hv3_35_51, e0_51, e5_51, e6_51, e7_51, e8_51, e9_51⟩ := m_51
          have t52 := gc_TK_mo KTK_I33
          have f53 := (show 0 ≤ I33 23 1 ∧ I33 23 1 ≤ 1000 from gc_in hI33 R_23 rfl rfl)
          have f54 := (show 0 ≤ I33 23 5 ∧ I33 23 5 ≤ 1000 from gc_in hI33 R_23 rfl rfl)
          have f55 := (show 0 ≤ I33 23 6 ∧ I33 23 6 ≤ 1001 from gc_in hI33 R_23 rfl rfl)
          have f56 := (show 0 ≤ I33 23 7 ∧ I33 23 7 ≤ 125 from gc_in hI33 R_23 rfl rfl)
          have f57 := (show 0 ≤ I33 1 17 ∧ I33 1 17 ≤ 12000 from gc_in hI33 R_1 rfl rfl)
          have f58 := (show 0 ≤ I33 (t + 11) 1 ∧ I33 (t + 11) 1 ≤ 24 from gc_in hI33 R_t_11 rfl rfl)
          have f59 := (show (-2147483648) ≤ I33 41 0 ∧ I33 41 0 ≤ 2147483647 from gc_in hI33 R_41 rfl rfl)
          have f60 := (show (-2147483648) ≤ I33 41 1 ∧ I33 41 1 ≤ 2147483647 from gc_in hI33 R_41 rfl rfl)
          have f61 := (show (-2147483648) ≤ I33 41 2 ∧ I33 41 2 ≤ 2147483647 from gc_in hI33 R_41 rfl rfl)
          have f62 := (show 0 ≤ I33 39 5 ∧ I33 39 5 ≤ 1000 from gc_in hI33 R_39 rfl rfl)
          have f63 := (show 0 ≤ I33 1 18 ∧ I33 1 18 ≤ 1 from gc_in hI33 R_1 rfl rfl)
          have f64 := (show 0 ≤ I33 39 8 ∧ I33 39 8 ≤ 24 from gc_in hI33 R_39 rfl rfl)
          have f65 := (show (-1) ≤ I33 39 2 ∧ I33 39 2 ≤ 999999 from gc_in hI33 R_39 rfl rfl)
          have t66 := gc_AT_l e1_35
          refine gv_run 2 true hD (pc' := 153) (lv' := [(0, .inr (.inr (some 39))), (1, .inr (.inl v1_17)), (3, .inl v3_35)]) (st' := [.inl 125, .inr (.inr (some 39))]) (h' := gc_h sh I33 J34 A) (C := ((True ∧ True) ∧ True)) rfl ⟨⟨trivial, trivial⟩, trivial⟩ ?_
          obtain ⟨r67, h67, E67, P67⟩ := d_X6_take_p (ws0 := ws0) (tb := tb) hws htb sh ro I33 J34 A hI33  β η p_35 125 hb   ⟨by omega, by omega⟩ (by omega) e1_35 (by omega) KLT_I33 KTK_I33
          obtain ⟨I68, J69, rfl, hI68, g67, k67, KLT_I68, KTK_I68, ⟨z67, rfl, q67⟩⟩ := P67
          have FI68 := gc_frc (W := fun q j => (q = 39 ∧ j = 3) ∨ (q = 39 ∧ j = 4) ∨ (q = 23 ∧ j = 5) ∨ (q = 23 ∧ j = 6) ∨ (q = 23 ∧ j = 7) ∨ (q = 23 ∧ j = 8) ∨ (q = 1 ∧ j = 17) ∨ (q = 1 ∧ j = 18) ∨ q = 20 ∨ (q = 39 ∧ j = 6) ∨ (q = 39 ∧ j = 8) ∨ q = 40 ∨ (q = 41 ∧ j = 0) ∨ (q = 41 ∧ j = 1) ∨ (q = 41 ∧ j = 2) ∨ q = (t + 13) ∨ q = (t + 14) ∨ (q = (t + 11) ∧ j = 1)) (V := fun q j => (q = 39 ∧ j = 3) ∨ (q = 39 ∧ j = 4) ∨ (q = 23 ∧ j = 5) ∨ (q = 23 ∧ j = 6) ∨ (q = 23 ∧ j = 7) ∨ (q = 23 ∧ j = 8)) FI33 (fun q j h => (h.elim (fun h => (Or.inl h)) (fun h => (h.elim (fun h => (Or.inr (Or.inl h))) (fun h => (h.elim (fun h => (Or.inr (Or.inr (Or.inl h)))) (fun h => (h.elim (fun h => (Or.inr (Or.inr (Or.inr (Or.inl h))))) (fun h => (h.elim (fun h => (Or.inr (Or.inr (Or.inr (Or.inr (Or.inl h)))))) (fun h => (Or.inr (Or.inr (Or.inr (Or.inr (Or.inr (Or.inl h))))))))))))))))) g67
          have FJ69 := gc_frc (W := fun q j => (q = 23 ∧ j = 9) ∨ q = (t + 12)) (V := fun q j => (q = 23 ∧ j = 9)) FJ34 (fun q j h => (Or.inl h)) k67
          have t70 := (g67 23 1).resolve_left (fun h => h.elim (fun h => absurd h.2 (by decide)) (fun h => h.elim (fun h => absurd h.2 (by decide)) (fun h => h.elim (fun h => absurd h.2 (by decide)) (fun h => h.elim (fun h => absurd h.2 (by decide)) (fun h => h.elim (fun h => absurd h.2 (by decide)) (fun h => absurd h.2 (by decide)))))))
          have t71 := (g67 1 17).resolve_left (fun h => h.elim (fun h => absurd h.2 (by decide)) (fun h => h.elim (fun h => absurd h.2 (by decide)) (fun h => h.elim (fun h => absurd h.2 (by decide)) (fun h => h.elim (fun h => absurd h.2 (by decide)) (fun h => h.elim (fun h => absurd h.2 (by decide)) (fun h => absurd h.2 (by decide)))))))
          have t72 := (g67 (t + 11) 1).resolve_left (fun h => h.elim (fun h => absurd h.2 (by decide)) (fun h => h.elim (fun h => absurd h.2 (by decide)) (fun h => h.elim (fun h => absurd h.2 (by decide)) (fun h => h.elim (fun h => absurd h.2 (by decide)) (fun h => h.elim (fun h => absurd h.2 (by decide)) (fun h => absurd h.2 (by decide)))))))
          have t73 := (g67 41 0).resolve_left (fun h => h.elim (fun h => absurd h.2 (by decide)) (fun h => h.elim (fun h => absurd h.2 (by decide)) (fun h => h.elim (fun h => absurd h.2 (by decide)) (fun h => h.elim (fun h => absurd h.2 (by decide)) (fun h => h.elim (fun h => absurd h.2 (by decide)) (fun h => absurd h.2 (by decide)))))))
          have t74 := (g67 41 1).resolve_left (fun h => h.elim (fun h => absurd h.2 (by decide)) (fun h => h.elim (fun h => absurd h.2 (by decide)) (fun h => h.elim (fun h => absurd h.2 (by decide)) (fun h => h.elim (fun h => absurd h.2 (by decide)) (fun h => h.elim (fun h => absurd h.2 (by decide)) (fun h => absurd h.2 (by decide)))))))
          have t75 := (g67 41 2).resolve_left (fun h => h.elim (fun h => absurd h.2 (by decide)) (fun h => h.elim (fun h => absurd h.2 (by decide)) (fun h => h.elim (fun h => absurd h.2 (by decide)) (fun h => h.elim (fun h => absurd h.2 (by decide)) (fun h => h.elim (fun h => absurd h.2 (by decide)) (fun h => absurd h.2 (by decide)))))))
          have t76 := (g67 39 5).resolve_left (fun h => h.elim (fun h => absurd h.2 (by decide)) (fun h => h.elim (fun h => absurd h.2 (by decide)) (fun h => h.elim (fun h => absurd h.1 (by decide)) (fun h => h.elim (fun h => absurd h.2 (by decide)) (fun h => h.elim (fun h => absurd h.2 (by decide)) (fun h => absurd h.2 (by decide)))))))
          have t77 := (g67 1 18).resolve_left (fun h => h.elim (fun h => absurd h.2 (by decide)) (fun h => h.elim (fun h => absurd h.2 (by decide)) (fun h => h.elim (fun h => absurd h.2 (by decide)) (fun h => h.elim (fun h => absurd h.2 (by decide)) (fun h => h.elim (fun h => absurd h.2 (by decide)) (fun h => absurd h.2 (by decide)))))))
          have t78 := (g67 39 8).resolve_left (fun h => h.elim (fun h => absurd h.2 (by decide)) (fun h => h.elim (fun h => absurd h.2 (by decide)) (fun h => h.elim (fun h => absurd h.2 (by decide)) (fun h => h.elim (fun h => absurd h.2 (by decide)) (fun h => h.elim (fun h => absurd h.2 (by decide)) (fun h => absurd h.1 (by decide)))))))
          have t79 := (g67 39 2).resolve_left (fun h => h.elim (fun h => absurd h.2 (by decide)) (fun h => h.elim (fun h => absurd h.2 (by decide)) (fun h => h.elim (fun h => absurd h.2 (by decide)) (fun h => h.elim (fun h => absurd h.2 (by decide)) (fun h => h.elim (fun h => absurd h.2 (by decide)) (fun h => absurd h.2 (by decide)))))))
          have f80 := (show 0 ≤ I68 23 5 ∧ I68 23 5 ≤ 1000 from gc_in hI68 R_23 rfl rfl)
          have f81 := (show 0 ≤ I68 23 6 ∧ I68 23 6 ≤ 1001 from gc_in hI68 R_23 rfl rfl)
          have f82 := (show 0 ≤ I68 23 7 ∧ I68 23 7 ≤ 125 from gc_in hI68 R_23 rfl rfl)
          have t83 := gc_TK_mo KTK_I68
          obtain ⟨V9, h9a, h9b⟩ := id e3_51
          have h9c : (v3_35 = 0 ∧ ((V9.length : Nat) : Int) = I33 39 8) ∨ (v3_35 = 1 ∧ 25 ≤ ((V9.length : Nat) : Int)) := h9b.imp (fun h => ⟨h.1, h.2.1⟩) id
          refine gv_callV hD rfl (As := [.inl 125]) (st := []) rfl B_39 S_39 rfl (gc_lV6 hws rfl) (Nat.le_of_ble_eq_true rfl) (gz_Ev_mono (d := 3) (by decide) E67) ?_
          show gv_X _ _ (156, [(0, .inr (.inr (some 39))), (1, .inr (.inl v1_17)), (3, .inl v3_35)], [.inl z67], sh, gc_h sh I68 J69 A)
          refine gv_if_eq (t := 188) hD rfl rfl ⟨by omega, by omega⟩ (fun c84 => ?_) (fun c84 => ?_)
          · show gv_X _ _ (188, [(0, .inr (.inr (some 39))), (1, .inr (.inl v1_17)), (3, .inl v3_35)], [], sh, gc_h sh I68 J69 A)
            obtain ⟨u85, u85_⟩ := gs_or0 q67.2.2.2.2.2 (by omega)
            refine gv_run 1 true hD (pc' := 189) (lv' := [(0, .inr (.inr (some 39))), (1, .inr (.inl v1_17)), (3, .inl v3_35)]) (st' := [.inl 0]) (h' := gc_h sh I68 J69 A) (C := (True ∧ True)) rfl ⟨trivial, trivial⟩ ?_
            exact gv_zret hD rfl (by omega) ⟨I68, J69, rfl, hI68, FI68, FJ69, KLT_I68, KTK_I68, ⟨_, rfl, by omega, by omega, by omega, by omega, by omega, (Or.inr ⟨by omega, by first | (exfalso; omega) | (rw [gs_pat_e h9a (by omega) rfl]; unfold gs_pt4; (repeat first | rw [if_pos (by omega)] | rw [if_neg (by omega)]); exact ⟨by omega, by omega, (((g67 (t + 11) 1).resolve_left (by omega)).trans (e4_51.1)), fun j => ⟨(((k67 (t + 12) j).resolve_left (by omega)).trans (e4_51.2.1 j)), (((g67 (t + 13) j).resolve_left (by omega)).trans (e4_51.2.2.1 j)), (((g67 (t + 14) j).resolve_left (by omega)).trans (e4_51.2.2.2.1 j))⟩⟩)⟩)⟩⟩
          · show gv_X _ _ (159, [(0, .inr (.inr (some 39))), (1, .inr (.inl v1_17)), (3, .inl v3_35)], [], sh, gc_h sh I68 J69 A)
            obtain ⟨u86, A86⟩ := gs_or1 q67.2.2.2.2.2 (by omega)
            have t87 := gc_AT_l A86
            refine gv_run 2 true hD (pc' := 161) (lv' := [(0, .inr (.inr (some 39))), (1, .inr (.inl v1_17)), (3, .inl v3_35)]) (st' := [.inl v3_35, .inr (.inr (some 39))]) (h' := gc_h sh I68 J69 A) (C := ((True ∧ True) ∧ True)) rfl ⟨⟨trivial, trivial⟩, trivial⟩ ?_
            refine gv_if_ne (t := 177) hD rfl rfl ⟨by omega, by omega⟩ (fun c88 => ?_) (fun c88 => ?_)
            · show gv_X _ _ (177, [(0, .inr (.inr (some 39))), (1, .inr (.inl v1_17)), (3, .inl v3_35)], [.inr (.inr (some 39))], sh, gc_h sh I68 J69 A)
              refine gv_run 2 true hD (pc' := 182) (lv' := [(0, .inr (.inr (some 39))), (1, .inr (.inl v1_17)), (3, .inl v3_35)]) (st' := [.inl 1, .inr (.inr (some 39))]) (h' := gc_h sh I68 J69 A) (C := ((True ∧ True) ∧ True)) rfl ⟨⟨trivial, trivial⟩, trivial⟩ ?_
              obtain ⟨r89, h89, E89, P89⟩ := d_X6_closes_p (ws0 := ws0) (tb := tb) hws htb sh ro I68 J69 A hI68  β η (gs_need β η 125 p_35) 1 hb   ⟨by omega, by omega⟩ A86 (by omega) (by omega) KLT_I68 KTK_I68
              obtain ⟨I90, J91, rfl, hI90, g89, k89, KLT_I90, KTK_I90, ⟨z89, rfl, q89⟩⟩ := P89
              have FI90 := gc_frc (W := fun q j => (q = 39 ∧ j = 3) ∨ (q = 39 ∧ j = 4) ∨ (q = 23 ∧ j = 5) ∨ (q = 23 ∧ j = 6) ∨ (q = 23 ∧ j = 7) ∨ (q = 23 ∧ j = 8) ∨ (q = 1 ∧ j = 17) ∨ (q = 1 ∧ j = 18) ∨ q = 20 ∨ (q = 39 ∧ j = 6) ∨ (q = 39 ∧ j = 8) ∨ q = 40 ∨ (q = 41 ∧ j = 0) ∨ (q = 41 ∧ j = 1) ∨ (q = 41 ∧ j = 2) ∨ q = (t + 13) ∨ q = (t + 14) ∨ (q = (t + 11) ∧ j = 1)) (V := fun q j => (q = 39 ∧ j = 3) ∨ (q = 39 ∧ j = 4) ∨ (q = 23 ∧ j = 5) ∨ (q = 23 ∧ j = 6) ∨ (q = 23 ∧ j = 7) ∨ (q = 23 ∧ j = 8)) FI68 (fun q j h => (h.elim (fun h => (Or.inl h)) (fun h => (h.elim (fun h => (Or.inr (Or.inl h))) (fun h => (h.elim (fun h => (Or.inr (Or.inr (Or.inl h)))) (fun h => (h.elim (fun h => (Or.inr (Or.inr (Or.inr (Or.inl h))))) (fun h => (h.elim (fun h => (Or.inr (Or.inr (Or.inr (Or.inr (Or.inl h)))))) (fun h => (Or.inr (Or.inr (Or.inr (Or.inr (Or.inr (Or.inl h))))))))))))))))) g89
              have FJ91 := gc_frc (W := fun q j => (q = 23 ∧ j = 9) ∨ q = (t + 12)) (V := fun q j => (q = 23 ∧ j = 9)) FJ69 (fun q j h => (Or.inl h)) k89
              have t92 := (g89 23 1).resolve_left (fun h => h.elim (fun h => absurd h.2 (by decide)) (fun h => h.elim (fun h => absurd h.2 (by decide)) (fun h => h.elim (fun h => absurd h.2 (by decide)) (fun h => h.elim (fun h => absurd h.2 (by decide)) (fun h => h.elim (fun h => absurd h.2 (by decide)) (fun h => absurd h.2 (by decide)))))))
              have t93 := (g89 1 17).resolve_left (fun h => h.elim (fun h => absurd h.2 (by decide)) (fun h => h.elim (fun h => absurd h.2 (by decide)) (fun h => h.elim (fun h => absurd h.2 (by decide)) (fun h => h.elim (fun h => absurd h.2 (by decide)) (fun h => h.elim (fun h => absurd h.2 (by decide)) (fun h => absurd h.2 (by decide)))))))
              have t94 := (g89 (t + 11) 1).resolve_left (fun h => h.elim (fun h => absurd h.2 (by decide)) (fun h => h.elim (fun h => absurd h.2 (by decide)) (fun h => h.elim (fun h => absurd h.2 (by decide)) (fun h => h.elim (fun h => absurd h.2 (by decide)) (fun h => h.elim (fun h => absurd h.2 (by decide)) (fun h => absurd h.2 (by decide)))))))
              have t95 := (g89 41 0).resolve_left (fun h => h.elim (fun h => absurd h.2 (by decide)) (fun h => h.elim (fun h => absurd h.2 (by decide)) (fun h => h.elim (fun h => absurd h.2 (by decide)) (fun h => h.elim (fun h => absurd h.2 (by decide)) (fun h => h.elim (fun h => absurd h.2 (by decide)) (fun h => absurd h.2 (by decide)))))))
              have t96 := (g89 41 1).resolve_left (fun h => h.elim (fun h => absurd h.2 (by decide)) (fun h => h.elim (fun h => absurd h.2 (by decide)) (fun h => h.elim (fun h => absurd h.2 (by decide)) (fun h => h.elim (fun h => absurd h.2 (by decide)) (fun h => h.elim (fun h => absurd h.2 (by decide)) (fun h => absurd h.2 (by decide)))))))
              have t97 := (g89 41 2).resolve_left (fun h => h.elim (fun h => absurd h.2 (by decide)) (fun h => h.elim (fun h => absurd h.2 (by decide)) (fun h => h.elim (fun h => absurd h.2 (by decide)) (fun h => h.elim (fun h => absurd h.2 (by decide)) (fun h => h.elim (fun h => absurd h.2 (by decide)) (fun h => absurd h.2 (by decide)))))))
              have t98 := (g89 39 5).resolve_left (fun h => h.elim (fun h => absurd h.2 (by decide)) (fun h => h.elim (fun h => absurd h.2 (by decide)) (fun h => h.elim (fun h => absurd h.1 (by decide)) (fun h => h.elim (fun h => absurd h.2 (by decide)) (fun h => h.elim (fun h => absurd h.2 (by decide)) (fun h => absurd h.2 (by decide)))))))
              have t99 := (g89 1 18).resolve_left (fun h => h.elim (fun h => absurd h.2 (by decide)) (fun h => h.elim (fun h => absurd h.2 (by decide)) (fun h => h.elim (fun h => absurd h.2 (by decide)) (fun h => h.elim (fun h => absurd h.2 (by decide)) (fun h => h.elim (fun h => absurd h.2 (by decide)) (fun h => absurd h.2 (by decide)))))))
              have t100 := (g89 39 8).resolve_left (fun h => h.elim (fun h => absurd h.2 (by decide)) (fun h => h.elim (fun h => absurd h.2 (by decide)) (fun h => h.elim (fun h => absurd h.2 (by decide)) (fun h => h.elim (fun h => absurd h.2 (by decide)) (fun h => h.elim (fun h => absurd h.2 (by decide)) (fun h => absurd h.1 (by decide)))))))
              have t101 := (g89 39 2).resolve_left (fun h => h.elim (fun h => absurd h.2 (by decide)) (fun h => h.elim (fun h => absurd h.2 (by decide)) (fun h => h.elim (fun h => absurd h.2 (by decide)) (fun h => h.elim (fun h => absurd h.2 (by decide)) (fun h => h.elim (fun h => absurd h.2 (by decide)) (fun h => absurd h.2 (by decide)))))))
              have f102 := (show 0 ≤ I90 23 5 ∧ I90 23 5 ≤ 1000 from gc_in hI90 R_23 rfl rfl)
              have f103 := (show 0 ≤ I90 23 6 ∧ I90 23 6 ≤ 1001 from gc_in hI90 R_23 rfl rfl)
              have f104 := (show 0 ≤ I90 23 7 ∧ I90 23 7 ≤ 125 from gc_in hI90 R_23 rfl rfl)
              have t105 := gc_TK_mo KTK_I90
              refine gv_callV hD rfl (As := [.inl 1]) (st := []) rfl B_39 S_39 rfl (gc_lV6 hws rfl) (Nat.le_of_ble_eq_true rfl) (gz_Ev_mono (d := 4) (by decide) E89) ?_
              show gv_X _ _ (185, [(0, .inr (.inr (some 39))), (1, .inr (.inl v1_17)), (3, .inl v3_35)], [.inl z89], sh, gc_h sh I90 J91 A)
              refine gv_if_ne (t := 190) hD rfl rfl ⟨by omega, by omega⟩ (fun c106 => ?_) (fun c106 => ?_)
              · show gv_X _ _ (190, [(0, .inr (.inr (some 39))), (1, .inr (.inl v1_17)), (3, .inl v3_35)], [], sh, gc_h sh I90 J91 A)
                have V107 := q89.2.2.2.2.2
                rw [show I68 39 5 = I 39 5 from by omega] at V107
                rw [show (if (1 : Int) = 0 then (1 : Int) else 0) = 0 from if_neg (by decide)] at V107
                obtain ⟨u107, A107⟩ := gs_or1 V107 (by omega)
                have t108 := gc_AT_l A107
                refine gv_run 1 true hD (pc' := 191) (lv' := [(0, .inr (.inr (some 39))), (1, .inr (.inl v1_17)), (3, .inl v3_35)]) (st' := [.inr (.inr (some 39))]) (h' := gc_h sh I90 J91 A) (C := (True ∧ True)) rfl ⟨trivial, trivial⟩ ?_
                refine gv_get hD rfl rfl S_39 ⟨by decide, B_39⟩ (gc_h5 (t := t) S_39 rfl (by omega)) ?_
                show gv_X _ _ (194, [(0, .inr (.inr (some 39))), (1, .inr (.inl v1_17)), (3, .inl v3_35)], [.inr (.inr (some t))], sh, gc_h sh I90 J91 A)
                refine gv_get hD rfl rfl S_t ⟨by decide, B_t⟩ (gc_hA S_t rfl A_t_8) ?_
                show gv_X _ _ (197, [(0, .inr (.inr (some 39))), (1, .inr (.inl v1_17)), (3, .inl v3_35)], [.inr (.inr (some (t + 11)))], sh, gc_h sh I90 J91 A)
                have f109 := (show 0 ≤ I90 (t + 11) 1 ∧ I90 (t + 11) 1 ≤ 24 from gc_in hI90 R_t_11 rfl rfl)
                refine gv_get hD rfl rfl S_t_11 ⟨by decide, B_t_11⟩ (gc_hI S_t_11 rfl) ?_
                show gv_X _ _ (200, [(0, .inr (.inr (some 39))), (1, .inr (.inl v1_17)), (3, .inl v3_35)], [.inl (I90 (t + 11) 1)], sh, gc_h sh I90 J91 A)
                refine gv_run 2 true hD (pc' := 203) (lv' := [(5, .inl (I90 (t + 11) 1)), (0, .inr (.inr (some 39))), (1, .inr (.inl v1_17)), (3, .inl v3_35)]) (st' := [.inr (.inr (some 39))]) (h' := gc_h sh I90 J91 A) (C := ((True ∧ True) ∧ True)) rfl ⟨⟨trivial, trivial⟩, trivial⟩ ?_
                refine gv_get hD rfl rfl S_39 ⟨by decide, B_39⟩ (gc_h5 (t := t) S_39 rfl (by omega)) ?_
                show gv_X _ _ (206, [(5, .inl (I90 (t + 11) 1)), (0, .inr (.inr (some 39))), (1, .inr (.inl v1_17)), (3, .inl v3_35)], [.inr (.inr (some t))], sh, gc_h sh I90 J91 A)
                refine gv_get hD rfl rfl S_t ⟨by decide, B_t⟩ (gc_hA S_t rfl A_t_8) ?_
                show gv_X _ _ (209, [(5, .inl (I90 (t + 11) 1)), (0, .inr (.inr (some 39))), (1, .inr (.inl v1_17)), (3, .inl v3_35)], [.inr (.inr (some (t + 11)))], sh, gc_h sh I90 J91 A)
                refine gv_run 1 true hD (pc' := 210) (lv' := [(5, .inl (I90 (t + 11) 1)), (0, .inr (.inr (some 39))), (1, .inr (.inl v1_17)), (3, .inl v3_35)]) (st' := [.inr (.inl v1_17), .inr (.inr (some (t + 11)))]) (h' := gc_h sh I90 J91 A) (C := (True ∧ True)) rfl ⟨trivial, trivial⟩ ?_
                obtain ⟨r110, h110, E110, P110⟩ := d_X4_put_p (ws0 := ws0) (tb := tb) hws htb sh ro I90 J91 A hI90 (t + 11) 24 8 v1_17 h_t_11     
                obtain ⟨I111, J112, rfl, hI111, g110, k110, ⟨rfl, q110⟩⟩ := P110
                have FI111 := gc_frc (W := fun q j => (q = 39 ∧ j = 3) ∨ (q = 39 ∧ j = 4) ∨ (q = 23 ∧ j = 5) ∨ (q = 23 ∧ j = 6) ∨ (q = 23 ∧ j = 7) ∨ (q = 23 ∧ j = 8) ∨ (q = 1 ∧ j = 17) ∨ (q = 1 ∧ j = 18) ∨ q = 20 ∨ (q = 39 ∧ j = 6) ∨ (q = 39 ∧ j = 8) ∨ q = 40 ∨ (q = 41 ∧ j = 0) ∨ (q = 41 ∧ j = 1) ∨ (q = 41 ∧ j = 2) ∨ q = (t + 13) ∨ q = (t + 14) ∨ (q = (t + 11) ∧ j = 1)) (V := fun q j => (q = (t + 11) ∧ j = 1)) FI90 (fun q j h => (Or.inr (Or.inr (Or.inr (Or.inr (Or.inr (Or.inr (Or.inr (Or.inr (Or.inr (Or.inr (Or.inr (Or.inr (Or.inr (Or.inr (Or.inr (Or.inr (Or.inr h)))))))))))))))))) g110
                have FJ112 := gc_frc (W := fun q j => (q = 23 ∧ j = 9) ∨ q = (t + 12)) (V := fun q j => q = (t + 12)) FJ91 (fun q j h => (Or.inr h)) k110
                have t113 := (g110 23 1).resolve_left (fun h => absurd h.1 N_23__t_11)
                have t114 := (g110 23 5).resolve_left (fun h => absurd h.2 (by decide))
                have t115 := (g110 23 6).resolve_left (fun h => absurd h.2 (by decide))
                have t116 := (g110 23 7).resolve_left (fun h => absurd h.2 (by decide))
                have t117 := (g110 1 17).resolve_left (fun h => absurd h.2 (by decide))
                have t118 := (g110 41 0).resolve_left (fun h => absurd h.2 (by decide))
                have t119 := (g110 41 1).resolve_left (fun h => absurd h.1 N_41__t_11)
                have t120 := (g110 41 2).resolve_left (fun h => absurd h.2 (by decide))
                have t121 := (g110 39 5).resolve_left (fun h => absurd h.2 (by decide))
                have t122 := (g110 1 18).resolve_left (fun h => absurd h.2 (by decide))
                have t123 := (g110 39 8).resolve_left (fun h => absurd h.2 (by decide))
                have t124 := (g110 39 2).resolve_left (fun h => absurd h.2 (by decide))
                have f125 := (show 0 ≤ I111 (t + 11) 1 ∧ I111 (t + 11) 1 ≤ 24 from gc_in hI111 R_t_11 rfl rfl)
                have KLT_I111 := gc_LT_fr KLT_I90 ((g110 23 5).resolve_left (fun h => absurd h.2 (by decide))) ((g110 23 6).resolve_left (fun h => absurd h.2 (by decide))) ((g110 23 7).resolve_left (fun h => absurd h.2 (by decide))) (fun k => (g110 24 k).resolve_left (fun h => absurd h.1 N_24__t_11))
                have KTK_I111 := gc_TK_fr KTK_I90 ((g110 23 1).resolve_left (fun h => absurd h.1 N_23__t_11)) ((g110 23 5).resolve_left (fun h => absurd h.2 (by decide))) ((g110 23 6).resolve_left (fun h => absurd h.2 (by decide))) ((g110 23 7).resolve_left (fun h => absurd h.2 (by decide)))
                have A126 := gc_AT_I A107 ((g110 23 1).resolve_left (fun h => absurd h.1 N_23__t_11)) ((g110 23 5).resolve_left (fun h => absurd h.2 (by decide))) ((g110 23 6).resolve_left (fun h => absurd h.2 (by decide))) ((g110 23 7).resolve_left (fun h => absurd h.2 (by decide))) ((g110 23 8).resolve_left (fun h => absurd h.2 (by decide))) (fun k => (g110 24 k).resolve_left (fun h => absurd h.1 N_24__t_11))
                have A127 := gc_AT_J A126 ((k110 23 9).resolve_left (fun h => absurd h N_23__t_12))
                have t128 := gc_AT_l A127
                refine gv_callV hD rfl (As := [.inr (.inl v1_17)]) (st := []) rfl B_t_11 S_t_11 rfl (gc_lV6 hws rfl) (Nat.le_of_ble_eq_true rfl) (gz_Ev_mono (d := 1) (by decide) E110) ?_
                show gv_X _ _ (213, [(5, .inl (I90 (t + 11) 1)), (0, .inr (.inr (some 39))), (1, .inr (.inl v1_17)), (3, .inl v3_35)], [], sh, gc_h sh I111 J112 A)
                refine gv_run 1 true hD (pc' := 214) (lv' := [(5, .inl (I90 (t + 11) 1)), (0, .inr (.inr (some 39))), (1, .inr (.inl v1_17)), (3, .inl v3_35)]) (st' := [.inr (.inr (some 39))]) (h' := gc_h sh I111 J112 A) (C := (True ∧ True)) rfl ⟨trivial, trivial⟩ ?_
                refine gv_get hD rfl rfl S_39 ⟨by decide, B_39⟩ (gc_h5 (t := t) S_39 rfl (by omega)) ?_
                show gv_X _ _ (217, [(5, .inl (I90 (t + 11) 1)), (0, .inr (.inr (some 39))), (1, .inr (.inl v1_17)), (3, .inl v3_35)], [.inr (.inr (some t))], sh, gc_h sh I111 J112 A)
                refine gv_get hD rfl rfl S_t ⟨by decide, B_t⟩ (gc_hA S_t rfl A_t_9) ?_
                show gv_X _ _ (220, [(5, .inl (I90 (t + 11) 1)), (0, .inr (.inr (some 39))), (1, .inr (.inl v1_17)), (3, .inl v3_35)], [.inr (.inr (some (t + 13)))], sh, gc_h sh I111 J112 A)
                refine gv_run 2 true hD (pc' := 223) (lv' := [(5, .inl (I90 (t + 11) 1)), (0, .inr (.inr (some 39))), (1, .inr (.inl v1_17)), (3, .inl v3_35)]) (st' := [.inr (.inr (some 39)), .inl (I90 (t + 11) 1), .inr (.inr (some (t + 13)))]) (h' := gc_h sh I111 J112 A) (C := ((True ∧ True) ∧ True)) rfl ⟨⟨trivial, trivial⟩, trivial⟩ ?_
                have f129 := (show 0 ≤ I111 39 8 ∧ I111 39 8 ≤ 24 from gc_in hI111 R_39 rfl rfl)
                refine gv_get hD rfl rfl S_39 ⟨by decide, B_39⟩ (gc_hI S_39 rfl) ?_
                show gv_X _ _ (226, [(5, .inl (I90 (t + 11) 1)), (0, .inr (.inr (some 39))), (1, .inr (.inl v1_17)), (3, .inl v3_35)], [.inl (I111 39 8), .inl (I90 (t + 11) 1), .inr (.inr (some (t + 13)))], sh, gc_h sh I111 J112 A)
                refine gv_iast hD rfl S_t_13 ⟨by decide, B_t_13⟩ ⟨by omega, by omega⟩ ?_
                refine gc_st hI111 S_t_13 rfl R_t_13 (lo := 0) (hi := 24) rfl rfl (by omega) (by omega) (fun I130 hI130 q131 p131 => ?_)
                have FI130 := gc_frs (W := fun q j => (q = 39 ∧ j = 3) ∨ (q = 39 ∧ j = 4) ∨ (q = 23 ∧ j = 5) ∨ (q = 23 ∧ j = 6) ∨ (q = 23 ∧ j = 7) ∨ (q = 23 ∧ j = 8) ∨ (q = 1 ∧ j = 17) ∨ (q = 1 ∧ j = 18) ∨ q = 20 ∨ (q = 39 ∧ j = 6) ∨ (q = 39 ∧ j = 8) ∨ q = 40 ∨ (q = 41 ∧ j = 0) ∨ (q = 41 ∧ j = 1) ∨ (q = 41 ∧ j = 2) ∨ q = (t + 13) ∨ q = (t + 14) ∨ (q = (t + 11) ∧ j = 1)) FI111 (Or.inr (Or.inr (Or.inr (Or.inr (Or.inr (Or.inr (Or.inr (Or.inr (Or.inr (Or.inr (Or.inr (Or.inr (Or.inr (Or.inr (Or.inr (Or.inl rfl)))))))))))))))) p131
                have t132 := p131 23 1 (fun h => absurd h.1 N_23__t_13)
                have t133 := p131 23 5 (fun h => absurd h.1 N_23__t_13)
                have t134 := p131 23 6 (fun h => absurd h.1 N_23__t_13)
                have t135 := p131 23 7 (fun h => absurd h.1 N_23__t_13)
                have t136 := p131 1 17 (fun h => absurd h.1 N_1__t_13)
                have t137 := p131 (t + 11) 1 (fun h => absurd h.1 N_t_11__t_13)
                have t138 := p131 41 0 (fun h => absurd h.1 N_41__t_13)
                have t139 := p131 41 1 (fun h => absurd h.1 N_41__t_13)
                have t140 := p131 41 2 (fun h => absurd h.1 N_41__t_13)
                have t141 := p131 39 5 (fun h => absurd h.1 N_39__t_13)
                have t142 := p131 1 18 (fun h => absurd h.1 N_1__t_13)
                have t143 := p131 39 8 (fun h => absurd h.1 N_39__t_13)
                have t144 := p131 39 2 (fun h => absurd h.1 N_39__t_13)
                have KLT_I130 := gc_LT_fr KLT_I111 (p131 23 5 (fun h => absurd h.1 N_23__t_13)) (p131 23 6 (fun h => absurd h.1 N_23__t_13)) (p131 23 7 (fun h => absurd h.1 N_23__t_13)) (fun k => p131 24 k (fun h => absurd h.1 N_24__t_13))
                have KTK_I130 := gc_TK_fr KTK_I111 (p131 23 1 (fun h => absurd h.1 N_23__t_13)) (p131 23 5 (fun h => absurd h.1 N_23__t_13)) (p131 23 6 (fun h => absurd h.1 N_23__t_13)) (p131 23 7 (fun h => absurd h.1 N_23__t_13))
                have A145 := gc_AT_I A127 (p131 23 1 (fun h => absurd h.1 N_23__t_13)) (p131 23 5 (fun h => absurd h.1 N_23__t_13)) (p131 23 6 (fun h => absurd h.1 N_23__t_13)) (p131 23 7 (fun h => absurd h.1 N_23__t_13)) (p131 23 8 (fun h => absurd h.1 N_23__t_13)) (fun k => p131 24 k (fun h => absurd h.1 N_24__t_13))
                show gv_X _ _ (227, [(5, .inl (I90 (t + 11) 1)), (0, .inr (.inr (some 39))), (1, .inr (.inl v1_17)), (3, .inl v3_35)], [], sh, gc_h sh I130 J112 A)
                refine gv_run 1 true hD (pc' := 228) (lv' := [(5, .inl (I90 (t + 11) 1)), (0, .inr (.inr (some 39))), (1, .inr (.inl v1_17)), (3, .inl v3_35)]) (st' := [.inr (.inr (some 39))]) (h' := gc_h sh I130 J112 A) (C := (True ∧ True)) rfl ⟨trivial, trivial⟩ ?_
                refine gv_get hD rfl rfl S_39 ⟨by decide, B_39⟩ (gc_hA S_39 rfl A_39_9) ?_
                show gv_X _ _ (231, [(5, .inl (I90 (t + 11) 1)), (0, .inr (.inr (some 39))), (1, .inr (.inl v1_17)), (3, .inl v3_35)], [.inr (.inr (some 40))], sh, gc_h sh I130 J112 A)
                refine gv_run 2 true hD (pc' := 233) (lv' := [(5, .inl (I90 (t + 11) 1)), (0, .inr (.inr (some 39))), (1, .inr (.inl v1_17)), (3, .inl v3_35)]) (st' := [.inr (.inr (some 39)), .inl 0, .inr (.inr (some 40))]) (h' := gc_h sh I130 J112 A) (C := ((True ∧ True) ∧ True)) rfl ⟨⟨trivial, trivial⟩, trivial⟩ ?_
                refine gv_get hD rfl rfl S_39 ⟨by decide, B_39⟩ (gc_h5 (t := t) S_39 rfl (by omega)) ?_
                show gv_X _ _ (236, [(5, .inl (I90 (t + 11) 1)), (0, .inr (.inr (some 39))), (1, .inr (.inl v1_17)), (3, .inl v3_35)], [.inr (.inr (some t)), .inl 0, .inr (.inr (some 40))], sh, gc_h sh I130 J112 A)
                refine gv_get hD rfl rfl S_t ⟨by decide, B_t⟩ (gc_hA S_t rfl A_t_10) ?_
                show gv_X _ _ (239, [(5, .inl (I90 (t + 11) 1)), (0, .inr (.inr (some 39))), (1, .inr (.inl v1_17)), (3, .inl v3_35)], [.inr (.inr (some (t + 14))), .inl 0, .inr (.inr (some 40))], sh, gc_h sh I130 J112 A)
                refine gv_run 6 true hD (pc' := 247) (lv' := [(5, .inl (I90 (t + 11) 1)), (0, .inr (.inr (some 39))), (1, .inr (.inl v1_17)), (3, .inl v3_35)]) (st' := [.inr (.inr (some 39)), .inl (((I90 (t + 11) 1) * 24) * 3), .inr (.inr (some (t + 14))), .inl 0, .inr (.inr (some 40))]) (h' := gc_h sh I130 J112 A) (C := ((((((True ∧ True) ∧ True) ∧ True) ∧ True) ∧ True) ∧ True)) rfl ⟨⟨⟨⟨⟨⟨trivial, trivial⟩, trivial⟩, trivial⟩, trivial⟩, trivial⟩, trivial⟩ ?_
                have f146 := (show 0 ≤ I130 39 8 ∧ I130 39 8 ≤ 24 from gc_in hI130 R_39 rfl rfl)
                refine gv_get hD rfl rfl S_39 ⟨by decide, B_39⟩ (gc_hI S_39 rfl) ?_
                show gv_X _ _ (250, [(5, .inl (I90 (t + 11) 1)), (0, .inr (.inr (some 39))), (1, .inr (.inl v1_17)), (3, .inl v3_35)], [.inl (I130 39 8), .inl (((I90 (t + 11) 1) * 24) * 3), .inr (.inr (some (t + 14))), .inl 0, .inr (.inr (some 40))], sh, gc_h sh I130 J112 A)
                refine gv_run 2 true hD (pc' := 252) (lv' := [(5, .inl (I90 (t + 11) 1)), (0, .inr (.inr (some 39))), (1, .inr (.inl v1_17)), (3, .inl v3_35)]) (st' := [.inl ((I130 39 8) * 3), .inl (((I90 (t + 11) 1) * 24) * 3), .inr (.inr (some (t + 14))), .inl 0, .inr (.inr (some 40))]) (h' := gc_h sh I130 J112 A) (C := ((True ∧ True) ∧ True)) rfl ⟨⟨trivial, trivial⟩, trivial⟩ ?_
                refine gv_copy hD rfl (gc_lC6_263 hws) (Nat.le_of_ble_eq_true rfl) ⟨B_40, B_t_14⟩ S_40 S_t_14 (by decide) ⟨by decide, by decide⟩ ⟨by omega, by omega, by omega⟩ (by omega) (by omega) (fun h => absurd h (by decide)) ?_
                refine gc_cp hI130 S_40 S_t_14 (by decide) (fun j hj => gc_cprg (m := 2) hI130 R_40 R_t_14 rfl rfl (by omega)) (fun I148 hI148 p147 q147 => ?_)
                have FI148 := gc_frp (W := fun q j => (q = 39 ∧ j = 3) ∨ (q = 39 ∧ j = 4) ∨ (q = 23 ∧ j = 5) ∨ (q = 23 ∧ j = 6) ∨ (q = 23 ∧ j = 7) ∨ (q = 23 ∧ j = 8) ∨ (q = 1 ∧ j = 17) ∨ (q = 1 ∧ j = 18) ∨ q = 20 ∨ (q = 39 ∧ j = 6) ∨ (q = 39 ∧ j = 8) ∨ q = 40 ∨ (q = 41 ∧ j = 0) ∨ (q = 41 ∧ j = 1) ∨ (q = 41 ∧ j = 2) ∨ q = (t + 13) ∨ q = (t + 14) ∨ (q = (t + 11) ∧ j = 1)) (V := fun q j => q = (t + 14) ∧ Int.toNat ((((I90 (t + 11) 1) * 24) * 3)) ≤ j ∧ j < Int.toNat ((((I90 (t + 11) 1) * 24) * 3)) + Int.toNat (((I130 39 8) * 3))) FI130 (fun q j h => (Or.inr (Or.inr (Or.inr (Or.inr (Or.inr (Or.inr (Or.inr (Or.inr (Or.inr (Or.inr (Or.inr (Or.inr (Or.inr (Or.inr (Or.inr (Or.inr (Or.inl h.1)))))))))))))))))) p147
                have KLT_I148 := gc_LT_fr KLT_I130 (p147 23 5 (fun h => absurd h.1 N_23__t_14)) (p147 23 6 (fun h => absurd h.1 N_23__t_14)) (p147 23 7 (fun h => absurd h.1 N_23__t_14)) (fun k => p147 24 k (fun h => absurd h.1 N_24__t_14))
                have KTK_I148 := gc_TK_fr KTK_I130 (p147 23 1 (fun h => absurd h.1 N_23__t_14)) (p147 23 5 (fun h => absurd h.1 N_23__t_14)) (p147 23 6 (fun h => absurd h.1 N_23__t_14)) (p147 23 7 (fun h => absurd h.1 N_23__t_14))
                have t150 := p147 23 1 (fun h => absurd h.1 N_23__t_14)
                have t151 := p147 23 5 (fun h => absurd h.1 N_23__t_14)
                have t152 := p147 23 6 (fun h => absurd h.1 N_23__t_14)
                have t153 := p147 23 7 (fun h => absurd h.1 N_23__t_14)
                have t154 := p147 1 17 (fun h => absurd h.1 N_1__t_14)
                have t155 := p147 (t + 11) 1 (fun h => absurd h.1 N_t_11__t_14)
                have t156 := p147 41 0 (fun h => absurd h.1 N_41__t_14)
                have t157 := p147 41 1 (fun h => absurd h.1 N_41__t_14)
                have t158 := p147 41 2 (fun h => absurd h.1 N_41__t_14)
                have t159 := p147 39 5 (fun h => absurd h.1 N_39__t_14)
                have t160 := p147 1 18 (fun h => absurd h.1 N_1__t_14)
                have t161 := p147 39 8 (fun h => absurd h.1 N_39__t_14)
                have t162 := p147 39 2 (fun h => absurd h.1 N_39__t_14)
                have t163 := gc_TK_mo KTK_I148
                have f164 := (show 0 ≤ I148 23 1 ∧ I148 23 1 ≤ 1000 from gc_in hI148 R_23 rfl rfl)
                have f165 := (show 0 ≤ I148 23 5 ∧ I148 23 5 ≤ 1000 from gc_in hI148 R_23 rfl rfl)
                have f166 := (show 0 ≤ I148 23 6 ∧ I148 23 6 ≤ 1001 from gc_in hI148 R_23 rfl rfl)
                have f167 := (show 0 ≤ I148 23 7 ∧ I148 23 7 ≤ 125 from gc_in hI148 R_23 rfl rfl)
                have f168 := (show 0 ≤ I148 1 17 ∧ I148 1 17 ≤ 12000 from gc_in hI148 R_1 rfl rfl)
                have f169 := (show 0 ≤ I148 (t + 11) 1 ∧ I148 (t + 11) 1 ≤ 24 from gc_in hI148 R_t_11 rfl rfl)
                have f170 := (show (-2147483648) ≤ I148 41 0 ∧ I148 41 0 ≤ 2147483647 from gc_in hI148 R_41 rfl rfl)
                have f171 := (show (-2147483648) ≤ I148 41 1 ∧ I148 41 1 ≤ 2147483647 from gc_in hI148 R_41 rfl rfl)
                have f172 := (show (-2147483648) ≤ I148 41 2 ∧ I148 41 2 ≤ 2147483647 from gc_in hI148 R_41 rfl rfl)
                have f173 := (show 0 ≤ I148 39 5 ∧ I148 39 5 ≤ 1000 from gc_in hI148 R_39 rfl rfl)
                have f174 := (show 0 ≤ I148 1 18 ∧ I148 1 18 ≤ 1 from gc_in hI148 R_1 rfl rfl)
                have f175 := (show 0 ≤ I148 39 8 ∧ I148 39 8 ≤ 24 from gc_in hI148 R_39 rfl rfl)
                have f176 := (show (-1) ≤ I148 39 2 ∧ I148 39 2 ≤ 999999 from gc_in hI148 R_39 rfl rfl)
                have A177 := gc_AT_I A145 (p147 23 1 (fun h => absurd h.1 N_23__t_14)) (p147 23 5 (fun h => absurd h.1 N_23__t_14)) (p147 23 6 (fun h => absurd h.1 N_23__t_14)) (p147 23 7 (fun h => absurd h.1 N_23__t_14)) (p147 23 8 (fun h => absurd h.1 N_23__t_14)) (fun k => p147 24 k (fun h => absurd h.1 N_24__t_14))
                show gv_X _ _ (255, [(5, .inl (I90 (t + 11) 1)), (0, .inr (.inr (some 39))), (1, .inr (.inl v1_17)), (3, .inl v3_35)], [], sh, gc_h sh I148 J112 A)
                refine gv_run 1 true hD (pc' := 256) (lv' := [(5, .inl (I90 (t + 11) 1)), (0, .inr (.inr (some 39))), (1, .inr (.inl v1_17)), (3, .inl v3_35)]) (st' := [.inl 1]) (h' := gc_h sh I148 J112 A) (C := (True ∧ True)) rfl ⟨trivial, trivial⟩ ?_
                exact gv_zret hD rfl (by omega) ⟨I148, J112, rfl, hI148, FI148, FJ112, KLT_I148, KTK_I148, ⟨_, rfl, by omega, by omega, by omega, by omega, by omega, (Or.inl ⟨by omega, by first | (exfalso; omega) | (have e9 : (gs_pat β η Ir Jr (I 39 5) p9) = (gs_done β η 0 (I 39 5) (gs_need β η 125 p_35)) := (by rw [gs_pat_e h9a (by omega) rfl]; unfold gs_pt4; (repeat first | rw [if_pos (by omega)] | rw [if_neg (by omega)])); rw [e9]; exact ⟨by omega, A177, (gc_PU_af (gc_PU_tr q110.2.2.2 ((((g89 (t + 11) 1).resolve_left (by omega)).trans ((g67 (t + 11) 1).resolve_left (by omega))).trans (e4_51.1)) (fun j => ((((k89 (t + 12) j).resolve_left (by omega)).trans ((k67 (t + 12) j).resolve_left (by omega))).trans (e4_51.2.1 j))) e2_51) ((p147 (t + 11) 1 (fun h => absurd h.1 (by omega))).trans (p131 (t + 11) 1 (by omega)))), by omega, (by rw [h9a]; exact (gs_Cpt_mk (gs_CL_fr (h9b.resolve_right (fun h => by have h8 := h.1; omega)).2 ((((g110 39 8).resolve_left (by omega)).trans ((g89 39 8).resolve_left (by omega))).trans ((g67 39 8).resolve_left (by omega))) (fun j => ((((g110 40 j).resolve_left (by omega)).trans ((g89 40 j).resolve_left (by omega))).trans ((g67 40 j).resolve_left (by omega))))) (by omega) p131 (q131.trans (by omega)) p147 q147 ⟨by omega, rfl⟩ (by omega) (fun j => (((((g110 (t + 13) j).resolve_left (by omega)).trans ((g89 (t + 13) j).resolve_left (by omega))).trans ((g67 (t + 13) j).resolve_left (by omega))).trans (e4_51.2.2.1 j))) (fun j => (((((g110 (t + 14) j).resolve_left (by omega)).trans ((g89 (t + 14) j).resolve_left (by omega))).trans ((g67 (t + 14) j).resolve_left (by omega))).trans (e4_51.2.2.2.1 j))) (by omega)))⟩)⟩)⟩⟩
              · show gv_X _ _ (188, [(0, .inr (.inr (some 39))), (1, .inr (.inl v1_17)), (3, .inl v3_35)], [], sh, gc_h sh I90 J91 A)
                have V178 := q89.2.2.2.2.2
                rw [show I68 39 5 = I 39 5 from by omega] at V178
                rw [show (if (1 : Int) = 0 then (1 : Int) else 0) = 0 from if_neg (by decide)] at V178
                obtain ⟨u178, u178_⟩ := gs_or0 V178 (by omega)
                refine gv_run 1 true hD (pc' := 189) (lv' := [(0, .inr (.inr (some 39))), (1, .inr (.inl v1_17)), (3, .inl v3_35)]) (st' := [.inl 0]) (h' := gc_h sh I90 J91 A) (C := (True ∧ True)) rfl ⟨trivial, trivial⟩ ?_
                exact gv_zret hD rfl (by omega) ⟨I90, J91, rfl, hI90, FI90, FJ91, KLT_I90, KTK_I90, ⟨_, rfl, by omega, by omega, by omega, by omega, by omega, (Or.inr ⟨by omega, by first | (exfalso; omega) | (rw [gs_pat_e h9a (by omega) rfl]; unfold gs_pt4; (repeat first | rw [if_pos (by omega)] | rw [if_neg (by omega)]); exact ⟨by omega, by omega, ((((g89 (t + 11) 1).resolve_left (by omega)).trans ((g67 (t + 11) 1).resolve_left (by omega))).trans (e4_51.1)), fun j => ⟨((((k89 (t + 12) j).resolve_left (by omega)).trans ((k67 (t + 12) j).resolve_left (by omega))).trans (e4_51.2.1 j)), ((((g89 (t + 13) j).resolve_left (by omega)).trans ((g67 (t + 13) j).resolve_left (by omega))).trans (e4_51.2.2.1 j)), ((((g89 (t + 14) j).resolve_left (by omega)).trans ((g67 (t + 14) j).resolve_left (by omega))).trans (e4_51.2.2.2.1 j))⟩⟩)⟩)⟩⟩
            · show gv_X _ _ (164, [(0, .inr (.inr (some 39))), (1, .inr (.inl v1_17)), (3, .inl v3_35)], [.inr (.inr (some 39))], sh, gc_h sh I68 J69 A)
              refine gv_run 1 true hD (pc' := 165) (lv' := [(0, .inr (.inr (some 39))), (1, .inr (.inl v1_17)), (3, .inl v3_35)]) (st' := [.inr (.inr (some 39)), .inr (.inr (some 39))]) (h' := gc_h sh I68 J69 A) (C := (True ∧ True)) rfl ⟨trivial, trivial⟩ ?_
              refine gv_get hD rfl rfl S_39 ⟨by decide, B_39⟩ (gc_h5 (t := t) S_39 rfl (by omega)) ?_
              show gv_X _ _ (168, [(0, .inr (.inr (some 39))), (1, .inr (.inl v1_17)), (3, .inl v3_35)], [.inr (.inr (some t)), .inr (.inr (some 39))], sh, gc_h sh I68 J69 A)
              refine gv_get hD rfl rfl S_t ⟨by decide, B_t⟩ (gc_hA S_t rfl A_t_8) ?_
              show gv_X _ _ (171, [(0, .inr (.inr (some 39))), (1, .inr (.inl v1_17)), (3, .inl v3_35)], [.inr (.inr (some (t + 11))), .inr (.inr (some 39))], sh, gc_h sh I68 J69 A)
              obtain ⟨r179, h179, E179, P179⟩ := d_X4_isFull_p (ws0 := ws0) (tb := tb) hws htb sh ro I68 J69 A hI68 (t + 11) 24 8  h_t_11     
              obtain ⟨rfl, ⟨z179, rfl, q179⟩⟩ := P179
              refine gv_callV hD rfl (As := []) (st := [.inr (.inr (some 39))]) rfl B_t_11 S_t_11 rfl (gc_lV6 hws rfl) (Nat.le_of_ble_eq_true rfl) (gz_Ev_mono (d := 1) (by decide) E179) ?_
              show gv_X _ _ (174, [(0, .inr (.inr (some 39))), (1, .inr (.inl v1_17)), (3, .inl v3_35)], [.inl z179, .inr (.inr (some 39))], sh, gc_h sh I68 J69 A)
              refine gv_if_eq (t := 181) hD rfl rfl ⟨by omega, by omega⟩ (fun c180 => ?_) (fun c180 => ?_)
              · show gv_X _ _ (181, [(0, .inr (.inr (some 39))), (1, .inr (.inl v1_17)), (3, .inl v3_35)], [.inr (.inr (some 39))], sh, gc_h sh I68 J69 A)
                refine gv_run 1 true hD (pc' := 182) (lv' := [(0, .inr (.inr (some 39))), (1, .inr (.inl v1_17)), (3, .inl v3_35)]) (st' := [.inl 0, .inr (.inr (some 39))]) (h' := gc_h sh I68 J69 A) (C := (True ∧ True)) rfl ⟨trivial, trivial⟩ ?_
                obtain ⟨r181, h181, E181, P181⟩ := d_X6_closes_p (ws0 := ws0) (tb := tb) hws htb sh ro I68 J69 A hI68  β η (gs_need β η 125 p_35) 0 hb   ⟨by omega, by omega⟩ A86 (by omega) (by omega) KLT_I68 KTK_I68
                obtain ⟨I182, J183, rfl, hI182, g181, k181, KLT_I182, KTK_I182, ⟨z181, rfl, q181⟩⟩ := P181
                have FI182 := gc_frc (W := fun q j => (q = 39 ∧ j = 3) ∨ (q = 39 ∧ j = 4) ∨ (q = 23 ∧ j = 5) ∨ (q = 23 ∧ j = 6) ∨ (q = 23 ∧ j = 7) ∨ (q = 23 ∧ j = 8) ∨ (q = 1 ∧ j = 17) ∨ (q = 1 ∧ j = 18) ∨ q = 20 ∨ (q = 39 ∧ j = 6) ∨ (q = 39 ∧ j = 8) ∨ q = 40 ∨ (q = 41 ∧ j = 0) ∨ (q = 41 ∧ j = 1) ∨ (q = 41 ∧ j = 2) ∨ q = (t + 13) ∨ q = (t + 14) ∨ (q = (t + 11) ∧ j = 1)) (V := fun q j => (q = 39 ∧ j = 3) ∨ (q = 39 ∧ j = 4) ∨ (q = 23 ∧ j = 5) ∨ (q = 23 ∧ j = 6) ∨ (q = 23 ∧ j = 7) ∨ (q = 23 ∧ j = 8)) FI68 (fun q j h => (h.elim (fun h => (Or.inl h)) (fun h => (h.elim (fun h => (Or.inr (Or.inl h))) (fun h => (h.elim (fun h => (Or.inr (Or.inr (Or.inl h)))) (fun h => (h.elim (fun h => (Or.inr (Or.inr (Or.inr (Or.inl h))))) (fun h => (h.elim (fun h => (Or.inr (Or.inr (Or.inr (Or.inr (Or.inl h)))))) (fun h => (Or.inr (Or.inr (Or.inr (Or.inr (Or.inr (Or.inl h))))))))))))))))) g181
                have FJ183 := gc_frc (W := fun q j => (q = 23 ∧ j = 9) ∨ q = (t + 12)) (V := fun q j => (q = 23 ∧ j = 9)) FJ69 (fun q j h => (Or.inl h)) k181
                have t184 := (g181 23 1).resolve_left (fun h => h.elim (fun h => absurd h.2 (by decide)) (fun h => h.elim (fun h => absurd h.2 (by decide)) (fun h => h.elim (fun h => absurd h.2 (by decide)) (fun h => h.elim (fun h => absurd h.2 (by decide)) (fun h => h.elim (fun h => absurd h.2 (by decide)) (fun h => absurd h.2 (by decide)))))))
                have t185 := (g181 1 17).resolve_left (fun h => h.elim (fun h => absurd h.2 (by decide)) (fun h => h.elim (fun h => absurd h.2 (by decide)) (fun h => h.elim (fun h => absurd h.2 (by decide)) (fun h => h.elim (fun h => absurd h.2 (by decide)) (fun h => h.elim (fun h => absurd h.2 (by decide)) (fun h => absurd h.2 (by decide)))))))
                have t186 := (g181 (t + 11) 1).resolve_left (fun h => h.elim (fun h => absurd h.2 (by decide)) (fun h => h.elim (fun h => absurd h.2 (by decide)) (fun h => h.elim (fun h => absurd h.2 (by decide)) (fun h => h.elim (fun h => absurd h.2 (by decide)) (fun h => h.elim (fun h => absurd h.2 (by decide)) (fun h => absurd h.2 (by decide)))))))
                have t187 := (g181 41 0).resolve_left (fun h => h.elim (fun h => absurd h.2 (by decide)) (fun h => h.elim (fun h => absurd h.2 (by decide)) (fun h => h.elim (fun h => absurd h.2 (by decide)) (fun h => h.elim (fun h => absurd h.2 (by decide)) (fun h => h.elim (fun h => absurd h.2 (by decide)) (fun h => absurd h.2 (by decide)))))))
                have t188 := (g181 41 1).resolve_left (fun h => h.elim (fun h => absurd h.2 (by decide)) (fun h => h.elim (fun h => absurd h.2 (by decide)) (fun h => h.elim (fun h => absurd h.2 (by decide)) (fun h => h.elim (fun h => absurd h.2 (by decide)) (fun h => h.elim (fun h => absurd h.2 (by decide)) (fun h => absurd h.2 (by decide)))))))
                have t189 := (g181 41 2).resolve_left (fun h => h.elim (fun h => absurd h.2 (by decide)) (fun h => h.elim (fun h => absurd h.2 (by decide)) (fun h => h.elim (fun h => absurd h.2 (by decide)) (fun h => h.elim (fun h => absurd h.2 (by decide)) (fun h => h.elim (fun h => absurd h.2 (by decide)) (fun h => absurd h.2 (by decide)))))))
                have t190 := (g181 39 5).resolve_left (fun h => h.elim (fun h => absurd h.2 (by decide)) (fun h => h.elim (fun h => absurd h.2 (by decide)) (fun h => h.elim (fun h => absurd h.1 (by decide)) (fun h => h.elim (fun h => absurd h.2 (by decide)) (fun h => h.elim (fun h => absurd h.2 (by decide)) (fun h => absurd h.2 (by decide)))))))
                have t191 := (g181 1 18).resolve_left (fun h => h.elim (fun h => absurd h.2 (by decide)) (fun h => h.elim (fun h => absurd h.2 (by decide)) (fun h => h.elim (fun h => absurd h.2 (by decide)) (fun h => h.elim (fun h => absurd h.2 (by decide)) (fun h => h.elim (fun h => absurd h.2 (by decide)) (fun h => absurd h.2 (by decide)))))))
                have t192 := (g181 39 8).resolve_left (fun h => h.elim (fun h => absurd h.2 (by decide)) (fun h => h.elim (fun h => absurd h.2 (by decide)) (fun h => h.elim (fun h => absurd h.2 (by decide)) (fun h => h.elim (fun h => absurd h.2 (by decide)) (fun h => h.elim (fun h => absurd h.2 (by decide)) (fun h => absurd h.1 (by decide)))))))
                have t193 := (g181 39 2).resolve_left (fun h => h.elim (fun h => absurd h.2 (by decide)) (fun h => h.elim (fun h => absurd h.2 (by decide)) (fun h => h.elim (fun h => absurd h.2 (by decide)) (fun h => h.elim (fun h => absurd h.2 (by decide)) (fun h => h.elim (fun h => absurd h.2 (by decide)) (fun h => absurd h.2 (by decide)))))))
                have f194 := (show 0 ≤ I182 23 5 ∧ I182 23 5 ≤ 1000 from gc_in hI182 R_23 rfl rfl)
                have f195 := (show 0 ≤ I182 23 6 ∧ I182 23 6 ≤ 1001 from gc_in hI182 R_23 rfl rfl)
                have f196 := (show 0 ≤ I182 23 7 ∧ I182 23 7 ≤ 125 from gc_in hI182 R_23 rfl rfl)
                have t197 := gc_TK_mo KTK_I182
                refine gv_callV hD rfl (As := [.inl 0]) (st := []) rfl B_39 S_39 rfl (gc_lV6 hws rfl) (Nat.le_of_ble_eq_true rfl) (gz_Ev_mono (d := 4) (by decide) E181) ?_
                show gv_X _ _ (185, [(0, .inr (.inr (some 39))), (1, .inr (.inl v1_17)), (3, .inl v3_35)], [.inl z181], sh, gc_h sh I182 J183 A)
                refine gv_if_ne (t := 190) hD rfl rfl ⟨by omega, by omega⟩ (fun c198 => ?_) (fun c198 => ?_)
                · show gv_X _ _ (190, [(0, .inr (.inr (some 39))), (1, .inr (.inl v1_17)), (3, .inl v3_35)], [], sh, gc_h sh I182 J183 A)
                  have V199 := q181.2.2.2.2.2
                  rw [show I68 39 5 = I 39 5 from by omega] at V199
                  rw [show (if (0 : Int) = 0 then (1 : Int) else 0) = 1 from if_pos rfl] at V199
                  obtain ⟨u199, A199⟩ := gs_or1 V199 (by omega)
                  have t200 := gc_AT_l A199
                  refine gv_run 1 true hD (pc' := 191) (lv' := [(0, .inr (.inr (some 39))), (1, .inr (.inl v1_17)), (3, .inl v3_35)]) (st' := [.inr (.inr (some 39))]) (h' := gc_h sh I182 J183 A) (C := (True ∧ True)) rfl ⟨trivial, trivial⟩ ?_
                  refine gv_get hD rfl rfl S_39 ⟨by decide, B_39⟩ (gc_h5 (t := t) S_39 rfl (by omega)) ?_
                  show gv_X _ _ (194, [(0, .inr (.inr (some 39))), (1, .inr (.inl v1_17)), (3, .inl v3_35)], [.inr (.inr (some t))], sh, gc_h sh I182 J183 A)
                  refine gv_get hD rfl rfl S_t ⟨by decide, B_t⟩ (gc_hA S_t rfl A_t_8) ?_
                  show gv_X _ _ (197, [(0, .inr (.inr (some 39))), (1, .inr (.inl v1_17)), (3, .inl v3_35)], [.inr (.inr (some (t + 11)))], sh, gc_h sh I182 J183 A)
                  have f201 := (show 0 ≤ I182 (t + 11) 1 ∧ I182 (t + 11) 1 ≤ 24 from gc_in hI182 R_t_11 rfl rfl)
                  refine gv_get hD rfl rfl S_t_11 ⟨by decide, B_t_11⟩ (gc_hI S_t_11 rfl) ?_
                  show gv_X _ _ (200, [(0, .inr (.inr (some 39))), (1, .inr (.inl v1_17)), (3, .inl v3_35)], [.inl (I182 (t + 11) 1)], sh, gc_h sh I182 J183 A)
                  refine gv_run 2 true hD (pc' := 203) (lv' := [(5, .inl (I182 (t + 11) 1)), (0, .inr (.inr (some 39))), (1, .inr (.inl v1_17)), (3, .inl v3_35)]) (st' := [.inr (.inr (some 39))]) (h' := gc_h sh I182 J183 A) (C := ((True ∧ True) ∧ True)) rfl ⟨⟨trivial, trivial⟩, trivial⟩ ?_
                  refine gv_get hD rfl rfl S_39 ⟨by decide, B_39⟩ (gc_h5 (t := t) S_39 rfl (by omega)) ?_
                  show gv_X _ _ (206, [(5, .inl (I182 (t + 11) 1)), (0, .inr (.inr (some 39))), (1, .inr (.inl v1_17)), (3, .inl v3_35)], [.inr (.inr (some t))], sh, gc_h sh I182 J183 A)
                  refine gv_get hD rfl rfl S_t ⟨by decide, B_t⟩ (gc_hA S_t rfl A_t_8) ?_
                  show gv_X _ _ (209, [(5, .inl (I182 (t + 11) 1)), (0, .inr (.inr (some 39))), (1, .inr (.inl v1_17)), (3, .inl v3_35)], [.inr (.inr (some (t + 11)))], sh, gc_h sh I182 J183 A)
                  refine gv_run 1 true hD (pc' := 210) (lv' := [(5, .inl (I182 (t + 11) 1)), (0, .inr (.inr (some 39))), (1, .inr (.inl v1_17)), (3, .inl v3_35)]) (st' := [.inr (.inl v1_17), .inr (.inr (some (t + 11)))]) (h' := gc_h sh I182 J183 A) (C := (True ∧ True)) rfl ⟨trivial, trivial⟩ ?_
                  obtain ⟨r202, h202, E202, P202⟩ := d_X4_put_p (ws0 := ws0) (tb := tb) hws htb sh ro I182 J183 A hI182 (t + 11) 24 8 v1_17 h_t_11     
                  obtain ⟨I203, J204, rfl, hI203, g202, k202, ⟨rfl, q202⟩⟩ := P202
                  have FI203 := gc_frc (W := fun q j => (q = 39 ∧ j = 3) ∨ (q = 39 ∧ j = 4) ∨ (q = 23 ∧ j = 5) ∨ (q = 23 ∧ j = 6) ∨ (q = 23 ∧ j = 7) ∨ (q = 23 ∧ j = 8) ∨ (q = 1 ∧ j = 17) ∨ (q = 1 ∧ j = 18) ∨ q = 20 ∨ (q = 39 ∧ j = 6) ∨ (q = 39 ∧ j = 8) ∨ q = 40 ∨ (q = 41 ∧ j = 0) ∨ (q = 41 ∧ j = 1) ∨ (q = 41 ∧ j = 2) ∨ q = (t + 13) ∨ q = (t + 14) ∨ (q = (t + 11) ∧ j = 1)) (V := fun q j => (q = (t + 11) ∧ j = 1)) FI182 (fun q j h => (Or.inr (Or.inr (Or.inr (Or.inr (Or.inr (Or.inr (Or.inr (Or.inr (Or.inr (Or.inr (Or.inr (Or.inr (Or.inr (Or.inr (Or.inr (Or.inr (Or.inr h)))))))))))))))))) g202
                  have FJ204 := gc_frc (W := fun q j => (q = 23 ∧ j = 9) ∨ q = (t + 12)) (V := fun q j => q = (t + 12)) FJ183 (fun q j h => (Or.inr h)) k202
                  have t205 := (g202 23 1).resolve_left (fun h => absurd h.1 N_23__t_11)
                  have t206 := (g202 23 5).resolve_left (fun h => absurd h.2 (by decide))
                  have t207 := (g202 23 6).resolve_left (fun h => absurd h.2 (by decide))
                  have t208 := (g202 23 7).resolve_left (fun h => absurd h.2 (by decide))
                  have t209 := (g202 1 17).resolve_left (fun h => absurd h.2 (by decide))
                  have t210 := (g202 41 0).resolve_left (fun h => absurd h.2 (by decide))
                  have t211 := (g202 41 1).resolve_left (fun h => absurd h.1 N_41__t_11)
                  have t212 := (g202 41 2).resolve_left (fun h => absurd h.2 (by decide))
                  have t213 := (g202 39 5).resolve_left (fun h => absurd h.2 (by decide))
                  have t214 := (g202 1 18).resolve_left (fun h => absurd h.2 (by decide))
                  have t215 := (g202 39 8).resolve_left (fun h => absurd h.2 (by decide))
                  have t216 := (g202 39 2).resolve_left (fun h => absurd h.2 (by decide))
                  have f217 := (show 0 ≤ I203 (t + 11) 1 ∧ I203 (t + 11) 1 ≤ 24 from gc_in hI203 R_t_11 rfl rfl)
                  have KLT_I203 := gc_LT_fr KLT_I182 ((g202 23 5).resolve_left (fun h => absurd h.2 (by decide))) ((g202 23 6).resolve_left (fun h => absurd h.2 (by decide))) ((g202 23 7).resolve_left (fun h => absurd h.2 (by decide))) (fun k => (g202 24 k).resolve_left (fun h => absurd h.1 N_24__t_11))
                  have KTK_I203 := gc_TK_fr KTK_I182 ((g202 23 1).resolve_left (fun h => absurd h.1 N_23__t_11)) ((g202 23 5).resolve_left (fun h => absurd h.2 (by decide))) ((g202 23 6).resolve_left (fun h => absurd h.2 (by decide))) ((g202 23 7).resolve_left (fun h => absurd h.2 (by decide)))
                  have A218 := gc_AT_I A199 ((g202 23 1).resolve_left (fun h => absurd h.1 N_23__t_11)) ((g202 23 5).resolve_left (fun h => absurd h.2 (by decide))) ((g202 23 6).resolve_left (fun h => absurd h.2 (by decide))) ((g202 23 7).resolve_left (fun h => absurd h.2 (by decide))) ((g202 23 8).resolve_left (fun h => absurd h.2 (by decide))) (fun k => (g202 24 k).resolve_left (fun h => absurd h.1 N_24__t_11))
                  have A219 := gc_AT_J A218 ((k202 23 9).resolve_left (fun h => absurd h N_23__t_12))
                  have t220 := gc_AT_l A219
                  refine gv_callV hD rfl (As := [.inr (.inl v1_17)]) (st := []) rfl B_t_11 S_t_11 rfl (gc_lV6 hws rfl) (Nat.le_of_ble_eq_true rfl) (gz_Ev_mono (d := 1) (by decide) E202) ?_
                  show gv_X _ _ (213, [(5, .inl (I182 (t + 11) 1)), (0, .inr (.inr (some 39))), (1, .inr (.inl v1_17)), (3, .inl v3_35)], [], sh, gc_h sh I203 J204 A)
                  refine gv_run 1 true hD (pc' := 214) (lv' := [(5, .inl (I182 (t + 11) 1)), (0, .inr (.inr (some 39))), (1, .inr (.inl v1_17)), (3, .inl v3_35)]) (st' := [.inr (.inr (some 39))]) (h' := gc_h sh I203 J204 A) (C := (True ∧ True)) rfl ⟨trivial, trivial⟩ ?_
                  refine gv_get hD rfl rfl S_39 ⟨by decide, B_39⟩ (gc_h5 (t := t) S_39 rfl (by omega)) ?_
                  show gv_X _ _ (217, [(5, .inl (I182 (t + 11) 1)), (0, .inr (.inr (some 39))), (1, .inr (.inl v1_17)), (3, .inl v3_35)], [.inr (.inr (some t))], sh, gc_h sh I203 J204 A)
                  refine gv_get hD rfl rfl S_t ⟨by decide, B_t⟩ (gc_hA S_t rfl A_t_9) ?_
                  show gv_X _ _ (220, [(5, .inl (I182 (t + 11) 1)), (0, .inr (.inr (some 39))), (1, .inr (.inl v1_17)), (3, .inl v3_35)], [.inr (.inr (some (t + 13)))], sh, gc_h sh I203 J204 A)
                  refine gv_run 2 true hD (pc' := 223) (lv' := [(5, .inl (I182 (t + 11) 1)), (0, .inr (.inr (some 39))), (1, .inr (.inl v1_17)), (3, .inl v3_35)]) (st' := [.inr (.inr (some 39)), .inl (I182 (t + 11) 1), .inr (.inr (some (t + 13)))]) (h' := gc_h sh I203 J204 A) (C := ((True ∧ True) ∧ True)) rfl ⟨⟨trivial, trivial⟩, trivial⟩ ?_
                  have f221 := (show 0 ≤ I203 39 8 ∧ I203 39 8 ≤ 24 from gc_in hI203 R_39 rfl rfl)
                  refine gv_get hD rfl rfl S_39 ⟨by decide, B_39⟩ (gc_hI S_39 rfl) ?_
                  show gv_X _ _ (226, [(5, .inl (I182 (t + 11) 1)), (0, .inr (.inr (some 39))), (1, .inr (.inl v1_17)), (3, .inl v3_35)], [.inl (I203 39 8), .inl (I182 (t + 11) 1), .inr (.inr (some (t + 13)))], sh, gc_h sh I203 J204 A)
                  refine gv_iast hD rfl S_t_13 ⟨by decide, B_t_13⟩ ⟨by omega, by omega⟩ ?_
                  refine gc_st hI203 S_t_13 rfl R_t_13 (lo := 0) (hi := 24) rfl rfl (by omega) (by omega) (fun I222 hI222 q223 p223 => ?_)
                  have FI222 := gc_frs (W := fun q j => (q = 39 ∧ j = 3) ∨ (q = 39 ∧ j = 4) ∨ (q = 23 ∧ j = 5) ∨ (q = 23 ∧ j = 6) ∨ (q = 23 ∧ j = 7) ∨ (q = 23 ∧ j = 8) ∨ (q = 1 ∧ j = 17) ∨ (q = 1 ∧ j = 18) ∨ q = 20 ∨ (q = 39 ∧ j = 6) ∨ (q = 39 ∧ j = 8) ∨ q = 40 ∨ (q = 41 ∧ j = 0) ∨ (q = 41 ∧ j = 1) ∨ (q = 41 ∧ j = 2) ∨ q = (t + 13) ∨ q = (t + 14) ∨ (q = (t + 11) ∧ j = 1)) FI203 (Or.inr (Or.inr (Or.inr (Or.inr (Or.inr (Or.inr (Or.inr (Or.inr (Or.inr (Or.inr (Or.inr (Or.inr (Or.inr (Or.inr (Or.inr (Or.inl rfl)))))))))))))))) p223
                  have t224 := p223 23 1 (fun h => absurd h.1 N_23__t_13)
                  have t225 := p223 23 5 (fun h => absurd h.1 N_23__t_13)
                  have t226 := p223 23 6 (fun h => absurd h.1 N_23__t_13)
                  have t227 := p223 23 7 (fun h => absurd h.1 N_23__t_13)
                  have t228 := p223 1 17 (fun h => absurd h.1 N_1__t_13)
                  have t229 := p223 (t + 11) 1 (fun h => absurd h.1 N_t_11__t_13)
                  have t230 := p223 41 0 (fun h => absurd h.1 N_41__t_13)
                  have t231 := p223 41 1 (fun h => absurd h.1 N_41__t_13)
                  have t232 := p223 41 2 (fun h => absurd h.1 N_41__t_13)
                  have t233 := p223 39 5 (fun h => absurd h.1 N_39__t_13)
                  have t234 := p223 1 18 (fun h => absurd h.1 N_1__t_13)
                  have t235 := p223 39 8 (fun h => absurd h.1 N_39__t_13)
                  have t236 := p223 39 2 (fun h => absurd h.1 N_39__t_13)
                  have KLT_I222 := gc_LT_fr KLT_I203 (p223 23 5 (fun h => absurd h.1 N_23__t_13)) (p223 23 6 (fun h => absurd h.1 N_23__t_13)) (p223 23 7 (fun h => absurd h.1 N_23__t_13)) (fun k => p223 24 k (fun h => absurd h.1 N_24__t_13))
                  have KTK_I222 := gc_TK_fr KTK_I203 (p223 23 1 (fun h => absurd h.1 N_23__t_13)) (p223 23 5 (fun h => absurd h.1 N_23__t_13)) (p223 23 6 (fun h => absurd h.1 N_23__t_13)) (p223 23 7 (fun h => absurd h.1 N_23__t_13))
                  have A237 := gc_AT_I A219 (p223 23 1 (fun h => absurd h.1 N_23__t_13)) (p223 23 5 (fun h => absurd h.1 N_23__t_13)) (p223 23 6 (fun h => absurd h.1 N_23__t_13)) (p223 23 7 (fun h => absurd h.1 N_23__t_13)) (p223 23 8 (fun h => absurd h.1 N_23__t_13)) (fun k => p223 24 k (fun h => absurd h.1 N_24__t_13))
                  show gv_X _ _ (227, [(5, .inl (I182 (t + 11) 1)), (0, .inr (.inr (some 39))), (1, .inr (.inl v1_17)), (3, .inl v3_35)], [], sh, gc_h sh I222 J204 A)
                  refine gv_run 1 true hD (pc' := 228) (lv' := [(5, .inl (I182 (t + 11) 1)), (0, .inr (.inr (some 39))), (1, .inr (.inl v1_17)), (3, .inl v3_35)]) (st' := [.inr (.inr (some 39))]) (h' := gc_h sh I222 J204 A) (C := (True ∧ True)) rfl ⟨trivial, trivial⟩ ?_
                  refine gv_get hD rfl rfl S_39 ⟨by decide, B_39⟩ (gc_hA S_39 rfl A_39_9) ?_
                  show gv_X _ _ (231, [(5, .inl (I182 (t + 11) 1)), (0, .inr (.inr (some 39))), (1, .inr (.inl v1_17)), (3, .inl v3_35)], [.inr (.inr (some 40))], sh, gc_h sh I222 J204 A)
                  refine gv_run 2 true hD (pc' := 233) (lv' := [(5, .inl (I182 (t + 11) 1)), (0, .inr (.inr (some 39))), (1, .inr (.inl v1_17)), (3, .inl v3_35)]) (st' := [.inr (.inr (some 39)), .inl 0, .inr (.inr (some 40))]) (h' := gc_h sh I222 J204 A) (C := ((True ∧ True) ∧ True)) rfl ⟨⟨trivial, trivial⟩, trivial⟩ ?_
                  refine gv_get hD rfl rfl S_39 ⟨by decide, B_39⟩ (gc_h5 (t := t) S_39 rfl (by omega)) ?_
                  show gv_X _ _ (236, [(5, .inl (I182 (t + 11) 1)), (0, .inr (.inr (some 39))), (1, .inr (.inl v1_17)), (3, .inl v3_35)], [.inr (.inr (some t)), .inl 0, .inr (.inr (some 40))], sh, gc_h sh I222 J204 A)
                  refine gv_get hD rfl rfl S_t ⟨by decide, B_t⟩ (gc_hA S_t rfl A_t_10) ?_
                  show gv_X _ _ (239, [(5, .inl (I182 (t + 11) 1)), (0, .inr (.inr (some 39))), (1, .inr (.inl v1_17)), (3, .inl v3_35)], [.inr (.inr (some (t + 14))), .inl 0, .inr (.inr (some 40))], sh, gc_h sh I222 J204 A)
                  refine gv_run 6 true hD (pc' := 247) (lv' := [(5, .inl (I182 (t + 11) 1)), (0, .inr (.inr (some 39))), (1, .inr (.inl v1_17)), (3, .inl v3_35)]) (st' := [.inr (.inr (some 39)), .inl (((I182 (t + 11) 1) * 24) * 3), .inr (.inr (some (t + 14))), .inl 0, .inr (.inr (some 40))]) (h' := gc_h sh I222 J204 A) (C := ((((((True ∧ True) ∧ True) ∧ True) ∧ True) ∧ True) ∧ True)) rfl ⟨⟨⟨⟨⟨⟨trivial, trivial⟩, trivial⟩, trivial⟩, trivial⟩, trivial⟩, trivial⟩ ?_
                  have f238 := (show 0 ≤ I222 39 8 ∧ I222 39 8 ≤ 24 from gc_in hI222 R_39 rfl rfl)
                  refine gv_get hD rfl rfl S_39 ⟨by decide, B_39⟩ (gc_hI S_39 rfl) ?_
                  show gv_X _ _ (250, [(5, .inl (I182 (t + 11) 1)), (0, .inr (.inr (some 39))), (1, .inr (.inl v1_17)), (3, .inl v3_35)], [.inl (I222 39 8), .inl (((I182 (t + 11) 1) * 24) * 3), .inr (.inr (some (t + 14))), .inl 0, .inr (.inr (some 40))], sh, gc_h sh I222 J204 A)
                  refine gv_run 2 true hD (pc' := 252) (lv' := [(5, .inl (I182 (t + 11) 1)), (0, .inr (.inr (some 39))), (1, .inr (.inl v1_17)), (3, .inl v3_35)]) (st' := [.inl ((I222 39 8) * 3), .inl (((I182 (t + 11) 1) * 24) * 3), .inr (.inr (some (t + 14))), .inl 0, .inr (.inr (some 40))]) (h' := gc_h sh I222 J204 A) (C := ((True ∧ True) ∧ True)) rfl ⟨⟨trivial, trivial⟩, trivial⟩ ?_
                  refine gv_copy hD rfl (gc_lC6_263 hws) (Nat.le_of_ble_eq_true rfl) ⟨B_40, B_t_14⟩ S_40 S_t_14 (by decide) ⟨by decide, by decide⟩ ⟨by omega, by omega, by omega⟩ (by omega) (by omega) (fun h => absurd h (by decide)) ?_
                  refine gc_cp hI222 S_40 S_t_14 (by decide) (fun j hj => gc_cprg (m := 2) hI222 R_40 R_t_14 rfl rfl (by omega)) (fun I240 hI240 p239 q239 => ?_)
                  have FI240 := gc_frp (W := fun q j => (q = 39 ∧ j = 3) ∨ (q = 39 ∧ j = 4) ∨ (q = 23 ∧ j = 5) ∨ (q = 23 ∧ j = 6) ∨ (q = 23 ∧ j = 7) ∨ (q = 23 ∧ j = 8) ∨ (q = 1 ∧ j = 17) ∨ (q = 1 ∧ j = 18) ∨ q = 20 ∨ (q = 39 ∧ j = 6) ∨ (q = 39 ∧ j = 8) ∨ q = 40 ∨ (q = 41 ∧ j = 0) ∨ (q = 41 ∧ j = 1) ∨ (q = 41 ∧ j = 2) ∨ q = (t + 13) ∨ q = (t + 14) ∨ (q = (t + 11) ∧ j = 1)) (V := fun q j => q = (t + 14) ∧ Int.toNat ((((I182 (t + 11) 1) * 24) * 3)) ≤ j ∧ j < Int.toNat ((((I182 (t + 11) 1) * 24) * 3)) + Int.toNat (((I222 39 8) * 3))) FI222 (fun q j h => (Or.inr (Or.inr (Or.inr (Or.inr (Or.inr (Or.inr (Or.inr (Or.inr (Or.inr (Or.inr (Or.inr (Or.inr (Or.inr (Or.inr (Or.inr (Or.inr (Or.inl h.1)))))))))))))))))) p239
                  have KLT_I240 := gc_LT_fr KLT_I222 (p239 23 5 (fun h => absurd h.1 N_23__t_14)) (p239 23 6 (fun h => absurd h.1 N_23__t_14)) (p239 23 7 (fun h => absurd h.1 N_23__t_14)) (fun k => p239 24 k (fun h => absurd h.1 N_24__t_14))
                  have KTK_I240 := gc_TK_fr KTK_I222 (p239 23 1 (fun h => absurd h.1 N_23__t_14)) (p239 23 5 (fun h => absurd h.1 N_23__t_14)) (p239 23 6 (fun h => absurd h.1 N_23__t_14)) (p239 23 7 (fun h => absurd h.1 N_23__t_14))
                  have t242 := p239 23 1 (fun h => absurd h.1 N_23__t_14)
                  have t243 := p239 23 5 (fun h => absurd h.1 N_23__t_14)
                  have t244 := p239 23 6 (fun h => absurd h.1 N_23__t_14)
                  have t245 := p239 23 7 (fun h => absurd h.1 N_23__t_14)
                  have t246 := p239 1 17 (fun h => absurd h.1 N_1__t_14)
                  have t247 := p239 (t + 11) 1 (fun h => absurd h.1 N_t_11__t_14)
                  have t248 := p239 41 0 (fun h => absurd h.1 N_41__t_14)
                  have t249 := p239 41 1 (fun h => absurd h.1 N_41__t_14)
                  have t250 := p239 41 2 (fun h => absurd h.1 N_41__t_14)
                  have t251 := p239 39 5 (fun h => absurd h.1 N_39__t_14)
                  have t252 := p239 1 18 (fun h => absurd h.1 N_1__t_14)
                  have t253 := p239 39 8 (fun h => absurd h.1 N_39__t_14)
                  have t254 := p239 39 2 (fun h => absurd h.1 N_39__t_14)
                  have t255 := gc_TK_mo KTK_I240
                  have f256 := (show 0 ≤ I240 23 1 ∧ I240 23 1 ≤ 1000 from gc_in hI240 R_23 rfl rfl)
                  have f257 := (show 0 ≤ I240 23 5 ∧ I240 23 5 ≤ 1000 from gc_in hI240 R_23 rfl rfl)
                  have f258 := (show 0 ≤ I240 23 6 ∧ I240 23 6 ≤ 1001 from gc_in hI240 R_23 rfl rfl)
                  have f259 := (show 0 ≤ I240 23 7 ∧ I240 23 7 ≤ 125 from gc_in hI240 R_23 rfl rfl)
                  have f260 := (show 0 ≤ I240 1 17 ∧ I240 1 17 ≤ 12000 from gc_in hI240 R_1 rfl rfl)
                  have f261 := (show 0 ≤ I240 (t + 11) 1 ∧ I240 (t + 11) 1 ≤ 24 from gc_in hI240 R_t_11 rfl rfl)
                  have f262 := (show (-2147483648) ≤ I240 41 0 ∧ I240 41 0 ≤ 2147483647 from gc_in hI240 R_41 rfl rfl)
                  have f263 := (show (-2147483648) ≤ I240 41 1 ∧ I240 41 1 ≤ 2147483647 from gc_in hI240 R_41 rfl rfl)
                  have f264 := (show (-2147483648) ≤ I240 41 2 ∧ I240 41 2 ≤ 2147483647 from gc_in hI240 R_41 rfl rfl)
                  have f265 := (show 0 ≤ I240 39 5 ∧ I240 39 5 ≤ 1000 from gc_in hI240 R_39 rfl rfl)
                  have f266 := (show 0 ≤ I240 1 18 ∧ I240 1 18 ≤ 1 from gc_in hI240 R_1 rfl rfl)
                  have f267 := (show 0 ≤ I240 39 8 ∧ I240 39 8 ≤ 24 from gc_in hI240 R_39 rfl rfl)
                  have f268 := (show (-1) ≤ I240 39 2 ∧ I240 39 2 ≤ 999999 from gc_in hI240 R_39 rfl rfl)
                  have A269 := gc_AT_I A237 (p239 23 1 (fun h => absurd h.1 N_23__t_14)) (p239 23 5 (fun h => absurd h.1 N_23__t_14)) (p239 23 6 (fun h => absurd h.1 N_23__t_14)) (p239 23 7 (fun h => absurd h.1 N_23__t_14)) (p239 23 8 (fun h => absurd h.1 N_23__t_14)) (fun k => p239 24 k (fun h => absurd h.1 N_24__t_14))
                  show gv_X _ _ (255, [(5, .inl (I182 (t + 11) 1)), (0, .inr (.inr (some 39))), (1, .inr (.inl v1_17)), (3, .inl v3_35)], [], sh, gc_h sh I240 J204 A)
                  refine gv_run 1 true hD (pc' := 256) (lv' := [(5, .inl (I182 (t + 11) 1)), (0, .inr (.inr (some 39))), (1, .inr (.inl v1_17)), (3, .inl v3_35)]) (st' := [.inl 1]) (h' := gc_h sh I240 J204 A) (C := (True ∧ True)) rfl ⟨trivial, trivial⟩ ?_
                  exact gv_zret hD rfl (by omega) ⟨I240, J204, rfl, hI240, FI240, FJ204, KLT_I240, KTK_I240, ⟨_, rfl, by omega, by omega, by omega, by omega, by omega, (Or.inl ⟨by omega, by first | (exfalso; omega) | (have e9 : (gs_pat β η Ir Jr (I 39 5) p9) = (gs_done β η 1 (I 39 5) (gs_need β η 125 p_35)) := (by rw [gs_pat_e h9a (by omega) rfl]; unfold gs_pt4; (repeat first | rw [if_pos (by omega)] | rw [if_neg (by omega)])); rw [e9]; exact ⟨by omega, A269, (gc_PU_af (gc_PU_tr q202.2.2.2 ((((g181 (t + 11) 1).resolve_left (by omega)).trans ((g67 (t + 11) 1).resolve_left (by omega))).trans (e4_51.1)) (fun j => ((((k181 (t + 12) j).resolve_left (by omega)).trans ((k67 (t + 12) j).resolve_left (by omega))).trans (e4_51.2.1 j))) e2_51) ((p239 (t + 11) 1 (fun h => absurd h.1 (by omega))).trans (p223 (t + 11) 1 (by omega)))), by omega, (by rw [h9a]; exact (gs_Cpt_mk (gs_CL_fr (h9b.resolve_right (fun h => by have h8 := h.1; omega)).2 ((((g202 39 8).resolve_left (by omega)).trans ((g181 39 8).resolve_left (by omega))).trans ((g67 39 8).resolve_left (by omega))) (fun j => ((((g202 40 j).resolve_left (by omega)).trans ((g181 40 j).resolve_left (by omega))).trans ((g67 40 j).resolve_left (by omega))))) (by omega) p223 (q223.trans (by omega)) p239 q239 ⟨by omega, rfl⟩ (by omega) (fun j => (((((g202 (t + 13) j).resolve_left (by omega)).trans ((g181 (t + 13) j).resolve_left (by omega))).trans ((g67 (t + 13) j).resolve_left (by omega))).trans (e4_51.2.2.1 j))) (fun j => (((((g202 (t + 14) j).resolve_left (by omega)).trans ((g181 (t + 14) j).resolve_left (by omega))).trans ((g67 (t + 14) j).resolve_left (by omega))).trans (e4_51.2.2.2.1 j))) (by omega)))⟩)⟩)⟩⟩
                · show gv_X _ _ (188, [(0, .inr (.inr (some 39))), (1, .inr (.inl v1_17)), (3, .inl v3_35)], [], sh, gc_h sh I182 J183 A)
                  have V270 := q181.2.2.2.2.2
                  rw [show I68 39 5 = I 39 5 from by omega] at V270
                  rw [show (if (0 : Int) = 0 then (1 : Int) else 0) = 1 from if_pos rfl] at V270
                  obtain ⟨u270, u270_⟩ := gs_or0 V270 (by omega)
                  refine gv_run 1 true hD (pc' := 189) (lv' := [(0, .inr (.inr (some 39))), (1, .inr (.inl v1_17)), (3, .inl v3_35)]) (st' := [.inl 0]) (h' := gc_h sh I182 J183 A) (C := (True ∧ True)) rfl ⟨trivial, trivial⟩ ?_
                  exact gv_zret hD rfl (by omega) ⟨I182, J183, rfl, hI182, FI182, FJ183, KLT_I182, KTK_I182, ⟨_, rfl, by omega, by omega, by omega, by omega, by omega, (Or.inr ⟨by omega, by first | (exfalso; omega) | (rw [gs_pat_e h9a (by omega) rfl]; unfold gs_pt4; (repeat first | rw [if_pos (by omega)] | rw [if_neg (by omega)]); exact ⟨by omega, by omega, ((((g181 (t + 11) 1).resolve_left (by omega)).trans ((g67 (t + 11) 1).resolve_left (by omega))).trans (e4_51.1)), fun j => ⟨((((k181 (t + 12) j).resolve_left (by omega)).trans ((k67 (t + 12) j).resolve_left (by omega))).trans (e4_51.2.1 j)), ((((g181 (t + 13) j).resolve_left (by omega)).trans ((g67 (t + 13) j).resolve_left (by omega))).trans (e4_51.2.2.1 j)), ((((g181 (t + 14) j).resolve_left (by omega)).trans ((g67 (t + 14) j).resolve_left (by omega))).trans (e4_51.2.2.2.1 j))⟩⟩)⟩)⟩⟩
              · show gv_X _ _ (177, [(0, .inr (.inr (some 39))), (1, .inr (.inl v1_17)), (3, .inl v3_35)], [.inr (.inr (some 39))], sh, gc_h sh I68 J69 A)
                refine gv_run 2 true hD (pc' := 182) (lv' := [(0, .inr (.inr (some 39))), (1, .inr (.inl v1_17)), (3, .inl v3_35)]) (st' := [.inl 1, .inr (.inr (some 39))]) (h' := gc_h sh I68 J69 A) (C := ((True ∧ True) ∧ True)) rfl ⟨⟨trivial, trivial⟩, trivial⟩ ?_
                obtain ⟨r271, h271, E271, P271⟩ := d_X6_closes_p (ws0 := ws0) (tb := tb) hws htb sh ro I68 J69 A hI68  β η (gs_need β η 125 p_35) 1 hb   ⟨by omega, by omega⟩ A86 (by omega) (by omega) KLT_I68 KTK_I68
                obtain ⟨I272, J273, rfl, hI272, g271, k271, KLT_I272, KTK_I272, ⟨z271, rfl, q271⟩⟩ := P271
                have FI272 := gc_frc (W := fun q j => (q = 39 ∧ j = 3) ∨ (q = 39 ∧ j = 4) ∨ (q = 23 ∧ j = 5) ∨ (q = 23 ∧ j = 6) ∨ (q = 23 ∧ j = 7) ∨ (q = 23 ∧ j = 8) ∨ (q = 1 ∧ j = 17) ∨ (q = 1 ∧ j = 18) ∨ q = 20 ∨ (q = 39 ∧ j = 6) ∨ (q = 39 ∧ j = 8) ∨ q = 40 ∨ (q = 41 ∧ j = 0) ∨ (q = 41 ∧ j = 1) ∨ (q = 41 ∧ j = 2) ∨ q = (t + 13) ∨ q = (t + 14) ∨ (q = (t + 11) ∧ j = 1)) (V := fun q j => (q = 39 ∧ j = 3) ∨ (q = 39 ∧ j = 4) ∨ (q = 23 ∧ j = 5) ∨ (q = 23 ∧ j = 6) ∨ (q = 23 ∧ j = 7) ∨ (q = 23 ∧ j = 8)) FI68 (fun q j h => (h.elim (fun h => (Or.inl h)) (fun h => (h.elim (fun h => (Or.inr (Or.inl h))) (fun h => (h.elim (fun h => (Or.inr (Or.inr (Or.inl h)))) (fun h => (h.elim (fun h => (Or.inr (Or.inr (Or.inr (Or.inl h))))) (fun h => (h.elim (fun h => (Or.inr (Or.inr (Or.inr (Or.inr (Or.inl h)))))) (fun h => (Or.inr (Or.inr (Or.inr (Or.inr (Or.inr (Or.inl h))))))))))))))))) g271
                have FJ273 := gc_frc (W := fun q j => (q = 23 ∧ j = 9) ∨ q = (t + 12)) (V := fun q j => (q = 23 ∧ j = 9)) FJ69 (fun q j h => (Or.inl h)) k271
                have t274 := (g271 23 1).resolve_left (fun h => h.elim (fun h => absurd h.2 (by decide)) (fun h => h.elim (fun h => absurd h.2 (by decide)) (fun h => h.elim (fun h => absurd h.2 (by decide)) (fun h => h.elim (fun h => absurd h.2 (by decide)) (fun h => h.elim (fun h => absurd h.2 (by decide)) (fun h => absurd h.2 (by decide)))))))
                have t275 := (g271 1 17).resolve_left (fun h => h.elim (fun h => absurd h.2 (by decide)) (fun h => h.elim (fun h => absurd h.2 (by decide)) (fun h => h.elim (fun h => absurd h.2 (by decide)) (fun h => h.elim (fun h => absurd h.2 (by decide)) (fun h => h.elim (fun h => absurd h.2 (by decide)) (fun h => absurd h.2 (by decide)))))))
                have t276 := (g271 (t + 11) 1).resolve_left (fun h => h.elim (fun h => absurd h.2 (by decide)) (fun h => h.elim (fun h => absurd h.2 (by decide)) (fun h => h.elim (fun h => absurd h.2 (by decide)) (fun h => h.elim (fun h => absurd h.2 (by decide)) (fun h => h.elim (fun h => absurd h.2 (by decide)) (fun h => absurd h.2 (by decide)))))))
                have t277 := (g271 41 0).resolve_left (fun h => h.elim (fun h => absurd h.2 (by decide)) (fun h => h.elim (fun h => absurd h.2 (by decide)) (fun h => h.elim (fun h => absurd h.2 (by decide)) (fun h => h.elim (fun h => absurd h.2 (by decide)) (fun h => h.elim (fun h => absurd h.2 (by decide)) (fun h => absurd h.2 (by decide)))))))
                have t278 := (g271 41 1).resolve_left (fun h => h.elim (fun h => absurd h.2 (by decide)) (fun h => h.elim (fun h => absurd h.2 (by decide)) (fun h => h.elim (fun h => absurd h.2 (by decide)) (fun h => h.elim (fun h => absurd h.2 (by decide)) (fun h => h.elim (fun h => absurd h.2 (by decide)) (fun h => absurd h.2 (by decide)))))))
                have t279 := (g271 41 2).resolve_left (fun h => h.elim (fun h => absurd h.2 (by decide)) (fun h => h.elim (fun h => absurd h.2 (by decide)) (fun h => h.elim (fun h => absurd h.2 (by decide)) (fun h => h.elim (fun h => absurd h.2 (by decide)) (fun h => h.elim (fun h => absurd h.2 (by decide)) (fun h => absurd h.2 (by decide)))))))
                have t280 := (g271 39 5).resolve_left (fun h => h.elim (fun h => absurd h.2 (by decide)) (fun h => h.elim (fun h => absurd h.2 (by decide)) (fun h => h.elim (fun h => absurd h.1 (by decide)) (fun h => h.elim (fun h => absurd h.2 (by decide)) (fun h => h.elim (fun h => absurd h.2 (by decide)) (fun h => absurd h.2 (by decide)))))))
                have t281 := (g271 1 18).resolve_left (fun h => h.elim (fun h => absurd h.2 (by decide)) (fun h => h.elim (fun h => absurd h.2 (by decide)) (fun h => h.elim (fun h => absurd h.2 (by decide)) (fun h => h.elim (fun h => absurd h.2 (by decide)) (fun h => h.elim (fun h => absurd h.2 (by decide)) (fun h => absurd h.2 (by decide)))))))
                have t282 := (g271 39 8).resolve_left (fun h => h.elim (fun h => absurd h.2 (by decide)) (fun h => h.elim (fun h => absurd h.2 (by decide)) (fun h => h.elim (fun h => absurd h.2 (by decide)) (fun h => h.elim (fun h => absurd h.2 (by decide)) (fun h => h.elim (fun h => absurd h.2 (by decide)) (fun h => absurd h.1 (by decide)))))))
                have t283 := (g271 39 2).resolve_left (fun h => h.elim (fun h => absurd h.2 (by decide)) (fun h => h.elim (fun h => absurd h.2 (by decide)) (fun h => h.elim (fun h => absurd h.2 (by decide)) (fun h => h.elim (fun h => absurd h.2 (by decide)) (fun h => h.elim (fun h => absurd h.2 (by decide)) (fun h => absurd h.2 (by decide)))))))
                have f284 := (show 0 ≤ I272 23 5 ∧ I272 23 5 ≤ 1000 from gc_in hI272 R_23 rfl rfl)
                have f285 := (show 0 ≤ I272 23 6 ∧ I272 23 6 ≤ 1001 from gc_in hI272 R_23 rfl rfl)
                have f286 := (show 0 ≤ I272 23 7 ∧ I272 23 7 ≤ 125 from gc_in hI272 R_23 rfl rfl)
                have t287 := gc_TK_mo KTK_I272
                refine gv_callV hD rfl (As := [.inl 1]) (st := []) rfl B_39 S_39 rfl (gc_lV6 hws rfl) (Nat.le_of_ble_eq_true rfl) (gz_Ev_mono (d := 4) (by decide) E271) ?_
                show gv_X _ _ (185, [(0, .inr (.inr (some 39))), (1, .inr (.inl v1_17)), (3, .inl v3_35)], [.inl z271], sh, gc_h sh I272 J273 A)
                refine gv_if_ne (t := 190) hD rfl rfl ⟨by omega, by omega⟩ (fun c288 => ?_) (fun c288 => ?_)
                · show gv_X _ _ (190, [(0, .inr (.inr (some 39))), (1, .inr (.inl v1_17)), (3, .inl v3_35)], [], sh, gc_h sh I272 J273 A)
                  have V289 := q271.2.2.2.2.2
                  rw [show I68 39 5 = I 39 5 from by omega] at V289
                  rw [show (if (1 : Int) = 0 then (1 : Int) else 0) = 0 from if_neg (by decide)] at V289
                  obtain ⟨u289, A289⟩ := gs_or1 V289 (by omega)
                  have t290 := gc_AT_l A289
                  refine gv_run 1 true hD (pc' := 191) (lv' := [(0, .inr (.inr (some 39))), (1, .inr (.inl v1_17)), (3, .inl v3_35)]) (st' := [.inr (.inr (some 39))]) (h' := gc_h sh I272 J273 A) (C := (True ∧ True)) rfl ⟨trivial, trivial⟩ ?_
                  refine gv_get hD rfl rfl S_39 ⟨by decide, B_39⟩ (gc_h5 (t := t) S_39 rfl (by omega)) ?_
                  show gv_X _ _ (194, [(0, .inr (.inr (some 39))), (1, .inr (.inl v1_17)), (3, .inl v3_35)], [.inr (.inr (some t))], sh, gc_h sh I272 J273 A)
                  refine gv_get hD rfl rfl S_t ⟨by decide, B_t⟩ (gc_hA S_t rfl A_t_8) ?_
                  show gv_X _ _ (197, [(0, .inr (.inr (some 39))), (1, .inr (.inl v1_17)), (3, .inl v3_35)], [.inr (.inr (some (t + 11)))], sh, gc_h sh I272 J273 A)
                  have f291 := (show 0 ≤ I272 (t + 11) 1 ∧ I272 (t + 11) 1 ≤ 24 from gc_in hI272 R_t_11 rfl rfl)
                  refine gv_get hD rfl rfl S_t_11 ⟨by decide, B_t_11⟩ (gc_hI S_t_11 rfl) ?_
                  show gv_X _ _ (200, [(0, .inr (.inr (some 39))), (1, .inr (.inl v1_17)), (3, .inl v3_35)], [.inl (I272 (t + 11) 1)], sh, gc_h sh I272 J273 A)
                  refine gv_run 2 true hD (pc' := 203) (lv' := [(5, .inl (I272 (t + 11) 1)), (0, .inr (.inr (some 39))), (1, .inr (.inl v1_17)), (3, .inl v3_35)]) (st' := [.inr (.inr (some 39))]) (h' := gc_h sh I272 J273 A) (C := ((True ∧ True) ∧ True)) rfl ⟨⟨trivial, trivial⟩, trivial⟩ ?_
                  refine gv_get hD rfl rfl S_39 ⟨by decide, B_39⟩ (gc_h5 (t := t) S_39 rfl (by omega)) ?_
                  show gv_X _ _ (206, [(5, .inl (I272 (t + 11) 1)), (0, .inr (.inr (some 39))), (1, .inr (.inl v1_17)), (3, .inl v3_35)], [.inr (.inr (some t))], sh, gc_h sh I272 J273 A)
                  refine gv_get hD rfl rfl S_t ⟨by decide, B_t⟩ (gc_hA S_t rfl A_t_8) ?_
                  show gv_X _ _ (209, [(5, .inl (I272 (t + 11) 1)), (0, .inr (.inr (some 39))), (1, .inr (.inl v1_17)), (3, .inl v3_35)], [.inr (.inr (some (t + 11)))], sh, gc_h sh I272 J273 A)
                  refine gv_run 1 true hD (pc' := 210) (lv' := [(5, .inl (I272 (t + 11) 1)), (0, .inr (.inr (some 39))), (1, .inr (.inl v1_17)), (3, .inl v3_35)]) (st' := [.inr (.inl v1_17), .inr (.inr (some (t + 11)))]) (h' := gc_h sh I272 J273 A) (C := (True ∧ True)) rfl ⟨trivial, trivial⟩ ?_
                  obtain ⟨r292, h292, E292, P292⟩ := d_X4_put_p (ws0 := ws0) (tb := tb) hws htb sh ro I272 J273 A hI272 (t + 11) 24 8 v1_17 h_t_11     
                  obtain ⟨I293, J294, rfl, hI293, g292, k292, ⟨rfl, q292⟩⟩ := P292
                  have FI293 := gc_frc (W := fun q j => (q = 39 ∧ j = 3) ∨ (q = 39 ∧ j = 4) ∨ (q = 23 ∧ j = 5) ∨ (q = 23 ∧ j = 6) ∨ (q = 23 ∧ j = 7) ∨ (q = 23 ∧ j = 8) ∨ (q = 1 ∧ j = 17) ∨ (q = 1 ∧ j = 18) ∨ q = 20 ∨ (q = 39 ∧ j = 6) ∨ (q = 39 ∧ j = 8) ∨ q = 40 ∨ (q = 41 ∧ j = 0) ∨ (q = 41 ∧ j = 1) ∨ (q = 41 ∧ j = 2) ∨ q = (t + 13) ∨ q = (t + 14) ∨ (q = (t + 11) ∧ j = 1)) (V := fun q j => (q = (t + 11) ∧ j = 1)) FI272 (fun q j h => (Or.inr (Or.inr (Or.inr (Or.inr (Or.inr (Or.inr (Or.inr (Or.inr (Or.inr (Or.inr (Or.inr (Or.inr (Or.inr (Or.inr (Or.inr (Or.inr (Or.inr h)))))))))))))))))) g292
                  have FJ294 := gc_frc (W := fun q j => (q = 23 ∧ j = 9) ∨ q = (t + 12)) (V := fun q j => q = (t + 12)) FJ273 (fun q j h => (Or.inr h)) k292
                  have t295 := (g292 23 1).resolve_left (fun h => absurd h.1 N_23__t_11)
                  have t296 := (g292 23 5).resolve_left (fun h => absurd h.2 (by decide))
                  have t297 := (g292 23 6).resolve_left (fun h => absurd h.2 (by decide))
                  have t298 := (g292 23 7).resolve_left (fun h => absurd h.2 (by decide))
                  have t299 := (g292 1 17).resolve_left (fun h => absurd h.2 (by decide))
                  have t300 := (g292 41 0).resolve_left (fun h => absurd h.2 (by decide))
                  have t301 := (g292 41 1).resolve_left (fun h => absurd h.1 N_41__t_11)
                  have t302 := (g292 41 2).resolve_left (fun h => absurd h.2 (by decide))
                  have t303 := (g292 39 5).resolve_left (fun h => absurd h.2 (by decide))
                  have t304 := (g292 1 18).resolve_left (fun h => absurd h.2 (by decide))
                  have t305 := (g292 39 8).resolve_left (fun h => absurd h.2 (by decide))
                  have t306 := (g292 39 2).resolve_left (fun h => absurd h.2 (by decide))
                  have f307 := (show 0 ≤ I293 (t + 11) 1 ∧ I293 (t + 11) 1 ≤ 24 from gc_in hI293 R_t_11 rfl rfl)
                  have KLT_I293 := gc_LT_fr KLT_I272 ((g292 23 5).resolve_left (fun h => absurd h.2 (by decide))) ((g292 23 6).resolve_left (fun h => absurd h.2 (by decide))) ((g292 23 7).resolve_left (fun h => absurd h.2 (by decide))) (fun k => (g292 24 k).resolve_left (fun h => absurd h.1 N_24__t_11))
                  have KTK_I293 := gc_TK_fr KTK_I272 ((g292 23 1).resolve_left (fun h => absurd h.1 N_23__t_11)) ((g292 23 5).resolve_left (fun h => absurd h.2 (by decide))) ((g292 23 6).resolve_left (fun h => absurd h.2 (by decide))) ((g292 23 7).resolve_left (fun h => absurd h.2 (by decide)))
                  have A308 := gc_AT_I A289 ((g292 23 1).resolve_left (fun h => absurd h.1 N_23__t_11)) ((g292 23 5).resolve_left (fun h => absurd h.2 (by decide))) ((g292 23 6).resolve_left (fun h => absurd h.2 (by decide))) ((g292 23 7).resolve_left (fun h => absurd h.2 (by decide))) ((g292 23 8).resolve_left (fun h => absurd h.2 (by decide))) (fun k => (g292 24 k).resolve_left (fun h => absurd h.1 N_24__t_11))
                  have A309 := gc_AT_J A308 ((k292 23 9).resolve_left (fun h => absurd h N_23__t_12))
                  have t310 := gc_AT_l A309
                  refine gv_callV hD rfl (As := [.inr (.inl v1_17)]) (st := []) rfl B_t_11 S_t_11 rfl (gc_lV6 hws rfl) (Nat.le_of_ble_eq_true rfl) (gz_Ev_mono (d := 1) (by decide) E292) ?_
                  show gv_X _ _ (213, [(5, .inl (I272 (t + 11) 1)), (0, .inr (.inr (some 39))), (1, .inr (.inl v1_17)), (3, .inl v3_35)], [], sh, gc_h sh I293 J294 A)
                  refine gv_run 1 true hD (pc' := 214) (lv' := [(5, .inl (I272 (t + 11) 1)), (0, .inr (.inr (some 39))), (1, .inr (.inl v1_17)), (3, .inl v3_35)]) (st' := [.inr (.inr (some 39))]) (h' := gc_h sh I293 J294 A) (C := (True ∧ True)) rfl ⟨trivial, trivial⟩ ?_
                  refine gv_get hD rfl rfl S_39 ⟨by decide, B_39⟩ (gc_h5 (t := t) S_39 rfl (by omega)) ?_
                  show gv_X _ _ (217, [(5, .inl (I272 (t + 11) 1)), (0, .inr (.inr (some 39))), (1, .inr (.inl v1_17)), (3, .inl v3_35)], [.inr (.inr (some t))], sh, gc_h sh I293 J294 A)
                  refine gv_get hD rfl rfl S_t ⟨by decide, B_t⟩ (gc_hA S_t rfl A_t_9) ?_
                  show gv_X _ _ (220, [(5, .inl (I272 (t + 11) 1)), (0, .inr (.inr (some 39))), (1, .inr (.inl v1_17)), (3, .inl v3_35)], [.inr (.inr (some (t + 13)))], sh, gc_h sh I293 J294 A)
                  refine gv_run 2 true hD (pc' := 223) (lv' := [(5, .inl (I272 (t + 11) 1)), (0, .inr (.inr (some 39))), (1, .inr (.inl v1_17)), (3, .inl v3_35)]) (st' := [.inr (.inr (some 39)), .inl (I272 (t + 11) 1), .inr (.inr (some (t + 13)))]) (h' := gc_h sh I293 J294 A) (C := ((True ∧ True) ∧ True)) rfl ⟨⟨trivial, trivial⟩, trivial⟩ ?_
                  have f311 := (show 0 ≤ I293 39 8 ∧ I293 39 8 ≤ 24 from gc_in hI293 R_39 rfl rfl)
                  refine gv_get hD rfl rfl S_39 ⟨by decide, B_39⟩ (gc_hI S_39 rfl) ?_
                  show gv_X _ _ (226, [(5, .inl (I272 (t + 11) 1)), (0, .inr (.inr (some 39))), (1, .inr (.inl v1_17)), (3, .inl v3_35)], [.inl (I293 39 8), .inl (I272 (t + 11) 1), .inr (.inr (some (t + 13)))], sh, gc_h sh I293 J294 A)
                  refine gv_iast hD rfl S_t_13 ⟨by decide, B_t_13⟩ ⟨by omega, by omega⟩ ?_
                  refine gc_st hI293 S_t_13 rfl R_t_13 (lo := 0) (hi := 24) rfl rfl (by omega) (by omega) (fun I312 hI312 q313 p313 => ?_)
                  have FI312 := gc_frs (W := fun q j => (q = 39 ∧ j = 3) ∨ (q = 39 ∧ j = 4) ∨ (q = 23 ∧ j = 5) ∨ (q = 23 ∧ j = 6) ∨ (q = 23 ∧ j = 7) ∨ (q = 23 ∧ j = 8) ∨ (q = 1 ∧ j = 17) ∨ (q = 1 ∧ j = 18) ∨ q = 20 ∨ (q = 39 ∧ j = 6) ∨ (q = 39 ∧ j = 8) ∨ q = 40 ∨ (q = 41 ∧ j = 0) ∨ (q = 41 ∧ j = 1) ∨ (q = 41 ∧ j = 2) ∨ q = (t + 13) ∨ q = (t + 14) ∨ (q = (t + 11) ∧ j = 1)) FI293 (Or.inr (Or.inr (Or.inr (Or.inr (Or.inr (Or.inr (Or.inr (Or.inr (Or.inr (Or.inr (Or.inr (Or.inr (Or.inr (Or.inr (Or.inr (Or.inl rfl)))))))))))))))) p313
                  have t314 := p313 23 1 (fun h => absurd h.1 N_23__t_13)
                  have t315 := p313 23 5 (fun h => absurd h.1 N_23__t_13)
                  have t316 := p313 23 6 (fun h => absurd h.1 N_23__t_13)
                  have t317 := p313 23 7 (fun h => absurd h.1 N_23__t_13)
                  have t318 := p313 1 17 (fun h => absurd h.1 N_1__t_13)
                  have t319 := p313 (t + 11) 1 (fun h => absurd h.1 N_t_11__t_13)
                  have t320 := p313 41 0 (fun h => absurd h.1 N_41__t_13)
                  have t321 := p313 41 1 (fun h => absurd h.1 N_41__t_13)
                  have t322 := p313 41 2 (fun h => absurd h.1 N_41__t_13)
                  have t323 := p313 39 5 (fun h => absurd h.1 N_39__t_13)
                  have t324 := p313 1 18 (fun h => absurd h.1 N_1__t_13)
                  have t325 := p313 39 8 (fun h => absurd h.1 N_39__t_13)
                  have t326 := p313 39 2 (fun h => absurd h.1 N_39__t_13)
                  have KLT_I312 := gc_LT_fr KLT_I293 (p313 23 5 (fun h => absurd h.1 N_23__t_13)) (p313 23 6 (fun h => absurd h.1 N_23__t_13)) (p313 23 7 (fun h => absurd h.1 N_23__t_13)) (fun k => p313 24 k (fun h => absurd h.1 N_24__t_13))
                  have KTK_I312 := gc_TK_fr KTK_I293 (p313 23 1 (fun h => absurd h.1 N_23__t_13)) (p313 23 5 (fun h => absurd h.1 N_23__t_13)) (p313 23 6 (fun h => absurd h.1 N_23__t_13)) (p313 23 7 (fun h => absurd h.1 N_23__t_13))
                  have A327 := gc_AT_I A309 (p313 23 1 (fun h => absurd h.1 N_23__t_13)) (p313 23 5 (fun h => absurd h.1 N_23__t_13)) (p313 23 6 (fun h => absurd h.1 N_23__t_13)) (p313 23 7 (fun h => absurd h.1 N_23__t_13)) (p313 23 8 (fun h => absurd h.1 N_23__t_13)) (fun k => p313 24 k (fun h => absurd h.1 N_24__t_13))
                  show gv_X _ _ (227, [(5, .inl (I272 (t + 11) 1)), (0, .inr (.inr (some 39))), (1, .inr (.inl v1_17)), (3, .inl v3_35)], [], sh, gc_h sh I312 J294 A)
                  refine gv_run 1 true hD (pc' := 228) (lv' := [(5, .inl (I272 (t + 11) 1)), (0, .inr (.inr (some 39))), (1, .inr (.inl v1_17)), (3, .inl v3_35)]) (st' := [.inr (.inr (some 39))]) (h' := gc_h sh I312 J294 A) (C := (True ∧ True)) rfl ⟨trivial, trivial⟩ ?_
                  refine gv_get hD rfl rfl S_39 ⟨by decide, B_39⟩ (gc_hA S_39 rfl A_39_9) ?_
                  show gv_X _ _ (231, [(5, .inl (I272 (t + 11) 1)), (0, .inr (.inr (some 39))), (1, .inr (.inl v1_17)), (3, .inl v3_35)], [.inr (.inr (some 40))], sh, gc_h sh I312 J294 A)
                  refine gv_run 2 true hD (pc' := 233) (lv' := [(5, .inl (I272 (t + 11) 1)), (0, .inr (.inr (some 39))), (1, .inr (.inl v1_17)), (3, .inl v3_35)]) (st' := [.inr (.inr (some 39)), .inl 0, .inr (.inr (some 40))]) (h' := gc_h sh I312 J294 A) (C := ((True ∧ True) ∧ True)) rfl ⟨⟨trivial, trivial⟩, trivial⟩ ?_
                  refine gv_get hD rfl rfl S_39 ⟨by decide, B_39⟩ (gc_h5 (t := t) S_39 rfl (by omega)) ?_
                  show gv_X _ _ (236, [(5, .inl (I272 (t + 11) 1)), (0, .inr (.inr (some 39))), (1, .inr (.inl v1_17)), (3, .inl v3_35)], [.inr (.inr (some t)), .inl 0, .inr (.inr (some 40))], sh, gc_h sh I312 J294 A)
                  refine gv_get hD rfl rfl S_t ⟨by decide, B_t⟩ (gc_hA S_t rfl A_t_10) ?_
                  show gv_X _ _ (239, [(5, .inl (I272 (t + 11) 1)), (0, .inr (.inr (some 39))), (1, .inr (.inl v1_17)), (3, .inl v3_35)], [.inr (.inr (some (t + 14))), .inl 0, .inr (.inr (some 40))], sh, gc_h sh I312 J294 A)
                  refine gv_run 6 true hD (pc' := 247) (lv' := [(5, .inl (I272 (t + 11) 1)), (0, .inr (.inr (some 39))), (1, .inr (.inl v1_17)), (3, .inl v3_35)]) (st' := [.inr (.inr (some 39)), .inl (((I272 (t + 11) 1) * 24) * 3), .inr (.inr (some (t + 14))), .inl 0, .inr (.inr (some 40))]) (h' := gc_h sh I312 J294 A) (C := ((((((True ∧ True) ∧ True) ∧ True) ∧ True) ∧ True) ∧ True)) rfl ⟨⟨⟨⟨⟨⟨trivial, trivial⟩, trivial⟩, trivial⟩, trivial⟩, trivial⟩, trivial⟩ ?_
                  have f328 := (show 0 ≤ I312 39 8 ∧ I312 39 8 ≤ 24 from gc_in hI312 R_39 rfl rfl)
                  refine gv_get hD rfl rfl S_39 ⟨by decide, B_39⟩ (gc_hI S_39 rfl) ?_
                  show gv_X _ _ (250, [(5, .inl (I272 (t + 11) 1)), (0, .inr (.inr (some 39))), (1, .inr (.inl v1_17)), (3, .inl v3_35)], [.inl (I312 39 8), .inl (((I272 (t + 11) 1) * 24) * 3), .inr (.inr (some (t + 14))), .inl 0, .inr (.inr (some 40))], sh, gc_h sh I312 J294 A)
                  refine gv_run 2 true hD (pc' := 252) (lv' := [(5, .inl (I272 (t + 11) 1)), (0, .inr (.inr (some 39))), (1, .inr (.inl v1_17)), (3, .inl v3_35)]) (st' := [.inl ((I312 39 8) * 3), .inl (((I272 (t + 11) 1) * 24) * 3), .inr (.inr (some (t + 14))), .inl 0, .inr (.inr (some 40))]) (h' := gc_h sh I312 J294 A) (C := ((True ∧ True) ∧ True)) rfl ⟨⟨trivial, trivial⟩, trivial⟩ ?_
                  refine gv_copy hD rfl (gc_lC6_263 hws) (Nat.le_of_ble_eq_true rfl) ⟨B_40, B_t_14⟩ S_40 S_t_14 (by decide) ⟨by decide, by decide⟩ ⟨by omega, by omega, by omega⟩ (by omega) (by omega) (fun h => absurd h (by decide)) ?_
                  refine gc_cp hI312 S_40 S_t_14 (by decide) (fun j hj => gc_cprg (m := 2) hI312 R_40 R_t_14 rfl rfl (by omega)) (fun I330 hI330 p329 q329 => ?_)
                  have FI330 := gc_frp (W := fun q j => (q = 39 ∧ j = 3) ∨ (q = 39 ∧ j = 4) ∨ (q = 23 ∧ j = 5) ∨ (q = 23 ∧ j = 6) ∨ (q = 23 ∧ j = 7) ∨ (q = 23 ∧ j = 8) ∨ (q = 1 ∧ j = 17) ∨ (q = 1 ∧ j = 18) ∨ q = 20 ∨ (q = 39 ∧ j = 6) ∨ (q = 39 ∧ j = 8) ∨ q = 40 ∨ (q = 41 ∧ j = 0) ∨ (q = 41 ∧ j = 1) ∨ (q = 41 ∧ j = 2) ∨ q = (t + 13) ∨ q = (t + 14) ∨ (q = (t + 11) ∧ j = 1)) (V := fun q j => q = (t + 14) ∧ Int.toNat ((((I272 (t + 11) 1) * 24) * 3)) ≤ j ∧ j < Int.toNat ((((I272 (t + 11) 1) * 24) * 3)) + Int.toNat (((I312 39 8) * 3))) FI312 (fun q j h => (Or.inr (Or.inr (Or.inr (Or.inr (Or.inr (Or.inr (Or.inr (Or.inr (Or.inr (Or.inr (Or.inr (Or.inr (Or.inr (Or.inr (Or.inr (Or.inr (Or.inl h.1)))))))))))))))))) p329
                  have KLT_I330 := gc_LT_fr KLT_I312 (p329 23 5 (fun h => absurd h.1 N_23__t_14)) (p329 23 6 (fun h => absurd h.1 N_23__t_14)) (p329 23 7 (fun h => absurd h.1 N_23__t_14)) (fun k => p329 24 k (fun h => absurd h.1 N_24__t_14))
                  have KTK_I330 := gc_TK_fr KTK_I312 (p329 23 1 (fun h => absurd h.1 N_23__t_14)) (p329 23 5 (fun h => absurd h.1 N_23__t_14)) (p329 23 6 (fun h => absurd h.1 N_23__t_14)) (p329 23 7 (fun h => absurd h.1 N_23__t_14))
                  have t332 := p329 23 1 (fun h => absurd h.1 N_23__t_14)
                  have t333 := p329 23 5 (fun h => absurd h.1 N_23__t_14)
                  have t334 := p329 23 6 (fun h => absurd h.1 N_23__t_14)
                  have t335 := p329 23 7 (fun h => absurd h.1 N_23__t_14)
                  have t336 := p329 1 17 (fun h => absurd h.1 N_1__t_14)
                  have t337 := p329 (t + 11) 1 (fun h => absurd h.1 N_t_11__t_14)
                  have t338 := p329 41 0 (fun h => absurd h.1 N_41__t_14)
                  have t339 := p329 41 1 (fun h => absurd h.1 N_41__t_14)
                  have t340 := p329 41 2 (fun h => absurd h.1 N_41__t_14)
                  have t341 := p329 39 5 (fun h => absurd h.1 N_39__t_14)
                  have t342 := p329 1 18 (fun h => absurd h.1 N_1__t_14)
                  have t343 := p329 39 8 (fun h => absurd h.1 N_39__t_14)
                  have t344 := p329 39 2 (fun h => absurd h.1 N_39__t_14)
                  have t345 := gc_TK_mo KTK_I330
                  have f346 := (show 0 ≤ I330 23 1 ∧ I330 23 1 ≤ 1000 from gc_in hI330 R_23 rfl rfl)
                  have f347 := (show 0 ≤ I330 23 5 ∧ I330 23 5 ≤ 1000 from gc_in hI330 R_23 rfl rfl)
                  have f348 := (show 0 ≤ I330 23 6 ∧ I330 23 6 ≤ 1001 from gc_in hI330 R_23 rfl rfl)
                  have f349 := (show 0 ≤ I330 23 7 ∧ I330 23 7 ≤ 125 from gc_in hI330 R_23 rfl rfl)
                  have f350 := (show 0 ≤ I330 1 17 ∧ I330 1 17 ≤ 12000 from gc_in hI330 R_1 rfl rfl)
                  have f351 := (show 0 ≤ I330 (t + 11) 1 ∧ I330 (t + 11) 1 ≤ 24 from gc_in hI330 R_t_11 rfl rfl)
                  have f352 := (show (-2147483648) ≤ I330 41 0 ∧ I330 41 0 ≤ 2147483647 from gc_in hI330 R_41 rfl rfl)
                  have f353 := (show (-2147483648) ≤ I330 41 1 ∧ I330 41 1 ≤ 2147483647 from gc_in hI330 R_41 rfl rfl)
                  have f354 := (show (-2147483648) ≤ I330 41 2 ∧ I330 41 2 ≤ 2147483647 from gc_in hI330 R_41 rfl rfl)
                  have f355 := (show 0 ≤ I330 39 5 ∧ I330 39 5 ≤ 1000 from gc_in hI330 R_39 rfl rfl)
                  have f356 := (show 0 ≤ I330 1 18 ∧ I330 1 18 ≤ 1 from gc_in hI330 R_1 rfl rfl)
                  have f357 := (show 0 ≤ I330 39 8 ∧ I330 39 8 ≤ 24 from gc_in hI330 R_39 rfl rfl)
                  have f358 := (show (-1) ≤ I330 39 2 ∧ I330 39 2 ≤ 999999 from gc_in hI330 R_39 rfl rfl)
                  have A359 := gc_AT_I A327 (p329 23 1 (fun h => absurd h.1 N_23__t_14)) (p329 23 5 (fun h => absurd h.1 N_23__t_14)) (p329 23 6 (fun h => absurd h.1 N_23__t_14)) (p329 23 7 (fun h => absurd h.1 N_23__t_14)) (p329 23 8 (fun h => absurd h.1 N_23__t_14)) (fun k => p329 24 k (fun h => absurd h.1 N_24__t_14))
                  show gv_X _ _ (255, [(5, .inl (I272 (t + 11) 1)), (0, .inr (.inr (some 39))), (1, .inr (.inl v1_17)), (3, .inl v3_35)], [], sh, gc_h sh I330 J294 A)
                  refine gv_run 1 true hD (pc' := 256) (lv' := [(5, .inl (I272 (t + 11) 1)), (0, .inr (.inr (some 39))), (1, .inr (.inl v1_17)), (3, .inl v3_35)]) (st' := [.inl 1]) (h' := gc_h sh I330 J294 A) (C := (True ∧ True)) rfl ⟨trivial, trivial⟩ ?_
                  exact gv_zret hD rfl (by omega) ⟨I330, J294, rfl, hI330, FI330, FJ294, KLT_I330, KTK_I330, ⟨_, rfl, by omega, by omega, by omega, by omega, by omega, (Or.inl ⟨by omega, by first | (exfalso; omega) | (have e9 : (gs_pat β η Ir Jr (I 39 5) p9) = (gs_done β η 0 (I 39 5) (gs_need β η 125 p_35)) := (by rw [gs_pat_e h9a (by omega) rfl]; unfold gs_pt4; (repeat first | rw [if_pos (by omega)] | rw [if_neg (by omega)])); rw [e9]; exact ⟨by omega, A359, (gc_PU_af (gc_PU_tr q292.2.2.2 ((((g271 (t + 11) 1).resolve_left (by omega)).trans ((g67 (t + 11) 1).resolve_left (by omega))).trans (e4_51.1)) (fun j => ((((k271 (t + 12) j).resolve_left (by omega)).trans ((k67 (t + 12) j).resolve_left (by omega))).trans (e4_51.2.1 j))) e2_51) ((p329 (t + 11) 1 (fun h => absurd h.1 (by omega))).trans (p313 (t + 11) 1 (by omega)))), by omega, (by rw [h9a]; exact (gs_Cpt_mk (gs_CL_fr (h9b.resolve_right (fun h => by have h8 := h.1; omega)).2 ((((g292 39 8).resolve_left (by omega)).trans ((g271 39 8).resolve_left (by omega))).trans ((g67 39 8).resolve_left (by omega))) (fun j => ((((g292 40 j).resolve_left (by omega)).trans ((g271 40 j).resolve_left (by omega))).trans ((g67 40 j).resolve_left (by omega))))) (by omega) p313 (q313.trans (by omega)) p329 q329 ⟨by omega, rfl⟩ (by omega) (fun j => (((((g292 (t + 13) j).resolve_left (by omega)).trans ((g271 (t + 13) j).resolve_left (by omega))).trans ((g67 (t + 13) j).resolve_left (by omega))).trans (e4_51.2.2.1 j))) (fun j => (((((g292 (t + 14) j).resolve_left (by omega)).trans ((g271 (t + 14) j).resolve_left (by omega))).trans ((g67 (t + 14) j).resolve_left (by omega))).trans (e4_51.2.2.2.1 j))) (by omega)))⟩)⟩)⟩⟩
                · show gv_X _ _ (188, [(0, .inr (.inr (some 39))), (1, .inr (.inl v1_17)), (3, .inl v3_35)], [], sh, gc_h sh I272 J273 A)
                  have V360 := q271.2.2.2.2.2
                  rw [show I68 39 5 = I 39 5 from by omega] at V360
                  rw [show (if (1 : Int) = 0 then (1 : Int) else 0) = 0 from if_neg (by decide)] at V360
                  obtain ⟨u360, u360_⟩ := gs_or0 V360 (by omega)
                  refine gv_run 1 true hD (pc' := 189) (lv' := [(0, .inr (.inr (some 39))), (1, .inr (.inl v1_17)), (3, .inl v3_35)]) (st' := [.inl 0]) (h' := gc_h sh I272 J273 A) (C := (True ∧ True)) rfl ⟨trivial, trivial⟩ ?_
                  exact gv_zret hD rfl (by omega) ⟨I272, J273, rfl, hI272, FI272, FJ273, KLT_I272, KTK_I272, ⟨_, rfl, by omega, by omega, by omega, by omega, by omega, (Or.inr ⟨by omega, by first | (exfalso; omega) | (rw [gs_pat_e h9a (by omega) rfl]; unfold gs_pt4; (repeat first | rw [if_pos (by omega)] | rw [if_neg (by omega)]); exact ⟨by omega, by omega, ((((g271 (t + 11) 1).resolve_left (by omega)).trans ((g67 (t + 11) 1).resolve_left (by omega))).trans (e4_51.1)), fun j => ⟨((((k271 (t + 12) j).resolve_left (by omega)).trans ((k67 (t + 12) j).resolve_left (by omega))).trans (e4_51.2.1 j)), ((((g271 (t + 13) j).resolve_left (by omega)).trans ((g67 (t + 13) j).resolve_left (by omega))).trans (e4_51.2.2.1 j)), ((((g271 (t + 14) j).resolve_left (by omega)).trans ((g67 (t + 14) j).resolve_left (by omega))).trans (e4_51.2.2.2.1 j))⟩⟩)⟩)⟩⟩
        refine gv_run 2 true hD (pc' := 79) (lv' := [(0, .inr (.inr (some 39))), (1, .inr (.inl v1_17)), (3, .inl v3_35), (4, .inl v4_35), (5, .inl v5_35)]) (st' := [.inl 1000, .inl v5_35]) (h' := gc_h sh I33 J34 A) (C := ((True ∧ True) ∧ True)) rfl ⟨⟨trivial, trivial⟩, trivial⟩ ?_
        refine gv_icmp_ge (t := 150) hD rfl rfl ⟨⟨by omega, by omega⟩, ⟨by omega, by omega⟩⟩ (fun c361 => ?_) (fun c361 => ?_)
        · show gv_X _ _ (150, [(0, .inr (.inr (some 39))), (1, .inr (.inl v1_17)), (3, .inl v3_35), (4, .inl v4_35), (5, .inl v5_35)], [], sh, gc_h sh I33 J34 A)
          refine gv_pick [0, 1, 2] rfl ?_
          exact L150 (by omega) e1_35 e2_35 (by obtain ⟨V, h1, h2⟩ := id e3_35; exact ⟨V, h1.trans (if_pos (by omega)), h2⟩) ⟨((e4_35.1)), (fun k => (e4_35.2.1 k)), (fun k => (e4_35.2.2.1 k)), (fun k => (e4_35.2.2.2.1 k)), ((e4_35.2.2.2.2))⟩
        · show gv_X _ _ (82, [(0, .inr (.inr (some 39))), (1, .inr (.inl v1_17)), (3, .inl v3_35), (4, .inl v4_35), (5, .inl v5_35)], [], sh, gc_h sh I33 J34 A)
          refine gv_run 1 true hD (pc' := 84) (lv' := [(0, .inr (.inr (some 39))), (1, .inr (.inl v1_17)), (3, .inl v3_35), (4, .inl v4_35), (5, .inl v5_35)]) (st' := [.inl v4_35]) (h' := gc_h sh I33 J34 A) (C := (True ∧ True)) rfl ⟨trivial, trivial⟩ ?_
          refine gv_if_eq (t := 150) hD rfl rfl ⟨by omega, by omega⟩ (fun c362 => ?_) (fun c362 => ?_)
          · show gv_X _ _ (150, [(0, .inr (.inr (some 39))), (1, .inr (.inl v1_17)), (3, .inl v3_35), (4, .inl v4_35), (5, .inl v5_35)], [], sh, gc_h sh I33 J34 A)
            refine gv_pick [0, 1, 2] rfl ?_
            exact L150 (by omega) e1_35 e2_35 (by obtain ⟨V, h1, h2⟩ := id e3_35; exact ⟨V, h1.trans (if_pos (by omega)), h2⟩) ⟨((e4_35.1)), (fun k => (e4_35.2.1 k)), (fun k => (e4_35.2.2.1 k)), (fun k => (e4_35.2.2.2.1 k)), ((e4_35.2.2.2.2))⟩
          · show gv_X _ _ (87, [(0, .inr (.inr (some 39))), (1, .inr (.inl v1_17)), (3, .inl v3_35), (4, .inl v4_35), (5, .inl v5_35)], [], sh, gc_h sh I33 J34 A)
            refine gv_run 1 true hD (pc' := 88) (lv' := [(0, .inr (.inr (some 39))), (1, .inr (.inl v1_17)), (3, .inl v3_35), (4, .inl v4_35), (5, .inl v5_35)]) (st' := [.inr (.inr (some 39))]) (h' := gc_h sh I33 J34 A) (C := (True ∧ True)) rfl ⟨trivial, trivial⟩ ?_
            obtain ⟨r363, h363, E363, P363⟩ := d_X6_readCell_p (ws0 := ws0) (tb := tb) hws htb sh ro I33 J34 A hI33  t B β η p_35 Ir Jr  hb  h_t G_t   (by omega) e1_35 (by omega) (by omega) (by have h9 := x6; have h8 := (show I33 (t + 3) 1 = I (t + 3) 1 from ((FI33 (t + 3) 1).resolve_left (by omega))); omega) (by rw [show I33 (t + 3) 1 = I (t + 3) 1 from ((FI33 (t + 3) 1).resolve_left (by omega)), show J34 (t + 4) = J (t + 4) from funext fun j => ((FJ34 (t + 4) j).resolve_left (by omega))]; exact x7) (gs_VR_fr x8 ((FI33 (t + 3) 1).resolve_left (by omega)) (fun k => ((FI33 (t + 5) k).resolve_left (by omega))) (fun k => ((FI33 (t + 6) k).resolve_left (by omega)))) (by omega) KLT_I33 KTK_I33
            obtain ⟨I364, J365, rfl, hI364, g363, k363, KLT_I364, KTK_I364, ⟨z363, rfl, q363⟩⟩ := P363
            have FI364 := gc_frc (W := fun q j => (q = 39 ∧ j = 3) ∨ (q = 39 ∧ j = 4) ∨ (q = 23 ∧ j = 5) ∨ (q = 23 ∧ j = 6) ∨ (q = 23 ∧ j = 7) ∨ (q = 23 ∧ j = 8) ∨ (q = 1 ∧ j = 17) ∨ (q = 1 ∧ j = 18) ∨ q = 20 ∨ (q = 39 ∧ j = 6) ∨ (q = 39 ∧ j = 8) ∨ q = 40 ∨ (q = 41 ∧ j = 0) ∨ (q = 41 ∧ j = 1) ∨ (q = 41 ∧ j = 2) ∨ q = (t + 13) ∨ q = (t + 14) ∨ (q = (t + 11) ∧ j = 1)) (V := fun q j => (q = 39 ∧ j = 3) ∨ (q = 39 ∧ j = 4) ∨ (q = 23 ∧ j = 5) ∨ (q = 23 ∧ j = 6) ∨ (q = 23 ∧ j = 7) ∨ (q = 23 ∧ j = 8) ∨ (q = 1 ∧ j = 17) ∨ (q = 1 ∧ j = 18) ∨ q = 20 ∨ (q = 39 ∧ j = 6) ∨ (q = 41 ∧ j = 0) ∨ (q = 41 ∧ j = 1) ∨ (q = 41 ∧ j = 2)) FI33 (fun q j h => (h.elim (fun h => (Or.inl h)) (fun h => (h.elim (fun h => (Or.inr (Or.inl h))) (fun h => (h.elim (fun h => (Or.inr (Or.inr (Or.inl h)))) (fun h => (h.elim (fun h => (Or.inr (Or.inr (Or.inr (Or.inl h))))) (fun h => (h.elim (fun h => (Or.inr (Or.inr (Or.inr (Or.inr (Or.inl h)))))) (fun h => (h.elim (fun h => (Or.inr (Or.inr (Or.inr (Or.inr (Or.inr (Or.inl h))))))) (fun h => (h.elim (fun h => (Or.inr (Or.inr (Or.inr (Or.inr (Or.inr (Or.inr (Or.inl h)))))))) (fun h => (h.elim (fun h => (Or.inr (Or.inr (Or.inr (Or.inr (Or.inr (Or.inr (Or.inr (Or.inl h))))))))) (fun h => (h.elim (fun h => (Or.inr (Or.inr (Or.inr (Or.inr (Or.inr (Or.inr (Or.inr (Or.inr (Or.inl h)))))))))) (fun h => (h.elim (fun h => (Or.inr (Or.inr (Or.inr (Or.inr (Or.inr (Or.inr (Or.inr (Or.inr (Or.inr (Or.inl h))))))))))) (fun h => (h.elim (fun h => (Or.inr (Or.inr (Or.inr (Or.inr (Or.inr (Or.inr (Or.inr (Or.inr (Or.inr (Or.inr (Or.inr (Or.inr (Or.inl h)))))))))))))) (fun h => (h.elim (fun h => (Or.inr (Or.inr (Or.inr (Or.inr (Or.inr (Or.inr (Or.inr (Or.inr (Or.inr (Or.inr (Or.inr (Or.inr (Or.inr (Or.inl h))))))))))))))) (fun h => (Or.inr (Or.inr (Or.inr (Or.inr (Or.inr (Or.inr (Or.inr (Or.inr (Or.inr (Or.inr (Or.inr (Or.inr (Or.inr (Or.inr (Or.inl h)))))))))))))))))))))))))))))))))))))))) g363
            have FJ365 := gc_frc (W := fun q j => (q = 23 ∧ j = 9) ∨ q = (t + 12)) (V := fun q j => (q = 23 ∧ j = 9)) FJ34 (fun q j h => (Or.inl h)) k363
            have t366 := (g363 23 1).resolve_left (fun h => h.elim (fun h => absurd h.2 (by decide)) (fun h => h.elim (fun h => absurd h.2 (by decide)) (fun h => h.elim (fun h => absurd h.2 (by decide)) (fun h => h.elim (fun h => absurd h.2 (by decide)) (fun h => h.elim (fun h => absurd h.2 (by decide)) (fun h => h.elim (fun h => absurd h.2 (by decide)) (fun h => h.elim (fun h => absurd h.2 (by decide)) (fun h => h.elim (fun h => absurd h.2 (by decide)) (fun h => h.elim (fun h => absurd h (by decide)) (fun h => h.elim (fun h => absurd h.2 (by decide)) (fun h => h.elim (fun h => absurd h.2 (by decide)) (fun h => h.elim (fun h => absurd h.1 (by decide)) (fun h => absurd h.2 (by decide))))))))))))))
            have t367 := (g363 (t + 11) 1).resolve_left (fun h => h.elim (fun h => absurd h.2 (by decide)) (fun h => h.elim (fun h => absurd h.2 (by decide)) (fun h => h.elim (fun h => absurd h.2 (by decide)) (fun h => h.elim (fun h => absurd h.2 (by decide)) (fun h => h.elim (fun h => absurd h.2 (by decide)) (fun h => h.elim (fun h => absurd h.2 (by decide)) (fun h => h.elim (fun h => absurd h.2 (by decide)) (fun h => h.elim (fun h => absurd h.2 (by decide)) (fun h => h.elim (fun h => absurd h N_t_11__20) (fun h => h.elim (fun h => absurd h.2 (by decide)) (fun h => h.elim (fun h => absurd h.2 (by decide)) (fun h => h.elim (fun h => absurd h.1 N_t_11__41) (fun h => absurd h.2 (by decide))))))))))))))
            have t368 := (g363 39 5).resolve_left (fun h => h.elim (fun h => absurd h.2 (by decide)) (fun h => h.elim (fun h => absurd h.2 (by decide)) (fun h => h.elim (fun h => absurd h.1 (by decide)) (fun h => h.elim (fun h => absurd h.2 (by decide)) (fun h => h.elim (fun h => absurd h.2 (by decide)) (fun h => h.elim (fun h => absurd h.2 (by decide)) (fun h => h.elim (fun h => absurd h.2 (by decide)) (fun h => h.elim (fun h => absurd h.2 (by decide)) (fun h => h.elim (fun h => absurd h (by decide)) (fun h => h.elim (fun h => absurd h.2 (by decide)) (fun h => h.elim (fun h => absurd h.2 (by decide)) (fun h => h.elim (fun h => absurd h.2 (by decide)) (fun h => absurd h.2 (by decide))))))))))))))
            have t369 := (g363 39 8).resolve_left (fun h => h.elim (fun h => absurd h.2 (by decide)) (fun h => h.elim (fun h => absurd h.2 (by decide)) (fun h => h.elim (fun h => absurd h.2 (by decide)) (fun h => h.elim (fun h => absurd h.2 (by decide)) (fun h => h.elim (fun h => absurd h.2 (by decide)) (fun h => h.elim (fun h => absurd h.1 (by decide)) (fun h => h.elim (fun h => absurd h.2 (by decide)) (fun h => h.elim (fun h => absurd h.2 (by decide)) (fun h => h.elim (fun h => absurd h (by decide)) (fun h => h.elim (fun h => absurd h.2 (by decide)) (fun h => h.elim (fun h => absurd h.2 (by decide)) (fun h => h.elim (fun h => absurd h.2 (by decide)) (fun h => absurd h.2 (by decide))))))))))))))
            have t370 := (g363 39 2).resolve_left (fun h => h.elim (fun h => absurd h.2 (by decide)) (fun h => h.elim (fun h => absurd h.2 (by decide)) (fun h => h.elim (fun h => absurd h.2 (by decide)) (fun h => h.elim (fun h => absurd h.2 (by decide)) (fun h => h.elim (fun h => absurd h.2 (by decide)) (fun h => h.elim (fun h => absurd h.2 (by decide)) (fun h => h.elim (fun h => absurd h.2 (by decide)) (fun h => h.elim (fun h => absurd h.2 (by decide)) (fun h => h.elim (fun h => absurd h (by decide)) (fun h => h.elim (fun h => absurd h.2 (by decide)) (fun h => h.elim (fun h => absurd h.2 (by decide)) (fun h => h.elim (fun h => absurd h.2 (by decide)) (fun h => absurd h.1 (by decide))))))))))))))
            have f371 := (show 0 ≤ I364 23 5 ∧ I364 23 5 ≤ 1000 from gc_in hI364 R_23 rfl rfl)
            have f372 := (show 0 ≤ I364 23 6 ∧ I364 23 6 ≤ 1001 from gc_in hI364 R_23 rfl rfl)
            have f373 := (show 0 ≤ I364 23 7 ∧ I364 23 7 ≤ 125 from gc_in hI364 R_23 rfl rfl)
            have f374 := (show 0 ≤ I364 1 17 ∧ I364 1 17 ≤ 12000 from gc_in hI364 R_1 rfl rfl)
            have f375 := (show (-2147483648) ≤ I364 41 0 ∧ I364 41 0 ≤ 2147483647 from gc_in hI364 R_41 rfl rfl)
            have f376 := (show (-2147483648) ≤ I364 41 1 ∧ I364 41 1 ≤ 2147483647 from gc_in hI364 R_41 rfl rfl)
            have f377 := (show (-2147483648) ≤ I364 41 2 ∧ I364 41 2 ≤ 2147483647 from gc_in hI364 R_41 rfl rfl)
            have f378 := (show 0 ≤ I364 1 18 ∧ I364 1 18 ≤ 1 from gc_in hI364 R_1 rfl rfl)
            have t379 := gc_TK_mo KTK_I364
            obtain ⟨V9, h9a, h9b⟩ := id e3_35
            have h9c : (v3_35 = 0 ∧ ((V9.length : Nat) : Int) = I33 39 8) ∨ (v3_35 = 1 ∧ 25 ≤ ((V9.length : Nat) : Int)) := h9b.imp (fun h => ⟨h.1, h.2.1⟩) id
            refine gv_callV hD rfl (As := []) (st := []) rfl B_39 S_39 rfl (gc_lV6 hws rfl) (Nat.le_of_ble_eq_true rfl) (gz_Ev_mono (d := 4) (by decide) E363) ?_
            show gv_X _ _ (91, [(0, .inr (.inr (some 39))), (1, .inr (.inl v1_17)), (3, .inl v3_35), (4, .inl v4_35), (5, .inl v5_35)], [.inl z363], sh, gc_h sh I364 J365 A)
            refine gv_if_ne (t := 96) hD rfl rfl ⟨by omega, by omega⟩ (fun c380 => ?_) (fun c380 => ?_)
            · show gv_X _ _ (96, [(0, .inr (.inr (some 39))), (1, .inr (.inl v1_17)), (3, .inl v3_35), (4, .inl v4_35), (5, .inl v5_35)], [], sh, gc_h sh I364 J365 A)
              obtain ⟨u381, A381, U381⟩ := gs_or1 q363.2.2.2.2.2.2 (by omega)
              have t382 := gc_AT_l A381
              refine gv_run 1 true hD (pc' := 97) (lv' := [(0, .inr (.inr (some 39))), (1, .inr (.inl v1_17)), (3, .inl v3_35), (4, .inl v4_35), (5, .inl v5_35)]) (st' := [.inl v3_35]) (h' := gc_h sh I364 J365 A) (C := (True ∧ True)) rfl ⟨trivial, trivial⟩ ?_
              refine gv_if_ne (t := 107) hD rfl rfl ⟨by omega, by omega⟩ (fun c383 => ?_) (fun c383 => ?_)
              · show gv_X _ _ (107, [(0, .inr (.inr (some 39))), (1, .inr (.inl v1_17)), (3, .inl v3_35), (4, .inl v4_35), (5, .inl v5_35)], [], sh, gc_h sh I364 J365 A)
                refine gv_run 4 true hD (pc' := 114) (lv' := [(3, .inl 1), (0, .inr (.inr (some 39))), (1, .inr (.inl v1_17)), (4, .inl v4_35), (5, .inl v5_35)]) (st' := [.inr (.inr (some 39))]) (h' := gc_h sh I364 J365 A) (C := ((((True ∧ True) ∧ True) ∧ True) ∧ True)) rfl ⟨⟨⟨⟨trivial, trivial⟩, trivial⟩, trivial⟩, trivial⟩ ?_
                refine gv_get hD rfl rfl S_39 ⟨by decide, B_39⟩ (gc_hA S_39 rfl A_39_1) ?_
                show gv_X _ _ (117, [(3, .inl 1), (0, .inr (.inr (some 39))), (1, .inr (.inl v1_17)), (4, .inl v4_35), (5, .inl v5_35)], [.inr (.inr (some 23))], sh, gc_h sh I364 J365 A)
                have f384 := (show 0 ≤ I364 23 7 ∧ I364 23 7 ≤ 125 from gc_in hI364 R_23 rfl rfl)
                refine gv_get hD rfl rfl S_23 ⟨by decide, B_23⟩ (gc_hI S_23 rfl) ?_
                show gv_X _ _ (120, [(3, .inl 1), (0, .inr (.inr (some 39))), (1, .inr (.inl v1_17)), (4, .inl v4_35), (5, .inl v5_35)], [.inl (I364 23 7)], sh, gc_h sh I364 J365 A)
                refine gv_run 1 true hD (pc' := 122) (lv' := [(3, .inl 1), (0, .inr (.inr (some 39))), (1, .inr (.inl v1_17)), (4, .inl v4_35), (5, .inl v5_35)]) (st' := [.inl 44, .inl (I364 23 7)]) (h' := gc_h sh I364 J365 A) (C := (True ∧ True)) rfl ⟨trivial, trivial⟩ ?_
                refine gv_icmp_ne (t := 129) hD rfl rfl ⟨⟨by omega, by omega⟩, ⟨by omega, by omega⟩⟩ (fun c385 => ?_) (fun c385 => ?_)
                · show gv_X _ _ (129, [(3, .inl 1), (0, .inr (.inr (some 39))), (1, .inr (.inl v1_17)), (4, .inl v4_35), (5, .inl v5_35)], [], sh, gc_h sh I364 J365 A)
                  refine gv_run 3 true hD (pc' := 134) (lv' := [(4, .inl 0), (3, .inl 1), (0, .inr (.inr (some 39))), (1, .inr (.inl v1_17)), (5, .inl v5_35)]) (st' := [.inl 0]) (h' := gc_h sh I364 J365 A) (C := (((True ∧ True) ∧ True) ∧ True)) rfl ⟨⟨⟨trivial, trivial⟩, trivial⟩, trivial⟩ ?_
                  refine gv_if_eq (t := 144) hD rfl rfl ⟨by omega, by omega⟩ (fun c386 => ?_) (fun c386 => ?_)
                  · show gv_X _ _ (144, [(4, .inl 0), (3, .inl 1), (0, .inr (.inr (some 39))), (1, .inr (.inl v1_17)), (5, .inl v5_35)], [], sh, gc_h sh I364 J365 A)
                    refine gv_run 2 true hD (pc' := 74) (lv' := [(5, .inl (v5_35 + 1)), (4, .inl 0), (3, .inl 1), (0, .inr (.inr (some 39))), (1, .inr (.inl v1_17))]) (st' := []) (h' := gc_h sh I364 J365 A) (C := ((True ∧ True) ∧ True)) rfl ⟨⟨trivial, trivial⟩, trivial⟩ ?_
                    refine gv_pick [3, 4, 2, 1, 0] rfl ?_
                    exact ih74 I364 J365 1 0 (v5_35 + 1) (gs_cell β η Ir Jr p_35) (by omega) hI364 FI364 FJ365 KLT_I364 KTK_I364 (by omega) A381 e2_35 ⟨gs_ins V9 (gs_ws β η Ir Jr 1002 0 p_35).2, h9a.trans (by rw [if_neg (by omega), show Int.toNat (1002 - v5_35) = Int.toNat (1002 - (v5_35 + 1)) + 1 from by omega, gs_pc_c (by omega), if_neg (by omega), if_pos (by decide)]), Or.inr ⟨rfl, by have h8 := gs_ins_len (V := V9) (x := (gs_ws β η Ir Jr 1002 0 p_35).2); omega⟩⟩ ⟨((((g363 (t + 11) 1).resolve_left (by omega)).trans (e4_35.1))), (fun k => (((k363 (t + 12) k).resolve_left (by omega)).trans (e4_35.2.1 k))), (fun k => (((g363 (t + 13) k).resolve_left (by omega)).trans (e4_35.2.2.1 k))), (fun k => (((g363 (t + 14) k).resolve_left (by omega)).trans (e4_35.2.2.2.1 k))), ((((g363 39 5).resolve_left (by omega)).trans (e4_35.2.2.2.2)))⟩
                  · exfalso; omega
                · show gv_X _ _ (125, [(3, .inl 1), (0, .inr (.inr (some 39))), (1, .inr (.inl v1_17)), (4, .inl v4_35), (5, .inl v5_35)], [], sh, gc_h sh I364 J365 A)
                  refine gv_run 4 true hD (pc' := 134) (lv' := [(4, .inl 1), (3, .inl 1), (0, .inr (.inr (some 39))), (1, .inr (.inl v1_17)), (5, .inl v5_35)]) (st' := [.inl 1]) (h' := gc_h sh I364 J365 A) (C := ((((True ∧ True) ∧ True) ∧ True) ∧ True)) rfl ⟨⟨⟨⟨trivial, trivial⟩, trivial⟩, trivial⟩, trivial⟩ ?_
                  refine gv_if_eq (t := 144) hD rfl rfl ⟨by omega, by omega⟩ (fun c387 => ?_) (fun c387 => ?_)
                  · exfalso; omega
                  · show gv_X _ _ (137, [(4, .inl 1), (3, .inl 1), (0, .inr (.inr (some 39))), (1, .inr (.inl v1_17)), (5, .inl v5_35)], [], sh, gc_h sh I364 J365 A)
                    have t388 := gc_TK_st KTK_I364 (by omega)
                    refine gv_run 1 true hD (pc' := 138) (lv' := [(4, .inl 1), (3, .inl 1), (0, .inr (.inr (some 39))), (1, .inr (.inl v1_17)), (5, .inl v5_35)]) (st' := [.inr (.inr (some 39))]) (h' := gc_h sh I364 J365 A) (C := (True ∧ True)) rfl ⟨trivial, trivial⟩ ?_
                    refine gv_get hD rfl rfl S_39 ⟨by decide, B_39⟩ (gc_hA S_39 rfl A_39_1) ?_
                    show gv_X _ _ (141, [(4, .inl 1), (3, .inl 1), (0, .inr (.inr (some 39))), (1, .inr (.inl v1_17)), (5, .inl v5_35)], [.inr (.inr (some 23))], sh, gc_h sh I364 J365 A)
                    have t390 := gc_TK_nx KTK_I364 (by omega)
                    have t391 := gc_TK_st KTK_I364 (by omega)
                    obtain ⟨r389, h389, E389, P389⟩ := d_X9_advance_p (ws0 := ws0) (tb := tb) hws htb sh ro I364 J365 A hI364 23 β η  (gc_b23 hb)    (by omega) A381.1.1 A381.1.2 
                    obtain ⟨I392, J393, rfl, hI392, g389, k389, ⟨rfl, V389_0, V389_1, V389_2, V389_3, V389_4, q389⟩⟩ := P389
                    have FI392 := gc_frc (W := fun q j => (q = 39 ∧ j = 3) ∨ (q = 39 ∧ j = 4) ∨ (q = 23 ∧ j = 5) ∨ (q = 23 ∧ j = 6) ∨ (q = 23 ∧ j = 7) ∨ (q = 23 ∧ j = 8) ∨ (q = 1 ∧ j = 17) ∨ (q = 1 ∧ j = 18) ∨ q = 20 ∨ (q = 39 ∧ j = 6) ∨ (q = 39 ∧ j = 8) ∨ q = 40 ∨ (q = 41 ∧ j = 0) ∨ (q = 41 ∧ j = 1) ∨ (q = 41 ∧ j = 2) ∨ q = (t + 13) ∨ q = (t + 14) ∨ (q = (t + 11) ∧ j = 1)) (V := fun q j => (q = 23 ∧ j = 5) ∨ (q = 23 ∧ j = 6) ∨ (q = 23 ∧ j = 7) ∨ (q = 23 ∧ j = 8)) FI364 (fun q j h => (h.elim (fun h => (Or.inr (Or.inr (Or.inl h)))) (fun h => (h.elim (fun h => (Or.inr (Or.inr (Or.inr (Or.inl h))))) (fun h => (h.elim (fun h => (Or.inr (Or.inr (Or.inr (Or.inr (Or.inl h)))))) (fun h => (Or.inr (Or.inr (Or.inr (Or.inr (Or.inr (Or.inl h))))))))))))) g389
                    have FJ393 := gc_frc (W := fun q j => (q = 23 ∧ j = 9) ∨ q = (t + 12)) (V := fun q j => (q = 23 ∧ j = 9)) FJ365 (fun q j h => (Or.inl h)) k389
                    have t394 := (g389 23 1).resolve_left (fun h => h.elim (fun h => absurd h.2 (by decide)) (fun h => h.elim (fun h => absurd h.2 (by decide)) (fun h => h.elim (fun h => absurd h.2 (by decide)) (fun h => absurd h.2 (by decide)))))
                    have t395 := (g389 1 17).resolve_left (fun h => h.elim (fun h => absurd h.2 (by decide)) (fun h => h.elim (fun h => absurd h.2 (by decide)) (fun h => h.elim (fun h => absurd h.2 (by decide)) (fun h => absurd h.2 (by decide)))))
                    have t396 := (g389 (t + 11) 1).resolve_left (fun h => h.elim (fun h => absurd h.2 (by decide)) (fun h => h.elim (fun h => absurd h.2 (by decide)) (fun h => h.elim (fun h => absurd h.2 (by decide)) (fun h => absurd h.2 (by decide)))))
                    have t397 := (g389 41 0).resolve_left (fun h => h.elim (fun h => absurd h.2 (by decide)) (fun h => h.elim (fun h => absurd h.2 (by decide)) (fun h => h.elim (fun h => absurd h.2 (by decide)) (fun h => absurd h.2 (by decide)))))
                    have t398 := (g389 41 1).resolve_left (fun h => h.elim (fun h => absurd h.2 (by decide)) (fun h => h.elim (fun h => absurd h.2 (by decide)) (fun h => h.elim (fun h => absurd h.2 (by decide)) (fun h => absurd h.2 (by decide)))))
                    have t399 := (g389 41 2).resolve_left (fun h => h.elim (fun h => absurd h.2 (by decide)) (fun h => h.elim (fun h => absurd h.2 (by decide)) (fun h => h.elim (fun h => absurd h.2 (by decide)) (fun h => absurd h.2 (by decide)))))
                    have t400 := (g389 39 5).resolve_left (fun h => h.elim (fun h => absurd h.1 (by decide)) (fun h => h.elim (fun h => absurd h.2 (by decide)) (fun h => h.elim (fun h => absurd h.2 (by decide)) (fun h => absurd h.2 (by decide)))))
                    have t401 := (g389 1 18).resolve_left (fun h => h.elim (fun h => absurd h.2 (by decide)) (fun h => h.elim (fun h => absurd h.2 (by decide)) (fun h => h.elim (fun h => absurd h.2 (by decide)) (fun h => absurd h.2 (by decide)))))
                    have t402 := (g389 39 8).resolve_left (fun h => h.elim (fun h => absurd h.2 (by decide)) (fun h => h.elim (fun h => absurd h.2 (by decide)) (fun h => h.elim (fun h => absurd h.2 (by decide)) (fun h => absurd h.1 (by decide)))))
                    have t403 := (g389 39 2).resolve_left (fun h => h.elim (fun h => absurd h.2 (by decide)) (fun h => h.elim (fun h => absurd h.2 (by decide)) (fun h => h.elim (fun h => absurd h.2 (by decide)) (fun h => absurd h.2 (by decide)))))
                    have f404 := (show 0 ≤ I392 23 5 ∧ I392 23 5 ≤ 1000 from gc_in hI392 R_23 rfl rfl)
                    have f405 := (show 0 ≤ I392 23 6 ∧ I392 23 6 ≤ 1001 from gc_in hI392 R_23 rfl rfl)
                    have f406 := (show 0 ≤ I392 23 7 ∧ I392 23 7 ≤ 125 from gc_in hI392 R_23 rfl rfl)
                    have KLT_I392 : gc_LT I392 := q389.2.2.1
                    have KTK_I392 : gc_TK I392 := And.intro V389_0 (And.intro V389_1 (And.intro V389_2 (And.intro V389_3 V389_4)))
                    have t407 := gc_TK_mo KTK_I392
                    clear V389_0 V389_1 V389_2 V389_3 V389_4
                    have A408 := gc_AT_nx A381 q389.2.2.2
                    have t409 := gc_AT_l A408
                    refine gv_callV hD rfl (As := []) (st := []) rfl B_23 S_23 rfl (gc_lV6 hws rfl) (Nat.le_of_ble_eq_true rfl) (gz_Ev_mono (d := 2) (by decide) E389) ?_
                    show gv_X _ _ (144, [(4, .inl 1), (3, .inl 1), (0, .inr (.inr (some 39))), (1, .inr (.inl v1_17)), (5, .inl v5_35)], [], sh, gc_h sh I392 J393 A)
                    refine gv_run 2 true hD (pc' := 74) (lv' := [(5, .inl (v5_35 + 1)), (4, .inl 1), (3, .inl 1), (0, .inr (.inr (some 39))), (1, .inr (.inl v1_17))]) (st' := []) (h' := gc_h sh I392 J393 A) (C := ((True ∧ True) ∧ True)) rfl ⟨⟨trivial, trivial⟩, trivial⟩ ?_
                    refine gv_pick [3, 4, 2, 1, 0] rfl ?_
                    exact ih74 I392 J393 1 1 (v5_35 + 1) ((gs_X β η (gs_cell β η Ir Jr p_35))) (by omega) hI392 FI392 FJ393 KLT_I392 KTK_I392 (by omega) A408 e2_35 ⟨gs_ins V9 (gs_ws β η Ir Jr 1002 0 p_35).2, h9a.trans (by rw [if_neg (by omega), show Int.toNat (1002 - v5_35) = Int.toNat (1002 - (v5_35 + 1)) + 1 from by omega, gs_pc_c (by omega), if_pos (by omega), if_neg (by decide)]), Or.inr ⟨rfl, by have h8 := gs_ins_len (V := V9) (x := (gs_ws β η Ir Jr 1002 0 p_35).2); omega⟩⟩ ⟨(((((g389 (t + 11) 1).resolve_left (by omega)).trans ((g363 (t + 11) 1).resolve_left (by omega))).trans (e4_35.1))), (fun k => ((((k389 (t + 12) k).resolve_left (by omega)).trans ((k363 (t + 12) k).resolve_left (by omega))).trans (e4_35.2.1 k))), (fun k => ((((g389 (t + 13) k).resolve_left (by omega)).trans ((g363 (t + 13) k).resolve_left (by omega))).trans (e4_35.2.2.1 k))), (fun k => ((((g389 (t + 14) k).resolve_left (by omega)).trans ((g363 (t + 14) k).resolve_left (by omega))).trans (e4_35.2.2.2.1 k))), (((((g389 39 5).resolve_left (by omega)).trans ((g363 39 5).resolve_left (by omega))).trans (e4_35.2.2.2.2)))⟩
              · show gv_X _ _ (100, [(0, .inr (.inr (some 39))), (1, .inr (.inl v1_17)), (3, .inl v3_35), (4, .inl v4_35), (5, .inl v5_35)], [], sh, gc_h sh I364 J365 A)
                refine gv_run 1 true hD (pc' := 101) (lv' := [(0, .inr (.inr (some 39))), (1, .inr (.inl v1_17)), (3, .inl v3_35), (4, .inl v4_35), (5, .inl v5_35)]) (st' := [.inr (.inr (some 39))]) (h' := gc_h sh I364 J365 A) (C := (True ∧ True)) rfl ⟨trivial, trivial⟩ ?_
                obtain ⟨r410, h410, E410, P410⟩ := d_X6_placeCell_p (ws0 := ws0) (tb := tb) hws htb sh ro I364 J365 A hI364  V9 ((gs_ws β η Ir Jr 1002 0 p_35).2)  hb    (by omega) (gs_CL_fr (h9b.resolve_right (fun h => by have h8 := h.1; omega)).2 ((g363 39 8).resolve_left (by omega)) (fun j => ((g363 40 j).resolve_left (by omega)))) U381.2 
                obtain ⟨I411, J412, rfl, hI411, g410, k410, ⟨z410, rfl, q410⟩⟩ := P410
                have FI411 := gc_frc (W := fun q j => (q = 39 ∧ j = 3) ∨ (q = 39 ∧ j = 4) ∨ (q = 23 ∧ j = 5) ∨ (q = 23 ∧ j = 6) ∨ (q = 23 ∧ j = 7) ∨ (q = 23 ∧ j = 8) ∨ (q = 1 ∧ j = 17) ∨ (q = 1 ∧ j = 18) ∨ q = 20 ∨ (q = 39 ∧ j = 6) ∨ (q = 39 ∧ j = 8) ∨ q = 40 ∨ (q = 41 ∧ j = 0) ∨ (q = 41 ∧ j = 1) ∨ (q = 41 ∧ j = 2) ∨ q = (t + 13) ∨ q = (t + 14) ∨ (q = (t + 11) ∧ j = 1)) (V := fun q j => (q = 39 ∧ j = 8) ∨ q = 40) FI364 (fun q j h => (h.elim (fun h => (Or.inr (Or.inr (Or.inr (Or.inr (Or.inr (Or.inr (Or.inr (Or.inr (Or.inr (Or.inr (Or.inl h)))))))))))) (fun h => (Or.inr (Or.inr (Or.inr (Or.inr (Or.inr (Or.inr (Or.inr (Or.inr (Or.inr (Or.inr (Or.inr (Or.inl h))))))))))))))) g410
                have t413 := (g410 23 1).resolve_left (fun h => h.elim (fun h => absurd h.2 (by decide)) (fun h => absurd h (by decide)))
                have t414 := (g410 23 5).resolve_left (fun h => h.elim (fun h => absurd h.2 (by decide)) (fun h => absurd h (by decide)))
                have t415 := (g410 23 6).resolve_left (fun h => h.elim (fun h => absurd h.2 (by decide)) (fun h => absurd h (by decide)))
                have t416 := (g410 23 7).resolve_left (fun h => h.elim (fun h => absurd h.2 (by decide)) (fun h => absurd h (by decide)))
                have t417 := (g410 1 17).resolve_left (fun h => h.elim (fun h => absurd h.2 (by decide)) (fun h => absurd h (by decide)))
                have t418 := (g410 (t + 11) 1).resolve_left (fun h => h.elim (fun h => absurd h.2 (by decide)) (fun h => absurd h N_t_11__40))
                have t419 := (g410 41 0).resolve_left (fun h => h.elim (fun h => absurd h.2 (by decide)) (fun h => absurd h (by decide)))
                have t420 := (g410 41 1).resolve_left (fun h => h.elim (fun h => absurd h.2 (by decide)) (fun h => absurd h (by decide)))
                have t421 := (g410 41 2).resolve_left (fun h => h.elim (fun h => absurd h.2 (by decide)) (fun h => absurd h (by decide)))
                have t422 := (g410 39 5).resolve_left (fun h => h.elim (fun h => absurd h.2 (by decide)) (fun h => absurd h (by decide)))
                have t423 := (g410 1 18).resolve_left (fun h => h.elim (fun h => absurd h.2 (by decide)) (fun h => absurd h (by decide)))
                have t424 := (g410 39 2).resolve_left (fun h => h.elim (fun h => absurd h.2 (by decide)) (fun h => absurd h (by decide)))
                have f425 := (show 0 ≤ I411 39 8 ∧ I411 39 8 ≤ 24 from gc_in hI411 R_39 rfl rfl)
                obtain rfl : J365 = J412 := funext fun q => funext fun j => ((k410 q j).resolve_left id).symm
                have KLT_I411 := gc_LT_fr KLT_I364 ((g410 23 5).resolve_left (fun h => h.elim (fun h => absurd h.2 (by decide)) (fun h => absurd h (by decide)))) ((g410 23 6).resolve_left (fun h => h.elim (fun h => absurd h.2 (by decide)) (fun h => absurd h (by decide)))) ((g410 23 7).resolve_left (fun h => h.elim (fun h => absurd h.2 (by decide)) (fun h => absurd h (by decide)))) (fun k => (g410 24 k).resolve_left (fun h => h.elim (fun h => absurd h.1 (by decide)) (fun h => absurd h (by decide))))
                have KTK_I411 := gc_TK_fr KTK_I364 ((g410 23 1).resolve_left (fun h => h.elim (fun h => absurd h.2 (by decide)) (fun h => absurd h (by decide)))) ((g410 23 5).resolve_left (fun h => h.elim (fun h => absurd h.2 (by decide)) (fun h => absurd h (by decide)))) ((g410 23 6).resolve_left (fun h => h.elim (fun h => absurd h.2 (by decide)) (fun h => absurd h (by decide)))) ((g410 23 7).resolve_left (fun h => h.elim (fun h => absurd h.2 (by decide)) (fun h => absurd h (by decide))))
                have A426 := gc_AT_I A381 ((g410 23 1).resolve_left (fun h => h.elim (fun h => absurd h.2 (by decide)) (fun h => absurd h (by decide)))) ((g410 23 5).resolve_left (fun h => h.elim (fun h => absurd h.2 (by decide)) (fun h => absurd h (by decide)))) ((g410 23 6).resolve_left (fun h => h.elim (fun h => absurd h.2 (by decide)) (fun h => absurd h (by decide)))) ((g410 23 7).resolve_left (fun h => h.elim (fun h => absurd h.2 (by decide)) (fun h => absurd h (by decide)))) ((g410 23 8).resolve_left (fun h => h.elim (fun h => absurd h.1 (by decide)) (fun h => absurd h (by decide)))) (fun k => (g410 24 k).resolve_left (fun h => h.elim (fun h => absurd h.1 (by decide)) (fun h => absurd h (by decide))))
                have t427 := gc_AT_l A426
                refine gv_callV hD rfl (As := []) (st := []) rfl B_39 S_39 rfl (gc_lV6 hws rfl) (Nat.le_of_ble_eq_true rfl) (gz_Ev_mono (d := 2) (by decide) E410) ?_
                show gv_X _ _ (104, [(0, .inr (.inr (some 39))), (1, .inr (.inl v1_17)), (3, .inl v3_35), (4, .inl v4_35), (5, .inl v5_35)], [.inl z410], sh, gc_h sh I411 J365 A)
                refine gv_if_ne (t := 111) hD rfl rfl ⟨by omega, by omega⟩ (fun c428 => ?_) (fun c428 => ?_)
                · show gv_X _ _ (111, [(0, .inr (.inr (some 39))), (1, .inr (.inl v1_17)), (3, .inl v3_35), (4, .inl v4_35), (5, .inl v5_35)], [], sh, gc_h sh I411 J365 A)
                  refine gv_run 3 true hD (pc' := 114) (lv' := [(3, .inl 0), (0, .inr (.inr (some 39))), (1, .inr (.inl v1_17)), (4, .inl v4_35), (5, .inl v5_35)]) (st' := [.inr (.inr (some 39))]) (h' := gc_h sh I411 J365 A) (C := (((True ∧ True) ∧ True) ∧ True)) rfl ⟨⟨⟨trivial, trivial⟩, trivial⟩, trivial⟩ ?_
                  refine gv_get hD rfl rfl S_39 ⟨by decide, B_39⟩ (gc_hA S_39 rfl A_39_1) ?_
                  show gv_X _ _ (117, [(3, .inl 0), (0, .inr (.inr (some 39))), (1, .inr (.inl v1_17)), (4, .inl v4_35), (5, .inl v5_35)], [.inr (.inr (some 23))], sh, gc_h sh I411 J365 A)
                  have f429 := (show 0 ≤ I411 23 7 ∧ I411 23 7 ≤ 125 from gc_in hI411 R_23 rfl rfl)
                  refine gv_get hD rfl rfl S_23 ⟨by decide, B_23⟩ (gc_hI S_23 rfl) ?_
                  show gv_X _ _ (120, [(3, .inl 0), (0, .inr (.inr (some 39))), (1, .inr (.inl v1_17)), (4, .inl v4_35), (5, .inl v5_35)], [.inl (I411 23 7)], sh, gc_h sh I411 J365 A)
                  refine gv_run 1 true hD (pc' := 122) (lv' := [(3, .inl 0), (0, .inr (.inr (some 39))), (1, .inr (.inl v1_17)), (4, .inl v4_35), (5, .inl v5_35)]) (st' := [.inl 44, .inl (I411 23 7)]) (h' := gc_h sh I411 J365 A) (C := (True ∧ True)) rfl ⟨trivial, trivial⟩ ?_
                  refine gv_icmp_ne (t := 129) hD rfl rfl ⟨⟨by omega, by omega⟩, ⟨by omega, by omega⟩⟩ (fun c430 => ?_) (fun c430 => ?_)
                  · show gv_X _ _ (129, [(3, .inl 0), (0, .inr (.inr (some 39))), (1, .inr (.inl v1_17)), (4, .inl v4_35), (5, .inl v5_35)], [], sh, gc_h sh I411 J365 A)
                    refine gv_run 3 true hD (pc' := 134) (lv' := [(4, .inl 0), (3, .inl 0), (0, .inr (.inr (some 39))), (1, .inr (.inl v1_17)), (5, .inl v5_35)]) (st' := [.inl 0]) (h' := gc_h sh I411 J365 A) (C := (((True ∧ True) ∧ True) ∧ True)) rfl ⟨⟨⟨trivial, trivial⟩, trivial⟩, trivial⟩ ?_
                    refine gv_if_eq (t := 144) hD rfl rfl ⟨by omega, by omega⟩ (fun c431 => ?_) (fun c431 => ?_)
                    · show gv_X _ _ (144, [(4, .inl 0), (3, .inl 0), (0, .inr (.inr (some 39))), (1, .inr (.inl v1_17)), (5, .inl v5_35)], [], sh, gc_h sh I411 J365 A)
                      refine gv_run 2 true hD (pc' := 74) (lv' := [(5, .inl (v5_35 + 1)), (4, .inl 0), (3, .inl 0), (0, .inr (.inr (some 39))), (1, .inr (.inl v1_17))]) (st' := []) (h' := gc_h sh I411 J365 A) (C := ((True ∧ True) ∧ True)) rfl ⟨⟨trivial, trivial⟩, trivial⟩ ?_
                      refine gv_pick [3, 4, 2, 1, 0] rfl ?_
                      exact ih74 I411 J365 0 0 (v5_35 + 1) (gs_cell β η Ir Jr p_35) (by omega) hI411 FI411 FJ365 KLT_I411 KTK_I411 (by omega) A426 e2_35 ⟨gs_ins V9 (gs_ws β η Ir Jr 1002 0 p_35).2, h9a.trans (by rw [if_neg (by omega), show Int.toNat (1002 - v5_35) = Int.toNat (1002 - (v5_35 + 1)) + 1 from by omega, gs_pc_c (by omega), if_neg (by omega), if_pos (by decide)]), Or.inl ⟨rfl, gs_CL_fr (q410.2.2.resolve_right (fun h => by have h8 := h.1; omega)).2 rfl (fun j => rfl)⟩⟩ ⟨(((((g410 (t + 11) 1).resolve_left (by omega)).trans ((g363 (t + 11) 1).resolve_left (by omega))).trans (e4_35.1))), (fun k => (((k363 (t + 12) k).resolve_left (by omega)).trans (e4_35.2.1 k))), (fun k => ((((g410 (t + 13) k).resolve_left (by omega)).trans ((g363 (t + 13) k).resolve_left (by omega))).trans (e4_35.2.2.1 k))), (fun k => ((((g410 (t + 14) k).resolve_left (by omega)).trans ((g363 (t + 14) k).resolve_left (by omega))).trans (e4_35.2.2.2.1 k))), (((((g410 39 5).resolve_left (by omega)).trans ((g363 39 5).resolve_left (by omega))).trans (e4_35.2.2.2.2)))⟩
                    · exfalso; omega
                  · show gv_X _ _ (125, [(3, .inl 0), (0, .inr (.inr (some 39))), (1, .inr (.inl v1_17)), (4, .inl v4_35), (5, .inl v5_35)], [], sh, gc_h sh I411 J365 A)
                    refine gv_run 4 true hD (pc' := 134) (lv' := [(4, .inl 1), (3, .inl 0), (0, .inr (.inr (some 39))), (1, .inr (.inl v1_17)), (5, .inl v5_35)]) (st' := [.inl 1]) (h' := gc_h sh I411 J365 A) (C := ((((True ∧ True) ∧ True) ∧ True) ∧ True)) rfl ⟨⟨⟨⟨trivial, trivial⟩, trivial⟩, trivial⟩, trivial⟩ ?_
                    refine gv_if_eq (t := 144) hD rfl rfl ⟨by omega, by omega⟩ (fun c432 => ?_) (fun c432 => ?_)
                    · exfalso; omega
                    · show gv_X _ _ (137, [(4, .inl 1), (3, .inl 0), (0, .inr (.inr (some 39))), (1, .inr (.inl v1_17)), (5, .inl v5_35)], [], sh, gc_h sh I411 J365 A)
                      have t433 := gc_TK_st KTK_I411 (by omega)
                      refine gv_run 1 true hD (pc' := 138) (lv' := [(4, .inl 1), (3, .inl 0), (0, .inr (.inr (some 39))), (1, .inr (.inl v1_17)), (5, .inl v5_35)]) (st' := [.inr (.inr (some 39))]) (h' := gc_h sh I411 J365 A) (C := (True ∧ True)) rfl ⟨trivial, trivial⟩ ?_
                      refine gv_get hD rfl rfl S_39 ⟨by decide, B_39⟩ (gc_hA S_39 rfl A_39_1) ?_
                      show gv_X _ _ (141, [(4, .inl 1), (3, .inl 0), (0, .inr (.inr (some 39))), (1, .inr (.inl v1_17)), (5, .inl v5_35)], [.inr (.inr (some 23))], sh, gc_h sh I411 J365 A)
                      have t435 := gc_TK_nx KTK_I411 (by omega)
                      have t436 := gc_TK_st KTK_I411 (by omega)
                      obtain ⟨r434, h434, E434, P434⟩ := d_X9_advance_p (ws0 := ws0) (tb := tb) hws htb sh ro I411 J365 A hI411 23 β η  (gc_b23 hb)    (by omega) A426.1.1 A426.1.2 
                      obtain ⟨I437, J438, rfl, hI437, g434, k434, ⟨rfl, V434_0, V434_1, V434_2, V434_3, V434_4, q434⟩⟩ := P434
                      have FI437 := gc_frc (W := fun q j => (q = 39 ∧ j = 3) ∨ (q = 39 ∧ j = 4) ∨ (q = 23 ∧ j = 5) ∨ (q = 23 ∧ j = 6) ∨ (q = 23 ∧ j = 7) ∨ (q = 23 ∧ j = 8) ∨ (q = 1 ∧ j = 17) ∨ (q = 1 ∧ j = 18) ∨ q = 20 ∨ (q = 39 ∧ j = 6) ∨ (q = 39 ∧ j = 8) ∨ q = 40 ∨ (q = 41 ∧ j = 0) ∨ (q = 41 ∧ j = 1) ∨ (q = 41 ∧ j = 2) ∨ q = (t + 13) ∨ q = (t + 14) ∨ (q = (t + 11) ∧ j = 1)) (V := fun q j => (q = 23 ∧ j = 5) ∨ (q = 23 ∧ j = 6) ∨ (q = 23 ∧ j = 7) ∨ (q = 23 ∧ j = 8)) FI411 (fun q j h => (h.elim (fun h => (Or.inr (Or.inr (Or.inl h)))) (fun h => (h.elim (fun h => (Or.inr (Or.inr (Or.inr (Or.inl h))))) (fun h => (h.elim (fun h => (Or.inr (Or.inr (Or.inr (Or.inr (Or.inl h)))))) (fun h => (Or.inr (Or.inr (Or.inr (Or.inr (Or.inr (Or.inl h))))))))))))) g434
                      have FJ438 := gc_frc (W := fun q j => (q = 23 ∧ j = 9) ∨ q = (t + 12)) (V := fun q j => (q = 23 ∧ j = 9)) FJ365 (fun q j h => (Or.inl h)) k434
                      have t439 := (g434 23 1).resolve_left (fun h => h.elim (fun h => absurd h.2 (by decide)) (fun h => h.elim (fun h => absurd h.2 (by decide)) (fun h => h.elim (fun h => absurd h.2 (by decide)) (fun h => absurd h.2 (by decide)))))
                      have t440 := (g434 1 17).resolve_left (fun h => h.elim (fun h => absurd h.2 (by decide)) (fun h => h.elim (fun h => absurd h.2 (by decide)) (fun h => h.elim (fun h => absurd h.2 (by decide)) (fun h => absurd h.2 (by decide)))))
                      have t441 := (g434 (t + 11) 1).resolve_left (fun h => h.elim (fun h => absurd h.2 (by decide)) (fun h => h.elim (fun h => absurd h.2 (by decide)) (fun h => h.elim (fun h => absurd h.2 (by decide)) (fun h => absurd h.2 (by decide)))))
                      have t442 := (g434 41 0).resolve_left (fun h => h.elim (fun h => absurd h.2 (by decide)) (fun h => h.elim (fun h => absurd h.2 (by decide)) (fun h => h.elim (fun h => absurd h.2 (by decide)) (fun h => absurd h.2 (by decide)))))
                      have t443 := (g434 41 1).resolve_left (fun h => h.elim (fun h => absurd h.2 (by decide)) (fun h => h.elim (fun h => absurd h.2 (by decide)) (fun h => h.elim (fun h => absurd h.2 (by decide)) (fun h => absurd h.2 (by decide)))))
                      have t444 := (g434 41 2).resolve_left (fun h => h.elim (fun h => absurd h.2 (by decide)) (fun h => h.elim (fun h => absurd h.2 (by decide)) (fun h => h.elim (fun h => absurd h.2 (by decide)) (fun h => absurd h.2 (by decide)))))
                      have t445 := (g434 39 5).resolve_left (fun h => h.elim (fun h => absurd h.1 (by decide)) (fun h => h.elim (fun h => absurd h.2 (by decide)) (fun h => h.elim (fun h => absurd h.2 (by decide)) (fun h => absurd h.2 (by decide)))))
                      have t446 := (g434 1 18).resolve_left (fun h => h.elim (fun h => absurd h.2 (by decide)) (fun h => h.elim (fun h => absurd h.2 (by decide)) (fun h => h.elim (fun h => absurd h.2 (by decide)) (fun h => absurd h.2 (by decide)))))
                      have t447 := (g434 39 8).resolve_left (fun h => h.elim (fun h => absurd h.2 (by decide)) (fun h => h.elim (fun h => absurd h.2 (by decide)) (fun h => h.elim (fun h => absurd h.2 (by decide)) (fun h => absurd h.1 (by decide)))))
                      have t448 := (g434 39 2).resolve_left (fun h => h.elim (fun h => absurd h.2 (by decide)) (fun h => h.elim (fun h => absurd h.2 (by decide)) (fun h => h.elim (fun h => absurd h.2 (by decide)) (fun h => absurd h.2 (by decide)))))
                      have f449 := (show 0 ≤ I437 23 5 ∧ I437 23 5 ≤ 1000 from gc_in hI437 R_23 rfl rfl)
                      have f450 := (show 0 ≤ I437 23 6 ∧ I437 23 6 ≤ 1001 from gc_in hI437 R_23 rfl rfl)
                      have f451 := (show 0 ≤ I437 23 7 ∧ I437 23 7 ≤ 125 from gc_in hI437 R_23 rfl rfl)
                      have KLT_I437 : gc_LT I437 := q434.2.2.1
                      have KTK_I437 : gc_TK I437 := And.intro V434_0 (And.intro V434_1 (And.intro V434_2 (And.intro V434_3 V434_4)))
                      have t452 := gc_TK_mo KTK_I437
                      clear V434_0 V434_1 V434_2 V434_3 V434_4
                      have A453 := gc_AT_nx A426 q434.2.2.2
                      have t454 := gc_AT_l A453
                      refine gv_callV hD rfl (As := []) (st := []) rfl B_23 S_23 rfl (gc_lV6 hws rfl) (Nat.le_of_ble_eq_true rfl) (gz_Ev_mono (d := 2) (by decide) E434) ?_
                      show gv_X _ _ (144, [(4, .inl 1), (3, .inl 0), (0, .inr (.inr (some 39))), (1, .inr (.inl v1_17)), (5, .inl v5_35)], [], sh, gc_h sh I437 J438 A)
                      refine gv_run 2 true hD (pc' := 74) (lv' := [(5, .inl (v5_35 + 1)), (4, .inl 1), (3, .inl 0), (0, .inr (.inr (some 39))), (1, .inr (.inl v1_17))]) (st' := []) (h' := gc_h sh I437 J438 A) (C := ((True ∧ True) ∧ True)) rfl ⟨⟨trivial, trivial⟩, trivial⟩ ?_
                      refine gv_pick [3, 4, 2, 1, 0] rfl ?_
                      exact ih74 I437 J438 0 1 (v5_35 + 1) ((gs_X β η (gs_cell β η Ir Jr p_35))) (by omega) hI437 FI437 FJ438 KLT_I437 KTK_I437 (by omega) A453 e2_35 ⟨gs_ins V9 (gs_ws β η Ir Jr 1002 0 p_35).2, h9a.trans (by rw [if_neg (by omega), show Int.toNat (1002 - v5_35) = Int.toNat (1002 - (v5_35 + 1)) + 1 from by omega, gs_pc_c (by omega), if_pos (by omega), if_neg (by decide)]), Or.inl ⟨rfl, gs_CL_fr (q410.2.2.resolve_right (fun h => by have h8 := h.1; omega)).2 ((g434 39 8).resolve_left (by omega)) (fun j => ((g434 40 j).resolve_left (by omega)))⟩⟩ ⟨((((((g434 (t + 11) 1).resolve_left (by omega)).trans ((g410 (t + 11) 1).resolve_left (by omega))).trans ((g363 (t + 11) 1).resolve_left (by omega))).trans (e4_35.1))), (fun k => ((((k434 (t + 12) k).resolve_left (by omega)).trans ((k363 (t + 12) k).resolve_left (by omega))).trans (e4_35.2.1 k))), (fun k => (((((g434 (t + 13) k).resolve_left (by omega)).trans ((g410 (t + 13) k).resolve_left (by omega))).trans ((g363 (t + 13) k).resolve_left (by omega))).trans (e4_35.2.2.1 k))), (fun k => (((((g434 (t + 14) k).resolve_left (by omega)).trans ((g410 (t + 14) k).resolve_left (by omega))).trans ((g363 (t + 14) k).resolve_left (by omega))).trans (e4_35.2.2.2.1 k))), ((((((g434 39 5).resolve_left (by omega)).trans ((g410 39 5).resolve_left (by omega))).trans ((g363 39 5).resolve_left (by omega))).trans (e4_35.2.2.2.2)))⟩
                · show gv_X _ _ (107, [(0, .inr (.inr (some 39))), (1, .inr (.inl v1_17)), (3, .inl v3_35), (4, .inl v4_35), (5, .inl v5_35)], [], sh, gc_h sh I411 J365 A)
                  refine gv_run 4 true hD (pc' := 114) (lv' := [(3, .inl 1), (0, .inr (.inr (some 39))), (1, .inr (.inl v1_17)), (4, .inl v4_35), (5, .inl v5_35)]) (st' := [.inr (.inr (some 39))]) (h' := gc_h sh I411 J365 A) (C := ((((True ∧ True) ∧ True) ∧ True) ∧ True)) rfl ⟨⟨⟨⟨trivial, trivial⟩, trivial⟩, trivial⟩, trivial⟩ ?_
                  refine gv_get hD rfl rfl S_39 ⟨by decide, B_39⟩ (gc_hA S_39 rfl A_39_1) ?_
                  show gv_X _ _ (117, [(3, .inl 1), (0, .inr (.inr (some 39))), (1, .inr (.inl v1_17)), (4, .inl v4_35), (5, .inl v5_35)], [.inr (.inr (some 23))], sh, gc_h sh I411 J365 A)
                  have f455 := (show 0 ≤ I411 23 7 ∧ I411 23 7 ≤ 125 from gc_in hI411 R_23 rfl rfl)
                  refine gv_get hD rfl rfl S_23 ⟨by decide, B_23⟩ (gc_hI S_23 rfl) ?_
                  show gv_X _ _ (120, [(3, .inl 1), (0, .inr (.inr (some 39))), (1, .inr (.inl v1_17)), (4, .inl v4_35), (5, .inl v5_35)], [.inl (I411 23 7)], sh, gc_h sh I411 J365 A)
                  refine gv_run 1 true hD (pc' := 122) (lv' := [(3, .inl 1), (0, .inr (.inr (some 39))), (1, .inr (.inl v1_17)), (4, .inl v4_35), (5, .inl v5_35)]) (st' := [.inl 44, .inl (I411 23 7)]) (h' := gc_h sh I411 J365 A) (C := (True ∧ True)) rfl ⟨trivial, trivial⟩ ?_
                  refine gv_icmp_ne (t := 129) hD rfl rfl ⟨⟨by omega, by omega⟩, ⟨by omega, by omega⟩⟩ (fun c456 => ?_) (fun c456 => ?_)
                  · show gv_X _ _ (129, [(3, .inl 1), (0, .inr (.inr (some 39))), (1, .inr (.inl v1_17)), (4, .inl v4_35), (5, .inl v5_35)], [], sh, gc_h sh I411 J365 A)
                    refine gv_run 3 true hD (pc' := 134) (lv' := [(4, .inl 0), (3, .inl 1), (0, .inr (.inr (some 39))), (1, .inr (.inl v1_17)), (5, .inl v5_35)]) (st' := [.inl 0]) (h' := gc_h sh I411 J365 A) (C := (((True ∧ True) ∧ True) ∧ True)) rfl ⟨⟨⟨trivial, trivial⟩, trivial⟩, trivial⟩ ?_
                    refine gv_if_eq (t := 144) hD rfl rfl ⟨by omega, by omega⟩ (fun c457 => ?_) (fun c457 => ?_)
                    · show gv_X _ _ (144, [(4, .inl 0), (3, .inl 1), (0, .inr (.inr (some 39))), (1, .inr (.inl v1_17)), (5, .inl v5_35)], [], sh, gc_h sh I411 J365 A)
                      refine gv_run 2 true hD (pc' := 74) (lv' := [(5, .inl (v5_35 + 1)), (4, .inl 0), (3, .inl 1), (0, .inr (.inr (some 39))), (1, .inr (.inl v1_17))]) (st' := []) (h' := gc_h sh I411 J365 A) (C := ((True ∧ True) ∧ True)) rfl ⟨⟨trivial, trivial⟩, trivial⟩ ?_
                      refine gv_pick [3, 4, 2, 1, 0] rfl ?_
                      exact ih74 I411 J365 1 0 (v5_35 + 1) (gs_cell β η Ir Jr p_35) (by omega) hI411 FI411 FJ365 KLT_I411 KTK_I411 (by omega) A426 e2_35 ⟨gs_ins V9 (gs_ws β η Ir Jr 1002 0 p_35).2, h9a.trans (by rw [if_neg (by omega), show Int.toNat (1002 - v5_35) = Int.toNat (1002 - (v5_35 + 1)) + 1 from by omega, gs_pc_c (by omega), if_neg (by omega), if_pos (by decide)]), Or.inr ⟨rfl, (q410.2.2.resolve_left (fun h => by have h8 := h.1; omega)).2⟩⟩ ⟨(((((g410 (t + 11) 1).resolve_left (by omega)).trans ((g363 (t + 11) 1).resolve_left (by omega))).trans (e4_35.1))), (fun k => (((k363 (t + 12) k).resolve_left (by omega)).trans (e4_35.2.1 k))), (fun k => ((((g410 (t + 13) k).resolve_left (by omega)).trans ((g363 (t + 13) k).resolve_left (by omega))).trans (e4_35.2.2.1 k))), (fun k => ((((g410 (t + 14) k).resolve_left (by omega)).trans ((g363 (t + 14) k).resolve_left (by omega))).trans (e4_35.2.2.2.1 k))), (((((g410 39 5).resolve_left (by omega)).trans ((g363 39 5).resolve_left (by omega))).trans (e4_35.2.2.2.2)))⟩
                    · exfalso; omega
                  · show gv_X _ _ (125, [(3, .inl 1), (0, .inr (.inr (some 39))), (1, .inr (.inl v1_17)), (4, .inl v4_35), (5, .inl v5_35)], [], sh, gc_h sh I411 J365 A)
                    refine gv_run 4 true hD (pc' := 134) (lv' := [(4, .inl 1), (3, .inl 1), (0, .inr (.inr (some 39))), (1, .inr (.inl v1_17)), (5, .inl v5_35)]) (st' := [.inl 1]) (h' := gc_h sh I411 J365 A) (C := ((((True ∧ True) ∧ True) ∧ True) ∧ True)) rfl ⟨⟨⟨⟨trivial, trivial⟩, trivial⟩, trivial⟩, trivial⟩ ?_
                    refine gv_if_eq (t := 144) hD rfl rfl ⟨by omega, by omega⟩ (fun c458 => ?_) (fun c458 => ?_)
                    · exfalso; omega
                    · show gv_X _ _ (137, [(4, .inl 1), (3, .inl 1), (0, .inr (.inr (some 39))), (1, .inr (.inl v1_17)), (5, .inl v5_35)], [], sh, gc_h sh I411 J365 A)
                      have t459 := gc_TK_st KTK_I411 (by omega)
                      refine gv_run 1 true hD (pc' := 138) (lv' := [(4, .inl 1), (3, .inl 1), (0, .inr (.inr (some 39))), (1, .inr (.inl v1_17)), (5, .inl v5_35)]) (st' := [.inr (.inr (some 39))]) (h' := gc_h sh I411 J365 A) (C := (True ∧ True)) rfl ⟨trivial, trivial⟩ ?_
                      refine gv_get hD rfl rfl S_39 ⟨by decide, B_39⟩ (gc_hA S_39 rfl A_39_1) ?_
                      show gv_X _ _ (141, [(4, .inl 1), (3, .inl 1), (0, .inr (.inr (some 39))), (1, .inr (.inl v1_17)), (5, .inl v5_35)], [.inr (.inr (some 23))], sh, gc_h sh I411 J365 A)
                      have t461 := gc_TK_nx KTK_I411 (by omega)
                      have t462 := gc_TK_st KTK_I411 (by omega)
                      obtain ⟨r460, h460, E460, P460⟩ := d_X9_advance_p (ws0 := ws0) (tb := tb) hws htb sh ro I411 J365 A hI411 23 β η  (gc_b23 hb)    (by omega) A426.1.1 A426.1.2 
                      obtain ⟨I463, J464, rfl, hI463, g460, k460, ⟨rfl, V460_0, V460_1, V460_2, V460_3, V460_4, q460⟩⟩ := P460
                      have FI463 := gc_frc (W := fun q j => (q = 39 ∧ j = 3) ∨ (q = 39 ∧ j = 4) ∨ (q = 23 ∧ j = 5) ∨ (q = 23 ∧ j = 6) ∨ (q = 23 ∧ j = 7) ∨ (q = 23 ∧ j = 8) ∨ (q = 1 ∧ j = 17) ∨ (q = 1 ∧ j = 18) ∨ q = 20 ∨ (q = 39 ∧ j = 6) ∨ (q = 39 ∧ j = 8) ∨ q = 40 ∨ (q = 41 ∧ j = 0) ∨ (q = 41 ∧ j = 1) ∨ (q = 41 ∧ j = 2) ∨ q = (t + 13) ∨ q = (t + 14) ∨ (q = (t + 11) ∧ j = 1)) (V := fun q j => (q = 23 ∧ j = 5) ∨ (q = 23 ∧ j = 6) ∨ (q = 23 ∧ j = 7) ∨ (q = 23 ∧ j = 8)) FI411 (fun q j h => (h.elim (fun h => (Or.inr (Or.inr (Or.inl h)))) (fun h => (h.elim (fun h => (Or.inr (Or.inr (Or.inr (Or.inl h))))) (fun h => (h.elim (fun h => (Or.inr (Or.inr (Or.inr (Or.inr (Or.inl h)))))) (fun h => (Or.inr (Or.inr (Or.inr (Or.inr (Or.inr (Or.inl h))))))))))))) g460
                      have FJ464 := gc_frc (W := fun q j => (q = 23 ∧ j = 9) ∨ q = (t + 12)) (V := fun q j => (q = 23 ∧ j = 9)) FJ365 (fun q j h => (Or.inl h)) k460
                      have t465 := (g460 23 1).resolve_left (fun h => h.elim (fun h => absurd h.2 (by decide)) (fun h => h.elim (fun h => absurd h.2 (by decide)) (fun h => h.elim (fun h => absurd h.2 (by decide)) (fun h => absurd h.2 (by decide)))))
                      have t466 := (g460 1 17).resolve_left (fun h => h.elim (fun h => absurd h.2 (by decide)) (fun h => h.elim (fun h => absurd h.2 (by decide)) (fun h => h.elim (fun h => absurd h.2 (by decide)) (fun h => absurd h.2 (by decide)))))
                      have t467 := (g460 (t + 11) 1).resolve_left (fun h => h.elim (fun h => absurd h.2 (by decide)) (fun h => h.elim (fun h => absurd h.2 (by decide)) (fun h => h.elim (fun h => absurd h.2 (by decide)) (fun h => absurd h.2 (by decide)))))
                      have t468 := (g460 41 0).resolve_left (fun h => h.elim (fun h => absurd h.2 (by decide)) (fun h => h.elim (fun h => absurd h.2 (by decide)) (fun h => h.elim (fun h => absurd h.2 (by decide)) (fun h => absurd h.2 (by decide)))))
                      have t469 := (g460 41 1).resolve_left (fun h => h.elim (fun h => absurd h.2 (by decide)) (fun h => h.elim (fun h => absurd h.2 (by decide)) (fun h => h.elim (fun h => absurd h.2 (by decide)) (fun h => absurd h.2 (by decide)))))
                      have t470 := (g460 41 2).resolve_left (fun h => h.elim (fun h => absurd h.2 (by decide)) (fun h => h.elim (fun h => absurd h.2 (by decide)) (fun h => h.elim (fun h => absurd h.2 (by decide)) (fun h => absurd h.2 (by decide)))))
                      have t471 := (g460 39 5).resolve_left (fun h => h.elim (fun h => absurd h.1 (by decide)) (fun h => h.elim (fun h => absurd h.2 (by decide)) (fun h => h.elim (fun h => absurd h.2 (by decide)) (fun h => absurd h.2 (by decide)))))
                      have t472 := (g460 1 18).resolve_left (fun h => h.elim (fun h => absurd h.2 (by decide)) (fun h => h.elim (fun h => absurd h.2 (by decide)) (fun h => h.elim (fun h => absurd h.2 (by decide)) (fun h => absurd h.2 (by decide)))))
                      have t473 := (g460 39 8).resolve_left (fun h => h.elim (fun h => absurd h.2 (by decide)) (fun h => h.elim (fun h => absurd h.2 (by decide)) (fun h => h.elim (fun h => absurd h.2 (by decide)) (fun h => absurd h.1 (by decide)))))
                      have t474 := (g460 39 2).resolve_left (fun h => h.elim (fun h => absurd h.2 (by decide)) (fun h => h.elim (fun h => absurd h.2 (by decide)) (fun h => h.elim (fun h => absurd h.2 (by decide)) (fun h => absurd h.2 (by decide)))))
                      have f475 := (show 0 ≤ I463 23 5 ∧ I463 23 5 ≤ 1000 from gc_in hI463 R_23 rfl rfl)
                      have f476 := (show 0 ≤ I463 23 6 ∧ I463 23 6 ≤ 1001 from gc_in hI463 R_23 rfl rfl)
                      have f477 := (show 0 ≤ I463 23 7 ∧ I463 23 7 ≤ 125 from gc_in hI463 R_23 rfl rfl)
                      have KLT_I463 : gc_LT I463 := q460.2.2.1
                      have KTK_I463 : gc_TK I463 := And.intro V460_0 (And.intro V460_1 (And.intro V460_2 (And.intro V460_3 V460_4)))
                      have t478 := gc_TK_mo KTK_I463
                      clear V460_0 V460_1 V460_2 V460_3 V460_4
                      have A479 := gc_AT_nx A426 q460.2.2.2
                      have t480 := gc_AT_l A479
                      refine gv_callV hD rfl (As := []) (st := []) rfl B_23 S_23 rfl (gc_lV6 hws rfl) (Nat.le_of_ble_eq_true rfl) (gz_Ev_mono (d := 2) (by decide) E460) ?_
                      show gv_X _ _ (144, [(4, .inl 1), (3, .inl 1), (0, .inr (.inr (some 39))), (1, .inr (.inl v1_17)), (5, .inl v5_35)], [], sh, gc_h sh I463 J464 A)
                      refine gv_run 2 true hD (pc' := 74) (lv' := [(5, .inl (v5_35 + 1)), (4, .inl 1), (3, .inl 1), (0, .inr (.inr (some 39))), (1, .inr (.inl v1_17))]) (st' := []) (h' := gc_h sh I463 J464 A) (C := ((True ∧ True) ∧ True)) rfl ⟨⟨trivial, trivial⟩, trivial⟩ ?_
                      refine gv_pick [3, 4, 2, 1, 0] rfl ?_
                      exact ih74 I463 J464 1 1 (v5_35 + 1) ((gs_X β η (gs_cell β η Ir Jr p_35))) (by omega) hI463 FI463 FJ464 KLT_I463 KTK_I463 (by omega) A479 e2_35 ⟨gs_ins V9 (gs_ws β η Ir Jr 1002 0 p_35).2, h9a.trans (by rw [if_neg (by omega), show Int.toNat (1002 - v5_35) = Int.toNat (1002 - (v5_35 + 1)) + 1 from by omega, gs_pc_c (by omega), if_pos (by omega), if_neg (by decide)]), Or.inr ⟨rfl, (q410.2.2.resolve_left (fun h => by have h8 := h.1; omega)).2⟩⟩ ⟨((((((g460 (t + 11) 1).resolve_left (by omega)).trans ((g410 (t + 11) 1).resolve_left (by omega))).trans ((g363 (t + 11) 1).resolve_left (by omega))).trans (e4_35.1))), (fun k => ((((k460 (t + 12) k).resolve_left (by omega)).trans ((k363 (t + 12) k).resolve_left (by omega))).trans (e4_35.2.1 k))), (fun k => (((((g460 (t + 13) k).resolve_left (by omega)).trans ((g410 (t + 13) k).resolve_left (by omega))).trans ((g363 (t + 13) k).resolve_left (by omega))).trans (e4_35.2.2.1 k))), (fun k => (((((g460 (t + 14) k).resolve_left (by omega)).trans ((g410 (t + 14) k).resolve_left (by omega))).trans ((g363 (t + 14) k).resolve_left (by omega))).trans (e4_35.2.2.2.1 k))), ((((((g460 39 5).resolve_left (by omega)).trans ((g410 39 5).resolve_left (by omega))).trans ((g363 39 5).resolve_left (by omega))).trans (e4_35.2.2.2.2)))⟩
            · show gv_X _ _ (94, [(0, .inr (.inr (some 39))), (1, .inr (.inl v1_17)), (3, .inl v3_35), (4, .inl v4_35), (5, .inl v5_35)], [], sh, gc_h sh I364 J365 A)
              obtain ⟨u481, u481_⟩ := gs_or0 q363.2.2.2.2.2.2 (by omega)
              refine gv_run 1 true hD (pc' := 95) (lv' := [(0, .inr (.inr (some 39))), (1, .inr (.inl v1_17)), (3, .inl v3_35), (4, .inl v4_35), (5, .inl v5_35)]) (st' := [.inl 0]) (h' := gc_h sh I364 J365 A) (C := (True ∧ True)) rfl ⟨trivial, trivial⟩ ?_
              exact gv_zret hD rfl (by omega) ⟨I364, J365, rfl, hI364, FI364, FJ365, KLT_I364, KTK_I364, ⟨_, rfl, by omega, by omega, by omega, by omega, by omega, (Or.inr ⟨by omega, by have h8 : gs_ptw β η Ir Jr p9 = (gs_cell β η Ir Jr p_35, []) := h9a.trans (by rw [if_neg (by omega), show Int.toNat (1002 - v5_35) = Int.toNat (1002 - (v5_35 + 1)) + 1 from by omega, gs_pc_x (by omega)]); rw [gs_pat_x h8 (by omega)]; exact ⟨by omega, by omega, (((g363 (t + 11) 1).resolve_left (by omega)).trans (e4_35.1)), fun j => ⟨(((k363 (t + 12) j).resolve_left (by omega)).trans (e4_35.2.1 j)), (((g363 (t + 13) j).resolve_left (by omega)).trans (e4_35.2.2.1 j)), (((g363 (t + 14) j).resolve_left (by omega)).trans (e4_35.2.2.2.1 j))⟩⟩⟩)⟩⟩
    refine gv_run 2 true hD (pc' := 58) (lv' := [(0, .inr (.inr (some 39))), (1, .inr (.inl v1_17))]) (st' := [.inl 123, .inr (.inr (some 39))]) (h' := gc_h sh I15 J16 A) (C := ((True ∧ True) ∧ True)) rfl ⟨⟨trivial, trivial⟩, trivial⟩ ?_
    obtain ⟨r482, h482, E482, P482⟩ := d_X6_take_p (ws0 := ws0) (tb := tb) hws htb sh ro I15 J16 A hI15  β η p_17 123 hb   ⟨by omega, by omega⟩ (by omega) e1_17 (by omega) KLT_I15 KTK_I15
    obtain ⟨I483, J484, rfl, hI483, g482, k482, KLT_I483, KTK_I483, ⟨z482, rfl, q482⟩⟩ := P482
    have FI483 := gc_frc (W := fun q j => (q = 39 ∧ j = 3) ∨ (q = 39 ∧ j = 4) ∨ (q = 23 ∧ j = 5) ∨ (q = 23 ∧ j = 6) ∨ (q = 23 ∧ j = 7) ∨ (q = 23 ∧ j = 8) ∨ (q = 1 ∧ j = 17) ∨ (q = 1 ∧ j = 18) ∨ q = 20 ∨ (q = 39 ∧ j = 6) ∨ (q = 39 ∧ j = 8) ∨ q = 40 ∨ (q = 41 ∧ j = 0) ∨ (q = 41 ∧ j = 1) ∨ (q = 41 ∧ j = 2) ∨ q = (t + 13) ∨ q = (t + 14) ∨ (q = (t + 11) ∧ j = 1)) (V := fun q j => (q = 39 ∧ j = 3) ∨ (q = 39 ∧ j = 4) ∨ (q = 23 ∧ j = 5) ∨ (q = 23 ∧ j = 6) ∨ (q = 23 ∧ j = 7) ∨ (q = 23 ∧ j = 8)) FI15 (fun q j h => (h.elim (fun h => (Or.inl h)) (fun h => (h.elim (fun h => (Or.inr (Or.inl h))) (fun h => (h.elim (fun h => (Or.inr (Or.inr (Or.inl h)))) (fun h => (h.elim (fun h => (Or.inr (Or.inr (Or.inr (Or.inl h))))) (fun h => (h.elim (fun h => (Or.inr (Or.inr (Or.inr (Or.inr (Or.inl h)))))) (fun h => (Or.inr (Or.inr (Or.inr (Or.inr (Or.inr (Or.inl h))))))))))))))))) g482
    have FJ484 := gc_frc (W := fun q j => (q = 23 ∧ j = 9) ∨ q = (t + 12)) (V := fun q j => (q = 23 ∧ j = 9)) FJ16 (fun q j h => (Or.inl h)) k482
    have t485 := (g482 23 1).resolve_left (fun h => h.elim (fun h => absurd h.2 (by decide)) (fun h => h.elim (fun h => absurd h.2 (by decide)) (fun h => h.elim (fun h => absurd h.2 (by decide)) (fun h => h.elim (fun h => absurd h.2 (by decide)) (fun h => h.elim (fun h => absurd h.2 (by decide)) (fun h => absurd h.2 (by decide)))))))
    have t486 := (g482 1 17).resolve_left (fun h => h.elim (fun h => absurd h.2 (by decide)) (fun h => h.elim (fun h => absurd h.2 (by decide)) (fun h => h.elim (fun h => absurd h.2 (by decide)) (fun h => h.elim (fun h => absurd h.2 (by decide)) (fun h => h.elim (fun h => absurd h.2 (by decide)) (fun h => absurd h.2 (by decide)))))))
    have t487 := (g482 (t + 11) 1).resolve_left (fun h => h.elim (fun h => absurd h.2 (by decide)) (fun h => h.elim (fun h => absurd h.2 (by decide)) (fun h => h.elim (fun h => absurd h.2 (by decide)) (fun h => h.elim (fun h => absurd h.2 (by decide)) (fun h => h.elim (fun h => absurd h.2 (by decide)) (fun h => absurd h.2 (by decide)))))))
    have t488 := (g482 41 0).resolve_left (fun h => h.elim (fun h => absurd h.2 (by decide)) (fun h => h.elim (fun h => absurd h.2 (by decide)) (fun h => h.elim (fun h => absurd h.2 (by decide)) (fun h => h.elim (fun h => absurd h.2 (by decide)) (fun h => h.elim (fun h => absurd h.2 (by decide)) (fun h => absurd h.2 (by decide)))))))
    have t489 := (g482 41 1).resolve_left (fun h => h.elim (fun h => absurd h.2 (by decide)) (fun h => h.elim (fun h => absurd h.2 (by decide)) (fun h => h.elim (fun h => absurd h.2 (by decide)) (fun h => h.elim (fun h => absurd h.2 (by decide)) (fun h => h.elim (fun h => absurd h.2 (by decide)) (fun h => absurd h.2 (by decide)))))))
    have t490 := (g482 41 2).resolve_left (fun h => h.elim (fun h => absurd h.2 (by decide)) (fun h => h.elim (fun h => absurd h.2 (by decide)) (fun h => h.elim (fun h => absurd h.2 (by decide)) (fun h => h.elim (fun h => absurd h.2 (by decide)) (fun h => h.elim (fun h => absurd h.2 (by decide)) (fun h => absurd h.2 (by decide)))))))
    have t491 := (g482 39 5).resolve_left (fun h => h.elim (fun h => absurd h.2 (by decide)) (fun h => h.elim (fun h => absurd h.2 (by decide)) (fun h => h.elim (fun h => absurd h.1 (by decide)) (fun h => h.elim (fun h => absurd h.2 (by decide)) (fun h => h.elim (fun h => absurd h.2 (by decide)) (fun h => absurd h.2 (by decide)))))))
    have t492 := (g482 1 18).resolve_left (fun h => h.elim (fun h => absurd h.2 (by decide)) (fun h => h.elim (fun h => absurd h.2 (by decide)) (fun h => h.elim (fun h => absurd h.2 (by decide)) (fun h => h.elim (fun h => absurd h.2 (by decide)) (fun h => h.elim (fun h => absurd h.2 (by decide)) (fun h => absurd h.2 (by decide)))))))
    have t493 := (g482 39 8).resolve_left (fun h => h.elim (fun h => absurd h.2 (by decide)) (fun h => h.elim (fun h => absurd h.2 (by decide)) (fun h => h.elim (fun h => absurd h.2 (by decide)) (fun h => h.elim (fun h => absurd h.2 (by decide)) (fun h => h.elim (fun h => absurd h.2 (by decide)) (fun h => absurd h.1 (by decide)))))))
    have t494 := (g482 39 2).resolve_left (fun h => h.elim (fun h => absurd h.2 (by decide)) (fun h => h.elim (fun h => absurd h.2 (by decide)) (fun h => h.elim (fun h => absurd h.2 (by decide)) (fun h => h.elim (fun h => absurd h.2 (by decide)) (fun h => h.elim (fun h => absurd h.2 (by decide)) (fun h => absurd h.2 (by decide)))))))
    have f495 := (show 0 ≤ I483 23 5 ∧ I483 23 5 ≤ 1000 from gc_in hI483 R_23 rfl rfl)
    have f496 := (show 0 ≤ I483 23 6 ∧ I483 23 6 ≤ 1001 from gc_in hI483 R_23 rfl rfl)
    have f497 := (show 0 ≤ I483 23 7 ∧ I483 23 7 ≤ 125 from gc_in hI483 R_23 rfl rfl)
    have t498 := gc_TK_mo KTK_I483
    refine gv_callV hD rfl (As := [.inl 123]) (st := []) rfl B_39 S_39 rfl (gc_lV6 hws rfl) (Nat.le_of_ble_eq_true rfl) (gz_Ev_mono (d := 3) (by decide) E482) ?_
    show gv_X _ _ (61, [(0, .inr (.inr (some 39))), (1, .inr (.inl v1_17))], [.inl z482], sh, gc_h sh I483 J484 A)
    refine gv_if_ne (t := 66) hD rfl rfl ⟨by omega, by omega⟩ (fun c499 => ?_) (fun c499 => ?_)
    · show gv_X _ _ (66, [(0, .inr (.inr (some 39))), (1, .inr (.inl v1_17))], [], sh, gc_h sh I483 J484 A)
      obtain ⟨u500, A500⟩ := gs_or1 q482.2.2.2.2.2 (by omega)
      have t501 := gc_AT_l A500
      refine gv_run 6 true hD (pc' := 74) (lv' := [(5, .inl 0), (4, .inl 1), (3, .inl 0), (0, .inr (.inr (some 39))), (1, .inr (.inl v1_17))]) (st' := []) (h' := gc_h sh I483 J484 A) (C := ((((((True ∧ True) ∧ True) ∧ True) ∧ True) ∧ True) ∧ True)) rfl ⟨⟨⟨⟨⟨⟨trivial, trivial⟩, trivial⟩, trivial⟩, trivial⟩, trivial⟩, trivial⟩ ?_
      refine gv_pick [3, 4, 2, 1, 0] rfl ?_
      exact L74 _ I483 J484 0 1 0 (gs_need β η 123 p_17) (Nat.lt_succ_self _) hI483 FI483 FJ484 KLT_I483 KTK_I483 (by omega) A500 e2_17 (by obtain ⟨V, h1, h2⟩ := id e3_17; exact ⟨V, h1.trans (by unfold gs_pt2; rw [if_neg (by omega), if_neg (by decide)]; (try rfl)), Or.inl ⟨rfl, gs_CL_fr h2 ((g482 39 8).resolve_left (by omega)) (fun j => ((g482 40 j).resolve_left (by omega)))⟩⟩) ⟨((((g482 (t + 11) 1).resolve_left (by omega)).trans (e4_17.1))), (fun k => (((k482 (t + 12) k).resolve_left (by omega)).trans (e4_17.2.1 k))), (fun k => (((g482 (t + 13) k).resolve_left (by omega)).trans (e4_17.2.2.1 k))), (fun k => (((g482 (t + 14) k).resolve_left (by omega)).trans (e4_17.2.2.2.1 k))), ((((g482 39 5).resolve_left (by omega)).trans (e4_17.2.2.2.2)))⟩
    · show gv_X _ _ (64, [(0, .inr (.inr (some 39))), (1, .inr (.inl v1_17))], [], sh, gc_h sh I483 J484 A)
      obtain ⟨u502, u502_⟩ := gs_or0 q482.2.2.2.2.2 (by omega)
      refine gv_run 1 true hD (pc' := 65) (lv' := [(0, .inr (.inr (some 39))), (1, .inr (.inl v1_17))]) (st' := [.inl 0]) (h' := gc_h sh I483 J484 A) (C := (True ∧ True)) rfl ⟨trivial, trivial⟩ ?_
      exact gv_zret hD rfl (by omega) ⟨I483, J484, rfl, hI483, FI483, FJ484, KLT_I483, KTK_I483, ⟨_, rfl, by omega, by omega, by omega, by omega, by omega, (Or.inr ⟨by omega, by obtain ⟨V, h1, h2⟩ := id e3_17; have h8 : gs_ptw β η Ir Jr p9 = (gs_need β η 123 p_17, []) := h1.trans (by unfold gs_pt2; rw [if_pos (by omega)]); rw [gs_pat_x h8 (by omega)]; exact ⟨by omega, by omega, (((g482 (t + 11) 1).resolve_left (by omega)).trans (e4_17.1)), fun j => ⟨(((k482 (t + 12) j).resolve_left (by omega)).trans (e4_17.2.1 j)), (((g482 (t + 13) j).resolve_left (by omega)).trans (e4_17.2.2.1 j)), (((g482 (t + 14) j).resolve_left (by omega)).trans (e4_17.2.2.2.1 j))⟩⟩⟩)⟩⟩
  refine gv_run 2 true hD (pc' := 2) (lv' := [(0, .inr (.inr (some 39)))]) (st' := [.inr (.inr (some 39)), .inr (.inr (some 39))]) (h' := gc_h sh I J A) (C := ((True ∧ True) ∧ True)) rfl ⟨⟨trivial, trivial⟩, trivial⟩ ?_
  refine gv_get hD rfl rfl S_39 ⟨by decide, B_39⟩ (gc_h5 (t := t) S_39 rfl (by omega)) ?_
  show gv_X _ _ (5, [(0, .inr (.inr (some 39)))], [.inr (.inr (some t)), .inr (.inr (some 39))], sh, gc_h sh I J A)
  refine gv_get hD rfl rfl S_t ⟨by decide, B_t⟩ (gc_hA S_t rfl A_t_8) ?_
  show gv_X _ _ (8, [(0, .inr (.inr (some 39)))], [.inr (.inr (some (t + 11))), .inr (.inr (some 39))], sh, gc_h sh I J A)
  obtain ⟨r503, h503, E503, P503⟩ := d_X6_needNew_p (ws0 := ws0) (tb := tb) hws htb sh ro I J A hI  24 8 β η p9 (t + 11) hb h_t_11   x1 (by omega) 
  obtain ⟨I504, J505, rfl, hI504, g503, k503, ⟨z503, rfl, q503⟩⟩ := P503
  have FI504 := gc_frc (W := fun q j => (q = 39 ∧ j = 3) ∨ (q = 39 ∧ j = 4) ∨ (q = 23 ∧ j = 5) ∨ (q = 23 ∧ j = 6) ∨ (q = 23 ∧ j = 7) ∨ (q = 23 ∧ j = 8) ∨ (q = 1 ∧ j = 17) ∨ (q = 1 ∧ j = 18) ∨ q = 20 ∨ (q = 39 ∧ j = 6) ∨ (q = 39 ∧ j = 8) ∨ q = 40 ∨ (q = 41 ∧ j = 0) ∨ (q = 41 ∧ j = 1) ∨ (q = 41 ∧ j = 2) ∨ q = (t + 13) ∨ q = (t + 14) ∨ (q = (t + 11) ∧ j = 1)) (V := fun q j => (q = 39 ∧ j = 3) ∨ (q = 39 ∧ j = 4)) FI (fun q j h => (h.elim (fun h => (Or.inl h)) (fun h => (Or.inr (Or.inl h))))) g503
  have t506 := (g503 23 1).resolve_left (fun h => h.elim (fun h => absurd h.2 (by decide)) (fun h => absurd h.2 (by decide)))
  have t507 := (g503 23 5).resolve_left (fun h => h.elim (fun h => absurd h.2 (by decide)) (fun h => absurd h.2 (by decide)))
  have t508 := (g503 23 6).resolve_left (fun h => h.elim (fun h => absurd h.2 (by decide)) (fun h => absurd h.2 (by decide)))
  have t509 := (g503 23 7).resolve_left (fun h => h.elim (fun h => absurd h.2 (by decide)) (fun h => absurd h.2 (by decide)))
  have t510 := (g503 1 17).resolve_left (fun h => h.elim (fun h => absurd h.2 (by decide)) (fun h => absurd h.2 (by decide)))
  have t511 := (g503 (t + 11) 1).resolve_left (fun h => h.elim (fun h => absurd h.2 (by decide)) (fun h => absurd h.2 (by decide)))
  have t512 := (g503 41 0).resolve_left (fun h => h.elim (fun h => absurd h.2 (by decide)) (fun h => absurd h.2 (by decide)))
  have t513 := (g503 41 1).resolve_left (fun h => h.elim (fun h => absurd h.2 (by decide)) (fun h => absurd h.2 (by decide)))
  have t514 := (g503 41 2).resolve_left (fun h => h.elim (fun h => absurd h.2 (by decide)) (fun h => absurd h.2 (by decide)))
  have t515 := (g503 39 5).resolve_left (fun h => h.elim (fun h => absurd h.2 (by decide)) (fun h => absurd h.2 (by decide)))
  have t516 := (g503 1 18).resolve_left (fun h => h.elim (fun h => absurd h.2 (by decide)) (fun h => absurd h.2 (by decide)))
  have t517 := (g503 39 8).resolve_left (fun h => h.elim (fun h => absurd h.2 (by decide)) (fun h => absurd h.2 (by decide)))
  have t518 := (g503 39 2).resolve_left (fun h => h.elim (fun h => absurd h.2 (by decide)) (fun h => absurd h.2 (by decide)))
  obtain rfl : J = J505 := funext fun q => funext fun j => ((k503 q j).resolve_left id).symm
  have KLT_I504 := gc_LT_fr KLT_I ((g503 23 5).resolve_left (fun h => h.elim (fun h => absurd h.2 (by decide)) (fun h => absurd h.2 (by decide)))) ((g503 23 6).resolve_left (fun h => h.elim (fun h => absurd h.2 (by decide)) (fun h => absurd h.2 (by decide)))) ((g503 23 7).resolve_left (fun h => h.elim (fun h => absurd h.2 (by decide)) (fun h => absurd h.2 (by decide)))) (fun k => (g503 24 k).resolve_left (fun h => h.elim (fun h => absurd h.1 (by decide)) (fun h => absurd h.1 (by decide))))
  have KTK_I504 := gc_TK_fr KTK_I ((g503 23 1).resolve_left (fun h => h.elim (fun h => absurd h.2 (by decide)) (fun h => absurd h.2 (by decide)))) ((g503 23 5).resolve_left (fun h => h.elim (fun h => absurd h.2 (by decide)) (fun h => absurd h.2 (by decide)))) ((g503 23 6).resolve_left (fun h => h.elim (fun h => absurd h.2 (by decide)) (fun h => absurd h.2 (by decide)))) ((g503 23 7).resolve_left (fun h => h.elim (fun h => absurd h.2 (by decide)) (fun h => absurd h.2 (by decide))))
  have A519 := gc_AT_I x1 ((g503 23 1).resolve_left (fun h => h.elim (fun h => absurd h.2 (by decide)) (fun h => absurd h.2 (by decide)))) ((g503 23 5).resolve_left (fun h => h.elim (fun h => absurd h.2 (by decide)) (fun h => absurd h.2 (by decide)))) ((g503 23 6).resolve_left (fun h => h.elim (fun h => absurd h.2 (by decide)) (fun h => absurd h.2 (by decide)))) ((g503 23 7).resolve_left (fun h => h.elim (fun h => absurd h.2 (by decide)) (fun h => absurd h.2 (by decide)))) ((g503 23 8).resolve_left (fun h => h.elim (fun h => absurd h.2 (by decide)) (fun h => absurd h.2 (by decide)))) (fun k => (g503 24 k).resolve_left (fun h => h.elim (fun h => absurd h.1 (by decide)) (fun h => absurd h.1 (by decide))))
  have t520 := gc_AT_l A519
  refine gv_callV hD rfl (As := [.inr (.inr (some (t + 11)))]) (st := []) rfl B_39 S_39 rfl (gc_lV6 hws rfl) (Nat.le_of_ble_eq_true rfl) (gz_Ev_mono (d := 3) (by decide) E503) ?_
  show gv_X _ _ (11, [(0, .inr (.inr (some 39)))], [.inl z503], sh, gc_h sh I504 J A)
  refine gv_if_ne (t := 16) hD rfl rfl ⟨by omega, by omega⟩ (fun c521 => ?_) (fun c521 => ?_)
  · show gv_X _ _ (16, [(0, .inr (.inr (some 39)))], [], sh, gc_h sh I504 J A)
    have u522 := gs_or1 q503.2.2.2 (by omega)
    have L503 : gs_T β η p9 = 1 → gc_fd (J ((t + 11) + 1)) (gs_M β η p9) (Int.toNat (I (t + 11) 1)) = gs_lt Jr 23 (24 * Ir 0 6) (Ir 17 (Int.toNat (Ir 0 6))) (gs_rn β η p9) := (fun h => by exact gs_NA_lt x5 x4 h)
    have t523 := L503 (by omega)
    have tM := gc_AT_m A519 (by omega)
    refine gv_run 1 true hD (pc' := 17) (lv' := [(0, .inr (.inr (some 39)))]) (st' := [.inr (.inr (some 39))]) (h' := gc_h sh I504 J A) (C := (True ∧ True)) rfl ⟨trivial, trivial⟩ ?_
    refine gv_get hD rfl rfl S_39 ⟨by decide, B_39⟩ (gc_hA S_39 rfl A_39_1) ?_
    show gv_X _ _ (20, [(0, .inr (.inr (some 39)))], [.inr (.inr (some 23))], sh, gc_h sh I504 J A)
    refine gv_get hD rfl rfl S_23 ⟨by decide, B_23⟩ (gc_hJ S_23 rfl) ?_
    show gv_X _ _ (23, [(0, .inr (.inr (some 39)))], [.inr (.inl (J 23 9))], sh, gc_h sh I504 J A)
    refine gv_run 2 true hD (pc' := 25) (lv' := [(1, .inr (.inl (J 23 9))), (0, .inr (.inr (some 39)))]) (st' := [.inr (.inr (some 39))]) (h' := gc_h sh I504 J A) (C := ((True ∧ True) ∧ True)) rfl ⟨⟨trivial, trivial⟩, trivial⟩ ?_
    refine gv_get hD rfl rfl S_39 ⟨by decide, B_39⟩ (gc_hA S_39 rfl A_39_1) ?_
    show gv_X _ _ (28, [(1, .inr (.inl (J 23 9))), (0, .inr (.inr (some 39)))], [.inr (.inr (some 23))], sh, gc_h sh I504 J A)
    have t525 := gc_TK_nx KTK_I504 (by omega)
    have t526 := gc_TK_st KTK_I504 (by omega)
    obtain ⟨r524, h524, E524, P524⟩ := d_X9_advance_p (ws0 := ws0) (tb := tb) hws htb sh ro I504 J A hI504 23 β η  (gc_b23 hb)    (by omega) A519.1.1 A519.1.2 
    obtain ⟨I527, J528, rfl, hI527, g524, k524, ⟨rfl, V524_0, V524_1, V524_2, V524_3, V524_4, q524⟩⟩ := P524
    have FI527 := gc_frc (W := fun q j => (q = 39 ∧ j = 3) ∨ (q = 39 ∧ j = 4) ∨ (q = 23 ∧ j = 5) ∨ (q = 23 ∧ j = 6) ∨ (q = 23 ∧ j = 7) ∨ (q = 23 ∧ j = 8) ∨ (q = 1 ∧ j = 17) ∨ (q = 1 ∧ j = 18) ∨ q = 20 ∨ (q = 39 ∧ j = 6) ∨ (q = 39 ∧ j = 8) ∨ q = 40 ∨ (q = 41 ∧ j = 0) ∨ (q = 41 ∧ j = 1) ∨ (q = 41 ∧ j = 2) ∨ q = (t + 13) ∨ q = (t + 14) ∨ (q = (t + 11) ∧ j = 1)) (V := fun q j => (q = 23 ∧ j = 5) ∨ (q = 23 ∧ j = 6) ∨ (q = 23 ∧ j = 7) ∨ (q = 23 ∧ j = 8)) FI504 (fun q j h => (h.elim (fun h => (Or.inr (Or.inr (Or.inl h)))) (fun h => (h.elim (fun h => (Or.inr (Or.inr (Or.inr (Or.inl h))))) (fun h => (h.elim (fun h => (Or.inr (Or.inr (Or.inr (Or.inr (Or.inl h)))))) (fun h => (Or.inr (Or.inr (Or.inr (Or.inr (Or.inr (Or.inl h))))))))))))) g524
    have FJ528 := gc_frc (W := fun q j => (q = 23 ∧ j = 9) ∨ q = (t + 12)) (V := fun q j => (q = 23 ∧ j = 9)) FJ (fun q j h => (Or.inl h)) k524
    have t529 := (g524 23 1).resolve_left (fun h => h.elim (fun h => absurd h.2 (by decide)) (fun h => h.elim (fun h => absurd h.2 (by decide)) (fun h => h.elim (fun h => absurd h.2 (by decide)) (fun h => absurd h.2 (by decide)))))
    have t530 := (g524 1 17).resolve_left (fun h => h.elim (fun h => absurd h.2 (by decide)) (fun h => h.elim (fun h => absurd h.2 (by decide)) (fun h => h.elim (fun h => absurd h.2 (by decide)) (fun h => absurd h.2 (by decide)))))
    have t531 := (g524 (t + 11) 1).resolve_left (fun h => h.elim (fun h => absurd h.2 (by decide)) (fun h => h.elim (fun h => absurd h.2 (by decide)) (fun h => h.elim (fun h => absurd h.2 (by decide)) (fun h => absurd h.2 (by decide)))))
    have t532 := (g524 41 0).resolve_left (fun h => h.elim (fun h => absurd h.2 (by decide)) (fun h => h.elim (fun h => absurd h.2 (by decide)) (fun h => h.elim (fun h => absurd h.2 (by decide)) (fun h => absurd h.2 (by decide)))))
    have t533 := (g524 41 1).resolve_left (fun h => h.elim (fun h => absurd h.2 (by decide)) (fun h => h.elim (fun h => absurd h.2 (by decide)) (fun h => h.elim (fun h => absurd h.2 (by decide)) (fun h => absurd h.2 (by decide)))))
    have t534 := (g524 41 2).resolve_left (fun h => h.elim (fun h => absurd h.2 (by decide)) (fun h => h.elim (fun h => absurd h.2 (by decide)) (fun h => h.elim (fun h => absurd h.2 (by decide)) (fun h => absurd h.2 (by decide)))))
    have t535 := (g524 39 5).resolve_left (fun h => h.elim (fun h => absurd h.1 (by decide)) (fun h => h.elim (fun h => absurd h.2 (by decide)) (fun h => h.elim (fun h => absurd h.2 (by decide)) (fun h => absurd h.2 (by decide)))))
    have t536 := (g524 1 18).resolve_left (fun h => h.elim (fun h => absurd h.2 (by decide)) (fun h => h.elim (fun h => absurd h.2 (by decide)) (fun h => h.elim (fun h => absurd h.2 (by decide)) (fun h => absurd h.2 (by decide)))))
    have t537 := (g524 39 8).resolve_left (fun h => h.elim (fun h => absurd h.2 (by decide)) (fun h => h.elim (fun h => absurd h.2 (by decide)) (fun h => h.elim (fun h => absurd h.2 (by decide)) (fun h => absurd h.1 (by decide)))))
    have t538 := (g524 39 2).resolve_left (fun h => h.elim (fun h => absurd h.2 (by decide)) (fun h => h.elim (fun h => absurd h.2 (by decide)) (fun h => h.elim (fun h => absurd h.2 (by decide)) (fun h => absurd h.2 (by decide)))))
    have f539 := (show 0 ≤ I527 23 5 ∧ I527 23 5 ≤ 1000 from gc_in hI527 R_23 rfl rfl)
    have f540 := (show 0 ≤ I527 23 6 ∧ I527 23 6 ≤ 1001 from gc_in hI527 R_23 rfl rfl)
    have f541 := (show 0 ≤ I527 23 7 ∧ I527 23 7 ≤ 125 from gc_in hI527 R_23 rfl rfl)
    have KLT_I527 : gc_LT I527 := q524.2.2.1
    have KTK_I527 : gc_TK I527 := And.intro V524_0 (And.intro V524_1 (And.intro V524_2 (And.intro V524_3 V524_4)))
    have t542 := gc_TK_mo KTK_I527
    clear V524_0 V524_1 V524_2 V524_3 V524_4
    have A543 := gc_AT_nx A519 q524.2.2.2
    have t544 := gc_AT_l A543
    refine gv_callV hD rfl (As := []) (st := []) rfl B_23 S_23 rfl (gc_lV6 hws rfl) (Nat.le_of_ble_eq_true rfl) (gz_Ev_mono (d := 2) (by decide) E524) ?_
    show gv_X _ _ (31, [(1, .inr (.inl (J 23 9))), (0, .inr (.inr (some 39)))], [], sh, gc_h sh I527 J528 A)
    refine gv_run 2 true hD (pc' := 33) (lv' := [(1, .inr (.inl (J 23 9))), (0, .inr (.inr (some 39)))]) (st' := [.inl 0, .inr (.inr (some 39))]) (h' := gc_h sh I527 J528 A) (C := ((True ∧ True) ∧ True)) rfl ⟨⟨trivial, trivial⟩, trivial⟩ ?_
    refine gv_put hD rfl rfl S_39 ⟨by decide, B_39⟩ rfl trivial ?_
    refine gc_st (k := 8) hI527 S_39 rfl R_39 (lo := 0) (hi := 24) rfl rfl (by omega) (by omega) (fun I545 hI545 q546 p546 => ?_)
    have FI545 := gc_frs (W := fun q j => (q = 39 ∧ j = 3) ∨ (q = 39 ∧ j = 4) ∨ (q = 23 ∧ j = 5) ∨ (q = 23 ∧ j = 6) ∨ (q = 23 ∧ j = 7) ∨ (q = 23 ∧ j = 8) ∨ (q = 1 ∧ j = 17) ∨ (q = 1 ∧ j = 18) ∨ q = 20 ∨ (q = 39 ∧ j = 6) ∨ (q = 39 ∧ j = 8) ∨ q = 40 ∨ (q = 41 ∧ j = 0) ∨ (q = 41 ∧ j = 1) ∨ (q = 41 ∧ j = 2) ∨ q = (t + 13) ∨ q = (t + 14) ∨ (q = (t + 11) ∧ j = 1)) FI527 (Or.inr (Or.inr (Or.inr (Or.inr (Or.inr (Or.inr (Or.inr (Or.inr (Or.inr (Or.inr (Or.inl ⟨rfl, rfl⟩))))))))))) p546
    have t547 := p546 23 1 (fun h => absurd h.2 (by decide))
    have t548 := p546 23 5 (fun h => absurd h.2 (by decide))
    have t549 := p546 23 6 (fun h => absurd h.2 (by decide))
    have t550 := p546 23 7 (fun h => absurd h.2 (by decide))
    have t551 := p546 1 17 (fun h => absurd h.2 (by decide))
    have t552 := p546 (t + 11) 1 (fun h => absurd h.2 (by decide))
    have t553 := p546 41 0 (fun h => absurd h.2 (by decide))
    have t554 := p546 41 1 (fun h => absurd h.2 (by decide))
    have t555 := p546 41 2 (fun h => absurd h.2 (by decide))
    have t556 := p546 39 5 (fun h => absurd h.2 (by decide))
    have t557 := p546 1 18 (fun h => absurd h.2 (by decide))
    have t558 := p546 39 2 (fun h => absurd h.2 (by decide))
    have f559 := (show 0 ≤ I545 39 8 ∧ I545 39 8 ≤ 24 from gc_in hI545 R_39 rfl rfl)
    have KLT_I545 := gc_LT_fr KLT_I527 (p546 23 5 (fun h => absurd h.2 (by decide))) (p546 23 6 (fun h => absurd h.2 (by decide))) (p546 23 7 (fun h => absurd h.2 (by decide))) (fun k => p546 24 k (fun h => absurd h.1 (by decide)))
    have KTK_I545 := gc_TK_fr KTK_I527 (p546 23 1 (fun h => absurd h.2 (by decide))) (p546 23 5 (fun h => absurd h.2 (by decide))) (p546 23 6 (fun h => absurd h.2 (by decide))) (p546 23 7 (fun h => absurd h.2 (by decide)))
    have A560 := gc_AT_I A543 (p546 23 1 (fun h => absurd h.2 (by decide))) (p546 23 5 (fun h => absurd h.2 (by decide))) (p546 23 6 (fun h => absurd h.2 (by decide))) (p546 23 7 (fun h => absurd h.2 (by decide))) (p546 23 8 (fun h => absurd h.1 (by decide))) (fun k => p546 24 k (fun h => absurd h.1 (by decide)))
    show gv_X _ _ (36, [(1, .inr (.inl (J 23 9))), (0, .inr (.inr (some 39)))], [], sh, gc_h sh I545 J528 A)
    refine gv_run 2 true hD (pc' := 40) (lv' := [(1, .inr (.inl (J 23 9))), (0, .inr (.inr (some 39)))]) (st' := [.inr (.inl (28518)), .inr (.inr (some 39))]) (h' := gc_h sh I545 J528 A) (C := ((True ∧ True) ∧ True)) rfl ⟨⟨trivial, trivial⟩, trivial⟩ ?_
    obtain ⟨r561, h561, E561, P561⟩ := d_X6_isWord_p (ws0 := ws0) (tb := tb) hws htb sh ro I545 J528 A hI545  β η (gs_X β η p9) (28518) hb    A560 (by omega) 
    obtain ⟨rfl, ⟨z561, rfl, q561⟩⟩ := P561
    have t562 : z561 = gs_kw β η (gs_X β η p9) (gs_W 94) := q561.2.2.2.trans (gs_kwc_kw (gs_W_al 94 (by decide) (by decide)))
    refine gv_callV hD rfl (As := [.inr (.inl (28518))]) (st := []) rfl B_39 S_39 rfl (gc_lV6 hws rfl) (Nat.le_of_ble_eq_true rfl) (gz_Ev_mono (d := 1) (by decide) E561) ?_
    show gv_X _ _ (43, [(1, .inr (.inl (J 23 9))), (0, .inr (.inr (some 39)))], [.inl z561], sh, gc_h sh I545 J528 A)
    refine gv_if_eq (t := 55) hD rfl rfl ⟨by omega, by omega⟩ (fun c563 => ?_) (fun c563 => ?_)
    · show gv_X _ _ (55, [(1, .inr (.inl (J 23 9))), (0, .inr (.inr (some 39)))], [], sh, gc_h sh I545 J528 A)
      refine gv_pick [1, 0] rfl ?_
      exact L55 I545 J528 (J 23 9) (gs_X β η p9) hI545 FI545 FJ528 KLT_I545 KTK_I545 (by omega) A560 tM ⟨[], (by unfold gs_ptw gs_pt1; (repeat first | rw [if_pos (by omega)] | rw [if_neg (by omega)])), gs_CL_0 (by omega)⟩ ⟨((((p546 (t + 11) 1 (by omega)).trans ((g524 (t + 11) 1).resolve_left (by omega))).trans ((g503 (t + 11) 1).resolve_left (by omega)))), (fun k => ((k524 (t + 12) k).resolve_left (by omega))), (fun k => (((p546 (t + 13) k (by omega)).trans ((g524 (t + 13) k).resolve_left (by omega))).trans ((g503 (t + 13) k).resolve_left (by omega)))), (fun k => (((p546 (t + 14) k (by omega)).trans ((g524 (t + 14) k).resolve_left (by omega))).trans ((g503 (t + 14) k).resolve_left (by omega)))), ((((p546 39 5 (by omega)).trans ((g524 39 5).resolve_left (by omega))).trans ((g503 39 5).resolve_left (by omega))))⟩
    · show gv_X _ _ (46, [(1, .inr (.inl (J 23 9))), (0, .inr (.inr (some 39)))], [], sh, gc_h sh I545 J528 A)
      refine gv_run 1 true hD (pc' := 47) (lv' := [(1, .inr (.inl (J 23 9))), (0, .inr (.inr (some 39)))]) (st' := [.inr (.inr (some 39))]) (h' := gc_h sh I545 J528 A) (C := (True ∧ True)) rfl ⟨trivial, trivial⟩ ?_
      obtain ⟨r564, h564, E564, P564⟩ := d_X6_readParent_p (ws0 := ws0) (tb := tb) hws htb sh ro I545 J528 A hI545  t β η (gs_X β η p9) Ir Jr  hb  h_t G_t   (by omega) A560 (by omega) (by have h9 := x4; have h8 := (show I545 (t + 11) 1 = I (t + 11) 1 from (((p546 (t + 11) 1 (by omega)).trans ((g524 (t + 11) 1).resolve_left (by omega))).trans ((g503 (t + 11) 1).resolve_left (by omega)))); omega) (by rw [show I545 (t + 11) 1 = I (t + 11) 1 from (((p546 (t + 11) 1 (by omega)).trans ((g524 (t + 11) 1).resolve_left (by omega))).trans ((g503 (t + 11) 1).resolve_left (by omega))), show J528 (t + 12) = J (t + 12) from funext fun j => ((k524 (t + 12) j).resolve_left (by omega))]; exact x5) (gs_PT_fr x9 (((p546 (t + 11) 1 (by omega)).trans ((g524 (t + 11) 1).resolve_left (by omega))).trans ((g503 (t + 11) 1).resolve_left (by omega))) (fun k => (((p546 (t + 13) k (by omega)).trans ((g524 (t + 13) k).resolve_left (by omega))).trans ((g503 (t + 13) k).resolve_left (by omega)))) (fun k => (((p546 (t + 14) k (by omega)).trans ((g524 (t + 14) k).resolve_left (by omega))).trans ((g503 (t + 14) k).resolve_left (by omega))))) (by omega) KLT_I545 KTK_I545
      obtain ⟨I565, J566, rfl, hI565, g564, k564, KLT_I565, KTK_I565, ⟨z564, rfl, q564⟩⟩ := P564
      have FI565 := gc_frc (W := fun q j => (q = 39 ∧ j = 3) ∨ (q = 39 ∧ j = 4) ∨ (q = 23 ∧ j = 5) ∨ (q = 23 ∧ j = 6) ∨ (q = 23 ∧ j = 7) ∨ (q = 23 ∧ j = 8) ∨ (q = 1 ∧ j = 17) ∨ (q = 1 ∧ j = 18) ∨ q = 20 ∨ (q = 39 ∧ j = 6) ∨ (q = 39 ∧ j = 8) ∨ q = 40 ∨ (q = 41 ∧ j = 0) ∨ (q = 41 ∧ j = 1) ∨ (q = 41 ∧ j = 2) ∨ q = (t + 13) ∨ q = (t + 14) ∨ (q = (t + 11) ∧ j = 1)) (V := fun q j => (q = 39 ∧ j = 3) ∨ (q = 39 ∧ j = 4) ∨ (q = 23 ∧ j = 5) ∨ (q = 23 ∧ j = 6) ∨ (q = 23 ∧ j = 7) ∨ (q = 23 ∧ j = 8) ∨ (q = 39 ∧ j = 8) ∨ q = 40) FI545 (fun q j h => (h.elim (fun h => (Or.inl h)) (fun h => (h.elim (fun h => (Or.inr (Or.inl h))) (fun h => (h.elim (fun h => (Or.inr (Or.inr (Or.inl h)))) (fun h => (h.elim (fun h => (Or.inr (Or.inr (Or.inr (Or.inl h))))) (fun h => (h.elim (fun h => (Or.inr (Or.inr (Or.inr (Or.inr (Or.inl h)))))) (fun h => (h.elim (fun h => (Or.inr (Or.inr (Or.inr (Or.inr (Or.inr (Or.inl h))))))) (fun h => (h.elim (fun h => (Or.inr (Or.inr (Or.inr (Or.inr (Or.inr (Or.inr (Or.inr (Or.inr (Or.inr (Or.inr (Or.inl h)))))))))))) (fun h => (Or.inr (Or.inr (Or.inr (Or.inr (Or.inr (Or.inr (Or.inr (Or.inr (Or.inr (Or.inr (Or.inr (Or.inl h))))))))))))))))))))))))))) g564
      have FJ566 := gc_frc (W := fun q j => (q = 23 ∧ j = 9) ∨ q = (t + 12)) (V := fun q j => (q = 23 ∧ j = 9)) FJ528 (fun q j h => (Or.inl h)) k564
      have t567 := (g564 23 1).resolve_left (fun h => h.elim (fun h => absurd h.2 (by decide)) (fun h => h.elim (fun h => absurd h.2 (by decide)) (fun h => h.elim (fun h => absurd h.2 (by decide)) (fun h => h.elim (fun h => absurd h.2 (by decide)) (fun h => h.elim (fun h => absurd h.2 (by decide)) (fun h => h.elim (fun h => absurd h.2 (by decide)) (fun h => h.elim (fun h => absurd h.2 (by decide)) (fun h => absurd h (by decide)))))))))
      have t568 := (g564 1 17).resolve_left (fun h => h.elim (fun h => absurd h.2 (by decide)) (fun h => h.elim (fun h => absurd h.2 (by decide)) (fun h => h.elim (fun h => absurd h.2 (by decide)) (fun h => h.elim (fun h => absurd h.2 (by decide)) (fun h => h.elim (fun h => absurd h.2 (by decide)) (fun h => h.elim (fun h => absurd h.2 (by decide)) (fun h => h.elim (fun h => absurd h.2 (by decide)) (fun h => absurd h (by decide)))))))))
      have t569 := (g564 (t + 11) 1).resolve_left (fun h => h.elim (fun h => absurd h.2 (by decide)) (fun h => h.elim (fun h => absurd h.2 (by decide)) (fun h => h.elim (fun h => absurd h.2 (by decide)) (fun h => h.elim (fun h => absurd h.2 (by decide)) (fun h => h.elim (fun h => absurd h.2 (by decide)) (fun h => h.elim (fun h => absurd h.2 (by decide)) (fun h => h.elim (fun h => absurd h.2 (by decide)) (fun h => absurd h N_t_11__40))))))))
      have t570 := (g564 41 0).resolve_left (fun h => h.elim (fun h => absurd h.2 (by decide)) (fun h => h.elim (fun h => absurd h.2 (by decide)) (fun h => h.elim (fun h => absurd h.2 (by decide)) (fun h => h.elim (fun h => absurd h.2 (by decide)) (fun h => h.elim (fun h => absurd h.2 (by decide)) (fun h => h.elim (fun h => absurd h.2 (by decide)) (fun h => h.elim (fun h => absurd h.2 (by decide)) (fun h => absurd h (by decide)))))))))
      have t571 := (g564 41 1).resolve_left (fun h => h.elim (fun h => absurd h.2 (by decide)) (fun h => h.elim (fun h => absurd h.2 (by decide)) (fun h => h.elim (fun h => absurd h.2 (by decide)) (fun h => h.elim (fun h => absurd h.2 (by decide)) (fun h => h.elim (fun h => absurd h.2 (by decide)) (fun h => h.elim (fun h => absurd h.2 (by decide)) (fun h => h.elim (fun h => absurd h.2 (by decide)) (fun h => absurd h (by decide)))))))))
      have t572 := (g564 41 2).resolve_left (fun h => h.elim (fun h => absurd h.2 (by decide)) (fun h => h.elim (fun h => absurd h.2 (by decide)) (fun h => h.elim (fun h => absurd h.2 (by decide)) (fun h => h.elim (fun h => absurd h.2 (by decide)) (fun h => h.elim (fun h => absurd h.2 (by decide)) (fun h => h.elim (fun h => absurd h.2 (by decide)) (fun h => h.elim (fun h => absurd h.2 (by decide)) (fun h => absurd h (by decide)))))))))
      have t573 := (g564 39 5).resolve_left (fun h => h.elim (fun h => absurd h.2 (by decide)) (fun h => h.elim (fun h => absurd h.2 (by decide)) (fun h => h.elim (fun h => absurd h.1 (by decide)) (fun h => h.elim (fun h => absurd h.2 (by decide)) (fun h => h.elim (fun h => absurd h.2 (by decide)) (fun h => h.elim (fun h => absurd h.2 (by decide)) (fun h => h.elim (fun h => absurd h.2 (by decide)) (fun h => absurd h (by decide)))))))))
      have t574 := (g564 1 18).resolve_left (fun h => h.elim (fun h => absurd h.2 (by decide)) (fun h => h.elim (fun h => absurd h.2 (by decide)) (fun h => h.elim (fun h => absurd h.2 (by decide)) (fun h => h.elim (fun h => absurd h.2 (by decide)) (fun h => h.elim (fun h => absurd h.2 (by decide)) (fun h => h.elim (fun h => absurd h.2 (by decide)) (fun h => h.elim (fun h => absurd h.2 (by decide)) (fun h => absurd h (by decide)))))))))
      have t575 := (g564 39 2).resolve_left (fun h => h.elim (fun h => absurd h.2 (by decide)) (fun h => h.elim (fun h => absurd h.2 (by decide)) (fun h => h.elim (fun h => absurd h.2 (by decide)) (fun h => h.elim (fun h => absurd h.2 (by decide)) (fun h => h.elim (fun h => absurd h.2 (by decide)) (fun h => h.elim (fun h => absurd h.2 (by decide)) (fun h => h.elim (fun h => absurd h.2 (by decide)) (fun h => absurd h (by decide)))))))))
      have f576 := (show 0 ≤ I565 23 5 ∧ I565 23 5 ≤ 1000 from gc_in hI565 R_23 rfl rfl)
      have f577 := (show 0 ≤ I565 23 6 ∧ I565 23 6 ≤ 1001 from gc_in hI565 R_23 rfl rfl)
      have f578 := (show 0 ≤ I565 23 7 ∧ I565 23 7 ≤ 125 from gc_in hI565 R_23 rfl rfl)
      have f579 := (show 0 ≤ I565 39 8 ∧ I565 39 8 ≤ 24 from gc_in hI565 R_39 rfl rfl)
      have t580 := gc_TK_mo KTK_I565
      refine gv_callV hD rfl (As := []) (st := []) rfl B_39 S_39 rfl (gc_lV6 hws rfl) (Nat.le_of_ble_eq_true rfl) (gz_Ev_mono (d := 4) (by decide) E564) ?_
      show gv_X _ _ (50, [(1, .inr (.inl (J 23 9))), (0, .inr (.inr (some 39)))], [.inl z564], sh, gc_h sh I565 J566 A)
      refine gv_if_ne (t := 55) hD rfl rfl ⟨by omega, by omega⟩ (fun c581 => ?_) (fun c581 => ?_)
      · show gv_X _ _ (55, [(1, .inr (.inl (J 23 9))), (0, .inr (.inr (some 39)))], [], sh, gc_h sh I565 J566 A)
        obtain ⟨u582, A582, U582⟩ := gs_or1 q564.2.2.2.2 (by omega)
        have t583 := gc_AT_l A582
        refine gv_pick [1, 0] rfl ?_
        exact L55 I565 J566 (J 23 9) ((gs_par β η Ir Jr (gs_X β η p9))) hI565 FI565 FJ566 KLT_I565 KTK_I565 (by omega) A582 tM ⟨_, (by unfold gs_ptw gs_pt1; (repeat first | rw [if_pos (by omega)] | rw [if_neg (by omega)]); exact U582.2), U582.1⟩ ⟨((((((g564 (t + 11) 1).resolve_left (by omega)).trans (p546 (t + 11) 1 (by omega))).trans ((g524 (t + 11) 1).resolve_left (by omega))).trans ((g503 (t + 11) 1).resolve_left (by omega)))), (fun k => (((k564 (t + 12) k).resolve_left (by omega)).trans ((k524 (t + 12) k).resolve_left (by omega)))), (fun k => (((((g564 (t + 13) k).resolve_left (by omega)).trans (p546 (t + 13) k (by omega))).trans ((g524 (t + 13) k).resolve_left (by omega))).trans ((g503 (t + 13) k).resolve_left (by omega)))), (fun k => (((((g564 (t + 14) k).resolve_left (by omega)).trans (p546 (t + 14) k (by omega))).trans ((g524 (t + 14) k).resolve_left (by omega))).trans ((g503 (t + 14) k).resolve_left (by omega)))), ((((((g564 39 5).resolve_left (by omega)).trans (p546 39 5 (by omega))).trans ((g524 39 5).resolve_left (by omega))).trans ((g503 39 5).resolve_left (by omega))))⟩
      · show gv_X _ _ (53, [(1, .inr (.inl (J 23 9))), (0, .inr (.inr (some 39)))], [], sh, gc_h sh I565 J566 A)
        obtain ⟨u584, u584_, U584⟩ := gs_or0 q564.2.2.2.2 (by omega)
        refine gv_run 1 true hD (pc' := 54) (lv' := [(1, .inr (.inl (J 23 9))), (0, .inr (.inr (some 39)))]) (st' := [.inl 0]) (h' := gc_h sh I565 J566 A) (C := (True ∧ True)) rfl ⟨trivial, trivial⟩ ?_
        exact gv_zret hD rfl (by omega) ⟨I565, J566, rfl, hI565, FI565, FJ566, KLT_I565, KTK_I565, ⟨_, rfl, by omega, by omega, by omega, by omega, by omega, (Or.inr ⟨by omega, by have h8 : gs_ptw β η Ir Jr p9 = (gs_par β η Ir Jr (gs_X β η p9), []) := (by unfold gs_ptw gs_pt1; (repeat first | rw [if_pos (by omega)] | rw [if_neg (by omega)]); exact U584); rw [gs_pat_x h8 (by omega)]; exact ⟨by omega, by omega, (((((g564 (t + 11) 1).resolve_left (by omega)).trans (p546 (t + 11) 1 (by omega))).trans ((g524 (t + 11) 1).resolve_left (by omega))).trans ((g503 (t + 11) 1).resolve_left (by omega))), fun j => ⟨(((k564 (t + 12) j).resolve_left (by omega)).trans ((k524 (t + 12) j).resolve_left (by omega))), (((((g564 (t + 13) j).resolve_left (by omega)).trans (p546 (t + 13) j (by omega))).trans ((g524 (t + 13) j).resolve_left (by omega))).trans ((g503 (t + 13) j).resolve_left (by omega))), (((((g564 (t + 14) j).resolve_left (by omega)).trans (p546 (t + 14) j (by omega))).trans ((g524 (t + 14) j).resolve_left (by omega))).trans ((g503 (t + 14) j).resolve_left (by omega)))⟩⟩⟩)⟩⟩
  · show gv_X _ _ (14, [(0, .inr (.inr (some 39)))], [], sh, gc_h sh I504 J A)
    have u585 := gs_or0 q503.2.2.2 (by omega)
    have L503 : gs_T β η p9 = 1 → gc_fd (J ((t + 11) + 1)) (gs_M β η p9) (Int.toNat (I (t + 11) 1)) = gs_lt Jr 23 (24 * Ir 0 6) (Ir 17 (Int.toNat (Ir 0 6))) (gs_rn β η p9) := (fun h => by exact gs_NA_lt x5 x4 h)
    refine gv_run 1 true hD (pc' := 15) (lv' := [(0, .inr (.inr (some 39)))]) (st' := [.inl 0]) (h' := gc_h sh I504 J A) (C := (True ∧ True)) rfl ⟨trivial, trivial⟩ ?_
    exact gv_zret hD rfl (by omega) ⟨I504, J, rfl, hI504, FI504, FJ, KLT_I504, KTK_I504, ⟨_, rfl, by omega, by omega, by omega, by omega, by omega, (Or.inr ⟨by omega, by have h8 : gs_ptw β η Ir Jr p9 = (-1 - gs_A β η p9, []) := (by unfold gs_ptw; by_cases c9 : gs_T β η p9 = 1; (have h9 := L503 c9; (repeat first | rw [if_pos (by omega)] | rw [if_neg (by omega)])); (repeat first | rw [if_pos (by omega)] | rw [if_neg (by omega)])); rw [gs_pat_x h8 (by omega)]; exact ⟨by omega, by omega, ((g503 (t + 11) 1).resolve_left (by omega)), fun j => ⟨rfl, ((g503 (t + 13) j).resolve_left (by omega)), ((g503 (t + 14) j).resolve_left (by omega))⟩⟩⟩)⟩⟩
