/-! PARITY, the class's side: FUN -/
/-- what a good FUN does to the class's tables -/
def gs_Cfun (w : Int64) (n : Int) (ks : Nat → Int) (k : Int) (I : gr_I) (J : gr_J) (I' : gr_I) (J' : gr_J) : Prop := (I' 4 1 = I 4 1 + 1 ∧ J' 5 (Int.toNat (I 4 1)) = w ∧ I' 12 (Int.toNat (I 4 1)) = n ∧ I' 11 (Int.toNat (I 4 1)) = k) ∧ (∀ i : Nat, i < Int.toNat n → I' 13 (4 * Int.toNat (I 4 1) + i) = ks i) ∧ (∀ j, ¬ j = Int.toNat (I 4 1) → J' 5 j = J 5 j ∧ I' 11 j = I 11 j ∧ I' 12 j = I 12 j) ∧ ∀ j, j < 4 * Int.toNat (I 4 1) → I' 13 j = I 13 j
theorem gs_Cfun_mk {w : Int64} {n k : Int} {ks : Nat → Int} {I I1 I2 I3 I4 I5 : gr_I} {J J2 : gr_J} {a b c d : Nat} (hn : 0 ≤ I 4 1 ∧ 0 ≤ n) (pu : I2 4 1 = I 4 1 + 1 ∧ J2 5 (Int.toNat (I 4 1)) = w ∧ ∀ j, ¬ j = Int.toNat (I 4 1) → J2 5 j = J 5 j) (e : ∀ j, I2 11 j = I 11 j ∧ I2 12 j = I 12 j ∧ I2 13 j = I 13 j) (ks2 : ∀ i : Nat, i < Int.toNat n → I4 41 i = ks i)
  (ha : a = Int.toNat (I 4 1)) (pa : ∀ x j, ¬ (x = 11 ∧ j = a) → I3 x j = I2 x j) (qa : I3 11 a = k) (hb : b = Int.toNat (I 4 1)) (pb : ∀ x j, ¬ (x = 12 ∧ j = b) → I1 x j = I3 x j) (qb : I1 12 b = n) (pc : ∀ x j, ¬ (x = 14 ∧ j = c) → I4 x j = I1 x j)
  (hd : d = 4 * Int.toNat (I 4 1)) (pd : ∀ x j, ¬ (x = 13 ∧ d ≤ j ∧ j < d + Int.toNat n) → I5 x j = I4 x j) (qd : ∀ j, j < Int.toNat n → I5 13 (d + j) = I4 41 (0 + j)) : gs_Cfun w n ks k I J I5 J2 := by
  have g : ∀ x j, ¬ x = 13 → ¬ x = 14 → ¬ x = 12 → ¬ x = 11 → I5 x j = I2 x j := fun x j h1 h2 h3 h4 => by
    rw [pd x j (fun q => h1 q.1), pc x j (fun q => h2 q.1), pb x j (fun q => h3 q.1), pa x j (fun q => h4 q.1)]
  subst ha hb hd
  refine ⟨⟨?_, pu.2.1, ?_, ?_⟩, fun i hi => ?_, fun j hj => ⟨pu.2.2 j hj, ?_, ?_⟩, fun j hj => ?_⟩
  · rw [g 4 1 (by decide) (by decide) (by decide) (by decide)]
    exact pu.1
  · rw [pd 12 _ (fun q => absurd q.1 (by decide)), pc 12 _ (fun q => absurd q.1 (by decide))]
    exact qb
  · rw [pd 11 _ (fun q => absurd q.1 (by decide)), pc 11 _ (fun q => absurd q.1 (by decide)), pb 11 _ (fun q => absurd q.1 (by decide))]
    exact qa
  · rw [qd i hi, Nat.zero_add]
    exact ks2 i hi
  · rw [pd 11 _ (fun q => absurd q.1 (by decide)), pc 11 _ (fun q => absurd q.1 (by decide)), pb 11 _ (fun q => absurd q.1 (by decide)), pa 11 _ (fun q => hj q.2)]
    exact (e j).1
  · rw [pd 12 _ (fun q => absurd q.1 (by decide)), pc 12 _ (fun q => absurd q.1 (by decide)), pb 12 _ (fun q => hj q.2), pa 12 _ (fun q => absurd q.1 (by decide))]
    exact (e j).2.1
  · rw [pd 13 _ (fun q => by have := q.2; omega), pc 13 _ (fun q => absurd q.1 (by decide)), pb 13 _ (fun q => absurd q.1 (by decide)), pa 13 _ (fun q => absurd q.1 (by decide))]
    exact (e j).2.2
/-- what it costs -/
def gs_Cfc (c : Int) (I I' : gr_I) : Prop := I' 14 (Int.toNat (I 4 1)) = c ∧ ∀ j, ¬ j = Int.toNat (I 4 1) → I' 14 j = I 14 j
theorem gs_Cfc_mk {c v : Int} {I I1 I2 I3 I4 I5 : gr_I} {a b k d m : Nat} (e : ∀ j, I2 14 j = I 14 j) (pa : ∀ x j, ¬ (x = 11 ∧ j = a) → I3 x j = I2 x j) (pb : ∀ x j, ¬ (x = 12 ∧ j = b) → I1 x j = I3 x j) (hk : k = Int.toNat (I 4 1)) (pc : ∀ x j, ¬ (x = 14 ∧ j = k) → I4 x j = I1 x j) (qc : I4 14 k = v) (hv : v = c) (pd : ∀ x j, ¬ (x = 13 ∧ d ≤ j ∧ j < m) → I5 x j = I4 x j) : gs_Cfc c I I5 := by
  subst hk
  have f : ∀ j, I5 14 j = I4 14 j := fun j => pd 14 j (fun h => absurd h.1 (by decide))
  exact ⟨(f _).trans (qc.trans hv), fun j hj => (f j).trans ((pc 14 j (fun h => hj h.2)).trans ((pb 14 j (fun h => absurd h.1 (by decide))).trans ((pa 14 j (fun h => absurd h.1 (by decide))).trans (e j))))⟩
set_option maxHeartbeats 8000000 in
set_option maxRecDepth 100000 in
theorem d_X6_readClass_p {ws0 : List Cond} {tb : String → gz_T} (hws : gc_Ws ws0) (htb : gc_tbs tb) (sh : gz_Sh) (ro : Nat → Nat) (I : gr_I) (J : gr_J) (A : gc_A) (hI : gc_Inv ro I) (t : Nat) (β : Int → Int) (η : Int) (p9 : Int) (Ir : gr_I) (Jr : gr_J)  (hb : gc_Base sh ro A) (h_t : gc_isTongue sh ro A t) (G_t : 144 ≤ t)  (x0 : gc_AT β η p9 23 I J) (x1 : 0 ≤ p9) (x2 : I 1 18 = 0) (x3 : I (t + 7) 1 = Ir 15 (Int.toNat (Ir 0 6))) (x4 : gs_NA (I (t + 7) 1) (J (t + 8)) (fun k => Jr 22 (Int.toNat (16 * Ir 0 6 + (k : Int))))) (x5 : I 39 2 = (t : Int)) (KLT_I : gc_LT I) (KTK_I : gc_TK I) : ∃ r h', gz_Ev ws0 tb 5 (yX6_readClass, cX6_readClass, 5, (some .boolean)) [.inr (.inr (some 39))] sh (gc_h sh I J A) r sh h' 0 0 ∧ (∃ (I' : gr_I) (J' : gr_J), h' = gc_h sh I' J' A ∧ gc_Inv ro I' ∧ (∀ q j : Nat, ((q = 39 ∧ j = 3) ∨ (q = 39 ∧ j = 4) ∨ (q = 23 ∧ j = 5) ∨ (q = 23 ∧ j = 6) ∨ (q = 23 ∧ j = 7) ∨ (q = 23 ∧ j = 8) ∨ q = (t + 9) ∨ (q = (t + 7) ∧ j = 1)) ∨ I' q j = I q j) ∧ (∀ q j : Nat, ((q = 23 ∧ j = 9) ∨ q = (t + 8)) ∨ J' q j = J q j) ∧ gc_LT I' ∧ gc_TK I' ∧ (∃ z : Int, r = some (.inl z) ∧ 0 ≤ z ∧ z ≤ 1 ∧ (I' 23 1 = I 23 1) ∧ (I 23 5 ≤ I' 23 5) ∧ (gs_Or z (0 ≤ (gs_let β η Ir Jr (I 39 5) p9) ∧ gc_AT β η (gs_let β η Ir Jr (I 39 5) p9) 23 I' J' ∧ gc_PU (t + 7) 16 (gs_M β η p9) I J I' J' ∧ I (t + 7) 1 < 16 ∧ gs_Cml β η I t p9 I') ((gs_let β η Ir Jr (I 39 5) p9) < 0 ∧ I' 39 4 = -1 - (gs_let β η Ir Jr (I 39 5) p9) ∧ I' (t + 7) 1 = I (t + 7) 1 ∧ (∀ j, J' (t + 8) j = J (t + 8) j) ∧ ∀ j, I' (t + 9) j = I (t + 9) j)))) := by
  have FI : ∀ q j : Nat, ((q = 39 ∧ j = 3) ∨ (q = 39 ∧ j = 4) ∨ (q = 23 ∧ j = 5) ∨ (q = 23 ∧ j = 6) ∨ (q = 23 ∧ j = 7) ∨ (q = 23 ∧ j = 8) ∨ q = (t + 9) ∨ (q = (t + 7) ∧ j = 1)) ∨ I q j = I q j := fun _ _ => Or.inr rfl
  have FJ : ∀ q j : Nat, ((q = 23 ∧ j = 9) ∨ q = (t + 8)) ∨ J q j = J q j := fun _ _ => Or.inr rfl
  have A_23_0 : A 23 0 = some 24 := gc_bA hb rfl
  have A_39_1 : A 39 1 = some 23 := gc_bA hb rfl
  have B_23 : 23 < 1000000 := by decide
  have B_24 : 24 < 1000000 := by decide
  have B_39 : 39 < 1000000 := by decide
  have R_1 : ro 1 = 22 := gc_bR hb (by decide) rfl
  have R_23 : ro 23 = 3 := gc_bR hb (by decide) rfl
  have R_24 : ro 24 = 1 := gc_bR hb (by decide) rfl
  have R_39 : ro 39 = 42 := gc_bR hb (by decide) rfl
  have S_23 : sh[23]? = some (false, 9, 10) := gc_bS hb rfl
  have S_24 : sh[24]? = some (true, 0, 1000) := gc_bS hb rfl
  have S_39 : sh[39]? = some (false, 6, 19) := gc_bS hb rfl
  obtain ⟨S_t, R_t, B_t, A_t_0, h_t_1, A_t_1, h_t_3, A_t_2, S_t_5, R_t_5, B_t_5, A_t_3, S_t_6, R_t_6, B_t_6, A_t_4, h_t_7, A_t_5, S_t_9, R_t_9, B_t_9, A_t_7, S_t_10, R_t_10, B_t_10, A_t_8, h_t_11, A_t_9, S_t_13, R_t_13, B_t_13, A_t_10, S_t_14, R_t_14, B_t_14, A_t_12, S_t_15, R_t_15, B_t_15, A_t_14, S_t_16, R_t_16, B_t_16, A_t_15, h_t_17⟩ := id h_t
  obtain ⟨S_t_1, R_t_1, B_t_1, A_t_1_0, S_t_1_1, R_t_1_1, B_t_1_1, Q0_t_1, Q1_t_1, Q2_t_1⟩ := id h_t_1
  obtain ⟨S_t_3, R_t_3, B_t_3, A_t_3_0, S_t_3_1, R_t_3_1, B_t_3_1, Q0_t_3, Q1_t_3, Q2_t_3⟩ := id h_t_3
  obtain ⟨S_t_7, R_t_7, B_t_7, A_t_7_0, S_t_7_1, R_t_7_1, B_t_7_1, Q0_t_7, Q1_t_7, Q2_t_7⟩ := id h_t_7
  obtain ⟨S_t_11, R_t_11, B_t_11, A_t_11_0, S_t_11_1, R_t_11_1, B_t_11_1, Q0_t_11, Q1_t_11, Q2_t_11⟩ := id h_t_11
  obtain ⟨S_t_17, R_t_17, B_t_17, A_t_17_0, S_20, R_20, B_20, A_t_17_1, S_t_17_1, R_t_17_1, B_t_17_1, A_t_17_2, S_t_17_2, R_t_17_2, B_t_17_2, A_t_17_3, S_t_17_3, R_t_17_3, B_t_17_3, A_t_17_4, S_t_17_4, R_t_17_4, B_t_17_4, A_t_17_5, S_t_17_5, R_t_17_5, B_t_17_5, S_t_17_6, R_t_17_6, B_t_17_6, S_t_17_7, R_t_17_7, B_t_17_7⟩ := id h_t_17
  have hD : gv_D (gc_E6 ws0 tb 4 (yX6_readClass, cX6_readClass, 5, (some .boolean)) kX6_readClass) := gq_of oX6_readClass
  refine gc_ev6 (d := 4) (l := kX6_readClass) (Po := fun r h' => (∃ (I' : gr_I) (J' : gr_J), h' = gc_h sh I' J' A ∧ gc_Inv ro I' ∧ (∀ q j : Nat, ((q = 39 ∧ j = 3) ∨ (q = 39 ∧ j = 4) ∨ (q = 23 ∧ j = 5) ∨ (q = 23 ∧ j = 6) ∨ (q = 23 ∧ j = 7) ∨ (q = 23 ∧ j = 8) ∨ q = (t + 9) ∨ (q = (t + 7) ∧ j = 1)) ∨ I' q j = I q j) ∧ (∀ q j : Nat, ((q = 23 ∧ j = 9) ∨ q = (t + 8)) ∨ J' q j = J q j) ∧ gc_LT I' ∧ gc_TK I' ∧ (∃ z : Int, r = some (.inl z) ∧ 0 ≤ z ∧ z ≤ 1 ∧ (I' 23 1 = I 23 1) ∧ (I 23 5 ≤ I' 23 5) ∧ (gs_Or z (0 ≤ (gs_let β η Ir Jr (I 39 5) p9) ∧ gc_AT β η (gs_let β η Ir Jr (I 39 5) p9) 23 I' J' ∧ gc_PU (t + 7) 16 (gs_M β η p9) I J I' J' ∧ I (t + 7) 1 < 16 ∧ gs_Cml β η I t p9 I') ((gs_let β η Ir Jr (I 39 5) p9) < 0 ∧ I' 39 4 = -1 - (gs_let β η Ir Jr (I 39 5) p9) ∧ I' (t + 7) 1 = I (t + 7) 1 ∧ (∀ j, J' (t + 8) j = J (t + 8) j) ∧ ∀ j, I' (t + 9) j = I (t + 9) j))))) htb rfl (Nat.le_of_ble_eq_true rfl) ?_
  have N_23__t_9 : ¬ (23 = (t + 9)) := by exact gz_m 0 (by omega)
  have N_t_7__t_9 : ¬ ((t + 7) = (t + 9)) := by exact gz_m 1 (by omega)
  have N_39__t_9 : ¬ (39 = (t + 9)) := by exact gz_m 2 (by omega)
  have N_1__t_9 : ¬ (1 = (t + 9)) := by exact gz_m 3 (by omega)
  have N_24__t_9 : ¬ (24 = (t + 9)) := by exact gz_m 4 (by omega)
  have N_23__t_7 : ¬ (23 = (t + 7)) := by exact gz_m 5 (by omega)
  have N_24__t_7 : ¬ (24 = (t + 7)) := by exact gz_m 6 (by omega)
  have N_23__t_8 : ¬ (23 = (t + 8)) := by exact gz_m 7 (by omega)
  have t1 := gc_TK_mo KTK_I
  have f2 := (show 0 ≤ I 23 1 ∧ I 23 1 ≤ 1000 from gc_in hI R_23 rfl rfl)
  have f3 := (show 0 ≤ I 23 5 ∧ I 23 5 ≤ 1000 from gc_in hI R_23 rfl rfl)
  have f4 := (show 0 ≤ I 23 6 ∧ I 23 6 ≤ 1001 from gc_in hI R_23 rfl rfl)
  have f5 := (show 0 ≤ I 23 7 ∧ I 23 7 ≤ 125 from gc_in hI R_23 rfl rfl)
  have f6 := (show 0 ≤ I (t + 7) 1 ∧ I (t + 7) 1 ≤ 16 from gc_in hI R_t_7 rfl rfl)
  have f7 := (show 0 ≤ I 39 5 ∧ I 39 5 ≤ 1000 from gc_in hI R_39 rfl rfl)
  have f8 := (show 0 ≤ I 1 18 ∧ I 1 18 ≤ 1 from gc_in hI R_1 rfl rfl)
  have f9 := (show (-1) ≤ I 39 2 ∧ I 39 2 ≤ 999999 from gc_in hI R_39 rfl rfl)
  have tAT := gc_AT_l x0
  have L55 : ∀ (n9 : Nat) (I10 : gr_I) (J11 : gr_J) (v1_12 : Int64) (v3_12 : Int) (v4_12 : Int) (p_12 : Int), (14 - v4_12).toNat < n9 → gc_Inv ro I10 → (∀ q j : Nat, ((q = 39 ∧ j = 3) ∨ (q = 39 ∧ j = 4) ∨ (q = 23 ∧ j = 5) ∨ (q = 23 ∧ j = 6) ∨ (q = 23 ∧ j = 7) ∨ (q = 23 ∧ j = 8) ∨ q = (t + 9) ∨ (q = (t + 7) ∧ j = 1)) ∨ I10 q j = I q j) → (∀ q j : Nat, ((q = 23 ∧ j = 9) ∨ q = (t + 8)) ∨ J11 q j = J q j) → gc_LT I10 → gc_TK I10 → (((-2147483648) ≤ v3_12 ∧ v3_12 ≤ 2147483647) ∧ (1 ≤ v4_12 ∧ v4_12 ≤ 13) ∧ (I10 23 7 = 3) ∧ (0 ≤ p_12) ∧ (v4_12 ≤ I10 23 6 - I10 23 5 - 1) ∧ (I10 23 1 = I 23 1) ∧ (I 23 5 ≤ I10 23 5) ∧ (I10 39 2 = (t : Int))) → (gc_AT β η p_12 23 I10 J11) → (v1_12 = gs_M β η p9) → ((gs_let β η Ir Jr (I 39 5) p9) = gs_let1 β η Ir (I 39 5) p_12) → (gs_T β η p_12 = 3) → (v3_12 = gs_ms β (gs_A β η p_12) (Int.toNat (v4_12 - 1))) → (p_12 = (gs_X β η (gs_X β η p9))) → ((∀ k, J11 (t + 8) k = J (t + 8) k) ∧ (I10 (t + 7) 1 = I (t + 7) 1) ∧ (I10 39 5 = I 39 5) ∧ (I10 1 18 = I 1 18) ∧ (∀ k, I10 (t + 9) k = I (t + 9) k)) → gv_X (gc_E6 ws0 tb 4 (yX6_readClass, cX6_readClass, 5, (some .boolean)) kX6_readClass) (gv_Q cX6_readClass (some .boolean) sh (fun r h' => (∃ (I' : gr_I) (J' : gr_J), h' = gc_h sh I' J' A ∧ gc_Inv ro I' ∧ (∀ q j : Nat, ((q = 39 ∧ j = 3) ∨ (q = 39 ∧ j = 4) ∨ (q = 23 ∧ j = 5) ∨ (q = 23 ∧ j = 6) ∨ (q = 23 ∧ j = 7) ∨ (q = 23 ∧ j = 8) ∨ q = (t + 9) ∨ (q = (t + 7) ∧ j = 1)) ∨ I' q j = I q j) ∧ (∀ q j : Nat, ((q = 23 ∧ j = 9) ∨ q = (t + 8)) ∨ J' q j = J q j) ∧ gc_LT I' ∧ gc_TK I' ∧ (∃ z : Int, r = some (.inl z) ∧ 0 ≤ z ∧ z ≤ 1 ∧ (I' 23 1 = I 23 1) ∧ (I 23 5 ≤ I' 23 5) ∧ (gs_Or z (0 ≤ (gs_let β η Ir Jr (I 39 5) p9) ∧ gc_AT β η (gs_let β η Ir Jr (I 39 5) p9) 23 I' J' ∧ gc_PU (t + 7) 16 (gs_M β η p9) I J I' J' ∧ I (t + 7) 1 < 16 ∧ gs_Cml β η I t p9 I') ((gs_let β η Ir Jr (I 39 5) p9) < 0 ∧ I' 39 4 = -1 - (gs_let β η Ir Jr (I 39 5) p9) ∧ I' (t + 7) 1 = I (t + 7) 1 ∧ (∀ j, J' (t + 8) j = J (t + 8) j) ∧ ∀ j, I' (t + 9) j = I (t + 9) j)))))) (55, [(0, .inr (.inr (some 39))), (1, .inr (.inl v1_12)), (3, .inl v3_12), (4, .inl v4_12)], [], sh, gc_h sh I10 J11 A) := by
    intro n9
    induction n9 with
    | zero => intro I10 J11 v1_12 v3_12 v4_12 p_12 hn; exact gz_m 8 (by omega)
    | succ n9 ih55 =>
      intro I10 J11 v1_12 v3_12 v4_12 p_12 hn hI10 FI10 FJ11 KLT_I10 KTK_I10 m_12 e2_12 e3_12 e4_12 e5_12 e6_12 e7_12 e8_12
      obtain ⟨hv3_12, hv4_12, e0_12, e1_12, e9_12, e10_12, e11_12, e12_12⟩ := m_12
      have t13 := gc_TK_mo KTK_I10
      have f14 := (show 0 ≤ I10 23 1 ∧ I10 23 1 ≤ 1000 from gc_in hI10 R_23 rfl rfl)
      have f15 := (show 0 ≤ I10 23 5 ∧ I10 23 5 ≤ 1000 from gc_in hI10 R_23 rfl rfl)
      have f16 := (show 0 ≤ I10 23 6 ∧ I10 23 6 ≤ 1001 from gc_in hI10 R_23 rfl rfl)
      have f17 := (show 0 ≤ I10 23 7 ∧ I10 23 7 ≤ 125 from gc_in hI10 R_23 rfl rfl)
      have f18 := (show 0 ≤ I10 (t + 7) 1 ∧ I10 (t + 7) 1 ≤ 16 from gc_in hI10 R_t_7 rfl rfl)
      have f19 := (show 0 ≤ I10 39 5 ∧ I10 39 5 ≤ 1000 from gc_in hI10 R_39 rfl rfl)
      have f20 := (show 0 ≤ I10 1 18 ∧ I10 1 18 ≤ 1 from gc_in hI10 R_1 rfl rfl)
      have f21 := (show (-1) ≤ I10 39 2 ∧ I10 39 2 ≤ 999999 from gc_in hI10 R_39 rfl rfl)
      have t22 := gc_AT_l e2_12
      refine gv_run 2 true hD (pc' := 58) (lv' := [(0, .inr (.inr (some 39))), (1, .inr (.inl v1_12)), (3, .inl v3_12), (4, .inl v4_12)]) (st' := [.inr (.inr (some 39)), .inl v4_12]) (h' := gc_h sh I10 J11 A) (C := ((True ∧ True) ∧ True)) rfl ⟨⟨trivial, trivial⟩, trivial⟩ ?_
      refine gv_get hD rfl rfl S_39 ⟨by decide, B_39⟩ (gc_hA S_39 rfl A_39_1) ?_
      show gv_X _ _ (61, [(0, .inr (.inr (some 39))), (1, .inr (.inl v1_12)), (3, .inl v3_12), (4, .inl v4_12)], [.inr (.inr (some 23)), .inl v4_12], sh, gc_h sh I10 J11 A)
      have t24 := gc_TK_l3 KTK_I10 (by exact gz_m 9 (by omega))
      obtain ⟨r23, h23, E23, P23⟩ := d_X9_lettersSize (ws0 := ws0) (tb := tb) hws htb sh ro I10 J11 A hI10 23  (gc_b23 hb)     
      obtain ⟨rfl, ⟨z23, rfl, q23⟩⟩ := P23
      refine gv_callV hD rfl (As := []) (st := [.inl v4_12]) rfl B_23 S_23 rfl (gc_lV6 hws rfl) (Nat.le_of_ble_eq_true rfl) (gz_Ev_mono (d := 1) (by decide) E23) ?_
      show gv_X _ _ (64, [(0, .inr (.inr (some 39))), (1, .inr (.inl v1_12)), (3, .inl v3_12), (4, .inl v4_12)], [.inl z23, .inl v4_12], sh, gc_h sh I10 J11 A)
      refine gv_icmp_gt (t := 99) hD rfl rfl ⟨⟨by exact gz_m 10 (by omega), by exact gz_m 11 (by omega)⟩, ⟨by exact gz_m 12 (by omega), by exact gz_m 13 (by omega)⟩⟩ (fun c25 => ?_) (fun c25 => ?_)
      · show gv_X _ _ (99, [(0, .inr (.inr (some 39))), (1, .inr (.inl v1_12)), (3, .inl v3_12), (4, .inl v4_12)], [], sh, gc_h sh I10 J11 A)
        refine gv_run 1 true hD (pc' := 100) (lv' := [(0, .inr (.inr (some 39))), (1, .inr (.inl v1_12)), (3, .inl v3_12), (4, .inl v4_12)]) (st' := [.inr (.inr (some 39))]) (h' := gc_h sh I10 J11 A) (C := (True ∧ True)) rfl ⟨trivial, trivial⟩ ?_
        refine gv_get hD rfl rfl S_39 ⟨by decide, B_39⟩ (gc_hA S_39 rfl A_39_1) ?_
        show gv_X _ _ (103, [(0, .inr (.inr (some 39))), (1, .inr (.inl v1_12)), (3, .inl v3_12), (4, .inl v4_12)], [.inr (.inr (some 23))], sh, gc_h sh I10 J11 A)
        have t27 := gc_TK_nx KTK_I10 (by exact gz_m 14 (by omega))
        obtain ⟨r26, h26, E26, P26⟩ := d_X9_advance_p (ws0 := ws0) (tb := tb) hws htb sh ro I10 J11 A hI10 23 β η  (gc_b23 hb)    (by exact gz_m 15 (by omega)) e2_12.1.1 e2_12.1.2 
        obtain ⟨I28, J29, rfl, hI28, g26, k26, ⟨rfl, V26_0, V26_1, V26_2, V26_3, V26_4, q26⟩⟩ := P26
        have FI28 := gc_frc (W := fun q j => (q = 39 ∧ j = 3) ∨ (q = 39 ∧ j = 4) ∨ (q = 23 ∧ j = 5) ∨ (q = 23 ∧ j = 6) ∨ (q = 23 ∧ j = 7) ∨ (q = 23 ∧ j = 8) ∨ q = (t + 9) ∨ (q = (t + 7) ∧ j = 1)) (V := fun q j => (q = 23 ∧ j = 5) ∨ (q = 23 ∧ j = 6) ∨ (q = 23 ∧ j = 7) ∨ (q = 23 ∧ j = 8)) FI10 (fun q j h => (h.elim (fun h => (Or.inr (Or.inr (Or.inl h)))) (fun h => (h.elim (fun h => (Or.inr (Or.inr (Or.inr (Or.inl h))))) (fun h => (h.elim (fun h => (Or.inr (Or.inr (Or.inr (Or.inr (Or.inl h)))))) (fun h => (Or.inr (Or.inr (Or.inr (Or.inr (Or.inr (Or.inl h))))))))))))) g26
        have FJ29 := gc_frc (W := fun q j => (q = 23 ∧ j = 9) ∨ q = (t + 8)) (V := fun q j => (q = 23 ∧ j = 9)) FJ11 (fun q j h => (Or.inl h)) k26
        have t30 := (g26 23 1).resolve_left (fun h => h.elim (fun h => absurd h.2 (by decide)) (fun h => h.elim (fun h => absurd h.2 (by decide)) (fun h => h.elim (fun h => absurd h.2 (by decide)) (fun h => absurd h.2 (by decide)))))
        have t31 := (g26 (t + 7) 1).resolve_left (fun h => h.elim (fun h => absurd h.2 (by decide)) (fun h => h.elim (fun h => absurd h.2 (by decide)) (fun h => h.elim (fun h => absurd h.2 (by decide)) (fun h => absurd h.2 (by decide)))))
        have t32 := (g26 39 5).resolve_left (fun h => h.elim (fun h => absurd h.1 (by decide)) (fun h => h.elim (fun h => absurd h.2 (by decide)) (fun h => h.elim (fun h => absurd h.2 (by decide)) (fun h => absurd h.2 (by decide)))))
        have t33 := (g26 1 18).resolve_left (fun h => h.elim (fun h => absurd h.2 (by decide)) (fun h => h.elim (fun h => absurd h.2 (by decide)) (fun h => h.elim (fun h => absurd h.2 (by decide)) (fun h => absurd h.2 (by decide)))))
        have t34 := (g26 39 2).resolve_left (fun h => h.elim (fun h => absurd h.2 (by decide)) (fun h => h.elim (fun h => absurd h.2 (by decide)) (fun h => h.elim (fun h => absurd h.2 (by decide)) (fun h => absurd h.2 (by decide)))))
        have f35 := (show 0 ≤ I28 23 5 ∧ I28 23 5 ≤ 1000 from gc_in hI28 R_23 rfl rfl)
        have f36 := (show 0 ≤ I28 23 6 ∧ I28 23 6 ≤ 1001 from gc_in hI28 R_23 rfl rfl)
        have f37 := (show 0 ≤ I28 23 7 ∧ I28 23 7 ≤ 125 from gc_in hI28 R_23 rfl rfl)
        have KLT_I28 : gc_LT I28 := q26.2.2.1
        have KTK_I28 : gc_TK I28 := And.intro V26_0 (And.intro V26_1 (And.intro V26_2 (And.intro V26_3 V26_4)))
        have t38 := gc_TK_mo KTK_I28
        clear V26_0 V26_1 V26_2 V26_3 V26_4
        have A39 := gc_AT_nx e2_12 q26.2.2.2
        have t40 := gc_AT_l A39
        refine gv_callV hD rfl (As := []) (st := []) rfl B_23 S_23 rfl (gc_lV6 hws rfl) (Nat.le_of_ble_eq_true rfl) (gz_Ev_mono (d := 2) (by decide) E26) ?_
        show gv_X _ _ (106, [(0, .inr (.inr (some 39))), (1, .inr (.inl v1_12)), (3, .inl v3_12), (4, .inl v4_12)], [], sh, gc_h sh I28 J29 A)
        refine gv_run 2 true hD (pc' := 108) (lv' := [(0, .inr (.inr (some 39))), (1, .inr (.inl v1_12)), (3, .inl v3_12), (4, .inl v4_12)]) (st' := [.inr (.inr (some 39)), .inr (.inr (some 39))]) (h' := gc_h sh I28 J29 A) (C := ((True ∧ True) ∧ True)) rfl ⟨⟨trivial, trivial⟩, trivial⟩ ?_
        refine gv_get hD rfl rfl S_39 ⟨by decide, B_39⟩ (gc_h5 (t := t) S_39 rfl (by exact gz_m 16 (by omega))) ?_
        show gv_X _ _ (111, [(0, .inr (.inr (some 39))), (1, .inr (.inl v1_12)), (3, .inl v3_12), (4, .inl v4_12)], [.inr (.inr (some t)), .inr (.inr (some 39))], sh, gc_h sh I28 J29 A)
        refine gv_get hD rfl rfl S_t ⟨by decide, B_t⟩ (gc_hA S_t rfl A_t_4) ?_
        show gv_X _ _ (114, [(0, .inr (.inr (some 39))), (1, .inr (.inl v1_12)), (3, .inl v3_12), (4, .inl v4_12)], [.inr (.inr (some (t + 7))), .inr (.inr (some 39))], sh, gc_h sh I28 J29 A)
        obtain ⟨r41, h41, E41, P41⟩ := d_X4_isFull_p (ws0 := ws0) (tb := tb) hws htb sh ro I28 J29 A hI28 (t + 7) 16 7  h_t_7     
        obtain ⟨rfl, ⟨z41, rfl, q41⟩⟩ := P41
        refine gv_callV hD rfl (As := []) (st := [.inr (.inr (some 39))]) rfl B_t_7 S_t_7 rfl (gc_lV6 hws rfl) (Nat.le_of_ble_eq_true rfl) (gz_Ev_mono (d := 1) (by decide) E41) ?_
        show gv_X _ _ (117, [(0, .inr (.inr (some 39))), (1, .inr (.inl v1_12)), (3, .inl v3_12), (4, .inl v4_12)], [.inl z41, .inr (.inr (some 39))], sh, gc_h sh I28 J29 A)
        obtain ⟨r42, h42, E42, P42⟩ := d_X6_closes_p (ws0 := ws0) (tb := tb) hws htb sh ro I28 J29 A hI28  β η (gs_X β η p_12) z41 hb   ⟨by exact gz_m 17 (by omega), by exact gz_m 18 (by omega)⟩ A39 (by exact gz_m 19 (by omega)) (by exact gz_m 20 (by omega)) KLT_I28 KTK_I28
        obtain ⟨I43, J44, rfl, hI43, g42, k42, KLT_I43, KTK_I43, ⟨z42, rfl, q42⟩⟩ := P42
        have FI43 := gc_frc (W := fun q j => (q = 39 ∧ j = 3) ∨ (q = 39 ∧ j = 4) ∨ (q = 23 ∧ j = 5) ∨ (q = 23 ∧ j = 6) ∨ (q = 23 ∧ j = 7) ∨ (q = 23 ∧ j = 8) ∨ q = (t + 9) ∨ (q = (t + 7) ∧ j = 1)) (V := fun q j => (q = 39 ∧ j = 3) ∨ (q = 39 ∧ j = 4) ∨ (q = 23 ∧ j = 5) ∨ (q = 23 ∧ j = 6) ∨ (q = 23 ∧ j = 7) ∨ (q = 23 ∧ j = 8)) FI28 (fun q j h => (h.elim (fun h => (Or.inl h)) (fun h => (h.elim (fun h => (Or.inr (Or.inl h))) (fun h => (h.elim (fun h => (Or.inr (Or.inr (Or.inl h)))) (fun h => (h.elim (fun h => (Or.inr (Or.inr (Or.inr (Or.inl h))))) (fun h => (h.elim (fun h => (Or.inr (Or.inr (Or.inr (Or.inr (Or.inl h)))))) (fun h => (Or.inr (Or.inr (Or.inr (Or.inr (Or.inr (Or.inl h))))))))))))))))) g42
        have FJ44 := gc_frc (W := fun q j => (q = 23 ∧ j = 9) ∨ q = (t + 8)) (V := fun q j => (q = 23 ∧ j = 9)) FJ29 (fun q j h => (Or.inl h)) k42
        have t45 := (g42 23 1).resolve_left (fun h => h.elim (fun h => absurd h.2 (by decide)) (fun h => h.elim (fun h => absurd h.2 (by decide)) (fun h => h.elim (fun h => absurd h.2 (by decide)) (fun h => h.elim (fun h => absurd h.2 (by decide)) (fun h => h.elim (fun h => absurd h.2 (by decide)) (fun h => absurd h.2 (by decide)))))))
        have t46 := (g42 (t + 7) 1).resolve_left (fun h => h.elim (fun h => absurd h.2 (by decide)) (fun h => h.elim (fun h => absurd h.2 (by decide)) (fun h => h.elim (fun h => absurd h.2 (by decide)) (fun h => h.elim (fun h => absurd h.2 (by decide)) (fun h => h.elim (fun h => absurd h.2 (by decide)) (fun h => absurd h.2 (by decide)))))))
        have t47 := (g42 39 5).resolve_left (fun h => h.elim (fun h => absurd h.2 (by decide)) (fun h => h.elim (fun h => absurd h.2 (by decide)) (fun h => h.elim (fun h => absurd h.1 (by decide)) (fun h => h.elim (fun h => absurd h.2 (by decide)) (fun h => h.elim (fun h => absurd h.2 (by decide)) (fun h => absurd h.2 (by decide)))))))
        have t48 := (g42 1 18).resolve_left (fun h => h.elim (fun h => absurd h.2 (by decide)) (fun h => h.elim (fun h => absurd h.2 (by decide)) (fun h => h.elim (fun h => absurd h.2 (by decide)) (fun h => h.elim (fun h => absurd h.2 (by decide)) (fun h => h.elim (fun h => absurd h.2 (by decide)) (fun h => absurd h.2 (by decide)))))))
        have t49 := (g42 39 2).resolve_left (fun h => h.elim (fun h => absurd h.2 (by decide)) (fun h => h.elim (fun h => absurd h.2 (by decide)) (fun h => h.elim (fun h => absurd h.2 (by decide)) (fun h => h.elim (fun h => absurd h.2 (by decide)) (fun h => h.elim (fun h => absurd h.2 (by decide)) (fun h => absurd h.2 (by decide)))))))
        have f50 := (show 0 ≤ I43 23 5 ∧ I43 23 5 ≤ 1000 from gc_in hI43 R_23 rfl rfl)
        have f51 := (show 0 ≤ I43 23 6 ∧ I43 23 6 ≤ 1001 from gc_in hI43 R_23 rfl rfl)
        have f52 := (show 0 ≤ I43 23 7 ∧ I43 23 7 ≤ 125 from gc_in hI43 R_23 rfl rfl)
        have t53 := gc_TK_mo KTK_I43
        refine gv_callV hD rfl (As := [.inl z41]) (st := []) rfl B_39 S_39 rfl (gc_lV6 hws rfl) (Nat.le_of_ble_eq_true rfl) (gz_Ev_mono (d := 4) (by decide) E42) ?_
        show gv_X _ _ (120, [(0, .inr (.inr (some 39))), (1, .inr (.inl v1_12)), (3, .inl v3_12), (4, .inl v4_12)], [.inl z42], sh, gc_h sh I43 J44 A)
        refine gv_if_ne (t := 125) hD rfl rfl ⟨by exact gz_m 21 (by omega), by exact gz_m 22 (by omega)⟩ (fun c54 => ?_) (fun c54 => ?_)
        · show gv_X _ _ (125, [(0, .inr (.inr (some 39))), (1, .inr (.inl v1_12)), (3, .inl v3_12), (4, .inl v4_12)], [], sh, gc_h sh I43 J44 A)
          have V55 := q42.2.2.2.2.2
          rw [show I28 39 5 = I 39 5 from by exact gz_m 23 (by omega)] at V55
          rw [show (if z41 = 0 then (1 : Int) else 0) = (if Ir 15 (Int.toNat (Ir 0 6)) < 16 then 1 else 0) from gs_rm (by exact gz_m 24 (by omega))] at V55
          obtain ⟨u55, A55⟩ := gs_or1 V55 (by exact gz_m 25 (by omega))
          have t56 := gc_AT_l A55
          refine gv_run 1 true hD (pc' := 126) (lv' := [(0, .inr (.inr (some 39))), (1, .inr (.inl v1_12)), (3, .inl v3_12), (4, .inl v4_12)]) (st' := [.inr (.inr (some 39))]) (h' := gc_h sh I43 J44 A) (C := (True ∧ True)) rfl ⟨trivial, trivial⟩ ?_
          refine gv_get hD rfl rfl S_39 ⟨by decide, B_39⟩ (gc_h5 (t := t) S_39 rfl (by exact gz_m 26 (by omega))) ?_
          show gv_X _ _ (129, [(0, .inr (.inr (some 39))), (1, .inr (.inl v1_12)), (3, .inl v3_12), (4, .inl v4_12)], [.inr (.inr (some t))], sh, gc_h sh I43 J44 A)
          refine gv_get hD rfl rfl S_t ⟨by decide, B_t⟩ (gc_hA S_t rfl A_t_5) ?_
          show gv_X _ _ (132, [(0, .inr (.inr (some 39))), (1, .inr (.inl v1_12)), (3, .inl v3_12), (4, .inl v4_12)], [.inr (.inr (some (t + 9)))], sh, gc_h sh I43 J44 A)
          refine gv_run 1 true hD (pc' := 133) (lv' := [(0, .inr (.inr (some 39))), (1, .inr (.inl v1_12)), (3, .inl v3_12), (4, .inl v4_12)]) (st' := [.inr (.inr (some 39)), .inr (.inr (some (t + 9)))]) (h' := gc_h sh I43 J44 A) (C := (True ∧ True)) rfl ⟨trivial, trivial⟩ ?_
          refine gv_get hD rfl rfl S_39 ⟨by decide, B_39⟩ (gc_h5 (t := t) S_39 rfl (by exact gz_m 27 (by omega))) ?_
          show gv_X _ _ (136, [(0, .inr (.inr (some 39))), (1, .inr (.inl v1_12)), (3, .inl v3_12), (4, .inl v4_12)], [.inr (.inr (some t)), .inr (.inr (some (t + 9)))], sh, gc_h sh I43 J44 A)
          refine gv_get hD rfl rfl S_t ⟨by decide, B_t⟩ (gc_hA S_t rfl A_t_4) ?_
          show gv_X _ _ (139, [(0, .inr (.inr (some 39))), (1, .inr (.inl v1_12)), (3, .inl v3_12), (4, .inl v4_12)], [.inr (.inr (some (t + 7))), .inr (.inr (some (t + 9)))], sh, gc_h sh I43 J44 A)
          have f57 := (show 0 ≤ I43 (t + 7) 1 ∧ I43 (t + 7) 1 ≤ 16 from gc_in hI43 R_t_7 rfl rfl)
          refine gv_get hD rfl rfl S_t_7 ⟨by decide, B_t_7⟩ (gc_hI S_t_7 rfl) ?_
          show gv_X _ _ (142, [(0, .inr (.inr (some 39))), (1, .inr (.inl v1_12)), (3, .inl v3_12), (4, .inl v4_12)], [.inl (I43 (t + 7) 1), .inr (.inr (some (t + 9)))], sh, gc_h sh I43 J44 A)
          refine gv_run 1 true hD (pc' := 143) (lv' := [(0, .inr (.inr (some 39))), (1, .inr (.inl v1_12)), (3, .inl v3_12), (4, .inl v4_12)]) (st' := [.inl v3_12, .inl (I43 (t + 7) 1), .inr (.inr (some (t + 9)))]) (h' := gc_h sh I43 J44 A) (C := (True ∧ True)) rfl ⟨trivial, trivial⟩ ?_
          refine gv_iast hD rfl S_t_9 ⟨by decide, B_t_9⟩ ⟨by exact gz_m 28 (by omega), by exact gz_m 29 (by omega)⟩ ?_
          refine gc_st hI43 S_t_9 rfl R_t_9 (lo := (-2147483648)) (hi := 2147483647) rfl rfl (by exact gz_m 30 (by omega)) (by exact gz_m 31 (by omega)) (fun I58 hI58 q59 p59 => ?_)
          have FI58 := gc_frs (W := fun q j => (q = 39 ∧ j = 3) ∨ (q = 39 ∧ j = 4) ∨ (q = 23 ∧ j = 5) ∨ (q = 23 ∧ j = 6) ∨ (q = 23 ∧ j = 7) ∨ (q = 23 ∧ j = 8) ∨ q = (t + 9) ∨ (q = (t + 7) ∧ j = 1)) FI43 (Or.inr (Or.inr (Or.inr (Or.inr (Or.inr (Or.inr (Or.inl rfl))))))) p59
          have t60 := p59 23 1 (fun h => absurd h.1 N_23__t_9)
          have t61 := p59 23 5 (fun h => absurd h.1 N_23__t_9)
          have t62 := p59 23 6 (fun h => absurd h.1 N_23__t_9)
          have t63 := p59 23 7 (fun h => absurd h.1 N_23__t_9)
          have t64 := p59 (t + 7) 1 (fun h => absurd h.1 N_t_7__t_9)
          have t65 := p59 39 5 (fun h => absurd h.1 N_39__t_9)
          have t66 := p59 1 18 (fun h => absurd h.1 N_1__t_9)
          have t67 := p59 39 2 (fun h => absurd h.1 N_39__t_9)
          have KLT_I58 := gc_LT_fr KLT_I43 (p59 23 5 (fun h => absurd h.1 N_23__t_9)) (p59 23 6 (fun h => absurd h.1 N_23__t_9)) (p59 23 7 (fun h => absurd h.1 N_23__t_9)) (fun k => p59 24 k (fun h => absurd h.1 N_24__t_9))
          have KTK_I58 := gc_TK_fr KTK_I43 (p59 23 1 (fun h => absurd h.1 N_23__t_9)) (p59 23 5 (fun h => absurd h.1 N_23__t_9)) (p59 23 6 (fun h => absurd h.1 N_23__t_9)) (p59 23 7 (fun h => absurd h.1 N_23__t_9))
          have A68 := gc_AT_I A55 (p59 23 1 (fun h => absurd h.1 N_23__t_9)) (p59 23 5 (fun h => absurd h.1 N_23__t_9)) (p59 23 6 (fun h => absurd h.1 N_23__t_9)) (p59 23 7 (fun h => absurd h.1 N_23__t_9)) (p59 23 8 (fun h => absurd h.1 N_23__t_9)) (fun k => p59 24 k (fun h => absurd h.1 N_24__t_9))
          show gv_X _ _ (144, [(0, .inr (.inr (some 39))), (1, .inr (.inl v1_12)), (3, .inl v3_12), (4, .inl v4_12)], [], sh, gc_h sh I58 J44 A)
          refine gv_run 1 true hD (pc' := 145) (lv' := [(0, .inr (.inr (some 39))), (1, .inr (.inl v1_12)), (3, .inl v3_12), (4, .inl v4_12)]) (st' := [.inr (.inr (some 39))]) (h' := gc_h sh I58 J44 A) (C := (True ∧ True)) rfl ⟨trivial, trivial⟩ ?_
          refine gv_get hD rfl rfl S_39 ⟨by decide, B_39⟩ (gc_h5 (t := t) S_39 rfl (by exact gz_m 32 (by omega))) ?_
          show gv_X _ _ (148, [(0, .inr (.inr (some 39))), (1, .inr (.inl v1_12)), (3, .inl v3_12), (4, .inl v4_12)], [.inr (.inr (some t))], sh, gc_h sh I58 J44 A)
          refine gv_get hD rfl rfl S_t ⟨by decide, B_t⟩ (gc_hA S_t rfl A_t_4) ?_
          show gv_X _ _ (151, [(0, .inr (.inr (some 39))), (1, .inr (.inl v1_12)), (3, .inl v3_12), (4, .inl v4_12)], [.inr (.inr (some (t + 7)))], sh, gc_h sh I58 J44 A)
          refine gv_run 1 true hD (pc' := 152) (lv' := [(0, .inr (.inr (some 39))), (1, .inr (.inl v1_12)), (3, .inl v3_12), (4, .inl v4_12)]) (st' := [.inr (.inl v1_12), .inr (.inr (some (t + 7)))]) (h' := gc_h sh I58 J44 A) (C := (True ∧ True)) rfl ⟨trivial, trivial⟩ ?_
          obtain ⟨r69, h69, E69, P69⟩ := d_X4_put_p (ws0 := ws0) (tb := tb) hws htb sh ro I58 J44 A hI58 (t + 7) 16 7 v1_12 h_t_7     
          obtain ⟨I70, J71, rfl, hI70, g69, k69, ⟨rfl, q69⟩⟩ := P69
          have FI70 := gc_frc (W := fun q j => (q = 39 ∧ j = 3) ∨ (q = 39 ∧ j = 4) ∨ (q = 23 ∧ j = 5) ∨ (q = 23 ∧ j = 6) ∨ (q = 23 ∧ j = 7) ∨ (q = 23 ∧ j = 8) ∨ q = (t + 9) ∨ (q = (t + 7) ∧ j = 1)) (V := fun q j => (q = (t + 7) ∧ j = 1)) FI58 (fun q j h => (Or.inr (Or.inr (Or.inr (Or.inr (Or.inr (Or.inr (Or.inr h)))))))) g69
          have FJ71 := gc_frc (W := fun q j => (q = 23 ∧ j = 9) ∨ q = (t + 8)) (V := fun q j => q = (t + 8)) FJ44 (fun q j h => (Or.inr h)) k69
          have t72 := (g69 23 1).resolve_left (fun h => absurd h.1 N_23__t_7)
          have t73 := (g69 23 5).resolve_left (fun h => absurd h.2 (by decide))
          have t74 := (g69 23 6).resolve_left (fun h => absurd h.2 (by decide))
          have t75 := (g69 23 7).resolve_left (fun h => absurd h.2 (by decide))
          have t76 := (g69 39 5).resolve_left (fun h => absurd h.2 (by decide))
          have t77 := (g69 1 18).resolve_left (fun h => absurd h.2 (by decide))
          have t78 := (g69 39 2).resolve_left (fun h => absurd h.2 (by decide))
          have f79 := (show 0 ≤ I70 (t + 7) 1 ∧ I70 (t + 7) 1 ≤ 16 from gc_in hI70 R_t_7 rfl rfl)
          have KLT_I70 := gc_LT_fr KLT_I58 ((g69 23 5).resolve_left (fun h => absurd h.2 (by decide))) ((g69 23 6).resolve_left (fun h => absurd h.2 (by decide))) ((g69 23 7).resolve_left (fun h => absurd h.2 (by decide))) (fun k => (g69 24 k).resolve_left (fun h => absurd h.1 N_24__t_7))
          have KTK_I70 := gc_TK_fr KTK_I58 ((g69 23 1).resolve_left (fun h => absurd h.1 N_23__t_7)) ((g69 23 5).resolve_left (fun h => absurd h.2 (by decide))) ((g69 23 6).resolve_left (fun h => absurd h.2 (by decide))) ((g69 23 7).resolve_left (fun h => absurd h.2 (by decide)))
          have A80 := gc_AT_I A68 ((g69 23 1).resolve_left (fun h => absurd h.1 N_23__t_7)) ((g69 23 5).resolve_left (fun h => absurd h.2 (by decide))) ((g69 23 6).resolve_left (fun h => absurd h.2 (by decide))) ((g69 23 7).resolve_left (fun h => absurd h.2 (by decide))) ((g69 23 8).resolve_left (fun h => absurd h.2 (by decide))) (fun k => (g69 24 k).resolve_left (fun h => absurd h.1 N_24__t_7))
          have A81 := gc_AT_J A80 ((k69 23 9).resolve_left (fun h => absurd h N_23__t_8))
          have t82 := gc_AT_l A81
          refine gv_callV hD rfl (As := [.inr (.inl v1_12)]) (st := []) rfl B_t_7 S_t_7 rfl (gc_lV6 hws rfl) (Nat.le_of_ble_eq_true rfl) (gz_Ev_mono (d := 1) (by decide) E69) ?_
          show gv_X _ _ (155, [(0, .inr (.inr (some 39))), (1, .inr (.inl v1_12)), (3, .inl v3_12), (4, .inl v4_12)], [], sh, gc_h sh I70 J71 A)
          refine gv_run 1 true hD (pc' := 156) (lv' := [(0, .inr (.inr (some 39))), (1, .inr (.inl v1_12)), (3, .inl v3_12), (4, .inl v4_12)]) (st' := [.inl 1]) (h' := gc_h sh I70 J71 A) (C := (True ∧ True)) rfl ⟨trivial, trivial⟩ ?_
          exact gv_zret hD rfl (by exact gz_m 33 (by omega)) ⟨I70, J71, rfl, hI70, FI70, FJ71, KLT_I70, KTK_I70, ⟨_, rfl, by exact gz_m 34 (by omega), by exact gz_m 35 (by omega), by exact gz_m 36 (by omega), by exact gz_m 37 (by omega), (Or.inl ⟨by exact gz_m 38 (by omega), by have e9 : (gs_let β η Ir Jr (I 39 5) p9) = (gs_done β η (if Ir 15 (Int.toNat (Ir 0 6)) < 16 then 1 else 0) (I 39 5) (gs_X β η p_12)) := (by rw [e4_12]; unfold gs_let1; (repeat first | rw [if_pos (by exact gz_m 39 (by omega))] | rw [if_neg (by exact gz_m 40 (by omega))])); rw [e9]; exact ⟨by exact gz_m 41 (by omega), A81, (gc_PU_tr q69.2.2.2 ((((p59 (t + 7) 1 (by exact gz_m 42 (by omega))).trans ((g42 (t + 7) 1).resolve_left (by exact gz_m 43 (by omega)))).trans ((g26 (t + 7) 1).resolve_left (by exact gz_m 44 (by omega)))).trans (e8_12.2.1)) (fun j => ((((k42 (t + 8) j).resolve_left (by exact gz_m 45 (by omega))).trans ((k26 (t + 8) j).resolve_left (by exact gz_m 46 (by omega)))).trans (e8_12.1 j))) e3_12), by exact gz_m 47 (by omega), (gs_Cml_mk e6_12 e7_12 (by exact gz_m 48 (by omega)) (show (Int.toNat ((I43 (t + 7) 1))) = Int.toNat (I (t + 7) 1) by have h8 := (show I43 (t + 7) 1 = I (t + 7) 1 from ((((g42 (t + 7) 1).resolve_left (by exact gz_m 49 (by omega))).trans ((g26 (t + 7) 1).resolve_left (by exact gz_m 50 (by omega)))).trans (e8_12.2.1))); exact gz_m 51 (by omega)) ((((g69 (t + 9) (Int.toNat ((I43 (t + 7) 1)))).resolve_left (by exact gz_m 52 (by omega)))).trans q59) (fun j hj => (((g69 (t + 9) j).resolve_left (by exact gz_m 53 (by omega)))).trans ((p59 (t + 9) j (fun h => hj h.2)).trans ((((g42 (t + 9) j).resolve_left (by exact gz_m 54 (by omega))).trans ((g26 (t + 9) j).resolve_left (by exact gz_m 55 (by omega)))).trans (e8_12.2.2.2.2 j)))))⟩⟩)⟩⟩
        · show gv_X _ _ (123, [(0, .inr (.inr (some 39))), (1, .inr (.inl v1_12)), (3, .inl v3_12), (4, .inl v4_12)], [], sh, gc_h sh I43 J44 A)
          have V83 := q42.2.2.2.2.2
          rw [show I28 39 5 = I 39 5 from by exact gz_m 56 (by omega)] at V83
          rw [show (if z41 = 0 then (1 : Int) else 0) = (if Ir 15 (Int.toNat (Ir 0 6)) < 16 then 1 else 0) from gs_rm (by exact gz_m 57 (by omega))] at V83
          obtain ⟨u83, u83_⟩ := gs_or0 V83 (by exact gz_m 58 (by omega))
          refine gv_run 1 true hD (pc' := 124) (lv' := [(0, .inr (.inr (some 39))), (1, .inr (.inl v1_12)), (3, .inl v3_12), (4, .inl v4_12)]) (st' := [.inl 0]) (h' := gc_h sh I43 J44 A) (C := (True ∧ True)) rfl ⟨trivial, trivial⟩ ?_
          exact gv_zret hD rfl (by exact gz_m 59 (by omega)) ⟨I43, J44, rfl, hI43, FI43, FJ44, KLT_I43, KTK_I43, ⟨_, rfl, by exact gz_m 60 (by omega), by exact gz_m 61 (by omega), by exact gz_m 62 (by omega), by exact gz_m 63 (by omega), (Or.inr ⟨by exact gz_m 64 (by omega), by rw [e4_12]; unfold gs_let1; (repeat first | rw [if_pos (by exact gz_m 65 (by omega))] | rw [if_neg (by exact gz_m 66 (by omega))]); exact ⟨by exact gz_m 67 (by omega), by exact gz_m 68 (by omega), ((((g42 (t + 7) 1).resolve_left (by exact gz_m 69 (by omega))).trans ((g26 (t + 7) 1).resolve_left (by exact gz_m 70 (by omega)))).trans (e8_12.2.1)), (fun j => ((((k42 (t + 8) j).resolve_left (by exact gz_m 71 (by omega))).trans ((k26 (t + 8) j).resolve_left (by exact gz_m 72 (by omega)))).trans (e8_12.1 j))), fun j => ((((g42 (t + 9) j).resolve_left (by exact gz_m 73 (by omega))).trans ((g26 (t + 9) j).resolve_left (by exact gz_m 74 (by omega)))).trans (e8_12.2.2.2.2 j))⟩⟩)⟩⟩
      · show gv_X _ _ (67, [(0, .inr (.inr (some 39))), (1, .inr (.inl v1_12)), (3, .inl v3_12), (4, .inl v4_12)], [], sh, gc_h sh I10 J11 A)
        refine gv_run 3 true hD (pc' := 70) (lv' := [(0, .inr (.inr (some 39))), (1, .inr (.inl v1_12)), (3, .inl v3_12), (4, .inl v4_12)]) (st' := [.inr (.inr (some 39)), .inl 1, .inl v3_12]) (h' := gc_h sh I10 J11 A) (C := (((True ∧ True) ∧ True) ∧ True)) rfl ⟨⟨⟨trivial, trivial⟩, trivial⟩, trivial⟩ ?_
        refine gv_get hD rfl rfl S_39 ⟨by decide, B_39⟩ (gc_hA S_39 rfl A_39_1) ?_
        show gv_X _ _ (73, [(0, .inr (.inr (some 39))), (1, .inr (.inl v1_12)), (3, .inl v3_12), (4, .inl v4_12)], [.inr (.inr (some 23)), .inl 1, .inl v3_12], sh, gc_h sh I10 J11 A)
        refine gv_get hD rfl rfl S_23 ⟨by decide, B_23⟩ (gc_hA S_23 rfl A_23_0) ?_
        show gv_X _ _ (76, [(0, .inr (.inr (some 39))), (1, .inr (.inl v1_12)), (3, .inl v3_12), (4, .inl v4_12)], [.inr (.inr (some 24)), .inl 1, .inl v3_12], sh, gc_h sh I10 J11 A)
        refine gv_run 1 true hD (pc' := 77) (lv' := [(0, .inr (.inr (some 39))), (1, .inr (.inl v1_12)), (3, .inl v3_12), (4, .inl v4_12)]) (st' := [.inr (.inr (some 39)), .inr (.inr (some 24)), .inl 1, .inl v3_12]) (h' := gc_h sh I10 J11 A) (C := (True ∧ True)) rfl ⟨trivial, trivial⟩ ?_
        refine gv_get hD rfl rfl S_39 ⟨by decide, B_39⟩ (gc_hA S_39 rfl A_39_1) ?_
        show gv_X _ _ (80, [(0, .inr (.inr (some 39))), (1, .inr (.inl v1_12)), (3, .inl v3_12), (4, .inl v4_12)], [.inr (.inr (some 23)), .inr (.inr (some 24)), .inl 1, .inl v3_12], sh, gc_h sh I10 J11 A)
        have f84 := (show 0 ≤ I10 23 5 ∧ I10 23 5 ≤ 1000 from gc_in hI10 R_23 rfl rfl)
        refine gv_get hD rfl rfl S_23 ⟨by decide, B_23⟩ (gc_hI S_23 rfl) ?_
        show gv_X _ _ (83, [(0, .inr (.inr (some 39))), (1, .inr (.inl v1_12)), (3, .inl v3_12), (4, .inl v4_12)], [.inl (I10 23 5), .inr (.inr (some 24)), .inl 1, .inl v3_12], sh, gc_h sh I10 J11 A)
        refine gv_run 2 true hD (pc' := 86) (lv' := [(0, .inr (.inr (some 39))), (1, .inr (.inl v1_12)), (3, .inl v3_12), (4, .inl v4_12)]) (st' := [.inl ((I10 23 5) + v4_12), .inr (.inr (some 24)), .inl 1, .inl v3_12]) (h' := gc_h sh I10 J11 A) (C := ((True ∧ True) ∧ True)) rfl ⟨⟨trivial, trivial⟩, trivial⟩ ?_
        have t85 := gc_TK_l3 KTK_I10 (by exact gz_m 75 (by omega))
        have t86 := gc_TK_nx KTK_I10 (by exact gz_m 76 (by omega))
        have f87 := (show (-128) ≤ I10 24 (Int.toNat (((I10 23 5) + v4_12))) ∧ I10 24 (Int.toNat (((I10 23 5) + v4_12))) ≤ 127 from gc_in hI10 R_24 rfl rfl)
        refine gv_bald hD rfl S_24 (Or.inl rfl) ⟨by decide, B_24⟩ ⟨by exact gz_m 77 (by omega), by exact gz_m 78 (by omega)⟩ (gc_iI S_24 rfl) ?_
        show gv_X _ _ (87, [(0, .inr (.inr (some 39))), (1, .inr (.inl v1_12)), (3, .inl v3_12), (4, .inl v4_12)], [.inl (I10 24 (Int.toNat (((I10 23 5) + v4_12)))), .inl 1, .inl v3_12], sh, gc_h sh I10 J11 A)
        have f88 := gw_any (Int32.ofInt 1 <<< (Int32.ofInt (((I10 24 (Int.toNat (((I10 23 5) + v4_12)))) - 97)) &&& 31))
        have f89 := gw_any ((Int32.ofInt v3_12 ||| Int32.ofInt (((Int32.ofInt 1 <<< (Int32.ofInt (((I10 24 (Int.toNat (((I10 23 5) + v4_12)))) - 97)) &&& 31)).toInt))))
        refine gv_run 7 true hD (pc' := 55) (lv' := [(4, .inl (v4_12 + 1)), (3, .inl ((Int32.ofInt v3_12 ||| Int32.ofInt (((Int32.ofInt 1 <<< (Int32.ofInt (((I10 24 (Int.toNat (((I10 23 5) + v4_12)))) - 97)) &&& 31)).toInt))).toInt)), (0, .inr (.inr (some 39))), (1, .inr (.inl v1_12))]) (st' := []) (h' := gc_h sh I10 J11 A) (C := (((((((True ∧ True) ∧ True) ∧ True) ∧ True) ∧ True) ∧ True) ∧ True)) rfl ⟨⟨⟨⟨⟨⟨⟨trivial, trivial⟩, trivial⟩, trivial⟩, trivial⟩, trivial⟩, trivial⟩, trivial⟩ ?_
        refine gv_pick [2, 3, 1, 0] rfl ?_
        exact ih55 I10 J11 v1_12 (((Int32.ofInt v3_12 ||| Int32.ofInt (((Int32.ofInt 1 <<< (Int32.ofInt (((I10 24 (Int.toNat (((I10 23 5) + v4_12)))) - 97)) &&& 31)).toInt))).toInt)) (v4_12 + 1) p_12 (by exact gz_m 79 (by omega)) hI10 FI10 FJ11 KLT_I10 KTK_I10 (by exact gz_m 80 (by omega)) e2_12 e3_12 e4_12 e5_12 (gs_ms_c e6_12 (by exact gz_m 81 (by omega)) (gc_at_b e2_12 (by exact gz_m 82 (by omega)) (by exact gz_m 83 (by omega)))) e7_12 ⟨(fun k => (e8_12.1 k)), ((e8_12.2.1)), ((e8_12.2.2.1)), ((e8_12.2.2.2.1)), (fun k => (e8_12.2.2.2.2 k))⟩
  refine gv_run 2 true hD (pc' := 2) (lv' := [(0, .inr (.inr (some 39)))]) (st' := [.inr (.inr (some 39)), .inr (.inr (some 39))]) (h' := gc_h sh I J A) (C := ((True ∧ True) ∧ True)) rfl ⟨⟨trivial, trivial⟩, trivial⟩ ?_
  refine gv_get hD rfl rfl S_39 ⟨by decide, B_39⟩ (gc_h5 (t := t) S_39 rfl (by exact gz_m 84 (by omega))) ?_
  show gv_X _ _ (5, [(0, .inr (.inr (some 39)))], [.inr (.inr (some t)), .inr (.inr (some 39))], sh, gc_h sh I J A)
  refine gv_get hD rfl rfl S_t ⟨by decide, B_t⟩ (gc_hA S_t rfl A_t_4) ?_
  show gv_X _ _ (8, [(0, .inr (.inr (some 39)))], [.inr (.inr (some (t + 7))), .inr (.inr (some 39))], sh, gc_h sh I J A)
  obtain ⟨r90, h90, E90, P90⟩ := d_X6_needNew_p (ws0 := ws0) (tb := tb) hws htb sh ro I J A hI  16 7 β η p9 (t + 7) hb h_t_7   x0 (by exact gz_m 85 (by omega)) 
  obtain ⟨I91, J92, rfl, hI91, g90, k90, ⟨z90, rfl, q90⟩⟩ := P90
  have FI91 := gc_frc (W := fun q j => (q = 39 ∧ j = 3) ∨ (q = 39 ∧ j = 4) ∨ (q = 23 ∧ j = 5) ∨ (q = 23 ∧ j = 6) ∨ (q = 23 ∧ j = 7) ∨ (q = 23 ∧ j = 8) ∨ q = (t + 9) ∨ (q = (t + 7) ∧ j = 1)) (V := fun q j => (q = 39 ∧ j = 3) ∨ (q = 39 ∧ j = 4)) FI (fun q j h => (h.elim (fun h => (Or.inl h)) (fun h => (Or.inr (Or.inl h))))) g90
  have t93 := (g90 23 1).resolve_left (fun h => h.elim (fun h => absurd h.2 (by decide)) (fun h => absurd h.2 (by decide)))
  have t94 := (g90 23 5).resolve_left (fun h => h.elim (fun h => absurd h.2 (by decide)) (fun h => absurd h.2 (by decide)))
  have t95 := (g90 23 6).resolve_left (fun h => h.elim (fun h => absurd h.2 (by decide)) (fun h => absurd h.2 (by decide)))
  have t96 := (g90 23 7).resolve_left (fun h => h.elim (fun h => absurd h.2 (by decide)) (fun h => absurd h.2 (by decide)))
  have t97 := (g90 (t + 7) 1).resolve_left (fun h => h.elim (fun h => absurd h.2 (by decide)) (fun h => absurd h.2 (by decide)))
  have t98 := (g90 39 5).resolve_left (fun h => h.elim (fun h => absurd h.2 (by decide)) (fun h => absurd h.2 (by decide)))
  have t99 := (g90 1 18).resolve_left (fun h => h.elim (fun h => absurd h.2 (by decide)) (fun h => absurd h.2 (by decide)))
  have t100 := (g90 39 2).resolve_left (fun h => h.elim (fun h => absurd h.2 (by decide)) (fun h => absurd h.2 (by decide)))
  obtain rfl : J = J92 := funext fun q => funext fun j => ((k90 q j).resolve_left id).symm
  have KLT_I91 := gc_LT_fr KLT_I ((g90 23 5).resolve_left (fun h => h.elim (fun h => absurd h.2 (by decide)) (fun h => absurd h.2 (by decide)))) ((g90 23 6).resolve_left (fun h => h.elim (fun h => absurd h.2 (by decide)) (fun h => absurd h.2 (by decide)))) ((g90 23 7).resolve_left (fun h => h.elim (fun h => absurd h.2 (by decide)) (fun h => absurd h.2 (by decide)))) (fun k => (g90 24 k).resolve_left (fun h => h.elim (fun h => absurd h.1 (by decide)) (fun h => absurd h.1 (by decide))))
  have KTK_I91 := gc_TK_fr KTK_I ((g90 23 1).resolve_left (fun h => h.elim (fun h => absurd h.2 (by decide)) (fun h => absurd h.2 (by decide)))) ((g90 23 5).resolve_left (fun h => h.elim (fun h => absurd h.2 (by decide)) (fun h => absurd h.2 (by decide)))) ((g90 23 6).resolve_left (fun h => h.elim (fun h => absurd h.2 (by decide)) (fun h => absurd h.2 (by decide)))) ((g90 23 7).resolve_left (fun h => h.elim (fun h => absurd h.2 (by decide)) (fun h => absurd h.2 (by decide))))
  have A101 := gc_AT_I x0 ((g90 23 1).resolve_left (fun h => h.elim (fun h => absurd h.2 (by decide)) (fun h => absurd h.2 (by decide)))) ((g90 23 5).resolve_left (fun h => h.elim (fun h => absurd h.2 (by decide)) (fun h => absurd h.2 (by decide)))) ((g90 23 6).resolve_left (fun h => h.elim (fun h => absurd h.2 (by decide)) (fun h => absurd h.2 (by decide)))) ((g90 23 7).resolve_left (fun h => h.elim (fun h => absurd h.2 (by decide)) (fun h => absurd h.2 (by decide)))) ((g90 23 8).resolve_left (fun h => h.elim (fun h => absurd h.2 (by decide)) (fun h => absurd h.2 (by decide)))) (fun k => (g90 24 k).resolve_left (fun h => h.elim (fun h => absurd h.1 (by decide)) (fun h => absurd h.1 (by decide))))
  have t102 := gc_AT_l A101
  refine gv_callV hD rfl (As := [.inr (.inr (some (t + 7)))]) (st := []) rfl B_39 S_39 rfl (gc_lV6 hws rfl) (Nat.le_of_ble_eq_true rfl) (gz_Ev_mono (d := 3) (by decide) E90) ?_
  show gv_X _ _ (11, [(0, .inr (.inr (some 39)))], [.inl z90], sh, gc_h sh I91 J A)
  refine gv_if_ne (t := 16) hD rfl rfl ⟨by exact gz_m 86 (by omega), by exact gz_m 87 (by omega)⟩ (fun c103 => ?_) (fun c103 => ?_)
  · show gv_X _ _ (16, [(0, .inr (.inr (some 39)))], [], sh, gc_h sh I91 J A)
    have u104 := gs_or1 q90.2.2.2 (by exact gz_m 88 (by omega))
    have L90 : gs_T β η p9 = 1 → gc_fd (J ((t + 7) + 1)) (gs_M β η p9) (Int.toNat (I (t + 7) 1)) = gs_lt Jr 22 (16 * Ir 0 6) (Ir 15 (Int.toNat (Ir 0 6))) (gs_rn β η p9) := (fun h => by exact gs_NA_lt x4 x3 h)
    have t105 := L90 (by exact gz_m 89 (by omega))
    have tM := gc_AT_m A101 (by exact gz_m 90 (by omega))
    refine gv_run 1 true hD (pc' := 17) (lv' := [(0, .inr (.inr (some 39)))]) (st' := [.inr (.inr (some 39))]) (h' := gc_h sh I91 J A) (C := (True ∧ True)) rfl ⟨trivial, trivial⟩ ?_
    refine gv_get hD rfl rfl S_39 ⟨by decide, B_39⟩ (gc_hA S_39 rfl A_39_1) ?_
    show gv_X _ _ (20, [(0, .inr (.inr (some 39)))], [.inr (.inr (some 23))], sh, gc_h sh I91 J A)
    refine gv_get hD rfl rfl S_23 ⟨by decide, B_23⟩ (gc_hJ S_23 rfl) ?_
    show gv_X _ _ (23, [(0, .inr (.inr (some 39)))], [.inr (.inl (J 23 9))], sh, gc_h sh I91 J A)
    refine gv_run 2 true hD (pc' := 25) (lv' := [(1, .inr (.inl (J 23 9))), (0, .inr (.inr (some 39)))]) (st' := [.inr (.inr (some 39))]) (h' := gc_h sh I91 J A) (C := ((True ∧ True) ∧ True)) rfl ⟨⟨trivial, trivial⟩, trivial⟩ ?_
    refine gv_get hD rfl rfl S_39 ⟨by decide, B_39⟩ (gc_hA S_39 rfl A_39_1) ?_
    show gv_X _ _ (28, [(1, .inr (.inl (J 23 9))), (0, .inr (.inr (some 39)))], [.inr (.inr (some 23))], sh, gc_h sh I91 J A)
    have t107 := gc_TK_nx KTK_I91 (by exact gz_m 91 (by omega))
    obtain ⟨r106, h106, E106, P106⟩ := d_X9_advance_p (ws0 := ws0) (tb := tb) hws htb sh ro I91 J A hI91 23 β η  (gc_b23 hb)    (by exact gz_m 92 (by omega)) A101.1.1 A101.1.2 
    obtain ⟨I108, J109, rfl, hI108, g106, k106, ⟨rfl, V106_0, V106_1, V106_2, V106_3, V106_4, q106⟩⟩ := P106
    have FI108 := gc_frc (W := fun q j => (q = 39 ∧ j = 3) ∨ (q = 39 ∧ j = 4) ∨ (q = 23 ∧ j = 5) ∨ (q = 23 ∧ j = 6) ∨ (q = 23 ∧ j = 7) ∨ (q = 23 ∧ j = 8) ∨ q = (t + 9) ∨ (q = (t + 7) ∧ j = 1)) (V := fun q j => (q = 23 ∧ j = 5) ∨ (q = 23 ∧ j = 6) ∨ (q = 23 ∧ j = 7) ∨ (q = 23 ∧ j = 8)) FI91 (fun q j h => (h.elim (fun h => (Or.inr (Or.inr (Or.inl h)))) (fun h => (h.elim (fun h => (Or.inr (Or.inr (Or.inr (Or.inl h))))) (fun h => (h.elim (fun h => (Or.inr (Or.inr (Or.inr (Or.inr (Or.inl h)))))) (fun h => (Or.inr (Or.inr (Or.inr (Or.inr (Or.inr (Or.inl h))))))))))))) g106
    have FJ109 := gc_frc (W := fun q j => (q = 23 ∧ j = 9) ∨ q = (t + 8)) (V := fun q j => (q = 23 ∧ j = 9)) FJ (fun q j h => (Or.inl h)) k106
    have t110 := (g106 23 1).resolve_left (fun h => h.elim (fun h => absurd h.2 (by decide)) (fun h => h.elim (fun h => absurd h.2 (by decide)) (fun h => h.elim (fun h => absurd h.2 (by decide)) (fun h => absurd h.2 (by decide)))))
    have t111 := (g106 (t + 7) 1).resolve_left (fun h => h.elim (fun h => absurd h.2 (by decide)) (fun h => h.elim (fun h => absurd h.2 (by decide)) (fun h => h.elim (fun h => absurd h.2 (by decide)) (fun h => absurd h.2 (by decide)))))
    have t112 := (g106 39 5).resolve_left (fun h => h.elim (fun h => absurd h.1 (by decide)) (fun h => h.elim (fun h => absurd h.2 (by decide)) (fun h => h.elim (fun h => absurd h.2 (by decide)) (fun h => absurd h.2 (by decide)))))
    have t113 := (g106 1 18).resolve_left (fun h => h.elim (fun h => absurd h.2 (by decide)) (fun h => h.elim (fun h => absurd h.2 (by decide)) (fun h => h.elim (fun h => absurd h.2 (by decide)) (fun h => absurd h.2 (by decide)))))
    have t114 := (g106 39 2).resolve_left (fun h => h.elim (fun h => absurd h.2 (by decide)) (fun h => h.elim (fun h => absurd h.2 (by decide)) (fun h => h.elim (fun h => absurd h.2 (by decide)) (fun h => absurd h.2 (by decide)))))
    have f115 := (show 0 ≤ I108 23 5 ∧ I108 23 5 ≤ 1000 from gc_in hI108 R_23 rfl rfl)
    have f116 := (show 0 ≤ I108 23 6 ∧ I108 23 6 ≤ 1001 from gc_in hI108 R_23 rfl rfl)
    have f117 := (show 0 ≤ I108 23 7 ∧ I108 23 7 ≤ 125 from gc_in hI108 R_23 rfl rfl)
    have KLT_I108 : gc_LT I108 := q106.2.2.1
    have KTK_I108 : gc_TK I108 := And.intro V106_0 (And.intro V106_1 (And.intro V106_2 (And.intro V106_3 V106_4)))
    have t118 := gc_TK_mo KTK_I108
    clear V106_0 V106_1 V106_2 V106_3 V106_4
    have A119 := gc_AT_nx A101 q106.2.2.2
    have t120 := gc_AT_l A119
    refine gv_callV hD rfl (As := []) (st := []) rfl B_23 S_23 rfl (gc_lV6 hws rfl) (Nat.le_of_ble_eq_true rfl) (gz_Ev_mono (d := 2) (by decide) E106) ?_
    show gv_X _ _ (31, [(1, .inr (.inl (J 23 9))), (0, .inr (.inr (some 39)))], [], sh, gc_h sh I108 J109 A)
    refine gv_run 2 true hD (pc' := 34) (lv' := [(1, .inr (.inl (J 23 9))), (0, .inr (.inr (some 39)))]) (st' := [.inl 61, .inr (.inr (some 39))]) (h' := gc_h sh I108 J109 A) (C := ((True ∧ True) ∧ True)) rfl ⟨⟨trivial, trivial⟩, trivial⟩ ?_
    obtain ⟨r121, h121, E121, P121⟩ := d_X6_take_p (ws0 := ws0) (tb := tb) hws htb sh ro I108 J109 A hI108  β η (gs_X β η p9) 61 hb   ⟨by exact gz_m 93 (by omega), by exact gz_m 94 (by omega)⟩ (by exact gz_m 95 (by omega)) A119 (by exact gz_m 96 (by omega)) KLT_I108 KTK_I108
    obtain ⟨I122, J123, rfl, hI122, g121, k121, KLT_I122, KTK_I122, ⟨z121, rfl, q121⟩⟩ := P121
    have FI122 := gc_frc (W := fun q j => (q = 39 ∧ j = 3) ∨ (q = 39 ∧ j = 4) ∨ (q = 23 ∧ j = 5) ∨ (q = 23 ∧ j = 6) ∨ (q = 23 ∧ j = 7) ∨ (q = 23 ∧ j = 8) ∨ q = (t + 9) ∨ (q = (t + 7) ∧ j = 1)) (V := fun q j => (q = 39 ∧ j = 3) ∨ (q = 39 ∧ j = 4) ∨ (q = 23 ∧ j = 5) ∨ (q = 23 ∧ j = 6) ∨ (q = 23 ∧ j = 7) ∨ (q = 23 ∧ j = 8)) FI108 (fun q j h => (h.elim (fun h => (Or.inl h)) (fun h => (h.elim (fun h => (Or.inr (Or.inl h))) (fun h => (h.elim (fun h => (Or.inr (Or.inr (Or.inl h)))) (fun h => (h.elim (fun h => (Or.inr (Or.inr (Or.inr (Or.inl h))))) (fun h => (h.elim (fun h => (Or.inr (Or.inr (Or.inr (Or.inr (Or.inl h)))))) (fun h => (Or.inr (Or.inr (Or.inr (Or.inr (Or.inr (Or.inl h))))))))))))))))) g121
    have FJ123 := gc_frc (W := fun q j => (q = 23 ∧ j = 9) ∨ q = (t + 8)) (V := fun q j => (q = 23 ∧ j = 9)) FJ109 (fun q j h => (Or.inl h)) k121
    have t124 := (g121 23 1).resolve_left (fun h => h.elim (fun h => absurd h.2 (by decide)) (fun h => h.elim (fun h => absurd h.2 (by decide)) (fun h => h.elim (fun h => absurd h.2 (by decide)) (fun h => h.elim (fun h => absurd h.2 (by decide)) (fun h => h.elim (fun h => absurd h.2 (by decide)) (fun h => absurd h.2 (by decide)))))))
    have t125 := (g121 (t + 7) 1).resolve_left (fun h => h.elim (fun h => absurd h.2 (by decide)) (fun h => h.elim (fun h => absurd h.2 (by decide)) (fun h => h.elim (fun h => absurd h.2 (by decide)) (fun h => h.elim (fun h => absurd h.2 (by decide)) (fun h => h.elim (fun h => absurd h.2 (by decide)) (fun h => absurd h.2 (by decide)))))))
    have t126 := (g121 39 5).resolve_left (fun h => h.elim (fun h => absurd h.2 (by decide)) (fun h => h.elim (fun h => absurd h.2 (by decide)) (fun h => h.elim (fun h => absurd h.1 (by decide)) (fun h => h.elim (fun h => absurd h.2 (by decide)) (fun h => h.elim (fun h => absurd h.2 (by decide)) (fun h => absurd h.2 (by decide)))))))
    have t127 := (g121 1 18).resolve_left (fun h => h.elim (fun h => absurd h.2 (by decide)) (fun h => h.elim (fun h => absurd h.2 (by decide)) (fun h => h.elim (fun h => absurd h.2 (by decide)) (fun h => h.elim (fun h => absurd h.2 (by decide)) (fun h => h.elim (fun h => absurd h.2 (by decide)) (fun h => absurd h.2 (by decide)))))))
    have t128 := (g121 39 2).resolve_left (fun h => h.elim (fun h => absurd h.2 (by decide)) (fun h => h.elim (fun h => absurd h.2 (by decide)) (fun h => h.elim (fun h => absurd h.2 (by decide)) (fun h => h.elim (fun h => absurd h.2 (by decide)) (fun h => h.elim (fun h => absurd h.2 (by decide)) (fun h => absurd h.2 (by decide)))))))
    have f129 := (show 0 ≤ I122 23 5 ∧ I122 23 5 ≤ 1000 from gc_in hI122 R_23 rfl rfl)
    have f130 := (show 0 ≤ I122 23 6 ∧ I122 23 6 ≤ 1001 from gc_in hI122 R_23 rfl rfl)
    have f131 := (show 0 ≤ I122 23 7 ∧ I122 23 7 ≤ 125 from gc_in hI122 R_23 rfl rfl)
    have t132 := gc_TK_mo KTK_I122
    refine gv_callV hD rfl (As := [.inl 61]) (st := []) rfl B_39 S_39 rfl (gc_lV6 hws rfl) (Nat.le_of_ble_eq_true rfl) (gz_Ev_mono (d := 3) (by decide) E121) ?_
    show gv_X _ _ (37, [(1, .inr (.inl (J 23 9))), (0, .inr (.inr (some 39)))], [.inl z121], sh, gc_h sh I122 J123 A)
    refine gv_if_eq (t := 48) hD rfl rfl ⟨by exact gz_m 97 (by omega), by exact gz_m 98 (by omega)⟩ (fun c133 => ?_) (fun c133 => ?_)
    · show gv_X _ _ (48, [(1, .inr (.inl (J 23 9))), (0, .inr (.inr (some 39)))], [], sh, gc_h sh I122 J123 A)
      obtain ⟨u134, u134_⟩ := gs_or0 q121.2.2.2.2.2 (by exact gz_m 99 (by omega))
      refine gv_run 1 true hD (pc' := 49) (lv' := [(1, .inr (.inl (J 23 9))), (0, .inr (.inr (some 39)))]) (st' := [.inl 0]) (h' := gc_h sh I122 J123 A) (C := (True ∧ True)) rfl ⟨trivial, trivial⟩ ?_
      exact gv_zret hD rfl (by exact gz_m 100 (by omega)) ⟨I122, J123, rfl, hI122, FI122, FJ123, KLT_I122, KTK_I122, ⟨_, rfl, by exact gz_m 101 (by omega), by exact gz_m 102 (by omega), by exact gz_m 103 (by omega), by exact gz_m 104 (by omega), (Or.inr ⟨by exact gz_m 105 (by omega), by first | (exfalso; exact gz_m 106 (by omega)) | (unfold gs_let gs_let0 gs_let1; (repeat first | rw [if_pos (by exact gz_m 107 (by omega))] | rw [if_neg (by exact gz_m 108 (by omega))]); exact ⟨by exact gz_m 109 (by omega), by exact gz_m 110 (by omega), ((((g121 (t + 7) 1).resolve_left (by exact gz_m 111 (by omega))).trans ((g106 (t + 7) 1).resolve_left (by exact gz_m 112 (by omega)))).trans ((g90 (t + 7) 1).resolve_left (by exact gz_m 113 (by omega)))), (fun j => (((k121 (t + 8) j).resolve_left (by exact gz_m 114 (by omega))).trans ((k106 (t + 8) j).resolve_left (by exact gz_m 115 (by omega))))), fun j => ((((g121 (t + 9) j).resolve_left (by exact gz_m 116 (by omega))).trans ((g106 (t + 9) j).resolve_left (by exact gz_m 117 (by omega)))).trans ((g90 (t + 9) j).resolve_left (by exact gz_m 118 (by omega))))⟩)⟩)⟩⟩
    · show gv_X _ _ (40, [(1, .inr (.inl (J 23 9))), (0, .inr (.inr (some 39)))], [], sh, gc_h sh I122 J123 A)
      obtain ⟨u135, A135⟩ := gs_or1 q121.2.2.2.2.2 (by exact gz_m 119 (by omega))
      have t136 := gc_AT_l A135
      refine gv_run 2 true hD (pc' := 42) (lv' := [(1, .inr (.inl (J 23 9))), (0, .inr (.inr (some 39)))]) (st' := [.inl 3, .inr (.inr (some 39))]) (h' := gc_h sh I122 J123 A) (C := ((True ∧ True) ∧ True)) rfl ⟨⟨trivial, trivial⟩, trivial⟩ ?_
      obtain ⟨r137, h137, E137, P137⟩ := d_X6_need_p (ws0 := ws0) (tb := tb) hws htb sh ro I122 J123 A hI122  β η ((gs_need β η 61 (gs_X β η p9))) 3 hb   ⟨by exact gz_m 120 (by omega), by exact gz_m 121 (by omega)⟩ A135 (by exact gz_m 122 (by omega)) 
      obtain ⟨I138, J139, rfl, hI138, g137, k137, ⟨z137, rfl, q137⟩⟩ := P137
      have FI138 := gc_frc (W := fun q j => (q = 39 ∧ j = 3) ∨ (q = 39 ∧ j = 4) ∨ (q = 23 ∧ j = 5) ∨ (q = 23 ∧ j = 6) ∨ (q = 23 ∧ j = 7) ∨ (q = 23 ∧ j = 8) ∨ q = (t + 9) ∨ (q = (t + 7) ∧ j = 1)) (V := fun q j => (q = 39 ∧ j = 3) ∨ (q = 39 ∧ j = 4)) FI122 (fun q j h => (h.elim (fun h => (Or.inl h)) (fun h => (Or.inr (Or.inl h))))) g137
      have t140 := (g137 23 1).resolve_left (fun h => h.elim (fun h => absurd h.2 (by decide)) (fun h => absurd h.2 (by decide)))
      have t141 := (g137 23 5).resolve_left (fun h => h.elim (fun h => absurd h.2 (by decide)) (fun h => absurd h.2 (by decide)))
      have t142 := (g137 23 6).resolve_left (fun h => h.elim (fun h => absurd h.2 (by decide)) (fun h => absurd h.2 (by decide)))
      have t143 := (g137 23 7).resolve_left (fun h => h.elim (fun h => absurd h.2 (by decide)) (fun h => absurd h.2 (by decide)))
      have t144 := (g137 (t + 7) 1).resolve_left (fun h => h.elim (fun h => absurd h.2 (by decide)) (fun h => absurd h.2 (by decide)))
      have t145 := (g137 39 5).resolve_left (fun h => h.elim (fun h => absurd h.2 (by decide)) (fun h => absurd h.2 (by decide)))
      have t146 := (g137 1 18).resolve_left (fun h => h.elim (fun h => absurd h.2 (by decide)) (fun h => absurd h.2 (by decide)))
      have t147 := (g137 39 2).resolve_left (fun h => h.elim (fun h => absurd h.2 (by decide)) (fun h => absurd h.2 (by decide)))
      obtain rfl : J123 = J139 := funext fun q => funext fun j => ((k137 q j).resolve_left id).symm
      have KLT_I138 := gc_LT_fr KLT_I122 ((g137 23 5).resolve_left (fun h => h.elim (fun h => absurd h.2 (by decide)) (fun h => absurd h.2 (by decide)))) ((g137 23 6).resolve_left (fun h => h.elim (fun h => absurd h.2 (by decide)) (fun h => absurd h.2 (by decide)))) ((g137 23 7).resolve_left (fun h => h.elim (fun h => absurd h.2 (by decide)) (fun h => absurd h.2 (by decide)))) (fun k => (g137 24 k).resolve_left (fun h => h.elim (fun h => absurd h.1 (by decide)) (fun h => absurd h.1 (by decide))))
      have KTK_I138 := gc_TK_fr KTK_I122 ((g137 23 1).resolve_left (fun h => h.elim (fun h => absurd h.2 (by decide)) (fun h => absurd h.2 (by decide)))) ((g137 23 5).resolve_left (fun h => h.elim (fun h => absurd h.2 (by decide)) (fun h => absurd h.2 (by decide)))) ((g137 23 6).resolve_left (fun h => h.elim (fun h => absurd h.2 (by decide)) (fun h => absurd h.2 (by decide)))) ((g137 23 7).resolve_left (fun h => h.elim (fun h => absurd h.2 (by decide)) (fun h => absurd h.2 (by decide))))
      have A148 := gc_AT_I A135 ((g137 23 1).resolve_left (fun h => h.elim (fun h => absurd h.2 (by decide)) (fun h => absurd h.2 (by decide)))) ((g137 23 5).resolve_left (fun h => h.elim (fun h => absurd h.2 (by decide)) (fun h => absurd h.2 (by decide)))) ((g137 23 6).resolve_left (fun h => h.elim (fun h => absurd h.2 (by decide)) (fun h => absurd h.2 (by decide)))) ((g137 23 7).resolve_left (fun h => h.elim (fun h => absurd h.2 (by decide)) (fun h => absurd h.2 (by decide)))) ((g137 23 8).resolve_left (fun h => h.elim (fun h => absurd h.2 (by decide)) (fun h => absurd h.2 (by decide)))) (fun k => (g137 24 k).resolve_left (fun h => h.elim (fun h => absurd h.1 (by decide)) (fun h => absurd h.1 (by decide))))
      have t149 := gc_AT_l A148
      refine gv_callV hD rfl (As := [.inl 3]) (st := []) rfl B_39 S_39 rfl (gc_lV6 hws rfl) (Nat.le_of_ble_eq_true rfl) (gz_Ev_mono (d := 2) (by decide) E137) ?_
      show gv_X _ _ (45, [(1, .inr (.inl (J 23 9))), (0, .inr (.inr (some 39)))], [.inl z137], sh, gc_h sh I138 J123 A)
      refine gv_if_ne (t := 50) hD rfl rfl ⟨by exact gz_m 123 (by omega), by exact gz_m 124 (by omega)⟩ (fun c150 => ?_) (fun c150 => ?_)
      · show gv_X _ _ (50, [(1, .inr (.inl (J 23 9))), (0, .inr (.inr (some 39)))], [], sh, gc_h sh I138 J123 A)
        have u151 := gs_or1 q137.2.2.2 (by exact gz_m 125 (by omega))
        have t152 := gc_TK_l3 KTK_I138 (by exact gz_m 126 (by omega))
        refine gv_run 4 true hD (pc' := 55) (lv' := [(4, .inl 1), (3, .inl 0), (1, .inr (.inl (J 23 9))), (0, .inr (.inr (some 39)))]) (st' := []) (h' := gc_h sh I138 J123 A) (C := ((((True ∧ True) ∧ True) ∧ True) ∧ True)) rfl ⟨⟨⟨⟨trivial, trivial⟩, trivial⟩, trivial⟩, trivial⟩ ?_
        refine gv_pick [3, 2, 1, 0] rfl ?_
        exact L55 _ I138 J123 (J 23 9) 0 1 ((gs_need β η 61 (gs_X β η p9))) (Nat.lt_succ_self _) hI138 FI138 FJ123 KLT_I138 KTK_I138 (by exact gz_m 127 (by omega)) A148 tM (by unfold gs_let gs_let0; (repeat first | rw [if_pos (by exact gz_m 128 (by omega))] | rw [if_neg (by exact gz_m 129 (by omega))])) (by exact gz_m 130 (by omega)) rfl (gs_need_x (by exact gz_m 131 (by omega)) (by exact gz_m 132 (by omega))) ⟨(fun k => (((k121 (t + 8) k).resolve_left (by exact gz_m 133 (by omega))).trans ((k106 (t + 8) k).resolve_left (by exact gz_m 134 (by omega))))), ((((((g137 (t + 7) 1).resolve_left (by exact gz_m 135 (by omega))).trans ((g121 (t + 7) 1).resolve_left (by exact gz_m 136 (by omega)))).trans ((g106 (t + 7) 1).resolve_left (by exact gz_m 137 (by omega)))).trans ((g90 (t + 7) 1).resolve_left (by exact gz_m 138 (by omega))))), ((((((g137 39 5).resolve_left (by exact gz_m 139 (by omega))).trans ((g121 39 5).resolve_left (by exact gz_m 140 (by omega)))).trans ((g106 39 5).resolve_left (by exact gz_m 141 (by omega)))).trans ((g90 39 5).resolve_left (by exact gz_m 142 (by omega))))), ((((((g137 1 18).resolve_left (by exact gz_m 143 (by omega))).trans ((g121 1 18).resolve_left (by exact gz_m 144 (by omega)))).trans ((g106 1 18).resolve_left (by exact gz_m 145 (by omega)))).trans ((g90 1 18).resolve_left (by exact gz_m 146 (by omega))))), (fun k => (((((g137 (t + 9) k).resolve_left (by exact gz_m 147 (by omega))).trans ((g121 (t + 9) k).resolve_left (by exact gz_m 148 (by omega)))).trans ((g106 (t + 9) k).resolve_left (by exact gz_m 149 (by omega)))).trans ((g90 (t + 9) k).resolve_left (by exact gz_m 150 (by omega)))))⟩
      · show gv_X _ _ (48, [(1, .inr (.inl (J 23 9))), (0, .inr (.inr (some 39)))], [], sh, gc_h sh I138 J123 A)
        have u153 := gs_or0 q137.2.2.2 (by exact gz_m 151 (by omega))
        refine gv_run 1 true hD (pc' := 49) (lv' := [(1, .inr (.inl (J 23 9))), (0, .inr (.inr (some 39)))]) (st' := [.inl 0]) (h' := gc_h sh I138 J123 A) (C := (True ∧ True)) rfl ⟨trivial, trivial⟩ ?_
        exact gv_zret hD rfl (by exact gz_m 152 (by omega)) ⟨I138, J123, rfl, hI138, FI138, FJ123, KLT_I138, KTK_I138, ⟨_, rfl, by exact gz_m 153 (by omega), by exact gz_m 154 (by omega), by exact gz_m 155 (by omega), by exact gz_m 156 (by omega), (Or.inr ⟨by exact gz_m 157 (by omega), by first | (exfalso; exact gz_m 158 (by omega)) | (unfold gs_let gs_let0 gs_let1; (repeat first | rw [if_pos (by exact gz_m 159 (by omega))] | rw [if_neg (by exact gz_m 160 (by omega))]); exact ⟨by exact gz_m 161 (by omega), by exact gz_m 162 (by omega), (((((g137 (t + 7) 1).resolve_left (by exact gz_m 163 (by omega))).trans ((g121 (t + 7) 1).resolve_left (by exact gz_m 164 (by omega)))).trans ((g106 (t + 7) 1).resolve_left (by exact gz_m 165 (by omega)))).trans ((g90 (t + 7) 1).resolve_left (by exact gz_m 166 (by omega)))), (fun j => (((k121 (t + 8) j).resolve_left (by exact gz_m 167 (by omega))).trans ((k106 (t + 8) j).resolve_left (by exact gz_m 168 (by omega))))), fun j => (((((g137 (t + 9) j).resolve_left (by exact gz_m 169 (by omega))).trans ((g121 (t + 9) j).resolve_left (by exact gz_m 170 (by omega)))).trans ((g106 (t + 9) j).resolve_left (by exact gz_m 171 (by omega)))).trans ((g90 (t + 9) j).resolve_left (by exact gz_m 172 (by omega))))⟩)⟩)⟩⟩
  · show gv_X _ _ (14, [(0, .inr (.inr (some 39)))], [], sh, gc_h sh I91 J A)
    have u154 := gs_or0 q90.2.2.2 (by exact gz_m 173 (by omega))
    have L90 : gs_T β η p9 = 1 → gc_fd (J ((t + 7) + 1)) (gs_M β η p9) (Int.toNat (I (t + 7) 1)) = gs_lt Jr 22 (16 * Ir 0 6) (Ir 15 (Int.toNat (Ir 0 6))) (gs_rn β η p9) := (fun h => by exact gs_NA_lt x4 x3 h)
    refine gv_run 1 true hD (pc' := 15) (lv' := [(0, .inr (.inr (some 39)))]) (st' := [.inl 0]) (h' := gc_h sh I91 J A) (C := (True ∧ True)) rfl ⟨trivial, trivial⟩ ?_
    exact gv_zret hD rfl (by exact gz_m 174 (by omega)) ⟨I91, J, rfl, hI91, FI91, FJ, KLT_I91, KTK_I91, ⟨_, rfl, by exact gz_m 175 (by omega), by exact gz_m 176 (by omega), by exact gz_m 177 (by omega), by exact gz_m 178 (by omega), (Or.inr ⟨by exact gz_m 179 (by omega), by first | (exfalso; exact gz_m 180 (by omega)) | (unfold gs_let gs_let0 gs_let1; by_cases c9 : gs_T β η p9 = 1; (have h9 := L90 c9; (repeat first | rw [if_pos (by exact gz_m 181 (by omega))] | rw [if_neg (by exact gz_m 182 (by omega))]); exact ⟨by exact gz_m 183 (by omega), by exact gz_m 184 (by omega), ((g90 (t + 7) 1).resolve_left (by exact gz_m 185 (by omega))), (fun j => rfl), fun j => ((g90 (t + 9) j).resolve_left (by exact gz_m 186 (by omega)))⟩); (repeat first | rw [if_pos (by exact gz_m 187 (by omega))] | rw [if_neg (by exact gz_m 188 (by omega))]); exact ⟨by exact gz_m 189 (by omega), by exact gz_m 190 (by omega), ((g90 (t + 7) 1).resolve_left (by exact gz_m 191 (by omega))), (fun j => rfl), fun j => ((g90 (t + 9) j).resolve_left (by exact gz_m 192 (by omega)))⟩)⟩)⟩⟩
