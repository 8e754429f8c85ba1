/-! HOW LONG A SAYING IS. -/
def gr_ln (I : gr_I) (x m : Nat) : Int := if 0 ≤ I 43 (6 * x + m) then (Int32.ofInt (I 43 (6 * x + m)) &&& Int32.ofInt 15).toInt else I 117 (Int.toNat (I 123 m))
def gr_zs (I : gr_I) (x : Nat) : Nat → Int
  | 0 => -1
  | m + 1 => gr_zs I x m + 1 + gr_ln I x m
theorem gr_ln_t {I : gr_I} {x m : Int} (hx : 0 ≤ x) (hm : 0 ≤ m) (h : 0 ≤ I 43 (Int.toNat (6 * x + m))) : gr_ln I (Int.toNat x) (Int.toNat m) = (Int32.ofInt (I 43 (Int.toNat (6 * x + m))) &&& Int32.ofInt 15).toInt := by
  unfold gr_ln
  rw [show 6 * Int.toNat x + Int.toNat m = Int.toNat (6 * x + m) from by omega, if_pos h]
theorem gr_ln_a {I : gr_I} {x m : Int} (hx : 0 ≤ x) (hm : 0 ≤ m) (h : ¬ 0 ≤ I 43 (Int.toNat (6 * x + m))) : gr_ln I (Int.toNat x) (Int.toNat m) = I 117 (Int.toNat (I 123 (Int.toNat m))) := by
  unfold gr_ln
  rw [show 6 * Int.toNat x + Int.toNat m = Int.toNat (6 * x + m) from by omega, if_neg h]
theorem gr_ln_0 {I : gr_I} (hI : gr_Inv I) (x m : Nat) : 0 ≤ gr_ln I x m := by
  unfold gr_ln
  split
  · exact (gw_and (y := 15) ⟨by omega, by omega⟩).1
  · exact (gr_b_117 hI (Int.toNat (I 123 m))).1
theorem gr_zs_1 {I : gr_I} {x : Nat} {m : Int} (h0 : 0 ≤ m) : gr_zs I x (Int.toNat (m + 1)) = gr_zs I x (Int.toNat m) + 1 + gr_ln I x (Int.toNat m) := by
  rw [show Int.toNat (m + 1) = Int.toNat m + 1 from by omega]
  rfl
set_option maxHeartbeats 8000000 in
theorem gr_zs_m {I : gr_I} (hI : gr_Inv I) {x k : Nat} : ∀ m : Nat, k ≤ m → gr_zs I x k + ((m : Int) - (k : Int)) ≤ gr_zs I x m
  | 0, h => by
    have e : k = 0 := by exact gz_m 0 (by omega)
    rw [e]
    exact gz_m 1 (by omega)
  | m + 1, h => by
    by_cases e : k = m + 1
    · rw [e]
      exact gz_m 2 (by omega)
    · have h9 := gr_zs_m hI (x := x) (k := k) m (by exact gz_m 3 (by omega))
      have h8 := gr_ln_0 hI x m
      show gr_zs I x k + _ ≤ gr_zs I x m + 1 + gr_ln I x m
      exact gz_m 4 (by omega)
theorem gr_zs_b {I : gr_I} (hI : gr_Inv I) {x : Nat} {m n : Int} (h0 : 0 ≤ m) (hn : m < n) : gr_zs I x (Int.toNat (m + 1)) ≤ gr_zs I x (Int.toNat n) ∧ -1 ≤ gr_zs I x (Int.toNat m) ∧ 0 ≤ gr_ln I x (Int.toNat m) := by
  have h1 := gr_zs_m hI (x := x) (k := Int.toNat (m + 1)) (Int.toNat n) (by exact gz_m 0 (by omega))
  have h2 := gr_zs_m hI (x := x) (k := 0) (Int.toNat m) (by exact gz_m 1 (by omega))
  have h3 : gr_zs I x 0 = -1 := rfl
  exact ⟨by exact gz_m 2 (by omega), by exact gz_m 3 (by omega), gr_ln_0 hI x _⟩
/-- what is picked is no way of node k itself -/
def gr_PKo (k x it : Int) (I : gr_I) : Prop := ∀ j : Nat, (j : Int) < it → I 43 (6 * Int.toNat x + j) < 0 → I 123 j < 24 * k ∨ 24 * k + 24 ≤ I 123 j
def gr_OKs (k : Int) (I I' : gr_I) : Prop := ∀ s : Nat, ((s : Int) < 24 * k ∨ 24 * k + 24 ≤ (s : Int)) → I' 117 s = I 117 s
theorem gr_OKs_rf (k : Int) (I : gr_I) : gr_OKs k I I := fun _ _ => rfl
theorem gr_OKs_tr {k : Int} {I I1 I2 : gr_I} (h : gr_OKs k I I1) (g : gr_OKs k I1 I2) : gr_OKs k I I2 := fun s hs => (g s hs).trans (h s hs)
set_option maxHeartbeats 8000000 in
theorem gr_PKo_at {k x it m : Int} {I I' : gr_I} (h : gr_PKo k x it I) (hx : 0 ≤ x) (h0 : 0 ≤ m) (hm : m < it) (hn : ¬ 0 ≤ I 43 (Int.toNat (6 * x + m))) (ho : gr_OKs k I I') (h1 : 0 ≤ I 123 (Int.toNat m)) : I' 117 (Int.toNat (I 123 (Int.toNat m))) = I 117 (Int.toNat (I 123 (Int.toNat m))) := by
  rw [show Int.toNat (6 * x + m) = 6 * Int.toNat x + Int.toNat m from by exact gz_m 0 (by omega)] at hn
  have h9 := h (Int.toNat m) (by exact gz_m 1 (by omega)) (by exact gz_m 2 (by omega))
  exact ho _ (by exact gz_m 3 (by omega))
theorem gr_SD_F {x : Int} {I I' : gr_I} {fs as : List Nat} (h : gr_SD x I) (F : gr_fr fs as I I') (hr : (!(as.elem 46) && !(as.elem 47) && !(as.elem 45)) = true := by rfl) : gr_SD x I' := by
  simp only [Bool.and_eq_true, Bool.not_eq_true'] at hr
  obtain ⟨⟨a1, a2⟩, a3⟩ := hr
  intro k h1 h2
  rw [F 46 _ a1, F 47 _ a2]
  rw [F 45 _ a3] at h2
  exact h k h1 h2
set_option maxHeartbeats 8000000 in
set_option maxRecDepth 100000 in
theorem r_ready {ws0 : List Cond} {tb : String → gz_T} (hws : ∀ w ∈ gr_ws, w ∈ ws0) (htb : tb RX13 = gr_T) (ext : gz_Sh) (I : gr_I) (J : gr_J) (hI : gr_Inv I) (a1 : Int) (a2 : Int) (a3 : Int) (a4 : Int) (ha1 : 0 ≤ a1 ∧ a1 ≤ 59) (ha2 : 0 ≤ a2 ∧ a2 ≤ 3071) (ha3 : (-2147483648) ≤ a3 ∧ a3 ≤ 2147483647) (ha4 : 0 ≤ a4 ∧ a4 ≤ 200) (x0 : gr_SD a2 I) (x1 : gr_OX I) (x2 : a4 = gr_zs I (Int.toNat a2) (Int.toNat (I 42 (Int.toNat a2)))) (x3 : gr_PKo a1 a2 (I 42 (Int.toNat a2)) I) (x4 : I 42 (Int.toNat a2) ≤ 6) : ∃ r h', gz_Ev ws0 tb 2 (yX13_ready, cX13_ready, 12, none) [.inr (.inr (some 0)), .inl a1, .inl a2, .inl a3, .inl a4] (gr_sh ++ ext) (gr_h I J) r (gr_sh ++ ext) h' 0 0 ∧ (∃ (I' : gr_I) (J' : gr_J), h' = gr_h I' J' ∧ gr_Inv I' ∧ gr_fr [] [101, 116, 117, 118, 119, 120, 121] I I' ∧ gr_fj [] [101, 116, 117, 118, 119, 120, 121] J J' ∧ r = none ∧ (gr_OX I') ∧ (gr_OKs a1 I I')) := by
  have FI : gr_fr [] [101, 116, 117, 118, 119, 120, 121] I I := fun _ _ _ => rfl
  have FJ : gr_fj [] [101, 116, 117, 118, 119, 120, 121] J J := fun _ _ _ => rfl
  have hD : gv_D (gr_E ws0 tb 1 (yX13_ready, cX13_ready, 12, none) kX13_ready) := gq_of oX13_ready
  refine gr_ev (d := 1) (l := kX13_ready) (Po := fun r h' => (∃ (I' : gr_I) (J' : gr_J), h' = gr_h I' J' ∧ gr_Inv I' ∧ gr_fr [] [101, 116, 117, 118, 119, 120, 121] I I' ∧ gr_fj [] [101, 116, 117, 118, 119, 120, 121] J J' ∧ r = none ∧ (gr_OX I') ∧ (gr_OKs a1 I I'))) htb rfl (Nat.le_of_ble_eq_true rfl) ?_
  have L3 : ∀ (n : Nat) (I1 : gr_I) (J2 : gr_J) (v5_3 : Int), (5 - v5_3).toNat < n → gr_Inv I1 → gr_fr [] [101, 116, 117, 118, 119, 120, 121] I I1 → gr_fj [] [101, 116, 117, 118, 119, 120, 121] J J2 → ((0 ≤ a1 ∧ a1 ≤ 59) ∧ (0 ≤ a2 ∧ a2 ≤ 3071) ∧ ((-2147483648) ≤ a3 ∧ a3 ≤ 2147483647) ∧ (0 ≤ a4 ∧ a4 ≤ 200) ∧ (0 ≤ v5_3 ∧ v5_3 ≤ 4)) → (gr_OX I1) → (gr_OKs a1 I I1) → gv_X (gr_E ws0 tb 1 (yX13_ready, cX13_ready, 12, none) kX13_ready) (gv_Q cX13_ready none (gr_sh ++ ext) (fun r h' => (∃ (I' : gr_I) (J' : gr_J), h' = gr_h I' J' ∧ gr_Inv I' ∧ gr_fr [] [101, 116, 117, 118, 119, 120, 121] I I' ∧ gr_fj [] [101, 116, 117, 118, 119, 120, 121] J J' ∧ r = none ∧ (gr_OX I') ∧ (gr_OKs a1 I I')))) (3, [(0, .inr (.inr (some 0))), (1, .inl a1), (2, .inl a2), (3, .inl a3), (4, .inl a4), (5, .inl v5_3)], [], gr_sh ++ ext, gr_h I1 J2) := by
    intro n
    induction n with
    | zero => intro I1 J2 v5_3 hn; exact gz_m 0 (by omega)
    | succ n ih3 =>
      intro I1 J2 v5_3 hn hI1 FI1 FJ2 m_3 e0_3 e1_3
      obtain ⟨ha1_3, ha2_3, ha3_3, ha4_3, hv5_3⟩ := m_3
      have L78 : ∀ (n : Nat) (I4 : gr_I) (J5 : gr_J) (v6_6 : Int) (v7_6 : Int) (v8_6 : Int), (7 - v8_6).toNat < n → gr_Inv I4 → gr_fr [] [101, 116, 117, 118, 119, 120, 121] I I4 → gr_fj [] [101, 116, 117, 118, 119, 120, 121] J J5 → ((0 ≤ a2 ∧ a2 ≤ 3071) ∧ (0 ≤ v6_6 ∧ v6_6 ≤ 1439) ∧ (0 ≤ v7_6 ∧ v7_6 ≤ 288000) ∧ (0 ≤ v8_6 ∧ v8_6 ≤ 6) ∧ (24 * a1 ≤ v6_6 ∧ v6_6 < 24 * a1 + 24) ∧ (v7_6 = 200 * v6_6 + (if v8_6 = 0 then 0 else gr_zs I (Int.toNat a2) (Int.toNat v8_6)))) → (gr_OX I4) → (gr_OKs a1 I I4) → gv_X (gr_E ws0 tb 1 (yX13_ready, cX13_ready, 12, none) kX13_ready) (gv_Q cX13_ready none (gr_sh ++ ext) (fun r h' => (∃ (I' : gr_I) (J' : gr_J), h' = gr_h I' J' ∧ gr_Inv I' ∧ gr_fr [] [101, 116, 117, 118, 119, 120, 121] I I' ∧ gr_fj [] [101, 116, 117, 118, 119, 120, 121] J J' ∧ r = none ∧ (gr_OX I') ∧ (gr_OKs a1 I I')))) (78, [(0, .inr (.inr (some 0))), (2, .inl a2), (6, .inl v6_6), (7, .inl v7_6), (8, .inl v8_6)], [], gr_sh ++ ext, gr_h I4 J5) := by
        intro n
        induction n with
        | zero => intro I4 J5 v6_6 v7_6 v8_6 hn; exact gz_m 1 (by omega)
        | succ n ih78 =>
          intro I4 J5 v6_6 v7_6 v8_6 hn hI4 FI4 FJ5 m_6 e0_6 e1_6
          clear ha1_3 ha2_3 ha3_3 ha4_3 hv5_3
          obtain ⟨ha2_6, hv6_6, hv7_6, hv8_6, e2_6, e3_6⟩ := m_6
          have L106 : ∀ (I7 : gr_I) (J8 : gr_J) (v7_9 : Int), gr_Inv I7 → gr_fr [] [101, 116, 117, 118, 119, 120, 121] I I7 → gr_fj [] [101, 116, 117, 118, 119, 120, 121] J J8 → ((0 ≤ a2 ∧ a2 ≤ 3071) ∧ (0 ≤ v6_6 ∧ v6_6 ≤ 1439) ∧ (0 ≤ v7_9 ∧ v7_9 ≤ 288000) ∧ (0 ≤ v8_6 ∧ v8_6 ≤ 5) ∧ (24 * a1 ≤ v6_6 ∧ v6_6 < 24 * a1 + 24) ∧ (v7_9 = 200 * v6_6 + gr_zs I (Int.toNat a2) (Int.toNat v8_6) + 1) ∧ (0 ≤ v8_6) ∧ (v8_6 < I 42 (Int.toNat a2))) → (gr_OX I7) → (gr_OKs a1 I I7) → gv_X (gr_E ws0 tb 1 (yX13_ready, cX13_ready, 12, none) kX13_ready) (gv_Q cX13_ready none (gr_sh ++ ext) (fun r h' => (∃ (I' : gr_I) (J' : gr_J), h' = gr_h I' J' ∧ gr_Inv I' ∧ gr_fr [] [101, 116, 117, 118, 119, 120, 121] I I' ∧ gr_fj [] [101, 116, 117, 118, 119, 120, 121] J J' ∧ r = none ∧ (gr_OX I') ∧ (gr_OKs a1 I I')))) (106, [(0, .inr (.inr (some 0))), (2, .inl a2), (6, .inl v6_6), (7, .inl v7_9), (8, .inl v8_6)], [], gr_sh ++ ext, gr_h I7 J8) := by
            intro I7 J8 v7_9 hI7 FI7 FJ8 m_9 e0_9 e1_9
            clear ha2_6 hv6_6 hv7_6 hv8_6 e2_6 e3_6
            obtain ⟨ha2_9, hv6_6_9, hv7_9, hv8_6_9, e2_9, e3_9, e4_9, e5_9⟩ := m_9
            have L223 : ∀ (I10 : gr_I) (J11 : gr_J) (v7_12 : Int), gr_Inv I10 → gr_fr [] [101, 116, 117, 118, 119, 120, 121] I I10 → gr_fj [] [101, 116, 117, 118, 119, 120, 121] J J11 → ((0 ≤ a2 ∧ a2 ≤ 3071) ∧ (0 ≤ v6_6 ∧ v6_6 ≤ 1439) ∧ (0 ≤ v7_12 ∧ v7_12 ≤ 288000) ∧ (0 ≤ v8_6 ∧ v8_6 ≤ 5) ∧ (24 * a1 ≤ v6_6 ∧ v6_6 < 24 * a1 + 24) ∧ (v7_12 = 200 * v6_6 + gr_zs I (Int.toNat a2) (Int.toNat (v8_6 + 1))) ∧ (0 ≤ v8_6) ∧ (v8_6 < I 42 (Int.toNat a2))) → (gr_OX I10) → (gr_OKs a1 I I10) → gv_X (gr_E ws0 tb 1 (yX13_ready, cX13_ready, 12, none) kX13_ready) (gv_Q cX13_ready none (gr_sh ++ ext) (fun r h' => (∃ (I' : gr_I) (J' : gr_J), h' = gr_h I' J' ∧ gr_Inv I' ∧ gr_fr [] [101, 116, 117, 118, 119, 120, 121] I I' ∧ gr_fj [] [101, 116, 117, 118, 119, 120, 121] J J' ∧ r = none ∧ (gr_OX I') ∧ (gr_OKs a1 I I')))) (223, [(0, .inr (.inr (some 0))), (2, .inl a2), (6, .inl v6_6), (7, .inl v7_12), (8, .inl v8_6)], [], gr_sh ++ ext, gr_h I10 J11) := by
              intro I10 J11 v7_12 hI10 FI10 FJ11 m_12 e0_12 e1_12
              clear ha2_9 hv6_6_9 hv7_9 hv8_6_9 e2_9 e3_9 e4_9 e5_9
              obtain ⟨ha2_12, hv6_6_12, hv7_12, hv8_6_12, e2_12, e3_12, e4_12, e5_12⟩ := m_12
              refine gv_run 2 true hD (pc' := 78) (lv' := [(8, .inl (v8_6 + 1)), (0, .inr (.inr (some 0))), (2, .inl a2), (6, .inl v6_6), (7, .inl v7_12)]) (st' := []) (h' := gr_h I10 J11) (C := ((True ∧ True) ∧ True)) rfl ⟨⟨trivial, trivial⟩, trivial⟩ ?_
              refine gv_pick [1, 2, 3, 4, 0] rfl ?_
              exact ih78 I10 J11 v6_6 v7_12 (v8_6 + 1) (by exact gz_m 2 (by omega)) hI10 FI10 FJ11 (by exact gz_m 3 (by omega)) e0_12 e1_12
            have L128 : ∀ (n : Nat) (I13 : gr_I) (J14 : gr_J) (v7_15 : Int) (v9_15 : Int) (v10_15 : Int), (288001 - v7_15).toNat < n → gr_Inv I13 → gr_fr [] [101, 116, 117, 118, 119, 120, 121] I I13 → gr_fj [] [101, 116, 117, 118, 119, 120, 121] J J14 → ((0 ≤ a2 ∧ a2 ≤ 3071) ∧ (0 ≤ v6_6 ∧ v6_6 ≤ 1439) ∧ (0 ≤ v7_15 ∧ v7_15 ≤ 288000) ∧ (0 ≤ v8_6 ∧ v8_6 ≤ 5) ∧ (0 ≤ v9_15 ∧ v9_15 ≤ 32015) ∧ (0 ≤ v10_15 ∧ v10_15 ≤ 15) ∧ (24 * a1 ≤ v6_6 ∧ v6_6 < 24 * a1 + 24) ∧ (v7_15 = 200 * v6_6 + gr_zs I (Int.toNat a2) (Int.toNat v8_6) + 1 + v10_15) ∧ (0 ≤ I 43 (Int.toNat (6 * a2 + v8_6))) ∧ (v9_15 = I 43 (Int.toNat (6 * a2 + v8_6))) ∧ (v10_15 ≤ gr_ln I (Int.toNat a2) (Int.toNat v8_6)) ∧ (0 ≤ v8_6) ∧ (v8_6 < I 42 (Int.toNat a2))) → (gr_OX I13) → (gr_OKs a1 I I13) → gv_X (gr_E ws0 tb 1 (yX13_ready, cX13_ready, 12, none) kX13_ready) (gv_Q cX13_ready none (gr_sh ++ ext) (fun r h' => (∃ (I' : gr_I) (J' : gr_J), h' = gr_h I' J' ∧ gr_Inv I' ∧ gr_fr [] [101, 116, 117, 118, 119, 120, 121] I I' ∧ gr_fj [] [101, 116, 117, 118, 119, 120, 121] J J' ∧ r = none ∧ (gr_OX I') ∧ (gr_OKs a1 I I')))) (128, [(0, .inr (.inr (some 0))), (2, .inl a2), (6, .inl v6_6), (7, .inl v7_15), (8, .inl v8_6), (9, .inl v9_15), (10, .inl v10_15)], [], gr_sh ++ ext, gr_h I13 J14) := by
              intro n
              induction n with
              | zero => intro I13 J14 v7_15 v9_15 v10_15 hn; exact gz_m 4 (by omega)
              | succ n ih128 =>
                intro I13 J14 v7_15 v9_15 v10_15 hn hI13 FI13 FJ14 m_15 e0_15 e1_15
                clear ha2_9 hv6_6_9 hv7_9 hv8_6_9 e2_9 e3_9 e4_9 e5_9
                obtain ⟨ha2_15, hv6_6_15, hv7_15, hv8_6_15, hv9_15, hv10_15, e2_15, e3_15, e4_15, e5_15, e6_15, e7_15, e8_15⟩ := m_15
                have t16 := gr_zs_1 (I := I) (x := (Int.toNat a2)) (m := v8_6) (by exact gz_m 5 (by omega))
                have t17 := gr_zs_b hI (x := (Int.toNat a2)) (m := v8_6) (n := I 42 (Int.toNat a2)) (by exact gz_m 6 (by omega)) (by exact gz_m 7 (by omega))
                have t18 := gr_ln_t (I := I) (x := a2) (m := v8_6) (by exact gz_m 8 (by omega)) (by exact gz_m 9 (by omega)) (by exact gz_m 10 (by omega))
                have t19 := (show (Int32.ofInt v9_15 &&& Int32.ofInt 15).toInt = (Int32.ofInt (I 43 (Int.toNat (6 * a2 + v8_6))) &&& Int32.ofInt 15).toInt from by rw [show v9_15 = I 43 (Int.toNat (6 * a2 + v8_6)) from by exact gz_m 11 (by omega)])
                have f20 := gw_and (x := v9_15) (y := 15) ⟨by exact gz_m 12 (by omega), by exact gz_m 13 (by omega)⟩
                refine gv_run 4 true hD (pc' := 135) (lv' := [(0, .inr (.inr (some 0))), (2, .inl a2), (6, .inl v6_6), (7, .inl v7_15), (8, .inl v8_6), (9, .inl v9_15), (10, .inl v10_15)]) (st' := [.inl ((Int32.ofInt v9_15 &&& Int32.ofInt 15).toInt), .inl v10_15]) (h' := gr_h I13 J14) (C := ((((True ∧ True) ∧ True) ∧ True) ∧ True)) rfl ⟨⟨⟨⟨trivial, trivial⟩, trivial⟩, trivial⟩, trivial⟩ ?_
                refine gv_icmp_ge (t := 166) hD rfl rfl ⟨⟨by exact gz_m 14 (by omega), by exact gz_m 15 (by omega)⟩, ⟨by exact gz_m 16 (by omega), by exact gz_m 17 (by omega)⟩⟩ (fun c21 => ?_) (fun c21 => ?_)
                · refine gv_run 1 true hD (pc' := 223) (lv' := [(0, .inr (.inr (some 0))), (2, .inl a2), (6, .inl v6_6), (7, .inl v7_15), (8, .inl v8_6), (9, .inl v9_15), (10, .inl v10_15)]) (st' := []) (h' := gr_h I13 J14) (C := (True ∧ True)) rfl ⟨trivial, trivial⟩ ?_
                  refine gv_pick [0, 1, 2, 3, 4] rfl ?_
                  exact L223 I13 J14 v7_15 hI13 FI13 FJ14 (by exact gz_m 18 (by omega)) e0_15 e1_15
                · refine gv_run 7 true hD (pc' := 153) (lv' := [(7, .inl (v7_15 + 1)), (0, .inr (.inr (some 0))), (2, .inl a2), (6, .inl v6_6), (8, .inl v8_6), (9, .inl v9_15), (10, .inl v10_15)]) (st' := [.inl v9_15, .inr (.inr (some 51)), .inl v7_15, .inr (.inr (some 116))]) (h' := gr_h I13 J14) (C := (((((((True ∧ True) ∧ True) ∧ True) ∧ True) ∧ True) ∧ True) ∧ True)) rfl ⟨⟨⟨⟨⟨⟨⟨trivial, trivial⟩, trivial⟩, trivial⟩, trivial⟩, trivial⟩, trivial⟩, trivial⟩ ?_
                  have f22 := gw_shr (x := v9_15) (y := 4) ⟨by exact gz_m 19 (by omega), by exact gz_m 20 (by omega)⟩
                  have f23 := (gr_b_51 hI13 (Int.toNat ((((Int32.ofInt v9_15 >>> (Int32.ofInt 4 &&& 31)).toInt) + v10_15))))
                  refine gv_run 5 true hD (pc' := 159) (lv' := [(7, .inl (v7_15 + 1)), (0, .inr (.inr (some 0))), (2, .inl a2), (6, .inl v6_6), (8, .inl v8_6), (9, .inl v9_15), (10, .inl v10_15)]) (st' := [.inl (I13 51 (Int.toNat ((((Int32.ofInt v9_15 >>> (Int32.ofInt 4 &&& 31)).toInt) + v10_15)))), .inl v7_15, .inr (.inr (some 116))]) (h' := gr_h I13 J14) (C := (((((True ∧ True) ∧ True) ∧ True) ∧ True) ∧ (0 ≤ ((((Int32.ofInt v9_15 >>> (Int32.ofInt 4 &&& 31)).toInt) + v10_15)) ∧ ((((Int32.ofInt v9_15 >>> (Int32.ofInt 4 &&& 31)).toInt) + v10_15)) < ((82000 : Nat) : Int)))) rfl ⟨⟨⟨⟨⟨trivial, trivial⟩, trivial⟩, trivial⟩, trivial⟩, ⟨by exact gz_m 21 (by omega), by exact gz_m 22 (by omega)⟩⟩ ?_
                  rw [FI13 51 (Int.toNat ((((Int32.ofInt v9_15 >>> (Int32.ofInt 4 &&& 31)).toInt) + v10_15))) rfl]
                  have f24 := (gr_b_51 hI (Int.toNat ((((Int32.ofInt v9_15 >>> (Int32.ofInt 4 &&& 31)).toInt) + v10_15))))
                  have f25 := gw_nar_byte (x := ((I 51 (Int.toNat ((((Int32.ofInt v9_15 >>> (Int32.ofInt 4 &&& 31)).toInt) + v10_15))))))
                  refine gv_run 1 true hD (pc' := 160) (lv' := [(7, .inl (v7_15 + 1)), (0, .inr (.inr (some 0))), (2, .inl a2), (6, .inl v6_6), (8, .inl v8_6), (9, .inl v9_15), (10, .inl v10_15)]) (st' := []) (h' := gz_up (gr_h I13 J14) 116 (Int.toNat v7_15) (.inl (((vp_nar .byte (Int32.ofInt ((I 51 (Int.toNat ((((Int32.ofInt v9_15 >>> (Int32.ofInt 4 &&& 31)).toInt) + v10_15))))))).toInt)))) (C := (True ∧ (0 ≤ v7_15 ∧ v7_15 < ((288000 : Nat) : Int)))) rfl ⟨trivial, ⟨by exact gz_m 23 (by omega), by exact gz_m 24 (by omega)⟩⟩ ?_
                  refine gr_st hI13 FI13 rfl rfl ⟨⟨by show (-128) ≤ _; exact gz_m 25 (by omega), by show _ ≤ 127; exact gz_m 26 (by omega)⟩, trivial⟩ (fun I26 hI26 FI26 q27 p27 => ?_)
                  refine gv_run 2 true hD (pc' := 128) (lv' := [(10, .inl (v10_15 + 1)), (7, .inl (v7_15 + 1)), (0, .inr (.inr (some 0))), (2, .inl a2), (6, .inl v6_6), (8, .inl v8_6), (9, .inl v9_15)]) (st' := []) (h' := gr_h I26 J14) (C := ((True ∧ True) ∧ True)) rfl ⟨⟨trivial, trivial⟩, trivial⟩ ?_
                  refine gv_pick [2, 3, 4, 1, 5, 6, 0] rfl ?_
                  exact ih128 I26 J14 (v7_15 + 1) v9_15 (v10_15 + 1) (by exact gz_m 27 (by omega)) hI26 FI26 FJ14 (by exact gz_m 28 (by omega)) (gr_OX_fr e0_15 (fun j => p27 121 j (fun q => absurd q.1 (by decide))) (fun j => p27 120 j (fun q => absurd q.1 (by decide)))) (gr_OKs_tr e1_15 (fun s _ => p27 117 s (fun q => absurd q.1 (by decide))))
            have L181 : ∀ (n : Nat) (I28 : gr_I) (J29 : gr_J) (v7_30 : Int) (v10_30 : Int) (v11_30 : Int), (288001 - v7_30).toNat < n → gr_Inv I28 → gr_fr [] [101, 116, 117, 118, 119, 120, 121] I I28 → gr_fj [] [101, 116, 117, 118, 119, 120, 121] J J29 → ((0 ≤ a2 ∧ a2 ≤ 3071) ∧ (0 ≤ v6_6 ∧ v6_6 ≤ 1439) ∧ (0 ≤ v7_30 ∧ v7_30 ≤ 288000) ∧ (0 ≤ v8_6 ∧ v8_6 ≤ 5) ∧ (0 ≤ v10_30 ∧ v10_30 ≤ 1439) ∧ (0 ≤ v11_30 ∧ v11_30 ≤ 200) ∧ (24 * a1 ≤ v6_6 ∧ v6_6 < 24 * a1 + 24) ∧ (v7_30 = 200 * v6_6 + gr_zs I (Int.toNat a2) (Int.toNat v8_6) + 1 + v11_30) ∧ (I 43 (Int.toNat (6 * a2 + v8_6)) < 0) ∧ (v10_30 = I 123 (Int.toNat v8_6)) ∧ (v11_30 ≤ gr_ln I (Int.toNat a2) (Int.toNat v8_6)) ∧ (0 ≤ v8_6) ∧ (v8_6 < I 42 (Int.toNat a2))) → (gr_OX I28) → (gr_OKs a1 I I28) → gv_X (gr_E ws0 tb 1 (yX13_ready, cX13_ready, 12, none) kX13_ready) (gv_Q cX13_ready none (gr_sh ++ ext) (fun r h' => (∃ (I' : gr_I) (J' : gr_J), h' = gr_h I' J' ∧ gr_Inv I' ∧ gr_fr [] [101, 116, 117, 118, 119, 120, 121] I I' ∧ gr_fj [] [101, 116, 117, 118, 119, 120, 121] J J' ∧ r = none ∧ (gr_OX I') ∧ (gr_OKs a1 I I')))) (181, [(0, .inr (.inr (some 0))), (2, .inl a2), (6, .inl v6_6), (7, .inl v7_30), (8, .inl v8_6), (10, .inl v10_30), (11, .inl v11_30)], [], gr_sh ++ ext, gr_h I28 J29) := by
              intro n
              induction n with
              | zero => intro I28 J29 v7_30 v10_30 v11_30 hn; exact gz_m 29 (by omega)
              | succ n ih181 =>
                intro I28 J29 v7_30 v10_30 v11_30 hn hI28 FI28 FJ29 m_30 e0_30 e1_30
                clear ha2_9 hv6_6_9 hv7_9 hv8_6_9 e2_9 e3_9 e4_9 e5_9
                obtain ⟨ha2_30, hv6_6_30, hv7_30, hv8_6_30, hv10_30, hv11_30, e2_30, e3_30, e4_30, e5_30, e6_30, e7_30, e8_30⟩ := m_30
                have t31 := gr_zs_1 (I := I) (x := (Int.toNat a2)) (m := v8_6) (by exact gz_m 30 (by omega))
                have t32 := gr_zs_b hI (x := (Int.toNat a2)) (m := v8_6) (n := I 42 (Int.toNat a2)) (by exact gz_m 31 (by omega)) (by exact gz_m 32 (by omega))
                have t33 := (gr_b_123 hI (Int.toNat v8_6))
                have f34 := (gr_b_117 hI28 (Int.toNat v10_30))
                refine gv_run 5 true hD (pc' := 190) (lv' := [(0, .inr (.inr (some 0))), (2, .inl a2), (6, .inl v6_6), (7, .inl v7_30), (8, .inl v8_6), (10, .inl v10_30), (11, .inl v11_30)]) (st' := [.inl (I28 117 (Int.toNat v10_30)), .inl v11_30]) (h' := gr_h I28 J29) (C := (((((True ∧ True) ∧ True) ∧ True) ∧ True) ∧ (0 ≤ v10_30 ∧ v10_30 < ((1440 : Nat) : Int)))) rfl ⟨⟨⟨⟨⟨trivial, trivial⟩, trivial⟩, trivial⟩, trivial⟩, ⟨by exact gz_m 33 (by omega), by exact gz_m 34 (by omega)⟩⟩ ?_
                have t35 := gr_PKo_at x3 (m := v8_6) (by exact gz_m 35 (by omega)) (by exact gz_m 36 (by omega)) (by exact gz_m 37 (by omega)) (by exact gz_m 38 (by omega)) e1_30 (by exact gz_m 39 (by omega))
                have t36 := (show I28 117 (Int.toNat v10_30) = I28 117 (Int.toNat (I 123 (Int.toNat v8_6))) from by rw [show v10_30 = I 123 (Int.toNat v8_6) from by exact gz_m 40 (by omega)])
                have t37 := gr_ln_a (I := I) (x := a2) (m := v8_6) (by exact gz_m 41 (by omega)) (by exact gz_m 42 (by omega)) (by exact gz_m 43 (by omega))
                refine gv_icmp_ge (t := 223) hD rfl rfl ⟨⟨by exact gz_m 44 (by omega), by exact gz_m 45 (by omega)⟩, ⟨by exact gz_m 46 (by omega), by exact gz_m 47 (by omega)⟩⟩ (fun c38 => ?_) (fun c38 => ?_)
                · refine gv_pick [0, 1, 2, 3, 4] rfl ?_
                  exact L223 I28 J29 v7_30 hI28 FI28 FJ29 (by exact gz_m 48 (by omega)) e0_30 e1_30
                · refine gv_run 7 true hD (pc' := 209) (lv' := [(7, .inl (v7_30 + 1)), (0, .inr (.inr (some 0))), (2, .inl a2), (6, .inl v6_6), (8, .inl v8_6), (10, .inl v10_30), (11, .inl v11_30)]) (st' := [.inl 200, .inr (.inr (some 116)), .inl v7_30, .inr (.inr (some 116))]) (h' := gr_h I28 J29) (C := (((((((True ∧ True) ∧ True) ∧ True) ∧ True) ∧ True) ∧ True) ∧ True)) rfl ⟨⟨⟨⟨⟨⟨⟨trivial, trivial⟩, trivial⟩, trivial⟩, trivial⟩, trivial⟩, trivial⟩, trivial⟩ ?_
                  have f39 := (gr_b_116 hI28 (Int.toNat (((200 * v10_30) + v11_30))))
                  refine gv_run 5 true hD (pc' := 216) (lv' := [(7, .inl (v7_30 + 1)), (0, .inr (.inr (some 0))), (2, .inl a2), (6, .inl v6_6), (8, .inl v8_6), (10, .inl v10_30), (11, .inl v11_30)]) (st' := [.inl (I28 116 (Int.toNat (((200 * v10_30) + v11_30)))), .inl v7_30, .inr (.inr (some 116))]) (h' := gr_h I28 J29) (C := (((((True ∧ True) ∧ True) ∧ True) ∧ True) ∧ (0 ≤ (((200 * v10_30) + v11_30)) ∧ (((200 * v10_30) + v11_30)) < ((288000 : Nat) : Int)))) rfl ⟨⟨⟨⟨⟨trivial, trivial⟩, trivial⟩, trivial⟩, trivial⟩, ⟨by exact gz_m 49 (by omega), by exact gz_m 50 (by omega)⟩⟩ ?_
                  have f40 := gw_nar_byte (x := ((I28 116 (Int.toNat (((200 * v10_30) + v11_30))))))
                  refine gv_run 1 true hD (pc' := 217) (lv' := [(7, .inl (v7_30 + 1)), (0, .inr (.inr (some 0))), (2, .inl a2), (6, .inl v6_6), (8, .inl v8_6), (10, .inl v10_30), (11, .inl v11_30)]) (st' := []) (h' := gz_up (gr_h I28 J29) 116 (Int.toNat v7_30) (.inl (((vp_nar .byte (Int32.ofInt ((I28 116 (Int.toNat (((200 * v10_30) + v11_30))))))).toInt)))) (C := (True ∧ (0 ≤ v7_30 ∧ v7_30 < ((288000 : Nat) : Int)))) rfl ⟨trivial, ⟨by exact gz_m 51 (by omega), by exact gz_m 52 (by omega)⟩⟩ ?_
                  refine gr_st hI28 FI28 rfl rfl ⟨⟨by show (-128) ≤ _; exact gz_m 53 (by omega), by show _ ≤ 127; exact gz_m 54 (by omega)⟩, trivial⟩ (fun I41 hI41 FI41 q42 p42 => ?_)
                  refine gv_run 2 true hD (pc' := 181) (lv' := [(11, .inl (v11_30 + 1)), (7, .inl (v7_30 + 1)), (0, .inr (.inr (some 0))), (2, .inl a2), (6, .inl v6_6), (8, .inl v8_6), (10, .inl v10_30)]) (st' := []) (h' := gr_h I41 J29) (C := ((True ∧ True) ∧ True)) rfl ⟨⟨trivial, trivial⟩, trivial⟩ ?_
                  refine gv_pick [2, 3, 4, 1, 5, 6, 0] rfl ?_
                  exact ih181 I41 J29 (v7_30 + 1) v10_30 (v11_30 + 1) (by exact gz_m 55 (by omega)) hI41 FI41 FJ29 (by exact gz_m 56 (by omega)) (gr_OX_fr e0_30 (fun j => p42 121 j (fun q => absurd q.1 (by decide))) (fun j => p42 120 j (fun q => absurd q.1 (by decide)))) (gr_OKs_tr e1_30 (fun s _ => p42 117 s (fun q => absurd q.1 (by decide))))
            have t43 := gr_zs_1 (I := I) (x := (Int.toNat a2)) (m := v8_6) (by exact gz_m 57 (by omega))
            have t44 := gr_zs_b hI (x := (Int.toNat a2)) (m := v8_6) (n := I 42 (Int.toNat a2)) (by exact gz_m 58 (by omega)) (by exact gz_m 59 (by omega))
            refine gv_run 7 true hD (pc' := 117) (lv' := [(0, .inr (.inr (some 0))), (2, .inl a2), (6, .inl v6_6), (7, .inl v7_9), (8, .inl v8_6)]) (st' := [.inl ((6 * a2) + v8_6), .inr (.inr (some 43))]) (h' := gr_h I7 J8) (C := (((((((True ∧ True) ∧ True) ∧ True) ∧ True) ∧ True) ∧ True) ∧ True)) rfl ⟨⟨⟨⟨⟨⟨⟨trivial, trivial⟩, trivial⟩, trivial⟩, trivial⟩, trivial⟩, trivial⟩, trivial⟩ ?_
            have f45 := (show (-4) ≤ I7 43 (Int.toNat (((6 * a2) + v8_6))) ∧ I7 43 (Int.toNat (((6 * a2) + v8_6))) ≤ 32015 from (hI7 43 (Int.toNat (((6 * a2) + v8_6)))).1)
            refine gv_run 1 true hD (pc' := 118) (lv' := [(0, .inr (.inr (some 0))), (2, .inl a2), (6, .inl v6_6), (7, .inl v7_9), (8, .inl v8_6)]) (st' := [.inl (I7 43 (Int.toNat (((6 * a2) + v8_6))))]) (h' := gr_h I7 J8) (C := (True ∧ (0 ≤ (((6 * a2) + v8_6)) ∧ (((6 * a2) + v8_6)) < ((18432 : Nat) : Int)))) rfl ⟨trivial, ⟨by exact gz_m 60 (by omega), by exact gz_m 61 (by omega)⟩⟩ ?_
            rw [FI7 43 (Int.toNat (((6 * a2) + v8_6))) rfl]
            have f46 := (show (-4) ≤ I 43 (Int.toNat (((6 * a2) + v8_6))) ∧ I 43 (Int.toNat (((6 * a2) + v8_6))) ≤ 32015 from (hI 43 (Int.toNat (((6 * a2) + v8_6)))).1)
            refine gv_run 2 true hD (pc' := 122) (lv' := [(9, .inl (I 43 (Int.toNat (((6 * a2) + v8_6))))), (0, .inr (.inr (some 0))), (2, .inl a2), (6, .inl v6_6), (7, .inl v7_9), (8, .inl v8_6)]) (st' := [.inl (I 43 (Int.toNat (((6 * a2) + v8_6))))]) (h' := gr_h I7 J8) (C := ((True ∧ True) ∧ True)) rfl ⟨⟨trivial, trivial⟩, trivial⟩ ?_
            refine gv_if_lt (t := 169) hD rfl rfl ⟨by exact gz_m 62 (by omega), by exact gz_m 63 (by omega)⟩ (fun c47 => ?_) (fun c47 => ?_)
            · have f48 := (gr_b_123 hI7 (Int.toNat v8_6))
              refine gv_run 4 true hD (pc' := 176) (lv' := [(9, .inl (I 43 (Int.toNat (((6 * a2) + v8_6))))), (0, .inr (.inr (some 0))), (2, .inl a2), (6, .inl v6_6), (7, .inl v7_9), (8, .inl v8_6)]) (st' := [.inl (I7 123 (Int.toNat v8_6))]) (h' := gr_h I7 J8) (C := ((((True ∧ True) ∧ True) ∧ True) ∧ (0 ≤ v8_6 ∧ v8_6 < ((6 : Nat) : Int)))) rfl ⟨⟨⟨⟨trivial, trivial⟩, trivial⟩, trivial⟩, ⟨by exact gz_m 64 (by omega), by exact gz_m 65 (by omega)⟩⟩ ?_
              rw [FI7 123 (Int.toNat v8_6) rfl]
              have f49 := (gr_b_123 hI (Int.toNat v8_6))
              refine gv_run 3 true hD (pc' := 181) (lv' := [(11, .inl 0), (10, .inl (I 123 (Int.toNat v8_6))), (9, .inl (I 43 (Int.toNat (((6 * a2) + v8_6))))), (0, .inr (.inr (some 0))), (2, .inl a2), (6, .inl v6_6), (7, .inl v7_9), (8, .inl v8_6)]) (st' := []) (h' := gr_h I7 J8) (C := (((True ∧ True) ∧ True) ∧ True)) rfl ⟨⟨⟨trivial, trivial⟩, trivial⟩, trivial⟩ ?_
              refine gv_pick [3, 4, 5, 6, 7, 1, 0] rfl ?_
              exact L181 _ I7 J8 v7_9 ((I 123 (Int.toNat v8_6))) 0 (Nat.lt_succ_self _) hI7 FI7 FJ8 (by exact gz_m 66 (by omega)) e0_9 e1_9
            · refine gv_run 2 true hD (pc' := 128) (lv' := [(10, .inl 0), (9, .inl (I 43 (Int.toNat (((6 * a2) + v8_6))))), (0, .inr (.inr (some 0))), (2, .inl a2), (6, .inl v6_6), (7, .inl v7_9), (8, .inl v8_6)]) (st' := []) (h' := gr_h I7 J8) (C := ((True ∧ True) ∧ True)) rfl ⟨⟨trivial, trivial⟩, trivial⟩ ?_
              refine gv_pick [2, 3, 4, 5, 6, 1, 0] rfl ?_
              exact L128 _ I7 J8 v7_9 ((I 43 (Int.toNat (((6 * a2) + v8_6))))) 0 (Nat.lt_succ_self _) hI7 FI7 FJ8 (by exact gz_m 67 (by omega)) e0_9 e1_9
          have f50 := (gr_b_42 hI4 (Int.toNat a2))
          refine gv_run 5 true hD (pc' := 86) (lv' := [(0, .inr (.inr (some 0))), (2, .inl a2), (6, .inl v6_6), (7, .inl v7_6), (8, .inl v8_6)]) (st' := [.inl (I4 42 (Int.toNat a2)), .inl v8_6]) (h' := gr_h I4 J5) (C := (((((True ∧ True) ∧ True) ∧ True) ∧ True) ∧ (0 ≤ a2 ∧ a2 < ((3072 : Nat) : Int)))) rfl ⟨⟨⟨⟨⟨trivial, trivial⟩, trivial⟩, trivial⟩, trivial⟩, ⟨by exact gz_m 68 (by omega), by exact gz_m 69 (by omega)⟩⟩ ?_
          rw [FI4 42 (Int.toNat a2) rfl]
          have f51 := (gr_b_42 hI (Int.toNat a2))
          refine gv_icmp_ge (t := 229) hD rfl rfl ⟨⟨by exact gz_m 70 (by omega), by exact gz_m 71 (by omega)⟩, ⟨by exact gz_m 72 (by omega), by exact gz_m 73 (by omega)⟩⟩ (fun c52 => ?_) (fun c52 => ?_)
          · exact gv_vret hD rfl ⟨I4, J5, rfl, hI4, FI4, FJ5, ⟨rfl, e0_6, e1_6⟩⟩
          · have t53 := gr_zs_1 (I := I) (x := (Int.toNat a2)) (m := v8_6) (by exact gz_m 74 (by omega))
            have t54 := gr_zs_b hI (x := (Int.toNat a2)) (m := v8_6) (n := I 42 (Int.toNat a2)) (by exact gz_m 75 (by omega)) (by exact gz_m 76 (by omega))
            have t55 := (show v8_6 = 0 → gr_zs I (Int.toNat a2) (Int.toNat v8_6) = -1 from fun h => by rw [h]; rfl)
            refine gv_run 1 true hD (pc' := 91) (lv' := [(0, .inr (.inr (some 0))), (2, .inl a2), (6, .inl v6_6), (7, .inl v7_6), (8, .inl v8_6)]) (st' := [.inl v8_6]) (h' := gr_h I4 J5) (C := (True ∧ True)) rfl ⟨trivial, trivial⟩ ?_
            refine gv_if_le (t := 106) hD rfl rfl ⟨by exact gz_m 77 (by omega), by exact gz_m 78 (by omega)⟩ (fun c56 => ?_) (fun c56 => ?_)
            · exact L106 I4 J5 v7_6 hI4 FI4 FJ5 (by exact gz_m 79 (by omega)) e0_6 e1_6
            · refine gv_run 5 true hD (pc' := 105) (lv' := [(7, .inl (v7_6 + 1)), (0, .inr (.inr (some 0))), (2, .inl a2), (6, .inl v6_6), (8, .inl v8_6)]) (st' := [.inl 32, .inl v7_6, .inr (.inr (some 116))]) (h' := gr_h I4 J5) (C := (((((True ∧ True) ∧ True) ∧ True) ∧ True) ∧ True)) rfl ⟨⟨⟨⟨⟨trivial, trivial⟩, trivial⟩, trivial⟩, trivial⟩, trivial⟩ ?_
              have f57 := gw_nar_byte (x := 32)
              refine gv_run 1 true hD (pc' := 106) (lv' := [(7, .inl (v7_6 + 1)), (0, .inr (.inr (some 0))), (2, .inl a2), (6, .inl v6_6), (8, .inl v8_6)]) (st' := []) (h' := gz_up (gr_h I4 J5) 116 (Int.toNat v7_6) (.inl (((vp_nar .byte (Int32.ofInt 32)).toInt)))) (C := (True ∧ (0 ≤ v7_6 ∧ v7_6 < ((288000 : Nat) : Int)))) rfl ⟨trivial, ⟨by exact gz_m 80 (by omega), by exact gz_m 81 (by omega)⟩⟩ ?_
              refine gr_st hI4 FI4 rfl rfl ⟨⟨by show (-128) ≤ _; exact gz_m 82 (by omega), by show _ ≤ 127; exact gz_m 83 (by omega)⟩, trivial⟩ (fun I58 hI58 FI58 q59 p59 => ?_)
              refine gv_pick [1, 2, 3, 0, 4] rfl ?_
              exact L106 I58 J5 (v7_6 + 1) hI58 FI58 FJ5 (by exact gz_m 84 (by omega)) (gr_OX_fr e0_6 (fun j => p59 121 j (fun q => absurd q.1 (by decide))) (fun j => p59 120 j (fun q => absurd q.1 (by decide)))) (gr_OKs_tr e1_6 (fun s _ => p59 117 s (fun q => absurd q.1 (by decide))))
      refine gv_run 2 true hD (pc' := 6) (lv' := [(0, .inr (.inr (some 0))), (1, .inl a1), (2, .inl a2), (3, .inl a3), (4, .inl a4), (5, .inl v5_3)]) (st' := [.inl 4, .inl v5_3]) (h' := gr_h I1 J2) (C := ((True ∧ True) ∧ True)) rfl ⟨⟨trivial, trivial⟩, trivial⟩ ?_
      refine gv_icmp_ge (t := 29) hD rfl rfl ⟨⟨by exact gz_m 85 (by omega), by exact gz_m 86 (by omega)⟩, ⟨by exact gz_m 87 (by omega), by exact gz_m 88 (by omega)⟩⟩ (fun c60 => ?_) (fun c60 => ?_)
      · refine gv_run 2 true hD (pc' := 31) (lv' := [(0, .inr (.inr (some 0))), (1, .inl a1), (2, .inl a2), (3, .inl a3), (4, .inl a4), (5, .inl v5_3)]) (st' := [.inl a2, .inr (.inr (some 0))]) (h' := gr_h I1 J2) (C := ((True ∧ True) ∧ True)) rfl ⟨⟨trivial, trivial⟩, trivial⟩ ?_
        obtain ⟨r61, h61, E61, P61⟩ := r_saidOf (ws0 := ws0) (tb := tb) hws htb ext I1 J2 hI1 a2 ⟨by exact gz_m 89 (by omega), by exact gz_m 90 (by omega)⟩ (gr_SD_F x0 FI1)
        obtain ⟨I62, J63, rfl, hI62, g61, k61, ⟨z61, rfl, q61⟩⟩ := P61
        have FI62 := gr_frt FI1 g61 rfl rfl
        have FJ63 := gr_fjt FJ2 k61 rfl rfl
        refine gv_callV hD rfl (As := [.inl a2]) (st := []) rfl (by decide) rfl rfl (gr_lV hws rfl) (Nat.le_of_ble_eq_true rfl) (gz_Ev_mono (d := 1) (by decide) E61) ?_
        show gv_X _ _ (34, [(0, .inr (.inr (some 0))), (1, .inl a1), (2, .inl a2), (3, .inl a3), (4, .inl a4), (5, .inl v5_3)], [.inl z61], gr_sh ++ ext, gr_h I62 J63)
        refine gv_run 2 true hD (pc' := 38) (lv' := [(5, .inl z61), (0, .inr (.inr (some 0))), (1, .inl a1), (2, .inl a2), (3, .inl a3), (4, .inl a4)]) (st' := [.inl z61]) (h' := gr_h I62 J63) (C := ((True ∧ True) ∧ True)) rfl ⟨⟨trivial, trivial⟩, trivial⟩ ?_
        refine gv_if_ge (t := 42) hD rfl rfl ⟨by exact gz_m 91 (by omega), by exact gz_m 92 (by omega)⟩ (fun c64 => ?_) (fun c64 => ?_)
        · refine gv_run 4 true hD (pc' := 47) (lv' := [(5, .inl z61), (0, .inr (.inr (some 0))), (1, .inl a1), (2, .inl a2), (3, .inl a3), (4, .inl a4)]) (st' := [.inl z61, .inl a3, .inl a1, .inr (.inr (some 0))]) (h' := gr_h I62 J63) (C := ((((True ∧ True) ∧ True) ∧ True) ∧ True)) rfl ⟨⟨⟨⟨trivial, trivial⟩, trivial⟩, trivial⟩, trivial⟩ ?_
          obtain ⟨r65, h65, E65, P65⟩ := r_slot_w (ws0 := ws0) (tb := tb) hws htb ext I62 J63 hI62 a1 a3 z61 ⟨by exact gz_m 93 (by omega), by exact gz_m 94 (by omega)⟩ ⟨by exact gz_m 95 (by omega), by exact gz_m 96 (by omega)⟩ ⟨by exact gz_m 97 (by omega), by exact gz_m 98 (by omega)⟩ (gr_OX_fr e0_3 (fun j => g61 121 j rfl) (fun j => g61 120 j rfl))
          obtain ⟨I66, J67, rfl, hI66, g65, k65, ⟨z65, rfl, q65⟩⟩ := P65
          have FI66 := gr_frt FI62 g65 rfl rfl
          have FJ67 := gr_fjt FJ63 k65 rfl rfl
          refine gv_callV hD rfl (As := [.inl a1, .inl a3, .inl z61]) (st := []) rfl (by decide) rfl rfl (gr_lV hws rfl) (Nat.le_of_ble_eq_true rfl) (gz_Ev_mono (d := 1) (by decide) E65) ?_
          show gv_X _ _ (50, [(5, .inl z61), (0, .inr (.inr (some 0))), (1, .inl a1), (2, .inl a2), (3, .inl a3), (4, .inl a4)], [.inl z65], gr_sh ++ ext, gr_h I66 J67)
          refine gv_run 2 true hD (pc' := 54) (lv' := [(6, .inl z65), (5, .inl z61), (0, .inr (.inr (some 0))), (1, .inl a1), (2, .inl a2), (3, .inl a3), (4, .inl a4)]) (st' := [.inl z65]) (h' := gr_h I66 J67) (C := ((True ∧ True) ∧ True)) rfl ⟨⟨trivial, trivial⟩, trivial⟩ ?_
          refine gv_if_ge (t := 58) hD rfl rfl ⟨by exact gz_m 99 (by omega), by exact gz_m 100 (by omega)⟩ (fun c68 => ?_) (fun c68 => ?_)
          · refine gv_run 4 true hD (pc' := 66) (lv' := [(6, .inl z65), (5, .inl z61), (0, .inr (.inr (some 0))), (1, .inl a1), (2, .inl a2), (3, .inl a3), (4, .inl a4)]) (st' := [.inl a4, .inl z65, .inr (.inr (some 117))]) (h' := gr_h I66 J67) (C := ((((True ∧ True) ∧ True) ∧ True) ∧ True)) rfl ⟨⟨⟨⟨trivial, trivial⟩, trivial⟩, trivial⟩, trivial⟩ ?_
            refine gv_run 1 true hD (pc' := 67) (lv' := [(6, .inl z65), (5, .inl z61), (0, .inr (.inr (some 0))), (1, .inl a1), (2, .inl a2), (3, .inl a3), (4, .inl a4)]) (st' := []) (h' := gz_up (gr_h I66 J67) 117 (Int.toNat z65) (.inl a4)) (C := (True ∧ (0 ≤ z65 ∧ z65 < ((1440 : Nat) : Int)))) rfl ⟨trivial, ⟨by exact gz_m 101 (by omega), by exact gz_m 102 (by omega)⟩⟩ ?_
            refine gr_st hI66 FI66 rfl rfl ⟨⟨by show 0 ≤ _; exact gz_m 103 (by omega), by show _ ≤ 200; exact gz_m 104 (by omega)⟩, trivial⟩ (fun I69 hI69 FI69 q70 p70 => ?_)
            refine gv_run 6 true hD (pc' := 78) (lv' := [(8, .inl 0), (7, .inl (200 * z65)), (6, .inl z65), (5, .inl z61), (0, .inr (.inr (some 0))), (1, .inl a1), (2, .inl a2), (3, .inl a3), (4, .inl a4)]) (st' := []) (h' := gr_h I69 J67) (C := ((((((True ∧ True) ∧ True) ∧ True) ∧ True) ∧ True) ∧ True)) rfl ⟨⟨⟨⟨⟨⟨trivial, trivial⟩, trivial⟩, trivial⟩, trivial⟩, trivial⟩, trivial⟩ ?_
            refine gv_pick [4, 6, 2, 1, 0] rfl ?_
            exact L78 _ I69 J67 z65 (200 * z65) 0 (Nat.lt_succ_self _) hI69 FI69 FJ67 (by exact gz_m 105 (by omega)) (gr_OX_fr q65.2.2.1 (fun j => p70 121 j (fun q => absurd q.1 (by decide))) (fun j => p70 120 j (fun q => absurd q.1 (by decide)))) (gr_OKs_tr (gr_OKs_tr (gr_OKs_tr e1_3 (fun s _ => g61 117 s rfl)) (fun s _ => g65 117 s rfl)) (fun s hs => p70 117 s (fun q => by have h8 := q.2; exact gz_m 106 (by omega))))
          · exact gv_vret hD rfl ⟨I66, J67, rfl, hI66, FI66, FJ67, ⟨rfl, q65.2.2.1, (gr_OKs_tr (gr_OKs_tr e1_3 (fun s _ => g61 117 s rfl)) (fun s _ => g65 117 s rfl))⟩⟩
        · exact gv_vret hD rfl ⟨I62, J63, rfl, hI62, FI62, FJ63, ⟨rfl, (gr_OX_fr e0_3 (fun j => g61 121 j rfl) (fun j => g61 120 j rfl)), (gr_OKs_tr e1_3 (fun s _ => g61 117 s rfl))⟩⟩
      · have f71 := (gr_b_100 hI1 (Int.toNat v5_3))
        refine gv_run 7 true hD (pc' := 22) (lv' := [(0, .inr (.inr (some 0))), (1, .inl a1), (2, .inl a2), (3, .inl a3), (4, .inl a4), (5, .inl v5_3)]) (st' := [.inl (I1 100 (Int.toNat v5_3)), .inl v5_3, .inr (.inr (some 101))]) (h' := gr_h I1 J2) (C := (((((((True ∧ True) ∧ True) ∧ True) ∧ True) ∧ True) ∧ True) ∧ (0 ≤ v5_3 ∧ v5_3 < ((4 : Nat) : Int)))) rfl ⟨⟨⟨⟨⟨⟨⟨trivial, trivial⟩, trivial⟩, trivial⟩, trivial⟩, trivial⟩, trivial⟩, ⟨by exact gz_m 107 (by omega), by exact gz_m 108 (by omega)⟩⟩ ?_
        rw [FI1 100 (Int.toNat v5_3) rfl]
        have f72 := (gr_b_100 hI (Int.toNat v5_3))
        refine gv_run 1 true hD (pc' := 23) (lv' := [(0, .inr (.inr (some 0))), (1, .inl a1), (2, .inl a2), (3, .inl a3), (4, .inl a4), (5, .inl v5_3)]) (st' := []) (h' := gz_up (gr_h I1 J2) 101 (Int.toNat v5_3) (.inl ((I 100 (Int.toNat v5_3))))) (C := (True ∧ (0 ≤ v5_3 ∧ v5_3 < ((4 : Nat) : Int)))) rfl ⟨trivial, ⟨by exact gz_m 109 (by omega), by exact gz_m 110 (by omega)⟩⟩ ?_
        refine gr_st hI1 FI1 rfl rfl ⟨⟨by show 0 ≤ _; exact gz_m 111 (by omega), by show _ ≤ 16777215; exact gz_m 112 (by omega)⟩, trivial⟩ (fun I73 hI73 FI73 q74 p74 => ?_)
        refine gv_run 2 true hD (pc' := 3) (lv' := [(5, .inl (v5_3 + 1)), (0, .inr (.inr (some 0))), (1, .inl a1), (2, .inl a2), (3, .inl a3), (4, .inl a4)]) (st' := []) (h' := gr_h I73 J2) (C := ((True ∧ True) ∧ True)) rfl ⟨⟨trivial, trivial⟩, trivial⟩ ?_
        refine gv_pick [1, 2, 3, 4, 5, 0] rfl ?_
        exact ih3 I73 J2 (v5_3 + 1) (by exact gz_m 113 (by omega)) hI73 FI73 FJ2 (by exact gz_m 114 (by omega)) (gr_OX_fr e0_3 (fun j => p74 121 j (fun q => absurd q.1 (by decide))) (fun j => p74 120 j (fun q => absurd q.1 (by decide)))) (gr_OKs_tr e1_3 (fun s _ => p74 117 s (fun q => absurd q.1 (by decide))))
  have t75 := gr_zs_m hI (x := (Int.toNat a2)) (k := 0) (Int.toNat (I 42 (Int.toNat a2))) (by exact gz_m 115 (by omega))
  refine gv_run 2 true hD (pc' := 3) (lv' := [(5, .inl 0), (0, .inr (.inr (some 0))), (1, .inl a1), (2, .inl a2), (3, .inl a3), (4, .inl a4)]) (st' := []) (h' := gr_h I J) (C := ((True ∧ True) ∧ True)) rfl ⟨⟨trivial, trivial⟩, trivial⟩ ?_
  refine gv_pick [1, 2, 3, 4, 5, 0] rfl ?_
  exact L3 _ I J 0 (Nat.lt_succ_self _) hI FI FJ (by exact gz_m 116 (by omega)) x1 (gr_OKs_rf _ _)
