def gc_fn (A : gc_A) (I : gr_I) (t k : Nat) : Int := if 0 ≤ I 54 k then I (t + 15) (Int.toNat (I 54 k / 24 * 11)) else match A (t + 16) (Int.toNat (-1 - I 54 k)) with
  | some q => I q 1
  | none => 0
theorem gc_fn_0 {A : gc_A} {I : gr_I} {t k : Nat} (h : 0 ≤ I 54 k) : gc_fn A I t k = I (t + 15) (Int.toNat (I 54 k / 24 * 11)) := by
  unfold gc_fn
  rw [if_pos h]
theorem gc_fn_1 {A : gc_A} {I : gr_I} {t k q : Nat} (h : I 54 k < 0) (hq : A (t + 16) (Int.toNat (-1 - I 54 k)) = some q) : gc_fn A I t k = I q 1 := by
  unfold gc_fn
  rw [if_neg (by omega), hq]
theorem gc_ws_neg {σ : Nat → Int} {I : gr_I} {k : Nat} (h : 0 < gc_ws σ I k) : I 54 k < 0 ∧ gc_ws σ I k = σ (Int.toNat (-1 - I 54 k)) := by
  unfold gc_ws at h ⊢
  by_cases e : 0 ≤ I 54 k
  · rw [if_pos e] at h; omega
  · rw [if_neg e]; exact ⟨by omega, rfl⟩
theorem gc_and15 {y : Int} (h : 0 ≤ y ∧ y ≤ 2147483647) : (Int32.ofInt y &&& Int32.ofInt 15).toInt = y % 16 := by
  have e : (Int32.ofInt y &&& Int32.ofInt 15).toBitVec.toNat = y.toNat % 16 := by
    show ((Int32.ofInt y).toBitVec &&& (Int32.ofInt 15).toBitVec).toNat = _
    rw [BitVec.toNat_and, gc_nn h, gc_nn (x := 15) ⟨by decide, by decide⟩]
    exact Nat.and_two_pow_sub_one_eq_mod y.toNat 4
  show ((Int32.ofInt y &&& Int32.ofInt 15).toBitVec).toInt = _
  rw [BitVec.toInt_eq_toNat_of_lt (by omega)]
  omega
theorem gc_shrk {x : Int} {c : Int32} {k : Nat} (hx : 0 ≤ x ∧ x ≤ 2147483647) (hc : (c.toBitVec.smod 32).toNat = k) : (Int32.ofInt x >>> c).toInt = x / ((2 ^ k : Nat) : Int) := by
  have hX : (Int32.ofInt x).toBitVec.toInt = x := gz_toInt ⟨by omega, by omega⟩
  have e : (Int32.ofInt x >>> c).toInt = (((Int32.ofInt x).toBitVec).sshiftRight (c.toBitVec.smod 32).toNat).toInt := rfl
  rw [e, hc, BitVec.toInt_sshiftRight, hX, Int.shiftRight_eq_div_pow]
theorem gc_dgx {z s : Int} (hz : 0 ≤ z ∧ z ≤ 65535) (hs : 0 ≤ s ∧ s ≤ 3) : (Int32.ofInt ((Int32.ofInt z >>> (Int32.ofInt (4 * s) &&& 31)).toInt) &&& Int32.ofInt 15).toInt = gc_dg z (Int.toNat s) ∧ 0 ≤ gc_dg z (Int.toNat s) ∧ gc_dg z (Int.toNat s) ≤ 15 := by
  rcases (show s = 0 ∨ s = 1 ∨ s = 2 ∨ s = 3 from by omega) with rfl | rfl | rfl | rfl
  · rw [gc_shrk (k := 0) ⟨hz.1, by omega⟩ (by decide +kernel)]
    have e : z / ((2 ^ 0 : Nat) : Int) = z := (show z / 1 = z from by omega)
    rw [e, gc_and15 ⟨by omega, by omega⟩]
    exact ⟨rfl, show 0 ≤ z % 16 from by omega, show z % 16 ≤ 15 from by omega⟩
  · rw [gc_shrk (k := 4) ⟨hz.1, by omega⟩ (by decide +kernel)]
    have e : z / ((2 ^ 4 : Nat) : Int) = z / 16 := rfl
    rw [e, gc_and15 ⟨by omega, by omega⟩]
    exact ⟨rfl, show 0 ≤ z / 16 % 16 from by omega, show z / 16 % 16 ≤ 15 from by omega⟩
  · rw [gc_shrk (k := 8) ⟨hz.1, by omega⟩ (by decide +kernel)]
    have e : z / ((2 ^ 8 : Nat) : Int) = z / 256 := rfl
    rw [e, gc_and15 ⟨by omega, by omega⟩]
    exact ⟨rfl, show 0 ≤ z / 256 % 16 from by omega, show z / 256 % 16 ≤ 15 from by omega⟩
  · rw [gc_shrk (k := 12) ⟨hz.1, by omega⟩ (by decide +kernel)]
    have e : z / ((2 ^ 12 : Nat) : Int) = z / 4096 := rfl
    rw [e, gc_and15 ⟨by omega, by omega⟩]
    exact ⟨rfl, show 0 ≤ z / 4096 % 16 from by omega, show z / 4096 % 16 ≤ 15 from by omega⟩
theorem gc_fn_fr {sh : gz_Sh} {ro : Nat → Nat} {A : gc_A} {I I' : gr_I} {t k : Nat} (hL : gc_Ls sh ro A t I) (hW : gc_WV t I) (hk : (k : Int) < I 48 6) (r4 : ∀ k, I' 54 k = I 54 k) (r5 : ∀ j, I' (t + 15) j = I (t + 15) j) (hq : ∀ q, gc_isLin sh ro A q → 144 ≤ q → I' q 1 = I q 1) : gc_fn A I' t k = gc_fn A I t k := by
  by_cases h : 0 ≤ I 54 k
  · rw [gc_fn_0 (by rw [r4]; exact h), gc_fn_0 h, r5, r4]
  · have h1 := (hW k hk).resolve_left h
    obtain ⟨q, h2, h3, h4, -, -⟩ := hL (Int.toNat (-1 - I 54 k)) (by omega)
    rw [gc_fn_1 (by rw [r4]; omega) (by rw [r4]; exact h2), gc_fn_1 (by omega) h2, hq q h3 h4]
def gc_ST (m : Int) (I : gr_I) : Prop := ∀ k : Nat, (k : Int) < m → gc_le I (I 73 k)
theorem gc_ST_fr {m m' : Int} {I I' : gr_I} (h : gc_ST m I) (e : m' ≤ m) (h3 : I' 48 3 = I 48 3) (r7 : ∀ k, I' 67 k = I 67 k) (r : ∀ k, I' 73 k = I 73 k) : gc_ST m' I' := fun k hk => by rw [r]; exact gc_le_fr (h k (by omega)) h3 r7
theorem gc_ST_push {m : Int} {I I' : gr_I} (h : gc_ST m I) (h0 : 0 ≤ m) (p : ∀ q j, ¬ (q = 73 ∧ j = Int.toNat m) → I' q j = I q j) (hz : gc_le I (I' 73 (Int.toNat m))) : gc_ST (m + 1) I' := fun k hk => by
  have e3 : I' 48 3 = I 48 3 := p 48 3 (fun h9 => absurd h9.1 (by decide))
  have e7 : ∀ j, I' 67 j = I 67 j := fun j => p 67 j (fun h9 => absurd h9.1 (by decide))
  by_cases e : k = Int.toNat m
  · rw [e]; exact gc_le_fr hz e3 e7
  · rw [p 73 k (fun h9 => e h9.2)]; exact gc_le_fr (h k (by omega)) e3 e7
theorem gc_op_st {I I' : gr_I} {T : Nat} {n : Int} (h0 : 0 ≤ n) (hT : ¬ T = 12) (p : ∀ q j, ¬ (q = T ∧ j = Int.toNat n) → I' q j = I q j) : gc_op I' T (Int.toNat (n + 1)) = gc_op I T (Int.toNat n) - 1 + I 12 (Int.toNat (I' T (Int.toNat n))) := by
  rw [gc_op_at h0, gc_op_fr (n := Int.toNat n) (fun k hk => p T k (fun h9 => by have := h9.2; omega)) (fun k => p 12 k (fun h9 => hT h9.1.symm)), p 12 _ (fun h9 => hT h9.1.symm)]
theorem gc_pp_st {I I' : gr_I} {T : Nat} {n : Int} (h : gc_pp I T n) (h0 : 0 ≤ n) (hT : ¬ T = 12) (p : ∀ q j, ¬ (q = T ∧ j = Int.toNat n) → I' q j = I q j) (hz : 1 ≤ gc_op I T (Int.toNat n)) : gc_pp I' T (n + 1) := fun i hi => by
  rw [gc_op_fr (n := i) (fun k hk => p T k (fun h9 => by have := h9.2; omega)) (fun k => p 12 k (fun h9 => hT h9.1.symm))]
  by_cases e : i = Int.toNat n
  · rw [e]; exact hz
  · exact h i (by omega)
theorem gc_pp_fr {I I' : gr_I} {T : Nat} {n : Int} (h : gc_pp I T n) (r : ∀ k, I' T k = I T k) (r2 : ∀ k, I' 12 k = I 12 k) : gc_pp I' T n := fun i hi => by rw [gc_op_fr (n := i) (fun k _ => r k) r2]; exact h i hi
set_option maxHeartbeats 4000000 in
set_option maxRecDepth 100000 in
theorem d_X11_wordFun_w {ws0 : List Cond} {tb : String → gz_T} (hws : gc_Ws ws0) (htb : gc_tbs tb) (sh : gz_Sh) (ro : Nat → Nat) (I : gr_I) (J : gr_J) (A : gc_A) (hI : gc_Inv ro I) (p : Nat) (a1 : Int) (hp : gc_isTongue sh ro A p) (ha1 : 0 ≤ a1 ∧ a1 ≤ 63)  : ∃ r h', gz_Ev ws0 tb 1 (yX11_wordFun, cX11_wordFun, 2, (some .int)) [.inr (.inr (some p)), .inl a1] sh (gc_h sh I J A) r sh h' 0 0 ∧ (h' = gc_h sh I J A ∧ (∃ z : Int, r = some (.inl z) ∧ 0 ≤ z ∧ z ≤ 95 ∧ (z = I (p + 15) (Int.toNat (a1 * 11))))) := by
  obtain ⟨S_p, R_p, B_p, A_p_0, h_p_1, A_p_1, h_p_3, A_p_2, S_p_5, R_p_5, B_p_5, A_p_3, S_p_6, R_p_6, B_p_6, A_p_4, h_p_7, A_p_5, S_p_9, R_p_9, B_p_9, A_p_7, S_p_10, R_p_10, B_p_10, A_p_8, h_p_11, A_p_9, S_p_13, R_p_13, B_p_13, A_p_10, S_p_14, R_p_14, B_p_14, A_p_12, S_p_15, R_p_15, B_p_15, A_p_14, S_p_16, R_p_16, B_p_16, A_p_15, h_p_17⟩ := id hp
  obtain ⟨S_p_1, R_p_1, B_p_1, A_p_1_0, S_p_1_1, R_p_1_1, B_p_1_1, Q0_p_1, Q1_p_1, Q2_p_1⟩ := id h_p_1
  obtain ⟨S_p_3, R_p_3, B_p_3, A_p_3_0, S_p_3_1, R_p_3_1, B_p_3_1, Q0_p_3, Q1_p_3, Q2_p_3⟩ := id h_p_3
  obtain ⟨S_p_7, R_p_7, B_p_7, A_p_7_0, S_p_7_1, R_p_7_1, B_p_7_1, Q0_p_7, Q1_p_7, Q2_p_7⟩ := id h_p_7
  obtain ⟨S_p_11, R_p_11, B_p_11, A_p_11_0, S_p_11_1, R_p_11_1, B_p_11_1, Q0_p_11, Q1_p_11, Q2_p_11⟩ := id h_p_11
  obtain ⟨S_p_17, R_p_17, B_p_17, A_p_17_0, S_20, R_20, B_20, A_p_17_1, S_p_17_1, R_p_17_1, B_p_17_1, A_p_17_2, S_p_17_2, R_p_17_2, B_p_17_2, A_p_17_3, S_p_17_3, R_p_17_3, B_p_17_3, A_p_17_4, S_p_17_4, R_p_17_4, B_p_17_4, A_p_17_5, S_p_17_5, R_p_17_5, B_p_17_5, S_p_17_6, R_p_17_6, B_p_17_6, S_p_17_7, R_p_17_7, B_p_17_7⟩ := id h_p_17
  have hD : gv_D (gc_E11 ws0 tb 0 (yX11_wordFun, cX11_wordFun, 2, (some .int)) kX11_wordFun) := gq_ok oX11_wordFun
  refine gc_ev11 (d := 0) (l := kX11_wordFun) (Po := fun r h' => (h' = gc_h sh I J A ∧ (∃ z : Int, r = some (.inl z) ∧ 0 ≤ z ∧ z ≤ 95 ∧ (z = I (p + 15) (Int.toNat (a1 * 11)))))) htb rfl (Nat.le_of_ble_eq_true rfl) ?_
  refine gv_run 1 true hD (pc' := 1) (lv' := [(0, .inr (.inr (some p))), (1, .inl a1)]) (st' := [.inr (.inr (some p))]) (h' := gc_h sh I J A) (C := (True ∧ True)) rfl ⟨trivial, trivial⟩ ?_
  refine gv_get hD rfl rfl S_p ⟨by decide, B_p⟩ (gc_hA S_p rfl A_p_12) ?_
  show gv_X _ _ (4, [(0, .inr (.inr (some p))), (1, .inl a1)], [.inr (.inr (some (p + 15)))], sh, gc_h sh I J A)
  refine gv_run 3 true hD (pc' := 8) (lv' := [(0, .inr (.inr (some p))), (1, .inl a1)]) (st' := [.inl (a1 * 11), .inr (.inr (some (p + 15)))]) (h' := gc_h sh I J A) (C := (((True ∧ True) ∧ True) ∧ True)) rfl ⟨⟨⟨trivial, trivial⟩, trivial⟩, trivial⟩ ?_
  have f1 := (show 0 ≤ I (p + 15) (Int.toNat (a1 * 11)) ∧ I (p + 15) (Int.toNat (a1 * 11)) ≤ 95 from gc_inm (c := 0) hI R_p_15 rfl rfl (by omega) rfl rfl)
  refine gv_iald hD rfl S_p_15 rfl ⟨by decide, B_p_15⟩ ⟨by omega, by omega⟩ (gc_iI S_p_15 rfl) ?_
  show gv_X _ _ (9, [(0, .inr (.inr (some p))), (1, .inl a1)], [.inl (I (p + 15) (Int.toNat (a1 * 11)))], sh, gc_h sh I J A)
  exact gv_iret hD rfl ⟨rfl, ⟨_, rfl, by omega⟩⟩
set_option maxHeartbeats 4000000 in
set_option maxRecDepth 100000 in
theorem d_X5_funOf_w {ws0 : List Cond} {tb : String → gz_T} (hws : gc_Ws ws0) (htb : gc_tbs tb) (sh : gz_Sh) (ro : Nat → Nat) (I : gr_I) (J : gr_J) (A : gc_A) (hI : gc_Inv ro I) (t : Nat) (a1 : Int) (hb : gc_Base sh ro A) (h_t : gc_isTongue sh ro A t) (G_t : 144 ≤ t) (ha1 : 0 ≤ a1 ∧ a1 ≤ 8999) (x0 : gc_Ls sh ro A t I) (x1 : gc_WV t I) (x2 : a1 < I 48 6) (x3 : I 61 2 = (t : Int)) : ∃ r h', gz_Ev ws0 tb 2 (yX5_funOf, cX5_funOf, 3, (some .int)) [.inr (.inr (some 61)), .inl a1] sh (gc_h sh I J A) r sh h' 0 0 ∧ (h' = gc_h sh I J A ∧ (∃ z : Int, r = some (.inl z) ∧ 0 ≤ z ∧ z ≤ 95 ∧ (z = gc_fn A I t (Int.toNat a1)))) := by
  have A_48_8 : A 48 8 = some 54 := gc_bA hb rfl
  have A_61_1 : A 61 1 = some 48 := gc_bA hb rfl
  have B_48 : 48 < 1000000 := by decide
  have B_54 : 54 < 1000000 := by decide
  have B_61 : 61 < 1000000 := by decide
  have R_54 : ro 54 = 46 := gc_bR hb (by decide) rfl
  have R_61 : ro 61 = 72 := gc_bR hb (by decide) rfl
  have S_48 : sh[48]? = some (false, 0, 22) := gc_bS hb rfl
  have S_54 : sh[54]? = some (true, 1, 9000) := gc_bS hb rfl
  have S_61 : sh[61]? = some (false, 5, 19) := gc_bS hb rfl
  obtain ⟨S_t, R_t, B_t, A_t_0, h_t_1, A_t_1, h_t_3, A_t_2, S_t_5, R_t_5, B_t_5, A_t_3, S_t_6, R_t_6, B_t_6, A_t_4, h_t_7, A_t_5, S_t_9, R_t_9, B_t_9, A_t_7, S_t_10, R_t_10, B_t_10, A_t_8, h_t_11, A_t_9, S_t_13, R_t_13, B_t_13, A_t_10, S_t_14, R_t_14, B_t_14, A_t_12, S_t_15, R_t_15, B_t_15, A_t_14, S_t_16, R_t_16, B_t_16, A_t_15, h_t_17⟩ := id h_t
  obtain ⟨S_t_1, R_t_1, B_t_1, A_t_1_0, S_t_1_1, R_t_1_1, B_t_1_1, Q0_t_1, Q1_t_1, Q2_t_1⟩ := id h_t_1
  obtain ⟨S_t_3, R_t_3, B_t_3, A_t_3_0, S_t_3_1, R_t_3_1, B_t_3_1, Q0_t_3, Q1_t_3, Q2_t_3⟩ := id h_t_3
  obtain ⟨S_t_7, R_t_7, B_t_7, A_t_7_0, S_t_7_1, R_t_7_1, B_t_7_1, Q0_t_7, Q1_t_7, Q2_t_7⟩ := id h_t_7
  obtain ⟨S_t_11, R_t_11, B_t_11, A_t_11_0, S_t_11_1, R_t_11_1, B_t_11_1, Q0_t_11, Q1_t_11, Q2_t_11⟩ := id h_t_11
  obtain ⟨S_t_17, R_t_17, B_t_17, A_t_17_0, S_20, R_20, B_20, A_t_17_1, S_t_17_1, R_t_17_1, B_t_17_1, A_t_17_2, S_t_17_2, R_t_17_2, B_t_17_2, A_t_17_3, S_t_17_3, R_t_17_3, B_t_17_3, A_t_17_4, S_t_17_4, R_t_17_4, B_t_17_4, A_t_17_5, S_t_17_5, R_t_17_5, B_t_17_5, S_t_17_6, R_t_17_6, B_t_17_6, S_t_17_7, R_t_17_7, B_t_17_7⟩ := id h_t_17
  have hD : gv_D (gc_E5 ws0 tb 1 (yX5_funOf, cX5_funOf, 3, (some .int)) kX5_funOf) := gq_ok oX5_funOf
  refine gc_ev5 (d := 1) (l := kX5_funOf) (Po := fun r h' => (h' = gc_h sh I J A ∧ (∃ z : Int, r = some (.inl z) ∧ 0 ≤ z ∧ z ≤ 95 ∧ (z = gc_fn A I t (Int.toNat a1))))) htb rfl (Nat.le_of_ble_eq_true rfl) ?_
  have f1 := (show (-1) ≤ I 61 2 ∧ I 61 2 ≤ 999999 from gc_in hI R_61 rfl rfl)
  have L42 : ∀ (s0_2 : Int), ((0 ≤ s0_2 ∧ s0_2 ≤ 95) ∧ (I 61 2 = (t : Int))) → (s0_2 = gc_fn A I t (Int.toNat a1)) → gv_X (gc_E5 ws0 tb 1 (yX5_funOf, cX5_funOf, 3, (some .int)) kX5_funOf) (gv_Q cX5_funOf (some .int) sh (fun r h' => (h' = gc_h sh I J A ∧ (∃ z : Int, r = some (.inl z) ∧ 0 ≤ z ∧ z ≤ 95 ∧ (z = gc_fn A I t (Int.toNat a1)))))) (42, [], [.inl s0_2], sh, gc_h sh I J A) := by
    intro s0_2 m_2 e0_2
    obtain ⟨hs0_2, e1_2⟩ := m_2
    have f3 := (show (-1) ≤ I 61 2 ∧ I 61 2 ≤ 999999 from gc_in hI R_61 rfl rfl)
    exact gv_iret hD rfl ⟨rfl, ⟨_, rfl, by omega, by omega, e0_2⟩⟩
  refine gv_run 1 true hD (pc' := 1) (lv' := [(0, .inr (.inr (some 61))), (1, .inl a1)]) (st' := [.inr (.inr (some 61))]) (h' := gc_h sh I J A) (C := (True ∧ True)) rfl ⟨trivial, trivial⟩ ?_
  refine gv_get hD rfl rfl S_61 ⟨by decide, B_61⟩ (gc_hA S_61 rfl A_61_1) ?_
  show gv_X _ _ (4, [(0, .inr (.inr (some 61))), (1, .inl a1)], [.inr (.inr (some 48))], sh, gc_h sh I J A)
  refine gv_get hD rfl rfl S_48 ⟨by decide, B_48⟩ (gc_hA S_48 rfl A_48_8) ?_
  show gv_X _ _ (7, [(0, .inr (.inr (some 61))), (1, .inl a1)], [.inr (.inr (some 54))], sh, gc_h sh I J A)
  refine gv_run 1 true hD (pc' := 8) (lv' := [(0, .inr (.inr (some 61))), (1, .inl a1)]) (st' := [.inl a1, .inr (.inr (some 54))]) (h' := gc_h sh I J A) (C := (True ∧ True)) rfl ⟨trivial, trivial⟩ ?_
  have f4 := (show (-384) ≤ I 54 (Int.toNat a1) ∧ I 54 (Int.toNat a1) ≤ 1535 from gc_in hI R_54 rfl rfl)
  refine gv_iald hD rfl S_54 rfl ⟨by decide, B_54⟩ ⟨by omega, by omega⟩ (gc_iI S_54 rfl) ?_
  show gv_X _ _ (9, [(0, .inr (.inr (some 61))), (1, .inl a1)], [.inl (I 54 (Int.toNat a1))], sh, gc_h sh I J A)
  refine gv_run 1 true hD (pc' := 10) (lv' := [(2, .inl (I 54 (Int.toNat a1))), (0, .inr (.inr (some 61))), (1, .inl a1)]) (st' := []) (h' := gc_h sh I J A) (C := (True ∧ True)) rfl ⟨trivial, trivial⟩ ?_
  have t5 := x1 (Int.toNat a1) (by omega)
  refine gv_run 1 true hD (pc' := 11) (lv' := [(2, .inl (I 54 (Int.toNat a1))), (0, .inr (.inr (some 61))), (1, .inl a1)]) (st' := [.inl (I 54 (Int.toNat a1))]) (h' := gc_h sh I J A) (C := (True ∧ True)) rfl ⟨trivial, trivial⟩ ?_
  refine gv_if_lt (t := 28) hD rfl rfl ⟨by omega, by omega⟩ (fun c6 => ?_) (fun c6 => ?_)
  · show gv_X _ _ (28, [(2, .inl (I 54 (Int.toNat a1))), (0, .inr (.inr (some 61))), (1, .inl a1)], [], sh, gc_h sh I J A)
    refine gv_run 1 true hD (pc' := 29) (lv' := [(2, .inl (I 54 (Int.toNat a1))), (0, .inr (.inr (some 61))), (1, .inl a1)]) (st' := [.inr (.inr (some 61))]) (h' := gc_h sh I J A) (C := (True ∧ True)) rfl ⟨trivial, trivial⟩ ?_
    refine gv_get hD rfl rfl S_61 ⟨by decide, B_61⟩ (gc_h5 (t := t) S_61 rfl (by omega)) ?_
    show gv_X _ _ (32, [(2, .inl (I 54 (Int.toNat a1))), (0, .inr (.inr (some 61))), (1, .inl a1)], [.inr (.inr (some t))], sh, gc_h sh I J A)
    refine gv_get hD rfl rfl S_t ⟨by decide, B_t⟩ (gc_hA S_t rfl A_t_14) ?_
    show gv_X _ _ (35, [(2, .inl (I 54 (Int.toNat a1))), (0, .inr (.inr (some 61))), (1, .inl a1)], [.inr (.inr (some (t + 16)))], sh, gc_h sh I J A)
    refine gv_run 3 true hD (pc' := 38) (lv' := [(2, .inl (I 54 (Int.toNat a1))), (0, .inr (.inr (some 61))), (1, .inl a1)]) (st' := [.inl ((-1) - (I 54 (Int.toNat a1))), .inr (.inr (some (t + 16)))]) (h' := gc_h sh I J A) (C := (((True ∧ True) ∧ True) ∧ True)) rfl ⟨⟨⟨trivial, trivial⟩, trivial⟩, trivial⟩ ?_
    obtain ⟨t7_, A_t7, h_t7, G_t7, U_t7, V_t7⟩ := x0 (Int.toNat (((-1) - (I 54 (Int.toNat a1))))) (by omega)
    obtain ⟨S_t7, R_t7, B_t7, A_t7_5, S_t7__1, R_t7__1, B_t7__1, A_t7_6, S_t7__2, R_t7__2, B_t7__2, A_t7_7, S_t7__3, R_t7__3, B_t7__3, A_t7_9, S_t7__4, R_t7__4, B_t7__4, A_t7_10, S_t7__5, R_t7__5, B_t7__5, A_t7_11, S_t7__6, R_t7__6, B_t7__6, A_t7_13, S_t7__7, R_t7__7, B_t7__7, A_t7_15, S_t7__8, R_t7__8, B_t7__8⟩ := id h_t7
    refine gv_aald hD rfl S_t_16 ⟨by decide, by decide⟩ ⟨by decide, B_t_16⟩ ⟨by omega, by omega⟩ ((gc_aA S_t_16 rfl).trans A_t7) ?_
    show gv_X _ _ (39, [(2, .inl (I 54 (Int.toNat a1))), (0, .inr (.inr (some 61))), (1, .inl a1)], [.inr (.inr (some t7_))], sh, gc_h sh I J A)
    have f8 := (show 0 ≤ I t7_ 1 ∧ I t7_ 1 ≤ 95 from gc_in hI R_t7 rfl rfl)
    refine gv_get hD rfl rfl S_t7 ⟨by decide, B_t7⟩ (gc_hI S_t7 rfl) ?_
    show gv_X _ _ (42, [(2, .inl (I 54 (Int.toNat a1))), (0, .inr (.inr (some 61))), (1, .inl a1)], [.inl (I t7_ 1)], sh, gc_h sh I J A)
    refine gv_pick [] rfl ?_
    exact L42 (I t7_ 1) (by omega) (gc_fn_1 (by omega) A_t7).symm
  · show gv_X _ _ (14, [(2, .inl (I 54 (Int.toNat a1))), (0, .inr (.inr (some 61))), (1, .inl a1)], [], sh, gc_h sh I J A)
    refine gv_run 1 true hD (pc' := 15) (lv' := [(2, .inl (I 54 (Int.toNat a1))), (0, .inr (.inr (some 61))), (1, .inl a1)]) (st' := [.inr (.inr (some 61))]) (h' := gc_h sh I J A) (C := (True ∧ True)) rfl ⟨trivial, trivial⟩ ?_
    refine gv_get hD rfl rfl S_61 ⟨by decide, B_61⟩ (gc_h5 (t := t) S_61 rfl (by omega)) ?_
    show gv_X _ _ (18, [(2, .inl (I 54 (Int.toNat a1))), (0, .inr (.inr (some 61))), (1, .inl a1)], [.inr (.inr (some t))], sh, gc_h sh I J A)
    have f9 := gw_div (x := ((I 54 (Int.toNat a1)))) (y := 24) ⟨by omega, by omega⟩ ⟨by omega, by omega⟩
    refine gv_run 3 true hD (pc' := 22) (lv' := [(2, .inl (I 54 (Int.toNat a1))), (0, .inr (.inr (some 61))), (1, .inl a1)]) (st' := [.inl ((Int32.ofInt ((I 54 (Int.toNat a1))) / Int32.ofInt 24).toInt), .inr (.inr (some t))]) (h' := gc_h sh I J A) (C := (((True ∧ True) ∧ True) ∧ (gz_R 24 ∧ ¬ 24 = 0))) rfl ⟨⟨⟨trivial, trivial⟩, trivial⟩, ⟨⟨by omega, by omega⟩, by omega⟩⟩ ?_
    obtain ⟨r10, h10, E10, P10⟩ := d_X11_wordFun_w (ws0 := ws0) (tb := tb) hws htb sh ro I J A hI t (((Int32.ofInt ((I 54 (Int.toNat a1))) / Int32.ofInt 24).toInt)) h_t   ⟨by omega, by omega⟩  
    obtain ⟨rfl, ⟨z10, rfl, q10⟩⟩ := P10
    refine gv_callV hD rfl (As := [.inl ((Int32.ofInt ((I 54 (Int.toNat a1))) / Int32.ofInt 24).toInt)]) (st := []) rfl B_t S_t rfl (gc_lV5 hws rfl) (Nat.le_of_ble_eq_true rfl) (gz_Ev_mono (d := 1) (by decide) E10) ?_
    show gv_X _ _ (25, [(2, .inl (I 54 (Int.toNat a1))), (0, .inr (.inr (some 61))), (1, .inl a1)], [.inl z10], sh, gc_h sh I J A)
    refine gv_run 1 true hD (pc' := 42) (lv' := [(2, .inl (I 54 (Int.toNat a1))), (0, .inr (.inr (some 61))), (1, .inl a1)]) (st' := [.inl z10]) (h' := gc_h sh I J A) (C := (True ∧ True)) rfl ⟨trivial, trivial⟩ ?_
    refine gv_pick [] rfl ?_
    exact L42 z10 (by omega) (by rw [gc_fn_0 (by omega), ← gw_div (x := I 54 (Int.toNat a1)) (y := 24) ⟨by omega, by omega⟩ ⟨by omega, by omega⟩]; omega)
set_option maxHeartbeats 4000000 in
set_option maxRecDepth 100000 in
theorem d_X5_spell {ws0 : List Cond} {tb : String → gz_T} (hws : gc_Ws ws0) (htb : gc_tbs tb) (sh : gz_Sh) (ro : Nat → Nat) (I : gr_I) (J : gr_J) (A : gc_A) (hI : gc_Inv ro I) (m : Nat) (t : Nat) (σ : Nat → Int) (a1 : Int) (a2 : Nat) (hb : gc_Base sh ro A) (S_a2 : sh[a2]? = some (true, 1, m)) (R_a2 : ro a2 = 37) (B_a2 : a2 < 1000000) (M_a2 : m < 2147483648) (h_t : gc_isTongue sh ro A t) (G_t : 144 ≤ t) (ha1 : (-2147483648) ≤ a1 ∧ a1 ≤ 2147483647) (x0 : gc_Ls sh ro A t I) (x1 : gc_WV t I) (x2 : ∀ i q : Nat, (i : Int) < I t 13 → A (t + 16) i = some q → I q 8 = σ i) (x3 : gc_WA σ I) (x4 : gc_FN I) (x5 : I 49 (Int.toNat (I 48 10)) + I 50 (Int.toNat (I 48 10)) ≤ I 48 3) (x6 : I 61 4 = 0 ∨ (gc_LH σ (-1) I ∧ gc_TH (-1) I)) (x7 : I 61 3 = 1) (x8 : ∀ k : Nat, (k : Int) < I 48 6 → I 12 (Int.toNat (gc_fn A I t k)) = gc_ws σ I k) (x9 : ∀ i q : Nat, (i : Int) < I t 13 → A (t + 16) i = some q → ∀ a : Int, 0 ≤ a → a < I q 8 → 0 ≤ I (q + 6) (Int.toNat a) ∧ I (q + 6) (Int.toNat a) < I q 8) (x10 : 115 ≤ a2 ∧ a2 ≤ 123) (x11 : m = 60) (x12 : I 61 2 = (t : Int)) : ∃ r h', gz_Ev ws0 tb 9 (yX5_spell, cX5_spell, 11, (some .int)) [.inr (.inr (some 61)), .inl a1, .inr (.inr (some a2))] sh (gc_h sh I J A) r sh h' 0 0 ∧ (∃ (I' : gr_I) (J' : gr_J), h' = gc_h sh I' J' A ∧ gc_Inv ro I' ∧ (∀ q j : Nat, ((q = 61 ∧ j = 4) ∨ (q = 61 ∧ j = 8) ∨ (q = 61 ∧ j = 9) ∨ (q = 61 ∧ j = 10) ∨ (q = 61 ∧ j = 15) ∨ q = 64 ∨ q = 65 ∨ q = 66 ∨ q = 67 ∨ q = 68 ∨ q = 69 ∨ q = 70 ∨ q = 71 ∨ q = 72 ∨ q = 73 ∨ q = a2) ∨ I' q j = I q j) ∧ (∀ q j : Nat, (False) ∨ J' q j = J q j) ∧ (∃ z : Int, r = some (.inl z) ∧ (-2) ≤ z ∧ z ≤ 60 ∧ (gc_LH σ (-1) I') ∧ (gc_TH (-1) I') ∧ (I' 61 4 = 1) ∧ (z < 0 ∨ gc_wtr I' a2 z))) := by
  have FI : ∀ q j : Nat, ((q = 61 ∧ j = 4) ∨ (q = 61 ∧ j = 8) ∨ (q = 61 ∧ j = 9) ∨ (q = 61 ∧ j = 10) ∨ (q = 61 ∧ j = 15) ∨ q = 64 ∨ q = 65 ∨ q = 66 ∨ q = 67 ∨ q = 68 ∨ q = 69 ∨ q = 70 ∨ q = 71 ∨ q = 72 ∨ q = 73 ∨ q = a2) ∨ I q j = I q j := fun _ _ => Or.inr rfl
  have FJ : ∀ q j : Nat, (False) ∨ J q j = J q j := fun _ _ => Or.inr rfl
  have A_48_8 : A 48 8 = some 54 := gc_bA hb rfl
  have A_48_9 : A 48 9 = some 55 := gc_bA hb rfl
  have A_61_1 : A 61 1 = some 48 := gc_bA hb rfl
  have A_61_13 : A 61 13 = some 69 := gc_bA hb rfl
  have A_61_14 : A 61 14 = some 70 := gc_bA hb rfl
  have A_61_17 : A 61 17 = some 72 := gc_bA hb rfl
  have A_61_18 : A 61 18 = some 73 := gc_bA hb rfl
  have B_48 : 48 < 1000000 := by decide
  have B_54 : 54 < 1000000 := by decide
  have B_55 : 55 < 1000000 := by decide
  have B_61 : 61 < 1000000 := by decide
  have B_69 : 69 < 1000000 := by decide
  have B_70 : 70 < 1000000 := by decide
  have B_72 : 72 < 1000000 := by decide
  have B_73 : 73 < 1000000 := by decide
  have R_48 : ro 48 = 49 := gc_bR hb (by decide) rfl
  have R_54 : ro 54 = 46 := gc_bR hb (by decide) rfl
  have R_55 : ro 55 = 44 := gc_bR hb (by decide) rfl
  have R_61 : ro 61 = 72 := gc_bR hb (by decide) rfl
  have R_69 : ro 69 = 51 := gc_bR hb (by decide) rfl
  have R_70 : ro 70 = 53 := gc_bR hb (by decide) rfl
  have R_72 : ro 72 = 54 := gc_bR hb (by decide) rfl
  have R_73 : ro 73 = 54 := gc_bR hb (by decide) rfl
  have S_48 : sh[48]? = some (false, 0, 22) := gc_bS hb rfl
  have S_54 : sh[54]? = some (true, 1, 9000) := gc_bS hb rfl
  have S_55 : sh[55]? = some (true, 1, 36000) := gc_bS hb rfl
  have S_61 : sh[61]? = some (false, 5, 19) := gc_bS hb rfl
  have S_69 : sh[69]? = some (true, 1, 48000) := gc_bS hb rfl
  have S_70 : sh[70]? = some (true, 1, 48000) := gc_bS hb rfl
  have S_72 : sh[72]? = some (true, 1, 16) := gc_bS hb rfl
  have S_73 : sh[73]? = some (true, 1, 244) := gc_bS hb rfl
  obtain ⟨S_t, R_t, B_t, A_t_0, h_t_1, A_t_1, h_t_3, A_t_2, S_t_5, R_t_5, B_t_5, A_t_3, S_t_6, R_t_6, B_t_6, A_t_4, h_t_7, A_t_5, S_t_9, R_t_9, B_t_9, A_t_7, S_t_10, R_t_10, B_t_10, A_t_8, h_t_11, A_t_9, S_t_13, R_t_13, B_t_13, A_t_10, S_t_14, R_t_14, B_t_14, A_t_12, S_t_15, R_t_15, B_t_15, A_t_14, S_t_16, R_t_16, B_t_16, A_t_15, h_t_17⟩ := id h_t
  obtain ⟨S_t_1, R_t_1, B_t_1, A_t_1_0, S_t_1_1, R_t_1_1, B_t_1_1, Q0_t_1, Q1_t_1, Q2_t_1⟩ := id h_t_1
  obtain ⟨S_t_3, R_t_3, B_t_3, A_t_3_0, S_t_3_1, R_t_3_1, B_t_3_1, Q0_t_3, Q1_t_3, Q2_t_3⟩ := id h_t_3
  obtain ⟨S_t_7, R_t_7, B_t_7, A_t_7_0, S_t_7_1, R_t_7_1, B_t_7_1, Q0_t_7, Q1_t_7, Q2_t_7⟩ := id h_t_7
  obtain ⟨S_t_11, R_t_11, B_t_11, A_t_11_0, S_t_11_1, R_t_11_1, B_t_11_1, Q0_t_11, Q1_t_11, Q2_t_11⟩ := id h_t_11
  obtain ⟨S_t_17, R_t_17, B_t_17, A_t_17_0, S_20, R_20, B_20, A_t_17_1, S_t_17_1, R_t_17_1, B_t_17_1, A_t_17_2, S_t_17_2, R_t_17_2, B_t_17_2, A_t_17_3, S_t_17_3, R_t_17_3, B_t_17_3, A_t_17_4, S_t_17_4, R_t_17_4, B_t_17_4, A_t_17_5, S_t_17_5, R_t_17_5, B_t_17_5, S_t_17_6, R_t_17_6, B_t_17_6, S_t_17_7, R_t_17_7, B_t_17_7⟩ := id h_t_17
  have hD : gv_D (gc_E5 ws0 tb 8 (yX5_spell, cX5_spell, 11, (some .int)) kX5_spell) := gq_ok oX5_spell
  refine gc_ev5 (d := 8) (l := kX5_spell) (Po := fun r h' => (∃ (I' : gr_I) (J' : gr_J), h' = gc_h sh I' J' A ∧ gc_Inv ro I' ∧ (∀ q j : Nat, ((q = 61 ∧ j = 4) ∨ (q = 61 ∧ j = 8) ∨ (q = 61 ∧ j = 9) ∨ (q = 61 ∧ j = 10) ∨ (q = 61 ∧ j = 15) ∨ q = 64 ∨ q = 65 ∨ q = 66 ∨ q = 67 ∨ q = 68 ∨ q = 69 ∨ q = 70 ∨ q = 71 ∨ q = 72 ∨ q = 73 ∨ q = a2) ∨ I' q j = I q j) ∧ (∀ q j : Nat, (False) ∨ J' q j = J q j) ∧ (∃ z : Int, r = some (.inl z) ∧ (-2) ≤ z ∧ z ≤ 60 ∧ (gc_LH σ (-1) I') ∧ (gc_TH (-1) I') ∧ (I' 61 4 = 1) ∧ (z < 0 ∨ gc_wtr I' a2 z)))) htb rfl (Nat.le_of_ble_eq_true rfl) ?_
  have N_55__a2 : ¬ (55 = a2) := by omega
  have N_54__a2 : ¬ (54 = a2) := by omega
  have N_t__73 : ¬ (t = 73) := by omega
  have N_48__a2 : ¬ (48 = a2) := by omega
  have N_t__64 : ¬ (t = 64) := by omega
  have N_t__65 : ¬ (t = 65) := by omega
  have N_t__66 : ¬ (t = 66) := by omega
  have N_t__67 : ¬ (t = 67) := by omega
  have N_t__68 : ¬ (t = 68) := by omega
  have N_t__69 : ¬ (t = 69) := by omega
  have N_t__70 : ¬ (t = 70) := by omega
  have N_t__71 : ¬ (t = 71) := by omega
  have N_t__72 : ¬ (t = 72) := by omega
  have N_t__a2 : ¬ (t = a2) := by omega
  have N_t_15__61 : ¬ ((t + 15) = 61) := by omega
  have N_t_15__64 : ¬ ((t + 15) = 64) := by omega
  have N_t_15__65 : ¬ ((t + 15) = 65) := by omega
  have N_t_15__66 : ¬ ((t + 15) = 66) := by omega
  have N_t_15__67 : ¬ ((t + 15) = 67) := by omega
  have N_t_15__68 : ¬ ((t + 15) = 68) := by omega
  have N_t_15__69 : ¬ ((t + 15) = 69) := by omega
  have N_t_15__70 : ¬ ((t + 15) = 70) := by omega
  have N_t_15__71 : ¬ ((t + 15) = 71) := by omega
  have N_t_15__72 : ¬ ((t + 15) = 72) := by omega
  have N_t_15__73 : ¬ ((t + 15) = 73) := by omega
  have N_t_15__a2 : ¬ ((t + 15) = a2) := by omega
  have N_12__a2 : ¬ (12 = a2) := by omega
  have N_61__a2 : ¬ (61 = a2) := by omega
  have N_67__a2 : ¬ (67 = a2) := by omega
  have N_69__a2 : ¬ (69 = a2) := by omega
  have N_70__a2 : ¬ (70 = a2) := by omega
  have N_72__a2 : ¬ (72 = a2) := by omega
  have f1 := (show 0 ≤ I 48 3 ∧ I 48 3 ≤ 3000 from gc_in hI R_48 rfl rfl)
  have f2 := (show 0 ≤ I 48 6 ∧ I 48 6 ≤ 9000 from gc_in hI R_48 rfl rfl)
  have f3 := (show 0 ≤ I 61 15 ∧ I 61 15 ≤ 16 from gc_in hI R_61 rfl rfl)
  have f4 := (show 0 ≤ I 61 4 ∧ I 61 4 ≤ 1 from gc_in hI R_61 rfl rfl)
  have f5 := (show 0 ≤ I t 13 ∧ I t 13 ≤ 384 from gc_in hI R_t rfl rfl)
  have f6 := (show (-1) ≤ I 61 2 ∧ I 61 2 ≤ 999999 from gc_in hI R_61 rfl rfl)
  have L16 : ∀ (I7 : gr_I) (J8 : gr_J) , gc_Inv ro I7 → (∀ q j : Nat, ((q = 61 ∧ j = 4) ∨ (q = 61 ∧ j = 8) ∨ (q = 61 ∧ j = 9) ∨ (q = 61 ∧ j = 10) ∨ (q = 61 ∧ j = 15) ∨ q = 64 ∨ q = 65 ∨ q = 66 ∨ q = 67 ∨ q = 68 ∨ q = 69 ∨ q = 70 ∨ q = 71 ∨ q = 72 ∨ q = 73 ∨ q = a2) ∨ I7 q j = I q j) → (∀ q j : Nat, (False) ∨ J8 q j = J q j) → gc_LH σ (-1) I7 → gc_TH (-1) I7 → ((I7 48 3 = I 48 3) ∧ (I7 48 6 = I 48 6) ∧ (I7 t 13 = I t 13) ∧ (I7 61 4 = 1) ∧ (I7 61 2 = (t : Int))) → gv_X (gc_E5 ws0 tb 8 (yX5_spell, cX5_spell, 11, (some .int)) kX5_spell) (gv_Q cX5_spell (some .int) sh (fun r h' => (∃ (I' : gr_I) (J' : gr_J), h' = gc_h sh I' J' A ∧ gc_Inv ro I' ∧ (∀ q j : Nat, ((q = 61 ∧ j = 4) ∨ (q = 61 ∧ j = 8) ∨ (q = 61 ∧ j = 9) ∨ (q = 61 ∧ j = 10) ∨ (q = 61 ∧ j = 15) ∨ q = 64 ∨ q = 65 ∨ q = 66 ∨ q = 67 ∨ q = 68 ∨ q = 69 ∨ q = 70 ∨ q = 71 ∨ q = 72 ∨ q = 73 ∨ q = a2) ∨ I' q j = I q j) ∧ (∀ q j : Nat, (False) ∨ J' q j = J q j) ∧ (∃ z : Int, r = some (.inl z) ∧ (-2) ≤ z ∧ z ≤ 60 ∧ (gc_LH σ (-1) I') ∧ (gc_TH (-1) I') ∧ (I' 61 4 = 1) ∧ (z < 0 ∨ gc_wtr I' a2 z))))) (16, [], [], sh, gc_h sh I7 J8 A) := by
    intro I7 J8 hI7 FI7 FJ8 KLH_I7 KTH_I7 m_9
    obtain ⟨e0_9, e1_9, e2_9, e3_9, e4_9⟩ := m_9
    have f10 := (show 0 ≤ I7 48 3 ∧ I7 48 3 ≤ 3000 from gc_in hI7 R_48 rfl rfl)
    have f11 := (show 0 ≤ I7 48 6 ∧ I7 48 6 ≤ 9000 from gc_in hI7 R_48 rfl rfl)
    have f12 := (show 0 ≤ I7 61 15 ∧ I7 61 15 ≤ 16 from gc_in hI7 R_61 rfl rfl)
    have f13 := (show 0 ≤ I7 61 4 ∧ I7 61 4 ≤ 1 from gc_in hI7 R_61 rfl rfl)
    have f14 := (show 0 ≤ I7 t 13 ∧ I7 t 13 ≤ 384 from gc_in hI7 R_t rfl rfl)
    have f15 := (show (-1) ≤ I7 61 2 ∧ I7 61 2 ≤ 999999 from gc_in hI7 R_61 rfl rfl)
    refine gv_run 1 true hD (pc' := 17) (lv' := []) (st' := [.inl (-1)]) (h' := gc_h sh I7 J8 A) (C := (True ∧ True)) rfl ⟨trivial, trivial⟩ ?_
    exact gv_iret hD rfl ⟨I7, J8, rfl, hI7, FI7, FJ8, ⟨_, rfl, by omega, by omega, KLH_I7, KTH_I7, by omega, (Or.inl (by omega))⟩⟩
  have L39 : ∀ (n9 : Nat) (I16 : gr_I) (J17 : gr_J) (v3_18 : Int) (v4_18 : Int), (61 - v3_18).toNat < n9 → gc_Inv ro I16 → (∀ q j : Nat, ((q = 61 ∧ j = 4) ∨ (q = 61 ∧ j = 8) ∨ (q = 61 ∧ j = 9) ∨ (q = 61 ∧ j = 10) ∨ (q = 61 ∧ j = 15) ∨ q = 64 ∨ q = 65 ∨ q = 66 ∨ q = 67 ∨ q = 68 ∨ q = 69 ∨ q = 70 ∨ q = 71 ∨ q = 72 ∨ q = 73 ∨ q = a2) ∨ I16 q j = I q j) → (∀ q j : Nat, (False) ∨ J17 q j = J q j) → gc_LH σ (-1) I16 → gc_TH (-1) I16 → ((0 ≤ v3_18 ∧ v3_18 ≤ 60) ∧ (0 ≤ v4_18 ∧ v4_18 ≤ 181) ∧ (v4_18 ≤ 3 * v3_18 + 1) ∧ (I16 48 3 = I 48 3) ∧ (I16 48 6 = I 48 6) ∧ (I16 t 13 = I t 13) ∧ (I16 61 4 = 1) ∧ (I16 61 2 = (t : Int))) → (gc_ST v4_18 I16) → (gc_pp I16 a2 v3_18) → (gc_op I16 a2 (Int.toNat v3_18) = v4_18) → gv_X (gc_E5 ws0 tb 8 (yX5_spell, cX5_spell, 11, (some .int)) kX5_spell) (gv_Q cX5_spell (some .int) sh (fun r h' => (∃ (I' : gr_I) (J' : gr_J), h' = gc_h sh I' J' A ∧ gc_Inv ro I' ∧ (∀ q j : Nat, ((q = 61 ∧ j = 4) ∨ (q = 61 ∧ j = 8) ∨ (q = 61 ∧ j = 9) ∨ (q = 61 ∧ j = 10) ∨ (q = 61 ∧ j = 15) ∨ q = 64 ∨ q = 65 ∨ q = 66 ∨ q = 67 ∨ q = 68 ∨ q = 69 ∨ q = 70 ∨ q = 71 ∨ q = 72 ∨ q = 73 ∨ q = a2) ∨ I' q j = I q j) ∧ (∀ q j : Nat, (False) ∨ J' q j = J q j) ∧ (∃ z : Int, r = some (.inl z) ∧ (-2) ≤ z ∧ z ≤ 60 ∧ (gc_LH σ (-1) I') ∧ (gc_TH (-1) I') ∧ (I' 61 4 = 1) ∧ (z < 0 ∨ gc_wtr I' a2 z))))) (39, [(0, .inr (.inr (some 61))), (2, .inr (.inr (some a2))), (3, .inl v3_18), (4, .inl v4_18)], [], sh, gc_h sh I16 J17 A) := by
    intro n9
    induction n9 with
    | zero => intro I16 J17 v3_18 v4_18 hn; omega
    | succ n9 ih39 =>
      intro I16 J17 v3_18 v4_18 hn hI16 FI16 FJ17 KLH_I16 KTH_I16 m_18 e0_18 e1_18 e2_18
      obtain ⟨hv3_18, hv4_18, e3_18, e4_18, e5_18, e6_18, e7_18, e8_18⟩ := m_18
      have f19 := (show 0 ≤ I16 48 3 ∧ I16 48 3 ≤ 3000 from gc_in hI16 R_48 rfl rfl)
      have f20 := (show 0 ≤ I16 48 6 ∧ I16 48 6 ≤ 9000 from gc_in hI16 R_48 rfl rfl)
      have f21 := (show 0 ≤ I16 61 15 ∧ I16 61 15 ≤ 16 from gc_in hI16 R_61 rfl rfl)
      have f22 := (show 0 ≤ I16 61 4 ∧ I16 61 4 ≤ 1 from gc_in hI16 R_61 rfl rfl)
      have f23 := (show 0 ≤ I16 t 13 ∧ I16 t 13 ≤ 384 from gc_in hI16 R_t rfl rfl)
      have f24 := (show (-1) ≤ I16 61 2 ∧ I16 61 2 ≤ 999999 from gc_in hI16 R_61 rfl rfl)
      have L105 : ∀ (n9 : Nat) (I25 : gr_I) (J26 : gr_J) (v3_27 : Int) (v4_27 : Int) (v5_27 : Int) (v6_27 : Int) (v7_27 : Int) (v8_27 : Int), (182 - v4_27).toNat < n9 → gc_Inv ro I25 → (∀ q j : Nat, ((q = 61 ∧ j = 4) ∨ (q = 61 ∧ j = 8) ∨ (q = 61 ∧ j = 9) ∨ (q = 61 ∧ j = 10) ∨ (q = 61 ∧ j = 15) ∨ q = 64 ∨ q = 65 ∨ q = 66 ∨ q = 67 ∨ q = 68 ∨ q = 69 ∨ q = 70 ∨ q = 71 ∨ q = 72 ∨ q = 73 ∨ q = a2) ∨ I25 q j = I q j) → (∀ q j : Nat, (False) ∨ J26 q j = J q j) → gc_LH σ (-1) I25 → gc_TH (-1) I25 → ((1 ≤ v3_27 ∧ v3_27 ≤ 60) ∧ (0 ≤ v4_27 ∧ v4_27 ≤ 181) ∧ (0 ≤ v5_27 ∧ v5_27 ≤ 47999) ∧ (0 ≤ v6_27 ∧ v6_27 ≤ 8999) ∧ ((-384) ≤ v7_27 ∧ v7_27 ≤ 1535) ∧ ((-1) ≤ v8_27 ∧ v8_27 ≤ 3) ∧ (v4_27 + v8_27 + 1 ≤ 3 * v3_27 + 1) ∧ (v6_27 < I 48 6) ∧ (v7_27 = I 54 (Int.toNat v6_27)) ∧ (v8_27 < gc_ws σ I (Int.toNat v6_27)) ∧ (v8_27 ≤ 3) ∧ (1 ≤ v3_27) ∧ (v3_18 < v3_27) ∧ (I25 48 3 = I 48 3) ∧ (I25 48 6 = I 48 6) ∧ (I25 t 13 = I t 13) ∧ (I25 61 4 = 1) ∧ (I25 61 2 = (t : Int))) → (gc_ST v4_27 I25) → (gc_pp I25 a2 v3_27) → (gc_op I25 a2 (Int.toNat v3_27) = v4_27 + v8_27 + 1) → (gc_va σ I25 v6_27 (I25 70 (Int.toNat v5_27))) → gv_X (gc_E5 ws0 tb 8 (yX5_spell, cX5_spell, 11, (some .int)) kX5_spell) (gv_Q cX5_spell (some .int) sh (fun r h' => (∃ (I' : gr_I) (J' : gr_J), h' = gc_h sh I' J' A ∧ gc_Inv ro I' ∧ (∀ q j : Nat, ((q = 61 ∧ j = 4) ∨ (q = 61 ∧ j = 8) ∨ (q = 61 ∧ j = 9) ∨ (q = 61 ∧ j = 10) ∨ (q = 61 ∧ j = 15) ∨ q = 64 ∨ q = 65 ∨ q = 66 ∨ q = 67 ∨ q = 68 ∨ q = 69 ∨ q = 70 ∨ q = 71 ∨ q = 72 ∨ q = 73 ∨ q = a2) ∨ I' q j = I q j) ∧ (∀ q j : Nat, (False) ∨ J' q j = J q j) ∧ (∃ z : Int, r = some (.inl z) ∧ (-2) ≤ z ∧ z ≤ 60 ∧ (gc_LH σ (-1) I') ∧ (gc_TH (-1) I') ∧ (I' 61 4 = 1) ∧ (z < 0 ∨ gc_wtr I' a2 z))))) (105, [(0, .inr (.inr (some 61))), (2, .inr (.inr (some a2))), (3, .inl v3_27), (4, .inl v4_27), (5, .inl v5_27), (6, .inl v6_27), (7, .inl v7_27), (8, .inl v8_27)], [], sh, gc_h sh I25 J26 A) := by
        intro n9
        induction n9 with
        | zero => intro I25 J26 v3_27 v4_27 v5_27 v6_27 v7_27 v8_27 hn; omega
        | succ n9 ih105 =>
          intro I25 J26 v3_27 v4_27 v5_27 v6_27 v7_27 v8_27 hn hI25 FI25 FJ26 KLH_I25 KTH_I25 m_27 e0_27 e1_27 e2_27 e3_27
          clear hv3_18 hv4_18 e3_18 e4_18 e5_18 e6_18 e7_18 e8_18 f19 f20 f21 f22 f23 f24
          obtain ⟨hv3_27, hv4_27, hv5_27, hv6_27, hv7_27, hv8_27, e4_27, e5_27, e6_27, e7_27, e8_27, e9_27, e10_27, e11_27, e12_27, e13_27, e14_27, e15_27⟩ := m_27
          have f28 := (show 0 ≤ I25 48 3 ∧ I25 48 3 ≤ 3000 from gc_in hI25 R_48 rfl rfl)
          have f29 := (show 0 ≤ I25 48 6 ∧ I25 48 6 ≤ 9000 from gc_in hI25 R_48 rfl rfl)
          have f30 := (show 0 ≤ I25 61 15 ∧ I25 61 15 ≤ 16 from gc_in hI25 R_61 rfl rfl)
          have f31 := (show 0 ≤ I25 61 4 ∧ I25 61 4 ≤ 1 from gc_in hI25 R_61 rfl rfl)
          have f32 := (show 0 ≤ I25 t 13 ∧ I25 t 13 ≤ 384 from gc_in hI25 R_t rfl rfl)
          have f33 := (show (-1) ≤ I25 61 2 ∧ I25 61 2 ≤ 999999 from gc_in hI25 R_61 rfl rfl)
          refine gv_run 1 true hD (pc' := 107) (lv' := [(0, .inr (.inr (some 61))), (2, .inr (.inr (some a2))), (3, .inl v3_27), (4, .inl v4_27), (5, .inl v5_27), (6, .inl v6_27), (7, .inl v7_27), (8, .inl v8_27)]) (st' := [.inl v8_27]) (h' := gc_h sh I25 J26 A) (C := (True ∧ True)) rfl ⟨trivial, trivial⟩ ?_
          refine gv_if_lt (t := 184) hD rfl rfl ⟨by omega, by omega⟩ (fun c34 => ?_) (fun c34 => ?_)
          · show gv_X _ _ (184, [(0, .inr (.inr (some 61))), (2, .inr (.inr (some a2))), (3, .inl v3_27), (4, .inl v4_27), (5, .inl v5_27), (6, .inl v6_27), (7, .inl v7_27), (8, .inl v8_27)], [], sh, gc_h sh I25 J26 A)
            refine gv_run 1 true hD (pc' := 39) (lv' := [(0, .inr (.inr (some 61))), (2, .inr (.inr (some a2))), (3, .inl v3_27), (4, .inl v4_27), (5, .inl v5_27), (6, .inl v6_27), (7, .inl v7_27), (8, .inl v8_27)]) (st' := []) (h' := gc_h sh I25 J26 A) (C := (True ∧ True)) rfl ⟨trivial, trivial⟩ ?_
            refine gv_pick [0, 1, 2, 3] rfl ?_
            exact ih39 I25 J26 v3_27 v4_27 (by omega) hI25 FI25 FJ26 KLH_I25 KTH_I25 (by omega) e0_27 e1_27 (by omega)
          · show gv_X _ _ (110, [(0, .inr (.inr (some 61))), (2, .inr (.inr (some a2))), (3, .inl v3_27), (4, .inl v4_27), (5, .inl v5_27), (6, .inl v6_27), (7, .inl v7_27), (8, .inl v8_27)], [], sh, gc_h sh I25 J26 A)
            have t35 := gc_ws_neg (σ := σ) (I := I) (k := Int.toNat v6_27) (by omega)
            have t36 := x1 (Int.toNat v6_27) (by omega)
            refine gv_run 1 true hD (pc' := 111) (lv' := [(0, .inr (.inr (some 61))), (2, .inr (.inr (some a2))), (3, .inl v3_27), (4, .inl v4_27), (5, .inl v5_27), (6, .inl v6_27), (7, .inl v7_27), (8, .inl v8_27)]) (st' := [.inr (.inr (some 61))]) (h' := gc_h sh I25 J26 A) (C := (True ∧ True)) rfl ⟨trivial, trivial⟩ ?_
            refine gv_get hD rfl rfl S_61 ⟨by decide, B_61⟩ (gc_h5 (t := t) S_61 rfl (by omega)) ?_
            show gv_X _ _ (114, [(0, .inr (.inr (some 61))), (2, .inr (.inr (some a2))), (3, .inl v3_27), (4, .inl v4_27), (5, .inl v5_27), (6, .inl v6_27), (7, .inl v7_27), (8, .inl v8_27)], [.inr (.inr (some t))], sh, gc_h sh I25 J26 A)
            refine gv_get hD rfl rfl S_t ⟨by decide, B_t⟩ (gc_hA S_t rfl A_t_14) ?_
            show gv_X _ _ (117, [(0, .inr (.inr (some 61))), (2, .inr (.inr (some a2))), (3, .inl v3_27), (4, .inl v4_27), (5, .inl v5_27), (6, .inl v6_27), (7, .inl v7_27), (8, .inl v8_27)], [.inr (.inr (some (t + 16)))], sh, gc_h sh I25 J26 A)
            refine gv_run 3 true hD (pc' := 121) (lv' := [(0, .inr (.inr (some 61))), (2, .inr (.inr (some a2))), (3, .inl v3_27), (4, .inl v4_27), (5, .inl v5_27), (6, .inl v6_27), (7, .inl v7_27), (8, .inl v8_27)]) (st' := [.inl ((-1) - v7_27), .inr (.inr (some (t + 16)))]) (h' := gc_h sh I25 J26 A) (C := (((True ∧ True) ∧ True) ∧ True)) rfl ⟨⟨⟨trivial, trivial⟩, trivial⟩, trivial⟩ ?_
            obtain ⟨t37_, A_t37, h_t37, G_t37, U_t37, V_t37⟩ := (gc_Ls_fr x0 ((FI25 t 13).resolve_left (by omega)) (fun q hL hq d k hd => (FI25 (q + d) k).resolve_left (by have := gc_dj_LT hL h_t; omega))) (Int.toNat (((-1) - v7_27))) (by omega)
            obtain ⟨S_t37, R_t37, B_t37, A_t37_5, S_t37__1, R_t37__1, B_t37__1, A_t37_6, S_t37__2, R_t37__2, B_t37__2, A_t37_7, S_t37__3, R_t37__3, B_t37__3, A_t37_9, S_t37__4, R_t37__4, B_t37__4, A_t37_10, S_t37__5, R_t37__5, B_t37__5, A_t37_11, S_t37__6, R_t37__6, B_t37__6, A_t37_13, S_t37__7, R_t37__7, B_t37__7, A_t37_15, S_t37__8, R_t37__8, B_t37__8⟩ := id h_t37
            refine gv_aald hD rfl S_t_16 ⟨by decide, by decide⟩ ⟨by decide, B_t_16⟩ ⟨by omega, by omega⟩ ((gc_aA S_t_16 rfl).trans A_t37) ?_
            show gv_X _ _ (122, [(0, .inr (.inr (some 61))), (2, .inr (.inr (some a2))), (3, .inl v3_27), (4, .inl v4_27), (5, .inl v5_27), (6, .inl v6_27), (7, .inl v7_27), (8, .inl v8_27)], [.inr (.inr (some t37_))], sh, gc_h sh I25 J26 A)
            refine gv_get hD rfl rfl S_t37 ⟨by decide, B_t37⟩ (gc_hA S_t37 rfl A_t37_11) ?_
            show gv_X _ _ (125, [(0, .inr (.inr (some 61))), (2, .inr (.inr (some a2))), (3, .inl v3_27), (4, .inl v4_27), (5, .inl v5_27), (6, .inl v6_27), (7, .inl v7_27), (8, .inl v8_27)], [.inr (.inr (some (t37_ + 6)))], sh, gc_h sh I25 J26 A)
            refine gv_run 1 true hD (pc' := 127) (lv' := [(0, .inr (.inr (some 61))), (2, .inr (.inr (some a2))), (3, .inl v3_27), (4, .inl v4_27), (5, .inl v5_27), (6, .inl v6_27), (7, .inl v7_27), (8, .inl v8_27)]) (st' := [.inl v8_27, .inr (.inr (some (t37_ + 6)))]) (h' := gc_h sh I25 J26 A) (C := (True ∧ True)) rfl ⟨trivial, trivial⟩ ?_
            have f38 := (show (-1) ≤ I25 (t37_ + 6) (Int.toNat v8_27) ∧ I25 (t37_ + 6) (Int.toNat v8_27) ≤ 3 from gc_in hI25 R_t37__6 rfl rfl)
            refine gv_iald hD rfl S_t37__6 rfl ⟨by decide, B_t37__6⟩ ⟨by omega, by omega⟩ (gc_iI S_t37__6 rfl) ?_
            show gv_X _ _ (128, [(0, .inr (.inr (some 61))), (2, .inr (.inr (some a2))), (3, .inl v3_27), (4, .inl v4_27), (5, .inl v5_27), (6, .inl v6_27), (7, .inl v7_27), (8, .inl v8_27)], [.inl (I25 (t37_ + 6) (Int.toNat v8_27))], sh, gc_h sh I25 J26 A)
            refine gv_run 1 true hD (pc' := 130) (lv' := [(9, .inl (I25 (t37_ + 6) (Int.toNat v8_27))), (0, .inr (.inr (some 61))), (2, .inr (.inr (some a2))), (3, .inl v3_27), (4, .inl v4_27), (5, .inl v5_27), (6, .inl v6_27), (7, .inl v7_27), (8, .inl v8_27)]) (st' := []) (h' := gc_h sh I25 J26 A) (C := (True ∧ True)) rfl ⟨trivial, trivial⟩ ?_
            have t39 := x2 (Int.toNat (((-1) - v7_27))) t37_ (by omega) A_t37
            have t40 := (show σ (Int.toNat (((-1) - v7_27))) = gc_ws σ I (Int.toNat v6_27) from by rw [(gc_ws_neg (σ := σ) (I := I) (k := Int.toNat v6_27) (by omega)).2, show (((-1) - v7_27)) = -1 - I 54 (Int.toNat v6_27) from by omega])
            have t41 := x9 (Int.toNat (((-1) - v7_27))) t37_ (by omega) A_t37 v8_27 (by omega) (by omega)
            have t42 := (FI25 (t37_ + 6) (Int.toNat v8_27)).resolve_left (by omega)
            refine gv_run 1 true hD (pc' := 131) (lv' := [(9, .inl (I25 (t37_ + 6) (Int.toNat v8_27))), (0, .inr (.inr (some 61))), (2, .inr (.inr (some a2))), (3, .inl v3_27), (4, .inl v4_27), (5, .inl v5_27), (6, .inl v6_27), (7, .inl v7_27), (8, .inl v8_27)]) (st' := [.inr (.inr (some 61))]) (h' := gc_h sh I25 J26 A) (C := (True ∧ True)) rfl ⟨trivial, trivial⟩ ?_
            refine gv_get hD rfl rfl S_61 ⟨by decide, B_61⟩ (gc_hA S_61 rfl A_61_1) ?_
            show gv_X _ _ (134, [(9, .inl (I25 (t37_ + 6) (Int.toNat v8_27))), (0, .inr (.inr (some 61))), (2, .inr (.inr (some a2))), (3, .inl v3_27), (4, .inl v4_27), (5, .inl v5_27), (6, .inl v6_27), (7, .inl v7_27), (8, .inl v8_27)], [.inr (.inr (some 48))], sh, gc_h sh I25 J26 A)
            refine gv_get hD rfl rfl S_48 ⟨by decide, B_48⟩ (gc_hA S_48 rfl A_48_9) ?_
            show gv_X _ _ (137, [(9, .inl (I25 (t37_ + 6) (Int.toNat v8_27))), (0, .inr (.inr (some 61))), (2, .inr (.inr (some a2))), (3, .inl v3_27), (4, .inl v4_27), (5, .inl v5_27), (6, .inl v6_27), (7, .inl v7_27), (8, .inl v8_27)], [.inr (.inr (some 55))], sh, gc_h sh I25 J26 A)
            refine gv_run 5 true hD (pc' := 144) (lv' := [(9, .inl (I25 (t37_ + 6) (Int.toNat v8_27))), (0, .inr (.inr (some 61))), (2, .inr (.inr (some a2))), (3, .inl v3_27), (4, .inl v4_27), (5, .inl v5_27), (6, .inl v6_27), (7, .inl v7_27), (8, .inl v8_27)]) (st' := [.inl ((v6_27 * 4) + (I25 (t37_ + 6) (Int.toNat v8_27))), .inr (.inr (some 55))]) (h' := gc_h sh I25 J26 A) (C := (((((True ∧ True) ∧ True) ∧ True) ∧ True) ∧ True)) rfl ⟨⟨⟨⟨⟨trivial, trivial⟩, trivial⟩, trivial⟩, trivial⟩, trivial⟩ ?_
            have f43 := (show 0 ≤ I25 55 (Int.toNat (((v6_27 * 4) + (I25 (t37_ + 6) (Int.toNat v8_27))))) ∧ I25 55 (Int.toNat (((v6_27 * 4) + (I25 (t37_ + 6) (Int.toNat v8_27))))) ≤ 2999 from gc_in hI25 R_55 rfl rfl)
            refine gv_iald hD rfl S_55 rfl ⟨by decide, B_55⟩ ⟨by omega, by omega⟩ (gc_iI S_55 rfl) ?_
            show gv_X _ _ (145, [(9, .inl (I25 (t37_ + 6) (Int.toNat v8_27))), (0, .inr (.inr (some 61))), (2, .inr (.inr (some a2))), (3, .inl v3_27), (4, .inl v4_27), (5, .inl v5_27), (6, .inl v6_27), (7, .inl v7_27), (8, .inl v8_27)], [.inl (I25 55 (Int.toNat (((v6_27 * 4) + (I25 (t37_ + 6) (Int.toNat v8_27))))))], sh, gc_h sh I25 J26 A)
            refine gv_run 1 true hD (pc' := 147) (lv' := [(10, .inl (I25 55 (Int.toNat (((v6_27 * 4) + (I25 (t37_ + 6) (Int.toNat v8_27))))))), (9, .inl (I25 (t37_ + 6) (Int.toNat v8_27))), (0, .inr (.inr (some 61))), (2, .inr (.inr (some a2))), (3, .inl v3_27), (4, .inl v4_27), (5, .inl v5_27), (6, .inl v6_27), (7, .inl v7_27), (8, .inl v8_27)]) (st' := []) (h' := gc_h sh I25 J26 A) (C := (True ∧ True)) rfl ⟨trivial, trivial⟩ ?_
            have t44 := (x3 (Int.toNat v6_27) (by omega)).2 (by omega) ((I25 (t37_ + 6) (Int.toNat v8_27))) (by omega) (by omega) (by rw [← (gc_ws_neg (σ := σ) (I := I) (k := Int.toNat v6_27) (by omega)).2]; omega)
            have t45 := (show I25 55 (Int.toNat ((v6_27 * 4) + ((I25 (t37_ + 6) (Int.toNat v8_27))))) = I 55 (Int.toNat (((Int.toNat v6_27 : Nat) : Int) * 4 + ((I25 (t37_ + 6) (Int.toNat v8_27))))) from by rw [show ((Int.toNat v6_27 : Nat) : Int) = v6_27 from by omega]; exact (FI25 55 _).resolve_left (fun h => h.elim (fun h => absurd h.1 (by decide)) (fun h => h.elim (fun h => absurd h.1 (by decide)) (fun h => h.elim (fun h => absurd h.1 (by decide)) (fun h => h.elim (fun h => absurd h.1 (by decide)) (fun h => h.elim (fun h => absurd h.1 (by decide)) (fun h => h.elim (fun h => absurd h (by decide)) (fun h => h.elim (fun h => absurd h (by decide)) (fun h => h.elim (fun h => absurd h (by decide)) (fun h => h.elim (fun h => absurd h (by decide)) (fun h => h.elim (fun h => absurd h (by decide)) (fun h => h.elim (fun h => absurd h (by decide)) (fun h => h.elim (fun h => absurd h (by decide)) (fun h => h.elim (fun h => absurd h (by decide)) (fun h => h.elim (fun h => absurd h (by decide)) (fun h => h.elim (fun h => absurd h (by decide)) (fun h => absurd h N_55__a2)))))))))))))))))
            refine gv_run 1 true hD (pc' := 148) (lv' := [(10, .inl (I25 55 (Int.toNat (((v6_27 * 4) + (I25 (t37_ + 6) (Int.toNat v8_27))))))), (9, .inl (I25 (t37_ + 6) (Int.toNat v8_27))), (0, .inr (.inr (some 61))), (2, .inr (.inr (some a2))), (3, .inl v3_27), (4, .inl v4_27), (5, .inl v5_27), (6, .inl v6_27), (7, .inl v7_27), (8, .inl v8_27)]) (st' := [.inr (.inr (some 61))]) (h' := gc_h sh I25 J26 A) (C := (True ∧ True)) rfl ⟨trivial, trivial⟩ ?_
            refine gv_get hD rfl rfl S_61 ⟨by decide, B_61⟩ (gc_hA S_61 rfl A_61_18) ?_
            show gv_X _ _ (151, [(10, .inl (I25 55 (Int.toNat (((v6_27 * 4) + (I25 (t37_ + 6) (Int.toNat v8_27))))))), (9, .inl (I25 (t37_ + 6) (Int.toNat v8_27))), (0, .inr (.inr (some 61))), (2, .inr (.inr (some a2))), (3, .inl v3_27), (4, .inl v4_27), (5, .inl v5_27), (6, .inl v6_27), (7, .inl v7_27), (8, .inl v8_27)], [.inr (.inr (some 73))], sh, gc_h sh I25 J26 A)
            refine gv_run 6 true hD (pc' := 162) (lv' := [(4, .inl (v4_27 + 1)), (10, .inl (I25 55 (Int.toNat (((v6_27 * 4) + (I25 (t37_ + 6) (Int.toNat v8_27))))))), (9, .inl (I25 (t37_ + 6) (Int.toNat v8_27))), (0, .inr (.inr (some 61))), (2, .inr (.inr (some a2))), (3, .inl v3_27), (5, .inl v5_27), (6, .inl v6_27), (7, .inl v7_27), (8, .inl v8_27)]) (st' := [.inr (.inr (some 61)), .inl ((I25 55 (Int.toNat (((v6_27 * 4) + (I25 (t37_ + 6) (Int.toNat v8_27)))))) * 16), .inl v4_27, .inr (.inr (some 73))]) (h' := gc_h sh I25 J26 A) (C := ((((((True ∧ True) ∧ True) ∧ True) ∧ True) ∧ True) ∧ True)) rfl ⟨⟨⟨⟨⟨⟨trivial, trivial⟩, trivial⟩, trivial⟩, trivial⟩, trivial⟩, trivial⟩ ?_
            refine gv_get hD rfl rfl S_61 ⟨by decide, B_61⟩ (gc_hA S_61 rfl A_61_14) ?_
            show gv_X _ _ (165, [(4, .inl (v4_27 + 1)), (10, .inl (I25 55 (Int.toNat (((v6_27 * 4) + (I25 (t37_ + 6) (Int.toNat v8_27))))))), (9, .inl (I25 (t37_ + 6) (Int.toNat v8_27))), (0, .inr (.inr (some 61))), (2, .inr (.inr (some a2))), (3, .inl v3_27), (5, .inl v5_27), (6, .inl v6_27), (7, .inl v7_27), (8, .inl v8_27)], [.inr (.inr (some 70)), .inl ((I25 55 (Int.toNat (((v6_27 * 4) + (I25 (t37_ + 6) (Int.toNat v8_27)))))) * 16), .inl v4_27, .inr (.inr (some 73))], sh, gc_h sh I25 J26 A)
            refine gv_run 1 true hD (pc' := 167) (lv' := [(4, .inl (v4_27 + 1)), (10, .inl (I25 55 (Int.toNat (((v6_27 * 4) + (I25 (t37_ + 6) (Int.toNat v8_27))))))), (9, .inl (I25 (t37_ + 6) (Int.toNat v8_27))), (0, .inr (.inr (some 61))), (2, .inr (.inr (some a2))), (3, .inl v3_27), (5, .inl v5_27), (6, .inl v6_27), (7, .inl v7_27), (8, .inl v8_27)]) (st' := [.inl v5_27, .inr (.inr (some 70)), .inl ((I25 55 (Int.toNat (((v6_27 * 4) + (I25 (t37_ + 6) (Int.toNat v8_27)))))) * 16), .inl v4_27, .inr (.inr (some 73))]) (h' := gc_h sh I25 J26 A) (C := (True ∧ True)) rfl ⟨trivial, trivial⟩ ?_
            have f46 := (show 0 ≤ I25 70 (Int.toNat v5_27) ∧ I25 70 (Int.toNat v5_27) ≤ 65535 from gc_in hI25 R_70 rfl rfl)
            refine gv_iald hD rfl S_70 rfl ⟨by decide, B_70⟩ ⟨by omega, by omega⟩ (gc_iI S_70 rfl) ?_
            show gv_X _ _ (168, [(4, .inl (v4_27 + 1)), (10, .inl (I25 55 (Int.toNat (((v6_27 * 4) + (I25 (t37_ + 6) (Int.toNat v8_27))))))), (9, .inl (I25 (t37_ + 6) (Int.toNat v8_27))), (0, .inr (.inr (some 61))), (2, .inr (.inr (some a2))), (3, .inl v3_27), (5, .inl v5_27), (6, .inl v6_27), (7, .inl v7_27), (8, .inl v8_27)], [.inl (I25 70 (Int.toNat v5_27)), .inl ((I25 55 (Int.toNat (((v6_27 * 4) + (I25 (t37_ + 6) (Int.toNat v8_27)))))) * 16), .inl v4_27, .inr (.inr (some 73))], sh, gc_h sh I25 J26 A)
            have f47 := gw_shr (x := ((I25 70 (Int.toNat v5_27)))) (y := ((4 * (I25 (t37_ + 6) (Int.toNat v8_27))))) ⟨by omega, by omega⟩
            have f48 := gw_and (x := (((Int32.ofInt ((I25 70 (Int.toNat v5_27))) >>> (Int32.ofInt ((4 * (I25 (t37_ + 6) (Int.toNat v8_27)))) &&& 31)).toInt))) (y := 15) ⟨by omega, by omega⟩
            refine gv_run 6 true hD (pc' := 176) (lv' := [(4, .inl (v4_27 + 1)), (10, .inl (I25 55 (Int.toNat (((v6_27 * 4) + (I25 (t37_ + 6) (Int.toNat v8_27))))))), (9, .inl (I25 (t37_ + 6) (Int.toNat v8_27))), (0, .inr (.inr (some 61))), (2, .inr (.inr (some a2))), (3, .inl v3_27), (5, .inl v5_27), (6, .inl v6_27), (7, .inl v7_27), (8, .inl v8_27)]) (st' := [.inl ((Int32.ofInt (((Int32.ofInt ((I25 70 (Int.toNat v5_27))) >>> (Int32.ofInt ((4 * (I25 (t37_ + 6) (Int.toNat v8_27)))) &&& 31)).toInt)) &&& Int32.ofInt 15).toInt), .inl ((I25 55 (Int.toNat (((v6_27 * 4) + (I25 (t37_ + 6) (Int.toNat v8_27)))))) * 16), .inl v4_27, .inr (.inr (some 73))]) (h' := gc_h sh I25 J26 A) (C := ((((((True ∧ True) ∧ True) ∧ True) ∧ True) ∧ True) ∧ True)) rfl ⟨⟨⟨⟨⟨⟨trivial, trivial⟩, trivial⟩, trivial⟩, trivial⟩, trivial⟩, trivial⟩ ?_
            have t49 := gc_dgx (z := I25 70 (Int.toNat v5_27)) (s := ((I25 (t37_ + 6) (Int.toNat v8_27)))) ⟨by omega, by omega⟩ ⟨by omega, by omega⟩
            have t50 := e3_27.2 ((I25 (t37_ + 6) (Int.toNat v8_27))) (by omega) (by omega) (by rw [gc_ws_fr (fun k => (FI25 54 k).resolve_left (fun h => h.elim (fun h => absurd h.1 (by decide)) (fun h => h.elim (fun h => absurd h.1 (by decide)) (fun h => h.elim (fun h => absurd h.1 (by decide)) (fun h => h.elim (fun h => absurd h.1 (by decide)) (fun h => h.elim (fun h => absurd h.1 (by decide)) (fun h => h.elim (fun h => absurd h (by decide)) (fun h => h.elim (fun h => absurd h (by decide)) (fun h => h.elim (fun h => absurd h (by decide)) (fun h => h.elim (fun h => absurd h (by decide)) (fun h => h.elim (fun h => absurd h (by decide)) (fun h => h.elim (fun h => absurd h (by decide)) (fun h => h.elim (fun h => absurd h (by decide)) (fun h => h.elim (fun h => absurd h (by decide)) (fun h => h.elim (fun h => absurd h (by decide)) (fun h => h.elim (fun h => absurd h (by decide)) (fun h => absurd h N_54__a2)))))))))))))))))]; omega)
            refine gv_run 1 true hD (pc' := 177) (lv' := [(4, .inl (v4_27 + 1)), (10, .inl (I25 55 (Int.toNat (((v6_27 * 4) + (I25 (t37_ + 6) (Int.toNat v8_27))))))), (9, .inl (I25 (t37_ + 6) (Int.toNat v8_27))), (0, .inr (.inr (some 61))), (2, .inr (.inr (some a2))), (3, .inl v3_27), (5, .inl v5_27), (6, .inl v6_27), (7, .inl v7_27), (8, .inl v8_27)]) (st' := [.inl (((I25 55 (Int.toNat (((v6_27 * 4) + (I25 (t37_ + 6) (Int.toNat v8_27)))))) * 16) + ((Int32.ofInt (((Int32.ofInt ((I25 70 (Int.toNat v5_27))) >>> (Int32.ofInt ((4 * (I25 (t37_ + 6) (Int.toNat v8_27)))) &&& 31)).toInt)) &&& Int32.ofInt 15).toInt)), .inl v4_27, .inr (.inr (some 73))]) (h' := gc_h sh I25 J26 A) (C := (True ∧ True)) rfl ⟨trivial, trivial⟩ ?_
            refine gv_iast hD rfl S_73 ⟨by decide, B_73⟩ ⟨by omega, by omega⟩ ?_
            refine gc_st hI25 S_73 rfl R_73 (lo := 0) (hi := 47999) rfl rfl (by omega) (by omega) (fun I51 hI51 q52 p52 => ?_)
            have FI51 := gc_frs (W := fun q j => (q = 61 ∧ j = 4) ∨ (q = 61 ∧ j = 8) ∨ (q = 61 ∧ j = 9) ∨ (q = 61 ∧ j = 10) ∨ (q = 61 ∧ j = 15) ∨ q = 64 ∨ q = 65 ∨ q = 66 ∨ q = 67 ∨ q = 68 ∨ q = 69 ∨ q = 70 ∨ q = 71 ∨ q = 72 ∨ q = 73 ∨ q = a2) FI25 (Or.inr (Or.inr (Or.inr (Or.inr (Or.inr (Or.inr (Or.inr (Or.inr (Or.inr (Or.inr (Or.inr (Or.inr (Or.inr (Or.inr (Or.inl rfl))))))))))))))) p52
            have t53 := p52 48 3 (fun h => absurd h.1 (by decide))
            have t54 := p52 48 6 (fun h => absurd h.1 (by decide))
            have t55 := p52 61 15 (fun h => absurd h.1 (by decide))
            have t56 := p52 61 4 (fun h => absurd h.1 (by decide))
            have t57 := p52 t 13 (fun h => absurd h.1 N_t__73)
            have t58 := p52 61 2 (fun h => absurd h.1 (by decide))
            have KLH_I51 := gc_LH_fr KLH_I25 (p52 48 6 (fun h => absurd h.1 (by decide))) (p52 48 3 (fun h => absurd h.1 (by decide))) (fun k => p52 54 k (fun h => absurd h.1 (by decide))) (fun k => p52 55 k (fun h => absurd h.1 (by decide))) (fun k => p52 67 k (fun h => absurd h.1 (by decide))) (fun k => p52 69 k (fun h => absurd h.1 (by decide))) (fun k => p52 70 k (fun h => absurd h.1 (by decide)))
            have KTH_I51 := gc_TH_fr KTH_I25 (p52 61 15 (fun h => absurd h.1 (by decide))) (p52 48 3 (fun h => absurd h.1 (by decide))) (fun k => p52 67 k (fun h => absurd h.1 (by decide))) (fun k => p52 72 k (fun h => absurd h.1 (by decide)))
            show gv_X _ _ (178, [(4, .inl (v4_27 + 1)), (10, .inl (I25 55 (Int.toNat (((v6_27 * 4) + (I25 (t37_ + 6) (Int.toNat v8_27))))))), (9, .inl (I25 (t37_ + 6) (Int.toNat v8_27))), (0, .inr (.inr (some 61))), (2, .inr (.inr (some a2))), (3, .inl v3_27), (5, .inl v5_27), (6, .inl v6_27), (7, .inl v7_27), (8, .inl v8_27)], [], sh, gc_h sh I51 J26 A)
            refine gv_run 2 true hD (pc' := 105) (lv' := [(8, .inl (v8_27 + (-1))), (4, .inl (v4_27 + 1)), (10, .inl (I25 55 (Int.toNat (((v6_27 * 4) + (I25 (t37_ + 6) (Int.toNat v8_27))))))), (9, .inl (I25 (t37_ + 6) (Int.toNat v8_27))), (0, .inr (.inr (some 61))), (2, .inr (.inr (some a2))), (3, .inl v3_27), (5, .inl v5_27), (6, .inl v6_27), (7, .inl v7_27)]) (st' := []) (h' := gc_h sh I51 J26 A) (C := ((True ∧ True) ∧ True)) rfl ⟨⟨trivial, trivial⟩, trivial⟩ ?_
            refine gv_pick [4, 5, 6, 1, 7, 8, 9, 0] rfl ?_
            exact ih105 I51 J26 v3_27 (v4_27 + 1) v5_27 v6_27 v7_27 ((v8_27 + (-1))) (by omega) hI51 FI51 FJ26 KLH_I51 KTH_I51 (by omega) (gc_ST_push e0_27 (by omega) p52 (by rw [q52]; exact (show gc_le I25 _ from ⟨by omega, by omega, by omega, by rw [show Int.toNat (((((I25 55 (Int.toNat (((v6_27 * 4) + (I25 (t37_ + 6) (Int.toNat v8_27))))))) * 16) + (((Int32.ofInt (((Int32.ofInt ((I25 70 (Int.toNat v5_27))) >>> (Int32.ofInt ((4 * (I25 (t37_ + 6) (Int.toNat v8_27)))) &&& 31)).toInt)) &&& Int32.ofInt 15).toInt))) / 16) = Int.toNat ((I25 55 (Int.toNat (((v6_27 * 4) + (I25 (t37_ + 6) (Int.toNat v8_27))))))) from by omega]; omega⟩))) (gc_pp_fr e1_27 (fun k => (p52 a2 k (fun h => absurd h.1 (by omega)))) (fun k => (p52 12 k (fun h => absurd h.1 (by omega))))) (by rw [gc_op_fr (fun k _ => (p52 a2 k (fun h => absurd h.1 (by omega)))) (fun k => (p52 12 k (fun h => absurd h.1 (by omega))))]; omega) (by rw [show I51 70 (Int.toNat v5_27) = I25 70 (Int.toNat v5_27) from (p52 70 _ (fun h => absurd h.1 (by omega)))]; exact gc_va_fr e3_27 ((p52 48 6 (fun h => absurd h.1 (by omega)))) (fun k => (p52 54 k (fun h => absurd h.1 (by omega)))) (fun k => (p52 55 k (fun h => absurd h.1 (by omega)))) (fun k => by rw [show I51 67 k = I25 67 k from (p52 67 k (fun h => absurd h.1 (by omega)))]; omega))
      have L187 : ((0 ≤ v3_18 ∧ v3_18 ≤ 60) ∧ (0 ≤ v4_18 ∧ v4_18 ≤ 181) ∧ (I16 48 3 = I 48 3) ∧ (I16 48 6 = I 48 6) ∧ (I16 t 13 = I t 13) ∧ (I16 61 4 = 1) ∧ (I16 61 2 = (t : Int))) → gv_X (gc_E5 ws0 tb 8 (yX5_spell, cX5_spell, 11, (some .int)) kX5_spell) (gv_Q cX5_spell (some .int) sh (fun r h' => (∃ (I' : gr_I) (J' : gr_J), h' = gc_h sh I' J' A ∧ gc_Inv ro I' ∧ (∀ q j : Nat, ((q = 61 ∧ j = 4) ∨ (q = 61 ∧ j = 8) ∨ (q = 61 ∧ j = 9) ∨ (q = 61 ∧ j = 10) ∨ (q = 61 ∧ j = 15) ∨ q = 64 ∨ q = 65 ∨ q = 66 ∨ q = 67 ∨ q = 68 ∨ q = 69 ∨ q = 70 ∨ q = 71 ∨ q = 72 ∨ q = 73 ∨ q = a2) ∨ I' q j = I q j) ∧ (∀ q j : Nat, (False) ∨ J' q j = J q j) ∧ (∃ z : Int, r = some (.inl z) ∧ (-2) ≤ z ∧ z ≤ 60 ∧ (gc_LH σ (-1) I') ∧ (gc_TH (-1) I') ∧ (I' 61 4 = 1) ∧ (z < 0 ∨ gc_wtr I' a2 z))))) (187, [(3, .inl v3_18), (4, .inl v4_18)], [], sh, gc_h sh I16 J17 A) := by
        intro m_59
        obtain ⟨hv3_18_59, hv4_18_59, e0_59, e1_59, e2_59, e3_59, e4_59⟩ := m_59
        have f60 := (show 0 ≤ I16 48 3 ∧ I16 48 3 ≤ 3000 from gc_in hI16 R_48 rfl rfl)
        have f61 := (show 0 ≤ I16 48 6 ∧ I16 48 6 ≤ 9000 from gc_in hI16 R_48 rfl rfl)
        have f62 := (show 0 ≤ I16 61 15 ∧ I16 61 15 ≤ 16 from gc_in hI16 R_61 rfl rfl)
        have f63 := (show 0 ≤ I16 61 4 ∧ I16 61 4 ≤ 1 from gc_in hI16 R_61 rfl rfl)
        have f64 := (show 0 ≤ I16 t 13 ∧ I16 t 13 ≤ 384 from gc_in hI16 R_t rfl rfl)
        have f65 := (show (-1) ≤ I16 61 2 ∧ I16 61 2 ≤ 999999 from gc_in hI16 R_61 rfl rfl)
        have L198 : ∀ (s0_66 : Int), (((-2) ≤ s0_66 ∧ s0_66 ≤ 60) ∧ (I16 48 3 = I 48 3) ∧ (I16 48 6 = I 48 6) ∧ (I16 t 13 = I t 13) ∧ (I16 61 4 = 1) ∧ (I16 61 2 = (t : Int))) → (s0_66 < 0 ∨ gc_wtr I16 a2 s0_66) → gv_X (gc_E5 ws0 tb 8 (yX5_spell, cX5_spell, 11, (some .int)) kX5_spell) (gv_Q cX5_spell (some .int) sh (fun r h' => (∃ (I' : gr_I) (J' : gr_J), h' = gc_h sh I' J' A ∧ gc_Inv ro I' ∧ (∀ q j : Nat, ((q = 61 ∧ j = 4) ∨ (q = 61 ∧ j = 8) ∨ (q = 61 ∧ j = 9) ∨ (q = 61 ∧ j = 10) ∨ (q = 61 ∧ j = 15) ∨ q = 64 ∨ q = 65 ∨ q = 66 ∨ q = 67 ∨ q = 68 ∨ q = 69 ∨ q = 70 ∨ q = 71 ∨ q = 72 ∨ q = 73 ∨ q = a2) ∨ I' q j = I q j) ∧ (∀ q j : Nat, (False) ∨ J' q j = J q j) ∧ (∃ z : Int, r = some (.inl z) ∧ (-2) ≤ z ∧ z ≤ 60 ∧ (gc_LH σ (-1) I') ∧ (gc_TH (-1) I') ∧ (I' 61 4 = 1) ∧ (z < 0 ∨ gc_wtr I' a2 z))))) (198, [], [.inl s0_66], sh, gc_h sh I16 J17 A) := by
          intro s0_66 m_66 e0_66
          obtain ⟨hs0_66, e1_66, e2_66, e3_66, e4_66, e5_66⟩ := m_66
          have f67 := (show 0 ≤ I16 48 3 ∧ I16 48 3 ≤ 3000 from gc_in hI16 R_48 rfl rfl)
          have f68 := (show 0 ≤ I16 48 6 ∧ I16 48 6 ≤ 9000 from gc_in hI16 R_48 rfl rfl)
          have f69 := (show 0 ≤ I16 61 15 ∧ I16 61 15 ≤ 16 from gc_in hI16 R_61 rfl rfl)
          have f70 := (show 0 ≤ I16 61 4 ∧ I16 61 4 ≤ 1 from gc_in hI16 R_61 rfl rfl)
          have f71 := (show 0 ≤ I16 t 13 ∧ I16 t 13 ≤ 384 from gc_in hI16 R_t rfl rfl)
          have f72 := (show (-1) ≤ I16 61 2 ∧ I16 61 2 ≤ 999999 from gc_in hI16 R_61 rfl rfl)
          exact gv_iret hD rfl ⟨I16, J17, rfl, hI16, FI16, FJ17, ⟨_, rfl, by omega, by omega, KLH_I16, KTH_I16, by omega, e0_66⟩⟩
        refine gv_run 1 true hD (pc' := 189) (lv' := [(3, .inl v3_18), (4, .inl v4_18)]) (st' := [.inl v4_18]) (h' := gc_h sh I16 J17 A) (C := (True ∧ True)) rfl ⟨trivial, trivial⟩ ?_
        refine gv_if_le (t := 197) hD rfl rfl ⟨by omega, by omega⟩ (fun c73 => ?_) (fun c73 => ?_)
        · show gv_X _ _ (197, [(3, .inl v3_18), (4, .inl v4_18)], [], sh, gc_h sh I16 J17 A)
          refine gv_run 1 true hD (pc' := 198) (lv' := [(3, .inl v3_18), (4, .inl v4_18)]) (st' := [.inl v3_18]) (h' := gc_h sh I16 J17 A) (C := (True ∧ True)) rfl ⟨trivial, trivial⟩ ?_
          refine gv_pick [] rfl ?_
          exact L198 v3_18 (by omega) (Or.inr ⟨e1_18, by omega⟩)
        · show gv_X _ _ (192, [(3, .inl v3_18), (4, .inl v4_18)], [], sh, gc_h sh I16 J17 A)
          refine gv_run 2 true hD (pc' := 198) (lv' := [(3, .inl v3_18), (4, .inl v4_18)]) (st' := [.inl (-2)]) (h' := gc_h sh I16 J17 A) (C := ((True ∧ True) ∧ True)) rfl ⟨⟨trivial, trivial⟩, trivial⟩ ?_
          refine gv_pick [] rfl ?_
          exact L198 (-2) (by omega) (Or.inl (by omega))
      refine gv_run 1 true hD (pc' := 41) (lv' := [(0, .inr (.inr (some 61))), (2, .inr (.inr (some a2))), (3, .inl v3_18), (4, .inl v4_18)]) (st' := [.inl v4_18]) (h' := gc_h sh I16 J17 A) (C := (True ∧ True)) rfl ⟨trivial, trivial⟩ ?_
      refine gv_if_le (t := 187) hD rfl rfl ⟨by omega, by omega⟩ (fun c74 => ?_) (fun c74 => ?_)
      · show gv_X _ _ (187, [(0, .inr (.inr (some 61))), (2, .inr (.inr (some a2))), (3, .inl v3_18), (4, .inl v4_18)], [], sh, gc_h sh I16 J17 A)
        refine gv_pick [2, 3] rfl ?_
        exact L187 (by omega)
      · show gv_X _ _ (44, [(0, .inr (.inr (some 61))), (2, .inr (.inr (some a2))), (3, .inl v3_18), (4, .inl v4_18)], [], sh, gc_h sh I16 J17 A)
        refine gv_run 2 true hD (pc' := 47) (lv' := [(0, .inr (.inr (some 61))), (2, .inr (.inr (some a2))), (3, .inl v3_18), (4, .inl v4_18)]) (st' := [.inl 60, .inl v3_18]) (h' := gc_h sh I16 J17 A) (C := ((True ∧ True) ∧ True)) rfl ⟨⟨trivial, trivial⟩, trivial⟩ ?_
        refine gv_icmp_ge (t := 187) hD rfl rfl ⟨⟨by omega, by omega⟩, ⟨by omega, by omega⟩⟩ (fun c75 => ?_) (fun c75 => ?_)
        · show gv_X _ _ (187, [(0, .inr (.inr (some 61))), (2, .inr (.inr (some a2))), (3, .inl v3_18), (4, .inl v4_18)], [], sh, gc_h sh I16 J17 A)
          refine gv_pick [2, 3] rfl ?_
          exact L187 (by omega)
        · show gv_X _ _ (50, [(0, .inr (.inr (some 61))), (2, .inr (.inr (some a2))), (3, .inl v3_18), (4, .inl v4_18)], [], sh, gc_h sh I16 J17 A)
          refine gv_run 1 true hD (pc' := 51) (lv' := [(0, .inr (.inr (some 61))), (2, .inr (.inr (some a2))), (3, .inl v3_18), (4, .inl v4_18)]) (st' := [.inr (.inr (some 61))]) (h' := gc_h sh I16 J17 A) (C := (True ∧ True)) rfl ⟨trivial, trivial⟩ ?_
          refine gv_get hD rfl rfl S_61 ⟨by decide, B_61⟩ (gc_hA S_61 rfl A_61_18) ?_
          show gv_X _ _ (54, [(0, .inr (.inr (some 61))), (2, .inr (.inr (some a2))), (3, .inl v3_18), (4, .inl v4_18)], [.inr (.inr (some 73))], sh, gc_h sh I16 J17 A)
          refine gv_run 2 true hD (pc' := 59) (lv' := [(4, .inl (v4_18 + (-1))), (0, .inr (.inr (some 61))), (2, .inr (.inr (some a2))), (3, .inl v3_18)]) (st' := [.inl (v4_18 + (-1)), .inr (.inr (some 73))]) (h' := gc_h sh I16 J17 A) (C := ((True ∧ True) ∧ True)) rfl ⟨⟨trivial, trivial⟩, trivial⟩ ?_
          have f76 := (show 0 ≤ I16 73 (Int.toNat ((v4_18 + (-1)))) ∧ I16 73 (Int.toNat ((v4_18 + (-1)))) ≤ 47999 from gc_in hI16 R_73 rfl rfl)
          refine gv_iald hD rfl S_73 rfl ⟨by decide, B_73⟩ ⟨by omega, by omega⟩ (gc_iI S_73 rfl) ?_
          show gv_X _ _ (60, [(4, .inl (v4_18 + (-1))), (0, .inr (.inr (some 61))), (2, .inr (.inr (some a2))), (3, .inl v3_18)], [.inl (I16 73 (Int.toNat ((v4_18 + (-1)))))], sh, gc_h sh I16 J17 A)
          refine gv_run 1 true hD (pc' := 62) (lv' := [(5, .inl (I16 73 (Int.toNat ((v4_18 + (-1)))))), (4, .inl (v4_18 + (-1))), (0, .inr (.inr (some 61))), (2, .inr (.inr (some a2))), (3, .inl v3_18)]) (st' := []) (h' := gc_h sh I16 J17 A) (C := (True ∧ True)) rfl ⟨trivial, trivial⟩ ?_
          have t77 := (show 0 ≤ (I16 73 (Int.toNat ((v4_18 + (-1))))) ∧ (I16 73 (Int.toNat ((v4_18 + (-1))))) < 48000 ∧ (I16 73 (Int.toNat ((v4_18 + (-1))))) / 16 < I16 48 3 ∧ (I16 73 (Int.toNat ((v4_18 + (-1))))) % 16 < I16 67 (Int.toNat ((I16 73 (Int.toNat ((v4_18 + (-1))))) / 16)) from e0_18 (Int.toNat (v4_18 + (-1))) (by omega))
          refine gv_run 1 true hD (pc' := 63) (lv' := [(5, .inl (I16 73 (Int.toNat ((v4_18 + (-1)))))), (4, .inl (v4_18 + (-1))), (0, .inr (.inr (some 61))), (2, .inr (.inr (some a2))), (3, .inl v3_18)]) (st' := [.inr (.inr (some 61))]) (h' := gc_h sh I16 J17 A) (C := (True ∧ True)) rfl ⟨trivial, trivial⟩ ?_
          refine gv_get hD rfl rfl S_61 ⟨by decide, B_61⟩ (gc_hA S_61 rfl A_61_13) ?_
          show gv_X _ _ (66, [(5, .inl (I16 73 (Int.toNat ((v4_18 + (-1)))))), (4, .inl (v4_18 + (-1))), (0, .inr (.inr (some 61))), (2, .inr (.inr (some a2))), (3, .inl v3_18)], [.inr (.inr (some 69))], sh, gc_h sh I16 J17 A)
          refine gv_run 1 true hD (pc' := 68) (lv' := [(5, .inl (I16 73 (Int.toNat ((v4_18 + (-1)))))), (4, .inl (v4_18 + (-1))), (0, .inr (.inr (some 61))), (2, .inr (.inr (some a2))), (3, .inl v3_18)]) (st' := [.inl (I16 73 (Int.toNat ((v4_18 + (-1))))), .inr (.inr (some 69))]) (h' := gc_h sh I16 J17 A) (C := (True ∧ True)) rfl ⟨trivial, trivial⟩ ?_
          have f78 := (show 0 ≤ I16 69 (Int.toNat ((I16 73 (Int.toNat ((v4_18 + (-1))))))) ∧ I16 69 (Int.toNat ((I16 73 (Int.toNat ((v4_18 + (-1))))))) ≤ 8999 from gc_in hI16 R_69 rfl rfl)
          refine gv_iald hD rfl S_69 rfl ⟨by decide, B_69⟩ ⟨by omega, by omega⟩ (gc_iI S_69 rfl) ?_
          show gv_X _ _ (69, [(5, .inl (I16 73 (Int.toNat ((v4_18 + (-1)))))), (4, .inl (v4_18 + (-1))), (0, .inr (.inr (some 61))), (2, .inr (.inr (some a2))), (3, .inl v3_18)], [.inl (I16 69 (Int.toNat ((I16 73 (Int.toNat ((v4_18 + (-1))))))))], sh, gc_h sh I16 J17 A)
          refine gv_run 1 true hD (pc' := 71) (lv' := [(6, .inl (I16 69 (Int.toNat ((I16 73 (Int.toNat ((v4_18 + (-1))))))))), (5, .inl (I16 73 (Int.toNat ((v4_18 + (-1)))))), (4, .inl (v4_18 + (-1))), (0, .inr (.inr (some 61))), (2, .inr (.inr (some a2))), (3, .inl v3_18)]) (st' := []) (h' := gc_h sh I16 J17 A) (C := (True ∧ True)) rfl ⟨trivial, trivial⟩ ?_
          have t79 := (KLH_I16 (Int.toNat ((I16 73 (Int.toNat ((v4_18 + (-1))))))) (by omega) (by omega) (by omega) (by rw [show Int.toNat ((I16 73 (Int.toNat ((v4_18 + (-1)))))) / 16 = Int.toNat (((I16 73 (Int.toNat ((v4_18 + (-1)))))) / 16) from by omega]; omega)).1
          refine gv_run 5 true hD (pc' := 79) (lv' := [(3, .inl (v3_18 + 1)), (6, .inl (I16 69 (Int.toNat ((I16 73 (Int.toNat ((v4_18 + (-1))))))))), (5, .inl (I16 73 (Int.toNat ((v4_18 + (-1)))))), (4, .inl (v4_18 + (-1))), (0, .inr (.inr (some 61))), (2, .inr (.inr (some a2)))]) (st' := [.inl (I16 69 (Int.toNat ((I16 73 (Int.toNat ((v4_18 + (-1)))))))), .inr (.inr (some 61)), .inl v3_18, .inr (.inr (some a2))]) (h' := gc_h sh I16 J17 A) (C := (((((True ∧ True) ∧ True) ∧ True) ∧ True) ∧ True)) rfl ⟨⟨⟨⟨⟨trivial, trivial⟩, trivial⟩, trivial⟩, trivial⟩, trivial⟩ ?_
          obtain ⟨r80, h80, E80, P80⟩ := d_X5_funOf_w (ws0 := ws0) (tb := tb) hws htb sh ro I16 J17 A hI16  t ((I16 69 (Int.toNat ((I16 73 (Int.toNat ((v4_18 + (-1))))))))) hb  h_t G_t  ⟨by omega, by omega⟩ (gc_Ls_fr x0 ((FI16 t 13).resolve_left (by omega)) (fun q hL hq d k hd => (FI16 (q + d) k).resolve_left (by have := gc_dj_LT hL h_t; omega))) (gc_WV_fr x1 ((FI16 48 6).resolve_left (fun h => h.elim (fun h => absurd h.2 (by decide)) (fun h => h.elim (fun h => absurd h.2 (by decide)) (fun h => h.elim (fun h => absurd h.2 (by decide)) (fun h => h.elim (fun h => absurd h.2 (by decide)) (fun h => h.elim (fun h => absurd h.2 (by decide)) (fun h => h.elim (fun h => absurd h (by decide)) (fun h => h.elim (fun h => absurd h (by decide)) (fun h => h.elim (fun h => absurd h (by decide)) (fun h => h.elim (fun h => absurd h (by decide)) (fun h => h.elim (fun h => absurd h (by decide)) (fun h => h.elim (fun h => absurd h (by decide)) (fun h => h.elim (fun h => absurd h (by decide)) (fun h => h.elim (fun h => absurd h (by decide)) (fun h => h.elim (fun h => absurd h (by decide)) (fun h => h.elim (fun h => absurd h (by decide)) (fun h => absurd h N_48__a2))))))))))))))))) ((FI16 t 13).resolve_left (fun h => h.elim (fun h => absurd h.2 (by decide)) (fun h => h.elim (fun h => absurd h.2 (by decide)) (fun h => h.elim (fun h => absurd h.2 (by decide)) (fun h => h.elim (fun h => absurd h.2 (by decide)) (fun h => h.elim (fun h => absurd h.2 (by decide)) (fun h => h.elim (fun h => absurd h N_t__64) (fun h => h.elim (fun h => absurd h N_t__65) (fun h => h.elim (fun h => absurd h N_t__66) (fun h => h.elim (fun h => absurd h N_t__67) (fun h => h.elim (fun h => absurd h N_t__68) (fun h => h.elim (fun h => absurd h N_t__69) (fun h => h.elim (fun h => absurd h N_t__70) (fun h => h.elim (fun h => absurd h N_t__71) (fun h => h.elim (fun h => absurd h N_t__72) (fun h => h.elim (fun h => absurd h N_t__73) (fun h => absurd h N_t__a2))))))))))))))))) (fun k => (FI16 54 k).resolve_left (fun h => h.elim (fun h => absurd h.1 (by decide)) (fun h => h.elim (fun h => absurd h.1 (by decide)) (fun h => h.elim (fun h => absurd h.1 (by decide)) (fun h => h.elim (fun h => absurd h.1 (by decide)) (fun h => h.elim (fun h => absurd h.1 (by decide)) (fun h => h.elim (fun h => absurd h (by decide)) (fun h => h.elim (fun h => absurd h (by decide)) (fun h => h.elim (fun h => absurd h (by decide)) (fun h => h.elim (fun h => absurd h (by decide)) (fun h => h.elim (fun h => absurd h (by decide)) (fun h => h.elim (fun h => absurd h (by decide)) (fun h => h.elim (fun h => absurd h (by decide)) (fun h => h.elim (fun h => absurd h (by decide)) (fun h => h.elim (fun h => absurd h (by decide)) (fun h => h.elim (fun h => absurd h (by decide)) (fun h => absurd h N_54__a2)))))))))))))))))) (by omega) (by omega) 
          obtain ⟨rfl, ⟨z80, rfl, q80⟩⟩ := P80
          refine gv_callV hD rfl (As := [.inl (I16 69 (Int.toNat ((I16 73 (Int.toNat ((v4_18 + (-1))))))))]) (st := [.inl v3_18, .inr (.inr (some a2))]) rfl B_61 S_61 rfl (gc_lV5 hws rfl) (Nat.le_of_ble_eq_true rfl) (gz_Ev_mono (d := 2) (by decide) E80) ?_
          show gv_X _ _ (82, [(3, .inl (v3_18 + 1)), (6, .inl (I16 69 (Int.toNat ((I16 73 (Int.toNat ((v4_18 + (-1))))))))), (5, .inl (I16 73 (Int.toNat ((v4_18 + (-1)))))), (4, .inl (v4_18 + (-1))), (0, .inr (.inr (some 61))), (2, .inr (.inr (some a2)))], [.inl z80, .inl v3_18, .inr (.inr (some a2))], sh, gc_h sh I16 J17 A)
          have t81 := (show z80 = gc_fn A I t (Int.toNat ((I16 69 (Int.toNat ((I16 73 (Int.toNat ((v4_18 + (-1)))))))))) from (show z80 = gc_fn A I16 t (Int.toNat ((I16 69 (Int.toNat ((I16 73 (Int.toNat ((v4_18 + (-1)))))))))) from q80.2.2).trans (gc_fn_fr x0 x1 (by omega) (fun k => (FI16 54 k).resolve_left (fun h => h.elim (fun h => absurd h.1 (by decide)) (fun h => h.elim (fun h => absurd h.1 (by decide)) (fun h => h.elim (fun h => absurd h.1 (by decide)) (fun h => h.elim (fun h => absurd h.1 (by decide)) (fun h => h.elim (fun h => absurd h.1 (by decide)) (fun h => h.elim (fun h => absurd h (by decide)) (fun h => h.elim (fun h => absurd h (by decide)) (fun h => h.elim (fun h => absurd h (by decide)) (fun h => h.elim (fun h => absurd h (by decide)) (fun h => h.elim (fun h => absurd h (by decide)) (fun h => h.elim (fun h => absurd h (by decide)) (fun h => h.elim (fun h => absurd h (by decide)) (fun h => h.elim (fun h => absurd h (by decide)) (fun h => h.elim (fun h => absurd h (by decide)) (fun h => h.elim (fun h => absurd h (by decide)) (fun h => absurd h N_54__a2))))))))))))))))) (fun j => (FI16 (t + 15) j).resolve_left (fun h => h.elim (fun h => absurd h.1 N_t_15__61) (fun h => h.elim (fun h => absurd h.1 N_t_15__61) (fun h => h.elim (fun h => absurd h.1 N_t_15__61) (fun h => h.elim (fun h => absurd h.1 N_t_15__61) (fun h => h.elim (fun h => absurd h.1 N_t_15__61) (fun h => h.elim (fun h => absurd h N_t_15__64) (fun h => h.elim (fun h => absurd h N_t_15__65) (fun h => h.elim (fun h => absurd h N_t_15__66) (fun h => h.elim (fun h => absurd h N_t_15__67) (fun h => h.elim (fun h => absurd h N_t_15__68) (fun h => h.elim (fun h => absurd h N_t_15__69) (fun h => h.elim (fun h => absurd h N_t_15__70) (fun h => h.elim (fun h => absurd h N_t_15__71) (fun h => h.elim (fun h => absurd h N_t_15__72) (fun h => h.elim (fun h => absurd h N_t_15__73) (fun h => absurd h N_t_15__a2))))))))))))))))) (fun q hL hq => (FI16 q 1).resolve_left (by have := gc_dj_LT hL h_t; omega))))
          have t82 := (show I16 12 (Int.toNat z80) = I 12 (Int.toNat (gc_fn A I t (Int.toNat ((I16 69 (Int.toNat ((I16 73 (Int.toNat ((v4_18 + (-1)))))))))))) from by rw [show z80 = gc_fn A I t (Int.toNat ((I16 69 (Int.toNat ((I16 73 (Int.toNat ((v4_18 + (-1)))))))))) from (show z80 = gc_fn A I16 t (Int.toNat ((I16 69 (Int.toNat ((I16 73 (Int.toNat ((v4_18 + (-1)))))))))) from q80.2.2).trans (gc_fn_fr x0 x1 (by omega) (fun k => (FI16 54 k).resolve_left (fun h => h.elim (fun h => absurd h.1 (by decide)) (fun h => h.elim (fun h => absurd h.1 (by decide)) (fun h => h.elim (fun h => absurd h.1 (by decide)) (fun h => h.elim (fun h => absurd h.1 (by decide)) (fun h => h.elim (fun h => absurd h.1 (by decide)) (fun h => h.elim (fun h => absurd h (by decide)) (fun h => h.elim (fun h => absurd h (by decide)) (fun h => h.elim (fun h => absurd h (by decide)) (fun h => h.elim (fun h => absurd h (by decide)) (fun h => h.elim (fun h => absurd h (by decide)) (fun h => h.elim (fun h => absurd h (by decide)) (fun h => h.elim (fun h => absurd h (by decide)) (fun h => h.elim (fun h => absurd h (by decide)) (fun h => h.elim (fun h => absurd h (by decide)) (fun h => h.elim (fun h => absurd h (by decide)) (fun h => absurd h N_54__a2))))))))))))))))) (fun j => (FI16 (t + 15) j).resolve_left (fun h => h.elim (fun h => absurd h.1 N_t_15__61) (fun h => h.elim (fun h => absurd h.1 N_t_15__61) (fun h => h.elim (fun h => absurd h.1 N_t_15__61) (fun h => h.elim (fun h => absurd h.1 N_t_15__61) (fun h => h.elim (fun h => absurd h.1 N_t_15__61) (fun h => h.elim (fun h => absurd h N_t_15__64) (fun h => h.elim (fun h => absurd h N_t_15__65) (fun h => h.elim (fun h => absurd h N_t_15__66) (fun h => h.elim (fun h => absurd h N_t_15__67) (fun h => h.elim (fun h => absurd h N_t_15__68) (fun h => h.elim (fun h => absurd h N_t_15__69) (fun h => h.elim (fun h => absurd h N_t_15__70) (fun h => h.elim (fun h => absurd h N_t_15__71) (fun h => h.elim (fun h => absurd h N_t_15__72) (fun h => h.elim (fun h => absurd h N_t_15__73) (fun h => absurd h N_t_15__a2))))))))))))))))) (fun q hL hq => (FI16 q 1).resolve_left (by have := gc_dj_LT hL h_t; omega)))]; exact (FI16 12 _).resolve_left (fun h => h.elim (fun h => absurd h.1 (by decide)) (fun h => h.elim (fun h => absurd h.1 (by decide)) (fun h => h.elim (fun h => absurd h.1 (by decide)) (fun h => h.elim (fun h => absurd h.1 (by decide)) (fun h => h.elim (fun h => absurd h.1 (by decide)) (fun h => h.elim (fun h => absurd h (by decide)) (fun h => h.elim (fun h => absurd h (by decide)) (fun h => h.elim (fun h => absurd h (by decide)) (fun h => h.elim (fun h => absurd h (by decide)) (fun h => h.elim (fun h => absurd h (by decide)) (fun h => h.elim (fun h => absurd h (by decide)) (fun h => h.elim (fun h => absurd h (by decide)) (fun h => h.elim (fun h => absurd h (by decide)) (fun h => h.elim (fun h => absurd h (by decide)) (fun h => h.elim (fun h => absurd h (by decide)) (fun h => absurd h N_12__a2)))))))))))))))))
          have t83 := x8 (Int.toNat ((I16 69 (Int.toNat ((I16 73 (Int.toNat ((v4_18 + (-1)))))))))) (by omega)
          refine gv_iast hD rfl S_a2 ⟨by omega, B_a2⟩ ⟨by omega, by omega⟩ ?_
          refine gc_st hI16 S_a2 rfl R_a2 (lo := 0) (hi := 95) rfl rfl (by omega) (by omega) (fun I84 hI84 q85 p85 => ?_)
          have FI84 := gc_frs (W := fun q j => (q = 61 ∧ j = 4) ∨ (q = 61 ∧ j = 8) ∨ (q = 61 ∧ j = 9) ∨ (q = 61 ∧ j = 10) ∨ (q = 61 ∧ j = 15) ∨ q = 64 ∨ q = 65 ∨ q = 66 ∨ q = 67 ∨ q = 68 ∨ q = 69 ∨ q = 70 ∨ q = 71 ∨ q = 72 ∨ q = 73 ∨ q = a2) FI16 (Or.inr (Or.inr (Or.inr (Or.inr (Or.inr (Or.inr (Or.inr (Or.inr (Or.inr (Or.inr (Or.inr (Or.inr (Or.inr (Or.inr (Or.inr rfl))))))))))))))) p85
          have t86 := p85 48 3 (fun h => absurd h.1 N_48__a2)
          have t87 := p85 48 6 (fun h => absurd h.1 N_48__a2)
          have t88 := p85 61 15 (fun h => absurd h.1 N_61__a2)
          have t89 := p85 61 4 (fun h => absurd h.1 N_61__a2)
          have t90 := p85 t 13 (fun h => absurd h.1 N_t__a2)
          have t91 := p85 61 2 (fun h => absurd h.1 N_61__a2)
          have KLH_I84 := gc_LH_fr KLH_I16 (p85 48 6 (fun h => absurd h.1 N_48__a2)) (p85 48 3 (fun h => absurd h.1 N_48__a2)) (fun k => p85 54 k (fun h => absurd h.1 N_54__a2)) (fun k => p85 55 k (fun h => absurd h.1 N_55__a2)) (fun k => p85 67 k (fun h => absurd h.1 N_67__a2)) (fun k => p85 69 k (fun h => absurd h.1 N_69__a2)) (fun k => p85 70 k (fun h => absurd h.1 N_70__a2))
          have KTH_I84 := gc_TH_fr KTH_I16 (p85 61 15 (fun h => absurd h.1 N_61__a2)) (p85 48 3 (fun h => absurd h.1 N_48__a2)) (fun k => p85 67 k (fun h => absurd h.1 N_67__a2)) (fun k => p85 72 k (fun h => absurd h.1 N_72__a2))
          show gv_X _ _ (83, [(3, .inl (v3_18 + 1)), (6, .inl (I16 69 (Int.toNat ((I16 73 (Int.toNat ((v4_18 + (-1))))))))), (5, .inl (I16 73 (Int.toNat ((v4_18 + (-1)))))), (4, .inl (v4_18 + (-1))), (0, .inr (.inr (some 61))), (2, .inr (.inr (some a2)))], [], sh, gc_h sh I84 J17 A)
          refine gv_run 1 true hD (pc' := 84) (lv' := [(3, .inl (v3_18 + 1)), (6, .inl (I16 69 (Int.toNat ((I16 73 (Int.toNat ((v4_18 + (-1))))))))), (5, .inl (I16 73 (Int.toNat ((v4_18 + (-1)))))), (4, .inl (v4_18 + (-1))), (0, .inr (.inr (some 61))), (2, .inr (.inr (some a2)))]) (st' := [.inr (.inr (some 61))]) (h' := gc_h sh I84 J17 A) (C := (True ∧ True)) rfl ⟨trivial, trivial⟩ ?_
          refine gv_get hD rfl rfl S_61 ⟨by decide, B_61⟩ (gc_hA S_61 rfl A_61_1) ?_
          show gv_X _ _ (87, [(3, .inl (v3_18 + 1)), (6, .inl (I16 69 (Int.toNat ((I16 73 (Int.toNat ((v4_18 + (-1))))))))), (5, .inl (I16 73 (Int.toNat ((v4_18 + (-1)))))), (4, .inl (v4_18 + (-1))), (0, .inr (.inr (some 61))), (2, .inr (.inr (some a2)))], [.inr (.inr (some 48))], sh, gc_h sh I84 J17 A)
          refine gv_get hD rfl rfl S_48 ⟨by decide, B_48⟩ (gc_hA S_48 rfl A_48_8) ?_
          show gv_X _ _ (90, [(3, .inl (v3_18 + 1)), (6, .inl (I16 69 (Int.toNat ((I16 73 (Int.toNat ((v4_18 + (-1))))))))), (5, .inl (I16 73 (Int.toNat ((v4_18 + (-1)))))), (4, .inl (v4_18 + (-1))), (0, .inr (.inr (some 61))), (2, .inr (.inr (some a2)))], [.inr (.inr (some 54))], sh, gc_h sh I84 J17 A)
          refine gv_run 1 true hD (pc' := 92) (lv' := [(3, .inl (v3_18 + 1)), (6, .inl (I16 69 (Int.toNat ((I16 73 (Int.toNat ((v4_18 + (-1))))))))), (5, .inl (I16 73 (Int.toNat ((v4_18 + (-1)))))), (4, .inl (v4_18 + (-1))), (0, .inr (.inr (some 61))), (2, .inr (.inr (some a2)))]) (st' := [.inl (I16 69 (Int.toNat ((I16 73 (Int.toNat ((v4_18 + (-1)))))))), .inr (.inr (some 54))]) (h' := gc_h sh I84 J17 A) (C := (True ∧ True)) rfl ⟨trivial, trivial⟩ ?_
          have t92 := (FI84 54 (Int.toNat ((I16 69 (Int.toNat ((I16 73 (Int.toNat ((v4_18 + (-1))))))))))).resolve_left (fun h => h.elim (fun h => absurd h.1 (by decide)) (fun h => h.elim (fun h => absurd h.1 (by decide)) (fun h => h.elim (fun h => absurd h.1 (by decide)) (fun h => h.elim (fun h => absurd h.1 (by decide)) (fun h => h.elim (fun h => absurd h.1 (by decide)) (fun h => h.elim (fun h => absurd h (by decide)) (fun h => h.elim (fun h => absurd h (by decide)) (fun h => h.elim (fun h => absurd h (by decide)) (fun h => h.elim (fun h => absurd h (by decide)) (fun h => h.elim (fun h => absurd h (by decide)) (fun h => h.elim (fun h => absurd h (by decide)) (fun h => h.elim (fun h => absurd h (by decide)) (fun h => h.elim (fun h => absurd h (by decide)) (fun h => h.elim (fun h => absurd h (by decide)) (fun h => h.elim (fun h => absurd h (by decide)) (fun h => absurd h N_54__a2))))))))))))))))
          have f93 := (show (-384) ≤ I84 54 (Int.toNat ((I16 69 (Int.toNat ((I16 73 (Int.toNat ((v4_18 + (-1)))))))))) ∧ I84 54 (Int.toNat ((I16 69 (Int.toNat ((I16 73 (Int.toNat ((v4_18 + (-1)))))))))) ≤ 1535 from gc_in hI84 R_54 rfl rfl)
          refine gv_iald hD rfl S_54 rfl ⟨by decide, B_54⟩ ⟨by omega, by omega⟩ (gc_iI S_54 rfl) ?_
          show gv_X _ _ (93, [(3, .inl (v3_18 + 1)), (6, .inl (I16 69 (Int.toNat ((I16 73 (Int.toNat ((v4_18 + (-1))))))))), (5, .inl (I16 73 (Int.toNat ((v4_18 + (-1)))))), (4, .inl (v4_18 + (-1))), (0, .inr (.inr (some 61))), (2, .inr (.inr (some a2)))], [.inl (I84 54 (Int.toNat ((I16 69 (Int.toNat ((I16 73 (Int.toNat ((v4_18 + (-1)))))))))))], sh, gc_h sh I84 J17 A)
          refine gv_run 3 true hD (pc' := 98) (lv' := [(7, .inl (I84 54 (Int.toNat ((I16 69 (Int.toNat ((I16 73 (Int.toNat ((v4_18 + (-1)))))))))))), (3, .inl (v3_18 + 1)), (6, .inl (I16 69 (Int.toNat ((I16 73 (Int.toNat ((v4_18 + (-1))))))))), (5, .inl (I16 73 (Int.toNat ((v4_18 + (-1)))))), (4, .inl (v4_18 + (-1))), (0, .inr (.inr (some 61))), (2, .inr (.inr (some a2)))]) (st' := [.inl (I16 69 (Int.toNat ((I16 73 (Int.toNat ((v4_18 + (-1)))))))), .inr (.inr (some 61))]) (h' := gc_h sh I84 J17 A) (C := (((True ∧ True) ∧ True) ∧ True)) rfl ⟨⟨⟨trivial, trivial⟩, trivial⟩, trivial⟩ ?_
          obtain ⟨r94, h94, E94, P94⟩ := d_X5_slotsOf (ws0 := ws0) (tb := tb) hws htb sh ro I84 J17 A hI84  t ((I16 69 (Int.toNat ((I16 73 (Int.toNat ((v4_18 + (-1))))))))) hb  h_t G_t  ⟨by omega, by omega⟩ (gc_Ls_fr x0 ((FI84 t 13).resolve_left (by omega)) (fun q hL hq d k hd => (FI84 (q + d) k).resolve_left (by have := gc_dj_LT hL h_t; omega))) (gc_WV_fr x1 ((FI84 48 6).resolve_left (fun h => h.elim (fun h => absurd h.2 (by decide)) (fun h => h.elim (fun h => absurd h.2 (by decide)) (fun h => h.elim (fun h => absurd h.2 (by decide)) (fun h => h.elim (fun h => absurd h.2 (by decide)) (fun h => h.elim (fun h => absurd h.2 (by decide)) (fun h => h.elim (fun h => absurd h (by decide)) (fun h => h.elim (fun h => absurd h (by decide)) (fun h => h.elim (fun h => absurd h (by decide)) (fun h => h.elim (fun h => absurd h (by decide)) (fun h => h.elim (fun h => absurd h (by decide)) (fun h => h.elim (fun h => absurd h (by decide)) (fun h => h.elim (fun h => absurd h (by decide)) (fun h => h.elim (fun h => absurd h (by decide)) (fun h => h.elim (fun h => absurd h (by decide)) (fun h => h.elim (fun h => absurd h (by decide)) (fun h => absurd h N_48__a2))))))))))))))))) ((FI84 t 13).resolve_left (fun h => h.elim (fun h => absurd h.2 (by decide)) (fun h => h.elim (fun h => absurd h.2 (by decide)) (fun h => h.elim (fun h => absurd h.2 (by decide)) (fun h => h.elim (fun h => absurd h.2 (by decide)) (fun h => h.elim (fun h => absurd h.2 (by decide)) (fun h => h.elim (fun h => absurd h N_t__64) (fun h => h.elim (fun h => absurd h N_t__65) (fun h => h.elim (fun h => absurd h N_t__66) (fun h => h.elim (fun h => absurd h N_t__67) (fun h => h.elim (fun h => absurd h N_t__68) (fun h => h.elim (fun h => absurd h N_t__69) (fun h => h.elim (fun h => absurd h N_t__70) (fun h => h.elim (fun h => absurd h N_t__71) (fun h => h.elim (fun h => absurd h N_t__72) (fun h => h.elim (fun h => absurd h N_t__73) (fun h => absurd h N_t__a2))))))))))))))))) (fun k => (FI84 54 k).resolve_left (fun h => h.elim (fun h => absurd h.1 (by decide)) (fun h => h.elim (fun h => absurd h.1 (by decide)) (fun h => h.elim (fun h => absurd h.1 (by decide)) (fun h => h.elim (fun h => absurd h.1 (by decide)) (fun h => h.elim (fun h => absurd h.1 (by decide)) (fun h => h.elim (fun h => absurd h (by decide)) (fun h => h.elim (fun h => absurd h (by decide)) (fun h => h.elim (fun h => absurd h (by decide)) (fun h => h.elim (fun h => absurd h (by decide)) (fun h => h.elim (fun h => absurd h (by decide)) (fun h => h.elim (fun h => absurd h (by decide)) (fun h => h.elim (fun h => absurd h (by decide)) (fun h => h.elim (fun h => absurd h (by decide)) (fun h => h.elim (fun h => absurd h (by decide)) (fun h => h.elim (fun h => absurd h (by decide)) (fun h => absurd h N_54__a2)))))))))))))))))) (by omega) (by omega) 
          obtain ⟨rfl, ⟨z94, rfl, q94⟩⟩ := P94
          refine gv_callV hD rfl (As := [.inl (I16 69 (Int.toNat ((I16 73 (Int.toNat ((v4_18 + (-1))))))))]) (st := []) rfl B_61 S_61 rfl (gc_lV5 hws rfl) (Nat.le_of_ble_eq_true rfl) (gz_Ev_mono (d := 1) (by decide) E94) ?_
          show gv_X _ _ (101, [(7, .inl (I84 54 (Int.toNat ((I16 69 (Int.toNat ((I16 73 (Int.toNat ((v4_18 + (-1)))))))))))), (3, .inl (v3_18 + 1)), (6, .inl (I16 69 (Int.toNat ((I16 73 (Int.toNat ((v4_18 + (-1))))))))), (5, .inl (I16 73 (Int.toNat ((v4_18 + (-1)))))), (4, .inl (v4_18 + (-1))), (0, .inr (.inr (some 61))), (2, .inr (.inr (some a2)))], [.inl z94], sh, gc_h sh I84 J17 A)
          have t95 := gc_sl_ws (k := Int.toNat ((I16 69 (Int.toNat ((I16 73 (Int.toNat ((v4_18 + (-1)))))))))) (gc_Ls_fr x0 ((FI84 t 13).resolve_left (by omega)) (fun q hL hq d k hd => (FI84 (q + d) k).resolve_left (by have := gc_dj_LT hL h_t; omega))) (gc_WV_fr x1 ((FI84 48 6).resolve_left (fun h => h.elim (fun h => absurd h.2 (by decide)) (fun h => h.elim (fun h => absurd h.2 (by decide)) (fun h => h.elim (fun h => absurd h.2 (by decide)) (fun h => h.elim (fun h => absurd h.2 (by decide)) (fun h => h.elim (fun h => absurd h.2 (by decide)) (fun h => h.elim (fun h => absurd h (by decide)) (fun h => h.elim (fun h => absurd h (by decide)) (fun h => h.elim (fun h => absurd h (by decide)) (fun h => h.elim (fun h => absurd h (by decide)) (fun h => h.elim (fun h => absurd h (by decide)) (fun h => h.elim (fun h => absurd h (by decide)) (fun h => h.elim (fun h => absurd h (by decide)) (fun h => h.elim (fun h => absurd h (by decide)) (fun h => h.elim (fun h => absurd h (by decide)) (fun h => h.elim (fun h => absurd h (by decide)) (fun h => absurd h N_48__a2))))))))))))))))) ((FI84 t 13).resolve_left (fun h => h.elim (fun h => absurd h.2 (by decide)) (fun h => h.elim (fun h => absurd h.2 (by decide)) (fun h => h.elim (fun h => absurd h.2 (by decide)) (fun h => h.elim (fun h => absurd h.2 (by decide)) (fun h => h.elim (fun h => absurd h.2 (by decide)) (fun h => h.elim (fun h => absurd h N_t__64) (fun h => h.elim (fun h => absurd h N_t__65) (fun h => h.elim (fun h => absurd h N_t__66) (fun h => h.elim (fun h => absurd h N_t__67) (fun h => h.elim (fun h => absurd h N_t__68) (fun h => h.elim (fun h => absurd h N_t__69) (fun h => h.elim (fun h => absurd h N_t__70) (fun h => h.elim (fun h => absurd h N_t__71) (fun h => h.elim (fun h => absurd h N_t__72) (fun h => h.elim (fun h => absurd h N_t__73) (fun h => absurd h N_t__a2))))))))))))))))) (fun k => (FI84 54 k).resolve_left (fun h => h.elim (fun h => absurd h.1 (by decide)) (fun h => h.elim (fun h => absurd h.1 (by decide)) (fun h => h.elim (fun h => absurd h.1 (by decide)) (fun h => h.elim (fun h => absurd h.1 (by decide)) (fun h => h.elim (fun h => absurd h.1 (by decide)) (fun h => h.elim (fun h => absurd h (by decide)) (fun h => h.elim (fun h => absurd h (by decide)) (fun h => h.elim (fun h => absurd h (by decide)) (fun h => h.elim (fun h => absurd h (by decide)) (fun h => h.elim (fun h => absurd h (by decide)) (fun h => h.elim (fun h => absurd h (by decide)) (fun h => h.elim (fun h => absurd h (by decide)) (fun h => h.elim (fun h => absurd h (by decide)) (fun h => h.elim (fun h => absurd h (by decide)) (fun h => h.elim (fun h => absurd h (by decide)) (fun h => absurd h N_54__a2)))))))))))))))))) (fun i q hi hA => by obtain ⟨q9, b1, b2, b3, _, _⟩ := x0 i (by omega); cases b1.symm.trans hA; have b4 := gc_dj_LT b2 h_t; exact ((FI84 _ 8).resolve_left (by omega)).trans (x2 i _ (by omega) hA)) (by omega)
          have t96 := (show gc_ws σ I84 (Int.toNat ((I16 69 (Int.toNat ((I16 73 (Int.toNat ((v4_18 + (-1)))))))))) = gc_ws σ I (Int.toNat ((I16 69 (Int.toNat ((I16 73 (Int.toNat ((v4_18 + (-1)))))))))) from gc_ws_fr (fun k => (FI84 54 k).resolve_left (fun h => h.elim (fun h => absurd h.1 (by decide)) (fun h => h.elim (fun h => absurd h.1 (by decide)) (fun h => h.elim (fun h => absurd h.1 (by decide)) (fun h => h.elim (fun h => absurd h.1 (by decide)) (fun h => h.elim (fun h => absurd h.1 (by decide)) (fun h => h.elim (fun h => absurd h (by decide)) (fun h => h.elim (fun h => absurd h (by decide)) (fun h => h.elim (fun h => absurd h (by decide)) (fun h => h.elim (fun h => absurd h (by decide)) (fun h => h.elim (fun h => absurd h (by decide)) (fun h => h.elim (fun h => absurd h (by decide)) (fun h => h.elim (fun h => absurd h (by decide)) (fun h => h.elim (fun h => absurd h (by decide)) (fun h => h.elim (fun h => absurd h (by decide)) (fun h => h.elim (fun h => absurd h (by decide)) (fun h => absurd h N_54__a2))))))))))))))))))
          refine gv_run 3 true hD (pc' := 105) (lv' := [(8, .inl (z94 - 1)), (7, .inl (I84 54 (Int.toNat ((I16 69 (Int.toNat ((I16 73 (Int.toNat ((v4_18 + (-1)))))))))))), (3, .inl (v3_18 + 1)), (6, .inl (I16 69 (Int.toNat ((I16 73 (Int.toNat ((v4_18 + (-1))))))))), (5, .inl (I16 73 (Int.toNat ((v4_18 + (-1)))))), (4, .inl (v4_18 + (-1))), (0, .inr (.inr (some 61))), (2, .inr (.inr (some a2)))]) (st' := []) (h' := gc_h sh I84 J17 A) (C := (((True ∧ True) ∧ True) ∧ True)) rfl ⟨⟨⟨trivial, trivial⟩, trivial⟩, trivial⟩ ?_
          refine gv_pick [6, 7, 2, 5, 4, 3, 1, 0] rfl ?_
          exact L105 _ I84 J17 (v3_18 + 1) ((v4_18 + (-1))) ((I16 73 (Int.toNat ((v4_18 + (-1)))))) ((I16 69 (Int.toNat ((I16 73 (Int.toNat ((v4_18 + (-1))))))))) ((I84 54 (Int.toNat ((I16 69 (Int.toNat ((I16 73 (Int.toNat ((v4_18 + (-1)))))))))))) (z94 - 1) (Nat.lt_succ_self _) hI84 FI84 FJ17 KLH_I84 KTH_I84 (by omega) (gc_ST_fr e0_18 (by omega) ((p85 48 3 (fun h => absurd h.1 (by omega)))) (fun k => (p85 67 k (fun h => absurd h.1 (by omega)))) (fun k => (p85 73 k (fun h => absurd h.1 (by omega))))) (gc_pp_st e1_18 (by omega) (by omega) p85 (by omega)) (by have h9 := gc_op_st (T := a2) (n := v3_18) (by omega) (by omega) p85; rw [q85] at h9; omega) (by have h9 := KLH_I16 (Int.toNat ((I16 73 (Int.toNat ((v4_18 + (-1))))))) (by omega) (by omega) (by omega) (by rw [show Int.toNat ((I16 73 (Int.toNat ((v4_18 + (-1)))))) / 16 = Int.toNat (((I16 73 (Int.toNat ((v4_18 + (-1)))))) / 16) from by omega]; omega); rw [show I84 70 (Int.toNat (I16 73 (Int.toNat ((v4_18 + (-1)))))) = I16 70 (Int.toNat (I16 73 (Int.toNat ((v4_18 + (-1)))))) from (p85 70 _ (fun h => absurd h.1 (by omega)))]; exact gc_va_fr h9 ((p85 48 6 (fun h => absurd h.1 (by omega)))) (fun k => (p85 54 k (fun h => absurd h.1 (by omega)))) (fun k => (p85 55 k (fun h => absurd h.1 (by omega)))) (fun k => by rw [show I84 67 k = I16 67 k from (p85 67 k (fun h => absurd h.1 (by omega)))]; omega))
  refine gv_run 1 true hD (pc' := 1) (lv' := [(0, .inr (.inr (some 61))), (1, .inl a1), (2, .inr (.inr (some a2)))]) (st' := [.inr (.inr (some 61))]) (h' := gc_h sh I J A) (C := (True ∧ True)) rfl ⟨trivial, trivial⟩ ?_
  obtain ⟨r97, h97, E97, P97⟩ := d_X5_rank (ws0 := ws0) (tb := tb) hws htb sh ro I J A hI  t σ  hb  h_t G_t   x0 x1 x2 x3 x4 (by omega) x6 (by omega) (by omega) 
  obtain ⟨I98, J99, rfl, hI98, g97, k97, ⟨rfl, q97⟩⟩ := P97
  have FI98 := gc_frc (W := fun q j => (q = 61 ∧ j = 4) ∨ (q = 61 ∧ j = 8) ∨ (q = 61 ∧ j = 9) ∨ (q = 61 ∧ j = 10) ∨ (q = 61 ∧ j = 15) ∨ q = 64 ∨ q = 65 ∨ q = 66 ∨ q = 67 ∨ q = 68 ∨ q = 69 ∨ q = 70 ∨ q = 71 ∨ q = 72 ∨ q = 73 ∨ q = a2) (V := fun q j => (q = 61 ∧ j = 4) ∨ (q = 61 ∧ j = 8) ∨ (q = 61 ∧ j = 9) ∨ (q = 61 ∧ j = 10) ∨ (q = 61 ∧ j = 15) ∨ q = 64 ∨ q = 65 ∨ q = 66 ∨ q = 67 ∨ q = 68 ∨ q = 69 ∨ q = 70 ∨ q = 71 ∨ q = 72) FI (fun q j h => (h.elim (fun h => (Or.inl h)) (fun h => (h.elim (fun h => (Or.inr (Or.inl h))) (fun h => (h.elim (fun h => (Or.inr (Or.inr (Or.inl h)))) (fun h => (h.elim (fun h => (Or.inr (Or.inr (Or.inr (Or.inl h))))) (fun h => (h.elim (fun h => (Or.inr (Or.inr (Or.inr (Or.inr (Or.inl h)))))) (fun h => (h.elim (fun h => (Or.inr (Or.inr (Or.inr (Or.inr (Or.inr (Or.inl h))))))) (fun h => (h.elim (fun h => (Or.inr (Or.inr (Or.inr (Or.inr (Or.inr (Or.inr (Or.inl h)))))))) (fun h => (h.elim (fun h => (Or.inr (Or.inr (Or.inr (Or.inr (Or.inr (Or.inr (Or.inr (Or.inl h))))))))) (fun h => (h.elim (fun h => (Or.inr (Or.inr (Or.inr (Or.inr (Or.inr (Or.inr (Or.inr (Or.inr (Or.inl h)))))))))) (fun h => (h.elim (fun h => (Or.inr (Or.inr (Or.inr (Or.inr (Or.inr (Or.inr (Or.inr (Or.inr (Or.inr (Or.inl h))))))))))) (fun h => (h.elim (fun h => (Or.inr (Or.inr (Or.inr (Or.inr (Or.inr (Or.inr (Or.inr (Or.inr (Or.inr (Or.inr (Or.inl h)))))))))))) (fun h => (h.elim (fun h => (Or.inr (Or.inr (Or.inr (Or.inr (Or.inr (Or.inr (Or.inr (Or.inr (Or.inr (Or.inr (Or.inr (Or.inl h))))))))))))) (fun h => (h.elim (fun h => (Or.inr (Or.inr (Or.inr (Or.inr (Or.inr (Or.inr (Or.inr (Or.inr (Or.inr (Or.inr (Or.inr (Or.inr (Or.inl h)))))))))))))) (fun h => (Or.inr (Or.inr (Or.inr (Or.inr (Or.inr (Or.inr (Or.inr (Or.inr (Or.inr (Or.inr (Or.inr (Or.inr (Or.inr (Or.inl h))))))))))))))))))))))))))))))))))))))))) g97
  have t100 := (g97 48 3).resolve_left (fun h => h.elim (fun h => absurd h.2 (by decide)) (fun h => h.elim (fun h => absurd h.2 (by decide)) (fun h => h.elim (fun h => absurd h.2 (by decide)) (fun h => h.elim (fun h => absurd h.2 (by decide)) (fun h => h.elim (fun h => absurd h.2 (by decide)) (fun h => h.elim (fun h => absurd h (by decide)) (fun h => h.elim (fun h => absurd h (by decide)) (fun h => h.elim (fun h => absurd h (by decide)) (fun h => h.elim (fun h => absurd h (by decide)) (fun h => h.elim (fun h => absurd h (by decide)) (fun h => h.elim (fun h => absurd h (by decide)) (fun h => h.elim (fun h => absurd h (by decide)) (fun h => h.elim (fun h => absurd h (by decide)) (fun h => absurd h (by decide)))))))))))))))
  have t101 := (g97 48 6).resolve_left (fun h => h.elim (fun h => absurd h.2 (by decide)) (fun h => h.elim (fun h => absurd h.2 (by decide)) (fun h => h.elim (fun h => absurd h.2 (by decide)) (fun h => h.elim (fun h => absurd h.2 (by decide)) (fun h => h.elim (fun h => absurd h.2 (by decide)) (fun h => h.elim (fun h => absurd h (by decide)) (fun h => h.elim (fun h => absurd h (by decide)) (fun h => h.elim (fun h => absurd h (by decide)) (fun h => h.elim (fun h => absurd h (by decide)) (fun h => h.elim (fun h => absurd h (by decide)) (fun h => h.elim (fun h => absurd h (by decide)) (fun h => h.elim (fun h => absurd h (by decide)) (fun h => h.elim (fun h => absurd h (by decide)) (fun h => absurd h (by decide)))))))))))))))
  have t102 := (g97 t 13).resolve_left (fun h => h.elim (fun h => absurd h.2 (by decide)) (fun h => h.elim (fun h => absurd h.2 (by decide)) (fun h => h.elim (fun h => absurd h.2 (by decide)) (fun h => h.elim (fun h => absurd h.2 (by decide)) (fun h => h.elim (fun h => absurd h.2 (by decide)) (fun h => h.elim (fun h => absurd h N_t__64) (fun h => h.elim (fun h => absurd h N_t__65) (fun h => h.elim (fun h => absurd h N_t__66) (fun h => h.elim (fun h => absurd h N_t__67) (fun h => h.elim (fun h => absurd h N_t__68) (fun h => h.elim (fun h => absurd h N_t__69) (fun h => h.elim (fun h => absurd h N_t__70) (fun h => h.elim (fun h => absurd h N_t__71) (fun h => absurd h N_t__72))))))))))))))
  have t103 := (g97 61 2).resolve_left (fun h => h.elim (fun h => absurd h.2 (by decide)) (fun h => h.elim (fun h => absurd h.2 (by decide)) (fun h => h.elim (fun h => absurd h.2 (by decide)) (fun h => h.elim (fun h => absurd h.2 (by decide)) (fun h => h.elim (fun h => absurd h.2 (by decide)) (fun h => h.elim (fun h => absurd h (by decide)) (fun h => h.elim (fun h => absurd h (by decide)) (fun h => h.elim (fun h => absurd h (by decide)) (fun h => h.elim (fun h => absurd h (by decide)) (fun h => h.elim (fun h => absurd h (by decide)) (fun h => h.elim (fun h => absurd h (by decide)) (fun h => h.elim (fun h => absurd h (by decide)) (fun h => h.elim (fun h => absurd h (by decide)) (fun h => absurd h (by decide)))))))))))))))
  have f104 := (show 0 ≤ I98 61 15 ∧ I98 61 15 ≤ 16 from gc_in hI98 R_61 rfl rfl)
  have f105 := (show 0 ≤ I98 61 4 ∧ I98 61 4 ≤ 1 from gc_in hI98 R_61 rfl rfl)
  obtain rfl : J = J99 := funext fun q => funext fun j => ((k97 q j).resolve_left id).symm
  have KLH_I98 : gc_LH σ (-1) I98 := q97.1
  have KTH_I98 : gc_TH (-1) I98 := q97.2.1
  refine gv_callV hD rfl (As := []) (st := []) rfl B_61 S_61 rfl (gc_lV5 hws rfl) (Nat.le_of_ble_eq_true rfl) (gz_Ev_mono (d := 8) (by decide) E97) ?_
  show gv_X _ _ (4, [(0, .inr (.inr (some 61))), (1, .inl a1), (2, .inr (.inr (some a2)))], [], sh, gc_h sh I98 J A)
  refine gv_run 1 true hD (pc' := 5) (lv' := [(0, .inr (.inr (some 61))), (1, .inl a1), (2, .inr (.inr (some a2)))]) (st' := [.inl a1]) (h' := gc_h sh I98 J A) (C := (True ∧ True)) rfl ⟨trivial, trivial⟩ ?_
  refine gv_if_lt (t := 16) hD rfl rfl ⟨by omega, by omega⟩ (fun c106 => ?_) (fun c106 => ?_)
  · show gv_X _ _ (16, [(0, .inr (.inr (some 61))), (1, .inl a1), (2, .inr (.inr (some a2)))], [], sh, gc_h sh I98 J A)
    refine gv_pick [] rfl ?_
    exact L16 I98 J hI98 FI98 FJ KLH_I98 KTH_I98 (by omega)
  · show gv_X _ _ (8, [(0, .inr (.inr (some 61))), (1, .inl a1), (2, .inr (.inr (some a2)))], [], sh, gc_h sh I98 J A)
    refine gv_run 2 true hD (pc' := 10) (lv' := [(0, .inr (.inr (some 61))), (1, .inl a1), (2, .inr (.inr (some a2)))]) (st' := [.inr (.inr (some 61)), .inl a1]) (h' := gc_h sh I98 J A) (C := ((True ∧ True) ∧ True)) rfl ⟨⟨trivial, trivial⟩, trivial⟩ ?_
    have f107 := (show 0 ≤ I98 61 15 ∧ I98 61 15 ≤ 16 from gc_in hI98 R_61 rfl rfl)
    refine gv_get hD rfl rfl S_61 ⟨by decide, B_61⟩ (gc_hI S_61 rfl) ?_
    show gv_X _ _ (13, [(0, .inr (.inr (some 61))), (1, .inl a1), (2, .inr (.inr (some a2)))], [.inl (I98 61 15), .inl a1], sh, gc_h sh I98 J A)
    refine gv_icmp_lt (t := 18) hD rfl rfl ⟨⟨by omega, by omega⟩, ⟨by omega, by omega⟩⟩ (fun c108 => ?_) (fun c108 => ?_)
    · show gv_X _ _ (18, [(0, .inr (.inr (some 61))), (1, .inl a1), (2, .inr (.inr (some a2)))], [], sh, gc_h sh I98 J A)
      refine gv_run 5 true hD (pc' := 24) (lv' := [(4, .inl 0), (3, .inl 0), (0, .inr (.inr (some 61))), (1, .inl a1), (2, .inr (.inr (some a2)))]) (st' := [.inr (.inr (some 61))]) (h' := gc_h sh I98 J A) (C := (((((True ∧ True) ∧ True) ∧ True) ∧ True) ∧ True)) rfl ⟨⟨⟨⟨⟨trivial, trivial⟩, trivial⟩, trivial⟩, trivial⟩, trivial⟩ ?_
      refine gv_get hD rfl rfl S_61 ⟨by decide, B_61⟩ (gc_hA S_61 rfl A_61_18) ?_
      show gv_X _ _ (27, [(4, .inl 0), (3, .inl 0), (0, .inr (.inr (some 61))), (1, .inl a1), (2, .inr (.inr (some a2)))], [.inr (.inr (some 73))], sh, gc_h sh I98 J A)
      refine gv_run 3 true hD (pc' := 33) (lv' := [(4, .inl (0 + 1)), (3, .inl 0), (0, .inr (.inr (some 61))), (1, .inl a1), (2, .inr (.inr (some a2)))]) (st' := [.inr (.inr (some 61)), .inl 0, .inr (.inr (some 73))]) (h' := gc_h sh I98 J A) (C := (((True ∧ True) ∧ True) ∧ True)) rfl ⟨⟨⟨trivial, trivial⟩, trivial⟩, trivial⟩ ?_
      refine gv_get hD rfl rfl S_61 ⟨by decide, B_61⟩ (gc_hA S_61 rfl A_61_17) ?_
      show gv_X _ _ (36, [(4, .inl (0 + 1)), (3, .inl 0), (0, .inr (.inr (some 61))), (1, .inl a1), (2, .inr (.inr (some a2)))], [.inr (.inr (some 72)), .inl 0, .inr (.inr (some 73))], sh, gc_h sh I98 J A)
      refine gv_run 1 true hD (pc' := 37) (lv' := [(4, .inl (0 + 1)), (3, .inl 0), (0, .inr (.inr (some 61))), (1, .inl a1), (2, .inr (.inr (some a2)))]) (st' := [.inl a1, .inr (.inr (some 72)), .inl 0, .inr (.inr (some 73))]) (h' := gc_h sh I98 J A) (C := (True ∧ True)) rfl ⟨trivial, trivial⟩ ?_
      have f109 := (show 0 ≤ I98 72 (Int.toNat a1) ∧ I98 72 (Int.toNat a1) ≤ 47999 from gc_in hI98 R_72 rfl rfl)
      refine gv_iald hD rfl S_72 rfl ⟨by decide, B_72⟩ ⟨by omega, by omega⟩ (gc_iI S_72 rfl) ?_
      show gv_X _ _ (38, [(4, .inl (0 + 1)), (3, .inl 0), (0, .inr (.inr (some 61))), (1, .inl a1), (2, .inr (.inr (some a2)))], [.inl (I98 72 (Int.toNat a1)), .inl 0, .inr (.inr (some 73))], sh, gc_h sh I98 J A)
      refine gv_iast hD rfl S_73 ⟨by decide, B_73⟩ ⟨by omega, by omega⟩ ?_
      refine gc_st (k := 0) hI98 S_73 rfl R_73 (lo := 0) (hi := 47999) rfl rfl (by omega) (by omega) (fun I110 hI110 q111 p111 => ?_)
      have FI110 := gc_frs (W := fun q j => (q = 61 ∧ j = 4) ∨ (q = 61 ∧ j = 8) ∨ (q = 61 ∧ j = 9) ∨ (q = 61 ∧ j = 10) ∨ (q = 61 ∧ j = 15) ∨ q = 64 ∨ q = 65 ∨ q = 66 ∨ q = 67 ∨ q = 68 ∨ q = 69 ∨ q = 70 ∨ q = 71 ∨ q = 72 ∨ q = 73 ∨ q = a2) FI98 (Or.inr (Or.inr (Or.inr (Or.inr (Or.inr (Or.inr (Or.inr (Or.inr (Or.inr (Or.inr (Or.inr (Or.inr (Or.inr (Or.inr (Or.inl rfl))))))))))))))) p111
      have t112 := p111 48 3 (fun h => absurd h.2 (by decide))
      have t113 := p111 48 6 (fun h => absurd h.2 (by decide))
      have t114 := p111 61 15 (fun h => absurd h.2 (by decide))
      have t115 := p111 61 4 (fun h => absurd h.2 (by decide))
      have t116 := p111 t 13 (fun h => absurd h.2 (by decide))
      have t117 := p111 61 2 (fun h => absurd h.2 (by decide))
      have KLH_I110 := gc_LH_fr KLH_I98 (p111 48 6 (fun h => absurd h.2 (by decide))) (p111 48 3 (fun h => absurd h.2 (by decide))) (fun k => p111 54 k (fun h => absurd h.1 (by decide))) (fun k => p111 55 k (fun h => absurd h.1 (by decide))) (fun k => p111 67 k (fun h => absurd h.1 (by decide))) (fun k => p111 69 k (fun h => absurd h.1 (by decide))) (fun k => p111 70 k (fun h => absurd h.1 (by decide)))
      have KTH_I110 := gc_TH_fr KTH_I98 (p111 61 15 (fun h => absurd h.2 (by decide))) (p111 48 3 (fun h => absurd h.2 (by decide))) (fun k => p111 67 k (fun h => absurd h.1 (by decide))) (fun k => p111 72 k (fun h => absurd h.1 (by decide)))
      show gv_X _ _ (39, [(4, .inl (0 + 1)), (3, .inl 0), (0, .inr (.inr (some 61))), (1, .inl a1), (2, .inr (.inr (some a2)))], [], sh, gc_h sh I110 J A)
      refine gv_pick [2, 4, 1, 0] rfl ?_
      exact L39 _ I110 J 0 (0 + 1) (Nat.lt_succ_self _) hI110 FI110 FJ KLH_I110 KTH_I110 (by omega) (gc_ST_push (m := 0) (fun k hk => by omega) (by omega) p111 (by show gc_le I98 (I110 73 0); rw [q111]; exact KTH_I98 (Int.toNat a1) (by omega) (by omega))) (fun i hi => by omega) rfl
    · show gv_X _ _ (16, [(0, .inr (.inr (some 61))), (1, .inl a1), (2, .inr (.inr (some a2)))], [], sh, gc_h sh I98 J A)
      refine gv_pick [] rfl ?_
      exact L16 I98 J hI98 FI98 FJ KLH_I98 KTH_I98 (by omega)
