def gc_fn (A : gc_A) (I : gr_I) (t k : Nat) : Int := if 0 ≤ I 54 k then I (t + 15) (Int.toNat (I 54 k / 24 * 11)) else match A (t + 16) (Int.toNat (-1 - I 54 k)) with
  | some q => I q 1
  | none => 0
theorem gc_fn_0 {A : gc_A} {I : gr_I} {t k : Nat} (h : 0 ≤ I 54 k) : gc_fn A I t k = I (t + 15) (Int.toNat (I 54 k / 24 * 11)) := by
  unfold gc_fn
  rw [if_pos h]
theorem gc_fn_1 {A : gc_A} {I : gr_I} {t k q : Nat} (h : I 54 k < 0) (hq : A (t + 16) (Int.toNat (-1 - I 54 k)) = some q) : gc_fn A I t k = I q 1 := by
  unfold gc_fn
  rw [if_neg (by omega), hq]
theorem gc_ws_neg {σ : Nat → Int} {I : gr_I} {k : Nat} (h : 0 < gc_ws σ I k) : I 54 k < 0 ∧ gc_ws σ I k = σ (Int.toNat (-1 - I 54 k)) := by
  unfold gc_ws at h ⊢
  by_cases e : 0 ≤ I 54 k
  · rw [if_pos e] at h; omega
  · rw [if_neg e]; exact ⟨by omega, rfl⟩
theorem gc_and15 {y : Int} (h : 0 ≤ y ∧ y ≤ 2147483647) : (Int32.ofInt y &&& Int32.ofInt 15).toInt = y % 16 := by
  have e : (Int32.ofInt y &&& Int32.ofInt 15).toBitVec.toNat = y.toNat % 16 := by
    show ((Int32.ofInt y).toBitVec &&& (Int32.ofInt 15).toBitVec).toNat = _
    rw [BitVec.toNat_and, gc_nn h, gc_nn (x := 15) ⟨by decide, by decide⟩]
    exact Nat.and_two_pow_sub_one_eq_mod y.toNat 4
  show ((Int32.ofInt y &&& Int32.ofInt 15).toBitVec).toInt = _
  rw [BitVec.toInt_eq_toNat_of_lt (by omega)]
  omega
theorem gc_shrk {x : Int} {c : Int32} {k : Nat} (hx : 0 ≤ x ∧ x ≤ 2147483647) (hc : (c.toBitVec.smod 32).toNat = k) : (Int32.ofInt x >>> c).toInt = x / ((2 ^ k : Nat) : Int) := by
  have hX : (Int32.ofInt x).toBitVec.toInt = x := gz_toInt ⟨by omega, by omega⟩
  have e : (Int32.ofInt x >>> c).toInt = (((Int32.ofInt x).toBitVec).sshiftRight (c.toBitVec.smod 32).toNat).toInt := rfl
  rw [e, hc, BitVec.toInt_sshiftRight, hX, Int.shiftRight_eq_div_pow]
theorem gc_dgx {z s : Int} (hz : 0 ≤ z ∧ z ≤ 65535) (hs : 0 ≤ s ∧ s ≤ 3) : (Int32.ofInt ((Int32.ofInt z >>> (Int32.ofInt (4 * s) &&& 31)).toInt) &&& Int32.ofInt 15).toInt = gc_dg z (Int.toNat s) ∧ 0 ≤ gc_dg z (Int.toNat s) ∧ gc_dg z (Int.toNat s) ≤ 15 := by
  rcases (show s = 0 ∨ s = 1 ∨ s = 2 ∨ s = 3 from by omega) with rfl | rfl | rfl | rfl
  · rw [gc_shrk (k := 0) ⟨hz.1, by omega⟩ (by decide +kernel)]
    have e : z / ((2 ^ 0 : Nat) : Int) = z := (show z / 1 = z from by omega)
    rw [e, gc_and15 ⟨by omega, by omega⟩]
    exact ⟨rfl, show 0 ≤ z % 16 from by omega, show z % 16 ≤ 15 from by omega⟩
  · rw [gc_shrk (k := 4) ⟨hz.1, by omega⟩ (by decide +kernel)]
    have e : z / ((2 ^ 4 : Nat) : Int) = z / 16 := rfl
    rw [e, gc_and15 ⟨by omega, by omega⟩]
    exact ⟨rfl, show 0 ≤ z / 16 % 16 from by omega, show z / 16 % 16 ≤ 15 from by omega⟩
  · rw [gc_shrk (k := 8) ⟨hz.1, by omega⟩ (by decide +kernel)]
    have e : z / ((2 ^ 8 : Nat) : Int) = z / 256 := rfl
    rw [e, gc_and15 ⟨by omega, by omega⟩]
    exact ⟨rfl, show 0 ≤ z / 256 % 16 from by omega, show z / 256 % 16 ≤ 15 from by omega⟩
  · rw [gc_shrk (k := 12) ⟨hz.1, by omega⟩ (by decide +kernel)]
    have e : z / ((2 ^ 12 : Nat) : Int) = z / 4096 := rfl
    rw [e, gc_and15 ⟨by omega, by omega⟩]
    exact ⟨rfl, show 0 ≤ z / 4096 % 16 from by omega, show z / 4096 % 16 ≤ 15 from by omega⟩
theorem gc_fn_fr {sh : gz_Sh} {ro : Nat → Nat} {A : gc_A} {I Iₚ : gr_I} {t k : Nat} (hL : gc_Ls sh ro A t I) (hW : gc_WV t I) (hk : (k : Int) < I 48 6) (r4 : ∀ k, Iₚ 54 k = I 54 k) (r5 : ∀ j, Iₚ (t + 15) j = I (t + 15) j) (hq : ∀ q, gc_isLin sh ro A q → 144 ≤ q → Iₚ q 1 = I q 1) : gc_fn A Iₚ t k = gc_fn A I t k := by
  by_cases h : 0 ≤ I 54 k
  · rw [gc_fn_0 (by rw [r4]; exact h), gc_fn_0 h, r5, r4]
  · have h1 := (hW k hk).resolve_left h
    obtain ⟨q, h2, h3, h4, -, -⟩ := hL (Int.toNat (-1 - I 54 k)) (by omega)
    rw [gc_fn_1 (by rw [r4]; omega) (by rw [r4]; exact h2), gc_fn_1 (by omega) h2, hq q h3 h4]
def gc_ST (m : Int) (I : gr_I) : Prop := ∀ k : Nat, (k : Int) < m → gc_le I (I 73 k)
theorem gc_ST_fr {m m' : Int} {I Iₚ : gr_I} (h : gc_ST m I) (e : m' ≤ m) (h3 : Iₚ 48 3 = I 48 3) (r7 : ∀ k, Iₚ 67 k = I 67 k) (r : ∀ k, Iₚ 73 k = I 73 k) : gc_ST m' Iₚ := fun k hk => by rw [r]; exact gc_le_fr (h k (by omega)) h3 r7
theorem gc_ST_push {m : Int} {I Iₚ : gr_I} (h : gc_ST m I) (h0 : 0 ≤ m) (p : ∀ q j, ¬ (q = 73 ∧ j = Int.toNat m) → Iₚ q j = I q j) (hz : gc_le I (Iₚ 73 (Int.toNat m))) : gc_ST (m + 1) Iₚ := fun k hk => by
  have e3 : Iₚ 48 3 = I 48 3 := p 48 3 (fun h9 => absurd h9.1 (by decide))
  have e7 : ∀ j, Iₚ 67 j = I 67 j := fun j => p 67 j (fun h9 => absurd h9.1 (by decide))
  by_cases e : k = Int.toNat m
  · rw [e]; exact gc_le_fr hz e3 e7
  · rw [p 73 k (fun h9 => e h9.2)]; exact gc_le_fr (h k (by omega)) e3 e7
theorem gc_op_st {I Iₚ : gr_I} {T : Nat} {n : Int} (h0 : 0 ≤ n) (hT : ¬ T = 12) (p : ∀ q j, ¬ (q = T ∧ j = Int.toNat n) → Iₚ q j = I q j) : gc_op Iₚ T (Int.toNat (n + 1)) = gc_op I T (Int.toNat n) - 1 + I 12 (Int.toNat (Iₚ T (Int.toNat n))) := by
  rw [gc_op_at h0, gc_op_fr (n := Int.toNat n) (fun k hk => p T k (fun h9 => by have := h9.2; omega)) (fun k => p 12 k (fun h9 => hT h9.1.symm)), p 12 _ (fun h9 => hT h9.1.symm)]
theorem gc_pp_st {I Iₚ : gr_I} {T : Nat} {n : Int} (h : gc_pp I T n) (h0 : 0 ≤ n) (hT : ¬ T = 12) (p : ∀ q j, ¬ (q = T ∧ j = Int.toNat n) → Iₚ q j = I q j) (hz : 1 ≤ gc_op I T (Int.toNat n)) : gc_pp Iₚ T (n + 1) := fun i hi => by
  rw [gc_op_fr (n := i) (fun k hk => p T k (fun h9 => by have := h9.2; omega)) (fun k => p 12 k (fun h9 => hT h9.1.symm))]
  by_cases e : i = Int.toNat n
  · rw [e]; exact hz
  · exact h i (by omega)
theorem gc_pp_fr {I Iₚ : gr_I} {T : Nat} {n : Int} (h : gc_pp I T n) (r : ∀ k, Iₚ T k = I T k) (r2 : ∀ k, Iₚ 12 k = I 12 k) : gc_pp Iₚ T n := fun i hi => by rw [gc_op_fr (n := i) (fun k _ => r k) r2]; exact h i hi
set_option maxHeartbeats 8000000 in
set_option maxRecDepth 100000 in
theorem d_X11_wordFun_w {ws0 : List Cond} {tb : String → gz_T} (hws : gc_Ws ws0) (htb : gc_tbs tb) (sh : gz_Sh) (ro : Nat → Nat) (I : gr_I) (J : gr_J) (A : gc_A) (hI : gc_Inv ro I) (p : Nat) (a1 : Int) (hp : gc_isTongue sh ro A p) (ha1 : 0 ≤ a1 ∧ a1 ≤ 63)  : ∃ r hₚ, gz_Ev ws0 tb 1 (yX11_wordFun, cX11_wordFun, 2, (some .int)) [.inr (.inr (some p)), .inl a1] sh (gc_h sh I J A) r sh hₚ 0 0 ∧ (hₚ = gc_h sh I J A ∧ (∃ z : Int, r = some (.inl z) ∧ 0 ≤ z ∧ z ≤ 95 ∧ (z = I (p + 15) (Int.toNat (a1 * 11))))) := by
  obtain ⟨S_p, R_p, B_p, A_p_0, h_p_1, A_p_1, h_p_3, A_p_2, S_p_5, R_p_5, B_p_5, A_p_3, S_p_6, R_p_6, B_p_6, A_p_4, h_p_7, A_p_5, S_p_9, R_p_9, B_p_9, A_p_7, S_p_10, R_p_10, B_p_10, A_p_8, h_p_11, A_p_9, S_p_13, R_p_13, B_p_13, A_p_10, S_p_14, R_p_14, B_p_14, A_p_12, S_p_15, R_p_15, B_p_15, A_p_14, S_p_16, R_p_16, B_p_16, A_p_15, h_p_17⟩ := id hp
  replace R_p := gz_hi R_p
  replace B_p := gz_hi B_p
  replace R_p_5 := gz_hi R_p_5
  replace B_p_5 := gz_hi B_p_5
  replace R_p_6 := gz_hi R_p_6
  replace B_p_6 := gz_hi B_p_6
  replace R_p_9 := gz_hi R_p_9
  replace B_p_9 := gz_hi B_p_9
  replace R_p_10 := gz_hi R_p_10
  replace B_p_10 := gz_hi B_p_10
  replace R_p_13 := gz_hi R_p_13
  replace B_p_13 := gz_hi B_p_13
  replace R_p_14 := gz_hi R_p_14
  replace B_p_14 := gz_hi B_p_14
  replace R_p_15 := gz_hi R_p_15
  replace B_p_15 := gz_hi B_p_15
  replace R_p_16 := gz_hi R_p_16
  replace B_p_16 := gz_hi B_p_16
  obtain ⟨S_p_1, R_p_1, B_p_1, A_p_1_0, S_p_1_1, R_p_1_1, B_p_1_1, Q0_p_1, Q1_p_1, Q2_p_1⟩ := id h_p_1
  replace R_p_1 := gz_hi R_p_1
  replace B_p_1 := gz_hi B_p_1
  replace R_p_1_1 := gz_hi R_p_1_1
  replace B_p_1_1 := gz_hi B_p_1_1
  obtain ⟨S_p_3, R_p_3, B_p_3, A_p_3_0, S_p_3_1, R_p_3_1, B_p_3_1, Q0_p_3, Q1_p_3, Q2_p_3⟩ := id h_p_3
  replace R_p_3 := gz_hi R_p_3
  replace B_p_3 := gz_hi B_p_3
  replace R_p_3_1 := gz_hi R_p_3_1
  replace B_p_3_1 := gz_hi B_p_3_1
  obtain ⟨S_p_7, R_p_7, B_p_7, A_p_7_0, S_p_7_1, R_p_7_1, B_p_7_1, Q0_p_7, Q1_p_7, Q2_p_7⟩ := id h_p_7
  replace R_p_7 := gz_hi R_p_7
  replace B_p_7 := gz_hi B_p_7
  replace R_p_7_1 := gz_hi R_p_7_1
  replace B_p_7_1 := gz_hi B_p_7_1
  obtain ⟨S_p_11, R_p_11, B_p_11, A_p_11_0, S_p_11_1, R_p_11_1, B_p_11_1, Q0_p_11, Q1_p_11, Q2_p_11⟩ := id h_p_11
  replace R_p_11 := gz_hi R_p_11
  replace B_p_11 := gz_hi B_p_11
  replace R_p_11_1 := gz_hi R_p_11_1
  replace B_p_11_1 := gz_hi B_p_11_1
  obtain ⟨S_p_17, R_p_17, B_p_17, A_p_17_0, S_20, R_20, B_20, A_p_17_1, S_p_17_1, R_p_17_1, B_p_17_1, A_p_17_2, S_p_17_2, R_p_17_2, B_p_17_2, A_p_17_3, S_p_17_3, R_p_17_3, B_p_17_3, A_p_17_4, S_p_17_4, R_p_17_4, B_p_17_4, A_p_17_5, S_p_17_5, R_p_17_5, B_p_17_5, S_p_17_6, R_p_17_6, B_p_17_6, S_p_17_7, R_p_17_7, B_p_17_7⟩ := id h_p_17
  replace R_p_17 := gz_hi R_p_17
  replace B_p_17 := gz_hi B_p_17
  replace R_20 := gz_hi R_20
  replace B_20 := gz_hi B_20
  replace R_p_17_1 := gz_hi R_p_17_1
  replace B_p_17_1 := gz_hi B_p_17_1
  replace R_p_17_2 := gz_hi R_p_17_2
  replace B_p_17_2 := gz_hi B_p_17_2
  replace R_p_17_3 := gz_hi R_p_17_3
  replace B_p_17_3 := gz_hi B_p_17_3
  replace R_p_17_4 := gz_hi R_p_17_4
  replace B_p_17_4 := gz_hi B_p_17_4
  replace R_p_17_5 := gz_hi R_p_17_5
  replace B_p_17_5 := gz_hi B_p_17_5
  replace R_p_17_6 := gz_hi R_p_17_6
  replace B_p_17_6 := gz_hi B_p_17_6
  replace R_p_17_7 := gz_hi R_p_17_7
  replace B_p_17_7 := gz_hi B_p_17_7
  have hD : gv_D (gc_E11 ws0 tb 0 (yX11_wordFun, cX11_wordFun, 2, (some .int)) kX11_wordFun) := gq_of oX11_wordFun
  refine gc_ev11 (d := 0) (l := kX11_wordFun) (Po := fun r hₚ => (hₚ = gc_h sh I J A ∧ (∃ z : Int, r = some (.inl z) ∧ 0 ≤ z ∧ z ≤ 95 ∧ (z = I (p + 15) (Int.toNat (a1 * 11)))))) htb rfl (Nat.le_of_ble_eq_true rfl) ?_
  refine gv_run 1 true hD (pcₚ := 1) (lvₚ := [(0, .inr (.inr (some p))), (1, .inl a1)]) (stₚ := [.inr (.inr (some p))]) (hₚ := gc_h sh I J A) (C := (True ∧ True)) rfl ⟨trivial, trivial⟩ ?_
  refine gv_get hD rfl rfl S_p ⟨by decide, (gz_sh B_p)⟩ (gc_hA S_p rfl A_p_12) ?_
  show gv_X _ _ (4, [(0, .inr (.inr (some p))), (1, .inl a1)], [.inr (.inr (some (p + 15)))], sh, gc_h sh I J A)
  refine gv_run 3 true hD (pcₚ := 8) (lvₚ := [(0, .inr (.inr (some p))), (1, .inl a1)]) (stₚ := [.inl (a1 * 11), .inr (.inr (some (p + 15)))]) (hₚ := gc_h sh I J A) (C := (((True ∧ True) ∧ True) ∧ True)) rfl ⟨⟨⟨trivial, trivial⟩, trivial⟩, trivial⟩ ?_
  have f1 := gz_hi ((show 0 ≤ I (p + 15) (Int.toNat (a1 * 11)) ∧ I (p + 15) (Int.toNat (a1 * 11)) ≤ 95 from gc_inm (c := 0) hI (gz_sh R_p_15) rfl rfl (by (/-0-/first | omega | (simp only [gz_hd] at *; omega))) rfl rfl))
  refine gv_iald hD rfl S_p_15 rfl ⟨by decide, (gz_sh B_p_15)⟩ ⟨by (/-1-/first | omega | (simp only [gz_hd] at *; omega)), by (/-2-/first | omega | (simp only [gz_hd] at *; omega))⟩ (gc_iI S_p_15 rfl) ?_
  show gv_X _ _ (9, [(0, .inr (.inr (some p))), (1, .inl a1)], [.inl (I (p + 15) (Int.toNat (a1 * 11)))], sh, gc_h sh I J A)
  exact gv_iret hD rfl ⟨rfl, ⟨_, rfl, by (/-3-/first | (and_intros; (have o1 := gz_sh f1; omega); (have o1 := gz_sh f1; omega); (omega)) | (simp only [gz_hd] at *; omega))⟩⟩
set_option maxHeartbeats 8000000 in
set_option maxRecDepth 100000 in
theorem d_X5_funOf_w {ws0 : List Cond} {tb : String → gz_T} (hws : gc_Ws ws0) (htb : gc_tbs tb) (sh : gz_Sh) (ro : Nat → Nat) (I : gr_I) (J : gr_J) (A : gc_A) (hI : gc_Inv ro I) (t : Nat) (a1 : Int) (hb : gc_Base sh ro A) (h_t : gc_isTongue sh ro A t) (G_t : 144 ≤ t) (ha1 : 0 ≤ a1 ∧ a1 ≤ 8999) (x0 : gc_Ls sh ro A t I) (x1 : gc_WV t I) (x2 : a1 < I 48 6) (x3 : I 61 2 = (t : Int)) : ∃ r hₚ, gz_Ev ws0 tb 2 (yX5_funOf, cX5_funOf, 3, (some .int)) [.inr (.inr (some 61)), .inl a1] sh (gc_h sh I J A) r sh hₚ 0 0 ∧ (hₚ = gc_h sh I J A ∧ (∃ z : Int, r = some (.inl z) ∧ 0 ≤ z ∧ z ≤ 95 ∧ (z = gc_fn A I t (Int.toNat a1)))) := by
  have A_48_8 : A 48 8 = some 54 := gc_bA_48_8 hb
  have A_61_1 : A 61 1 = some 48 := gc_bA_61_1 hb
  have B_48 := gz_hi (show 48 < 1000000 from by decide)
  have B_54 := gz_hi (show 54 < 1000000 from by decide)
  have B_61 := gz_hi (show 61 < 1000000 from by decide)
  have R_54 := gz_hi (show ro 54 = 46 from gc_bR_54 hb)
  have R_61 := gz_hi (show ro 61 = 72 from gc_bR_61 hb)
  have S_48 : sh[48]? = some (false, 0, 22) := gc_bS_48 hb
  have S_54 : sh[54]? = some (true, 1, 9000) := gc_bS_54 hb
  have S_61 : sh[61]? = some (false, 5, 19) := gc_bS_61 hb
  obtain ⟨S_t, R_t, B_t, A_t_0, h_t_1, A_t_1, h_t_3, A_t_2, S_t_5, R_t_5, B_t_5, A_t_3, S_t_6, R_t_6, B_t_6, A_t_4, h_t_7, A_t_5, S_t_9, R_t_9, B_t_9, A_t_7, S_t_10, R_t_10, B_t_10, A_t_8, h_t_11, A_t_9, S_t_13, R_t_13, B_t_13, A_t_10, S_t_14, R_t_14, B_t_14, A_t_12, S_t_15, R_t_15, B_t_15, A_t_14, S_t_16, R_t_16, B_t_16, A_t_15, h_t_17⟩ := id h_t
  replace R_t := gz_hi R_t
  replace B_t := gz_hi B_t
  replace R_t_5 := gz_hi R_t_5
  replace B_t_5 := gz_hi B_t_5
  replace R_t_6 := gz_hi R_t_6
  replace B_t_6 := gz_hi B_t_6
  replace R_t_9 := gz_hi R_t_9
  replace B_t_9 := gz_hi B_t_9
  replace R_t_10 := gz_hi R_t_10
  replace B_t_10 := gz_hi B_t_10
  replace R_t_13 := gz_hi R_t_13
  replace B_t_13 := gz_hi B_t_13
  replace R_t_14 := gz_hi R_t_14
  replace B_t_14 := gz_hi B_t_14
  replace R_t_15 := gz_hi R_t_15
  replace B_t_15 := gz_hi B_t_15
  replace R_t_16 := gz_hi R_t_16
  replace B_t_16 := gz_hi B_t_16
  obtain ⟨S_t_1, R_t_1, B_t_1, A_t_1_0, S_t_1_1, R_t_1_1, B_t_1_1, Q0_t_1, Q1_t_1, Q2_t_1⟩ := id h_t_1
  replace R_t_1 := gz_hi R_t_1
  replace B_t_1 := gz_hi B_t_1
  replace R_t_1_1 := gz_hi R_t_1_1
  replace B_t_1_1 := gz_hi B_t_1_1
  obtain ⟨S_t_3, R_t_3, B_t_3, A_t_3_0, S_t_3_1, R_t_3_1, B_t_3_1, Q0_t_3, Q1_t_3, Q2_t_3⟩ := id h_t_3
  replace R_t_3 := gz_hi R_t_3
  replace B_t_3 := gz_hi B_t_3
  replace R_t_3_1 := gz_hi R_t_3_1
  replace B_t_3_1 := gz_hi B_t_3_1
  obtain ⟨S_t_7, R_t_7, B_t_7, A_t_7_0, S_t_7_1, R_t_7_1, B_t_7_1, Q0_t_7, Q1_t_7, Q2_t_7⟩ := id h_t_7
  replace R_t_7 := gz_hi R_t_7
  replace B_t_7 := gz_hi B_t_7
  replace R_t_7_1 := gz_hi R_t_7_1
  replace B_t_7_1 := gz_hi B_t_7_1
  obtain ⟨S_t_11, R_t_11, B_t_11, A_t_11_0, S_t_11_1, R_t_11_1, B_t_11_1, Q0_t_11, Q1_t_11, Q2_t_11⟩ := id h_t_11
  replace R_t_11 := gz_hi R_t_11
  replace B_t_11 := gz_hi B_t_11
  replace R_t_11_1 := gz_hi R_t_11_1
  replace B_t_11_1 := gz_hi B_t_11_1
  obtain ⟨S_t_17, R_t_17, B_t_17, A_t_17_0, S_20, R_20, B_20, A_t_17_1, S_t_17_1, R_t_17_1, B_t_17_1, A_t_17_2, S_t_17_2, R_t_17_2, B_t_17_2, A_t_17_3, S_t_17_3, R_t_17_3, B_t_17_3, A_t_17_4, S_t_17_4, R_t_17_4, B_t_17_4, A_t_17_5, S_t_17_5, R_t_17_5, B_t_17_5, S_t_17_6, R_t_17_6, B_t_17_6, S_t_17_7, R_t_17_7, B_t_17_7⟩ := id h_t_17
  replace R_t_17 := gz_hi R_t_17
  replace B_t_17 := gz_hi B_t_17
  replace R_20 := gz_hi R_20
  replace B_20 := gz_hi B_20
  replace R_t_17_1 := gz_hi R_t_17_1
  replace B_t_17_1 := gz_hi B_t_17_1
  replace R_t_17_2 := gz_hi R_t_17_2
  replace B_t_17_2 := gz_hi B_t_17_2
  replace R_t_17_3 := gz_hi R_t_17_3
  replace B_t_17_3 := gz_hi B_t_17_3
  replace R_t_17_4 := gz_hi R_t_17_4
  replace B_t_17_4 := gz_hi B_t_17_4
  replace R_t_17_5 := gz_hi R_t_17_5
  replace B_t_17_5 := gz_hi B_t_17_5
  replace R_t_17_6 := gz_hi R_t_17_6
  replace B_t_17_6 := gz_hi B_t_17_6
  replace R_t_17_7 := gz_hi R_t_17_7
  replace B_t_17_7 := gz_hi B_t_17_7
  have hD : gv_D (gc_E5 ws0 tb 1 (yX5_funOf, cX5_funOf, 3, (some .int)) kX5_funOf) := gq_of oX5_funOf
  refine gc_ev5 (d := 1) (l := kX5_funOf) (Po := fun r hₚ => (hₚ = gc_h sh I J A ∧ (∃ z : Int, r = some (.inl z) ∧ 0 ≤ z ∧ z ≤ 95 ∧ (z = gc_fn A I t (Int.toNat a1))))) htb rfl (Nat.le_of_ble_eq_true rfl) ?_
  have L42 : ∀ (s0_2 : Int), ((0 ≤ s0_2 ∧ s0_2 ≤ 95) ∧ (I 61 2 = (t : Int))) → (s0_2 = gc_fn A I t (Int.toNat a1)) → gv_X (gc_E5 ws0 tb 1 (yX5_funOf, cX5_funOf, 3, (some .int)) kX5_funOf) (gv_Q cX5_funOf (some .int) sh (fun r hₚ => (hₚ = gc_h sh I J A ∧ (∃ z : Int, r = some (.inl z) ∧ 0 ≤ z ∧ z ≤ 95 ∧ (z = gc_fn A I t (Int.toNat a1)))))) (42, [], [.inl s0_2], sh, gc_h sh I J A) := by
    intro s0_2 m_2 e0_2
    obtain ⟨hs0_2, e1_2⟩ := gz_h2 m_2
    exact gv_iret hD rfl ⟨rfl, ⟨_, rfl, by (/-0-/first | (have o1 := gz_sh hs0_2; omega) | (simp only [gz_hd] at *; omega)), by (/-1-/first | (have o1 := gz_sh hs0_2; omega) | (simp only [gz_hd] at *; omega)), e0_2⟩⟩
  refine gv_run 1 true hD (pcₚ := 1) (lvₚ := [(0, .inr (.inr (some 61))), (1, .inl a1)]) (stₚ := [.inr (.inr (some 61))]) (hₚ := gc_h sh I J A) (C := (True ∧ True)) rfl ⟨trivial, trivial⟩ ?_
  refine gv_get hD rfl rfl S_61 ⟨by decide, (gz_sh B_61)⟩ (gc_hA S_61 rfl A_61_1) ?_
  show gv_X _ _ (4, [(0, .inr (.inr (some 61))), (1, .inl a1)], [.inr (.inr (some 48))], sh, gc_h sh I J A)
  refine gv_get hD rfl rfl S_48 ⟨by decide, (gz_sh B_48)⟩ (gc_hA S_48 rfl A_48_8) ?_
  show gv_X _ _ (7, [(0, .inr (.inr (some 61))), (1, .inl a1)], [.inr (.inr (some 54))], sh, gc_h sh I J A)
  refine gv_run 1 true hD (pcₚ := 8) (lvₚ := [(0, .inr (.inr (some 61))), (1, .inl a1)]) (stₚ := [.inl a1, .inr (.inr (some 54))]) (hₚ := gc_h sh I J A) (C := (True ∧ True)) rfl ⟨trivial, trivial⟩ ?_
  have f4 := gz_hi ((gc_b_46 hI (gz_sh R_54) (Int.toNat a1)))
  refine gv_iald hD rfl S_54 rfl ⟨by decide, (gz_sh B_54)⟩ ⟨by (/-2-/first | omega | (simp only [gz_hd] at *; omega)), by (/-3-/first | omega | (simp only [gz_hd] at *; omega))⟩ (gc_iI S_54 rfl) ?_
  show gv_X _ _ (9, [(0, .inr (.inr (some 61))), (1, .inl a1)], [.inl (I 54 (Int.toNat a1))], sh, gc_h sh I J A)
  refine gv_run 1 true hD (pcₚ := 10) (lvₚ := [(2, .inl (I 54 (Int.toNat a1))), (0, .inr (.inr (some 61))), (1, .inl a1)]) (stₚ := []) (hₚ := gc_h sh I J A) (C := (True ∧ True)) rfl ⟨trivial, trivial⟩ ?_
  have t5 := gz_hi (x1 (Int.toNat a1) (by (/-4-/first | omega | (simp only [gz_hd] at *; omega))))
  refine gv_run 1 true hD (pcₚ := 11) (lvₚ := [(2, .inl (I 54 (Int.toNat a1))), (0, .inr (.inr (some 61))), (1, .inl a1)]) (stₚ := [.inl (I 54 (Int.toNat a1))]) (hₚ := gc_h sh I J A) (C := (True ∧ True)) rfl ⟨trivial, trivial⟩ ?_
  refine gv_if_lt (t := 28) hD rfl rfl ⟨by (/-5-/first | (have o1 := gz_sh f4; omega) | (simp only [gz_hd] at *; omega)), by (/-6-/first | (have o1 := gz_sh f4; omega) | (simp only [gz_hd] at *; omega))⟩ (fun c6 => ?_) (fun c6 => ?_)
  · show gv_X _ _ (28, [(2, .inl (I 54 (Int.toNat a1))), (0, .inr (.inr (some 61))), (1, .inl a1)], [], sh, gc_h sh I J A)
    refine gv_run 1 true hD (pcₚ := 29) (lvₚ := [(2, .inl (I 54 (Int.toNat a1))), (0, .inr (.inr (some 61))), (1, .inl a1)]) (stₚ := [.inr (.inr (some 61))]) (hₚ := gc_h sh I J A) (C := (True ∧ True)) rfl ⟨trivial, trivial⟩ ?_
    refine gv_get hD rfl rfl S_61 ⟨by decide, (gz_sh B_61)⟩ (gc_h5 (t := t) S_61 rfl (by (/-7-/first | omega | (simp only [gz_hd] at *; omega)))) ?_
    show gv_X _ _ (32, [(2, .inl (I 54 (Int.toNat a1))), (0, .inr (.inr (some 61))), (1, .inl a1)], [.inr (.inr (some t))], sh, gc_h sh I J A)
    refine gv_get hD rfl rfl S_t ⟨by decide, (gz_sh B_t)⟩ (gc_hA S_t rfl A_t_14) ?_
    show gv_X _ _ (35, [(2, .inl (I 54 (Int.toNat a1))), (0, .inr (.inr (some 61))), (1, .inl a1)], [.inr (.inr (some (t + 16)))], sh, gc_h sh I J A)
    refine gv_run 3 true hD (pcₚ := 38) (lvₚ := [(2, .inl (I 54 (Int.toNat a1))), (0, .inr (.inr (some 61))), (1, .inl a1)]) (stₚ := [.inl ((-1) - (I 54 (Int.toNat a1))), .inr (.inr (some (t + 16)))]) (hₚ := gc_h sh I J A) (C := (((True ∧ True) ∧ True) ∧ True)) rfl ⟨⟨⟨trivial, trivial⟩, trivial⟩, trivial⟩ ?_
    obtain ⟨t7_, A_t7, h_t7, G_t7, U_t7, V_t7⟩ := x0 (Int.toNat (((-1) - (I 54 (Int.toNat a1))))) (by (/-8-/first | (have o1 := gz_sh t5; omega) | (simp only [gz_hd] at *; omega)))
    obtain ⟨S_t7, R_t7, B_t7, A_t7_5, S_t7__1, R_t7__1, B_t7__1, A_t7_6, S_t7__2, R_t7__2, B_t7__2, A_t7_7, S_t7__3, R_t7__3, B_t7__3, A_t7_9, S_t7__4, R_t7__4, B_t7__4, A_t7_10, S_t7__5, R_t7__5, B_t7__5, A_t7_11, S_t7__6, R_t7__6, B_t7__6, A_t7_13, S_t7__7, R_t7__7, B_t7__7, A_t7_15, S_t7__8, R_t7__8, B_t7__8⟩ := id h_t7
    replace R_t7 := gz_hi R_t7
    replace B_t7 := gz_hi B_t7
    replace R_t7__1 := gz_hi R_t7__1
    replace B_t7__1 := gz_hi B_t7__1
    replace R_t7__2 := gz_hi R_t7__2
    replace B_t7__2 := gz_hi B_t7__2
    replace R_t7__3 := gz_hi R_t7__3
    replace B_t7__3 := gz_hi B_t7__3
    replace R_t7__4 := gz_hi R_t7__4
    replace B_t7__4 := gz_hi B_t7__4
    replace R_t7__5 := gz_hi R_t7__5
    replace B_t7__5 := gz_hi B_t7__5
    replace R_t7__6 := gz_hi R_t7__6
    replace B_t7__6 := gz_hi B_t7__6
    replace R_t7__7 := gz_hi R_t7__7
    replace B_t7__7 := gz_hi B_t7__7
    replace R_t7__8 := gz_hi R_t7__8
    replace B_t7__8 := gz_hi B_t7__8
    refine gv_aald hD rfl S_t_16 ⟨by decide, by decide⟩ ⟨by decide, (gz_sh B_t_16)⟩ ⟨by (/-9-/first | omega | (simp only [gz_hd] at *; omega)), by (/-10-/first | (have o1 := gz_sh f4; omega) | (simp only [gz_hd] at *; omega))⟩ ((gc_aA S_t_16 rfl).trans A_t7) ?_
    show gv_X _ _ (39, [(2, .inl (I 54 (Int.toNat a1))), (0, .inr (.inr (some 61))), (1, .inl a1)], [.inr (.inr (some t7_))], sh, gc_h sh I J A)
    have f8 := gz_hi ((show 0 ≤ I t7_ 1 ∧ I t7_ 1 ≤ 95 from gc_in2 hI (gz_sh R_t7) rfl rfl rfl))
    refine gv_get hD rfl rfl S_t7 ⟨by decide, (gz_sh B_t7)⟩ (gc_hI S_t7 rfl) ?_
    show gv_X _ _ (42, [(2, .inl (I 54 (Int.toNat a1))), (0, .inr (.inr (some 61))), (1, .inl a1)], [.inl (I t7_ 1)], sh, gc_h sh I J A)
    refine gv_pick [] rfl ?_
    exact L42 (I t7_ 1) (by (/-11-/first | (and_intros; (have o1 := gz_sh f8; omega); (have o1 := gz_sh f8; omega); (omega)) | (simp only [gz_hd] at *; omega))) (gc_fn_1 (by (/-12-/first | omega | (simp only [gz_hd] at *; omega))) A_t7).symm
  · show gv_X _ _ (14, [(2, .inl (I 54 (Int.toNat a1))), (0, .inr (.inr (some 61))), (1, .inl a1)], [], sh, gc_h sh I J A)
    refine gv_run 1 true hD (pcₚ := 15) (lvₚ := [(2, .inl (I 54 (Int.toNat a1))), (0, .inr (.inr (some 61))), (1, .inl a1)]) (stₚ := [.inr (.inr (some 61))]) (hₚ := gc_h sh I J A) (C := (True ∧ True)) rfl ⟨trivial, trivial⟩ ?_
    refine gv_get hD rfl rfl S_61 ⟨by decide, (gz_sh B_61)⟩ (gc_h5 (t := t) S_61 rfl (by (/-13-/first | omega | (simp only [gz_hd] at *; omega)))) ?_
    show gv_X _ _ (18, [(2, .inl (I 54 (Int.toNat a1))), (0, .inr (.inr (some 61))), (1, .inl a1)], [.inr (.inr (some t))], sh, gc_h sh I J A)
    have f9 := gz_hi (gw_div (x := ((I 54 (Int.toNat a1)))) (y := 24) ⟨by (/-14-/first | omega | (simp only [gz_hd] at *; omega)), by (/-15-/first | (have o1 := gz_sh f4; omega) | (simp only [gz_hd] at *; omega))⟩ ⟨by (/-16-/first | omega | (simp only [gz_hd] at *; omega)), by (/-17-/first | omega | (simp only [gz_hd] at *; omega))⟩)
    refine gv_run 3 true hD (pcₚ := 22) (lvₚ := [(2, .inl (I 54 (Int.toNat a1))), (0, .inr (.inr (some 61))), (1, .inl a1)]) (stₚ := [.inl ((Int32.ofInt ((I 54 (Int.toNat a1))) / Int32.ofInt 24).toInt), .inr (.inr (some t))]) (hₚ := gc_h sh I J A) (C := (((True ∧ True) ∧ True) ∧ (gz_R 24 ∧ ¬ 24 = 0))) rfl ⟨⟨⟨trivial, trivial⟩, trivial⟩, ⟨⟨by (/-18-/first | omega | (simp only [gz_hd] at *; omega)), by (/-19-/first | omega | (simp only [gz_hd] at *; omega))⟩, by (/-20-/first | omega | (simp only [gz_hd] at *; omega))⟩⟩ ?_
    obtain ⟨r10, h10, E10, P10⟩ := d_X11_wordFun_w (ws0 := ws0) (tb := tb) hws htb sh ro I J A hI t (((Int32.ofInt ((I 54 (Int.toNat a1))) / Int32.ofInt 24).toInt)) h_t   ⟨by (/-21-/first | (have o1 := gz_sh f4; have o2 := gz_sh f9; omega) | (simp only [gz_hd] at *; omega)), by (/-22-/first | (have o1 := gz_sh f4; have o2 := gz_sh f9; omega) | (simp only [gz_hd] at *; omega))⟩  
    obtain ⟨rfl, ⟨z10, rfl, q10⟩⟩ := P10
    replace q10 := gz_hi q10
    refine gv_callV hD rfl (As := [.inl ((Int32.ofInt ((I 54 (Int.toNat a1))) / Int32.ofInt 24).toInt)]) (st := []) rfl (gz_sh B_t) S_t rfl (gc_lV5 hws rfl) (Nat.le_of_ble_eq_true rfl) (gz_Ev_mono (d := 1) (by decide) E10) ?_
    show gv_X _ _ (25, [(2, .inl (I 54 (Int.toNat a1))), (0, .inr (.inr (some 61))), (1, .inl a1)], [.inl z10], sh, gc_h sh I J A)
    refine gv_run 1 true hD (pcₚ := 42) (lvₚ := [(2, .inl (I 54 (Int.toNat a1))), (0, .inr (.inr (some 61))), (1, .inl a1)]) (stₚ := [.inl z10]) (hₚ := gc_h sh I J A) (C := (True ∧ True)) rfl ⟨trivial, trivial⟩ ?_
    refine gv_pick [] rfl ?_
    exact L42 z10 (by (/-23-/first | (and_intros; (have o1 := gz_sh q10; omega); (have o1 := gz_sh q10; omega); (omega)) | (simp only [gz_hd] at *; omega))) (by rw [gc_fn_0 (by (/-24-/first | omega | (simp only [gz_hd] at *; omega))), ← gw_div (x := I 54 (Int.toNat a1)) (y := 24) ⟨by (/-25-/first | omega | (simp only [gz_hd] at *; omega)), by (/-26-/first | (have o1 := gz_sh f4; omega) | (simp only [gz_hd] at *; omega))⟩ ⟨by (/-27-/first | omega | (simp only [gz_hd] at *; omega)), by (/-28-/first | omega | (simp only [gz_hd] at *; omega))⟩]; (/-29-/first | (have o1 := gz_sh q10; omega) | (simp only [gz_hd] at *; omega)))
