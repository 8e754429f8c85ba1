/-! PARITY, the class's side: VALUES -/
def gs_rv (β : Int → Int) (N : Int) (I : gr_I) (J : gr_J) (c p : Int) : Int := if c = 0 then (gs_ws β N I J 1002 0 p).1 else gs_hv β N I J 1002 1 0 p
/-- a VALUE's FEATURE and rank, on both sides -/
def gs_VR (Ir I : gr_I) (t : Nat) : Prop := ∀ k : Int, 0 ≤ k → k < I (t + 3) 1 → I (t + 5) (Int.toNat k) = Ir 24 (Int.toNat (48 * Ir 0 6 + k)) ∧ I (t + 6) (Int.toNat k) = Ir 25 (Int.toNat (48 * Ir 0 6 + k)) ∧ 1 ≤ I (t + 6) (Int.toNat k)
theorem gs_PV_7 {xc xr i f : Int} (h : gs_PV xc xr i) (hi : i ≤ 8) (hf : 0 ≤ f ∧ f ≤ 7) (h0 : gs_pkb xr (3 * f) = 0) : i ≤ 7 := by
  by_cases c : i = 8
  · rw [c] at h
    exact absurd h0 (gs_PV_8 h hf)
  · omega
theorem gs_ov_v {β : Int → Int} {N : Int} {I : gr_I} {J : gr_J} {k p z : Int} (h : z = gs_lt J 21 (48 * I 0 6) (I 14 (Int.toNat (I 0 6))) (gs_rn β N p)) : gs_ov β N I J k p = gs_ov2 β N I k z p ∧ gs_ovk β N I J k p = gs_ovk2 I k z := gs_ov_at h
theorem gs_rv_e {β : Int → Int} {N : Int} {I : gr_I} {J : gr_J} {c p m k fi q : Int} {w : Int × Int} {v : Int} (hw : c = 0 → gs_ws β N I J 1002 0 p = w) (hh : ¬ c = 0 → gs_hv β N I J 1002 1 0 p = v) (e1 : w.1 = q) (e2 : ¬ c = 0 → v = q) : gs_rv β N I J c p = q := by
  unfold gs_rv
  by_cases h : c = 0
  · rw [if_pos h, hw h, e1]
  · rw [if_neg h, hh h, e2 h]
set_option maxHeartbeats 8000000 in
set_option maxRecDepth 100000 in
theorem d_X6_readValues_p {ws0 : List Cond} {tb : String → gz_T} (hws : gc_Ws ws0) (htb : gc_tbs tb) (sh : gz_Sh) (ro : Nat → Nat) (I : gr_I) (J : gr_J) (A : gc_A) (hI : gc_Inv ro I) (t : Nat) (β : Int → Int) (η : Int) (p9 : Int) (Ir : gr_I) (Jr : gr_J) (a1 : Int) (hb : gc_Base sh ro A) (h_t : gc_isTongue sh ro A t) (G_t : 144 ≤ t) (ha1 : 0 ≤ a1 ∧ a1 ≤ 1) (x0 : gc_AT β η p9 23 I J) (x1 : 0 ≤ p9) (x2 : I (t + 3) 1 = Ir 14 (Int.toNat (Ir 0 6))) (x3 : gs_NA (I (t + 3) 1) (J (t + 4)) (fun k => Jr 21 (Int.toNat (48 * Ir 0 6 + (k : Int))))) (x4 : gs_VR Ir I t) (x5 : I 39 2 = (t : Int)) (KLT_I : gc_LT I) (KTK_I : gc_TK I) : ∃ r h', gz_Ev ws0 tb 3 (yX6_readValues, cX6_readValues, 5, (some .boolean)) [.inr (.inr (some 39)), .inl a1] sh (gc_h sh I J A) r sh h' 0 0 ∧ (∃ (I' : gr_I) (J' : gr_J), h' = gc_h sh I' J' A ∧ gc_Inv ro I' ∧ (∀ q j : Nat, ((q = 39 ∧ j = 3) ∨ (q = 39 ∧ j = 4) ∨ (q = 23 ∧ j = 5) ∨ (q = 23 ∧ j = 6) ∨ (q = 23 ∧ j = 7) ∨ (q = 23 ∧ j = 8) ∨ (q = 39 ∧ j = 6)) ∨ I' q j = I q j) ∧ (∀ q j : Nat, ((q = 23 ∧ j = 9)) ∨ J' q j = J q j) ∧ gc_LT I' ∧ gc_TK I' ∧ (∃ z : Int, r = some (.inl z) ∧ 0 ≤ z ∧ z ≤ 1 ∧ (I' 23 1 = I 23 1) ∧ (I 23 5 ≤ I' 23 5) ∧ (gs_Or z (0 ≤ (gs_rv β η Ir Jr a1 p9) ∧ gc_AT β η (gs_rv β η Ir Jr a1 p9) 23 I' J' ∧ (a1 = 0 → ∃ i9, gs_PV (I' 39 6) (gs_ws β η Ir Jr 1002 0 p9).2 i9) ∧ (¬ a1 = 0 → ∃ i9, gs_PV (I' 39 6) (gs_hvk β η Ir Jr 1002 1 0 p9) i9)) ((gs_rv β η Ir Jr a1 p9) < 0 ∧ I' 39 4 = -1 - (gs_rv β η Ir Jr a1 p9))))) := by
  have FI : ∀ q j : Nat, ((q = 39 ∧ j = 3) ∨ (q = 39 ∧ j = 4) ∨ (q = 23 ∧ j = 5) ∨ (q = 23 ∧ j = 6) ∨ (q = 23 ∧ j = 7) ∨ (q = 23 ∧ j = 8) ∨ (q = 39 ∧ j = 6)) ∨ I q j = I q j := fun _ _ => Or.inr rfl
  have FJ : ∀ q j : Nat, ((q = 23 ∧ j = 9)) ∨ J q j = J q j := fun _ _ => Or.inr rfl
  have A_39_1 : A 39 1 = some 23 := gc_bA_39_1 hb
  have B_23 : 23 < 1000000 := by decide
  have B_39 : 39 < 1000000 := by decide
  have R_23 : ro 23 = 3 := gc_bR_23 hb
  have R_39 : ro 39 = 42 := gc_bR_39 hb
  have S_23 : sh[23]? = some (false, 9, 10) := gc_bS_23 hb
  have S_39 : sh[39]? = some (false, 6, 19) := gc_bS_39 hb
  obtain ⟨S_t, R_t, B_t, A_t_0, h_t_1, A_t_1, h_t_3, A_t_2, S_t_5, R_t_5, B_t_5, A_t_3, S_t_6, R_t_6, B_t_6, A_t_4, h_t_7, A_t_5, S_t_9, R_t_9, B_t_9, A_t_7, S_t_10, R_t_10, B_t_10, A_t_8, h_t_11, A_t_9, S_t_13, R_t_13, B_t_13, A_t_10, S_t_14, R_t_14, B_t_14, A_t_12, S_t_15, R_t_15, B_t_15, A_t_14, S_t_16, R_t_16, B_t_16, A_t_15, h_t_17⟩ := id h_t
  obtain ⟨S_t_1, R_t_1, B_t_1, A_t_1_0, S_t_1_1, R_t_1_1, B_t_1_1, Q0_t_1, Q1_t_1, Q2_t_1⟩ := id h_t_1
  obtain ⟨S_t_3, R_t_3, B_t_3, A_t_3_0, S_t_3_1, R_t_3_1, B_t_3_1, Q0_t_3, Q1_t_3, Q2_t_3⟩ := id h_t_3
  obtain ⟨S_t_7, R_t_7, B_t_7, A_t_7_0, S_t_7_1, R_t_7_1, B_t_7_1, Q0_t_7, Q1_t_7, Q2_t_7⟩ := id h_t_7
  obtain ⟨S_t_11, R_t_11, B_t_11, A_t_11_0, S_t_11_1, R_t_11_1, B_t_11_1, Q0_t_11, Q1_t_11, Q2_t_11⟩ := id h_t_11
  obtain ⟨S_t_17, R_t_17, B_t_17, A_t_17_0, S_20, R_20, B_20, A_t_17_1, S_t_17_1, R_t_17_1, B_t_17_1, A_t_17_2, S_t_17_2, R_t_17_2, B_t_17_2, A_t_17_3, S_t_17_3, R_t_17_3, B_t_17_3, A_t_17_4, S_t_17_4, R_t_17_4, B_t_17_4, A_t_17_5, S_t_17_5, R_t_17_5, B_t_17_5, S_t_17_6, R_t_17_6, B_t_17_6, S_t_17_7, R_t_17_7, B_t_17_7⟩ := id h_t_17
  have hD : gv_D (gc_E6 ws0 tb 2 (yX6_readValues, cX6_readValues, 5, (some .boolean)) kX6_readValues) := gq_of oX6_readValues
  refine gc_ev6 (d := 2) (l := kX6_readValues) (Po := fun r h' => (∃ (I' : gr_I) (J' : gr_J), h' = gc_h sh I' J' A ∧ gc_Inv ro I' ∧ (∀ q j : Nat, ((q = 39 ∧ j = 3) ∨ (q = 39 ∧ j = 4) ∨ (q = 23 ∧ j = 5) ∨ (q = 23 ∧ j = 6) ∨ (q = 23 ∧ j = 7) ∨ (q = 23 ∧ j = 8) ∨ (q = 39 ∧ j = 6)) ∨ I' q j = I q j) ∧ (∀ q j : Nat, ((q = 23 ∧ j = 9)) ∨ J' q j = J q j) ∧ gc_LT I' ∧ gc_TK I' ∧ (∃ z : Int, r = some (.inl z) ∧ 0 ≤ z ∧ z ≤ 1 ∧ (I' 23 1 = I 23 1) ∧ (I 23 5 ≤ I' 23 5) ∧ (gs_Or z (0 ≤ (gs_rv β η Ir Jr a1 p9) ∧ gc_AT β η (gs_rv β η Ir Jr a1 p9) 23 I' J' ∧ (a1 = 0 → ∃ i9, gs_PV (I' 39 6) (gs_ws β η Ir Jr 1002 0 p9).2 i9) ∧ (¬ a1 = 0 → ∃ i9, gs_PV (I' 39 6) (gs_hvk β η Ir Jr 1002 1 0 p9) i9)) ((gs_rv β η Ir Jr a1 p9) < 0 ∧ I' 39 4 = -1 - (gs_rv β η Ir Jr a1 p9)))))) htb rfl (Nat.le_of_ble_eq_true rfl) ?_
  have t1 := gc_TK_mo KTK_I
  have f2 := (gc_b_3_1 hI R_23)
  have f3 := (gc_b_3_5 hI R_23)
  have f4 := (gc_b_3_6 hI R_23)
  have f5 := (gc_b_3_7 hI R_23)
  have f6 := (show 0 ≤ I (t + 3) 1 ∧ I (t + 3) 1 ≤ 48 from gc_in2 hI R_t_3 rfl rfl rfl)
  have f7 := (gc_b_42_6 hI R_39)
  have f8 := (gc_b_42_2 hI R_39)
  have tAT := gc_AT_l x0
  have L7 : ∀ (n9 : Nat) (I9 : gr_I) (J10 : gr_J) (v2_11 : Int) (p_11 : Int), (10 - v2_11).toNat < n9 → gc_Inv ro I9 → (∀ q j : Nat, ((q = 39 ∧ j = 3) ∨ (q = 39 ∧ j = 4) ∨ (q = 23 ∧ j = 5) ∨ (q = 23 ∧ j = 6) ∨ (q = 23 ∧ j = 7) ∨ (q = 23 ∧ j = 8) ∨ (q = 39 ∧ j = 6)) ∨ I9 q j = I q j) → (∀ q j : Nat, ((q = 23 ∧ j = 9)) ∨ J10 q j = J q j) → gc_LT I9 → gc_TK I9 → ((0 ≤ a1 ∧ a1 ≤ 1) ∧ (0 ≤ v2_11 ∧ v2_11 ≤ 9) ∧ (0 ≤ p_11) ∧ (v2_11 ≤ 8) ∧ (I9 23 1 = I 23 1) ∧ (I 23 5 ≤ I9 23 5) ∧ (I9 39 2 = (t : Int))) → (gc_AT β η p_11 23 I9 J10) → (∃ (m : Nat) (k9 : Int), 1001 - gs_A β η p_11 < (m : Int) ∧ gs_PV (I9 39 6) k9 v2_11 ∧ (a1 = 0 → gs_ws β η Ir Jr 1002 0 p9 = gs_ws β η Ir Jr m k9 p_11) ∧ (¬ a1 = 0 → gs_hv β η Ir Jr 1002 1 0 p9 = gs_hv β η Ir Jr m (if v2_11 = 0 then 1 else 0) k9 p_11) ∧ (¬ a1 = 0 → gs_hvk β η Ir Jr 1002 1 0 p9 = gs_hvk β η Ir Jr m (if v2_11 = 0 then 1 else 0) k9 p_11)) → gv_X (gc_E6 ws0 tb 2 (yX6_readValues, cX6_readValues, 5, (some .boolean)) kX6_readValues) (gv_Q cX6_readValues (some .boolean) sh (fun r h' => (∃ (I' : gr_I) (J' : gr_J), h' = gc_h sh I' J' A ∧ gc_Inv ro I' ∧ (∀ q j : Nat, ((q = 39 ∧ j = 3) ∨ (q = 39 ∧ j = 4) ∨ (q = 23 ∧ j = 5) ∨ (q = 23 ∧ j = 6) ∨ (q = 23 ∧ j = 7) ∨ (q = 23 ∧ j = 8) ∨ (q = 39 ∧ j = 6)) ∨ I' q j = I q j) ∧ (∀ q j : Nat, ((q = 23 ∧ j = 9)) ∨ J' q j = J q j) ∧ gc_LT I' ∧ gc_TK I' ∧ (∃ z : Int, r = some (.inl z) ∧ 0 ≤ z ∧ z ≤ 1 ∧ (I' 23 1 = I 23 1) ∧ (I 23 5 ≤ I' 23 5) ∧ (gs_Or z (0 ≤ (gs_rv β η Ir Jr a1 p9) ∧ gc_AT β η (gs_rv β η Ir Jr a1 p9) 23 I' J' ∧ (a1 = 0 → ∃ i9, gs_PV (I' 39 6) (gs_ws β η Ir Jr 1002 0 p9).2 i9) ∧ (¬ a1 = 0 → ∃ i9, gs_PV (I' 39 6) (gs_hvk β η Ir Jr 1002 1 0 p9) i9)) ((gs_rv β η Ir Jr a1 p9) < 0 ∧ I' 39 4 = -1 - (gs_rv β η Ir Jr a1 p9))))))) (7, [(0, .inr (.inr (some 39))), (1, .inl a1), (2, .inl v2_11)], [], sh, gc_h sh I9 J10 A) := by
    intro n9
    induction n9 with
    | zero => intro I9 J10 v2_11 p_11 hn; exact gz_m 0 (by omega)
    | succ n9 ih7 =>
      intro I9 J10 v2_11 p_11 hn hI9 FI9 FJ10 KLT_I9 KTK_I9 m_11 e1_11 e2_11
      obtain ⟨ha1_11, hv2_11, e0_11, e3_11, e4_11, e5_11, e6_11⟩ := m_11
      have t12 := gc_TK_mo KTK_I9
      have f13 := (gc_b_3_1 hI9 R_23)
      have f14 := (gc_b_3_5 hI9 R_23)
      have f15 := (gc_b_3_6 hI9 R_23)
      have f16 := (gc_b_3_7 hI9 R_23)
      have f17 := (show 0 ≤ I9 (t + 3) 1 ∧ I9 (t + 3) 1 ≤ 48 from gc_in2 hI9 R_t_3 rfl rfl rfl)
      have f18 := (gc_b_42_6 hI9 R_39)
      have f19 := (gc_b_42_2 hI9 R_39)
      have t20 := gc_AT_l e1_11
      have L48 : ((0 ≤ a1 ∧ a1 ≤ 1) ∧ (0 ≤ v2_11 ∧ v2_11 ≤ 8) ∧ (I9 23 7 = 1) ∧ (I9 23 1 = I 23 1) ∧ (I 23 5 ≤ I9 23 5) ∧ (I9 39 2 = (t : Int))) → (¬ a1 = 0 → (v2_11 = 0 ∨ ¬ gs_rn β η p_11 = gs_W 92)) → gv_X (gc_E6 ws0 tb 2 (yX6_readValues, cX6_readValues, 5, (some .boolean)) kX6_readValues) (gv_Q cX6_readValues (some .boolean) sh (fun r h' => (∃ (I' : gr_I) (J' : gr_J), h' = gc_h sh I' J' A ∧ gc_Inv ro I' ∧ (∀ q j : Nat, ((q = 39 ∧ j = 3) ∨ (q = 39 ∧ j = 4) ∨ (q = 23 ∧ j = 5) ∨ (q = 23 ∧ j = 6) ∨ (q = 23 ∧ j = 7) ∨ (q = 23 ∧ j = 8) ∨ (q = 39 ∧ j = 6)) ∨ I' q j = I q j) ∧ (∀ q j : Nat, ((q = 23 ∧ j = 9)) ∨ J' q j = J q j) ∧ gc_LT I' ∧ gc_TK I' ∧ (∃ z : Int, r = some (.inl z) ∧ 0 ≤ z ∧ z ≤ 1 ∧ (I' 23 1 = I 23 1) ∧ (I 23 5 ≤ I' 23 5) ∧ (gs_Or z (0 ≤ (gs_rv β η Ir Jr a1 p9) ∧ gc_AT β η (gs_rv β η Ir Jr a1 p9) 23 I' J' ∧ (a1 = 0 → ∃ i9, gs_PV (I' 39 6) (gs_ws β η Ir Jr 1002 0 p9).2 i9) ∧ (¬ a1 = 0 → ∃ i9, gs_PV (I' 39 6) (gs_hvk β η Ir Jr 1002 1 0 p9) i9)) ((gs_rv β η Ir Jr a1 p9) < 0 ∧ I' 39 4 = -1 - (gs_rv β η Ir Jr a1 p9))))))) (48, [(0, .inr (.inr (some 39))), (1, .inl a1), (2, .inl v2_11)], [], sh, gc_h sh I9 J10 A) := by
        intro m_21 e1_21
        obtain ⟨ha1_21, hv2_11_21, e0_21, e2_21, e3_21, e4_21⟩ := m_21
        have t22 := gc_TK_mo KTK_I9
        have f23 := (gc_b_3_1 hI9 R_23)
        have f24 := (gc_b_3_5 hI9 R_23)
        have f25 := (gc_b_3_6 hI9 R_23)
        have f26 := (gc_b_3_7 hI9 R_23)
        have f27 := (show 0 ≤ I9 (t + 3) 1 ∧ I9 (t + 3) 1 ≤ 48 from gc_in2 hI9 R_t_3 rfl rfl rfl)
        have f28 := (gc_b_42_6 hI9 R_39)
        have f29 := (gc_b_42_2 hI9 R_39)
        refine gv_run 1 true hD (pc' := 49) (lv' := [(0, .inr (.inr (some 39))), (1, .inl a1), (2, .inl v2_11)]) (st' := [.inr (.inr (some 39))]) (h' := gc_h sh I9 J10 A) (C := (True ∧ True)) rfl ⟨trivial, trivial⟩ ?_
        refine gv_get hD rfl rfl S_39 ⟨by decide, B_39⟩ (gc_h5 (t := t) S_39 rfl (by exact gz_m 1 (by omega))) ?_
        show gv_X _ _ (52, [(0, .inr (.inr (some 39))), (1, .inl a1), (2, .inl v2_11)], [.inr (.inr (some t))], sh, gc_h sh I9 J10 A)
        refine gv_get hD rfl rfl S_t ⟨by decide, B_t⟩ (gc_hA S_t rfl A_t_1) ?_
        show gv_X _ _ (55, [(0, .inr (.inr (some 39))), (1, .inl a1), (2, .inl v2_11)], [.inr (.inr (some (t + 3)))], sh, gc_h sh I9 J10 A)
        refine gv_run 1 true hD (pc' := 56) (lv' := [(0, .inr (.inr (some 39))), (1, .inl a1), (2, .inl v2_11)]) (st' := [.inr (.inr (some 39)), .inr (.inr (some (t + 3)))]) (h' := gc_h sh I9 J10 A) (C := (True ∧ True)) rfl ⟨trivial, trivial⟩ ?_
        refine gv_get hD rfl rfl S_39 ⟨by decide, B_39⟩ (gc_hA S_39 rfl A_39_1) ?_
        show gv_X _ _ (59, [(0, .inr (.inr (some 39))), (1, .inl a1), (2, .inl v2_11)], [.inr (.inr (some 23)), .inr (.inr (some (t + 3)))], sh, gc_h sh I9 J10 A)
        refine gv_get hD rfl rfl S_23 ⟨by decide, B_23⟩ (gc_hJ S_23 rfl) ?_
        show gv_X _ _ (62, [(0, .inr (.inr (some 39))), (1, .inl a1), (2, .inl v2_11)], [.inr (.inl (J10 23 9)), .inr (.inr (some (t + 3)))], sh, gc_h sh I9 J10 A)
        obtain ⟨r30, h30, E30, P30⟩ := d_X4_find (ws0 := ws0) (tb := tb) hws htb sh ro I9 J10 A hI9 (t + 3) 48 10 (J10 23 9) h_t_3     
        obtain ⟨rfl, ⟨z30, rfl, q30⟩⟩ := P30
        obtain ⟨m9, k9, hm9, hP9, hw9, hh9, hk9⟩ := id e2_11
        obtain ⟨m9, rfl⟩ : ∃ n, m9 = n + 1 := ⟨m9 - 1, by exact gz_m 2 (by omega)⟩
        have t31 : z30 = gs_lt Jr 21 (48 * Ir 0 6) (Ir 14 (Int.toNat (Ir 0 6))) (gs_rn β η p_11) := q30.2.2.2.trans (by rw [gc_AT_m e1_11 (by exact gz_m 3 (by omega))]; exact (show gs_T β η p_11 = 1 → gc_fd (J10 ((t + 3) + 1)) (gs_M β η p_11) (Int.toNat (I9 (t + 3) 1)) = gs_lt Jr 21 (48 * Ir 0 6) (Ir 14 (Int.toNat (Ir 0 6))) (gs_rn β η p_11) from (fun h => by rw [show I9 (t + 3) 1 = I (t + 3) 1 from ((FI9 (t + 3) 1).resolve_left (by exact gz_m 4 (by omega))), show J10 ((t + 3) + 1) = J ((t + 3) + 1) from funext fun j => ((FJ10 (t + 4) j).resolve_left (by exact gz_m 5 (by omega)))]; exact gs_NA_lt x3 x2 h)) (by exact gz_m 6 (by omega)))
        have O9 := gs_ov_v (β := β) (N := η) (I := Ir) (J := Jr) (k := k9) (p := p_11) t31
        refine gv_callV hD rfl (As := [.inr (.inl (J10 23 9))]) (st := []) rfl B_t_3 S_t_3 rfl (gc_lV6 hws rfl) (Nat.le_of_ble_eq_true rfl) (gz_Ev_mono (d := 1) (by decide) E30) ?_
        show gv_X _ _ (65, [(0, .inr (.inr (some 39))), (1, .inl a1), (2, .inl v2_11)], [.inl z30], sh, gc_h sh I9 J10 A)
        refine gv_run 2 true hD (pc' := 67) (lv' := [(3, .inl z30), (0, .inr (.inr (some 39))), (1, .inl a1), (2, .inl v2_11)]) (st' := [.inl z30]) (h' := gc_h sh I9 J10 A) (C := ((True ∧ True) ∧ True)) rfl ⟨⟨trivial, trivial⟩, trivial⟩ ?_
        refine gv_if_ge (t := 74) hD rfl rfl ⟨by exact gz_m 7 (by omega), by exact gz_m 8 (by omega)⟩ (fun c32 => ?_) (fun c32 => ?_)
        · show gv_X _ _ (74, [(3, .inl z30), (0, .inr (.inr (some 39))), (1, .inl a1), (2, .inl v2_11)], [], sh, gc_h sh I9 J10 A)
          have v9 := x4 z30 (by exact gz_m 9 (by omega)) (by have h9 : I9 (t + 3) 1 = I (t + 3) 1 := ((FI9 (t + 3) 1).resolve_left (by exact gz_m 10 (by omega))); exact gz_m 11 (by omega))
          have v8 : I9 (t + 5) (Int.toNat z30) = I (t + 5) (Int.toNat z30) := ((FI9 (t + 5) (Int.toNat z30)).resolve_left (by exact gz_m 12 (by omega)))
          have v7 : I9 (t + 6) (Int.toNat z30) = I (t + 6) (Int.toNat z30) := ((FI9 (t + 6) (Int.toNat z30)).resolve_left (by exact gz_m 13 (by omega)))
          refine gv_run 1 true hD (pc' := 75) (lv' := [(3, .inl z30), (0, .inr (.inr (some 39))), (1, .inl a1), (2, .inl v2_11)]) (st' := [.inr (.inr (some 39))]) (h' := gc_h sh I9 J10 A) (C := (True ∧ True)) rfl ⟨trivial, trivial⟩ ?_
          refine gv_get hD rfl rfl S_39 ⟨by decide, B_39⟩ (gc_h5 (t := t) S_39 rfl (by exact gz_m 14 (by omega))) ?_
          show gv_X _ _ (78, [(3, .inl z30), (0, .inr (.inr (some 39))), (1, .inl a1), (2, .inl v2_11)], [.inr (.inr (some t))], sh, gc_h sh I9 J10 A)
          refine gv_get hD rfl rfl S_t ⟨by decide, B_t⟩ (gc_hA S_t rfl A_t_2) ?_
          show gv_X _ _ (81, [(3, .inl z30), (0, .inr (.inr (some 39))), (1, .inl a1), (2, .inl v2_11)], [.inr (.inr (some (t + 5)))], sh, gc_h sh I9 J10 A)
          refine gv_run 1 true hD (pc' := 82) (lv' := [(3, .inl z30), (0, .inr (.inr (some 39))), (1, .inl a1), (2, .inl v2_11)]) (st' := [.inl z30, .inr (.inr (some (t + 5)))]) (h' := gc_h sh I9 J10 A) (C := (True ∧ True)) rfl ⟨trivial, trivial⟩ ?_
          have f33 := (show 0 ≤ I9 (t + 5) (Int.toNat z30) ∧ I9 (t + 5) (Int.toNat z30) ≤ 7 from gc_in2 hI9 R_t_5 rfl rfl rfl)
          refine gv_iald hD rfl S_t_5 rfl ⟨by decide, B_t_5⟩ ⟨by exact gz_m 15 (by omega), by exact gz_m 16 (by omega)⟩ (gc_iI S_t_5 rfl) ?_
          show gv_X _ _ (83, [(3, .inl z30), (0, .inr (.inr (some 39))), (1, .inl a1), (2, .inl v2_11)], [.inl (I9 (t + 5) (Int.toNat z30))], sh, gc_h sh I9 J10 A)
          obtain ⟨r34, h34, E34, P34⟩ := d_X11_shiftOf (ws0 := ws0) (tb := tb) hws htb sh ro I9 J10 A hI9  ((I9 (t + 5) (Int.toNat z30)))    ⟨by exact gz_m 17 (by omega), by exact gz_m 18 (by omega)⟩  
          obtain ⟨rfl, ⟨z34, rfl, q34⟩⟩ := P34
          refine gv_callS hD rfl (As := [.inl (I9 (t + 5) (Int.toNat z30))]) (st := []) rfl (gc_lS6 hws rfl) (Nat.le_of_ble_eq_true rfl) (gz_Ev_mono (d := 1) (by decide) E34) ?_
          show gv_X _ _ (86, [(3, .inl z30), (0, .inr (.inr (some 39))), (1, .inl a1), (2, .inl v2_11)], [.inl z34], sh, gc_h sh I9 J10 A)
          refine gv_run 2 true hD (pc' := 89) (lv' := [(4, .inl z34), (3, .inl z30), (0, .inr (.inr (some 39))), (1, .inl a1), (2, .inl v2_11)]) (st' := [.inl z30]) (h' := gc_h sh I9 J10 A) (C := ((True ∧ True) ∧ True)) rfl ⟨⟨trivial, trivial⟩, trivial⟩ ?_
          refine gv_if_lt (t := 105) hD rfl rfl ⟨by exact gz_m 19 (by omega), by exact gz_m 20 (by omega)⟩ (fun c35 => ?_) (fun c35 => ?_)
          · exfalso; exact gz_m 21 (by omega)
          · show gv_X _ _ (92, [(4, .inl z34), (3, .inl z30), (0, .inr (.inr (some 39))), (1, .inl a1), (2, .inl v2_11)], [], sh, gc_h sh I9 J10 A)
            refine gv_run 1 true hD (pc' := 93) (lv' := [(4, .inl z34), (3, .inl z30), (0, .inr (.inr (some 39))), (1, .inl a1), (2, .inl v2_11)]) (st' := [.inr (.inr (some 39))]) (h' := gc_h sh I9 J10 A) (C := (True ∧ True)) rfl ⟨trivial, trivial⟩ ?_
            have f36 := (gc_b_42_6 hI9 R_39)
            refine gv_get hD rfl rfl S_39 ⟨by decide, B_39⟩ (gc_hI S_39 rfl) ?_
            show gv_X _ _ (96, [(4, .inl z34), (3, .inl z30), (0, .inr (.inr (some 39))), (1, .inl a1), (2, .inl v2_11)], [.inl (I9 39 6)], sh, gc_h sh I9 J10 A)
            have f37 := gw_shr (x := (I9 39 6)) (y := z34) ⟨by exact gz_m 22 (by omega), by exact gz_m 23 (by omega)⟩
            have f38 := gw_and (x := (((Int32.ofInt (I9 39 6) >>> (Int32.ofInt z34 &&& 31)).toInt))) (y := 7) ⟨by exact gz_m 24 (by omega), by exact gz_m 25 (by omega)⟩
            refine gv_run 4 true hD (pc' := 102) (lv' := [(4, .inl z34), (3, .inl z30), (0, .inr (.inr (some 39))), (1, .inl a1), (2, .inl v2_11)]) (st' := [.inl ((Int32.ofInt (((Int32.ofInt (I9 39 6) >>> (Int32.ofInt z34 &&& 31)).toInt)) &&& Int32.ofInt 7).toInt)]) (h' := gc_h sh I9 J10 A) (C := ((((True ∧ True) ∧ True) ∧ True) ∧ True)) rfl ⟨⟨⟨⟨trivial, trivial⟩, trivial⟩, trivial⟩, trivial⟩ ?_
            refine gv_if_eq (t := 118) hD rfl rfl ⟨by exact gz_m 26 (by omega), by exact gz_m 27 (by omega)⟩ (fun c39 => ?_) (fun c39 => ?_)
            · show gv_X _ _ (118, [(4, .inl z34), (3, .inl z30), (0, .inr (.inr (some 39))), (1, .inl a1), (2, .inl v2_11)], [], sh, gc_h sh I9 J10 A)
              have b9 := gs_PV_b hP9 (f := Ir 24 (Int.toNat (48 * Ir 0 6 + z30))) (by exact gz_m 28 (by omega))
              have b8 : gs_pkb (I9 39 6) z34 = gs_pkb (I9 39 6) (21 - 3 * Ir 24 (Int.toNat (48 * Ir 0 6 + z30))) := by rw [show z34 = 21 - 3 * Ir 24 (Int.toNat (48 * Ir 0 6 + z30)) from by exact gz_m 29 (by omega)]
              unfold gs_pkb at b9 b8
              have t40 := (gs_PV_7 hP9 (by exact gz_m 30 (by omega)) (f := Ir 24 (Int.toNat (48 * Ir 0 6 + z30))) (by exact gz_m 31 (by omega)) (by unfold gs_pkb; exact gz_m 32 (by omega)))
              refine gv_run 2 true hD (pc' := 120) (lv' := [(4, .inl z34), (3, .inl z30), (0, .inr (.inr (some 39))), (1, .inl a1), (2, .inl v2_11)]) (st' := [.inr (.inr (some 39)), .inr (.inr (some 39))]) (h' := gc_h sh I9 J10 A) (C := ((True ∧ True) ∧ True)) rfl ⟨⟨trivial, trivial⟩, trivial⟩ ?_
              have f41 := (gc_b_42_6 hI9 R_39)
              refine gv_get hD rfl rfl S_39 ⟨by decide, B_39⟩ (gc_hI S_39 rfl) ?_
              show gv_X _ _ (123, [(4, .inl z34), (3, .inl z30), (0, .inr (.inr (some 39))), (1, .inl a1), (2, .inl v2_11)], [.inl (I9 39 6), .inr (.inr (some 39))], sh, gc_h sh I9 J10 A)
              refine gv_run 1 true hD (pc' := 124) (lv' := [(4, .inl z34), (3, .inl z30), (0, .inr (.inr (some 39))), (1, .inl a1), (2, .inl v2_11)]) (st' := [.inr (.inr (some 39)), .inl (I9 39 6), .inr (.inr (some 39))]) (h' := gc_h sh I9 J10 A) (C := (True ∧ True)) rfl ⟨trivial, trivial⟩ ?_
              refine gv_get hD rfl rfl S_39 ⟨by decide, B_39⟩ (gc_h5 (t := t) S_39 rfl (by exact gz_m 33 (by omega))) ?_
              show gv_X _ _ (127, [(4, .inl z34), (3, .inl z30), (0, .inr (.inr (some 39))), (1, .inl a1), (2, .inl v2_11)], [.inr (.inr (some t)), .inl (I9 39 6), .inr (.inr (some 39))], sh, gc_h sh I9 J10 A)
              refine gv_get hD rfl rfl S_t ⟨by decide, B_t⟩ (gc_hA S_t rfl A_t_3) ?_
              show gv_X _ _ (130, [(4, .inl z34), (3, .inl z30), (0, .inr (.inr (some 39))), (1, .inl a1), (2, .inl v2_11)], [.inr (.inr (some (t + 6))), .inl (I9 39 6), .inr (.inr (some 39))], sh, gc_h sh I9 J10 A)
              refine gv_run 1 true hD (pc' := 131) (lv' := [(4, .inl z34), (3, .inl z30), (0, .inr (.inr (some 39))), (1, .inl a1), (2, .inl v2_11)]) (st' := [.inl z30, .inr (.inr (some (t + 6))), .inl (I9 39 6), .inr (.inr (some 39))]) (h' := gc_h sh I9 J10 A) (C := (True ∧ True)) rfl ⟨trivial, trivial⟩ ?_
              have f42 := (show 0 ≤ I9 (t + 6) (Int.toNat z30) ∧ I9 (t + 6) (Int.toNat z30) ≤ 6 from gc_in2 hI9 R_t_6 rfl rfl rfl)
              refine gv_iald hD rfl S_t_6 rfl ⟨by decide, B_t_6⟩ ⟨by exact gz_m 34 (by omega), by exact gz_m 35 (by omega)⟩ (gc_iI S_t_6 rfl) ?_
              show gv_X _ _ (132, [(4, .inl z34), (3, .inl z30), (0, .inr (.inr (some 39))), (1, .inl a1), (2, .inl v2_11)], [.inl (I9 (t + 6) (Int.toNat z30)), .inl (I9 39 6), .inr (.inr (some 39))], sh, gc_h sh I9 J10 A)
              have f43 := gw_shl (x := ((I9 (t + 6) (Int.toNat z30)))) (y := z34) ⟨by exact gz_m 36 (by omega), by exact gz_m 37 (by omega)⟩ ⟨by exact gz_m 38 (by omega), by exact gz_m 39 (by omega)⟩
              have f44 := gw_or (x := (I9 39 6)) (y := (((Int32.ofInt ((I9 (t + 6) (Int.toNat z30))) <<< (Int32.ofInt z34 &&& 31)).toInt))) ⟨by exact gz_m 40 (by omega), by exact gz_m 41 (by omega)⟩ ⟨by exact gz_m 42 (by omega), by exact gz_m 43 (by omega)⟩
              refine gv_run 3 true hD (pc' := 136) (lv' := [(4, .inl z34), (3, .inl z30), (0, .inr (.inr (some 39))), (1, .inl a1), (2, .inl v2_11)]) (st' := [.inl ((Int32.ofInt (I9 39 6) ||| Int32.ofInt (((Int32.ofInt ((I9 (t + 6) (Int.toNat z30))) <<< (Int32.ofInt z34 &&& 31)).toInt))).toInt), .inr (.inr (some 39))]) (h' := gc_h sh I9 J10 A) (C := (((True ∧ True) ∧ True) ∧ True)) rfl ⟨⟨⟨trivial, trivial⟩, trivial⟩, trivial⟩ ?_
              refine gv_put hD rfl rfl S_39 ⟨by decide, B_39⟩ rfl trivial ?_
              refine gc_st (k := 6) hI9 S_39 rfl R_39 (lo := 0) (hi := 16777215) rfl rfl (by exact gz_m 44 (by omega)) (by exact gz_m 45 (by omega)) (fun I45 hI45 q46 p46 => ?_)
              have FI45 := gc_frs (W := fun q j => (q = 39 ∧ j = 3) ∨ (q = 39 ∧ j = 4) ∨ (q = 23 ∧ j = 5) ∨ (q = 23 ∧ j = 6) ∨ (q = 23 ∧ j = 7) ∨ (q = 23 ∧ j = 8) ∨ (q = 39 ∧ j = 6)) FI9 (Or.inr (Or.inr (Or.inr (Or.inr (Or.inr (Or.inr ⟨rfl, rfl⟩)))))) p46
              have t47 := p46 23 1 (fun h => absurd h.2 (gz_ne rfl))
              have t48 := p46 23 5 (fun h => absurd h.2 (gz_ne rfl))
              have t49 := p46 23 6 (fun h => absurd h.1 (gz_ne rfl))
              have t50 := p46 23 7 (fun h => absurd h.2 (gz_ne rfl))
              have t51 := p46 (t + 3) 1 (fun h => absurd h.2 (gz_ne rfl))
              have t52 := p46 39 2 (fun h => absurd h.2 (gz_ne rfl))
              have f53 := (gc_b_42_6 hI45 R_39)
              have KLT_I45 := gc_LT_fr KLT_I9 (p46 23 5 (fun h => absurd h.2 (gz_ne rfl))) (p46 23 6 (fun h => absurd h.1 (gz_ne rfl))) (p46 23 7 (fun h => absurd h.2 (gz_ne rfl))) (fun k => p46 24 k (fun h => absurd h.1 (gz_ne rfl)))
              have KTK_I45 := gc_TK_fr KTK_I9 (p46 23 1 (fun h => absurd h.2 (gz_ne rfl))) (p46 23 5 (fun h => absurd h.2 (gz_ne rfl))) (p46 23 6 (fun h => absurd h.1 (gz_ne rfl))) (p46 23 7 (fun h => absurd h.2 (gz_ne rfl)))
              have A54 := gc_AT_I e1_11 (p46 23 1 (fun h => absurd h.2 (gz_ne rfl))) (p46 23 5 (fun h => absurd h.2 (gz_ne rfl))) (p46 23 6 (fun h => absurd h.1 (gz_ne rfl))) (p46 23 7 (fun h => absurd h.2 (gz_ne rfl))) (p46 23 8 (fun h => absurd h.2 (gz_ne rfl))) (fun k => p46 24 k (fun h => absurd h.1 (gz_ne rfl)))
              show gv_X _ _ (139, [(4, .inl z34), (3, .inl z30), (0, .inr (.inr (some 39))), (1, .inl a1), (2, .inl v2_11)], [], sh, gc_h sh I45 J10 A)
              refine gv_run 1 true hD (pc' := 140) (lv' := [(4, .inl z34), (3, .inl z30), (0, .inr (.inr (some 39))), (1, .inl a1), (2, .inl v2_11)]) (st' := [.inr (.inr (some 39))]) (h' := gc_h sh I45 J10 A) (C := (True ∧ True)) rfl ⟨trivial, trivial⟩ ?_
              refine gv_get hD rfl rfl S_39 ⟨by decide, B_39⟩ (gc_hA S_39 rfl A_39_1) ?_
              show gv_X _ _ (143, [(4, .inl z34), (3, .inl z30), (0, .inr (.inr (some 39))), (1, .inl a1), (2, .inl v2_11)], [.inr (.inr (some 23))], sh, gc_h sh I45 J10 A)
              have t56 := gc_TK_nx KTK_I45 (by exact gz_m 46 (by omega))
              have t57 := gc_TK_st KTK_I45 (by exact gz_m 47 (by omega))
              obtain ⟨r55, h55, E55, P55⟩ := d_X9_advance_p (ws0 := ws0) (tb := tb) hws htb sh ro I45 J10 A hI45 23 β η  (gc_b23 hb)    (by exact gz_m 48 (by omega)) A54.1.1 A54.1.2 
              obtain ⟨I58, J59, rfl, hI58, g55, k55, ⟨rfl, V55_0, V55_1, V55_2, V55_3, V55_4, q55⟩⟩ := P55
              have FI58 := gc_frc (W := fun q j => (q = 39 ∧ j = 3) ∨ (q = 39 ∧ j = 4) ∨ (q = 23 ∧ j = 5) ∨ (q = 23 ∧ j = 6) ∨ (q = 23 ∧ j = 7) ∨ (q = 23 ∧ j = 8) ∨ (q = 39 ∧ j = 6)) (V := fun q j => (q = 23 ∧ j = 5) ∨ (q = 23 ∧ j = 6) ∨ (q = 23 ∧ j = 7) ∨ (q = 23 ∧ j = 8)) FI45 (fun q j h => (h.elim (fun h => (Or.inr (Or.inr (Or.inl h)))) (fun h => (h.elim (fun h => (Or.inr (Or.inr (Or.inr (Or.inl h))))) (fun h => (h.elim (fun h => (Or.inr (Or.inr (Or.inr (Or.inr (Or.inl h)))))) (fun h => (Or.inr (Or.inr (Or.inr (Or.inr (Or.inr (Or.inl h))))))))))))) g55
              have FJ59 := gc_frc (W := fun q j => (q = 23 ∧ j = 9)) (V := fun q j => (q = 23 ∧ j = 9)) FJ10 (fun q j h => h) k55
              have t60 := (g55 23 1).resolve_left (fun h => h.elim (fun h => absurd h.2 (gz_ne rfl)) (fun h => h.elim (fun h => absurd h.2 (gz_ne rfl)) (fun h => h.elim (fun h => absurd h.2 (gz_ne rfl)) (fun h => absurd h.2 (gz_ne rfl)))))
              have t61 := (g55 (t + 3) 1).resolve_left (fun h => h.elim (fun h => absurd h.2 (gz_ne rfl)) (fun h => h.elim (fun h => absurd h.2 (gz_ne rfl)) (fun h => h.elim (fun h => absurd h.2 (gz_ne rfl)) (fun h => absurd h.2 (gz_ne rfl)))))
              have t62 := (g55 39 6).resolve_left (fun h => h.elim (fun h => absurd h.2 (gz_ne rfl)) (fun h => h.elim (fun h => absurd h.1 (gz_ne rfl)) (fun h => h.elim (fun h => absurd h.2 (gz_ne rfl)) (fun h => absurd h.2 (gz_ne rfl)))))
              have t63 := (g55 39 2).resolve_left (fun h => h.elim (fun h => absurd h.2 (gz_ne rfl)) (fun h => h.elim (fun h => absurd h.2 (gz_ne rfl)) (fun h => h.elim (fun h => absurd h.2 (gz_ne rfl)) (fun h => absurd h.2 (gz_ne rfl)))))
              have f64 := (gc_b_3_5 hI58 R_23)
              have f65 := (gc_b_3_6 hI58 R_23)
              have f66 := (gc_b_3_7 hI58 R_23)
              have KLT_I58 : gc_LT I58 := q55.2.2.1
              have KTK_I58 : gc_TK I58 := And.intro V55_0 (And.intro V55_1 (And.intro V55_2 (And.intro V55_3 V55_4)))
              have t67 := gc_TK_mo KTK_I58
              clear V55_0 V55_1 V55_2 V55_3 V55_4
              have A68 := gc_AT_nx A54 q55.2.2.2
              have t69 := gc_AT_l A68
              refine gv_callV hD rfl (As := []) (st := []) rfl B_23 S_23 rfl (gc_lV6 hws rfl) (Nat.le_of_ble_eq_true rfl) (gz_Ev_mono (d := 2) (by decide) E55) ?_
              show gv_X _ _ (146, [(4, .inl z34), (3, .inl z30), (0, .inr (.inr (some 39))), (1, .inl a1), (2, .inl v2_11)], [], sh, gc_h sh I58 J59 A)
              refine gv_run 2 true hD (pc' := 7) (lv' := [(2, .inl (v2_11 + 1)), (4, .inl z34), (3, .inl z30), (0, .inr (.inr (some 39))), (1, .inl a1)]) (st' := []) (h' := gc_h sh I58 J59 A) (C := ((True ∧ True) ∧ True)) rfl ⟨⟨trivial, trivial⟩, trivial⟩ ?_
              refine gv_pick [3, 4, 0] rfl ?_
              exact ih7 I58 J59 (v2_11 + 1) (gs_X β η p_11) (by exact gz_m 49 (by omega)) hI58 FI58 FJ59 KLT_I58 KTK_I58 (by exact gz_m 50 (by omega)) A68 ⟨m9, gs_ovk β η Ir Jr k9 p_11, by exact gz_m 51 (by omega), (by rw [show I58 39 6 = gs_pko (I9 39 6) (Ir 25 (Int.toNat (48 * Ir 0 6 + z30))) (21 - 3 * (Ir 24 (Int.toNat (48 * Ir 0 6 + z30)))) from (((g55 39 6).resolve_left (by exact gz_m 52 (by omega)))).trans (q46.trans (by rw [show I9 (t + 6) (Int.toNat z30) = (Ir 25 (Int.toNat (48 * Ir 0 6 + z30))) from by exact gz_m 53 (by omega), show z34 = 21 - 3 * (Ir 24 (Int.toNat (48 * Ir 0 6 + z30))) from by exact gz_m 54 (by omega)]; rfl)), O9.2]; exact gs_PV_s hP9 (by exact gz_m 55 (by omega)) (by unfold gs_pkb; exact gz_m 56 (by omega)) (by exact gz_m 57 (by omega))), fun h => (hw9 h).trans (by rw [gs_ws_s (by exact gz_m 58 (by omega)) (show ¬ gs_ov β η Ir Jr k9 p_11 < 0 from by rw [O9.1]; unfold gs_ov2 gs_pkb; (repeat first | rw [if_pos (by exact gz_m 59 (by omega))] | rw [if_neg (by exact gz_m 60 (by omega))]); exact gz_m 61 (by omega)), (show gs_ov β η Ir Jr k9 p_11 = gs_X β η p_11 from O9.1.trans (by unfold gs_ov2 gs_pkb; (repeat first | rw [if_pos (by exact gz_m 62 (by omega))] | rw [if_neg (by exact gz_m 63 (by omega))])))]), fun h => (hh9 h).trans (by rw [gs_hv_s (by exact gz_m 64 (by omega)) ((e1_21 h).elim (fun u => Or.inl (by rw [if_pos u]; decide)) Or.inr) (show ¬ gs_ov β η Ir Jr k9 p_11 < 0 from by rw [O9.1]; unfold gs_ov2 gs_pkb; (repeat first | rw [if_pos (by exact gz_m 65 (by omega))] | rw [if_neg (by exact gz_m 66 (by omega))]); exact gz_m 67 (by omega)), (show gs_ov β η Ir Jr k9 p_11 = gs_X β η p_11 from O9.1.trans (by unfold gs_ov2 gs_pkb; (repeat first | rw [if_pos (by exact gz_m 68 (by omega))] | rw [if_neg (by exact gz_m 69 (by omega))]))), if_neg (by exact gz_m 70 (by omega))]), fun h => (hk9 h).trans (by rw [gs_hvk_s (by exact gz_m 71 (by omega)) ((e1_21 h).elim (fun u => Or.inl (by rw [if_pos u]; decide)) Or.inr) (show ¬ gs_ov β η Ir Jr k9 p_11 < 0 from by rw [O9.1]; unfold gs_ov2 gs_pkb; (repeat first | rw [if_pos (by exact gz_m 72 (by omega))] | rw [if_neg (by exact gz_m 73 (by omega))]); exact gz_m 74 (by omega)), (show gs_ov β η Ir Jr k9 p_11 = gs_X β η p_11 from O9.1.trans (by unfold gs_ov2 gs_pkb; (repeat first | rw [if_pos (by exact gz_m 75 (by omega))] | rw [if_neg (by exact gz_m 76 (by omega))]))), if_neg (by exact gz_m 77 (by omega))])⟩
            · show gv_X _ _ (105, [(4, .inl z34), (3, .inl z30), (0, .inr (.inr (some 39))), (1, .inl a1), (2, .inl v2_11)], [], sh, gc_h sh I9 J10 A)
              have b9 := gs_PV_b hP9 (f := Ir 24 (Int.toNat (48 * Ir 0 6 + z30))) (by exact gz_m 78 (by omega))
              have b8 : gs_pkb (I9 39 6) z34 = gs_pkb (I9 39 6) (21 - 3 * Ir 24 (Int.toNat (48 * Ir 0 6 + z30))) := by rw [show z34 = 21 - 3 * Ir 24 (Int.toNat (48 * Ir 0 6 + z30)) from by exact gz_m 79 (by omega)]
              unfold gs_pkb at b9 b8
              refine gv_run 3 true hD (pc' := 108) (lv' := [(4, .inl z34), (3, .inl z30), (0, .inr (.inr (some 39))), (1, .inl a1), (2, .inl v2_11)]) (st' := [.inr (.inr (some 39)), .inl 5, .inr (.inr (some 39))]) (h' := gc_h sh I9 J10 A) (C := (((True ∧ True) ∧ True) ∧ True)) rfl ⟨⟨⟨trivial, trivial⟩, trivial⟩, trivial⟩ ?_
              refine gv_get hD rfl rfl S_39 ⟨by decide, B_39⟩ (gc_hA S_39 rfl A_39_1) ?_
              show gv_X _ _ (111, [(4, .inl z34), (3, .inl z30), (0, .inr (.inr (some 39))), (1, .inl a1), (2, .inl v2_11)], [.inr (.inr (some 23)), .inl 5, .inr (.inr (some 39))], sh, gc_h sh I9 J10 A)
              have f70 := (gc_b_3_5 hI9 R_23)
              refine gv_get hD rfl rfl S_23 ⟨by decide, B_23⟩ (gc_hI S_23 rfl) ?_
              show gv_X _ _ (114, [(4, .inl z34), (3, .inl z30), (0, .inr (.inr (some 39))), (1, .inl a1), (2, .inl v2_11)], [.inl (I9 23 5), .inl 5, .inr (.inr (some 39))], sh, gc_h sh I9 J10 A)
              obtain ⟨r71, h71, E71, P71⟩ := d_X6_wrong_p (ws0 := ws0) (tb := tb) hws htb sh ro I9 J10 A hI9  5 (I9 23 5) hb   ⟨by exact gz_m 80 (by omega), by exact gz_m 81 (by omega)⟩ ⟨by exact gz_m 82 (by omega), by exact gz_m 83 (by omega)⟩  
              obtain ⟨I72, J73, rfl, hI72, g71, k71, ⟨z71, rfl, q71⟩⟩ := P71
              have FI72 := gc_frc (W := fun q j => (q = 39 ∧ j = 3) ∨ (q = 39 ∧ j = 4) ∨ (q = 23 ∧ j = 5) ∨ (q = 23 ∧ j = 6) ∨ (q = 23 ∧ j = 7) ∨ (q = 23 ∧ j = 8) ∨ (q = 39 ∧ j = 6)) (V := fun q j => (q = 39 ∧ j = 3) ∨ (q = 39 ∧ j = 4)) FI9 (fun q j h => (h.elim (fun h => (Or.inl h)) (fun h => (Or.inr (Or.inl h))))) g71
              have t74 := (g71 23 1).resolve_left (fun h => h.elim (fun h => absurd h.2 (gz_ne rfl)) (fun h => absurd h.2 (gz_ne rfl)))
              have t75 := (g71 23 5).resolve_left (fun h => h.elim (fun h => absurd h.2 (gz_ne rfl)) (fun h => absurd h.2 (gz_ne rfl)))
              have t76 := (g71 23 6).resolve_left (fun h => h.elim (fun h => absurd h.2 (gz_ne rfl)) (fun h => absurd h.2 (gz_ne rfl)))
              have t77 := (g71 23 7).resolve_left (fun h => h.elim (fun h => absurd h.2 (gz_ne rfl)) (fun h => absurd h.2 (gz_ne rfl)))
              have t78 := (g71 (t + 3) 1).resolve_left (fun h => h.elim (fun h => absurd h.2 (gz_ne rfl)) (fun h => absurd h.2 (gz_ne rfl)))
              have t79 := (g71 39 6).resolve_left (fun h => h.elim (fun h => absurd h.2 (gz_ne rfl)) (fun h => absurd h.2 (gz_ne rfl)))
              have t80 := (g71 39 2).resolve_left (fun h => h.elim (fun h => absurd h.2 (gz_ne rfl)) (fun h => absurd h.2 (gz_ne rfl)))
              obtain rfl : J10 = J73 := funext fun q => funext fun j => ((k71 q j).resolve_left id).symm
              have KLT_I72 := gc_LT_fr KLT_I9 ((g71 23 5).resolve_left (fun h => h.elim (fun h => absurd h.2 (gz_ne rfl)) (fun h => absurd h.2 (gz_ne rfl)))) ((g71 23 6).resolve_left (fun h => h.elim (fun h => absurd h.2 (gz_ne rfl)) (fun h => absurd h.2 (gz_ne rfl)))) ((g71 23 7).resolve_left (fun h => h.elim (fun h => absurd h.2 (gz_ne rfl)) (fun h => absurd h.2 (gz_ne rfl)))) (fun k => (g71 24 k).resolve_left (fun h => h.elim (fun h => absurd h.1 (gz_ne rfl)) (fun h => absurd h.1 (gz_ne rfl))))
              have KTK_I72 := gc_TK_fr KTK_I9 ((g71 23 1).resolve_left (fun h => h.elim (fun h => absurd h.2 (gz_ne rfl)) (fun h => absurd h.2 (gz_ne rfl)))) ((g71 23 5).resolve_left (fun h => h.elim (fun h => absurd h.2 (gz_ne rfl)) (fun h => absurd h.2 (gz_ne rfl)))) ((g71 23 6).resolve_left (fun h => h.elim (fun h => absurd h.2 (gz_ne rfl)) (fun h => absurd h.2 (gz_ne rfl)))) ((g71 23 7).resolve_left (fun h => h.elim (fun h => absurd h.2 (gz_ne rfl)) (fun h => absurd h.2 (gz_ne rfl))))
              have A81 := gc_AT_I e1_11 ((g71 23 1).resolve_left (fun h => h.elim (fun h => absurd h.2 (gz_ne rfl)) (fun h => absurd h.2 (gz_ne rfl)))) ((g71 23 5).resolve_left (fun h => h.elim (fun h => absurd h.2 (gz_ne rfl)) (fun h => absurd h.2 (gz_ne rfl)))) ((g71 23 6).resolve_left (fun h => h.elim (fun h => absurd h.2 (gz_ne rfl)) (fun h => absurd h.2 (gz_ne rfl)))) ((g71 23 7).resolve_left (fun h => h.elim (fun h => absurd h.2 (gz_ne rfl)) (fun h => absurd h.2 (gz_ne rfl)))) ((g71 23 8).resolve_left (fun h => h.elim (fun h => absurd h.2 (gz_ne rfl)) (fun h => absurd h.2 (gz_ne rfl)))) (fun k => (g71 24 k).resolve_left (fun h => h.elim (fun h => absurd h.1 (gz_ne rfl)) (fun h => absurd h.1 (gz_ne rfl))))
              have t82 := gc_AT_l A81
              refine gv_callV hD rfl (As := [.inl 5, .inl (I9 23 5)]) (st := []) rfl B_39 S_39 rfl (gc_lV6 hws rfl) (Nat.le_of_ble_eq_true rfl) (gz_Ev_mono (d := 1) (by decide) E71) ?_
              show gv_X _ _ (117, [(4, .inl z34), (3, .inl z30), (0, .inr (.inr (some 39))), (1, .inl a1), (2, .inl v2_11)], [.inl z71], sh, gc_h sh I72 J10 A)
              exact gv_zret hD rfl (by exact gz_m 84 (by omega)) ⟨I72, J10, rfl, hI72, FI72, FJ10, KLT_I72, KTK_I72, ⟨_, rfl, by exact gz_m 85 (by omega), by exact gz_m 86 (by omega), by exact gz_m 87 (by omega), by exact gz_m 88 (by omega), (Or.inr ⟨by exact gz_m 89 (by omega), by have o9 : gs_ov β η Ir Jr k9 p_11 = -1 - gs_A β η p_11 := O9.1.trans (by unfold gs_ov2 gs_pkb; (repeat first | rw [if_pos (by exact gz_m 90 (by omega))] | rw [if_neg (by exact gz_m 91 (by omega))])); rw [gs_rv_e (m := 0) (k := 0) (fi := 0) (fun h => (hw9 h).trans (gs_ws_x (by exact gz_m 92 (by omega)) (by exact gz_m 93 (by omega)))) (fun h => (hh9 h).trans (gs_hv_x (by exact gz_m 94 (by omega)) ((e1_21 h).elim (fun u => Or.inl (by rw [if_pos u]; decide)) Or.inr) (by exact gz_m 95 (by omega)))) o9 (fun _ => o9)]; exact ⟨by exact gz_m 96 (by omega), by exact gz_m 97 (by omega)⟩⟩)⟩⟩
        · show gv_X _ _ (70, [(3, .inl z30), (0, .inr (.inr (some 39))), (1, .inl a1), (2, .inl v2_11)], [], sh, gc_h sh I9 J10 A)
          refine gv_run 4 true hD (pc' := 89) (lv' := [(4, .inl 0), (3, .inl z30), (0, .inr (.inr (some 39))), (1, .inl a1), (2, .inl v2_11)]) (st' := [.inl z30]) (h' := gc_h sh I9 J10 A) (C := ((((True ∧ True) ∧ True) ∧ True) ∧ True)) rfl ⟨⟨⟨⟨trivial, trivial⟩, trivial⟩, trivial⟩, trivial⟩ ?_
          refine gv_if_lt (t := 105) hD rfl rfl ⟨by exact gz_m 98 (by omega), by exact gz_m 99 (by omega)⟩ (fun c83 => ?_) (fun c83 => ?_)
          · show gv_X _ _ (105, [(4, .inl 0), (3, .inl z30), (0, .inr (.inr (some 39))), (1, .inl a1), (2, .inl v2_11)], [], sh, gc_h sh I9 J10 A)
            refine gv_run 3 true hD (pc' := 108) (lv' := [(4, .inl 0), (3, .inl z30), (0, .inr (.inr (some 39))), (1, .inl a1), (2, .inl v2_11)]) (st' := [.inr (.inr (some 39)), .inl 5, .inr (.inr (some 39))]) (h' := gc_h sh I9 J10 A) (C := (((True ∧ True) ∧ True) ∧ True)) rfl ⟨⟨⟨trivial, trivial⟩, trivial⟩, trivial⟩ ?_
            refine gv_get hD rfl rfl S_39 ⟨by decide, B_39⟩ (gc_hA S_39 rfl A_39_1) ?_
            show gv_X _ _ (111, [(4, .inl 0), (3, .inl z30), (0, .inr (.inr (some 39))), (1, .inl a1), (2, .inl v2_11)], [.inr (.inr (some 23)), .inl 5, .inr (.inr (some 39))], sh, gc_h sh I9 J10 A)
            have f84 := (gc_b_3_5 hI9 R_23)
            refine gv_get hD rfl rfl S_23 ⟨by decide, B_23⟩ (gc_hI S_23 rfl) ?_
            show gv_X _ _ (114, [(4, .inl 0), (3, .inl z30), (0, .inr (.inr (some 39))), (1, .inl a1), (2, .inl v2_11)], [.inl (I9 23 5), .inl 5, .inr (.inr (some 39))], sh, gc_h sh I9 J10 A)
            obtain ⟨r85, h85, E85, P85⟩ := d_X6_wrong_p (ws0 := ws0) (tb := tb) hws htb sh ro I9 J10 A hI9  5 (I9 23 5) hb   ⟨by exact gz_m 100 (by omega), by exact gz_m 101 (by omega)⟩ ⟨by exact gz_m 102 (by omega), by exact gz_m 103 (by omega)⟩  
            obtain ⟨I86, J87, rfl, hI86, g85, k85, ⟨z85, rfl, q85⟩⟩ := P85
            have FI86 := gc_frc (W := fun q j => (q = 39 ∧ j = 3) ∨ (q = 39 ∧ j = 4) ∨ (q = 23 ∧ j = 5) ∨ (q = 23 ∧ j = 6) ∨ (q = 23 ∧ j = 7) ∨ (q = 23 ∧ j = 8) ∨ (q = 39 ∧ j = 6)) (V := fun q j => (q = 39 ∧ j = 3) ∨ (q = 39 ∧ j = 4)) FI9 (fun q j h => (h.elim (fun h => (Or.inl h)) (fun h => (Or.inr (Or.inl h))))) g85
            have t88 := (g85 23 1).resolve_left (fun h => h.elim (fun h => absurd h.2 (gz_ne rfl)) (fun h => absurd h.2 (gz_ne rfl)))
            have t89 := (g85 23 5).resolve_left (fun h => h.elim (fun h => absurd h.2 (gz_ne rfl)) (fun h => absurd h.2 (gz_ne rfl)))
            have t90 := (g85 23 6).resolve_left (fun h => h.elim (fun h => absurd h.2 (gz_ne rfl)) (fun h => absurd h.2 (gz_ne rfl)))
            have t91 := (g85 23 7).resolve_left (fun h => h.elim (fun h => absurd h.2 (gz_ne rfl)) (fun h => absurd h.2 (gz_ne rfl)))
            have t92 := (g85 (t + 3) 1).resolve_left (fun h => h.elim (fun h => absurd h.2 (gz_ne rfl)) (fun h => absurd h.2 (gz_ne rfl)))
            have t93 := (g85 39 6).resolve_left (fun h => h.elim (fun h => absurd h.2 (gz_ne rfl)) (fun h => absurd h.2 (gz_ne rfl)))
            have t94 := (g85 39 2).resolve_left (fun h => h.elim (fun h => absurd h.2 (gz_ne rfl)) (fun h => absurd h.2 (gz_ne rfl)))
            obtain rfl : J10 = J87 := funext fun q => funext fun j => ((k85 q j).resolve_left id).symm
            have KLT_I86 := gc_LT_fr KLT_I9 ((g85 23 5).resolve_left (fun h => h.elim (fun h => absurd h.2 (gz_ne rfl)) (fun h => absurd h.2 (gz_ne rfl)))) ((g85 23 6).resolve_left (fun h => h.elim (fun h => absurd h.2 (gz_ne rfl)) (fun h => absurd h.2 (gz_ne rfl)))) ((g85 23 7).resolve_left (fun h => h.elim (fun h => absurd h.2 (gz_ne rfl)) (fun h => absurd h.2 (gz_ne rfl)))) (fun k => (g85 24 k).resolve_left (fun h => h.elim (fun h => absurd h.1 (gz_ne rfl)) (fun h => absurd h.1 (gz_ne rfl))))
            have KTK_I86 := gc_TK_fr KTK_I9 ((g85 23 1).resolve_left (fun h => h.elim (fun h => absurd h.2 (gz_ne rfl)) (fun h => absurd h.2 (gz_ne rfl)))) ((g85 23 5).resolve_left (fun h => h.elim (fun h => absurd h.2 (gz_ne rfl)) (fun h => absurd h.2 (gz_ne rfl)))) ((g85 23 6).resolve_left (fun h => h.elim (fun h => absurd h.2 (gz_ne rfl)) (fun h => absurd h.2 (gz_ne rfl)))) ((g85 23 7).resolve_left (fun h => h.elim (fun h => absurd h.2 (gz_ne rfl)) (fun h => absurd h.2 (gz_ne rfl))))
            have A95 := gc_AT_I e1_11 ((g85 23 1).resolve_left (fun h => h.elim (fun h => absurd h.2 (gz_ne rfl)) (fun h => absurd h.2 (gz_ne rfl)))) ((g85 23 5).resolve_left (fun h => h.elim (fun h => absurd h.2 (gz_ne rfl)) (fun h => absurd h.2 (gz_ne rfl)))) ((g85 23 6).resolve_left (fun h => h.elim (fun h => absurd h.2 (gz_ne rfl)) (fun h => absurd h.2 (gz_ne rfl)))) ((g85 23 7).resolve_left (fun h => h.elim (fun h => absurd h.2 (gz_ne rfl)) (fun h => absurd h.2 (gz_ne rfl)))) ((g85 23 8).resolve_left (fun h => h.elim (fun h => absurd h.2 (gz_ne rfl)) (fun h => absurd h.2 (gz_ne rfl)))) (fun k => (g85 24 k).resolve_left (fun h => h.elim (fun h => absurd h.1 (gz_ne rfl)) (fun h => absurd h.1 (gz_ne rfl))))
            have t96 := gc_AT_l A95
            refine gv_callV hD rfl (As := [.inl 5, .inl (I9 23 5)]) (st := []) rfl B_39 S_39 rfl (gc_lV6 hws rfl) (Nat.le_of_ble_eq_true rfl) (gz_Ev_mono (d := 1) (by decide) E85) ?_
            show gv_X _ _ (117, [(4, .inl 0), (3, .inl z30), (0, .inr (.inr (some 39))), (1, .inl a1), (2, .inl v2_11)], [.inl z85], sh, gc_h sh I86 J10 A)
            exact gv_zret hD rfl (by exact gz_m 104 (by omega)) ⟨I86, J10, rfl, hI86, FI86, FJ10, KLT_I86, KTK_I86, ⟨_, rfl, by exact gz_m 105 (by omega), by exact gz_m 106 (by omega), by exact gz_m 107 (by omega), by exact gz_m 108 (by omega), (Or.inr ⟨by exact gz_m 109 (by omega), by have o9 : gs_ov β η Ir Jr k9 p_11 = -1 - gs_A β η p_11 := O9.1.trans (by unfold gs_ov2 gs_pkb; (repeat first | rw [if_pos (by exact gz_m 110 (by omega))] | rw [if_neg (by exact gz_m 111 (by omega))])); rw [gs_rv_e (m := 0) (k := 0) (fi := 0) (fun h => (hw9 h).trans (gs_ws_x (by exact gz_m 112 (by omega)) (by exact gz_m 113 (by omega)))) (fun h => (hh9 h).trans (gs_hv_x (by exact gz_m 114 (by omega)) ((e1_21 h).elim (fun u => Or.inl (by rw [if_pos u]; decide)) Or.inr) (by exact gz_m 115 (by omega)))) o9 (fun _ => o9)]; exact ⟨by exact gz_m 116 (by omega), by exact gz_m 117 (by omega)⟩⟩)⟩⟩
          · exfalso; exact gz_m 118 (by omega)
      refine gv_run 2 true hD (pc' := 10) (lv' := [(0, .inr (.inr (some 39))), (1, .inl a1), (2, .inl v2_11)]) (st' := [.inl 8, .inl v2_11]) (h' := gc_h sh I9 J10 A) (C := ((True ∧ True) ∧ True)) rfl ⟨⟨trivial, trivial⟩, trivial⟩ ?_
      refine gv_icmp_gt (t := 152) hD rfl rfl ⟨⟨by exact gz_m 119 (by omega), by exact gz_m 120 (by omega)⟩, ⟨by exact gz_m 121 (by omega), by exact gz_m 122 (by omega)⟩⟩ (fun c97 => ?_) (fun c97 => ?_)
      · show gv_X _ _ (152, [(0, .inr (.inr (some 39))), (1, .inl a1), (2, .inl v2_11)], [], sh, gc_h sh I9 J10 A)
        refine gv_run 1 true hD (pc' := 153) (lv' := [(0, .inr (.inr (some 39))), (1, .inl a1), (2, .inl v2_11)]) (st' := [.inl 1]) (h' := gc_h sh I9 J10 A) (C := (True ∧ True)) rfl ⟨trivial, trivial⟩ ?_
        exact gv_zret hD rfl (by exact gz_m 123 (by omega)) ⟨I9, J10, rfl, hI9, FI9, FJ10, KLT_I9, KTK_I9, ⟨_, rfl, by exact gz_m 124 (by omega), by exact gz_m 125 (by omega), by exact gz_m 126 (by omega), by exact gz_m 127 (by omega), (Or.inl ⟨by exact gz_m 128 (by omega), by first | (exfalso; exact gz_m 129 (by omega)) | (obtain ⟨m9, k9, hm9, hP9, hw9, hh9, hk9⟩ := id e2_11; obtain ⟨m9, rfl⟩ : ∃ n, m9 = n + 1 := ⟨m9 - 1, by exact gz_m 130 (by omega)⟩; have e9 : (gs_rv β η Ir Jr a1 p9) = p_11 := gs_rv_e (m := 0) (k := 0) (fi := 0) (fun h => (hw9 h).trans (gs_ws_e (by exact gz_m 131 (by omega)))) hh9 rfl (fun _ => gs_hv_e (Or.inl (by exact gz_m 132 (by omega)))); rw [e9]; exact ⟨by exact gz_m 133 (by omega), e1_11, fun h => ⟨_, by rw [hw9 h, gs_ws_e (by exact gz_m 134 (by omega))]; exact hP9⟩, fun h => ⟨_, by rw [hk9 h, gs_hvk_e (Or.inl (by exact gz_m 135 (by omega)))]; exact hP9⟩⟩)⟩)⟩⟩
      · show gv_X _ _ (13, [(0, .inr (.inr (some 39))), (1, .inl a1), (2, .inl v2_11)], [], sh, gc_h sh I9 J10 A)
        refine gv_run 1 true hD (pc' := 14) (lv' := [(0, .inr (.inr (some 39))), (1, .inl a1), (2, .inl v2_11)]) (st' := [.inr (.inr (some 39))]) (h' := gc_h sh I9 J10 A) (C := (True ∧ True)) rfl ⟨trivial, trivial⟩ ?_
        refine gv_get hD rfl rfl S_39 ⟨by decide, B_39⟩ (gc_hA S_39 rfl A_39_1) ?_
        show gv_X _ _ (17, [(0, .inr (.inr (some 39))), (1, .inl a1), (2, .inl v2_11)], [.inr (.inr (some 23))], sh, gc_h sh I9 J10 A)
        have f98 := (gc_b_3_7 hI9 R_23)
        refine gv_get hD rfl rfl S_23 ⟨by decide, B_23⟩ (gc_hI S_23 rfl) ?_
        show gv_X _ _ (20, [(0, .inr (.inr (some 39))), (1, .inl a1), (2, .inl v2_11)], [.inl (I9 23 7)], sh, gc_h sh I9 J10 A)
        refine gv_run 1 true hD (pc' := 21) (lv' := [(0, .inr (.inr (some 39))), (1, .inl a1), (2, .inl v2_11)]) (st' := [.inl 1, .inl (I9 23 7)]) (h' := gc_h sh I9 J10 A) (C := (True ∧ True)) rfl ⟨trivial, trivial⟩ ?_
        refine gv_icmp_ne (t := 152) hD rfl rfl ⟨⟨by exact gz_m 136 (by omega), by exact gz_m 137 (by omega)⟩, ⟨by exact gz_m 138 (by omega), by exact gz_m 139 (by omega)⟩⟩ (fun c99 => ?_) (fun c99 => ?_)
        · show gv_X _ _ (152, [(0, .inr (.inr (some 39))), (1, .inl a1), (2, .inl v2_11)], [], sh, gc_h sh I9 J10 A)
          refine gv_run 1 true hD (pc' := 153) (lv' := [(0, .inr (.inr (some 39))), (1, .inl a1), (2, .inl v2_11)]) (st' := [.inl 1]) (h' := gc_h sh I9 J10 A) (C := (True ∧ True)) rfl ⟨trivial, trivial⟩ ?_
          exact gv_zret hD rfl (by exact gz_m 140 (by omega)) ⟨I9, J10, rfl, hI9, FI9, FJ10, KLT_I9, KTK_I9, ⟨_, rfl, by exact gz_m 141 (by omega), by exact gz_m 142 (by omega), by exact gz_m 143 (by omega), by exact gz_m 144 (by omega), (Or.inl ⟨by exact gz_m 145 (by omega), by first | (exfalso; exact gz_m 146 (by omega)) | (obtain ⟨m9, k9, hm9, hP9, hw9, hh9, hk9⟩ := id e2_11; obtain ⟨m9, rfl⟩ : ∃ n, m9 = n + 1 := ⟨m9 - 1, by exact gz_m 147 (by omega)⟩; have e9 : (gs_rv β η Ir Jr a1 p9) = p_11 := gs_rv_e (m := 0) (k := 0) (fi := 0) (fun h => (hw9 h).trans (gs_ws_e (by exact gz_m 148 (by omega)))) hh9 rfl (fun _ => gs_hv_e (Or.inl (by exact gz_m 149 (by omega)))); rw [e9]; exact ⟨by exact gz_m 150 (by omega), e1_11, fun h => ⟨_, by rw [hw9 h, gs_ws_e (by exact gz_m 151 (by omega))]; exact hP9⟩, fun h => ⟨_, by rw [hk9 h, gs_hvk_e (Or.inl (by exact gz_m 152 (by omega)))]; exact hP9⟩⟩)⟩)⟩⟩
        · show gv_X _ _ (24, [(0, .inr (.inr (some 39))), (1, .inl a1), (2, .inl v2_11)], [], sh, gc_h sh I9 J10 A)
          refine gv_run 1 true hD (pc' := 25) (lv' := [(0, .inr (.inr (some 39))), (1, .inl a1), (2, .inl v2_11)]) (st' := [.inl a1]) (h' := gc_h sh I9 J10 A) (C := (True ∧ True)) rfl ⟨trivial, trivial⟩ ?_
          refine gv_if_eq (t := 48) hD rfl rfl ⟨by exact gz_m 153 (by omega), by exact gz_m 154 (by omega)⟩ (fun c100 => ?_) (fun c100 => ?_)
          · show gv_X _ _ (48, [(0, .inr (.inr (some 39))), (1, .inl a1), (2, .inl v2_11)], [], sh, gc_h sh I9 J10 A)
            exact L48 (by exact gz_m 155 (by omega)) (fun h8 => by first | (exfalso; exact h8 (by exact gz_m 156 (by omega))) | exact Or.inl (by exact gz_m 157 (by omega)))
          · show gv_X _ _ (28, [(0, .inr (.inr (some 39))), (1, .inl a1), (2, .inl v2_11)], [], sh, gc_h sh I9 J10 A)
            refine gv_run 1 true hD (pc' := 29) (lv' := [(0, .inr (.inr (some 39))), (1, .inl a1), (2, .inl v2_11)]) (st' := [.inl v2_11]) (h' := gc_h sh I9 J10 A) (C := (True ∧ True)) rfl ⟨trivial, trivial⟩ ?_
            refine gv_if_le (t := 48) hD rfl rfl ⟨by exact gz_m 158 (by omega), by exact gz_m 159 (by omega)⟩ (fun c101 => ?_) (fun c101 => ?_)
            · show gv_X _ _ (48, [(0, .inr (.inr (some 39))), (1, .inl a1), (2, .inl v2_11)], [], sh, gc_h sh I9 J10 A)
              exact L48 (by exact gz_m 160 (by omega)) (fun h8 => by first | (exfalso; exact h8 (by exact gz_m 161 (by omega))) | exact Or.inl (by exact gz_m 162 (by omega)))
            · show gv_X _ _ (32, [(0, .inr (.inr (some 39))), (1, .inl a1), (2, .inl v2_11)], [], sh, gc_h sh I9 J10 A)
              refine gv_run 1 true hD (pc' := 33) (lv' := [(0, .inr (.inr (some 39))), (1, .inl a1), (2, .inl v2_11)]) (st' := [.inr (.inr (some 39))]) (h' := gc_h sh I9 J10 A) (C := (True ∧ True)) rfl ⟨trivial, trivial⟩ ?_
              refine gv_get hD rfl rfl S_39 ⟨by decide, B_39⟩ (gc_hA S_39 rfl A_39_1) ?_
              show gv_X _ _ (36, [(0, .inr (.inr (some 39))), (1, .inl a1), (2, .inl v2_11)], [.inr (.inr (some 23))], sh, gc_h sh I9 J10 A)
              refine gv_get hD rfl rfl S_23 ⟨by decide, B_23⟩ (gc_hJ S_23 rfl) ?_
              show gv_X _ _ (39, [(0, .inr (.inr (some 39))), (1, .inl a1), (2, .inl v2_11)], [.inr (.inl (J10 23 9))], sh, gc_h sh I9 J10 A)
              have f102 := gw_cmp ((J10 23 9)) ((1668248436))
              refine gv_run 2 true hD (pc' := 43) (lv' := [(0, .inr (.inr (some 39))), (1, .inl a1), (2, .inl v2_11)]) (st' := [.inl ((lg_cmp ((J10 23 9)) ((1668248436))).toInt)]) (h' := gc_h sh I9 J10 A) (C := ((True ∧ True) ∧ True)) rfl ⟨⟨trivial, trivial⟩, trivial⟩ ?_
              refine gv_if_ne (t := 48) hD rfl rfl ⟨by exact gz_m 163 (by omega), by exact gz_m 164 (by omega)⟩ (fun c103 => ?_) (fun c103 => ?_)
              · show gv_X _ _ (48, [(0, .inr (.inr (some 39))), (1, .inl a1), (2, .inl v2_11)], [], sh, gc_h sh I9 J10 A)
                have j103 := gs_cmpn (a := (J10 23 9)) (b := (1668248436)) (by exact gz_m 165 (by omega))
                exact L48 (by exact gz_m 166 (by omega)) (fun _ => Or.inr (fun h8 => j103 ((gc_AT_m e1_11 (by exact gz_m 167 (by omega))).trans ((gs_al_eq (gs_al_p (show gs_T β η p_11 = 1 by exact gz_m 168 (by omega))) (gs_W_al 92 (by decide) (by decide))).mpr h8))))
              · show gv_X _ _ (46, [(0, .inr (.inr (some 39))), (1, .inl a1), (2, .inl v2_11)], [], sh, gc_h sh I9 J10 A)
                have j103 := gs_cmp0 (a := (J10 23 9)) (b := (1668248436)) (by exact gz_m 169 (by omega))
                refine gv_run 1 true hD (pc' := 47) (lv' := [(0, .inr (.inr (some 39))), (1, .inl a1), (2, .inl v2_11)]) (st' := [.inl 1]) (h' := gc_h sh I9 J10 A) (C := (True ∧ True)) rfl ⟨trivial, trivial⟩ ?_
                exact gv_zret hD rfl (by exact gz_m 170 (by omega)) ⟨I9, J10, rfl, hI9, FI9, FJ10, KLT_I9, KTK_I9, ⟨_, rfl, by exact gz_m 171 (by omega), by exact gz_m 172 (by omega), by exact gz_m 173 (by omega), by exact gz_m 174 (by omega), (Or.inl ⟨by exact gz_m 175 (by omega), by obtain ⟨m9, k9, hm9, hP9, hw9, hh9, hk9⟩ := id e2_11; obtain ⟨m9, rfl⟩ : ∃ n, m9 = n + 1 := ⟨m9 - 1, by exact gz_m 176 (by omega)⟩; have e9 : (gs_rv β η Ir Jr a1 p9) = p_11 := gs_rv_e (m := 0) (k := 0) (fi := 0) (w := (p_11, 0)) (fun h => absurd h (by exact gz_m 177 (by omega))) hh9 rfl (fun _ => gs_hv_e (Or.inr ⟨if_neg (by exact gz_m 178 (by omega)), (gs_al_eq (gs_al_p (show gs_T β η p_11 = 1 by exact gz_m 179 (by omega))) (gs_W_al 92 (by decide) (by decide))).mp ((gc_AT_m e1_11 (by exact gz_m 180 (by omega))).symm.trans j103)⟩)); rw [e9]; exact ⟨by exact gz_m 181 (by omega), e1_11, fun h => absurd h (by exact gz_m 182 (by omega)), fun h => ⟨_, by rw [hk9 h, gs_hvk_e (Or.inr ⟨if_neg (by exact gz_m 183 (by omega)), (gs_al_eq (gs_al_p (show gs_T β η p_11 = 1 by exact gz_m 184 (by omega))) (gs_W_al 92 (by decide) (by decide))).mp ((gc_AT_m e1_11 (by exact gz_m 185 (by omega))).symm.trans j103)⟩)]; exact hP9⟩⟩⟩)⟩⟩
  refine gv_run 2 true hD (pc' := 2) (lv' := [(0, .inr (.inr (some 39))), (1, .inl a1)]) (st' := [.inl 0, .inr (.inr (some 39))]) (h' := gc_h sh I J A) (C := ((True ∧ True) ∧ True)) rfl ⟨⟨trivial, trivial⟩, trivial⟩ ?_
  refine gv_put hD rfl rfl S_39 ⟨by decide, B_39⟩ rfl trivial ?_
  refine gc_st (k := 6) hI S_39 rfl R_39 (lo := 0) (hi := 16777215) rfl rfl (by exact gz_m 186 (by omega)) (by exact gz_m 187 (by omega)) (fun I104 hI104 q105 p105 => ?_)
  have FI104 := gc_frs (W := fun q j => (q = 39 ∧ j = 3) ∨ (q = 39 ∧ j = 4) ∨ (q = 23 ∧ j = 5) ∨ (q = 23 ∧ j = 6) ∨ (q = 23 ∧ j = 7) ∨ (q = 23 ∧ j = 8) ∨ (q = 39 ∧ j = 6)) FI (Or.inr (Or.inr (Or.inr (Or.inr (Or.inr (Or.inr ⟨rfl, rfl⟩)))))) p105
  have t106 := p105 23 1 (fun h => absurd h.2 (gz_ne rfl))
  have t107 := p105 23 5 (fun h => absurd h.2 (gz_ne rfl))
  have t108 := p105 23 6 (fun h => absurd h.1 (gz_ne rfl))
  have t109 := p105 23 7 (fun h => absurd h.2 (gz_ne rfl))
  have t110 := p105 (t + 3) 1 (fun h => absurd h.2 (gz_ne rfl))
  have t111 := p105 39 2 (fun h => absurd h.2 (gz_ne rfl))
  have f112 := (gc_b_42_6 hI104 R_39)
  have KLT_I104 := gc_LT_fr KLT_I (p105 23 5 (fun h => absurd h.2 (gz_ne rfl))) (p105 23 6 (fun h => absurd h.1 (gz_ne rfl))) (p105 23 7 (fun h => absurd h.2 (gz_ne rfl))) (fun k => p105 24 k (fun h => absurd h.1 (gz_ne rfl)))
  have KTK_I104 := gc_TK_fr KTK_I (p105 23 1 (fun h => absurd h.2 (gz_ne rfl))) (p105 23 5 (fun h => absurd h.2 (gz_ne rfl))) (p105 23 6 (fun h => absurd h.1 (gz_ne rfl))) (p105 23 7 (fun h => absurd h.2 (gz_ne rfl)))
  have A113 := gc_AT_I x0 (p105 23 1 (fun h => absurd h.2 (gz_ne rfl))) (p105 23 5 (fun h => absurd h.2 (gz_ne rfl))) (p105 23 6 (fun h => absurd h.1 (gz_ne rfl))) (p105 23 7 (fun h => absurd h.2 (gz_ne rfl))) (p105 23 8 (fun h => absurd h.2 (gz_ne rfl))) (fun k => p105 24 k (fun h => absurd h.1 (gz_ne rfl)))
  show gv_X _ _ (5, [(0, .inr (.inr (some 39))), (1, .inl a1)], [], sh, gc_h sh I104 J A)
  refine gv_run 2 true hD (pc' := 7) (lv' := [(2, .inl 0), (0, .inr (.inr (some 39))), (1, .inl a1)]) (st' := []) (h' := gc_h sh I104 J A) (C := ((True ∧ True) ∧ True)) rfl ⟨⟨trivial, trivial⟩, trivial⟩ ?_
  refine gv_pick [1, 2, 0] rfl ?_
  exact L7 _ I104 J 0 p9 (Nat.lt_succ_self _) hI104 FI104 FJ KLT_I104 KTK_I104 (by exact gz_m 188 (by omega)) A113 ⟨1002, 0, by exact gz_m 189 (by omega), (by rw [show I104 39 6 = 0 from by exact gz_m 190 (by omega)]; exact gs_PV_0), fun _ => rfl, fun _ => rfl, fun _ => rfl⟩
