set_option maxHeartbeats 8000000 in
set_option maxRecDepth 100000 in
theorem d_X6_readSound_p_L183 {ws0 : List Cond} {tb : String → gz_T} (hws : gc_Ws ws0) (htb : gc_tbs tb) (sh : gz_Sh) (ro : Nat → Nat) (I : gr_I) (J : gr_J) (A : gc_A) (hI : gc_Inv ro I) (t : Nat) (B : Int) (β : Int → Int) (η : Int) (p9 : Int) (Ir : gr_I) (Jr : gr_J)  (hb : gc_Base sh ro A) (h_t : gc_isTongue sh ro A t) (G_t : 144 ≤ t)  (x0 : B ≤ 1280 ∧ I 1 17 + I 23 1 ≤ B + I 23 5) (x1 : gc_AT β η p9 23 I J) (x2 : 0 ≤ p9) (x3 : I 1 18 = 0) (x4 : I t 6 = Ir 16 (Int.toNat (Ir 0 6))) (x5 : I (t + 7) 1 = Ir 15 (Int.toNat (Ir 0 6))) (x6 : gs_NA (I (t + 7) 1) (J (t + 8)) (fun k => Jr 22 (Int.toNat (16 * Ir 0 6 + (k : Int))))) (x7 : gs_MA Ir I t) (x8 : I 39 2 = (t : Int)) (KLT_I : gc_LT I) (KTK_I : gc_TK I) (KSC_I : gc_sc (t + 10) I) : ∀ (I51 : gr_I) (J52 : gr_J) (p_53 : Int), gc_Inv ro I51 → (∀ q j : Nat, ((q = 39 ∧ j = 3) ∨ (q = 39 ∧ j = 4) ∨ (q = 23 ∧ j = 5) ∨ (q = 23 ∧ j = 6) ∨ (q = 23 ∧ j = 7) ∨ (q = 23 ∧ j = 8) ∨ (q = 1 ∧ j = 17) ∨ (q = 1 ∧ j = 18) ∨ q = 20 ∨ q = 41 ∨ q = (t + 10) ∨ (q = t ∧ j = 6)) ∨ I51 q j = I q j) → (∀ q j : Nat, ((q = 23 ∧ j = 9)) ∨ J52 q j = J q j) → gc_LT I51 → gc_TK I51 → gc_sc (t + 10) I51 → gc_row 41 25 gc_fS I51 → gc_RC I51 → gc_PKs I I51 → ((0 ≤ p_53) ∧ (I51 1 18 = 0) ∧ (I51 t 6 = I t 6) ∧ (I51 23 1 = I 23 1) ∧ (I 23 5 ≤ I51 23 5) ∧ (B ≤ 1280 ∧ I51 1 17 + I51 23 1 ≤ B + I51 23 5) ∧ (I51 39 2 = (t : Int))) → (gc_AT β η p_53 23 I51 J52) → ((gs_snd β η Ir Jr (I 39 5) p9) = gs_snd6 β η Ir (I 39 5) p_53) → (gs_c7 β η Ir Jr I t p9 I51 (I51 41)) → ((I51 39 5 = I 39 5) ∧ (∀ k, I51 (t + 10) k = I (t + 10) k)) → gv_X (gc_E6 ws0 tb 5 (yX6_readSound, cX6_readSound, 1, (some .boolean)) kX6_readSound) (gv_Q cX6_readSound (some .boolean) sh (fun r h' => (∃ (I' : gr_I) (J' : gr_J), h' = gc_h sh I' J' A ∧ gc_Inv ro I' ∧ (∀ q j : Nat, ((q = 39 ∧ j = 3) ∨ (q = 39 ∧ j = 4) ∨ (q = 23 ∧ j = 5) ∨ (q = 23 ∧ j = 6) ∨ (q = 23 ∧ j = 7) ∨ (q = 23 ∧ j = 8) ∨ (q = 1 ∧ j = 17) ∨ (q = 1 ∧ j = 18) ∨ q = 20 ∨ q = 41 ∨ q = (t + 10) ∨ (q = t ∧ j = 6)) ∨ I' q j = I q j) ∧ (∀ q j : Nat, ((q = 23 ∧ j = 9)) ∨ J' q j = J q j) ∧ gc_LT I' ∧ gc_TK I' ∧ gc_sc (t + 10) I' ∧ (∃ z : Int, r = some (.inl z) ∧ 0 ≤ z ∧ z ≤ 1 ∧ (I' 23 1 = I 23 1) ∧ (I 23 5 ≤ I' 23 5) ∧ (B ≤ 1280 ∧ I' 1 17 + I' 23 1 ≤ B + I' 23 5) ∧ (gc_PKs I I') ∧ (gs_Or z (0 ≤ (gs_snd β η Ir Jr (I 39 5) p9) ∧ gc_AT β η (gs_snd β η Ir Jr (I 39 5) p9) 23 I' J' ∧ I' t 6 = I t 6 + 1 ∧ I' 1 18 = 0 ∧ gs_Csn β η Ir Jr I t p9 I' (I t 6)) ((gs_snd β η Ir Jr (I 39 5) p9) < 0 ∧ I' 39 4 = -1 - (gs_snd β η Ir Jr (I 39 5) p9) ∧ I' t 6 = I t 6 ∧ ∀ j, I' (t + 10) j = I (t + 10) j)))))) (183, [(0, .inr (.inr (some 39)))], [], sh, gc_h sh I51 J52 A) := by
  have FI : ∀ q j : Nat, ((q = 39 ∧ j = 3) ∨ (q = 39 ∧ j = 4) ∨ (q = 23 ∧ j = 5) ∨ (q = 23 ∧ j = 6) ∨ (q = 23 ∧ j = 7) ∨ (q = 23 ∧ j = 8) ∨ (q = 1 ∧ j = 17) ∨ (q = 1 ∧ j = 18) ∨ q = 20 ∨ q = 41 ∨ q = (t + 10) ∨ (q = t ∧ j = 6)) ∨ I q j = I q j := fun _ _ => Or.inr rfl
  have FJ : ∀ q j : Nat, ((q = 23 ∧ j = 9)) ∨ J q j = J q j := fun _ _ => Or.inr rfl
  have A_39_1 : A 39 1 = some 23 := gc_bA hb rfl
  have A_39_10 : A 39 10 = some 41 := gc_bA hb rfl
  have B_23 : 23 < 1000000 := by decide
  have B_39 : 39 < 1000000 := by decide
  have B_41 : 41 < 1000000 := by decide
  have R_1 : ro 1 = 22 := gc_bR hb (by decide) rfl
  have R_23 : ro 23 = 3 := gc_bR hb (by decide) rfl
  have R_39 : ro 39 = 42 := gc_bR hb (by decide) rfl
  have R_41 : ro 41 = 0 := gc_bR hb (by decide) rfl
  have S_23 : sh[23]? = some (false, 9, 10) := gc_bS hb rfl
  have S_39 : sh[39]? = some (false, 6, 19) := gc_bS hb rfl
  have S_41 : sh[41]? = some (true, 1, 25) := gc_bS hb rfl
  obtain ⟨S_t, R_t, B_t, A_t_0, h_t_1, A_t_1, h_t_3, A_t_2, S_t_5, R_t_5, B_t_5, A_t_3, S_t_6, R_t_6, B_t_6, A_t_4, h_t_7, A_t_5, S_t_9, R_t_9, B_t_9, A_t_7, S_t_10, R_t_10, B_t_10, A_t_8, h_t_11, A_t_9, S_t_13, R_t_13, B_t_13, A_t_10, S_t_14, R_t_14, B_t_14, A_t_12, S_t_15, R_t_15, B_t_15, A_t_14, S_t_16, R_t_16, B_t_16, A_t_15, h_t_17⟩ := id h_t
  obtain ⟨S_t_1, R_t_1, B_t_1, A_t_1_0, S_t_1_1, R_t_1_1, B_t_1_1, Q0_t_1, Q1_t_1, Q2_t_1⟩ := id h_t_1
  obtain ⟨S_t_3, R_t_3, B_t_3, A_t_3_0, S_t_3_1, R_t_3_1, B_t_3_1, Q0_t_3, Q1_t_3, Q2_t_3⟩ := id h_t_3
  obtain ⟨S_t_7, R_t_7, B_t_7, A_t_7_0, S_t_7_1, R_t_7_1, B_t_7_1, Q0_t_7, Q1_t_7, Q2_t_7⟩ := id h_t_7
  obtain ⟨S_t_11, R_t_11, B_t_11, A_t_11_0, S_t_11_1, R_t_11_1, B_t_11_1, Q0_t_11, Q1_t_11, Q2_t_11⟩ := id h_t_11
  obtain ⟨S_t_17, R_t_17, B_t_17, A_t_17_0, S_20, R_20, B_20, A_t_17_1, S_t_17_1, R_t_17_1, B_t_17_1, A_t_17_2, S_t_17_2, R_t_17_2, B_t_17_2, A_t_17_3, S_t_17_3, R_t_17_3, B_t_17_3, A_t_17_4, S_t_17_4, R_t_17_4, B_t_17_4, A_t_17_5, S_t_17_5, R_t_17_5, B_t_17_5, S_t_17_6, R_t_17_6, B_t_17_6, S_t_17_7, R_t_17_7, B_t_17_7⟩ := id h_t_17
  have hD : gv_D (gc_E6 ws0 tb 5 (yX6_readSound, cX6_readSound, 1, (some .boolean)) kX6_readSound) := gq_of oX6_readSound
  have N_t__23 : ¬ (t = 23) := by exact gz_m 0 (by omega)
  have N_t_10__39 : ¬ ((t + 10) = 39) := by exact gz_m 1 (by omega)
  have N_t_10__23 : ¬ ((t + 10) = 23) := by exact gz_m 2 (by omega)
  have N_23__t_10 : ¬ (23 = (t + 10)) := by exact gz_m 3 (by omega)
  have N_24__t_10 : ¬ (24 = (t + 10)) := by exact gz_m 4 (by omega)
  have N_41__t_10 : ¬ (41 = (t + 10)) := by exact gz_m 5 (by omega)
  have N_1__t_10 : ¬ (1 = (t + 10)) := by exact gz_m 6 (by omega)
  have N_20__t_10 : ¬ (20 = (t + 10)) := by exact gz_m 7 (by omega)
  have N_t__t_10 : ¬ (t = (t + 10)) := by exact gz_m 8 (by omega)
  have N_39__t_10 : ¬ (39 = (t + 10)) := by exact gz_m 9 (by omega)
  have N_23__t : ¬ (23 = t) := by exact gz_m 10 (by omega)
  have N_41__t : ¬ (41 = t) := by exact gz_m 11 (by omega)
  have N_24__t : ¬ (24 = t) := by exact gz_m 12 (by omega)
  have N_t_10__t : ¬ ((t + 10) = t) := by exact gz_m 13 (by omega)
  have N_20__t : ¬ (20 = t) := by exact gz_m 14 (by omega)
  have N_t__20 : ¬ (t = 20) := by exact gz_m 15 (by omega)
  have N_t_10__1 : ¬ ((t + 10) = 1) := by exact gz_m 16 (by omega)
  have N_t_10__20 : ¬ ((t + 10) = 20) := by exact gz_m 17 (by omega)
  have N_t_10__41 : ¬ ((t + 10) = 41) := by exact gz_m 18 (by omega)
  have N_t__41 : ¬ (t = 41) := by exact gz_m 19 (by omega)
  have KPK_I : gc_PKs I I := gc_PKs_rf
  have t1 := gc_TK_mo KTK_I
  have f2 := (show 0 ≤ I 23 1 ∧ I 23 1 ≤ 1000 from gc_in hI R_23 rfl rfl)
  have f3 := (show 0 ≤ I 23 5 ∧ I 23 5 ≤ 1000 from gc_in hI R_23 rfl rfl)
  have f4 := (show 0 ≤ I 23 6 ∧ I 23 6 ≤ 1001 from gc_in hI R_23 rfl rfl)
  have f5 := (show 0 ≤ I 23 7 ∧ I 23 7 ≤ 125 from gc_in hI R_23 rfl rfl)
  have f6 := (show 0 ≤ I 1 17 ∧ I 1 17 ≤ 12000 from gc_in hI R_1 rfl rfl)
  have f7 := (show 0 ≤ I t 6 ∧ I t 6 ≤ 24 from gc_in hI R_t rfl rfl)
  have f8 := (show 0 ≤ I 1 18 ∧ I 1 18 ≤ 1 from gc_in hI R_1 rfl rfl)
  have f9 := (show 0 ≤ I 39 5 ∧ I 39 5 ≤ 1000 from gc_in hI R_39 rfl rfl)
  have f10 := (show (-1) ≤ I 39 2 ∧ I 39 2 ≤ 999999 from gc_in hI R_39 rfl rfl)
  have tAT := gc_AT_l x1
  intro I51 J52 p_53 hI51 FI51 FJ52 KLT_I51 KTK_I51 KSC_I51 KRS_I51 KRC_I51 KPK_I51 m_53 e1_53 e2_53 e3_53 e4_53
  obtain ⟨e0_53, e5_53, e6_53, e7_53, e8_53, e9_53, e10_53⟩ := m_53
  have t54 := gc_TK_mo KTK_I51
  have f55 := (show 0 ≤ I51 23 1 ∧ I51 23 1 ≤ 1000 from gc_in hI51 R_23 rfl rfl)
  have f56 := (show 0 ≤ I51 23 5 ∧ I51 23 5 ≤ 1000 from gc_in hI51 R_23 rfl rfl)
  have f57 := (show 0 ≤ I51 23 6 ∧ I51 23 6 ≤ 1001 from gc_in hI51 R_23 rfl rfl)
  have f58 := (show 0 ≤ I51 23 7 ∧ I51 23 7 ≤ 125 from gc_in hI51 R_23 rfl rfl)
  have f59 := (show 0 ≤ I51 1 17 ∧ I51 1 17 ≤ 12000 from gc_in hI51 R_1 rfl rfl)
  have f60 := (show 0 ≤ I51 t 6 ∧ I51 t 6 ≤ 24 from gc_in hI51 R_t rfl rfl)
  have f61 := (show 0 ≤ I51 1 18 ∧ I51 1 18 ≤ 1 from gc_in hI51 R_1 rfl rfl)
  have f62 := (show 0 ≤ I51 39 5 ∧ I51 39 5 ≤ 1000 from gc_in hI51 R_39 rfl rfl)
  have f63 := (show (-1) ≤ I51 39 2 ∧ I51 39 2 ≤ 999999 from gc_in hI51 R_39 rfl rfl)
  have t64 := gc_AT_l e1_53
  refine gv_run 2 true hD (pc' := 185) (lv' := [(0, .inr (.inr (some 39)))]) (st' := [.inr (.inr (some 39)), .inr (.inr (some 39))]) (h' := gc_h sh I51 J52 A) (C := ((True ∧ True) ∧ True)) rfl ⟨⟨trivial, trivial⟩, trivial⟩ ?_
  refine gv_get hD rfl rfl S_39 ⟨by decide, B_39⟩ (gc_h5 (t := t) S_39 rfl (by exact gz_m 20 (by omega))) ?_
  show gv_X _ _ (188, [(0, .inr (.inr (some 39)))], [.inr (.inr (some t)), .inr (.inr (some 39))], sh, gc_h sh I51 J52 A)
  have f65 := (show 0 ≤ I51 t 6 ∧ I51 t 6 ≤ 24 from gc_in hI51 R_t rfl rfl)
  refine gv_get hD rfl rfl S_t ⟨by decide, B_t⟩ (gc_hI S_t rfl) ?_
  show gv_X _ _ (191, [(0, .inr (.inr (some 39)))], [.inl (I51 t 6), .inr (.inr (some 39))], sh, gc_h sh I51 J52 A)
  refine gv_run 1 true hD (pc' := 193) (lv' := [(0, .inr (.inr (some 39)))]) (st' := [.inl 24, .inl (I51 t 6), .inr (.inr (some 39))]) (h' := gc_h sh I51 J52 A) (C := (True ∧ True)) rfl ⟨trivial, trivial⟩ ?_
  refine gv_icmp_lt (t := 200) hD rfl rfl ⟨⟨by exact gz_m 21 (by omega), by exact gz_m 22 (by omega)⟩, ⟨by exact gz_m 23 (by omega), by exact gz_m 24 (by omega)⟩⟩ (fun c66 => ?_) (fun c66 => ?_)
  · show gv_X _ _ (200, [(0, .inr (.inr (some 39)))], [.inr (.inr (some 39))], sh, gc_h sh I51 J52 A)
    refine gv_run 1 true hD (pc' := 201) (lv' := [(0, .inr (.inr (some 39)))]) (st' := [.inl 0, .inr (.inr (some 39))]) (h' := gc_h sh I51 J52 A) (C := (True ∧ True)) rfl ⟨trivial, trivial⟩ ?_
    obtain ⟨r67, h67, E67, P67⟩ := d_X6_closes_p (ws0 := ws0) (tb := tb) hws htb sh ro I51 J52 A hI51  β η p_53 0 hb   ⟨by exact gz_m 25 (by omega), by exact gz_m 26 (by omega)⟩ e1_53 (by exact gz_m 27 (by omega)) (by exact gz_m 28 (by omega)) KLT_I51 KTK_I51
    obtain ⟨I68, J69, rfl, hI68, g67, k67, KLT_I68, KTK_I68, ⟨z67, rfl, q67⟩⟩ := P67
    have FI68 := gc_frc (W := fun q j => (q = 39 ∧ j = 3) ∨ (q = 39 ∧ j = 4) ∨ (q = 23 ∧ j = 5) ∨ (q = 23 ∧ j = 6) ∨ (q = 23 ∧ j = 7) ∨ (q = 23 ∧ j = 8) ∨ (q = 1 ∧ j = 17) ∨ (q = 1 ∧ j = 18) ∨ q = 20 ∨ q = 41 ∨ q = (t + 10) ∨ (q = t ∧ j = 6)) (V := fun q j => (q = 39 ∧ j = 3) ∨ (q = 39 ∧ j = 4) ∨ (q = 23 ∧ j = 5) ∨ (q = 23 ∧ j = 6) ∨ (q = 23 ∧ j = 7) ∨ (q = 23 ∧ j = 8)) FI51 (fun q j h => (h.elim (fun h => (Or.inl h)) (fun h => (h.elim (fun h => (Or.inr (Or.inl h))) (fun h => (h.elim (fun h => (Or.inr (Or.inr (Or.inl h)))) (fun h => (h.elim (fun h => (Or.inr (Or.inr (Or.inr (Or.inl h))))) (fun h => (h.elim (fun h => (Or.inr (Or.inr (Or.inr (Or.inr (Or.inl h)))))) (fun h => (Or.inr (Or.inr (Or.inr (Or.inr (Or.inr (Or.inl h))))))))))))))))) g67
    have FJ69 := gc_frc (W := fun q j => (q = 23 ∧ j = 9)) (V := fun q j => (q = 23 ∧ j = 9)) FJ52 (fun q j h => h) k67
    have t70 := (g67 23 1).resolve_left (fun h => h.elim (fun h => absurd h.2 (by decide)) (fun h => h.elim (fun h => absurd h.2 (by decide)) (fun h => h.elim (fun h => absurd h.2 (by decide)) (fun h => h.elim (fun h => absurd h.2 (by decide)) (fun h => h.elim (fun h => absurd h.2 (by decide)) (fun h => absurd h.2 (by decide)))))))
    have t71 := (g67 1 17).resolve_left (fun h => h.elim (fun h => absurd h.2 (by decide)) (fun h => h.elim (fun h => absurd h.2 (by decide)) (fun h => h.elim (fun h => absurd h.2 (by decide)) (fun h => h.elim (fun h => absurd h.2 (by decide)) (fun h => h.elim (fun h => absurd h.2 (by decide)) (fun h => absurd h.2 (by decide)))))))
    have t72 := (g67 t 6).resolve_left (fun h => h.elim (fun h => absurd h.2 (by decide)) (fun h => h.elim (fun h => absurd h.2 (by decide)) (fun h => h.elim (fun h => absurd h.2 (by decide)) (fun h => h.elim (fun h => absurd h.1 N_t__23) (fun h => h.elim (fun h => absurd h.2 (by decide)) (fun h => absurd h.2 (by decide)))))))
    have t73 := (g67 1 18).resolve_left (fun h => h.elim (fun h => absurd h.2 (by decide)) (fun h => h.elim (fun h => absurd h.2 (by decide)) (fun h => h.elim (fun h => absurd h.2 (by decide)) (fun h => h.elim (fun h => absurd h.2 (by decide)) (fun h => h.elim (fun h => absurd h.2 (by decide)) (fun h => absurd h.2 (by decide)))))))
    have t74 := (g67 39 5).resolve_left (fun h => h.elim (fun h => absurd h.2 (by decide)) (fun h => h.elim (fun h => absurd h.2 (by decide)) (fun h => h.elim (fun h => absurd h.1 (by decide)) (fun h => h.elim (fun h => absurd h.2 (by decide)) (fun h => h.elim (fun h => absurd h.2 (by decide)) (fun h => absurd h.2 (by decide)))))))
    have t75 := (g67 39 2).resolve_left (fun h => h.elim (fun h => absurd h.2 (by decide)) (fun h => h.elim (fun h => absurd h.2 (by decide)) (fun h => h.elim (fun h => absurd h.2 (by decide)) (fun h => h.elim (fun h => absurd h.2 (by decide)) (fun h => h.elim (fun h => absurd h.2 (by decide)) (fun h => absurd h.2 (by decide)))))))
    have t76 := (g67 41 5).resolve_left (fun h => h.elim (fun h => absurd h.2 (by decide)) (fun h => h.elim (fun h => absurd h.2 (by decide)) (fun h => h.elim (fun h => absurd h.1 (by decide)) (fun h => h.elim (fun h => absurd h.2 (by decide)) (fun h => h.elim (fun h => absurd h.2 (by decide)) (fun h => absurd h.2 (by decide)))))))
    have t77 := (g67 41 6).resolve_left (fun h => h.elim (fun h => absurd h.2 (by decide)) (fun h => h.elim (fun h => absurd h.2 (by decide)) (fun h => h.elim (fun h => absurd h.2 (by decide)) (fun h => h.elim (fun h => absurd h.1 (by decide)) (fun h => h.elim (fun h => absurd h.2 (by decide)) (fun h => absurd h.2 (by decide)))))))
    have f78 := (show 0 ≤ I68 23 5 ∧ I68 23 5 ≤ 1000 from gc_in hI68 R_23 rfl rfl)
    have f79 := (show 0 ≤ I68 23 6 ∧ I68 23 6 ≤ 1001 from gc_in hI68 R_23 rfl rfl)
    have f80 := (show 0 ≤ I68 23 7 ∧ I68 23 7 ≤ 125 from gc_in hI68 R_23 rfl rfl)
    have t81 := gc_TK_mo KTK_I68
    have KSC_I68 := gc_sc_fr KSC_I51 (fun k => (g67 (t + 10) k).resolve_left (fun h => h.elim (fun h => absurd h.1 N_t_10__39) (fun h => h.elim (fun h => absurd h.1 N_t_10__39) (fun h => h.elim (fun h => absurd h.1 N_t_10__23) (fun h => h.elim (fun h => absurd h.1 N_t_10__23) (fun h => h.elim (fun h => absurd h.1 N_t_10__23) (fun h => absurd h.1 N_t_10__23)))))))
    have KRS_I68 := gc_row_fr KRS_I51 (fun k => (g67 41 k).resolve_left (fun h => h.elim (fun h => absurd h.1 (by decide)) (fun h => h.elim (fun h => absurd h.1 (by decide)) (fun h => h.elim (fun h => absurd h.1 (by decide)) (fun h => h.elim (fun h => absurd h.1 (by decide)) (fun h => h.elim (fun h => absurd h.1 (by decide)) (fun h => absurd h.1 (by decide))))))))
    have KRC_I68 := gc_RC_fr KRC_I51 (fun k => (g67 41 k).resolve_left (fun h => h.elim (fun h => absurd h.1 (by decide)) (fun h => h.elim (fun h => absurd h.1 (by decide)) (fun h => h.elim (fun h => absurd h.1 (by decide)) (fun h => h.elim (fun h => absurd h.1 (by decide)) (fun h => h.elim (fun h => absurd h.1 (by decide)) (fun h => absurd h.1 (by decide))))))))
    have KPK_I68 := gc_PKs_fr KPK_I51 ((g67 1 17).resolve_left (fun h => h.elim (fun h => absurd h.2 (by decide)) (fun h => h.elim (fun h => absurd h.2 (by decide)) (fun h => h.elim (fun h => absurd h.2 (by decide)) (fun h => h.elim (fun h => absurd h.2 (by decide)) (fun h => h.elim (fun h => absurd h.2 (by decide)) (fun h => absurd h.2 (by decide)))))))) (fun k => (g67 20 k).resolve_left (fun h => h.elim (fun h => absurd h.1 (by decide)) (fun h => h.elim (fun h => absurd h.1 (by decide)) (fun h => h.elim (fun h => absurd h.1 (by decide)) (fun h => h.elim (fun h => absurd h.1 (by decide)) (fun h => h.elim (fun h => absurd h.1 (by decide)) (fun h => absurd h.1 (by decide))))))))
    refine gv_callV hD rfl (As := [.inl 0]) (st := []) rfl B_39 S_39 rfl (gc_lV6 hws rfl) (Nat.le_of_ble_eq_true rfl) (gz_Ev_mono (d := 4) (by decide) E67) ?_
    show gv_X _ _ (204, [(0, .inr (.inr (some 39)))], [.inl z67], sh, gc_h sh I68 J69 A)
    refine gv_if_ne (t := 209) hD rfl rfl ⟨by exact gz_m 29 (by omega), by exact gz_m 30 (by omega)⟩ (fun c82 => ?_) (fun c82 => ?_)
    · show gv_X _ _ (209, [(0, .inr (.inr (some 39)))], [], sh, gc_h sh I68 J69 A)
      have V83 := q67.2.2.2.2.2
      rw [show I51 39 5 = I 39 5 from by exact gz_m 31 (by omega)] at V83
      rw [show (if (0 : Int) = 0 then (1 : Int) else 0) = 1 from if_pos rfl] at V83
      obtain ⟨u83, A83⟩ := gs_or1 V83 (by exact gz_m 32 (by omega))
      have t84 := gc_AT_l A83
      refine gv_run 1 true hD (pc' := 210) (lv' := [(0, .inr (.inr (some 39)))]) (st' := [.inr (.inr (some 39))]) (h' := gc_h sh I68 J69 A) (C := (True ∧ True)) rfl ⟨trivial, trivial⟩ ?_
      refine gv_get hD rfl rfl S_39 ⟨by decide, B_39⟩ (gc_hA S_39 rfl A_39_10) ?_
      show gv_X _ _ (213, [(0, .inr (.inr (some 39)))], [.inr (.inr (some 41))], sh, gc_h sh I68 J69 A)
      refine gv_run 2 true hD (pc' := 215) (lv' := [(0, .inr (.inr (some 39)))]) (st' := [.inr (.inr (some 39)), .inl 0, .inr (.inr (some 41))]) (h' := gc_h sh I68 J69 A) (C := ((True ∧ True) ∧ True)) rfl ⟨⟨trivial, trivial⟩, trivial⟩ ?_
      refine gv_get hD rfl rfl S_39 ⟨by decide, B_39⟩ (gc_h5 (t := t) S_39 rfl (by exact gz_m 33 (by omega))) ?_
      show gv_X _ _ (218, [(0, .inr (.inr (some 39)))], [.inr (.inr (some t)), .inl 0, .inr (.inr (some 41))], sh, gc_h sh I68 J69 A)
      refine gv_get hD rfl rfl S_t ⟨by decide, B_t⟩ (gc_hA S_t rfl A_t_7) ?_
      show gv_X _ _ (221, [(0, .inr (.inr (some 39)))], [.inr (.inr (some (t + 10))), .inl 0, .inr (.inr (some 41))], sh, gc_h sh I68 J69 A)
      refine gv_run 1 true hD (pc' := 222) (lv' := [(0, .inr (.inr (some 39)))]) (st' := [.inr (.inr (some 39)), .inr (.inr (some (t + 10))), .inl 0, .inr (.inr (some 41))]) (h' := gc_h sh I68 J69 A) (C := (True ∧ True)) rfl ⟨trivial, trivial⟩ ?_
      refine gv_get hD rfl rfl S_39 ⟨by decide, B_39⟩ (gc_h5 (t := t) S_39 rfl (by exact gz_m 34 (by omega))) ?_
      show gv_X _ _ (225, [(0, .inr (.inr (some 39)))], [.inr (.inr (some t)), .inr (.inr (some (t + 10))), .inl 0, .inr (.inr (some 41))], sh, gc_h sh I68 J69 A)
      have f85 := (show 0 ≤ I68 t 6 ∧ I68 t 6 ≤ 24 from gc_in hI68 R_t rfl rfl)
      refine gv_get hD rfl rfl S_t ⟨by decide, B_t⟩ (gc_hI S_t rfl) ?_
      show gv_X _ _ (228, [(0, .inr (.inr (some 39)))], [.inl (I68 t 6), .inr (.inr (some (t + 10))), .inl 0, .inr (.inr (some 41))], sh, gc_h sh I68 J69 A)
      refine gv_run 3 true hD (pc' := 233) (lv' := [(0, .inr (.inr (some 39)))]) (st' := [.inl 25, .inl ((I68 t 6) * 25), .inr (.inr (some (t + 10))), .inl 0, .inr (.inr (some 41))]) (h' := gc_h sh I68 J69 A) (C := (((True ∧ True) ∧ True) ∧ True)) rfl ⟨⟨⟨trivial, trivial⟩, trivial⟩, trivial⟩ ?_
      refine gv_copy hD rfl (gc_lC6_263 hws) (Nat.le_of_ble_eq_true rfl) ⟨B_41, B_t_10⟩ S_41 S_t_10 (by decide) ⟨by decide, by decide⟩ ⟨by exact gz_m 35 (by omega), by exact gz_m 36 (by omega), by exact gz_m 37 (by omega)⟩ (by exact gz_m 38 (by omega)) (by exact gz_m 39 (by omega)) (fun h => absurd h (by decide)) ?_
      refine gc_cp hI68 S_41 S_t_10 (by decide) (fun j hj => gc_RS_cp KRS_I68 R_t_10 (by exact gz_m 40 (by omega)) (by decide) hj) (fun I87 hI87 p86 q86 => ?_)
      have FI87 := gc_frp (W := fun q j => (q = 39 ∧ j = 3) ∨ (q = 39 ∧ j = 4) ∨ (q = 23 ∧ j = 5) ∨ (q = 23 ∧ j = 6) ∨ (q = 23 ∧ j = 7) ∨ (q = 23 ∧ j = 8) ∨ (q = 1 ∧ j = 17) ∨ (q = 1 ∧ j = 18) ∨ q = 20 ∨ q = 41 ∨ q = (t + 10) ∨ (q = t ∧ j = 6)) (V := fun q j => q = (t + 10) ∧ Int.toNat (((I68 t 6) * 25)) ≤ j ∧ j < Int.toNat (((I68 t 6) * 25)) + Int.toNat 25) FI68 (fun q j h => (Or.inr (Or.inr (Or.inr (Or.inr (Or.inr (Or.inr (Or.inr (Or.inr (Or.inr (Or.inr (Or.inl h.1)))))))))))) p86
      have KLT_I87 := gc_LT_fr KLT_I68 (p86 23 5 (fun h => absurd h.1 N_23__t_10)) (p86 23 6 (fun h => absurd h.1 N_23__t_10)) (p86 23 7 (fun h => absurd h.1 N_23__t_10)) (fun k => p86 24 k (fun h => absurd h.1 N_24__t_10))
      have KTK_I87 := gc_TK_fr KTK_I68 (p86 23 1 (fun h => absurd h.1 N_23__t_10)) (p86 23 5 (fun h => absurd h.1 N_23__t_10)) (p86 23 6 (fun h => absurd h.1 N_23__t_10)) (p86 23 7 (fun h => absurd h.1 N_23__t_10))
      have KRS_I87 := gc_row_fr KRS_I68 (fun k => p86 41 k (fun h => absurd h.1 N_41__t_10))
      have KRC_I87 := gc_RC_fr KRC_I68 (fun k => p86 41 k (fun h => absurd h.1 N_41__t_10))
      have KPK_I87 := gc_PKs_fr KPK_I68 (p86 1 17 (fun h => absurd h.1 N_1__t_10)) (fun k => p86 20 k (fun h => absurd h.1 N_20__t_10))
      have KSC_I87 : gc_sc (t + 10) I87 := gc_sc_cp KSC_I68 KRC_I68 p86 q86 (by exact gz_m 41 (by omega)) (by decide) (by decide)
      have t89 := p86 23 1 (fun h => absurd h.1 N_23__t_10)
      have t90 := p86 23 5 (fun h => absurd h.1 N_23__t_10)
      have t91 := p86 23 6 (fun h => absurd h.1 N_23__t_10)
      have t92 := p86 23 7 (fun h => absurd h.1 N_23__t_10)
      have t93 := p86 1 17 (fun h => absurd h.1 N_1__t_10)
      have t94 := p86 t 6 (fun h => absurd h.1 N_t__t_10)
      have t95 := p86 1 18 (fun h => absurd h.1 N_1__t_10)
      have t96 := p86 39 5 (fun h => absurd h.1 N_39__t_10)
      have t97 := p86 39 2 (fun h => absurd h.1 N_39__t_10)
      have t98 := p86 41 5 (fun h => absurd h.1 N_41__t_10)
      have t99 := p86 41 6 (fun h => absurd h.1 N_41__t_10)
      have t100 := gc_TK_mo KTK_I87
      have f101 := (show 0 ≤ I87 23 1 ∧ I87 23 1 ≤ 1000 from gc_in hI87 R_23 rfl rfl)
      have f102 := (show 0 ≤ I87 23 5 ∧ I87 23 5 ≤ 1000 from gc_in hI87 R_23 rfl rfl)
      have f103 := (show 0 ≤ I87 23 6 ∧ I87 23 6 ≤ 1001 from gc_in hI87 R_23 rfl rfl)
      have f104 := (show 0 ≤ I87 23 7 ∧ I87 23 7 ≤ 125 from gc_in hI87 R_23 rfl rfl)
      have f105 := (show 0 ≤ I87 1 17 ∧ I87 1 17 ≤ 12000 from gc_in hI87 R_1 rfl rfl)
      have f106 := (show 0 ≤ I87 t 6 ∧ I87 t 6 ≤ 24 from gc_in hI87 R_t rfl rfl)
      have f107 := (show 0 ≤ I87 1 18 ∧ I87 1 18 ≤ 1 from gc_in hI87 R_1 rfl rfl)
      have f108 := (show 0 ≤ I87 39 5 ∧ I87 39 5 ≤ 1000 from gc_in hI87 R_39 rfl rfl)
      have f109 := (show (-1) ≤ I87 39 2 ∧ I87 39 2 ≤ 999999 from gc_in hI87 R_39 rfl rfl)
      have A110 := gc_AT_I A83 (p86 23 1 (fun h => absurd h.1 N_23__t_10)) (p86 23 5 (fun h => absurd h.1 N_23__t_10)) (p86 23 6 (fun h => absurd h.1 N_23__t_10)) (p86 23 7 (fun h => absurd h.1 N_23__t_10)) (p86 23 8 (fun h => absurd h.1 N_23__t_10)) (fun k => p86 24 k (fun h => absurd h.1 N_24__t_10))
      show gv_X _ _ (236, [(0, .inr (.inr (some 39)))], [], sh, gc_h sh I87 J69 A)
      refine gv_run 1 true hD (pc' := 237) (lv' := [(0, .inr (.inr (some 39)))]) (st' := [.inr (.inr (some 39))]) (h' := gc_h sh I87 J69 A) (C := (True ∧ True)) rfl ⟨trivial, trivial⟩ ?_
      refine gv_get hD rfl rfl S_39 ⟨by decide, B_39⟩ (gc_h5 (t := t) S_39 rfl (by exact gz_m 42 (by omega))) ?_
      show gv_X _ _ (240, [(0, .inr (.inr (some 39)))], [.inr (.inr (some t))], sh, gc_h sh I87 J69 A)
      refine gv_run 1 true hD (pc' := 241) (lv' := [(0, .inr (.inr (some 39)))]) (st' := [.inr (.inr (some t)), .inr (.inr (some t))]) (h' := gc_h sh I87 J69 A) (C := (True ∧ True)) rfl ⟨trivial, trivial⟩ ?_
      have f111 := (show 0 ≤ I87 t 6 ∧ I87 t 6 ≤ 24 from gc_in hI87 R_t rfl rfl)
      refine gv_get hD rfl rfl S_t ⟨by decide, B_t⟩ (gc_hI S_t rfl) ?_
      show gv_X _ _ (244, [(0, .inr (.inr (some 39)))], [.inl (I87 t 6), .inr (.inr (some t))], sh, gc_h sh I87 J69 A)
      refine gv_run 2 true hD (pc' := 246) (lv' := [(0, .inr (.inr (some 39)))]) (st' := [.inl ((I87 t 6) + 1), .inr (.inr (some t))]) (h' := gc_h sh I87 J69 A) (C := ((True ∧ True) ∧ True)) rfl ⟨⟨trivial, trivial⟩, trivial⟩ ?_
      refine gv_put hD rfl rfl S_t ⟨by decide, B_t⟩ rfl trivial ?_
      refine gc_st (k := 6) hI87 S_t rfl R_t (lo := 0) (hi := 24) rfl rfl (by exact gz_m 43 (by omega)) (by exact gz_m 44 (by omega)) (fun I112 hI112 q113 p113 => ?_)
      have FI112 := gc_frs (W := fun q j => (q = 39 ∧ j = 3) ∨ (q = 39 ∧ j = 4) ∨ (q = 23 ∧ j = 5) ∨ (q = 23 ∧ j = 6) ∨ (q = 23 ∧ j = 7) ∨ (q = 23 ∧ j = 8) ∨ (q = 1 ∧ j = 17) ∨ (q = 1 ∧ j = 18) ∨ q = 20 ∨ q = 41 ∨ q = (t + 10) ∨ (q = t ∧ j = 6)) FI87 (Or.inr (Or.inr (Or.inr (Or.inr (Or.inr (Or.inr (Or.inr (Or.inr (Or.inr (Or.inr (Or.inr ⟨rfl, rfl⟩))))))))))) p113
      have t114 := p113 23 1 (fun h => absurd h.2 (by decide))
      have t115 := p113 23 5 (fun h => absurd h.2 (by decide))
      have t116 := p113 23 6 (fun h => absurd h.1 N_23__t)
      have t117 := p113 23 7 (fun h => absurd h.2 (by decide))
      have t118 := p113 1 17 (fun h => absurd h.2 (by decide))
      have t119 := p113 1 18 (fun h => absurd h.2 (by decide))
      have t120 := p113 39 5 (fun h => absurd h.2 (by decide))
      have t121 := p113 39 2 (fun h => absurd h.2 (by decide))
      have t122 := p113 41 5 (fun h => absurd h.2 (by decide))
      have t123 := p113 41 6 (fun h => absurd h.1 N_41__t)
      have f124 := (show 0 ≤ I112 t 6 ∧ I112 t 6 ≤ 24 from gc_in hI112 R_t rfl rfl)
      have KLT_I112 := gc_LT_fr KLT_I87 (p113 23 5 (fun h => absurd h.2 (by decide))) (p113 23 6 (fun h => absurd h.1 N_23__t)) (p113 23 7 (fun h => absurd h.2 (by decide))) (fun k => p113 24 k (fun h => absurd h.1 N_24__t))
      have KTK_I112 := gc_TK_fr KTK_I87 (p113 23 1 (fun h => absurd h.2 (by decide))) (p113 23 5 (fun h => absurd h.2 (by decide))) (p113 23 6 (fun h => absurd h.1 N_23__t)) (p113 23 7 (fun h => absurd h.2 (by decide)))
      have KSC_I112 := gc_sc_fr KSC_I87 (fun k => p113 (t + 10) k (fun h => absurd h.1 N_t_10__t))
      have KRS_I112 := gc_row_fr KRS_I87 (fun k => p113 41 k (fun h => absurd h.1 N_41__t))
      have KRC_I112 := gc_RC_fr KRC_I87 (fun k => p113 41 k (fun h => absurd h.1 N_41__t))
      have KPK_I112 := gc_PKs_fr KPK_I87 (p113 1 17 (fun h => absurd h.2 (by decide))) (fun k => p113 20 k (fun h => absurd h.1 N_20__t))
      have A125 := gc_AT_I A110 (p113 23 1 (fun h => absurd h.2 (by decide))) (p113 23 5 (fun h => absurd h.2 (by decide))) (p113 23 6 (fun h => absurd h.1 N_23__t)) (p113 23 7 (fun h => absurd h.2 (by decide))) (p113 23 8 (fun h => absurd h.2 (by decide))) (fun k => p113 24 k (fun h => absurd h.1 N_24__t))
      show gv_X _ _ (249, [(0, .inr (.inr (some 39)))], [], sh, gc_h sh I112 J69 A)
      refine gv_run 1 true hD (pc' := 250) (lv' := [(0, .inr (.inr (some 39)))]) (st' := [.inl 1]) (h' := gc_h sh I112 J69 A) (C := (True ∧ True)) rfl ⟨trivial, trivial⟩ ?_
      exact gv_zret hD rfl (by exact gz_m 45 (by omega)) ⟨I112, J69, rfl, hI112, FI112, FJ69, KLT_I112, KTK_I112, KSC_I112, ⟨_, rfl, by exact gz_m 46 (by omega), by exact gz_m 47 (by omega), by exact gz_m 48 (by omega), by exact gz_m 49 (by omega), by exact gz_m 50 (by omega), KPK_I112, (Or.inl ⟨by exact gz_m 51 (by omega), by have e9 : (gs_snd β η Ir Jr (I 39 5) p9) = (gs_done β η 1 (I 39 5) p_53) := (by first | (exfalso; exact gz_m 52 (by omega)) | (rw [e2_53]; unfold gs_snd6; (repeat first | rw [if_pos (by exact gz_m 53 (by omega))] | rw [if_neg (by exact gz_m 54 (by omega))]))); rw [e9]; exact ⟨by exact gz_m 55 (by omega), A125, by exact gz_m 56 (by omega), by exact gz_m 57 (by omega), (gs_Csn_mk (gs_c7_kp (gs_c7_kp e3_53 (gc_PKs_fr gc_PKs_rf ((g67 1 17).resolve_left (by exact gz_m 58 (by omega))) (fun k => ((g67 20 k).resolve_left (by exact gz_m 59 (by omega))))) (fun j hj => ((g67 41 j).resolve_left (by exact gz_m 60 (by omega))))) (gc_PKs_fr (gc_PKs_fr gc_PKs_rf (p86 1 17 (fun h => absurd h.1 (by exact gz_m 61 (by omega)))) (fun k => (p86 20 k (fun h => absurd h.1 (by exact gz_m 62 (by omega)))))) (p113 1 17 (by exact gz_m 63 (by omega))) (fun k => (p113 20 k (by exact gz_m 64 (by omega))))) (fun j hj => ((p113 (t + 10) (Int.toNat (25 * I t 6) + j) (by exact gz_m 65 (by omega)))).trans ((congrArg (I87 (t + 10)) (show Int.toNat (25 * I t 6) + j = Int.toNat (I68 t 6 * 25) + j by exact gz_m 66 (by omega))).trans ((q86 j (by exact gz_m 67 (by omega))).trans (congrArg (I68 41) (show Int.toNat 0 + j = j by exact gz_m 68 (by omega))))))) (fun k => ((((p113 (t + 9) k (by exact gz_m 69 (by omega))).trans (p86 (t + 9) k (fun h => absurd h.1 (by exact gz_m 70 (by omega))))).trans ((g67 (t + 9) k).resolve_left (by exact gz_m 71 (by omega)))).trans ((FI51 (t + 9) k).resolve_left (by exact gz_m 72 (by omega))))) ((((p113 (t + 7) 1 (by exact gz_m 73 (by omega))).trans (p86 (t + 7) 1 (fun h => absurd h.1 (by exact gz_m 74 (by omega))))).trans ((g67 (t + 7) 1).resolve_left (by exact gz_m 75 (by omega)))).trans ((FI51 (t + 7) 1).resolve_left (by exact gz_m 76 (by omega)))) (fun j hj => ((p113 (t + 10) j (by exact gz_m 77 (by omega)))).trans ((p86 (t + 10) j (fun h => hj (by have h9 := h.2; exact gz_m 78 (by omega)))).trans (((g67 (t + 10) j).resolve_left (by exact gz_m 79 (by omega))).trans (e4_53.2 j)))))⟩⟩)⟩⟩
    · show gv_X _ _ (207, [(0, .inr (.inr (some 39)))], [], sh, gc_h sh I68 J69 A)
      have V126 := q67.2.2.2.2.2
      rw [show I51 39 5 = I 39 5 from by exact gz_m 80 (by omega)] at V126
      rw [show (if (0 : Int) = 0 then (1 : Int) else 0) = 1 from if_pos rfl] at V126
      obtain ⟨u126, u126_⟩ := gs_or0 V126 (by exact gz_m 81 (by omega))
      refine gv_run 1 true hD (pc' := 208) (lv' := [(0, .inr (.inr (some 39)))]) (st' := [.inl 0]) (h' := gc_h sh I68 J69 A) (C := (True ∧ True)) rfl ⟨trivial, trivial⟩ ?_
      exact gv_zret hD rfl (by exact gz_m 82 (by omega)) ⟨I68, J69, rfl, hI68, FI68, FJ69, KLT_I68, KTK_I68, KSC_I68, ⟨_, rfl, by exact gz_m 83 (by omega), by exact gz_m 84 (by omega), by exact gz_m 85 (by omega), by exact gz_m 86 (by omega), by exact gz_m 87 (by omega), KPK_I68, (Or.inr ⟨by exact gz_m 88 (by omega), by first | (exfalso; exact gz_m 89 (by omega)) | (rw [e2_53]; unfold gs_snd6; (repeat first | rw [if_pos (by exact gz_m 90 (by omega))] | rw [if_neg (by exact gz_m 91 (by omega))]); exact ⟨by exact gz_m 92 (by omega), by exact gz_m 93 (by omega), by exact gz_m 94 (by omega), fun j => (((g67 (t + 10) j).resolve_left (by exact gz_m 95 (by omega))).trans (e4_53.2 j))⟩)⟩)⟩⟩
  · show gv_X _ _ (196, [(0, .inr (.inr (some 39)))], [.inr (.inr (some 39))], sh, gc_h sh I51 J52 A)
    refine gv_run 2 true hD (pc' := 201) (lv' := [(0, .inr (.inr (some 39)))]) (st' := [.inl 1, .inr (.inr (some 39))]) (h' := gc_h sh I51 J52 A) (C := ((True ∧ True) ∧ True)) rfl ⟨⟨trivial, trivial⟩, trivial⟩ ?_
    obtain ⟨r127, h127, E127, P127⟩ := d_X6_closes_p (ws0 := ws0) (tb := tb) hws htb sh ro I51 J52 A hI51  β η p_53 1 hb   ⟨by exact gz_m 96 (by omega), by exact gz_m 97 (by omega)⟩ e1_53 (by exact gz_m 98 (by omega)) (by exact gz_m 99 (by omega)) KLT_I51 KTK_I51
    obtain ⟨I128, J129, rfl, hI128, g127, k127, KLT_I128, KTK_I128, ⟨z127, rfl, q127⟩⟩ := P127
    have FI128 := gc_frc (W := fun q j => (q = 39 ∧ j = 3) ∨ (q = 39 ∧ j = 4) ∨ (q = 23 ∧ j = 5) ∨ (q = 23 ∧ j = 6) ∨ (q = 23 ∧ j = 7) ∨ (q = 23 ∧ j = 8) ∨ (q = 1 ∧ j = 17) ∨ (q = 1 ∧ j = 18) ∨ q = 20 ∨ q = 41 ∨ q = (t + 10) ∨ (q = t ∧ j = 6)) (V := fun q j => (q = 39 ∧ j = 3) ∨ (q = 39 ∧ j = 4) ∨ (q = 23 ∧ j = 5) ∨ (q = 23 ∧ j = 6) ∨ (q = 23 ∧ j = 7) ∨ (q = 23 ∧ j = 8)) FI51 (fun q j h => (h.elim (fun h => (Or.inl h)) (fun h => (h.elim (fun h => (Or.inr (Or.inl h))) (fun h => (h.elim (fun h => (Or.inr (Or.inr (Or.inl h)))) (fun h => (h.elim (fun h => (Or.inr (Or.inr (Or.inr (Or.inl h))))) (fun h => (h.elim (fun h => (Or.inr (Or.inr (Or.inr (Or.inr (Or.inl h)))))) (fun h => (Or.inr (Or.inr (Or.inr (Or.inr (Or.inr (Or.inl h))))))))))))))))) g127
    have FJ129 := gc_frc (W := fun q j => (q = 23 ∧ j = 9)) (V := fun q j => (q = 23 ∧ j = 9)) FJ52 (fun q j h => h) k127
    have t130 := (g127 23 1).resolve_left (fun h => h.elim (fun h => absurd h.2 (by decide)) (fun h => h.elim (fun h => absurd h.2 (by decide)) (fun h => h.elim (fun h => absurd h.2 (by decide)) (fun h => h.elim (fun h => absurd h.2 (by decide)) (fun h => h.elim (fun h => absurd h.2 (by decide)) (fun h => absurd h.2 (by decide)))))))
    have t131 := (g127 1 17).resolve_left (fun h => h.elim (fun h => absurd h.2 (by decide)) (fun h => h.elim (fun h => absurd h.2 (by decide)) (fun h => h.elim (fun h => absurd h.2 (by decide)) (fun h => h.elim (fun h => absurd h.2 (by decide)) (fun h => h.elim (fun h => absurd h.2 (by decide)) (fun h => absurd h.2 (by decide)))))))
    have t132 := (g127 t 6).resolve_left (fun h => h.elim (fun h => absurd h.2 (by decide)) (fun h => h.elim (fun h => absurd h.2 (by decide)) (fun h => h.elim (fun h => absurd h.2 (by decide)) (fun h => h.elim (fun h => absurd h.1 N_t__23) (fun h => h.elim (fun h => absurd h.2 (by decide)) (fun h => absurd h.2 (by decide)))))))
    have t133 := (g127 1 18).resolve_left (fun h => h.elim (fun h => absurd h.2 (by decide)) (fun h => h.elim (fun h => absurd h.2 (by decide)) (fun h => h.elim (fun h => absurd h.2 (by decide)) (fun h => h.elim (fun h => absurd h.2 (by decide)) (fun h => h.elim (fun h => absurd h.2 (by decide)) (fun h => absurd h.2 (by decide)))))))
    have t134 := (g127 39 5).resolve_left (fun h => h.elim (fun h => absurd h.2 (by decide)) (fun h => h.elim (fun h => absurd h.2 (by decide)) (fun h => h.elim (fun h => absurd h.1 (by decide)) (fun h => h.elim (fun h => absurd h.2 (by decide)) (fun h => h.elim (fun h => absurd h.2 (by decide)) (fun h => absurd h.2 (by decide)))))))
    have t135 := (g127 39 2).resolve_left (fun h => h.elim (fun h => absurd h.2 (by decide)) (fun h => h.elim (fun h => absurd h.2 (by decide)) (fun h => h.elim (fun h => absurd h.2 (by decide)) (fun h => h.elim (fun h => absurd h.2 (by decide)) (fun h => h.elim (fun h => absurd h.2 (by decide)) (fun h => absurd h.2 (by decide)))))))
    have t136 := (g127 41 5).resolve_left (fun h => h.elim (fun h => absurd h.2 (by decide)) (fun h => h.elim (fun h => absurd h.2 (by decide)) (fun h => h.elim (fun h => absurd h.1 (by decide)) (fun h => h.elim (fun h => absurd h.2 (by decide)) (fun h => h.elim (fun h => absurd h.2 (by decide)) (fun h => absurd h.2 (by decide)))))))
    have t137 := (g127 41 6).resolve_left (fun h => h.elim (fun h => absurd h.2 (by decide)) (fun h => h.elim (fun h => absurd h.2 (by decide)) (fun h => h.elim (fun h => absurd h.2 (by decide)) (fun h => h.elim (fun h => absurd h.1 (by decide)) (fun h => h.elim (fun h => absurd h.2 (by decide)) (fun h => absurd h.2 (by decide)))))))
    have f138 := (show 0 ≤ I128 23 5 ∧ I128 23 5 ≤ 1000 from gc_in hI128 R_23 rfl rfl)
    have f139 := (show 0 ≤ I128 23 6 ∧ I128 23 6 ≤ 1001 from gc_in hI128 R_23 rfl rfl)
    have f140 := (show 0 ≤ I128 23 7 ∧ I128 23 7 ≤ 125 from gc_in hI128 R_23 rfl rfl)
    have t141 := gc_TK_mo KTK_I128
    have KSC_I128 := gc_sc_fr KSC_I51 (fun k => (g127 (t + 10) k).resolve_left (fun h => h.elim (fun h => absurd h.1 N_t_10__39) (fun h => h.elim (fun h => absurd h.1 N_t_10__39) (fun h => h.elim (fun h => absurd h.1 N_t_10__23) (fun h => h.elim (fun h => absurd h.1 N_t_10__23) (fun h => h.elim (fun h => absurd h.1 N_t_10__23) (fun h => absurd h.1 N_t_10__23)))))))
    have KRS_I128 := gc_row_fr KRS_I51 (fun k => (g127 41 k).resolve_left (fun h => h.elim (fun h => absurd h.1 (by decide)) (fun h => h.elim (fun h => absurd h.1 (by decide)) (fun h => h.elim (fun h => absurd h.1 (by decide)) (fun h => h.elim (fun h => absurd h.1 (by decide)) (fun h => h.elim (fun h => absurd h.1 (by decide)) (fun h => absurd h.1 (by decide))))))))
    have KRC_I128 := gc_RC_fr KRC_I51 (fun k => (g127 41 k).resolve_left (fun h => h.elim (fun h => absurd h.1 (by decide)) (fun h => h.elim (fun h => absurd h.1 (by decide)) (fun h => h.elim (fun h => absurd h.1 (by decide)) (fun h => h.elim (fun h => absurd h.1 (by decide)) (fun h => h.elim (fun h => absurd h.1 (by decide)) (fun h => absurd h.1 (by decide))))))))
    have KPK_I128 := gc_PKs_fr KPK_I51 ((g127 1 17).resolve_left (fun h => h.elim (fun h => absurd h.2 (by decide)) (fun h => h.elim (fun h => absurd h.2 (by decide)) (fun h => h.elim (fun h => absurd h.2 (by decide)) (fun h => h.elim (fun h => absurd h.2 (by decide)) (fun h => h.elim (fun h => absurd h.2 (by decide)) (fun h => absurd h.2 (by decide)))))))) (fun k => (g127 20 k).resolve_left (fun h => h.elim (fun h => absurd h.1 (by decide)) (fun h => h.elim (fun h => absurd h.1 (by decide)) (fun h => h.elim (fun h => absurd h.1 (by decide)) (fun h => h.elim (fun h => absurd h.1 (by decide)) (fun h => h.elim (fun h => absurd h.1 (by decide)) (fun h => absurd h.1 (by decide))))))))
    refine gv_callV hD rfl (As := [.inl 1]) (st := []) rfl B_39 S_39 rfl (gc_lV6 hws rfl) (Nat.le_of_ble_eq_true rfl) (gz_Ev_mono (d := 4) (by decide) E127) ?_
    show gv_X _ _ (204, [(0, .inr (.inr (some 39)))], [.inl z127], sh, gc_h sh I128 J129 A)
    refine gv_if_ne (t := 209) hD rfl rfl ⟨by exact gz_m 100 (by omega), by exact gz_m 101 (by omega)⟩ (fun c142 => ?_) (fun c142 => ?_)
    · show gv_X _ _ (209, [(0, .inr (.inr (some 39)))], [], sh, gc_h sh I128 J129 A)
      have V143 := q127.2.2.2.2.2
      rw [show I51 39 5 = I 39 5 from by exact gz_m 102 (by omega)] at V143
      rw [show (if (1 : Int) = 0 then (1 : Int) else 0) = 0 from if_neg (by decide)] at V143
      obtain ⟨u143, A143⟩ := gs_or1 V143 (by exact gz_m 103 (by omega))
      have t144 := gc_AT_l A143
      refine gv_run 1 true hD (pc' := 210) (lv' := [(0, .inr (.inr (some 39)))]) (st' := [.inr (.inr (some 39))]) (h' := gc_h sh I128 J129 A) (C := (True ∧ True)) rfl ⟨trivial, trivial⟩ ?_
      refine gv_get hD rfl rfl S_39 ⟨by decide, B_39⟩ (gc_hA S_39 rfl A_39_10) ?_
      show gv_X _ _ (213, [(0, .inr (.inr (some 39)))], [.inr (.inr (some 41))], sh, gc_h sh I128 J129 A)
      refine gv_run 2 true hD (pc' := 215) (lv' := [(0, .inr (.inr (some 39)))]) (st' := [.inr (.inr (some 39)), .inl 0, .inr (.inr (some 41))]) (h' := gc_h sh I128 J129 A) (C := ((True ∧ True) ∧ True)) rfl ⟨⟨trivial, trivial⟩, trivial⟩ ?_
      refine gv_get hD rfl rfl S_39 ⟨by decide, B_39⟩ (gc_h5 (t := t) S_39 rfl (by exact gz_m 104 (by omega))) ?_
      show gv_X _ _ (218, [(0, .inr (.inr (some 39)))], [.inr (.inr (some t)), .inl 0, .inr (.inr (some 41))], sh, gc_h sh I128 J129 A)
      refine gv_get hD rfl rfl S_t ⟨by decide, B_t⟩ (gc_hA S_t rfl A_t_7) ?_
      show gv_X _ _ (221, [(0, .inr (.inr (some 39)))], [.inr (.inr (some (t + 10))), .inl 0, .inr (.inr (some 41))], sh, gc_h sh I128 J129 A)
      refine gv_run 1 true hD (pc' := 222) (lv' := [(0, .inr (.inr (some 39)))]) (st' := [.inr (.inr (some 39)), .inr (.inr (some (t + 10))), .inl 0, .inr (.inr (some 41))]) (h' := gc_h sh I128 J129 A) (C := (True ∧ True)) rfl ⟨trivial, trivial⟩ ?_
      refine gv_get hD rfl rfl S_39 ⟨by decide, B_39⟩ (gc_h5 (t := t) S_39 rfl (by exact gz_m 105 (by omega))) ?_
      show gv_X _ _ (225, [(0, .inr (.inr (some 39)))], [.inr (.inr (some t)), .inr (.inr (some (t + 10))), .inl 0, .inr (.inr (some 41))], sh, gc_h sh I128 J129 A)
      have f145 := (show 0 ≤ I128 t 6 ∧ I128 t 6 ≤ 24 from gc_in hI128 R_t rfl rfl)
      refine gv_get hD rfl rfl S_t ⟨by decide, B_t⟩ (gc_hI S_t rfl) ?_
      show gv_X _ _ (228, [(0, .inr (.inr (some 39)))], [.inl (I128 t 6), .inr (.inr (some (t + 10))), .inl 0, .inr (.inr (some 41))], sh, gc_h sh I128 J129 A)
      refine gv_run 3 true hD (pc' := 233) (lv' := [(0, .inr (.inr (some 39)))]) (st' := [.inl 25, .inl ((I128 t 6) * 25), .inr (.inr (some (t + 10))), .inl 0, .inr (.inr (some 41))]) (h' := gc_h sh I128 J129 A) (C := (((True ∧ True) ∧ True) ∧ True)) rfl ⟨⟨⟨trivial, trivial⟩, trivial⟩, trivial⟩ ?_
      refine gv_copy hD rfl (gc_lC6_263 hws) (Nat.le_of_ble_eq_true rfl) ⟨B_41, B_t_10⟩ S_41 S_t_10 (by decide) ⟨by decide, by decide⟩ ⟨by exact gz_m 106 (by omega), by exact gz_m 107 (by omega), by exact gz_m 108 (by omega)⟩ (by exact gz_m 109 (by omega)) (by exact gz_m 110 (by omega)) (fun h => absurd h (by decide)) ?_
      refine gc_cp hI128 S_41 S_t_10 (by decide) (fun j hj => gc_RS_cp KRS_I128 R_t_10 (by exact gz_m 111 (by omega)) (by decide) hj) (fun I147 hI147 p146 q146 => ?_)
      have FI147 := gc_frp (W := fun q j => (q = 39 ∧ j = 3) ∨ (q = 39 ∧ j = 4) ∨ (q = 23 ∧ j = 5) ∨ (q = 23 ∧ j = 6) ∨ (q = 23 ∧ j = 7) ∨ (q = 23 ∧ j = 8) ∨ (q = 1 ∧ j = 17) ∨ (q = 1 ∧ j = 18) ∨ q = 20 ∨ q = 41 ∨ q = (t + 10) ∨ (q = t ∧ j = 6)) (V := fun q j => q = (t + 10) ∧ Int.toNat (((I128 t 6) * 25)) ≤ j ∧ j < Int.toNat (((I128 t 6) * 25)) + Int.toNat 25) FI128 (fun q j h => (Or.inr (Or.inr (Or.inr (Or.inr (Or.inr (Or.inr (Or.inr (Or.inr (Or.inr (Or.inr (Or.inl h.1)))))))))))) p146
      have KLT_I147 := gc_LT_fr KLT_I128 (p146 23 5 (fun h => absurd h.1 N_23__t_10)) (p146 23 6 (fun h => absurd h.1 N_23__t_10)) (p146 23 7 (fun h => absurd h.1 N_23__t_10)) (fun k => p146 24 k (fun h => absurd h.1 N_24__t_10))
      have KTK_I147 := gc_TK_fr KTK_I128 (p146 23 1 (fun h => absurd h.1 N_23__t_10)) (p146 23 5 (fun h => absurd h.1 N_23__t_10)) (p146 23 6 (fun h => absurd h.1 N_23__t_10)) (p146 23 7 (fun h => absurd h.1 N_23__t_10))
      have KRS_I147 := gc_row_fr KRS_I128 (fun k => p146 41 k (fun h => absurd h.1 N_41__t_10))
      have KRC_I147 := gc_RC_fr KRC_I128 (fun k => p146 41 k (fun h => absurd h.1 N_41__t_10))
      have KPK_I147 := gc_PKs_fr KPK_I128 (p146 1 17 (fun h => absurd h.1 N_1__t_10)) (fun k => p146 20 k (fun h => absurd h.1 N_20__t_10))
      have KSC_I147 : gc_sc (t + 10) I147 := gc_sc_cp KSC_I128 KRC_I128 p146 q146 (by exact gz_m 112 (by omega)) (by decide) (by decide)
      have t149 := p146 23 1 (fun h => absurd h.1 N_23__t_10)
      have t150 := p146 23 5 (fun h => absurd h.1 N_23__t_10)
      have t151 := p146 23 6 (fun h => absurd h.1 N_23__t_10)
      have t152 := p146 23 7 (fun h => absurd h.1 N_23__t_10)
      have t153 := p146 1 17 (fun h => absurd h.1 N_1__t_10)
      have t154 := p146 t 6 (fun h => absurd h.1 N_t__t_10)
      have t155 := p146 1 18 (fun h => absurd h.1 N_1__t_10)
      have t156 := p146 39 5 (fun h => absurd h.1 N_39__t_10)
      have t157 := p146 39 2 (fun h => absurd h.1 N_39__t_10)
      have t158 := p146 41 5 (fun h => absurd h.1 N_41__t_10)
      have t159 := p146 41 6 (fun h => absurd h.1 N_41__t_10)
      have t160 := gc_TK_mo KTK_I147
      have f161 := (show 0 ≤ I147 23 1 ∧ I147 23 1 ≤ 1000 from gc_in hI147 R_23 rfl rfl)
      have f162 := (show 0 ≤ I147 23 5 ∧ I147 23 5 ≤ 1000 from gc_in hI147 R_23 rfl rfl)
      have f163 := (show 0 ≤ I147 23 6 ∧ I147 23 6 ≤ 1001 from gc_in hI147 R_23 rfl rfl)
      have f164 := (show 0 ≤ I147 23 7 ∧ I147 23 7 ≤ 125 from gc_in hI147 R_23 rfl rfl)
      have f165 := (show 0 ≤ I147 1 17 ∧ I147 1 17 ≤ 12000 from gc_in hI147 R_1 rfl rfl)
      have f166 := (show 0 ≤ I147 t 6 ∧ I147 t 6 ≤ 24 from gc_in hI147 R_t rfl rfl)
      have f167 := (show 0 ≤ I147 1 18 ∧ I147 1 18 ≤ 1 from gc_in hI147 R_1 rfl rfl)
      have f168 := (show 0 ≤ I147 39 5 ∧ I147 39 5 ≤ 1000 from gc_in hI147 R_39 rfl rfl)
      have f169 := (show (-1) ≤ I147 39 2 ∧ I147 39 2 ≤ 999999 from gc_in hI147 R_39 rfl rfl)
      have A170 := gc_AT_I A143 (p146 23 1 (fun h => absurd h.1 N_23__t_10)) (p146 23 5 (fun h => absurd h.1 N_23__t_10)) (p146 23 6 (fun h => absurd h.1 N_23__t_10)) (p146 23 7 (fun h => absurd h.1 N_23__t_10)) (p146 23 8 (fun h => absurd h.1 N_23__t_10)) (fun k => p146 24 k (fun h => absurd h.1 N_24__t_10))
      show gv_X _ _ (236, [(0, .inr (.inr (some 39)))], [], sh, gc_h sh I147 J129 A)
      refine gv_run 1 true hD (pc' := 237) (lv' := [(0, .inr (.inr (some 39)))]) (st' := [.inr (.inr (some 39))]) (h' := gc_h sh I147 J129 A) (C := (True ∧ True)) rfl ⟨trivial, trivial⟩ ?_
      refine gv_get hD rfl rfl S_39 ⟨by decide, B_39⟩ (gc_h5 (t := t) S_39 rfl (by exact gz_m 113 (by omega))) ?_
      show gv_X _ _ (240, [(0, .inr (.inr (some 39)))], [.inr (.inr (some t))], sh, gc_h sh I147 J129 A)
      refine gv_run 1 true hD (pc' := 241) (lv' := [(0, .inr (.inr (some 39)))]) (st' := [.inr (.inr (some t)), .inr (.inr (some t))]) (h' := gc_h sh I147 J129 A) (C := (True ∧ True)) rfl ⟨trivial, trivial⟩ ?_
      have f171 := (show 0 ≤ I147 t 6 ∧ I147 t 6 ≤ 24 from gc_in hI147 R_t rfl rfl)
      refine gv_get hD rfl rfl S_t ⟨by decide, B_t⟩ (gc_hI S_t rfl) ?_
      show gv_X _ _ (244, [(0, .inr (.inr (some 39)))], [.inl (I147 t 6), .inr (.inr (some t))], sh, gc_h sh I147 J129 A)
      refine gv_run 2 true hD (pc' := 246) (lv' := [(0, .inr (.inr (some 39)))]) (st' := [.inl ((I147 t 6) + 1), .inr (.inr (some t))]) (h' := gc_h sh I147 J129 A) (C := ((True ∧ True) ∧ True)) rfl ⟨⟨trivial, trivial⟩, trivial⟩ ?_
      refine gv_put hD rfl rfl S_t ⟨by decide, B_t⟩ rfl trivial ?_
      refine gc_st (k := 6) hI147 S_t rfl R_t (lo := 0) (hi := 24) rfl rfl (by exact gz_m 114 (by omega)) (by exact gz_m 115 (by omega)) (fun I172 hI172 q173 p173 => ?_)
      have FI172 := gc_frs (W := fun q j => (q = 39 ∧ j = 3) ∨ (q = 39 ∧ j = 4) ∨ (q = 23 ∧ j = 5) ∨ (q = 23 ∧ j = 6) ∨ (q = 23 ∧ j = 7) ∨ (q = 23 ∧ j = 8) ∨ (q = 1 ∧ j = 17) ∨ (q = 1 ∧ j = 18) ∨ q = 20 ∨ q = 41 ∨ q = (t + 10) ∨ (q = t ∧ j = 6)) FI147 (Or.inr (Or.inr (Or.inr (Or.inr (Or.inr (Or.inr (Or.inr (Or.inr (Or.inr (Or.inr (Or.inr ⟨rfl, rfl⟩))))))))))) p173
      have t174 := p173 23 1 (fun h => absurd h.2 (by decide))
      have t175 := p173 23 5 (fun h => absurd h.2 (by decide))
      have t176 := p173 23 6 (fun h => absurd h.1 N_23__t)
      have t177 := p173 23 7 (fun h => absurd h.2 (by decide))
      have t178 := p173 1 17 (fun h => absurd h.2 (by decide))
      have t179 := p173 1 18 (fun h => absurd h.2 (by decide))
      have t180 := p173 39 5 (fun h => absurd h.2 (by decide))
      have t181 := p173 39 2 (fun h => absurd h.2 (by decide))
      have t182 := p173 41 5 (fun h => absurd h.2 (by decide))
      have t183 := p173 41 6 (fun h => absurd h.1 N_41__t)
      have f184 := (show 0 ≤ I172 t 6 ∧ I172 t 6 ≤ 24 from gc_in hI172 R_t rfl rfl)
      have KLT_I172 := gc_LT_fr KLT_I147 (p173 23 5 (fun h => absurd h.2 (by decide))) (p173 23 6 (fun h => absurd h.1 N_23__t)) (p173 23 7 (fun h => absurd h.2 (by decide))) (fun k => p173 24 k (fun h => absurd h.1 N_24__t))
      have KTK_I172 := gc_TK_fr KTK_I147 (p173 23 1 (fun h => absurd h.2 (by decide))) (p173 23 5 (fun h => absurd h.2 (by decide))) (p173 23 6 (fun h => absurd h.1 N_23__t)) (p173 23 7 (fun h => absurd h.2 (by decide)))
      have KSC_I172 := gc_sc_fr KSC_I147 (fun k => p173 (t + 10) k (fun h => absurd h.1 N_t_10__t))
      have KRS_I172 := gc_row_fr KRS_I147 (fun k => p173 41 k (fun h => absurd h.1 N_41__t))
      have KRC_I172 := gc_RC_fr KRC_I147 (fun k => p173 41 k (fun h => absurd h.1 N_41__t))
      have KPK_I172 := gc_PKs_fr KPK_I147 (p173 1 17 (fun h => absurd h.2 (by decide))) (fun k => p173 20 k (fun h => absurd h.1 N_20__t))
      have A185 := gc_AT_I A170 (p173 23 1 (fun h => absurd h.2 (by decide))) (p173 23 5 (fun h => absurd h.2 (by decide))) (p173 23 6 (fun h => absurd h.1 N_23__t)) (p173 23 7 (fun h => absurd h.2 (by decide))) (p173 23 8 (fun h => absurd h.2 (by decide))) (fun k => p173 24 k (fun h => absurd h.1 N_24__t))
      show gv_X _ _ (249, [(0, .inr (.inr (some 39)))], [], sh, gc_h sh I172 J129 A)
      refine gv_run 1 true hD (pc' := 250) (lv' := [(0, .inr (.inr (some 39)))]) (st' := [.inl 1]) (h' := gc_h sh I172 J129 A) (C := (True ∧ True)) rfl ⟨trivial, trivial⟩ ?_
      exact gv_zret hD rfl (by exact gz_m 116 (by omega)) ⟨I172, J129, rfl, hI172, FI172, FJ129, KLT_I172, KTK_I172, KSC_I172, ⟨_, rfl, by exact gz_m 117 (by omega), by exact gz_m 118 (by omega), by exact gz_m 119 (by omega), by exact gz_m 120 (by omega), by exact gz_m 121 (by omega), KPK_I172, (Or.inl ⟨by exact gz_m 122 (by omega), by have e9 : (gs_snd β η Ir Jr (I 39 5) p9) = (gs_done β η 0 (I 39 5) p_53) := (by first | (exfalso; exact gz_m 123 (by omega)) | (rw [e2_53]; unfold gs_snd6; (repeat first | rw [if_pos (by exact gz_m 124 (by omega))] | rw [if_neg (by exact gz_m 125 (by omega))]))); rw [e9]; exact ⟨by exact gz_m 126 (by omega), A185, by exact gz_m 127 (by omega), by exact gz_m 128 (by omega), (gs_Csn_mk (gs_c7_kp (gs_c7_kp e3_53 (gc_PKs_fr gc_PKs_rf ((g127 1 17).resolve_left (by exact gz_m 129 (by omega))) (fun k => ((g127 20 k).resolve_left (by exact gz_m 130 (by omega))))) (fun j hj => ((g127 41 j).resolve_left (by exact gz_m 131 (by omega))))) (gc_PKs_fr (gc_PKs_fr gc_PKs_rf (p146 1 17 (fun h => absurd h.1 (by exact gz_m 132 (by omega)))) (fun k => (p146 20 k (fun h => absurd h.1 (by exact gz_m 133 (by omega)))))) (p173 1 17 (by exact gz_m 134 (by omega))) (fun k => (p173 20 k (by exact gz_m 135 (by omega))))) (fun j hj => ((p173 (t + 10) (Int.toNat (25 * I t 6) + j) (by exact gz_m 136 (by omega)))).trans ((congrArg (I147 (t + 10)) (show Int.toNat (25 * I t 6) + j = Int.toNat (I128 t 6 * 25) + j by exact gz_m 137 (by omega))).trans ((q146 j (by exact gz_m 138 (by omega))).trans (congrArg (I128 41) (show Int.toNat 0 + j = j by exact gz_m 139 (by omega))))))) (fun k => ((((p173 (t + 9) k (by exact gz_m 140 (by omega))).trans (p146 (t + 9) k (fun h => absurd h.1 (by exact gz_m 141 (by omega))))).trans ((g127 (t + 9) k).resolve_left (by exact gz_m 142 (by omega)))).trans ((FI51 (t + 9) k).resolve_left (by exact gz_m 143 (by omega))))) ((((p173 (t + 7) 1 (by exact gz_m 144 (by omega))).trans (p146 (t + 7) 1 (fun h => absurd h.1 (by exact gz_m 145 (by omega))))).trans ((g127 (t + 7) 1).resolve_left (by exact gz_m 146 (by omega)))).trans ((FI51 (t + 7) 1).resolve_left (by exact gz_m 147 (by omega)))) (fun j hj => ((p173 (t + 10) j (by exact gz_m 148 (by omega)))).trans ((p146 (t + 10) j (fun h => hj (by have h9 := h.2; exact gz_m 149 (by omega)))).trans (((g127 (t + 10) j).resolve_left (by exact gz_m 150 (by omega))).trans (e4_53.2 j)))))⟩⟩)⟩⟩
    · show gv_X _ _ (207, [(0, .inr (.inr (some 39)))], [], sh, gc_h sh I128 J129 A)
      have V186 := q127.2.2.2.2.2
      rw [show I51 39 5 = I 39 5 from by exact gz_m 151 (by omega)] at V186
      rw [show (if (1 : Int) = 0 then (1 : Int) else 0) = 0 from if_neg (by decide)] at V186
      obtain ⟨u186, u186_⟩ := gs_or0 V186 (by exact gz_m 152 (by omega))
      refine gv_run 1 true hD (pc' := 208) (lv' := [(0, .inr (.inr (some 39)))]) (st' := [.inl 0]) (h' := gc_h sh I128 J129 A) (C := (True ∧ True)) rfl ⟨trivial, trivial⟩ ?_
      exact gv_zret hD rfl (by exact gz_m 153 (by omega)) ⟨I128, J129, rfl, hI128, FI128, FJ129, KLT_I128, KTK_I128, KSC_I128, ⟨_, rfl, by exact gz_m 154 (by omega), by exact gz_m 155 (by omega), by exact gz_m 156 (by omega), by exact gz_m 157 (by omega), by exact gz_m 158 (by omega), KPK_I128, (Or.inr ⟨by exact gz_m 159 (by omega), by first | (exfalso; exact gz_m 160 (by omega)) | (rw [e2_53]; unfold gs_snd6; (repeat first | rw [if_pos (by exact gz_m 161 (by omega))] | rw [if_neg (by exact gz_m 162 (by omega))]); exact ⟨by exact gz_m 163 (by omega), by exact gz_m 164 (by omega), by exact gz_m 165 (by omega), fun j => (((g127 (t + 10) j).resolve_left (by exact gz_m 166 (by omega))).trans (e4_53.2 j))⟩)⟩)⟩⟩
