set_option maxHeartbeats 8000000 in
set_option maxRecDepth 100000 in
theorem d_X0_layForms {ws0 : List Cond} {tb : String → gz_T} (hws : gc_Ws ws0) (htb : gc_tbs tb) (sh : gz_Sh) (ro : Nat → Nat) (I : gr_I) (J : gr_J) (A : gc_A) (hI : gc_Inv ro I) (t : Nat) (σ : Nat → Int) (wb : Int) (a1 : Int) (a2 : Int) (hb : gc_Base sh ro A) (h_t : gc_isTongue sh ro A t) (G_t : 144 ≤ t) (ha1 : 0 ≤ a1 ∧ a1 ≤ 31) (ha2 : 0 ≤ a2 ∧ a2 ≤ 1536) (x0 : I 48 17 ≤ I 48 3) (x1 : gc_rg (t + 22) I a2 0 (wb - 1)) (x2 : I 48 13 = (t : Int)) (KWV_I : gc_WV t I) (KWA_I : gc_WA σ I) (KWB_I : gc_WB wb I) : ∃ r h', gz_Ev ws0 tb 3 (yX0_layForms, cX0_layForms, 5, none) [.inr (.inr (some 48)), .inl a1, .inl a2] sh (gc_h sh I J A) r sh h' 0 0 ∧ (∃ (I' : gr_I) (J' : gr_J), h' = gc_h sh I' J' A ∧ gc_Inv ro I' ∧ (∀ q j : Nat, ((q = 48 ∧ j = 3) ∨ (q = 48 ∧ j = 6) ∨ (q = 48 ∧ j = 12) ∨ q = 51 ∨ q = 52 ∨ q = 53 ∨ q = 54 ∨ q = 55) ∨ I' q j = I q j) ∧ (∀ q j : Nat, (False) ∨ J' q j = J q j) ∧ gc_WV t I' ∧ gc_WA σ I' ∧ gc_WB wb I' ∧ r = none ∧ (I 48 3 ≤ I' 48 3) ∧ (I' 48 12 = 1 ∨ I' 48 12 = I 48 12)) := by
  have FI : ∀ q j : Nat, ((q = 48 ∧ j = 3) ∨ (q = 48 ∧ j = 6) ∨ (q = 48 ∧ j = 12) ∨ q = 51 ∨ q = 52 ∨ q = 53 ∨ q = 54 ∨ q = 55) ∨ I q j = I q j := fun _ _ => Or.inr rfl
  have FJ : ∀ q j : Nat, (False) ∨ J q j = J q j := fun _ _ => Or.inr rfl
  have A_1_6 : A 1 6 = some 11 := gc_bA hb rfl
  have A_48_0 : A 48 0 = some 1 := gc_bA hb rfl
  have B_1 : 1 < 1000000 := by decide
  have B_11 : 11 < 1000000 := by decide
  have B_48 : 48 < 1000000 := by decide
  have R_11 : ro 11 = 25 := gc_bR hb (by decide) rfl
  have R_48 : ro 48 = 49 := gc_bR hb (by decide) rfl
  have S_1 : sh[1]? = some (false, 8, 21) := gc_bS hb rfl
  have S_11 : sh[11]? = some (true, 1, 96) := gc_bS hb rfl
  have S_48 : sh[48]? = some (false, 0, 22) := gc_bS hb rfl
  obtain ⟨S_t, R_t, B_t, A_t_0, h_t_1, A_t_1, h_t_3, A_t_2, S_t_5, R_t_5, B_t_5, A_t_3, S_t_6, R_t_6, B_t_6, A_t_4, h_t_7, A_t_5, S_t_9, R_t_9, B_t_9, A_t_7, S_t_10, R_t_10, B_t_10, A_t_8, h_t_11, A_t_9, S_t_13, R_t_13, B_t_13, A_t_10, S_t_14, R_t_14, B_t_14, A_t_12, S_t_15, R_t_15, B_t_15, A_t_14, S_t_16, R_t_16, B_t_16, A_t_15, h_t_17⟩ := id h_t
  obtain ⟨S_t_1, R_t_1, B_t_1, A_t_1_0, S_t_1_1, R_t_1_1, B_t_1_1, Q0_t_1, Q1_t_1, Q2_t_1⟩ := id h_t_1
  obtain ⟨S_t_3, R_t_3, B_t_3, A_t_3_0, S_t_3_1, R_t_3_1, B_t_3_1, Q0_t_3, Q1_t_3, Q2_t_3⟩ := id h_t_3
  obtain ⟨S_t_7, R_t_7, B_t_7, A_t_7_0, S_t_7_1, R_t_7_1, B_t_7_1, Q0_t_7, Q1_t_7, Q2_t_7⟩ := id h_t_7
  obtain ⟨S_t_11, R_t_11, B_t_11, A_t_11_0, S_t_11_1, R_t_11_1, B_t_11_1, Q0_t_11, Q1_t_11, Q2_t_11⟩ := id h_t_11
  obtain ⟨S_t_17, R_t_17, B_t_17, A_t_17_0, S_20, R_20, B_20, A_t_17_1, S_t_17_1, R_t_17_1, B_t_17_1, A_t_17_2, S_t_17_2, R_t_17_2, B_t_17_2, A_t_17_3, S_t_17_3, R_t_17_3, B_t_17_3, A_t_17_4, S_t_17_4, R_t_17_4, B_t_17_4, A_t_17_5, S_t_17_5, R_t_17_5, B_t_17_5, S_t_17_6, R_t_17_6, B_t_17_6, S_t_17_7, R_t_17_7, B_t_17_7⟩ := id h_t_17
  have hD : gv_D (gc_E0 ws0 tb 2 (yX0_layForms, cX0_layForms, 5, none) kX0_layForms) := gq_of oX0_layForms
  refine gc_ev0 (d := 2) (l := kX0_layForms) (Po := fun r h' => (∃ (I' : gr_I) (J' : gr_J), h' = gc_h sh I' J' A ∧ gc_Inv ro I' ∧ (∀ q j : Nat, ((q = 48 ∧ j = 3) ∨ (q = 48 ∧ j = 6) ∨ (q = 48 ∧ j = 12) ∨ q = 51 ∨ q = 52 ∨ q = 53 ∨ q = 54 ∨ q = 55) ∨ I' q j = I q j) ∧ (∀ q j : Nat, (False) ∨ J' q j = J q j) ∧ gc_WV t I' ∧ gc_WA σ I' ∧ gc_WB wb I' ∧ r = none ∧ (I 48 3 ≤ I' 48 3) ∧ (I' 48 12 = 1 ∨ I' 48 12 = I 48 12))) htb rfl (Nat.le_of_ble_eq_true rfl) ?_
  have N_t__51 : ¬ (t = 51) := by exact gz_m 0 (by omega)
  have N_t__52 : ¬ (t = 52) := by exact gz_m 1 (by omega)
  have N_t__53 : ¬ (t = 53) := by exact gz_m 2 (by omega)
  have N_t__54 : ¬ (t = 54) := by exact gz_m 3 (by omega)
  have N_t__55 : ¬ (t = 55) := by exact gz_m 4 (by omega)
  have f1 := (show 0 ≤ I 48 3 ∧ I 48 3 ≤ 3000 from gc_in hI R_48 rfl rfl)
  have f2 := (show 0 ≤ I 48 6 ∧ I 48 6 ≤ 9000 from gc_in hI R_48 rfl rfl)
  have f3 := (show 0 ≤ I 48 12 ∧ I 48 12 ≤ 1 from gc_in hI R_48 rfl rfl)
  have f4 := (show 0 ≤ I 48 17 ∧ I 48 17 ≤ 3000 from gc_in hI R_48 rfl rfl)
  have f5 := (show 0 ≤ I t 13 ∧ I t 13 ≤ 384 from gc_in hI R_t rfl rfl)
  have f6 := (show (-1) ≤ I 48 13 ∧ I 48 13 ≤ 999999 from gc_in hI R_48 rfl rfl)
  have L2 : ∀ (n9 : Nat) (I7 : gr_I) (J8 : gr_J) (v3_9 : Int), (1537 - v3_9).toNat < n9 → gc_Inv ro I7 → (∀ q j : Nat, ((q = 48 ∧ j = 3) ∨ (q = 48 ∧ j = 6) ∨ (q = 48 ∧ j = 12) ∨ q = 51 ∨ q = 52 ∨ q = 53 ∨ q = 54 ∨ q = 55) ∨ I7 q j = I q j) → (∀ q j : Nat, (False) ∨ J8 q j = J q j) → gc_WV t I7 → gc_WA σ I7 → gc_WB wb I7 → ((0 ≤ a1 ∧ a1 ≤ 31) ∧ (0 ≤ a2 ∧ a2 ≤ 1536) ∧ (0 ≤ v3_9 ∧ v3_9 ≤ 1536) ∧ (I7 48 17 ≤ I7 48 3) ∧ (I 48 3 ≤ I7 48 3) ∧ (I7 48 12 = 1 ∨ I7 48 12 = I 48 12) ∧ (I7 48 13 = (t : Int))) → gv_X (gc_E0 ws0 tb 2 (yX0_layForms, cX0_layForms, 5, none) kX0_layForms) (gv_Q cX0_layForms none sh (fun r h' => (∃ (I' : gr_I) (J' : gr_J), h' = gc_h sh I' J' A ∧ gc_Inv ro I' ∧ (∀ q j : Nat, ((q = 48 ∧ j = 3) ∨ (q = 48 ∧ j = 6) ∨ (q = 48 ∧ j = 12) ∨ q = 51 ∨ q = 52 ∨ q = 53 ∨ q = 54 ∨ q = 55) ∨ I' q j = I q j) ∧ (∀ q j : Nat, (False) ∨ J' q j = J q j) ∧ gc_WV t I' ∧ gc_WA σ I' ∧ gc_WB wb I' ∧ r = none ∧ (I 48 3 ≤ I' 48 3) ∧ (I' 48 12 = 1 ∨ I' 48 12 = I 48 12)))) (2, [(0, .inr (.inr (some 48))), (1, .inl a1), (2, .inl a2), (3, .inl v3_9)], [], sh, gc_h sh I7 J8 A) := by
    intro n9
    induction n9 with
    | zero => intro I7 J8 v3_9 hn; exact gz_m 5 (by omega)
    | succ n9 ih2 =>
      intro I7 J8 v3_9 hn hI7 FI7 FJ8 KWV_I7 KWA_I7 KWB_I7 m_9
      obtain ⟨ha1_9, ha2_9, hv3_9, e0_9, e1_9, e2_9, e3_9⟩ := m_9
      have f10 := (show 0 ≤ I7 48 3 ∧ I7 48 3 ≤ 3000 from gc_in hI7 R_48 rfl rfl)
      have f11 := (show 0 ≤ I7 48 6 ∧ I7 48 6 ≤ 9000 from gc_in hI7 R_48 rfl rfl)
      have f12 := (show 0 ≤ I7 48 12 ∧ I7 48 12 ≤ 1 from gc_in hI7 R_48 rfl rfl)
      have f13 := (show 0 ≤ I7 48 17 ∧ I7 48 17 ≤ 3000 from gc_in hI7 R_48 rfl rfl)
      have f14 := (show 0 ≤ I7 t 13 ∧ I7 t 13 ≤ 384 from gc_in hI7 R_t rfl rfl)
      have f15 := (show (-1) ≤ I7 48 13 ∧ I7 48 13 ≤ 999999 from gc_in hI7 R_48 rfl rfl)
      have L68 : ∀ (I16 : gr_I) (J17 : gr_J) , gc_Inv ro I16 → (∀ q j : Nat, ((q = 48 ∧ j = 3) ∨ (q = 48 ∧ j = 6) ∨ (q = 48 ∧ j = 12) ∨ q = 51 ∨ q = 52 ∨ q = 53 ∨ q = 54 ∨ q = 55) ∨ I16 q j = I q j) → (∀ q j : Nat, (False) ∨ J17 q j = J q j) → gc_WV t I16 → gc_WA σ I16 → gc_WB wb I16 → ((0 ≤ a1 ∧ a1 ≤ 31) ∧ (1 ≤ a2 ∧ a2 ≤ 1536) ∧ (0 ≤ v3_9 ∧ v3_9 ≤ 1535) ∧ (I16 48 17 ≤ I16 48 3) ∧ (I 48 3 ≤ I16 48 3) ∧ (I16 48 12 = 1 ∨ I16 48 12 = I 48 12) ∧ (I16 48 13 = (t : Int))) → gv_X (gc_E0 ws0 tb 2 (yX0_layForms, cX0_layForms, 5, none) kX0_layForms) (gv_Q cX0_layForms none sh (fun r h' => (∃ (I' : gr_I) (J' : gr_J), h' = gc_h sh I' J' A ∧ gc_Inv ro I' ∧ (∀ q j : Nat, ((q = 48 ∧ j = 3) ∨ (q = 48 ∧ j = 6) ∨ (q = 48 ∧ j = 12) ∨ q = 51 ∨ q = 52 ∨ q = 53 ∨ q = 54 ∨ q = 55) ∨ I' q j = I q j) ∧ (∀ q j : Nat, (False) ∨ J' q j = J q j) ∧ gc_WV t I' ∧ gc_WA σ I' ∧ gc_WB wb I' ∧ r = none ∧ (I 48 3 ≤ I' 48 3) ∧ (I' 48 12 = 1 ∨ I' 48 12 = I 48 12)))) (68, [(0, .inr (.inr (some 48))), (1, .inl a1), (2, .inl a2), (3, .inl v3_9)], [], sh, gc_h sh I16 J17 A) := by
        intro I16 J17 hI16 FI16 FJ17 KWV_I16 KWA_I16 KWB_I16 m_18
        clear ha1_9 ha2_9 hv3_9 e0_9 e1_9 e2_9 e3_9 f10 f11 f12 f13 f14 f15
        obtain ⟨ha1_18, ha2_18, hv3_9_18, e0_18, e1_18, e2_18, e3_18⟩ := m_18
        have f19 := (show 0 ≤ I16 48 3 ∧ I16 48 3 ≤ 3000 from gc_in hI16 R_48 rfl rfl)
        have f20 := (show 0 ≤ I16 48 6 ∧ I16 48 6 ≤ 9000 from gc_in hI16 R_48 rfl rfl)
        have f21 := (show 0 ≤ I16 48 12 ∧ I16 48 12 ≤ 1 from gc_in hI16 R_48 rfl rfl)
        have f22 := (show 0 ≤ I16 48 17 ∧ I16 48 17 ≤ 3000 from gc_in hI16 R_48 rfl rfl)
        have f23 := (show 0 ≤ I16 t 13 ∧ I16 t 13 ≤ 384 from gc_in hI16 R_t rfl rfl)
        have f24 := (show (-1) ≤ I16 48 13 ∧ I16 48 13 ≤ 999999 from gc_in hI16 R_48 rfl rfl)
        refine gv_run 2 true hD (pc' := 2) (lv' := [(3, .inl (v3_9 + 1)), (0, .inr (.inr (some 48))), (1, .inl a1), (2, .inl a2)]) (st' := []) (h' := gc_h sh I16 J17 A) (C := ((True ∧ True) ∧ True)) rfl ⟨⟨trivial, trivial⟩, trivial⟩ ?_
        refine gv_pick [1, 2, 3, 0] rfl ?_
        exact ih2 I16 J17 (v3_9 + 1) (by exact gz_m 6 (by omega)) hI16 FI16 FJ17 KWV_I16 KWA_I16 KWB_I16 (by exact gz_m 7 (by omega))
      have L74 : ((I7 48 17 ≤ I7 48 3) ∧ (I 48 3 ≤ I7 48 3) ∧ (I7 48 12 = 1 ∨ I7 48 12 = I 48 12) ∧ (I7 48 13 = (t : Int))) → gv_X (gc_E0 ws0 tb 2 (yX0_layForms, cX0_layForms, 5, none) kX0_layForms) (gv_Q cX0_layForms none sh (fun r h' => (∃ (I' : gr_I) (J' : gr_J), h' = gc_h sh I' J' A ∧ gc_Inv ro I' ∧ (∀ q j : Nat, ((q = 48 ∧ j = 3) ∨ (q = 48 ∧ j = 6) ∨ (q = 48 ∧ j = 12) ∨ q = 51 ∨ q = 52 ∨ q = 53 ∨ q = 54 ∨ q = 55) ∨ I' q j = I q j) ∧ (∀ q j : Nat, (False) ∨ J' q j = J q j) ∧ gc_WV t I' ∧ gc_WA σ I' ∧ gc_WB wb I' ∧ r = none ∧ (I 48 3 ≤ I' 48 3) ∧ (I' 48 12 = 1 ∨ I' 48 12 = I 48 12)))) (74, [], [], sh, gc_h sh I7 J8 A) := by
        intro m_25
        obtain ⟨e0_25, e1_25, e2_25, e3_25⟩ := m_25
        have f26 := (show 0 ≤ I7 48 3 ∧ I7 48 3 ≤ 3000 from gc_in hI7 R_48 rfl rfl)
        have f27 := (show 0 ≤ I7 48 6 ∧ I7 48 6 ≤ 9000 from gc_in hI7 R_48 rfl rfl)
        have f28 := (show 0 ≤ I7 48 12 ∧ I7 48 12 ≤ 1 from gc_in hI7 R_48 rfl rfl)
        have f29 := (show 0 ≤ I7 48 17 ∧ I7 48 17 ≤ 3000 from gc_in hI7 R_48 rfl rfl)
        have f30 := (show 0 ≤ I7 t 13 ∧ I7 t 13 ≤ 384 from gc_in hI7 R_t rfl rfl)
        have f31 := (show (-1) ≤ I7 48 13 ∧ I7 48 13 ≤ 999999 from gc_in hI7 R_48 rfl rfl)
        exact gv_vret hD rfl ⟨I7, J8, rfl, hI7, FI7, FJ8, KWV_I7, KWA_I7, KWB_I7, ⟨rfl, by exact gz_m 8 (by omega)⟩⟩
      refine gv_run 2 true hD (pc' := 4) (lv' := [(0, .inr (.inr (some 48))), (1, .inl a1), (2, .inl a2), (3, .inl v3_9)]) (st' := [.inl a2, .inl v3_9]) (h' := gc_h sh I7 J8 A) (C := ((True ∧ True) ∧ True)) rfl ⟨⟨trivial, trivial⟩, trivial⟩ ?_
      refine gv_icmp_ge (t := 74) hD rfl rfl ⟨⟨by exact gz_m 9 (by omega), by exact gz_m 10 (by omega)⟩, ⟨by exact gz_m 11 (by omega), by exact gz_m 12 (by omega)⟩⟩ (fun c32 => ?_) (fun c32 => ?_)
      · show gv_X _ _ (74, [(0, .inr (.inr (some 48))), (1, .inl a1), (2, .inl a2), (3, .inl v3_9)], [], sh, gc_h sh I7 J8 A)
        refine gv_pick [] rfl ?_
        exact L74 (by exact gz_m 13 (by omega))
      · show gv_X _ _ (7, [(0, .inr (.inr (some 48))), (1, .inl a1), (2, .inl a2), (3, .inl v3_9)], [], sh, gc_h sh I7 J8 A)
        refine gv_run 1 true hD (pc' := 8) (lv' := [(0, .inr (.inr (some 48))), (1, .inl a1), (2, .inl a2), (3, .inl v3_9)]) (st' := [.inr (.inr (some 48))]) (h' := gc_h sh I7 J8 A) (C := (True ∧ True)) rfl ⟨trivial, trivial⟩ ?_
        have f33 := (show 0 ≤ I7 48 12 ∧ I7 48 12 ≤ 1 from gc_in hI7 R_48 rfl rfl)
        refine gv_get hD rfl rfl S_48 ⟨by decide, B_48⟩ (gc_hI S_48 rfl) ?_
        show gv_X _ _ (11, [(0, .inr (.inr (some 48))), (1, .inl a1), (2, .inl a2), (3, .inl v3_9)], [.inl (I7 48 12)], sh, gc_h sh I7 J8 A)
        refine gv_if_ne (t := 74) hD rfl rfl ⟨by exact gz_m 14 (by omega), by exact gz_m 15 (by omega)⟩ (fun c34 => ?_) (fun c34 => ?_)
        · show gv_X _ _ (74, [(0, .inr (.inr (some 48))), (1, .inl a1), (2, .inl a2), (3, .inl v3_9)], [], sh, gc_h sh I7 J8 A)
          refine gv_pick [] rfl ?_
          exact L74 (by exact gz_m 16 (by omega))
        · show gv_X _ _ (14, [(0, .inr (.inr (some 48))), (1, .inl a1), (2, .inl a2), (3, .inl v3_9)], [], sh, gc_h sh I7 J8 A)
          refine gv_run 1 true hD (pc' := 15) (lv' := [(0, .inr (.inr (some 48))), (1, .inl a1), (2, .inl a2), (3, .inl v3_9)]) (st' := [.inr (.inr (some 48))]) (h' := gc_h sh I7 J8 A) (C := (True ∧ True)) rfl ⟨trivial, trivial⟩ ?_
          refine gv_get hD rfl rfl S_48 ⟨by decide, B_48⟩ (gc_h5 (t := t) S_48 rfl (by exact gz_m 17 (by omega))) ?_
          show gv_X _ _ (18, [(0, .inr (.inr (some 48))), (1, .inl a1), (2, .inl a2), (3, .inl v3_9)], [.inr (.inr (some t))], sh, gc_h sh I7 J8 A)
          refine gv_get hD rfl rfl S_t ⟨by decide, B_t⟩ (gc_hA S_t rfl A_t_15) ?_
          show gv_X _ _ (21, [(0, .inr (.inr (some 48))), (1, .inl a1), (2, .inl a2), (3, .inl v3_9)], [.inr (.inr (some (t + 17)))], sh, gc_h sh I7 J8 A)
          refine gv_get hD rfl rfl S_t_17 ⟨by decide, B_t_17⟩ (gc_hA S_t_17 rfl A_t_17_5) ?_
          show gv_X _ _ (24, [(0, .inr (.inr (some 48))), (1, .inl a1), (2, .inl a2), (3, .inl v3_9)], [.inr (.inr (some ((t + 17) + 5)))], sh, gc_h sh I7 J8 A)
          refine gv_run 1 true hD (pc' := 25) (lv' := [(0, .inr (.inr (some 48))), (1, .inl a1), (2, .inl a2), (3, .inl v3_9)]) (st' := [.inl v3_9, .inr (.inr (some ((t + 17) + 5)))]) (h' := gc_h sh I7 J8 A) (C := (True ∧ True)) rfl ⟨trivial, trivial⟩ ?_
          have f35 := (show 0 ≤ I7 ((t + 17) + 5) (Int.toNat v3_9) ∧ I7 ((t + 17) + 5) (Int.toNat v3_9) ≤ 1535 from gc_in hI7 R_t_17_5 rfl rfl)
          refine gv_iald hD rfl S_t_17_5 rfl ⟨by decide, B_t_17_5⟩ ⟨by exact gz_m 18 (by omega), by exact gz_m 19 (by omega)⟩ (gc_iI S_t_17_5 rfl) ?_
          show gv_X _ _ (26, [(0, .inr (.inr (some 48))), (1, .inl a1), (2, .inl a2), (3, .inl v3_9)], [.inl (I7 ((t + 17) + 5) (Int.toNat v3_9))], sh, gc_h sh I7 J8 A)
          have t36 := (show 0 ≤ I ((t + 17) + 5) (Int.toNat v3_9) ∧ I ((t + 17) + 5) (Int.toNat v3_9) ≤ wb - 1 from x1 v3_9 (by exact gz_m 20 (by omega)) (by exact gz_m 21 (by omega)))
          have t37 := (show I7 ((t + 17) + 5) (Int.toNat v3_9) = I ((t + 17) + 5) (Int.toNat v3_9) from (FI7 ((t + 17) + 5) (Int.toNat v3_9)).resolve_left (by exact gz_m 22 (by omega)))
          refine gv_run 2 true hD (pc' := 29) (lv' := [(4, .inl (I7 ((t + 17) + 5) (Int.toNat v3_9))), (0, .inr (.inr (some 48))), (1, .inl a1), (2, .inl a2), (3, .inl v3_9)]) (st' := [.inr (.inr (some 48))]) (h' := gc_h sh I7 J8 A) (C := ((True ∧ True) ∧ True)) rfl ⟨⟨trivial, trivial⟩, trivial⟩ ?_
          refine gv_get hD rfl rfl S_48 ⟨by decide, B_48⟩ (gc_hA S_48 rfl A_48_0) ?_
          show gv_X _ _ (32, [(4, .inl (I7 ((t + 17) + 5) (Int.toNat v3_9))), (0, .inr (.inr (some 48))), (1, .inl a1), (2, .inl a2), (3, .inl v3_9)], [.inr (.inr (some 1))], sh, gc_h sh I7 J8 A)
          refine gv_get hD rfl rfl S_1 ⟨by decide, B_1⟩ (gc_hA S_1 rfl A_1_6) ?_
          show gv_X _ _ (35, [(4, .inl (I7 ((t + 17) + 5) (Int.toNat v3_9))), (0, .inr (.inr (some 48))), (1, .inl a1), (2, .inl a2), (3, .inl v3_9)], [.inr (.inr (some 11))], sh, gc_h sh I7 J8 A)
          refine gv_run 1 true hD (pc' := 36) (lv' := [(4, .inl (I7 ((t + 17) + 5) (Int.toNat v3_9))), (0, .inr (.inr (some 48))), (1, .inl a1), (2, .inl a2), (3, .inl v3_9)]) (st' := [.inr (.inr (some 48)), .inr (.inr (some 11))]) (h' := gc_h sh I7 J8 A) (C := (True ∧ True)) rfl ⟨trivial, trivial⟩ ?_
          refine gv_get hD rfl rfl S_48 ⟨by decide, B_48⟩ (gc_h5 (t := t) S_48 rfl (by exact gz_m 23 (by omega))) ?_
          show gv_X _ _ (39, [(4, .inl (I7 ((t + 17) + 5) (Int.toNat v3_9))), (0, .inr (.inr (some 48))), (1, .inl a1), (2, .inl a2), (3, .inl v3_9)], [.inr (.inr (some t)), .inr (.inr (some 11))], sh, gc_h sh I7 J8 A)
          have f38 := gw_div (x := ((I7 ((t + 17) + 5) (Int.toNat v3_9)))) (y := 24) ⟨by exact gz_m 24 (by omega), by exact gz_m 25 (by omega)⟩ ⟨by exact gz_m 26 (by omega), by exact gz_m 27 (by omega)⟩
          refine gv_run 3 true hD (pc' := 44) (lv' := [(4, .inl (I7 ((t + 17) + 5) (Int.toNat v3_9))), (0, .inr (.inr (some 48))), (1, .inl a1), (2, .inl a2), (3, .inl v3_9)]) (st' := [.inl ((Int32.ofInt ((I7 ((t + 17) + 5) (Int.toNat v3_9))) / Int32.ofInt 24).toInt), .inr (.inr (some t)), .inr (.inr (some 11))]) (h' := gc_h sh I7 J8 A) (C := (((True ∧ True) ∧ True) ∧ (gz_R 24 ∧ ¬ 24 = 0))) rfl ⟨⟨⟨trivial, trivial⟩, trivial⟩, ⟨⟨by exact gz_m 28 (by omega), by exact gz_m 29 (by omega)⟩, by exact gz_m 30 (by omega)⟩⟩ ?_
          obtain ⟨r39, h39, E39, P39⟩ := d_X11_wordFun (ws0 := ws0) (tb := tb) hws htb sh ro I7 J8 A hI7 t (((Int32.ofInt ((I7 ((t + 17) + 5) (Int.toNat v3_9))) / Int32.ofInt 24).toInt)) h_t   ⟨by exact gz_m 31 (by omega), by exact gz_m 32 (by omega)⟩  
          obtain ⟨rfl, ⟨z39, rfl, q39⟩⟩ := P39
          refine gv_callV hD rfl (As := [.inl ((Int32.ofInt ((I7 ((t + 17) + 5) (Int.toNat v3_9))) / Int32.ofInt 24).toInt)]) (st := [.inr (.inr (some 11))]) rfl B_t S_t rfl (gc_lV0 hws rfl) (Nat.le_of_ble_eq_true rfl) (gz_Ev_mono (d := 1) (by decide) E39) ?_
          show gv_X _ _ (47, [(4, .inl (I7 ((t + 17) + 5) (Int.toNat v3_9))), (0, .inr (.inr (some 48))), (1, .inl a1), (2, .inl a2), (3, .inl v3_9)], [.inl z39, .inr (.inr (some 11))], sh, gc_h sh I7 J8 A)
          have f40 := (show 0 ≤ I7 11 (Int.toNat z39) ∧ I7 11 (Int.toNat z39) ≤ 31 from gc_in hI7 R_11 rfl rfl)
          refine gv_iald hD rfl S_11 rfl ⟨by decide, B_11⟩ ⟨by exact gz_m 33 (by omega), by exact gz_m 34 (by omega)⟩ (gc_iI S_11 rfl) ?_
          show gv_X _ _ (48, [(4, .inl (I7 ((t + 17) + 5) (Int.toNat v3_9))), (0, .inr (.inr (some 48))), (1, .inl a1), (2, .inl a2), (3, .inl v3_9)], [.inl (I7 11 (Int.toNat z39))], sh, gc_h sh I7 J8 A)
          refine gv_run 1 true hD (pc' := 49) (lv' := [(4, .inl (I7 ((t + 17) + 5) (Int.toNat v3_9))), (0, .inr (.inr (some 48))), (1, .inl a1), (2, .inl a2), (3, .inl v3_9)]) (st' := [.inl a1, .inl (I7 11 (Int.toNat z39))]) (h' := gc_h sh I7 J8 A) (C := (True ∧ True)) rfl ⟨trivial, trivial⟩ ?_
          refine gv_icmp_ne (t := 68) hD rfl rfl ⟨⟨by exact gz_m 35 (by omega), by exact gz_m 36 (by omega)⟩, ⟨by exact gz_m 37 (by omega), by exact gz_m 38 (by omega)⟩⟩ (fun c41 => ?_) (fun c41 => ?_)
          · show gv_X _ _ (68, [(4, .inl (I7 ((t + 17) + 5) (Int.toNat v3_9))), (0, .inr (.inr (some 48))), (1, .inl a1), (2, .inl a2), (3, .inl v3_9)], [], sh, gc_h sh I7 J8 A)
            refine gv_pick [1, 2, 3, 4] rfl ?_
            exact L68 I7 J8 hI7 FI7 FJ8 KWV_I7 KWA_I7 KWB_I7 (by exact gz_m 39 (by omega))
          · show gv_X _ _ (52, [(4, .inl (I7 ((t + 17) + 5) (Int.toNat v3_9))), (0, .inr (.inr (some 48))), (1, .inl a1), (2, .inl a2), (3, .inl v3_9)], [], sh, gc_h sh I7 J8 A)
            refine gv_run 3 true hD (pc' := 56) (lv' := [(4, .inl (I7 ((t + 17) + 5) (Int.toNat v3_9))), (0, .inr (.inr (some 48))), (1, .inl a1), (2, .inl a2), (3, .inl v3_9)]) (st' := [.inr (.inr (some 48)), .inl (I7 ((t + 17) + 5) (Int.toNat v3_9)), .inr (.inr (some 48))]) (h' := gc_h sh I7 J8 A) (C := (((True ∧ True) ∧ True) ∧ True)) rfl ⟨⟨⟨trivial, trivial⟩, trivial⟩, trivial⟩ ?_
            refine gv_get hD rfl rfl S_48 ⟨by decide, B_48⟩ (gc_h5 (t := t) S_48 rfl (by exact gz_m 40 (by omega))) ?_
            show gv_X _ _ (59, [(4, .inl (I7 ((t + 17) + 5) (Int.toNat v3_9))), (0, .inr (.inr (some 48))), (1, .inl a1), (2, .inl a2), (3, .inl v3_9)], [.inr (.inr (some t)), .inl (I7 ((t + 17) + 5) (Int.toNat v3_9)), .inr (.inr (some 48))], sh, gc_h sh I7 J8 A)
            refine gv_run 1 true hD (pc' := 61) (lv' := [(4, .inl (I7 ((t + 17) + 5) (Int.toNat v3_9))), (0, .inr (.inr (some 48))), (1, .inl a1), (2, .inl a2), (3, .inl v3_9)]) (st' := [.inl (I7 ((t + 17) + 5) (Int.toNat v3_9)), .inr (.inr (some t)), .inl (I7 ((t + 17) + 5) (Int.toNat v3_9)), .inr (.inr (some 48))]) (h' := gc_h sh I7 J8 A) (C := (True ∧ True)) rfl ⟨trivial, trivial⟩ ?_
            obtain ⟨r42, h42, E42, P42⟩ := d_X11_formValues (ws0 := ws0) (tb := tb) hws htb sh ro I7 J8 A hI7 t ((I7 ((t + 17) + 5) (Int.toNat v3_9))) h_t   ⟨by exact gz_m 41 (by omega), by exact gz_m 42 (by omega)⟩  
            obtain ⟨rfl, ⟨z42, rfl, q42⟩⟩ := P42
            refine gv_callV hD rfl (As := [.inl (I7 ((t + 17) + 5) (Int.toNat v3_9))]) (st := [.inl (I7 ((t + 17) + 5) (Int.toNat v3_9)), .inr (.inr (some 48))]) rfl B_t S_t rfl (gc_lV0 hws rfl) (Nat.le_of_ble_eq_true rfl) (gz_Ev_mono (d := 2) (by decide) E42) ?_
            show gv_X _ _ (64, [(4, .inl (I7 ((t + 17) + 5) (Int.toNat v3_9))), (0, .inr (.inr (some 48))), (1, .inl a1), (2, .inl a2), (3, .inl v3_9)], [.inl z42, .inl (I7 ((t + 17) + 5) (Int.toNat v3_9)), .inr (.inr (some 48))], sh, gc_h sh I7 J8 A)
            refine gv_run 1 true hD (pc' := 65) (lv' := [(4, .inl (I7 ((t + 17) + 5) (Int.toNat v3_9))), (0, .inr (.inr (some 48))), (1, .inl a1), (2, .inl a2), (3, .inl v3_9)]) (st' := [.inl 0, .inl z42, .inl (I7 ((t + 17) + 5) (Int.toNat v3_9)), .inr (.inr (some 48))]) (h' := gc_h sh I7 J8 A) (C := (True ∧ True)) rfl ⟨trivial, trivial⟩ ?_
            obtain ⟨r43, h43, E43, P43⟩ := d_X0_putWay (ws0 := ws0) (tb := tb) hws htb sh ro I7 J8 A hI7  t σ wb ((I7 ((t + 17) + 5) (Int.toNat v3_9))) z42 0 hb  h_t G_t  ⟨by exact gz_m 43 (by omega), by exact gz_m 44 (by omega)⟩ ⟨by exact gz_m 45 (by omega), by exact gz_m 46 (by omega)⟩ ⟨by exact gz_m 47 (by omega), by exact gz_m 48 (by omega)⟩ (by exact gz_m 49 (by omega)) (by exact gz_m 50 (by omega)) (fun s hs => by exact gz_m 51 (by omega)) (by exact gz_m 52 (by omega)) (by exact gz_m 53 (by omega)) (by exact gz_m 54 (by omega)) KWV_I7 KWA_I7 KWB_I7
            obtain ⟨I44, J45, rfl, hI44, g43, k43, KWV_I44, KWA_I44, KWB_I44, ⟨rfl, q43⟩⟩ := P43
            have FI44 := gc_frc (W := fun q j => (q = 48 ∧ j = 3) ∨ (q = 48 ∧ j = 6) ∨ (q = 48 ∧ j = 12) ∨ q = 51 ∨ q = 52 ∨ q = 53 ∨ q = 54 ∨ q = 55) (V := fun q j => (q = 48 ∧ j = 3) ∨ (q = 48 ∧ j = 6) ∨ (q = 48 ∧ j = 12) ∨ q = 51 ∨ q = 52 ∨ q = 53 ∨ q = 54 ∨ q = 55) FI7 (fun q j h => (h.elim (fun h => (Or.inl h)) (fun h => (h.elim (fun h => (Or.inr (Or.inl h))) (fun h => (h.elim (fun h => (Or.inr (Or.inr (Or.inl h)))) (fun h => (h.elim (fun h => (Or.inr (Or.inr (Or.inr (Or.inl h))))) (fun h => (h.elim (fun h => (Or.inr (Or.inr (Or.inr (Or.inr (Or.inl h)))))) (fun h => (h.elim (fun h => (Or.inr (Or.inr (Or.inr (Or.inr (Or.inr (Or.inl h))))))) (fun h => (h.elim (fun h => (Or.inr (Or.inr (Or.inr (Or.inr (Or.inr (Or.inr (Or.inl h)))))))) (fun h => (Or.inr (Or.inr (Or.inr (Or.inr (Or.inr (Or.inr (Or.inr h)))))))))))))))))))))) g43
            have t46 := (g43 48 17).resolve_left (fun h => h.elim (fun h => absurd h.2 (by decide)) (fun h => h.elim (fun h => absurd h.2 (by decide)) (fun h => h.elim (fun h => absurd h.2 (by decide)) (fun h => h.elim (fun h => absurd h (by decide)) (fun h => h.elim (fun h => absurd h (by decide)) (fun h => h.elim (fun h => absurd h (by decide)) (fun h => h.elim (fun h => absurd h (by decide)) (fun h => absurd h (by decide)))))))))
            have t47 := (g43 t 13).resolve_left (fun h => h.elim (fun h => absurd h.2 (by decide)) (fun h => h.elim (fun h => absurd h.2 (by decide)) (fun h => h.elim (fun h => absurd h.2 (by decide)) (fun h => h.elim (fun h => absurd h N_t__51) (fun h => h.elim (fun h => absurd h N_t__52) (fun h => h.elim (fun h => absurd h N_t__53) (fun h => h.elim (fun h => absurd h N_t__54) (fun h => absurd h N_t__55))))))))
            have t48 := (g43 48 13).resolve_left (fun h => h.elim (fun h => absurd h.2 (by decide)) (fun h => h.elim (fun h => absurd h.2 (by decide)) (fun h => h.elim (fun h => absurd h.2 (by decide)) (fun h => h.elim (fun h => absurd h (by decide)) (fun h => h.elim (fun h => absurd h (by decide)) (fun h => h.elim (fun h => absurd h (by decide)) (fun h => h.elim (fun h => absurd h (by decide)) (fun h => absurd h (by decide)))))))))
            have f49 := (show 0 ≤ I44 48 3 ∧ I44 48 3 ≤ 3000 from gc_in hI44 R_48 rfl rfl)
            have f50 := (show 0 ≤ I44 48 6 ∧ I44 48 6 ≤ 9000 from gc_in hI44 R_48 rfl rfl)
            have f51 := (show 0 ≤ I44 48 12 ∧ I44 48 12 ≤ 1 from gc_in hI44 R_48 rfl rfl)
            obtain rfl : J8 = J45 := funext fun q => funext fun j => ((k43 q j).resolve_left id).symm
            refine gv_callV hD rfl (As := [.inl (I7 ((t + 17) + 5) (Int.toNat v3_9)), .inl z42, .inl 0]) (st := []) rfl B_48 S_48 rfl (gc_lV0 hws rfl) (Nat.le_of_ble_eq_true rfl) (gz_Ev_mono (d := 2) (by decide) E43) ?_
            show gv_X _ _ (68, [(4, .inl (I7 ((t + 17) + 5) (Int.toNat v3_9))), (0, .inr (.inr (some 48))), (1, .inl a1), (2, .inl a2), (3, .inl v3_9)], [], sh, gc_h sh I44 J8 A)
            refine gv_pick [1, 2, 3, 4] rfl ?_
            exact L68 I44 J8 hI44 FI44 FJ8 KWV_I44 KWA_I44 KWB_I44 (by exact gz_m 55 (by omega))
  refine gv_run 2 true hD (pc' := 2) (lv' := [(3, .inl 0), (0, .inr (.inr (some 48))), (1, .inl a1), (2, .inl a2)]) (st' := []) (h' := gc_h sh I J A) (C := ((True ∧ True) ∧ True)) rfl ⟨⟨trivial, trivial⟩, trivial⟩ ?_
  refine gv_pick [1, 2, 3, 0] rfl ?_
  exact L2 _ I J 0 (Nat.lt_succ_self _) hI FI FJ KWV_I KWA_I KWB_I (by exact gz_m 56 (by omega))
set_option maxHeartbeats 8000000 in
set_option maxRecDepth 100000 in
theorem d_X0_fillSpan {ws0 : List Cond} {tb : String → gz_T} (hws : gc_Ws ws0) (htb : gc_tbs tb) (sh : gz_Sh) (ro : Nat → Nat) (I : gr_I) (J : gr_J) (A : gc_A) (hI : gc_Inv ro I) (t : Nat) (x : Nat) (σ : Nat → Int) (κ : Nat → Int) (nw : Int) (nk : Int) (wb : Int) (a1 : Int) (a2 : Int) (a3 : Int) (a4 : Int) (hb : gc_Base sh ro A) (h_t : gc_isTongue sh ro A t) (G_t : 144 ≤ t) (h_x : gc_isText sh ro A x) (G_x : x + 3 < 39 ∨ (100 ≤ x ∧ x < 140)) (ha1 : 0 ≤ a1 ∧ a1 ≤ 23) (ha2 : 1 ≤ a2 ∧ a2 ≤ 24) (ha3 : 0 ≤ a3 ∧ a3 ≤ 31) (ha4 : 0 ≤ a4 ∧ a4 ≤ 1536) (x0 : a1 + a2 ≤ I x 4) (x1 : gc_SP x I) (x2 : gc_Ls sh ro A t I) (x3 : a3 < I 2 1) (x4 : 0 ≤ I 48 11) (x5 : I 48 11 ≤ 400001) (x6 : I 2 1 = nk) (x7 : I x 4 = nw) (x8 : ∀ i q : Nat, (i : Int) < I t 13 → A (t + 16) i = some q → I q 8 = σ i) (x9 : ∀ i q : Nat, (i : Int) < I t 13 → A (t + 16) i = some q → gc_un q (κ i) I) (x10 : gc_FD nw nk a2 a1 a3 I) (x11 : gc_rg (t + 22) I a4 0 (wb - 1)) (x12 : 0 ≤ wb) (x13 : I 48 13 = (t : Int)) (x14 : I 48 14 = (x : Int)) (KWV_I : gc_WV t I) (KFN_I : gc_FN I) (KLO_I : gc_LO t I) (KWA_I : gc_WA σ I) (KFZ_I : gc_FZ I) (KLK_I : gc_LK κ I) (KTR_I : gc_TR I) (KWB_I : gc_WB wb I) : ∃ r h', gz_Ev ws0 tb 11 (yX0_fillSpan, cX0_fillSpan, 7, none) [.inr (.inr (some 48)), .inl a1, .inl a2, .inl a3, .inl a4] sh (gc_h sh I J A) r sh h' 0 0 ∧ (∃ (I' : gr_I) (J' : gr_J), h' = gc_h sh I' J' A ∧ gc_Inv ro I' ∧ (∀ q j : Nat, ((q = 48 ∧ j = 3) ∨ (q = 48 ∧ j = 6) ∨ (q = 48 ∧ j = 12) ∨ q = 51 ∨ q = 52 ∨ q = 53 ∨ q = 54 ∨ q = 55 ∨ (q = 48 ∧ j = 11) ∨ q = 58 ∨ q = 59 ∨ q = 60 ∨ (q = 48 ∧ j = 17) ∨ (q = 48 ∧ j = 18) ∨ q = 49 ∨ q = 50) ∨ I' q j = I q j) ∧ (∀ q j : Nat, (False) ∨ J' q j = J q j) ∧ gc_WV t I' ∧ gc_FN I' ∧ gc_LO t I' ∧ gc_WA σ I' ∧ gc_FZ I' ∧ gc_LK κ I' ∧ gc_TR I' ∧ gc_WB wb I' ∧ r = none ∧ (0 ≤ I' 48 11) ∧ (I' 48 11 ≤ 400001) ∧ (gc_FD nw nk a2 a1 (a3 + 1) I')) := by
  have FI : ∀ q j : Nat, ((q = 48 ∧ j = 3) ∨ (q = 48 ∧ j = 6) ∨ (q = 48 ∧ j = 12) ∨ q = 51 ∨ q = 52 ∨ q = 53 ∨ q = 54 ∨ q = 55 ∨ (q = 48 ∧ j = 11) ∨ q = 58 ∨ q = 59 ∨ q = 60 ∨ (q = 48 ∧ j = 17) ∨ (q = 48 ∧ j = 18) ∨ q = 49 ∨ q = 50) ∨ I q j = I q j := fun _ _ => Or.inr rfl
  have FJ : ∀ q j : Nat, (False) ∨ J q j = J q j := fun _ _ => Or.inr rfl
  have A_48_1 : A 48 1 = some 49 := gc_bA hb rfl
  have A_48_15 : A 48 15 = some 56 := gc_bA hb rfl
  have A_48_16 : A 48 16 = some 57 := gc_bA hb rfl
  have A_48_2 : A 48 2 = some 50 := gc_bA hb rfl
  have B_48 : 48 < 1000000 := by decide
  have B_49 : 49 < 1000000 := by decide
  have B_50 : 50 < 1000000 := by decide
  have B_56 : 56 < 1000000 := by decide
  have B_57 : 57 < 1000000 := by decide
  have R_2 : ro 2 = 9 := gc_bR hb (by decide) rfl
  have R_48 : ro 48 = 49 := gc_bR hb (by decide) rfl
  have R_49 : ro 49 = 43 := gc_bR hb (by decide) rfl
  have R_50 : ro 50 = 43 := gc_bR hb (by decide) rfl
  have R_56 : ro 56 = 47 := gc_bR hb (by decide) rfl
  have R_57 : ro 57 = 48 := gc_bR hb (by decide) rfl
  have S_48 : sh[48]? = some (false, 0, 22) := gc_bS hb rfl
  have S_49 : sh[49]? = some (true, 1, 18432) := gc_bS hb rfl
  have S_50 : sh[50]? = some (true, 1, 18432) := gc_bS hb rfl
  have S_56 : sh[56]? = some (true, 1, 33) := gc_bS hb rfl
  have S_57 : sh[57]? = some (true, 1, 384) := gc_bS hb rfl
  obtain ⟨S_t, R_t, B_t, A_t_0, h_t_1, A_t_1, h_t_3, A_t_2, S_t_5, R_t_5, B_t_5, A_t_3, S_t_6, R_t_6, B_t_6, A_t_4, h_t_7, A_t_5, S_t_9, R_t_9, B_t_9, A_t_7, S_t_10, R_t_10, B_t_10, A_t_8, h_t_11, A_t_9, S_t_13, R_t_13, B_t_13, A_t_10, S_t_14, R_t_14, B_t_14, A_t_12, S_t_15, R_t_15, B_t_15, A_t_14, S_t_16, R_t_16, B_t_16, A_t_15, h_t_17⟩ := id h_t
  obtain ⟨S_t_1, R_t_1, B_t_1, A_t_1_0, S_t_1_1, R_t_1_1, B_t_1_1, Q0_t_1, Q1_t_1, Q2_t_1⟩ := id h_t_1
  obtain ⟨S_t_3, R_t_3, B_t_3, A_t_3_0, S_t_3_1, R_t_3_1, B_t_3_1, Q0_t_3, Q1_t_3, Q2_t_3⟩ := id h_t_3
  obtain ⟨S_t_7, R_t_7, B_t_7, A_t_7_0, S_t_7_1, R_t_7_1, B_t_7_1, Q0_t_7, Q1_t_7, Q2_t_7⟩ := id h_t_7
  obtain ⟨S_t_11, R_t_11, B_t_11, A_t_11_0, S_t_11_1, R_t_11_1, B_t_11_1, Q0_t_11, Q1_t_11, Q2_t_11⟩ := id h_t_11
  obtain ⟨S_t_17, R_t_17, B_t_17, A_t_17_0, S_20, R_20, B_20, A_t_17_1, S_t_17_1, R_t_17_1, B_t_17_1, A_t_17_2, S_t_17_2, R_t_17_2, B_t_17_2, A_t_17_3, S_t_17_3, R_t_17_3, B_t_17_3, A_t_17_4, S_t_17_4, R_t_17_4, B_t_17_4, A_t_17_5, S_t_17_5, R_t_17_5, B_t_17_5, S_t_17_6, R_t_17_6, B_t_17_6, S_t_17_7, R_t_17_7, B_t_17_7⟩ := id h_t_17
  obtain ⟨S_x, R_x, B_x, A_x_0, S_x_1, R_x_1, B_x_1, A_x_2, S_x_2, R_x_2, B_x_2, A_x_3, S_x_3, R_x_3, B_x_3⟩ := id h_x
  have hD : gv_D (gc_E0 ws0 tb 10 (yX0_fillSpan, cX0_fillSpan, 7, none) kX0_fillSpan) := gq_of oX0_fillSpan
  refine gc_ev0 (d := 10) (l := kX0_fillSpan) (Po := fun r h' => (∃ (I' : gr_I) (J' : gr_J), h' = gc_h sh I' J' A ∧ gc_Inv ro I' ∧ (∀ q j : Nat, ((q = 48 ∧ j = 3) ∨ (q = 48 ∧ j = 6) ∨ (q = 48 ∧ j = 12) ∨ q = 51 ∨ q = 52 ∨ q = 53 ∨ q = 54 ∨ q = 55 ∨ (q = 48 ∧ j = 11) ∨ q = 58 ∨ q = 59 ∨ q = 60 ∨ (q = 48 ∧ j = 17) ∨ (q = 48 ∧ j = 18) ∨ q = 49 ∨ q = 50) ∨ I' q j = I q j) ∧ (∀ q j : Nat, (False) ∨ J' q j = J q j) ∧ gc_WV t I' ∧ gc_FN I' ∧ gc_LO t I' ∧ gc_WA σ I' ∧ gc_FZ I' ∧ gc_LK κ I' ∧ gc_TR I' ∧ gc_WB wb I' ∧ r = none ∧ (0 ≤ I' 48 11) ∧ (I' 48 11 ≤ 400001) ∧ (gc_FD nw nk a2 a1 (a3 + 1) I'))) htb rfl (Nat.le_of_ble_eq_true rfl) ?_
  have N_t__49 : ¬ (t = 49) := by exact gz_m 0 (by omega)
  have N_x__49 : ¬ (x = 49) := by exact gz_m 1 (by omega)
  have N_t__50 : ¬ (t = 50) := by exact gz_m 2 (by omega)
  have N_x__50 : ¬ (x = 50) := by exact gz_m 3 (by omega)
  have N_x__51 : ¬ (x = 51) := by exact gz_m 4 (by omega)
  have N_x__52 : ¬ (x = 52) := by exact gz_m 5 (by omega)
  have N_x__53 : ¬ (x = 53) := by exact gz_m 6 (by omega)
  have N_x__54 : ¬ (x = 54) := by exact gz_m 7 (by omega)
  have N_x__55 : ¬ (x = 55) := by exact gz_m 8 (by omega)
  have N_x__58 : ¬ (x = 58) := by exact gz_m 9 (by omega)
  have N_x__59 : ¬ (x = 59) := by exact gz_m 10 (by omega)
  have N_x__60 : ¬ (x = 60) := by exact gz_m 11 (by omega)
  have N_x_2__48 : ¬ ((x + 2) = 48) := by exact gz_m 12 (by omega)
  have N_x_2__51 : ¬ ((x + 2) = 51) := by exact gz_m 13 (by omega)
  have N_x_2__52 : ¬ ((x + 2) = 52) := by exact gz_m 14 (by omega)
  have N_x_2__53 : ¬ ((x + 2) = 53) := by exact gz_m 15 (by omega)
  have N_x_2__54 : ¬ ((x + 2) = 54) := by exact gz_m 16 (by omega)
  have N_x_2__55 : ¬ ((x + 2) = 55) := by exact gz_m 17 (by omega)
  have N_x_2__58 : ¬ ((x + 2) = 58) := by exact gz_m 18 (by omega)
  have N_x_2__59 : ¬ ((x + 2) = 59) := by exact gz_m 19 (by omega)
  have N_x_2__60 : ¬ ((x + 2) = 60) := by exact gz_m 20 (by omega)
  have N_x_2__49 : ¬ ((x + 2) = 49) := by exact gz_m 21 (by omega)
  have N_x_2__50 : ¬ ((x + 2) = 50) := by exact gz_m 22 (by omega)
  have N_x_3__48 : ¬ ((x + 3) = 48) := by exact gz_m 23 (by omega)
  have N_x_3__51 : ¬ ((x + 3) = 51) := by exact gz_m 24 (by omega)
  have N_x_3__52 : ¬ ((x + 3) = 52) := by exact gz_m 25 (by omega)
  have N_x_3__53 : ¬ ((x + 3) = 53) := by exact gz_m 26 (by omega)
  have N_x_3__54 : ¬ ((x + 3) = 54) := by exact gz_m 27 (by omega)
  have N_x_3__55 : ¬ ((x + 3) = 55) := by exact gz_m 28 (by omega)
  have N_x_3__58 : ¬ ((x + 3) = 58) := by exact gz_m 29 (by omega)
  have N_x_3__59 : ¬ ((x + 3) = 59) := by exact gz_m 30 (by omega)
  have N_x_3__60 : ¬ ((x + 3) = 60) := by exact gz_m 31 (by omega)
  have N_x_3__49 : ¬ ((x + 3) = 49) := by exact gz_m 32 (by omega)
  have N_x_3__50 : ¬ ((x + 3) = 50) := by exact gz_m 33 (by omega)
  have N_t__51 : ¬ (t = 51) := by exact gz_m 34 (by omega)
  have N_t__52 : ¬ (t = 52) := by exact gz_m 35 (by omega)
  have N_t__53 : ¬ (t = 53) := by exact gz_m 36 (by omega)
  have N_t__54 : ¬ (t = 54) := by exact gz_m 37 (by omega)
  have N_t__55 : ¬ (t = 55) := by exact gz_m 38 (by omega)
  have N_t__58 : ¬ (t = 58) := by exact gz_m 39 (by omega)
  have N_t__59 : ¬ (t = 59) := by exact gz_m 40 (by omega)
  have N_t__60 : ¬ (t = 60) := by exact gz_m 41 (by omega)
  have N_t_22__48 : ¬ ((t + 22) = 48) := by exact gz_m 42 (by omega)
  have N_t_22__51 : ¬ ((t + 22) = 51) := by exact gz_m 43 (by omega)
  have N_t_22__52 : ¬ ((t + 22) = 52) := by exact gz_m 44 (by omega)
  have N_t_22__53 : ¬ ((t + 22) = 53) := by exact gz_m 45 (by omega)
  have N_t_22__54 : ¬ ((t + 22) = 54) := by exact gz_m 46 (by omega)
  have N_t_22__55 : ¬ ((t + 22) = 55) := by exact gz_m 47 (by omega)
  have N_t_22__58 : ¬ ((t + 22) = 58) := by exact gz_m 48 (by omega)
  have N_t_22__59 : ¬ ((t + 22) = 59) := by exact gz_m 49 (by omega)
  have N_t_22__60 : ¬ ((t + 22) = 60) := by exact gz_m 50 (by omega)
  have N_t_22__49 : ¬ ((t + 22) = 49) := by exact gz_m 51 (by omega)
  have N_t_22__50 : ¬ ((t + 22) = 50) := by exact gz_m 52 (by omega)
  have KFD_I : gc_FD nw nk a2 a1 a3 I := x10
  have f1 := (show 0 ≤ I 48 3 ∧ I 48 3 ≤ 3000 from gc_in hI R_48 rfl rfl)
  have f2 := (show 0 ≤ I 48 6 ∧ I 48 6 ≤ 9000 from gc_in hI R_48 rfl rfl)
  have f3 := (show 0 ≤ I 48 11 ∧ I 48 11 ≤ 1000000 from gc_in hI R_48 rfl rfl)
  have f4 := (show 0 ≤ I 48 12 ∧ I 48 12 ≤ 1 from gc_in hI R_48 rfl rfl)
  have f5 := (show 0 ≤ I 48 17 ∧ I 48 17 ≤ 3000 from gc_in hI R_48 rfl rfl)
  have f6 := (show 0 ≤ I 48 18 ∧ I 48 18 ≤ 24 from gc_in hI R_48 rfl rfl)
  have f7 := (show 0 ≤ I t 13 ∧ I t 13 ≤ 384 from gc_in hI R_t rfl rfl)
  have f8 := (show 0 ≤ I x 4 ∧ I x 4 ≤ 24 from gc_in hI R_x rfl rfl)
  have f9 := (show 0 ≤ I 2 1 ∧ I 2 1 ≤ 32 from gc_in hI R_2 rfl rfl)
  have f10 := (show (-1) ≤ I 48 13 ∧ I 48 13 ≤ 999999 from gc_in hI R_48 rfl rfl)
  have f11 := (show (-1) ≤ I 48 14 ∧ I 48 14 ≤ 999999 from gc_in hI R_48 rfl rfl)
  have L30 : ∀ (n9 : Nat) (I12 : gr_I) (J13 : gr_J) (v5_14 : Int), (385 - v5_14).toNat < n9 → gc_Inv ro I12 → (∀ q j : Nat, ((q = 48 ∧ j = 3) ∨ (q = 48 ∧ j = 6) ∨ (q = 48 ∧ j = 12) ∨ q = 51 ∨ q = 52 ∨ q = 53 ∨ q = 54 ∨ q = 55 ∨ (q = 48 ∧ j = 11) ∨ q = 58 ∨ q = 59 ∨ q = 60 ∨ (q = 48 ∧ j = 17) ∨ (q = 48 ∧ j = 18) ∨ q = 49 ∨ q = 50) ∨ I12 q j = I q j) → (∀ q j : Nat, (False) ∨ J13 q j = J q j) → gc_WV t I12 → gc_FN I12 → gc_LO t I12 → gc_WA σ I12 → gc_FZ I12 → gc_LK κ I12 → gc_TR I12 → gc_WB wb I12 → gc_FD nw nk a2 a1 a3 I12 → ((0 ≤ a1 ∧ a1 ≤ 23) ∧ (1 ≤ a2 ∧ a2 ≤ 24) ∧ (0 ≤ a3 ∧ a3 ≤ 31) ∧ (0 ≤ v5_14 ∧ v5_14 ≤ 384) ∧ (I12 48 11 ≤ 400001) ∧ (I12 48 17 ≤ I12 48 3) ∧ (I12 48 18 = a1 + a2) ∧ (I12 2 1 = I 2 1) ∧ (I12 x 4 = I x 4) ∧ (I12 t 13 = I t 13) ∧ (I12 48 13 = (t : Int)) ∧ (I12 48 14 = (x : Int))) → gv_X (gc_E0 ws0 tb 10 (yX0_fillSpan, cX0_fillSpan, 7, none) kX0_fillSpan) (gv_Q cX0_fillSpan none sh (fun r h' => (∃ (I' : gr_I) (J' : gr_J), h' = gc_h sh I' J' A ∧ gc_Inv ro I' ∧ (∀ q j : Nat, ((q = 48 ∧ j = 3) ∨ (q = 48 ∧ j = 6) ∨ (q = 48 ∧ j = 12) ∨ q = 51 ∨ q = 52 ∨ q = 53 ∨ q = 54 ∨ q = 55 ∨ (q = 48 ∧ j = 11) ∨ q = 58 ∨ q = 59 ∨ q = 60 ∨ (q = 48 ∧ j = 17) ∨ (q = 48 ∧ j = 18) ∨ q = 49 ∨ q = 50) ∨ I' q j = I q j) ∧ (∀ q j : Nat, (False) ∨ J' q j = J q j) ∧ gc_WV t I' ∧ gc_FN I' ∧ gc_LO t I' ∧ gc_WA σ I' ∧ gc_FZ I' ∧ gc_LK κ I' ∧ gc_TR I' ∧ gc_WB wb I' ∧ r = none ∧ (0 ≤ I' 48 11) ∧ (I' 48 11 ≤ 400001) ∧ (gc_FD nw nk a2 a1 (a3 + 1) I')))) (30, [(0, .inr (.inr (some 48))), (1, .inl a1), (2, .inl a2), (3, .inl a3), (5, .inl v5_14)], [], sh, gc_h sh I12 J13 A) := by
    intro n9
    induction n9 with
    | zero => intro I12 J13 v5_14 hn; exact gz_m 53 (by omega)
    | succ n9 ih30 =>
      intro I12 J13 v5_14 hn hI12 FI12 FJ13 KWV_I12 KFN_I12 KLO_I12 KWA_I12 KFZ_I12 KLK_I12 KTR_I12 KWB_I12 KFD_I12 m_14
      obtain ⟨ha1_14, ha2_14, ha3_14, hv5_14, e0_14, e1_14, e2_14, e3_14, e4_14, e5_14, e6_14, e7_14⟩ := m_14
      have f15 := (show 0 ≤ I12 48 3 ∧ I12 48 3 ≤ 3000 from gc_in hI12 R_48 rfl rfl)
      have f16 := (show 0 ≤ I12 48 6 ∧ I12 48 6 ≤ 9000 from gc_in hI12 R_48 rfl rfl)
      have f17 := (show 0 ≤ I12 48 11 ∧ I12 48 11 ≤ 1000000 from gc_in hI12 R_48 rfl rfl)
      have f18 := (show 0 ≤ I12 48 12 ∧ I12 48 12 ≤ 1 from gc_in hI12 R_48 rfl rfl)
      have f19 := (show 0 ≤ I12 48 17 ∧ I12 48 17 ≤ 3000 from gc_in hI12 R_48 rfl rfl)
      have f20 := (show 0 ≤ I12 48 18 ∧ I12 48 18 ≤ 24 from gc_in hI12 R_48 rfl rfl)
      have f21 := (show 0 ≤ I12 t 13 ∧ I12 t 13 ≤ 384 from gc_in hI12 R_t rfl rfl)
      have f22 := (show 0 ≤ I12 x 4 ∧ I12 x 4 ≤ 24 from gc_in hI12 R_x rfl rfl)
      have f23 := (show 0 ≤ I12 2 1 ∧ I12 2 1 ≤ 32 from gc_in hI12 R_2 rfl rfl)
      have f24 := (show (-1) ≤ I12 48 13 ∧ I12 48 13 ≤ 999999 from gc_in hI12 R_48 rfl rfl)
      have f25 := (show (-1) ≤ I12 48 14 ∧ I12 48 14 ≤ 999999 from gc_in hI12 R_48 rfl rfl)
      have L85 : ∀ (I26 : gr_I) (J27 : gr_J) , gc_Inv ro I26 → (∀ q j : Nat, ((q = 48 ∧ j = 3) ∨ (q = 48 ∧ j = 6) ∨ (q = 48 ∧ j = 12) ∨ q = 51 ∨ q = 52 ∨ q = 53 ∨ q = 54 ∨ q = 55 ∨ (q = 48 ∧ j = 11) ∨ q = 58 ∨ q = 59 ∨ q = 60 ∨ (q = 48 ∧ j = 17) ∨ (q = 48 ∧ j = 18) ∨ q = 49 ∨ q = 50) ∨ I26 q j = I q j) → (∀ q j : Nat, (False) ∨ J27 q j = J q j) → gc_WV t I26 → gc_FN I26 → gc_LO t I26 → gc_WA σ I26 → gc_FZ I26 → gc_LK κ I26 → gc_TR I26 → gc_WB wb I26 → gc_FD nw nk a2 a1 a3 I26 → ((0 ≤ a1 ∧ a1 ≤ 23) ∧ (1 ≤ a2 ∧ a2 ≤ 24) ∧ (0 ≤ a3 ∧ a3 ≤ 31) ∧ (0 ≤ v5_14 ∧ v5_14 ≤ 383) ∧ (I26 48 11 ≤ 400001) ∧ (I26 48 17 ≤ I26 48 3) ∧ (I26 48 18 = a1 + a2) ∧ (I26 2 1 = I 2 1) ∧ (I26 x 4 = I x 4) ∧ (I26 t 13 = I t 13) ∧ (I26 48 13 = (t : Int)) ∧ (I26 48 14 = (x : Int))) → gv_X (gc_E0 ws0 tb 10 (yX0_fillSpan, cX0_fillSpan, 7, none) kX0_fillSpan) (gv_Q cX0_fillSpan none sh (fun r h' => (∃ (I' : gr_I) (J' : gr_J), h' = gc_h sh I' J' A ∧ gc_Inv ro I' ∧ (∀ q j : Nat, ((q = 48 ∧ j = 3) ∨ (q = 48 ∧ j = 6) ∨ (q = 48 ∧ j = 12) ∨ q = 51 ∨ q = 52 ∨ q = 53 ∨ q = 54 ∨ q = 55 ∨ (q = 48 ∧ j = 11) ∨ q = 58 ∨ q = 59 ∨ q = 60 ∨ (q = 48 ∧ j = 17) ∨ (q = 48 ∧ j = 18) ∨ q = 49 ∨ q = 50) ∨ I' q j = I q j) ∧ (∀ q j : Nat, (False) ∨ J' q j = J q j) ∧ gc_WV t I' ∧ gc_FN I' ∧ gc_LO t I' ∧ gc_WA σ I' ∧ gc_FZ I' ∧ gc_LK κ I' ∧ gc_TR I' ∧ gc_WB wb I' ∧ r = none ∧ (0 ≤ I' 48 11) ∧ (I' 48 11 ≤ 400001) ∧ (gc_FD nw nk a2 a1 (a3 + 1) I')))) (85, [(0, .inr (.inr (some 48))), (1, .inl a1), (2, .inl a2), (3, .inl a3), (5, .inl v5_14)], [], sh, gc_h sh I26 J27 A) := by
        intro I26 J27 hI26 FI26 FJ27 KWV_I26 KFN_I26 KLO_I26 KWA_I26 KFZ_I26 KLK_I26 KTR_I26 KWB_I26 KFD_I26 m_28
        clear ha1_14 ha2_14 ha3_14 hv5_14 e0_14 e1_14 e2_14 e3_14 e4_14 e5_14 e6_14 e7_14 f15 f16 f17 f18 f19 f20 f21 f22 f23 f24 f25
        obtain ⟨ha1_28, ha2_28, ha3_28, hv5_14_28, e0_28, e1_28, e2_28, e3_28, e4_28, e5_28, e6_28, e7_28⟩ := m_28
        have f29 := (show 0 ≤ I26 48 3 ∧ I26 48 3 ≤ 3000 from gc_in hI26 R_48 rfl rfl)
        have f30 := (show 0 ≤ I26 48 6 ∧ I26 48 6 ≤ 9000 from gc_in hI26 R_48 rfl rfl)
        have f31 := (show 0 ≤ I26 48 11 ∧ I26 48 11 ≤ 1000000 from gc_in hI26 R_48 rfl rfl)
        have f32 := (show 0 ≤ I26 48 12 ∧ I26 48 12 ≤ 1 from gc_in hI26 R_48 rfl rfl)
        have f33 := (show 0 ≤ I26 48 17 ∧ I26 48 17 ≤ 3000 from gc_in hI26 R_48 rfl rfl)
        have f34 := (show 0 ≤ I26 48 18 ∧ I26 48 18 ≤ 24 from gc_in hI26 R_48 rfl rfl)
        have f35 := (show 0 ≤ I26 t 13 ∧ I26 t 13 ≤ 384 from gc_in hI26 R_t rfl rfl)
        have f36 := (show 0 ≤ I26 x 4 ∧ I26 x 4 ≤ 24 from gc_in hI26 R_x rfl rfl)
        have f37 := (show 0 ≤ I26 2 1 ∧ I26 2 1 ≤ 32 from gc_in hI26 R_2 rfl rfl)
        have f38 := (show (-1) ≤ I26 48 13 ∧ I26 48 13 ≤ 999999 from gc_in hI26 R_48 rfl rfl)
        have f39 := (show (-1) ≤ I26 48 14 ∧ I26 48 14 ≤ 999999 from gc_in hI26 R_48 rfl rfl)
        refine gv_run 2 true hD (pc' := 30) (lv' := [(5, .inl (v5_14 + 1)), (0, .inr (.inr (some 48))), (1, .inl a1), (2, .inl a2), (3, .inl a3)]) (st' := []) (h' := gc_h sh I26 J27 A) (C := ((True ∧ True) ∧ True)) rfl ⟨⟨trivial, trivial⟩, trivial⟩ ?_
        refine gv_pick [1, 2, 3, 4, 0] rfl ?_
        exact ih30 I26 J27 (v5_14 + 1) (by exact gz_m 54 (by omega)) hI26 FI26 FJ27 KWV_I26 KFN_I26 KLO_I26 KWA_I26 KFZ_I26 KLK_I26 KTR_I26 KWB_I26 KFD_I26 (by exact gz_m 55 (by omega))
      have L91 : ((0 ≤ a1 ∧ a1 ≤ 23) ∧ (1 ≤ a2 ∧ a2 ≤ 24) ∧ (0 ≤ a3 ∧ a3 ≤ 31) ∧ (I12 48 11 ≤ 400001) ∧ (I12 48 17 ≤ I12 48 3) ∧ (I12 48 18 = a1 + a2) ∧ (I12 2 1 = I 2 1) ∧ (I12 x 4 = I x 4) ∧ (I12 t 13 = I t 13) ∧ (I12 48 13 = (t : Int)) ∧ (I12 48 14 = (x : Int))) → gv_X (gc_E0 ws0 tb 10 (yX0_fillSpan, cX0_fillSpan, 7, none) kX0_fillSpan) (gv_Q cX0_fillSpan none sh (fun r h' => (∃ (I' : gr_I) (J' : gr_J), h' = gc_h sh I' J' A ∧ gc_Inv ro I' ∧ (∀ q j : Nat, ((q = 48 ∧ j = 3) ∨ (q = 48 ∧ j = 6) ∨ (q = 48 ∧ j = 12) ∨ q = 51 ∨ q = 52 ∨ q = 53 ∨ q = 54 ∨ q = 55 ∨ (q = 48 ∧ j = 11) ∨ q = 58 ∨ q = 59 ∨ q = 60 ∨ (q = 48 ∧ j = 17) ∨ (q = 48 ∧ j = 18) ∨ q = 49 ∨ q = 50) ∨ I' q j = I q j) ∧ (∀ q j : Nat, (False) ∨ J' q j = J q j) ∧ gc_WV t I' ∧ gc_FN I' ∧ gc_LO t I' ∧ gc_WA σ I' ∧ gc_FZ I' ∧ gc_LK κ I' ∧ gc_TR I' ∧ gc_WB wb I' ∧ r = none ∧ (0 ≤ I' 48 11) ∧ (I' 48 11 ≤ 400001) ∧ (gc_FD nw nk a2 a1 (a3 + 1) I')))) (91, [(0, .inr (.inr (some 48))), (1, .inl a1), (2, .inl a2), (3, .inl a3)], [], sh, gc_h sh I12 J13 A) := by
        intro m_40
        obtain ⟨ha1_40, ha2_40, ha3_40, e0_40, e1_40, e2_40, e3_40, e4_40, e5_40, e6_40, e7_40⟩ := m_40
        have f41 := (show 0 ≤ I12 48 3 ∧ I12 48 3 ≤ 3000 from gc_in hI12 R_48 rfl rfl)
        have f42 := (show 0 ≤ I12 48 6 ∧ I12 48 6 ≤ 9000 from gc_in hI12 R_48 rfl rfl)
        have f43 := (show 0 ≤ I12 48 11 ∧ I12 48 11 ≤ 1000000 from gc_in hI12 R_48 rfl rfl)
        have f44 := (show 0 ≤ I12 48 12 ∧ I12 48 12 ≤ 1 from gc_in hI12 R_48 rfl rfl)
        have f45 := (show 0 ≤ I12 48 17 ∧ I12 48 17 ≤ 3000 from gc_in hI12 R_48 rfl rfl)
        have f46 := (show 0 ≤ I12 48 18 ∧ I12 48 18 ≤ 24 from gc_in hI12 R_48 rfl rfl)
        have f47 := (show 0 ≤ I12 t 13 ∧ I12 t 13 ≤ 384 from gc_in hI12 R_t rfl rfl)
        have f48 := (show 0 ≤ I12 x 4 ∧ I12 x 4 ≤ 24 from gc_in hI12 R_x rfl rfl)
        have f49 := (show 0 ≤ I12 2 1 ∧ I12 2 1 ≤ 32 from gc_in hI12 R_2 rfl rfl)
        have f50 := (show (-1) ≤ I12 48 13 ∧ I12 48 13 ≤ 999999 from gc_in hI12 R_48 rfl rfl)
        have f51 := (show (-1) ≤ I12 48 14 ∧ I12 48 14 ≤ 999999 from gc_in hI12 R_48 rfl rfl)
        refine gv_run 3 true hD (pc' := 94) (lv' := [(0, .inr (.inr (some 48))), (1, .inl a1), (2, .inl a2), (3, .inl a3)]) (st' := [.inl a3, .inl a2, .inl a1]) (h' := gc_h sh I12 J13 A) (C := (((True ∧ True) ∧ True) ∧ True)) rfl ⟨⟨⟨trivial, trivial⟩, trivial⟩, trivial⟩ ?_
        obtain ⟨r52, h52, E52, P52⟩ := d_X0_spanAt (ws0 := ws0) (tb := tb) hws htb sh ro I12 J13 A hI12  a1 a2 a3 hb   ⟨by exact gz_m 56 (by omega), by exact gz_m 57 (by omega)⟩ ⟨by exact gz_m 58 (by omega), by exact gz_m 59 (by omega)⟩ ⟨by exact gz_m 60 (by omega), by exact gz_m 61 (by omega)⟩  
        obtain ⟨rfl, ⟨z52, rfl, q52⟩⟩ := P52
        refine gv_callS hD rfl (As := [.inl a1, .inl a2, .inl a3]) (st := []) rfl (gc_lS0 hws rfl) (Nat.le_of_ble_eq_true rfl) (gz_Ev_mono (d := 1) (by decide) E52) ?_
        show gv_X _ _ (97, [(0, .inr (.inr (some 48))), (1, .inl a1), (2, .inl a2), (3, .inl a3)], [.inl z52], sh, gc_h sh I12 J13 A)
        refine gv_run 2 true hD (pc' := 100) (lv' := [(5, .inl z52), (0, .inr (.inr (some 48))), (1, .inl a1), (2, .inl a2), (3, .inl a3)]) (st' := [.inr (.inr (some 48))]) (h' := gc_h sh I12 J13 A) (C := ((True ∧ True) ∧ True)) rfl ⟨⟨trivial, trivial⟩, trivial⟩ ?_
        refine gv_get hD rfl rfl S_48 ⟨by decide, B_48⟩ (gc_hA S_48 rfl A_48_1) ?_
        show gv_X _ _ (103, [(5, .inl z52), (0, .inr (.inr (some 48))), (1, .inl a1), (2, .inl a2), (3, .inl a3)], [.inr (.inr (some 49))], sh, gc_h sh I12 J13 A)
        refine gv_run 2 true hD (pc' := 106) (lv' := [(5, .inl z52), (0, .inr (.inr (some 48))), (1, .inl a1), (2, .inl a2), (3, .inl a3)]) (st' := [.inr (.inr (some 48)), .inl z52, .inr (.inr (some 49))]) (h' := gc_h sh I12 J13 A) (C := ((True ∧ True) ∧ True)) rfl ⟨⟨trivial, trivial⟩, trivial⟩ ?_
        have f53 := (show 0 ≤ I12 48 17 ∧ I12 48 17 ≤ 3000 from gc_in hI12 R_48 rfl rfl)
        refine gv_get hD rfl rfl S_48 ⟨by decide, B_48⟩ (gc_hI S_48 rfl) ?_
        show gv_X _ _ (109, [(5, .inl z52), (0, .inr (.inr (some 48))), (1, .inl a1), (2, .inl a2), (3, .inl a3)], [.inl (I12 48 17), .inl z52, .inr (.inr (some 49))], sh, gc_h sh I12 J13 A)
        refine gv_iast hD rfl S_49 ⟨by decide, B_49⟩ ⟨by exact gz_m 62 (by omega), by exact gz_m 63 (by omega)⟩ ?_
        refine gc_st hI12 S_49 rfl R_49 (lo := 0) (hi := 3000) rfl rfl (by exact gz_m 64 (by omega)) (by exact gz_m 65 (by omega)) (fun I54 hI54 q55 p55 => ?_)
        have FI54 := gc_frs (W := fun q j => (q = 48 ∧ j = 3) ∨ (q = 48 ∧ j = 6) ∨ (q = 48 ∧ j = 12) ∨ q = 51 ∨ q = 52 ∨ q = 53 ∨ q = 54 ∨ q = 55 ∨ (q = 48 ∧ j = 11) ∨ q = 58 ∨ q = 59 ∨ q = 60 ∨ (q = 48 ∧ j = 17) ∨ (q = 48 ∧ j = 18) ∨ q = 49 ∨ q = 50) FI12 (Or.inr (Or.inr (Or.inr (Or.inr (Or.inr (Or.inr (Or.inr (Or.inr (Or.inr (Or.inr (Or.inr (Or.inr (Or.inr (Or.inr (Or.inl rfl))))))))))))))) p55
        have t56 := p55 48 3 (fun h => absurd h.1 (by decide))
        have t57 := p55 48 6 (fun h => absurd h.1 (by decide))
        have t58 := p55 48 11 (fun h => absurd h.1 (by decide))
        have t59 := p55 48 12 (fun h => absurd h.1 (by decide))
        have t60 := p55 48 17 (fun h => absurd h.1 (by decide))
        have t61 := p55 48 18 (fun h => absurd h.1 (by decide))
        have t62 := p55 t 13 (fun h => absurd h.1 N_t__49)
        have t63 := p55 x 4 (fun h => absurd h.1 N_x__49)
        have t64 := p55 2 1 (fun h => absurd h.1 (by decide))
        have t65 := p55 48 13 (fun h => absurd h.1 (by decide))
        have t66 := p55 48 14 (fun h => absurd h.1 (by decide))
        have f67 := (show 0 ≤ I54 48 3 ∧ I54 48 3 ≤ 3000 from gc_in hI54 R_48 rfl rfl)
        have f68 := (show 0 ≤ I54 48 6 ∧ I54 48 6 ≤ 9000 from gc_in hI54 R_48 rfl rfl)
        have f69 := (show 0 ≤ I54 48 11 ∧ I54 48 11 ≤ 1000000 from gc_in hI54 R_48 rfl rfl)
        have f70 := (show 0 ≤ I54 48 12 ∧ I54 48 12 ≤ 1 from gc_in hI54 R_48 rfl rfl)
        have f71 := (show 0 ≤ I54 48 17 ∧ I54 48 17 ≤ 3000 from gc_in hI54 R_48 rfl rfl)
        have f72 := (show 0 ≤ I54 48 18 ∧ I54 48 18 ≤ 24 from gc_in hI54 R_48 rfl rfl)
        have f73 := (show 0 ≤ I54 t 13 ∧ I54 t 13 ≤ 384 from gc_in hI54 R_t rfl rfl)
        have f74 := (show 0 ≤ I54 x 4 ∧ I54 x 4 ≤ 24 from gc_in hI54 R_x rfl rfl)
        have f75 := (show 0 ≤ I54 2 1 ∧ I54 2 1 ≤ 32 from gc_in hI54 R_2 rfl rfl)
        have f76 := (show (-1) ≤ I54 48 13 ∧ I54 48 13 ≤ 999999 from gc_in hI54 R_48 rfl rfl)
        have f77 := (show (-1) ≤ I54 48 14 ∧ I54 48 14 ≤ 999999 from gc_in hI54 R_48 rfl rfl)
        have KWV_I54 := gc_WV_fr KWV_I12 (p55 48 6 (fun h => absurd h.1 (by decide))) (p55 t 13 (fun h => absurd h.1 N_t__49)) (fun k => p55 54 k (fun h => absurd h.1 (by decide)))
        have KLO_I54 := gc_LO_fr KLO_I12 (p55 2 1 (fun h => absurd h.1 (by decide))) (p55 t 13 (fun h => absurd h.1 N_t__49)) (fun k => p55 56 k (fun h => absurd h.1 (by decide))) (fun k => p55 57 k (fun h => absurd h.1 (by decide)))
        have KWA_I54 := gc_WA_fr KWA_I12 (p55 48 6 (fun h => absurd h.1 (by decide))) (Int.le_of_eq (p55 48 3 (fun h => absurd h.1 (by decide))).symm) (fun k => p55 53 k (fun h => absurd h.1 (by decide))) (fun k => p55 54 k (fun h => absurd h.1 (by decide))) (fun k => p55 55 k (fun h => absurd h.1 (by decide)))
        have KLK_I54 := gc_LK_fr KLK_I12 (p55 2 1 (fun h => absurd h.1 (by decide))) (fun k => p55 56 k (fun h => absurd h.1 (by decide))) (fun k => p55 57 k (fun h => absurd h.1 (by decide)))
        have KTR_I54 := gc_TR_fr KTR_I12 (p55 48 11 (fun h => absurd h.1 (by decide))) (p55 48 12 (fun h => absurd h.1 (by decide)))
        have KWB_I54 := gc_WB_fr KWB_I12 (p55 48 6 (fun h => absurd h.1 (by decide))) (fun k => p55 54 k (fun h => absurd h.1 (by decide)))
        show gv_X _ _ (110, [(5, .inl z52), (0, .inr (.inr (some 48))), (1, .inl a1), (2, .inl a2), (3, .inl a3)], [], sh, gc_h sh I54 J13 A)
        refine gv_run 1 true hD (pc' := 111) (lv' := [(5, .inl z52), (0, .inr (.inr (some 48))), (1, .inl a1), (2, .inl a2), (3, .inl a3)]) (st' := [.inr (.inr (some 48))]) (h' := gc_h sh I54 J13 A) (C := (True ∧ True)) rfl ⟨trivial, trivial⟩ ?_
        refine gv_get hD rfl rfl S_48 ⟨by decide, B_48⟩ (gc_hA S_48 rfl A_48_2) ?_
        show gv_X _ _ (114, [(5, .inl z52), (0, .inr (.inr (some 48))), (1, .inl a1), (2, .inl a2), (3, .inl a3)], [.inr (.inr (some 50))], sh, gc_h sh I54 J13 A)
        refine gv_run 2 true hD (pc' := 117) (lv' := [(5, .inl z52), (0, .inr (.inr (some 48))), (1, .inl a1), (2, .inl a2), (3, .inl a3)]) (st' := [.inr (.inr (some 48)), .inl z52, .inr (.inr (some 50))]) (h' := gc_h sh I54 J13 A) (C := ((True ∧ True) ∧ True)) rfl ⟨⟨trivial, trivial⟩, trivial⟩ ?_
        have f78 := (show 0 ≤ I54 48 3 ∧ I54 48 3 ≤ 3000 from gc_in hI54 R_48 rfl rfl)
        refine gv_get hD rfl rfl S_48 ⟨by decide, B_48⟩ (gc_hI S_48 rfl) ?_
        show gv_X _ _ (120, [(5, .inl z52), (0, .inr (.inr (some 48))), (1, .inl a1), (2, .inl a2), (3, .inl a3)], [.inl (I54 48 3), .inl z52, .inr (.inr (some 50))], sh, gc_h sh I54 J13 A)
        refine gv_run 1 true hD (pc' := 121) (lv' := [(5, .inl z52), (0, .inr (.inr (some 48))), (1, .inl a1), (2, .inl a2), (3, .inl a3)]) (st' := [.inr (.inr (some 48)), .inl (I54 48 3), .inl z52, .inr (.inr (some 50))]) (h' := gc_h sh I54 J13 A) (C := (True ∧ True)) rfl ⟨trivial, trivial⟩ ?_
        have f79 := (show 0 ≤ I54 48 17 ∧ I54 48 17 ≤ 3000 from gc_in hI54 R_48 rfl rfl)
        refine gv_get hD rfl rfl S_48 ⟨by decide, B_48⟩ (gc_hI S_48 rfl) ?_
        show gv_X _ _ (124, [(5, .inl z52), (0, .inr (.inr (some 48))), (1, .inl a1), (2, .inl a2), (3, .inl a3)], [.inl (I54 48 17), .inl (I54 48 3), .inl z52, .inr (.inr (some 50))], sh, gc_h sh I54 J13 A)
        refine gv_run 1 true hD (pc' := 125) (lv' := [(5, .inl z52), (0, .inr (.inr (some 48))), (1, .inl a1), (2, .inl a2), (3, .inl a3)]) (st' := [.inl ((I54 48 3) - (I54 48 17)), .inl z52, .inr (.inr (some 50))]) (h' := gc_h sh I54 J13 A) (C := (True ∧ True)) rfl ⟨trivial, trivial⟩ ?_
        refine gv_iast hD rfl S_50 ⟨by decide, B_50⟩ ⟨by exact gz_m 66 (by omega), by exact gz_m 67 (by omega)⟩ ?_
        refine gc_st hI54 S_50 rfl R_50 (lo := 0) (hi := 3000) rfl rfl (by exact gz_m 68 (by omega)) (by exact gz_m 69 (by omega)) (fun I80 hI80 q81 p81 => ?_)
        have FI80 := gc_frs (W := fun q j => (q = 48 ∧ j = 3) ∨ (q = 48 ∧ j = 6) ∨ (q = 48 ∧ j = 12) ∨ q = 51 ∨ q = 52 ∨ q = 53 ∨ q = 54 ∨ q = 55 ∨ (q = 48 ∧ j = 11) ∨ q = 58 ∨ q = 59 ∨ q = 60 ∨ (q = 48 ∧ j = 17) ∨ (q = 48 ∧ j = 18) ∨ q = 49 ∨ q = 50) FI54 (Or.inr (Or.inr (Or.inr (Or.inr (Or.inr (Or.inr (Or.inr (Or.inr (Or.inr (Or.inr (Or.inr (Or.inr (Or.inr (Or.inr (Or.inr rfl))))))))))))))) p81
        have t82 := p81 48 3 (fun h => absurd h.1 (by decide))
        have t83 := p81 48 6 (fun h => absurd h.1 (by decide))
        have t84 := p81 48 11 (fun h => absurd h.1 (by decide))
        have t85 := p81 48 12 (fun h => absurd h.1 (by decide))
        have t86 := p81 48 17 (fun h => absurd h.1 (by decide))
        have t87 := p81 48 18 (fun h => absurd h.1 (by decide))
        have t88 := p81 t 13 (fun h => absurd h.1 N_t__50)
        have t89 := p81 x 4 (fun h => absurd h.1 N_x__50)
        have t90 := p81 2 1 (fun h => absurd h.1 (by decide))
        have t91 := p81 48 13 (fun h => absurd h.1 (by decide))
        have t92 := p81 48 14 (fun h => absurd h.1 (by decide))
        have f93 := (show 0 ≤ I80 48 3 ∧ I80 48 3 ≤ 3000 from gc_in hI80 R_48 rfl rfl)
        have f94 := (show 0 ≤ I80 48 6 ∧ I80 48 6 ≤ 9000 from gc_in hI80 R_48 rfl rfl)
        have f95 := (show 0 ≤ I80 48 11 ∧ I80 48 11 ≤ 1000000 from gc_in hI80 R_48 rfl rfl)
        have f96 := (show 0 ≤ I80 48 12 ∧ I80 48 12 ≤ 1 from gc_in hI80 R_48 rfl rfl)
        have f97 := (show 0 ≤ I80 48 17 ∧ I80 48 17 ≤ 3000 from gc_in hI80 R_48 rfl rfl)
        have f98 := (show 0 ≤ I80 48 18 ∧ I80 48 18 ≤ 24 from gc_in hI80 R_48 rfl rfl)
        have f99 := (show 0 ≤ I80 t 13 ∧ I80 t 13 ≤ 384 from gc_in hI80 R_t rfl rfl)
        have f100 := (show 0 ≤ I80 x 4 ∧ I80 x 4 ≤ 24 from gc_in hI80 R_x rfl rfl)
        have f101 := (show 0 ≤ I80 2 1 ∧ I80 2 1 ≤ 32 from gc_in hI80 R_2 rfl rfl)
        have f102 := (show (-1) ≤ I80 48 13 ∧ I80 48 13 ≤ 999999 from gc_in hI80 R_48 rfl rfl)
        have f103 := (show (-1) ≤ I80 48 14 ∧ I80 48 14 ≤ 999999 from gc_in hI80 R_48 rfl rfl)
        have KWV_I80 := gc_WV_fr KWV_I54 (p81 48 6 (fun h => absurd h.1 (by decide))) (p81 t 13 (fun h => absurd h.1 N_t__50)) (fun k => p81 54 k (fun h => absurd h.1 (by decide)))
        have KLO_I80 := gc_LO_fr KLO_I54 (p81 2 1 (fun h => absurd h.1 (by decide))) (p81 t 13 (fun h => absurd h.1 N_t__50)) (fun k => p81 56 k (fun h => absurd h.1 (by decide))) (fun k => p81 57 k (fun h => absurd h.1 (by decide)))
        have KWA_I80 := gc_WA_fr KWA_I54 (p81 48 6 (fun h => absurd h.1 (by decide))) (Int.le_of_eq (p81 48 3 (fun h => absurd h.1 (by decide))).symm) (fun k => p81 53 k (fun h => absurd h.1 (by decide))) (fun k => p81 54 k (fun h => absurd h.1 (by decide))) (fun k => p81 55 k (fun h => absurd h.1 (by decide)))
        have KLK_I80 := gc_LK_fr KLK_I54 (p81 2 1 (fun h => absurd h.1 (by decide))) (fun k => p81 56 k (fun h => absurd h.1 (by decide))) (fun k => p81 57 k (fun h => absurd h.1 (by decide)))
        have KTR_I80 := gc_TR_fr KTR_I54 (p81 48 11 (fun h => absurd h.1 (by decide))) (p81 48 12 (fun h => absurd h.1 (by decide)))
        have KWB_I80 := gc_WB_fr KWB_I54 (p81 48 6 (fun h => absurd h.1 (by decide))) (fun k => p81 54 k (fun h => absurd h.1 (by decide)))
        have KFN_I80 : gc_FN I80 := gc_FN_2 KFN_I12 p55 p81 (by exact gz_m 70 (by omega))
        have KFZ_I80 : gc_FZ I80 := gc_FZ_2 KFZ_I12 p55 p81 (by exact gz_m 71 (by omega))
        show gv_X _ _ (126, [(5, .inl z52), (0, .inr (.inr (some 48))), (1, .inl a1), (2, .inl a2), (3, .inl a3)], [], sh, gc_h sh I80 J13 A)
        exact gv_vret hD rfl ⟨I80, J13, rfl, hI80, FI80, FJ13, KWV_I80, KFN_I80, KLO_I80, KWA_I80, KFZ_I80, KLK_I80, KTR_I80, KWB_I80, ⟨rfl, by exact gz_m 72 (by omega), by exact gz_m 73 (by omega), (gc_FD_nx KFD_I12 p55 p81 (by exact gz_m 74 (by omega)) (by exact gz_m 75 (by omega)))⟩⟩
      refine gv_run 2 true hD (pc' := 33) (lv' := [(0, .inr (.inr (some 48))), (1, .inl a1), (2, .inl a2), (3, .inl a3), (5, .inl v5_14)]) (st' := [.inr (.inr (some 48)), .inl v5_14]) (h' := gc_h sh I12 J13 A) (C := ((True ∧ True) ∧ True)) rfl ⟨⟨trivial, trivial⟩, trivial⟩ ?_
      refine gv_get hD rfl rfl S_48 ⟨by decide, B_48⟩ (gc_hA S_48 rfl A_48_15) ?_
      show gv_X _ _ (36, [(0, .inr (.inr (some 48))), (1, .inl a1), (2, .inl a2), (3, .inl a3), (5, .inl v5_14)], [.inr (.inr (some 56)), .inl v5_14], sh, gc_h sh I12 J13 A)
      refine gv_run 3 true hD (pc' := 39) (lv' := [(0, .inr (.inr (some 48))), (1, .inl a1), (2, .inl a2), (3, .inl a3), (5, .inl v5_14)]) (st' := [.inl (a3 + 1), .inr (.inr (some 56)), .inl v5_14]) (h' := gc_h sh I12 J13 A) (C := (((True ∧ True) ∧ True) ∧ True)) rfl ⟨⟨⟨trivial, trivial⟩, trivial⟩, trivial⟩ ?_
      have f104 := (show 0 ≤ I12 56 (Int.toNat (a3 + 1)) ∧ I12 56 (Int.toNat (a3 + 1)) ≤ 384 from gc_in hI12 R_56 rfl rfl)
      refine gv_iald hD rfl S_56 rfl ⟨by decide, B_56⟩ ⟨by exact gz_m 76 (by omega), by exact gz_m 77 (by omega)⟩ (gc_iI S_56 rfl) ?_
      show gv_X _ _ (40, [(0, .inr (.inr (some 48))), (1, .inl a1), (2, .inl a2), (3, .inl a3), (5, .inl v5_14)], [.inl (I12 56 (Int.toNat (a3 + 1))), .inl v5_14], sh, gc_h sh I12 J13 A)
      have t105 := (FI12 56 (Int.toNat (a3 + 1))).resolve_left (fun h => h.elim (fun h => absurd h.1 (by decide)) (fun h => h.elim (fun h => absurd h.1 (by decide)) (fun h => h.elim (fun h => absurd h.1 (by decide)) (fun h => h.elim (fun h => absurd h (by decide)) (fun h => h.elim (fun h => absurd h (by decide)) (fun h => h.elim (fun h => absurd h (by decide)) (fun h => h.elim (fun h => absurd h (by decide)) (fun h => h.elim (fun h => absurd h (by decide)) (fun h => h.elim (fun h => absurd h.1 (by decide)) (fun h => h.elim (fun h => absurd h (by decide)) (fun h => h.elim (fun h => absurd h (by decide)) (fun h => h.elim (fun h => absurd h (by decide)) (fun h => h.elim (fun h => absurd h.1 (by decide)) (fun h => h.elim (fun h => absurd h.1 (by decide)) (fun h => h.elim (fun h => absurd h (by decide)) (fun h => absurd h (by decide)))))))))))))))))
      have t106 := KLO_I12.2 (a3 + 1) (by exact gz_m 78 (by omega)) (by exact gz_m 79 (by omega))
      refine gv_icmp_ge (t := 91) hD rfl rfl ⟨⟨by exact gz_m 80 (by omega), by exact gz_m 81 (by omega)⟩, ⟨by exact gz_m 82 (by omega), by exact gz_m 83 (by omega)⟩⟩ (fun c107 => ?_) (fun c107 => ?_)
      · show gv_X _ _ (91, [(0, .inr (.inr (some 48))), (1, .inl a1), (2, .inl a2), (3, .inl a3), (5, .inl v5_14)], [], sh, gc_h sh I12 J13 A)
        refine gv_pick [0, 1, 2, 3] rfl ?_
        exact L91 (by exact gz_m 84 (by omega))
      · show gv_X _ _ (43, [(0, .inr (.inr (some 48))), (1, .inl a1), (2, .inl a2), (3, .inl a3), (5, .inl v5_14)], [], sh, gc_h sh I12 J13 A)
        refine gv_run 1 true hD (pc' := 44) (lv' := [(0, .inr (.inr (some 48))), (1, .inl a1), (2, .inl a2), (3, .inl a3), (5, .inl v5_14)]) (st' := [.inr (.inr (some 48))]) (h' := gc_h sh I12 J13 A) (C := (True ∧ True)) rfl ⟨trivial, trivial⟩ ?_
        have f108 := (show 0 ≤ I12 48 12 ∧ I12 48 12 ≤ 1 from gc_in hI12 R_48 rfl rfl)
        refine gv_get hD rfl rfl S_48 ⟨by decide, B_48⟩ (gc_hI S_48 rfl) ?_
        show gv_X _ _ (47, [(0, .inr (.inr (some 48))), (1, .inl a1), (2, .inl a2), (3, .inl a3), (5, .inl v5_14)], [.inl (I12 48 12)], sh, gc_h sh I12 J13 A)
        refine gv_if_ne (t := 91) hD rfl rfl ⟨by exact gz_m 85 (by omega), by exact gz_m 86 (by omega)⟩ (fun c109 => ?_) (fun c109 => ?_)
        · show gv_X _ _ (91, [(0, .inr (.inr (some 48))), (1, .inl a1), (2, .inl a2), (3, .inl a3), (5, .inl v5_14)], [], sh, gc_h sh I12 J13 A)
          refine gv_pick [0, 1, 2, 3] rfl ?_
          exact L91 (by exact gz_m 87 (by omega))
        · show gv_X _ _ (50, [(0, .inr (.inr (some 48))), (1, .inl a1), (2, .inl a2), (3, .inl a3), (5, .inl v5_14)], [], sh, gc_h sh I12 J13 A)
          refine gv_run 1 true hD (pc' := 51) (lv' := [(0, .inr (.inr (some 48))), (1, .inl a1), (2, .inl a2), (3, .inl a3), (5, .inl v5_14)]) (st' := [.inr (.inr (some 48))]) (h' := gc_h sh I12 J13 A) (C := (True ∧ True)) rfl ⟨trivial, trivial⟩ ?_
          refine gv_get hD rfl rfl S_48 ⟨by decide, B_48⟩ (gc_h5 (t := t) S_48 rfl (by exact gz_m 88 (by omega))) ?_
          show gv_X _ _ (54, [(0, .inr (.inr (some 48))), (1, .inl a1), (2, .inl a2), (3, .inl a3), (5, .inl v5_14)], [.inr (.inr (some t))], sh, gc_h sh I12 J13 A)
          refine gv_get hD rfl rfl S_t ⟨by decide, B_t⟩ (gc_hA S_t rfl A_t_14) ?_
          show gv_X _ _ (57, [(0, .inr (.inr (some 48))), (1, .inl a1), (2, .inl a2), (3, .inl a3), (5, .inl v5_14)], [.inr (.inr (some (t + 16)))], sh, gc_h sh I12 J13 A)
          refine gv_run 1 true hD (pc' := 58) (lv' := [(0, .inr (.inr (some 48))), (1, .inl a1), (2, .inl a2), (3, .inl a3), (5, .inl v5_14)]) (st' := [.inr (.inr (some 48)), .inr (.inr (some (t + 16)))]) (h' := gc_h sh I12 J13 A) (C := (True ∧ True)) rfl ⟨trivial, trivial⟩ ?_
          refine gv_get hD rfl rfl S_48 ⟨by decide, B_48⟩ (gc_hA S_48 rfl A_48_16) ?_
          show gv_X _ _ (61, [(0, .inr (.inr (some 48))), (1, .inl a1), (2, .inl a2), (3, .inl a3), (5, .inl v5_14)], [.inr (.inr (some 57)), .inr (.inr (some (t + 16)))], sh, gc_h sh I12 J13 A)
          refine gv_run 1 true hD (pc' := 63) (lv' := [(0, .inr (.inr (some 48))), (1, .inl a1), (2, .inl a2), (3, .inl a3), (5, .inl v5_14)]) (st' := [.inl v5_14, .inr (.inr (some 57)), .inr (.inr (some (t + 16)))]) (h' := gc_h sh I12 J13 A) (C := (True ∧ True)) rfl ⟨trivial, trivial⟩ ?_
          have t110 := KLO_I12.1 v5_14 (by exact gz_m 89 (by omega)) (by exact gz_m 90 (by omega))
          have f111 := (show 0 ≤ I12 57 (Int.toNat v5_14) ∧ I12 57 (Int.toNat v5_14) ≤ 383 from gc_in hI12 R_57 rfl rfl)
          refine gv_iald hD rfl S_57 rfl ⟨by decide, B_57⟩ ⟨by exact gz_m 91 (by omega), by exact gz_m 92 (by omega)⟩ (gc_iI S_57 rfl) ?_
          show gv_X _ _ (64, [(0, .inr (.inr (some 48))), (1, .inl a1), (2, .inl a2), (3, .inl a3), (5, .inl v5_14)], [.inl (I12 57 (Int.toNat v5_14)), .inr (.inr (some (t + 16)))], sh, gc_h sh I12 J13 A)
          obtain ⟨t112_, A_t112, h_t112, G_t112, U_t112, V_t112⟩ := (gc_Ls_fr x2 ((FI12 t 13).resolve_left (by exact gz_m 93 (by omega))) (fun q hL hq d k hd => (FI12 (q + d) k).resolve_left (by have := gc_dj_LT hL h_t; exact gz_m 94 (by omega)))) (Int.toNat ((I12 57 (Int.toNat v5_14)))) (by exact gz_m 95 (by omega))
          obtain ⟨S_t112, R_t112, B_t112, A_t112_5, S_t112__1, R_t112__1, B_t112__1, A_t112_6, S_t112__2, R_t112__2, B_t112__2, A_t112_7, S_t112__3, R_t112__3, B_t112__3, A_t112_9, S_t112__4, R_t112__4, B_t112__4, A_t112_10, S_t112__5, R_t112__5, B_t112__5, A_t112_11, S_t112__6, R_t112__6, B_t112__6, A_t112_13, S_t112__7, R_t112__7, B_t112__7, A_t112_15, S_t112__8, R_t112__8, B_t112__8⟩ := id h_t112
          refine gv_aald hD rfl S_t_16 ⟨by decide, by decide⟩ ⟨by decide, B_t_16⟩ ⟨by exact gz_m 96 (by omega), by exact gz_m 97 (by omega)⟩ ((gc_aA S_t_16 rfl).trans A_t112) ?_
          show gv_X _ _ (65, [(0, .inr (.inr (some 48))), (1, .inl a1), (2, .inl a2), (3, .inl a3), (5, .inl v5_14)], [.inr (.inr (some t112_))], sh, gc_h sh I12 J13 A)
          refine gv_run 2 true hD (pc' := 69) (lv' := [(6, .inr (.inr (some t112_))), (0, .inr (.inr (some 48))), (1, .inl a1), (2, .inl a2), (3, .inl a3), (5, .inl v5_14)]) (st' := [.inr (.inr (some t112_))]) (h' := gc_h sh I12 J13 A) (C := ((True ∧ True) ∧ True)) rfl ⟨⟨trivial, trivial⟩, trivial⟩ ?_
          have f113 := (show 0 ≤ I12 t112_ 4 ∧ I12 t112_ 4 ≤ 6 from gc_in hI12 R_t112 rfl rfl)
          refine gv_get hD rfl rfl S_t112 ⟨by decide, B_t112⟩ (gc_hI S_t112 rfl) ?_
          show gv_X _ _ (72, [(6, .inr (.inr (some t112_))), (0, .inr (.inr (some 48))), (1, .inl a1), (2, .inl a2), (3, .inl a3), (5, .inl v5_14)], [.inl (I12 t112_ 4)], sh, gc_h sh I12 J13 A)
          refine gv_run 1 true hD (pc' := 73) (lv' := [(6, .inr (.inr (some t112_))), (0, .inr (.inr (some 48))), (1, .inl a1), (2, .inl a2), (3, .inl a3), (5, .inl v5_14)]) (st' := [.inl a2, .inl (I12 t112_ 4)]) (h' := gc_h sh I12 J13 A) (C := (True ∧ True)) rfl ⟨trivial, trivial⟩ ?_
          refine gv_icmp_gt (t := 85) hD rfl rfl ⟨⟨by exact gz_m 98 (by omega), by exact gz_m 99 (by omega)⟩, ⟨by exact gz_m 100 (by omega), by exact gz_m 101 (by omega)⟩⟩ (fun c114 => ?_) (fun c114 => ?_)
          · show gv_X _ _ (85, [(6, .inr (.inr (some t112_))), (0, .inr (.inr (some 48))), (1, .inl a1), (2, .inl a2), (3, .inl a3), (5, .inl v5_14)], [], sh, gc_h sh I12 J13 A)
            refine gv_pick [1, 2, 3, 4, 5] rfl ?_
            exact L85 I12 J13 hI12 FI12 FJ13 KWV_I12 KFN_I12 KLO_I12 KWA_I12 KFZ_I12 KLK_I12 KTR_I12 KWB_I12 KFD_I12 (by exact gz_m 102 (by omega))
          · show gv_X _ _ (76, [(6, .inr (.inr (some t112_))), (0, .inr (.inr (some 48))), (1, .inl a1), (2, .inl a2), (3, .inl a3), (5, .inl v5_14)], [], sh, gc_h sh I12 J13 A)
            refine gv_run 5 true hD (pc' := 82) (lv' := [(6, .inr (.inr (some t112_))), (0, .inr (.inr (some 48))), (1, .inl a1), (2, .inl a2), (3, .inl a3), (5, .inl v5_14)]) (st' := [.inl 0, .inl a1, .inl 0, .inr (.inr (some t112_)), .inr (.inr (some 48))]) (h' := gc_h sh I12 J13 A) (C := (((((True ∧ True) ∧ True) ∧ True) ∧ True) ∧ True)) rfl ⟨⟨⟨⟨⟨trivial, trivial⟩, trivial⟩, trivial⟩, trivial⟩, trivial⟩ ?_
            obtain ⟨r115, h115, E115, P115⟩ := d_X0_lay (ws0 := ws0) (tb := tb) hws htb sh ro A  t x σ nw nk a2 a1 a3 wb t112_ hb h_t112 G_t112 h_t G_t h_x G_x  8 I12 J13 hI12 0 a1 0 ⟨by exact gz_m 103 (by omega), by exact gz_m 104 (by omega)⟩ ⟨by exact gz_m 105 (by omega), by exact gz_m 106 (by omega)⟩ ⟨by exact gz_m 107 (by omega), by exact gz_m 108 (by omega)⟩ (by exact gz_m 109 (by omega)) (show (0 : Int) = gc_ac (I12 (t112_ + 1)) (Int.toNat 0) from rfl) V_t112 (by exact gz_m 110 (by omega)) (by exact gz_m 111 (by omega)) (by exact gz_m 112 (by omega)) (gc_SP_fr x1 ((FI12 x 4).resolve_left (fun h => h.elim (fun h => absurd h.2 (by decide)) (fun h => h.elim (fun h => absurd h.2 (by decide)) (fun h => h.elim (fun h => absurd h.2 (by decide)) (fun h => h.elim (fun h => absurd h N_x__51) (fun h => h.elim (fun h => absurd h N_x__52) (fun h => h.elim (fun h => absurd h N_x__53) (fun h => h.elim (fun h => absurd h N_x__54) (fun h => h.elim (fun h => absurd h N_x__55) (fun h => h.elim (fun h => absurd h.2 (by decide)) (fun h => h.elim (fun h => absurd h N_x__58) (fun h => h.elim (fun h => absurd h N_x__59) (fun h => h.elim (fun h => absurd h N_x__60) (fun h => h.elim (fun h => absurd h.2 (by decide)) (fun h => h.elim (fun h => absurd h.2 (by decide)) (fun h => h.elim (fun h => absurd h N_x__49) (fun h => absurd h N_x__50))))))))))))))))) (fun k => (FI12 (x + 2) k).resolve_left (fun h => h.elim (fun h => absurd h.1 N_x_2__48) (fun h => h.elim (fun h => absurd h.1 N_x_2__48) (fun h => h.elim (fun h => absurd h.1 N_x_2__48) (fun h => h.elim (fun h => absurd h N_x_2__51) (fun h => h.elim (fun h => absurd h N_x_2__52) (fun h => h.elim (fun h => absurd h N_x_2__53) (fun h => h.elim (fun h => absurd h N_x_2__54) (fun h => h.elim (fun h => absurd h N_x_2__55) (fun h => h.elim (fun h => absurd h.1 N_x_2__48) (fun h => h.elim (fun h => absurd h N_x_2__58) (fun h => h.elim (fun h => absurd h N_x_2__59) (fun h => h.elim (fun h => absurd h N_x_2__60) (fun h => h.elim (fun h => absurd h.1 N_x_2__48) (fun h => h.elim (fun h => absurd h.1 N_x_2__48) (fun h => h.elim (fun h => absurd h N_x_2__49) (fun h => absurd h N_x_2__50))))))))))))))))) (fun k => (FI12 (x + 3) k).resolve_left (fun h => h.elim (fun h => absurd h.1 N_x_3__48) (fun h => h.elim (fun h => absurd h.1 N_x_3__48) (fun h => h.elim (fun h => absurd h.1 N_x_3__48) (fun h => h.elim (fun h => absurd h N_x_3__51) (fun h => h.elim (fun h => absurd h N_x_3__52) (fun h => h.elim (fun h => absurd h N_x_3__53) (fun h => h.elim (fun h => absurd h N_x_3__54) (fun h => h.elim (fun h => absurd h N_x_3__55) (fun h => h.elim (fun h => absurd h.1 N_x_3__48) (fun h => h.elim (fun h => absurd h N_x_3__58) (fun h => h.elim (fun h => absurd h N_x_3__59) (fun h => h.elim (fun h => absurd h N_x_3__60) (fun h => h.elim (fun h => absurd h.1 N_x_3__48) (fun h => h.elim (fun h => absurd h.1 N_x_3__48) (fun h => h.elim (fun h => absurd h N_x_3__49) (fun h => absurd h N_x_3__50)))))))))))))))))) (by exact gz_m 113 (by omega)) (by exact gz_m 114 (by omega)) (by exact gz_m 115 (by omega)) (by exact gz_m 116 (by omega)) (by exact gz_m 117 (by omega)) (gc_un_fr (fun h1 h2 => by have h3 := x9 (Int.toNat (I12 57 (Int.toNat v5_14))) t112_ (by exact gz_m 118 (by omega)) A_t112 h1 h2; have h4 := KLK_I12 (Int.toNat (a3 + 1)) (by exact gz_m 119 (by omega)) (Int.toNat v5_14) (by exact gz_m 120 (by omega)); exact gz_m 121 (by omega)) ((FI12 t112_ 4).resolve_left (by exact gz_m 122 (by omega))) ((FI12 t112_ 1).resolve_left (by exact gz_m 123 (by omega))) ((FI12 (t112_ + 1) 0).resolve_left (by exact gz_m 124 (by omega))) (fun k => (FI12 13 k).resolve_left (fun h => h.elim (fun h => absurd h.1 (by decide)) (fun h => h.elim (fun h => absurd h.1 (by decide)) (fun h => h.elim (fun h => absurd h.1 (by decide)) (fun h => h.elim (fun h => absurd h (by decide)) (fun h => h.elim (fun h => absurd h (by decide)) (fun h => h.elim (fun h => absurd h (by decide)) (fun h => h.elim (fun h => absurd h (by decide)) (fun h => h.elim (fun h => absurd h (by decide)) (fun h => h.elim (fun h => absurd h.1 (by decide)) (fun h => h.elim (fun h => absurd h (by decide)) (fun h => h.elim (fun h => absurd h (by decide)) (fun h => h.elim (fun h => absurd h (by decide)) (fun h => h.elim (fun h => absurd h.1 (by decide)) (fun h => h.elim (fun h => absurd h.1 (by decide)) (fun h => h.elim (fun h => absurd h (by decide)) (fun h => absurd h (by decide))))))))))))))))))) (fun s hs => by exact gz_m 125 (by omega)) (by rw [U_t112, show Int.toNat (((Int.toNat (I12 57 (Int.toNat v5_14))) : Nat) : Int) = (Int.toNat (I12 57 (Int.toNat v5_14))) from by exact gz_m 126 (by omega)]; exact (((FI12 t112_ 8).resolve_left (by exact gz_m 127 (by omega))).trans (x8 _ t112_ (by exact gz_m 128 (by omega)) A_t112)).symm) (by exact gz_m 129 (by omega)) (by exact gz_m 130 (by omega)) (by exact gz_m 131 (by omega)) (by exact gz_m 132 (by omega)) (by exact gz_m 133 (by omega)) (by exact gz_m 134 (by omega)) KWV_I12 KFN_I12 KWA_I12 KFD_I12 KFZ_I12 KTR_I12 KWB_I12 (by exact gz_m 135 (by omega))
            obtain ⟨I116, J117, rfl, hI116, g115, k115, KWV_I116, KFN_I116, KWA_I116, KFD_I116, KFZ_I116, KTR_I116, KWB_I116, ⟨rfl, q115⟩⟩ := P115
            have FI116 := gc_frc (W := fun q j => (q = 48 ∧ j = 3) ∨ (q = 48 ∧ j = 6) ∨ (q = 48 ∧ j = 12) ∨ q = 51 ∨ q = 52 ∨ q = 53 ∨ q = 54 ∨ q = 55 ∨ (q = 48 ∧ j = 11) ∨ q = 58 ∨ q = 59 ∨ q = 60 ∨ (q = 48 ∧ j = 17) ∨ (q = 48 ∧ j = 18) ∨ q = 49 ∨ q = 50) (V := fun q j => (q = 48 ∧ j = 3) ∨ (q = 48 ∧ j = 6) ∨ (q = 48 ∧ j = 12) ∨ q = 51 ∨ q = 52 ∨ q = 53 ∨ q = 54 ∨ q = 55 ∨ (q = 48 ∧ j = 11) ∨ q = 58 ∨ q = 59 ∨ q = 60) FI12 (fun q j h => (h.elim (fun h => (Or.inl h)) (fun h => (h.elim (fun h => (Or.inr (Or.inl h))) (fun h => (h.elim (fun h => (Or.inr (Or.inr (Or.inl h)))) (fun h => (h.elim (fun h => (Or.inr (Or.inr (Or.inr (Or.inl h))))) (fun h => (h.elim (fun h => (Or.inr (Or.inr (Or.inr (Or.inr (Or.inl h)))))) (fun h => (h.elim (fun h => (Or.inr (Or.inr (Or.inr (Or.inr (Or.inr (Or.inl h))))))) (fun h => (h.elim (fun h => (Or.inr (Or.inr (Or.inr (Or.inr (Or.inr (Or.inr (Or.inl h)))))))) (fun h => (h.elim (fun h => (Or.inr (Or.inr (Or.inr (Or.inr (Or.inr (Or.inr (Or.inr (Or.inl h))))))))) (fun h => (h.elim (fun h => (Or.inr (Or.inr (Or.inr (Or.inr (Or.inr (Or.inr (Or.inr (Or.inr (Or.inl h)))))))))) (fun h => (h.elim (fun h => (Or.inr (Or.inr (Or.inr (Or.inr (Or.inr (Or.inr (Or.inr (Or.inr (Or.inr (Or.inl h))))))))))) (fun h => (h.elim (fun h => (Or.inr (Or.inr (Or.inr (Or.inr (Or.inr (Or.inr (Or.inr (Or.inr (Or.inr (Or.inr (Or.inl h)))))))))))) (fun h => (Or.inr (Or.inr (Or.inr (Or.inr (Or.inr (Or.inr (Or.inr (Or.inr (Or.inr (Or.inr (Or.inr (Or.inl h))))))))))))))))))))))))))))))))))) g115
            have t118 := (g115 48 17).resolve_left (fun h => h.elim (fun h => absurd h.2 (by decide)) (fun h => h.elim (fun h => absurd h.2 (by decide)) (fun h => h.elim (fun h => absurd h.2 (by decide)) (fun h => h.elim (fun h => absurd h (by decide)) (fun h => h.elim (fun h => absurd h (by decide)) (fun h => h.elim (fun h => absurd h (by decide)) (fun h => h.elim (fun h => absurd h (by decide)) (fun h => h.elim (fun h => absurd h (by decide)) (fun h => h.elim (fun h => absurd h.2 (by decide)) (fun h => h.elim (fun h => absurd h (by decide)) (fun h => h.elim (fun h => absurd h (by decide)) (fun h => absurd h (by decide)))))))))))))
            have t119 := (g115 48 18).resolve_left (fun h => h.elim (fun h => absurd h.2 (by decide)) (fun h => h.elim (fun h => absurd h.2 (by decide)) (fun h => h.elim (fun h => absurd h.2 (by decide)) (fun h => h.elim (fun h => absurd h (by decide)) (fun h => h.elim (fun h => absurd h (by decide)) (fun h => h.elim (fun h => absurd h (by decide)) (fun h => h.elim (fun h => absurd h (by decide)) (fun h => h.elim (fun h => absurd h (by decide)) (fun h => h.elim (fun h => absurd h.2 (by decide)) (fun h => h.elim (fun h => absurd h (by decide)) (fun h => h.elim (fun h => absurd h (by decide)) (fun h => absurd h (by decide)))))))))))))
            have t120 := (g115 t 13).resolve_left (fun h => h.elim (fun h => absurd h.2 (by decide)) (fun h => h.elim (fun h => absurd h.2 (by decide)) (fun h => h.elim (fun h => absurd h.2 (by decide)) (fun h => h.elim (fun h => absurd h N_t__51) (fun h => h.elim (fun h => absurd h N_t__52) (fun h => h.elim (fun h => absurd h N_t__53) (fun h => h.elim (fun h => absurd h N_t__54) (fun h => h.elim (fun h => absurd h N_t__55) (fun h => h.elim (fun h => absurd h.2 (by decide)) (fun h => h.elim (fun h => absurd h N_t__58) (fun h => h.elim (fun h => absurd h N_t__59) (fun h => absurd h N_t__60))))))))))))
            have t121 := (g115 x 4).resolve_left (fun h => h.elim (fun h => absurd h.2 (by decide)) (fun h => h.elim (fun h => absurd h.2 (by decide)) (fun h => h.elim (fun h => absurd h.2 (by decide)) (fun h => h.elim (fun h => absurd h N_x__51) (fun h => h.elim (fun h => absurd h N_x__52) (fun h => h.elim (fun h => absurd h N_x__53) (fun h => h.elim (fun h => absurd h N_x__54) (fun h => h.elim (fun h => absurd h N_x__55) (fun h => h.elim (fun h => absurd h.2 (by decide)) (fun h => h.elim (fun h => absurd h N_x__58) (fun h => h.elim (fun h => absurd h N_x__59) (fun h => absurd h N_x__60))))))))))))
            have t122 := (g115 2 1).resolve_left (fun h => h.elim (fun h => absurd h.2 (by decide)) (fun h => h.elim (fun h => absurd h.2 (by decide)) (fun h => h.elim (fun h => absurd h.2 (by decide)) (fun h => h.elim (fun h => absurd h (by decide)) (fun h => h.elim (fun h => absurd h (by decide)) (fun h => h.elim (fun h => absurd h (by decide)) (fun h => h.elim (fun h => absurd h (by decide)) (fun h => h.elim (fun h => absurd h (by decide)) (fun h => h.elim (fun h => absurd h.2 (by decide)) (fun h => h.elim (fun h => absurd h (by decide)) (fun h => h.elim (fun h => absurd h (by decide)) (fun h => absurd h (by decide)))))))))))))
            have t123 := (g115 48 13).resolve_left (fun h => h.elim (fun h => absurd h.2 (by decide)) (fun h => h.elim (fun h => absurd h.2 (by decide)) (fun h => h.elim (fun h => absurd h.2 (by decide)) (fun h => h.elim (fun h => absurd h (by decide)) (fun h => h.elim (fun h => absurd h (by decide)) (fun h => h.elim (fun h => absurd h (by decide)) (fun h => h.elim (fun h => absurd h (by decide)) (fun h => h.elim (fun h => absurd h (by decide)) (fun h => h.elim (fun h => absurd h.2 (by decide)) (fun h => h.elim (fun h => absurd h (by decide)) (fun h => h.elim (fun h => absurd h (by decide)) (fun h => absurd h (by decide)))))))))))))
            have t124 := (g115 48 14).resolve_left (fun h => h.elim (fun h => absurd h.2 (by decide)) (fun h => h.elim (fun h => absurd h.2 (by decide)) (fun h => h.elim (fun h => absurd h.2 (by decide)) (fun h => h.elim (fun h => absurd h (by decide)) (fun h => h.elim (fun h => absurd h (by decide)) (fun h => h.elim (fun h => absurd h (by decide)) (fun h => h.elim (fun h => absurd h (by decide)) (fun h => h.elim (fun h => absurd h (by decide)) (fun h => h.elim (fun h => absurd h.2 (by decide)) (fun h => h.elim (fun h => absurd h (by decide)) (fun h => h.elim (fun h => absurd h (by decide)) (fun h => absurd h (by decide)))))))))))))
            have f125 := (show 0 ≤ I116 48 3 ∧ I116 48 3 ≤ 3000 from gc_in hI116 R_48 rfl rfl)
            have f126 := (show 0 ≤ I116 48 6 ∧ I116 48 6 ≤ 9000 from gc_in hI116 R_48 rfl rfl)
            have f127 := (show 0 ≤ I116 48 11 ∧ I116 48 11 ≤ 1000000 from gc_in hI116 R_48 rfl rfl)
            have f128 := (show 0 ≤ I116 48 12 ∧ I116 48 12 ≤ 1 from gc_in hI116 R_48 rfl rfl)
            have f129 := (show 0 ≤ I116 48 17 ∧ I116 48 17 ≤ 3000 from gc_in hI116 R_48 rfl rfl)
            have f130 := (show 0 ≤ I116 48 18 ∧ I116 48 18 ≤ 24 from gc_in hI116 R_48 rfl rfl)
            have f131 := (show 0 ≤ I116 t 13 ∧ I116 t 13 ≤ 384 from gc_in hI116 R_t rfl rfl)
            have f132 := (show 0 ≤ I116 x 4 ∧ I116 x 4 ≤ 24 from gc_in hI116 R_x rfl rfl)
            have f133 := (show 0 ≤ I116 2 1 ∧ I116 2 1 ≤ 32 from gc_in hI116 R_2 rfl rfl)
            have f134 := (show (-1) ≤ I116 48 13 ∧ I116 48 13 ≤ 999999 from gc_in hI116 R_48 rfl rfl)
            have f135 := (show (-1) ≤ I116 48 14 ∧ I116 48 14 ≤ 999999 from gc_in hI116 R_48 rfl rfl)
            obtain rfl : J13 = J117 := funext fun q => funext fun j => ((k115 q j).resolve_left id).symm
            have KLO_I116 := gc_LO_fr KLO_I12 ((g115 2 1).resolve_left (fun h => h.elim (fun h => absurd h.2 (by decide)) (fun h => h.elim (fun h => absurd h.2 (by decide)) (fun h => h.elim (fun h => absurd h.2 (by decide)) (fun h => h.elim (fun h => absurd h (by decide)) (fun h => h.elim (fun h => absurd h (by decide)) (fun h => h.elim (fun h => absurd h (by decide)) (fun h => h.elim (fun h => absurd h (by decide)) (fun h => h.elim (fun h => absurd h (by decide)) (fun h => h.elim (fun h => absurd h.2 (by decide)) (fun h => h.elim (fun h => absurd h (by decide)) (fun h => h.elim (fun h => absurd h (by decide)) (fun h => absurd h (by decide)))))))))))))) ((g115 t 13).resolve_left (fun h => h.elim (fun h => absurd h.2 (by decide)) (fun h => h.elim (fun h => absurd h.2 (by decide)) (fun h => h.elim (fun h => absurd h.2 (by decide)) (fun h => h.elim (fun h => absurd h N_t__51) (fun h => h.elim (fun h => absurd h N_t__52) (fun h => h.elim (fun h => absurd h N_t__53) (fun h => h.elim (fun h => absurd h N_t__54) (fun h => h.elim (fun h => absurd h N_t__55) (fun h => h.elim (fun h => absurd h.2 (by decide)) (fun h => h.elim (fun h => absurd h N_t__58) (fun h => h.elim (fun h => absurd h N_t__59) (fun h => absurd h N_t__60))))))))))))) (fun k => (g115 56 k).resolve_left (fun h => h.elim (fun h => absurd h.1 (by decide)) (fun h => h.elim (fun h => absurd h.1 (by decide)) (fun h => h.elim (fun h => absurd h.1 (by decide)) (fun h => h.elim (fun h => absurd h (by decide)) (fun h => h.elim (fun h => absurd h (by decide)) (fun h => h.elim (fun h => absurd h (by decide)) (fun h => h.elim (fun h => absurd h (by decide)) (fun h => h.elim (fun h => absurd h (by decide)) (fun h => h.elim (fun h => absurd h.1 (by decide)) (fun h => h.elim (fun h => absurd h (by decide)) (fun h => h.elim (fun h => absurd h (by decide)) (fun h => absurd h (by decide)))))))))))))) (fun k => (g115 57 k).resolve_left (fun h => h.elim (fun h => absurd h.1 (by decide)) (fun h => h.elim (fun h => absurd h.1 (by decide)) (fun h => h.elim (fun h => absurd h.1 (by decide)) (fun h => h.elim (fun h => absurd h (by decide)) (fun h => h.elim (fun h => absurd h (by decide)) (fun h => h.elim (fun h => absurd h (by decide)) (fun h => h.elim (fun h => absurd h (by decide)) (fun h => h.elim (fun h => absurd h (by decide)) (fun h => h.elim (fun h => absurd h.1 (by decide)) (fun h => h.elim (fun h => absurd h (by decide)) (fun h => h.elim (fun h => absurd h (by decide)) (fun h => absurd h (by decide))))))))))))))
            have KLK_I116 := gc_LK_fr KLK_I12 ((g115 2 1).resolve_left (fun h => h.elim (fun h => absurd h.2 (by decide)) (fun h => h.elim (fun h => absurd h.2 (by decide)) (fun h => h.elim (fun h => absurd h.2 (by decide)) (fun h => h.elim (fun h => absurd h (by decide)) (fun h => h.elim (fun h => absurd h (by decide)) (fun h => h.elim (fun h => absurd h (by decide)) (fun h => h.elim (fun h => absurd h (by decide)) (fun h => h.elim (fun h => absurd h (by decide)) (fun h => h.elim (fun h => absurd h.2 (by decide)) (fun h => h.elim (fun h => absurd h (by decide)) (fun h => h.elim (fun h => absurd h (by decide)) (fun h => absurd h (by decide)))))))))))))) (fun k => (g115 56 k).resolve_left (fun h => h.elim (fun h => absurd h.1 (by decide)) (fun h => h.elim (fun h => absurd h.1 (by decide)) (fun h => h.elim (fun h => absurd h.1 (by decide)) (fun h => h.elim (fun h => absurd h (by decide)) (fun h => h.elim (fun h => absurd h (by decide)) (fun h => h.elim (fun h => absurd h (by decide)) (fun h => h.elim (fun h => absurd h (by decide)) (fun h => h.elim (fun h => absurd h (by decide)) (fun h => h.elim (fun h => absurd h.1 (by decide)) (fun h => h.elim (fun h => absurd h (by decide)) (fun h => h.elim (fun h => absurd h (by decide)) (fun h => absurd h (by decide)))))))))))))) (fun k => (g115 57 k).resolve_left (fun h => h.elim (fun h => absurd h.1 (by decide)) (fun h => h.elim (fun h => absurd h.1 (by decide)) (fun h => h.elim (fun h => absurd h.1 (by decide)) (fun h => h.elim (fun h => absurd h (by decide)) (fun h => h.elim (fun h => absurd h (by decide)) (fun h => h.elim (fun h => absurd h (by decide)) (fun h => h.elim (fun h => absurd h (by decide)) (fun h => h.elim (fun h => absurd h (by decide)) (fun h => h.elim (fun h => absurd h.1 (by decide)) (fun h => h.elim (fun h => absurd h (by decide)) (fun h => h.elim (fun h => absurd h (by decide)) (fun h => absurd h (by decide))))))))))))))
            refine gv_callV hD rfl (As := [.inr (.inr (some t112_)), .inl 0, .inl a1, .inl 0]) (st := []) rfl B_48 S_48 rfl (gc_lV0 hws rfl) (Nat.le_of_ble_eq_true rfl) (gz_Ev_mono (d := 10) (by decide) E115) ?_
            show gv_X _ _ (85, [(6, .inr (.inr (some t112_))), (0, .inr (.inr (some 48))), (1, .inl a1), (2, .inl a2), (3, .inl a3), (5, .inl v5_14)], [], sh, gc_h sh I116 J13 A)
            refine gv_pick [1, 2, 3, 4, 5] rfl ?_
            exact L85 I116 J13 hI116 FI116 FJ13 KWV_I116 KFN_I116 KLO_I116 KWA_I116 KFZ_I116 KLK_I116 KTR_I116 KWB_I116 KFD_I116 (by exact gz_m 136 (by omega))
  refine gv_run 2 true hD (pc' := 2) (lv' := [(0, .inr (.inr (some 48))), (1, .inl a1), (2, .inl a2), (3, .inl a3), (4, .inl a4)]) (st' := [.inr (.inr (some 48)), .inr (.inr (some 48))]) (h' := gc_h sh I J A) (C := ((True ∧ True) ∧ True)) rfl ⟨⟨trivial, trivial⟩, trivial⟩ ?_
  have f136 := (show 0 ≤ I 48 3 ∧ I 48 3 ≤ 3000 from gc_in hI R_48 rfl rfl)
  refine gv_get hD rfl rfl S_48 ⟨by decide, B_48⟩ (gc_hI S_48 rfl) ?_
  show gv_X _ _ (5, [(0, .inr (.inr (some 48))), (1, .inl a1), (2, .inl a2), (3, .inl a3), (4, .inl a4)], [.inl (I 48 3), .inr (.inr (some 48))], sh, gc_h sh I J A)
  refine gv_put hD rfl rfl S_48 ⟨by decide, B_48⟩ rfl trivial ?_
  refine gc_st (k := 17) hI S_48 rfl R_48 (lo := 0) (hi := 3000) rfl rfl (by exact gz_m 137 (by omega)) (by exact gz_m 138 (by omega)) (fun I137 hI137 q138 p138 => ?_)
  have FI137 := gc_frs (W := fun q j => (q = 48 ∧ j = 3) ∨ (q = 48 ∧ j = 6) ∨ (q = 48 ∧ j = 12) ∨ q = 51 ∨ q = 52 ∨ q = 53 ∨ q = 54 ∨ q = 55 ∨ (q = 48 ∧ j = 11) ∨ q = 58 ∨ q = 59 ∨ q = 60 ∨ (q = 48 ∧ j = 17) ∨ (q = 48 ∧ j = 18) ∨ q = 49 ∨ q = 50) FI (Or.inr (Or.inr (Or.inr (Or.inr (Or.inr (Or.inr (Or.inr (Or.inr (Or.inr (Or.inr (Or.inr (Or.inr (Or.inl ⟨rfl, rfl⟩))))))))))))) p138
  have t139 := p138 48 3 (fun h => absurd h.2 (by decide))
  have t140 := p138 48 6 (fun h => absurd h.2 (by decide))
  have t141 := p138 48 11 (fun h => absurd h.2 (by decide))
  have t142 := p138 48 12 (fun h => absurd h.2 (by decide))
  have t143 := p138 48 18 (fun h => absurd h.2 (by decide))
  have t144 := p138 t 13 (fun h => absurd h.2 (by decide))
  have t145 := p138 x 4 (fun h => absurd h.2 (by decide))
  have t146 := p138 2 1 (fun h => absurd h.2 (by decide))
  have t147 := p138 48 13 (fun h => absurd h.2 (by decide))
  have t148 := p138 48 14 (fun h => absurd h.2 (by decide))
  have f149 := (show 0 ≤ I137 48 3 ∧ I137 48 3 ≤ 3000 from gc_in hI137 R_48 rfl rfl)
  have f150 := (show 0 ≤ I137 48 6 ∧ I137 48 6 ≤ 9000 from gc_in hI137 R_48 rfl rfl)
  have f151 := (show 0 ≤ I137 48 11 ∧ I137 48 11 ≤ 1000000 from gc_in hI137 R_48 rfl rfl)
  have f152 := (show 0 ≤ I137 48 12 ∧ I137 48 12 ≤ 1 from gc_in hI137 R_48 rfl rfl)
  have f153 := (show 0 ≤ I137 48 17 ∧ I137 48 17 ≤ 3000 from gc_in hI137 R_48 rfl rfl)
  have f154 := (show 0 ≤ I137 48 18 ∧ I137 48 18 ≤ 24 from gc_in hI137 R_48 rfl rfl)
  have f155 := (show 0 ≤ I137 t 13 ∧ I137 t 13 ≤ 384 from gc_in hI137 R_t rfl rfl)
  have f156 := (show 0 ≤ I137 x 4 ∧ I137 x 4 ≤ 24 from gc_in hI137 R_x rfl rfl)
  have f157 := (show 0 ≤ I137 2 1 ∧ I137 2 1 ≤ 32 from gc_in hI137 R_2 rfl rfl)
  have f158 := (show (-1) ≤ I137 48 13 ∧ I137 48 13 ≤ 999999 from gc_in hI137 R_48 rfl rfl)
  have f159 := (show (-1) ≤ I137 48 14 ∧ I137 48 14 ≤ 999999 from gc_in hI137 R_48 rfl rfl)
  have KWV_I137 := gc_WV_fr KWV_I (p138 48 6 (fun h => absurd h.2 (by decide))) (p138 t 13 (fun h => absurd h.2 (by decide))) (fun k => p138 54 k (fun h => absurd h.1 (by decide)))
  have KFN_I137 := gc_FN_fr KFN_I (fun k => p138 49 k (fun h => absurd h.1 (by decide))) (fun k => p138 50 k (fun h => absurd h.1 (by decide)))
  have KLO_I137 := gc_LO_fr KLO_I (p138 2 1 (fun h => absurd h.2 (by decide))) (p138 t 13 (fun h => absurd h.2 (by decide))) (fun k => p138 56 k (fun h => absurd h.1 (by decide))) (fun k => p138 57 k (fun h => absurd h.1 (by decide)))
  have KWA_I137 := gc_WA_fr KWA_I (p138 48 6 (fun h => absurd h.2 (by decide))) (Int.le_of_eq (p138 48 3 (fun h => absurd h.2 (by decide))).symm) (fun k => p138 53 k (fun h => absurd h.1 (by decide))) (fun k => p138 54 k (fun h => absurd h.1 (by decide))) (fun k => p138 55 k (fun h => absurd h.1 (by decide)))
  have KFZ_I137 := gc_FZ_fr KFZ_I (p138 2 1 (fun h => absurd h.2 (by decide))) (fun k => p138 49 k (fun h => absurd h.1 (by decide))) (fun k => p138 50 k (fun h => absurd h.1 (by decide)))
  have KLK_I137 := gc_LK_fr KLK_I (p138 2 1 (fun h => absurd h.2 (by decide))) (fun k => p138 56 k (fun h => absurd h.1 (by decide))) (fun k => p138 57 k (fun h => absurd h.1 (by decide)))
  have KTR_I137 := gc_TR_fr KTR_I (p138 48 11 (fun h => absurd h.2 (by decide))) (p138 48 12 (fun h => absurd h.2 (by decide)))
  have KWB_I137 := gc_WB_fr KWB_I (p138 48 6 (fun h => absurd h.2 (by decide))) (fun k => p138 54 k (fun h => absurd h.1 (by decide)))
  have KFD_I137 := gc_FD_fr KFD_I (Int.le_of_eq (p138 48 3 (fun h => absurd h.2 (by decide))).symm) (fun k => p138 49 k (fun h => absurd h.1 (by decide))) (fun k => p138 50 k (fun h => absurd h.1 (by decide)))
  show gv_X _ _ (8, [(0, .inr (.inr (some 48))), (1, .inl a1), (2, .inl a2), (3, .inl a3), (4, .inl a4)], [], sh, gc_h sh I137 J A)
  refine gv_run 4 true hD (pc' := 12) (lv' := [(0, .inr (.inr (some 48))), (1, .inl a1), (2, .inl a2), (3, .inl a3), (4, .inl a4)]) (st' := [.inl (a1 + a2), .inr (.inr (some 48))]) (h' := gc_h sh I137 J A) (C := ((((True ∧ True) ∧ True) ∧ True) ∧ True)) rfl ⟨⟨⟨⟨trivial, trivial⟩, trivial⟩, trivial⟩, trivial⟩ ?_
  refine gv_put hD rfl rfl S_48 ⟨by decide, B_48⟩ rfl trivial ?_
  refine gc_st (k := 18) hI137 S_48 rfl R_48 (lo := 0) (hi := 24) rfl rfl (by exact gz_m 139 (by omega)) (by exact gz_m 140 (by omega)) (fun I160 hI160 q161 p161 => ?_)
  have FI160 := gc_frs (W := fun q j => (q = 48 ∧ j = 3) ∨ (q = 48 ∧ j = 6) ∨ (q = 48 ∧ j = 12) ∨ q = 51 ∨ q = 52 ∨ q = 53 ∨ q = 54 ∨ q = 55 ∨ (q = 48 ∧ j = 11) ∨ q = 58 ∨ q = 59 ∨ q = 60 ∨ (q = 48 ∧ j = 17) ∨ (q = 48 ∧ j = 18) ∨ q = 49 ∨ q = 50) FI137 (Or.inr (Or.inr (Or.inr (Or.inr (Or.inr (Or.inr (Or.inr (Or.inr (Or.inr (Or.inr (Or.inr (Or.inr (Or.inr (Or.inl ⟨rfl, rfl⟩)))))))))))))) p161
  have t162 := p161 48 3 (fun h => absurd h.2 (by decide))
  have t163 := p161 48 6 (fun h => absurd h.2 (by decide))
  have t164 := p161 48 11 (fun h => absurd h.2 (by decide))
  have t165 := p161 48 12 (fun h => absurd h.2 (by decide))
  have t166 := p161 48 17 (fun h => absurd h.2 (by decide))
  have t167 := p161 t 13 (fun h => absurd h.2 (by decide))
  have t168 := p161 x 4 (fun h => absurd h.2 (by decide))
  have t169 := p161 2 1 (fun h => absurd h.2 (by decide))
  have t170 := p161 48 13 (fun h => absurd h.2 (by decide))
  have t171 := p161 48 14 (fun h => absurd h.2 (by decide))
  have f172 := (show 0 ≤ I160 48 3 ∧ I160 48 3 ≤ 3000 from gc_in hI160 R_48 rfl rfl)
  have f173 := (show 0 ≤ I160 48 6 ∧ I160 48 6 ≤ 9000 from gc_in hI160 R_48 rfl rfl)
  have f174 := (show 0 ≤ I160 48 11 ∧ I160 48 11 ≤ 1000000 from gc_in hI160 R_48 rfl rfl)
  have f175 := (show 0 ≤ I160 48 12 ∧ I160 48 12 ≤ 1 from gc_in hI160 R_48 rfl rfl)
  have f176 := (show 0 ≤ I160 48 17 ∧ I160 48 17 ≤ 3000 from gc_in hI160 R_48 rfl rfl)
  have f177 := (show 0 ≤ I160 48 18 ∧ I160 48 18 ≤ 24 from gc_in hI160 R_48 rfl rfl)
  have f178 := (show 0 ≤ I160 t 13 ∧ I160 t 13 ≤ 384 from gc_in hI160 R_t rfl rfl)
  have f179 := (show 0 ≤ I160 x 4 ∧ I160 x 4 ≤ 24 from gc_in hI160 R_x rfl rfl)
  have f180 := (show 0 ≤ I160 2 1 ∧ I160 2 1 ≤ 32 from gc_in hI160 R_2 rfl rfl)
  have f181 := (show (-1) ≤ I160 48 13 ∧ I160 48 13 ≤ 999999 from gc_in hI160 R_48 rfl rfl)
  have f182 := (show (-1) ≤ I160 48 14 ∧ I160 48 14 ≤ 999999 from gc_in hI160 R_48 rfl rfl)
  have KWV_I160 := gc_WV_fr KWV_I137 (p161 48 6 (fun h => absurd h.2 (by decide))) (p161 t 13 (fun h => absurd h.2 (by decide))) (fun k => p161 54 k (fun h => absurd h.1 (by decide)))
  have KFN_I160 := gc_FN_fr KFN_I137 (fun k => p161 49 k (fun h => absurd h.1 (by decide))) (fun k => p161 50 k (fun h => absurd h.1 (by decide)))
  have KLO_I160 := gc_LO_fr KLO_I137 (p161 2 1 (fun h => absurd h.2 (by decide))) (p161 t 13 (fun h => absurd h.2 (by decide))) (fun k => p161 56 k (fun h => absurd h.1 (by decide))) (fun k => p161 57 k (fun h => absurd h.1 (by decide)))
  have KWA_I160 := gc_WA_fr KWA_I137 (p161 48 6 (fun h => absurd h.2 (by decide))) (Int.le_of_eq (p161 48 3 (fun h => absurd h.2 (by decide))).symm) (fun k => p161 53 k (fun h => absurd h.1 (by decide))) (fun k => p161 54 k (fun h => absurd h.1 (by decide))) (fun k => p161 55 k (fun h => absurd h.1 (by decide)))
  have KFZ_I160 := gc_FZ_fr KFZ_I137 (p161 2 1 (fun h => absurd h.2 (by decide))) (fun k => p161 49 k (fun h => absurd h.1 (by decide))) (fun k => p161 50 k (fun h => absurd h.1 (by decide)))
  have KLK_I160 := gc_LK_fr KLK_I137 (p161 2 1 (fun h => absurd h.2 (by decide))) (fun k => p161 56 k (fun h => absurd h.1 (by decide))) (fun k => p161 57 k (fun h => absurd h.1 (by decide)))
  have KTR_I160 := gc_TR_fr KTR_I137 (p161 48 11 (fun h => absurd h.2 (by decide))) (p161 48 12 (fun h => absurd h.2 (by decide)))
  have KWB_I160 := gc_WB_fr KWB_I137 (p161 48 6 (fun h => absurd h.2 (by decide))) (fun k => p161 54 k (fun h => absurd h.1 (by decide)))
  have KFD_I160 := gc_FD_fr KFD_I137 (Int.le_of_eq (p161 48 3 (fun h => absurd h.2 (by decide))).symm) (fun k => p161 49 k (fun h => absurd h.1 (by decide))) (fun k => p161 50 k (fun h => absurd h.1 (by decide)))
  show gv_X _ _ (15, [(0, .inr (.inr (some 48))), (1, .inl a1), (2, .inl a2), (3, .inl a3), (4, .inl a4)], [], sh, gc_h sh I160 J A)
  refine gv_run 3 true hD (pc' := 19) (lv' := [(0, .inr (.inr (some 48))), (1, .inl a1), (2, .inl a2), (3, .inl a3), (4, .inl a4)]) (st' := [.inl a4, .inl a3, .inr (.inr (some 48))]) (h' := gc_h sh I160 J A) (C := (((True ∧ True) ∧ True) ∧ True)) rfl ⟨⟨⟨trivial, trivial⟩, trivial⟩, trivial⟩ ?_
  obtain ⟨r183, h183, E183, P183⟩ := d_X0_layForms (ws0 := ws0) (tb := tb) hws htb sh ro I160 J A hI160  t σ wb a3 a4 hb  h_t G_t  ⟨by exact gz_m 141 (by omega), by exact gz_m 142 (by omega)⟩ ⟨by exact gz_m 143 (by omega), by exact gz_m 144 (by omega)⟩ (by exact gz_m 145 (by omega)) (gc_rg_fr x11 (fun k => (FI160 (t + 22) k).resolve_left (fun h => h.elim (fun h => absurd h.1 N_t_22__48) (fun h => h.elim (fun h => absurd h.1 N_t_22__48) (fun h => h.elim (fun h => absurd h.1 N_t_22__48) (fun h => h.elim (fun h => absurd h N_t_22__51) (fun h => h.elim (fun h => absurd h N_t_22__52) (fun h => h.elim (fun h => absurd h N_t_22__53) (fun h => h.elim (fun h => absurd h N_t_22__54) (fun h => h.elim (fun h => absurd h N_t_22__55) (fun h => h.elim (fun h => absurd h.1 N_t_22__48) (fun h => h.elim (fun h => absurd h N_t_22__58) (fun h => h.elim (fun h => absurd h N_t_22__59) (fun h => h.elim (fun h => absurd h N_t_22__60) (fun h => h.elim (fun h => absurd h.1 N_t_22__48) (fun h => h.elim (fun h => absurd h.1 N_t_22__48) (fun h => h.elim (fun h => absurd h N_t_22__49) (fun h => absurd h N_t_22__50)))))))))))))))))) (by exact gz_m 146 (by omega)) KWV_I160 KWA_I160 KWB_I160
  obtain ⟨I184, J185, rfl, hI184, g183, k183, KWV_I184, KWA_I184, KWB_I184, ⟨rfl, q183⟩⟩ := P183
  have FI184 := gc_frc (W := fun q j => (q = 48 ∧ j = 3) ∨ (q = 48 ∧ j = 6) ∨ (q = 48 ∧ j = 12) ∨ q = 51 ∨ q = 52 ∨ q = 53 ∨ q = 54 ∨ q = 55 ∨ (q = 48 ∧ j = 11) ∨ q = 58 ∨ q = 59 ∨ q = 60 ∨ (q = 48 ∧ j = 17) ∨ (q = 48 ∧ j = 18) ∨ q = 49 ∨ q = 50) (V := fun q j => (q = 48 ∧ j = 3) ∨ (q = 48 ∧ j = 6) ∨ (q = 48 ∧ j = 12) ∨ q = 51 ∨ q = 52 ∨ q = 53 ∨ q = 54 ∨ q = 55) FI160 (fun q j h => (h.elim (fun h => (Or.inl h)) (fun h => (h.elim (fun h => (Or.inr (Or.inl h))) (fun h => (h.elim (fun h => (Or.inr (Or.inr (Or.inl h)))) (fun h => (h.elim (fun h => (Or.inr (Or.inr (Or.inr (Or.inl h))))) (fun h => (h.elim (fun h => (Or.inr (Or.inr (Or.inr (Or.inr (Or.inl h)))))) (fun h => (h.elim (fun h => (Or.inr (Or.inr (Or.inr (Or.inr (Or.inr (Or.inl h))))))) (fun h => (h.elim (fun h => (Or.inr (Or.inr (Or.inr (Or.inr (Or.inr (Or.inr (Or.inl h)))))))) (fun h => (Or.inr (Or.inr (Or.inr (Or.inr (Or.inr (Or.inr (Or.inr (Or.inl h))))))))))))))))))))))) g183
  have t186 := (g183 48 11).resolve_left (fun h => h.elim (fun h => absurd h.2 (by decide)) (fun h => h.elim (fun h => absurd h.2 (by decide)) (fun h => h.elim (fun h => absurd h.2 (by decide)) (fun h => h.elim (fun h => absurd h (by decide)) (fun h => h.elim (fun h => absurd h (by decide)) (fun h => h.elim (fun h => absurd h (by decide)) (fun h => h.elim (fun h => absurd h (by decide)) (fun h => absurd h (by decide)))))))))
  have t187 := (g183 48 17).resolve_left (fun h => h.elim (fun h => absurd h.2 (by decide)) (fun h => h.elim (fun h => absurd h.2 (by decide)) (fun h => h.elim (fun h => absurd h.2 (by decide)) (fun h => h.elim (fun h => absurd h (by decide)) (fun h => h.elim (fun h => absurd h (by decide)) (fun h => h.elim (fun h => absurd h (by decide)) (fun h => h.elim (fun h => absurd h (by decide)) (fun h => absurd h (by decide)))))))))
  have t188 := (g183 48 18).resolve_left (fun h => h.elim (fun h => absurd h.2 (by decide)) (fun h => h.elim (fun h => absurd h.2 (by decide)) (fun h => h.elim (fun h => absurd h.2 (by decide)) (fun h => h.elim (fun h => absurd h (by decide)) (fun h => h.elim (fun h => absurd h (by decide)) (fun h => h.elim (fun h => absurd h (by decide)) (fun h => h.elim (fun h => absurd h (by decide)) (fun h => absurd h (by decide)))))))))
  have t189 := (g183 t 13).resolve_left (fun h => h.elim (fun h => absurd h.2 (by decide)) (fun h => h.elim (fun h => absurd h.2 (by decide)) (fun h => h.elim (fun h => absurd h.2 (by decide)) (fun h => h.elim (fun h => absurd h N_t__51) (fun h => h.elim (fun h => absurd h N_t__52) (fun h => h.elim (fun h => absurd h N_t__53) (fun h => h.elim (fun h => absurd h N_t__54) (fun h => absurd h N_t__55))))))))
  have t190 := (g183 x 4).resolve_left (fun h => h.elim (fun h => absurd h.2 (by decide)) (fun h => h.elim (fun h => absurd h.2 (by decide)) (fun h => h.elim (fun h => absurd h.2 (by decide)) (fun h => h.elim (fun h => absurd h N_x__51) (fun h => h.elim (fun h => absurd h N_x__52) (fun h => h.elim (fun h => absurd h N_x__53) (fun h => h.elim (fun h => absurd h N_x__54) (fun h => absurd h N_x__55))))))))
  have t191 := (g183 2 1).resolve_left (fun h => h.elim (fun h => absurd h.2 (by decide)) (fun h => h.elim (fun h => absurd h.2 (by decide)) (fun h => h.elim (fun h => absurd h.2 (by decide)) (fun h => h.elim (fun h => absurd h (by decide)) (fun h => h.elim (fun h => absurd h (by decide)) (fun h => h.elim (fun h => absurd h (by decide)) (fun h => h.elim (fun h => absurd h (by decide)) (fun h => absurd h (by decide)))))))))
  have t192 := (g183 48 13).resolve_left (fun h => h.elim (fun h => absurd h.2 (by decide)) (fun h => h.elim (fun h => absurd h.2 (by decide)) (fun h => h.elim (fun h => absurd h.2 (by decide)) (fun h => h.elim (fun h => absurd h (by decide)) (fun h => h.elim (fun h => absurd h (by decide)) (fun h => h.elim (fun h => absurd h (by decide)) (fun h => h.elim (fun h => absurd h (by decide)) (fun h => absurd h (by decide)))))))))
  have t193 := (g183 48 14).resolve_left (fun h => h.elim (fun h => absurd h.2 (by decide)) (fun h => h.elim (fun h => absurd h.2 (by decide)) (fun h => h.elim (fun h => absurd h.2 (by decide)) (fun h => h.elim (fun h => absurd h (by decide)) (fun h => h.elim (fun h => absurd h (by decide)) (fun h => h.elim (fun h => absurd h (by decide)) (fun h => h.elim (fun h => absurd h (by decide)) (fun h => absurd h (by decide)))))))))
  have f194 := (show 0 ≤ I184 48 3 ∧ I184 48 3 ≤ 3000 from gc_in hI184 R_48 rfl rfl)
  have f195 := (show 0 ≤ I184 48 6 ∧ I184 48 6 ≤ 9000 from gc_in hI184 R_48 rfl rfl)
  have f196 := (show 0 ≤ I184 48 11 ∧ I184 48 11 ≤ 1000000 from gc_in hI184 R_48 rfl rfl)
  have f197 := (show 0 ≤ I184 48 12 ∧ I184 48 12 ≤ 1 from gc_in hI184 R_48 rfl rfl)
  have f198 := (show 0 ≤ I184 48 17 ∧ I184 48 17 ≤ 3000 from gc_in hI184 R_48 rfl rfl)
  have f199 := (show 0 ≤ I184 48 18 ∧ I184 48 18 ≤ 24 from gc_in hI184 R_48 rfl rfl)
  have f200 := (show 0 ≤ I184 t 13 ∧ I184 t 13 ≤ 384 from gc_in hI184 R_t rfl rfl)
  have f201 := (show 0 ≤ I184 x 4 ∧ I184 x 4 ≤ 24 from gc_in hI184 R_x rfl rfl)
  have f202 := (show 0 ≤ I184 2 1 ∧ I184 2 1 ≤ 32 from gc_in hI184 R_2 rfl rfl)
  have f203 := (show (-1) ≤ I184 48 13 ∧ I184 48 13 ≤ 999999 from gc_in hI184 R_48 rfl rfl)
  have f204 := (show (-1) ≤ I184 48 14 ∧ I184 48 14 ≤ 999999 from gc_in hI184 R_48 rfl rfl)
  obtain rfl : J = J185 := funext fun q => funext fun j => ((k183 q j).resolve_left id).symm
  have KTR_I184 : gc_TR I184 := (gc_TR_pw KTR_I160 q183.2 (by exact gz_m 147 (by omega)))
  have KFN_I184 := gc_FN_fr KFN_I160 (fun k => (g183 49 k).resolve_left (fun h => h.elim (fun h => absurd h.1 (by decide)) (fun h => h.elim (fun h => absurd h.1 (by decide)) (fun h => h.elim (fun h => absurd h.1 (by decide)) (fun h => h.elim (fun h => absurd h (by decide)) (fun h => h.elim (fun h => absurd h (by decide)) (fun h => h.elim (fun h => absurd h (by decide)) (fun h => h.elim (fun h => absurd h (by decide)) (fun h => absurd h (by decide)))))))))) (fun k => (g183 50 k).resolve_left (fun h => h.elim (fun h => absurd h.1 (by decide)) (fun h => h.elim (fun h => absurd h.1 (by decide)) (fun h => h.elim (fun h => absurd h.1 (by decide)) (fun h => h.elim (fun h => absurd h (by decide)) (fun h => h.elim (fun h => absurd h (by decide)) (fun h => h.elim (fun h => absurd h (by decide)) (fun h => h.elim (fun h => absurd h (by decide)) (fun h => absurd h (by decide))))))))))
  have KLO_I184 := gc_LO_fr KLO_I160 ((g183 2 1).resolve_left (fun h => h.elim (fun h => absurd h.2 (by decide)) (fun h => h.elim (fun h => absurd h.2 (by decide)) (fun h => h.elim (fun h => absurd h.2 (by decide)) (fun h => h.elim (fun h => absurd h (by decide)) (fun h => h.elim (fun h => absurd h (by decide)) (fun h => h.elim (fun h => absurd h (by decide)) (fun h => h.elim (fun h => absurd h (by decide)) (fun h => absurd h (by decide)))))))))) ((g183 t 13).resolve_left (fun h => h.elim (fun h => absurd h.2 (by decide)) (fun h => h.elim (fun h => absurd h.2 (by decide)) (fun h => h.elim (fun h => absurd h.2 (by decide)) (fun h => h.elim (fun h => absurd h N_t__51) (fun h => h.elim (fun h => absurd h N_t__52) (fun h => h.elim (fun h => absurd h N_t__53) (fun h => h.elim (fun h => absurd h N_t__54) (fun h => absurd h N_t__55))))))))) (fun k => (g183 56 k).resolve_left (fun h => h.elim (fun h => absurd h.1 (by decide)) (fun h => h.elim (fun h => absurd h.1 (by decide)) (fun h => h.elim (fun h => absurd h.1 (by decide)) (fun h => h.elim (fun h => absurd h (by decide)) (fun h => h.elim (fun h => absurd h (by decide)) (fun h => h.elim (fun h => absurd h (by decide)) (fun h => h.elim (fun h => absurd h (by decide)) (fun h => absurd h (by decide)))))))))) (fun k => (g183 57 k).resolve_left (fun h => h.elim (fun h => absurd h.1 (by decide)) (fun h => h.elim (fun h => absurd h.1 (by decide)) (fun h => h.elim (fun h => absurd h.1 (by decide)) (fun h => h.elim (fun h => absurd h (by decide)) (fun h => h.elim (fun h => absurd h (by decide)) (fun h => h.elim (fun h => absurd h (by decide)) (fun h => h.elim (fun h => absurd h (by decide)) (fun h => absurd h (by decide))))))))))
  have KFZ_I184 := gc_FZ_fr KFZ_I160 ((g183 2 1).resolve_left (fun h => h.elim (fun h => absurd h.2 (by decide)) (fun h => h.elim (fun h => absurd h.2 (by decide)) (fun h => h.elim (fun h => absurd h.2 (by decide)) (fun h => h.elim (fun h => absurd h (by decide)) (fun h => h.elim (fun h => absurd h (by decide)) (fun h => h.elim (fun h => absurd h (by decide)) (fun h => h.elim (fun h => absurd h (by decide)) (fun h => absurd h (by decide)))))))))) (fun k => (g183 49 k).resolve_left (fun h => h.elim (fun h => absurd h.1 (by decide)) (fun h => h.elim (fun h => absurd h.1 (by decide)) (fun h => h.elim (fun h => absurd h.1 (by decide)) (fun h => h.elim (fun h => absurd h (by decide)) (fun h => h.elim (fun h => absurd h (by decide)) (fun h => h.elim (fun h => absurd h (by decide)) (fun h => h.elim (fun h => absurd h (by decide)) (fun h => absurd h (by decide)))))))))) (fun k => (g183 50 k).resolve_left (fun h => h.elim (fun h => absurd h.1 (by decide)) (fun h => h.elim (fun h => absurd h.1 (by decide)) (fun h => h.elim (fun h => absurd h.1 (by decide)) (fun h => h.elim (fun h => absurd h (by decide)) (fun h => h.elim (fun h => absurd h (by decide)) (fun h => h.elim (fun h => absurd h (by decide)) (fun h => h.elim (fun h => absurd h (by decide)) (fun h => absurd h (by decide))))))))))
  have KLK_I184 := gc_LK_fr KLK_I160 ((g183 2 1).resolve_left (fun h => h.elim (fun h => absurd h.2 (by decide)) (fun h => h.elim (fun h => absurd h.2 (by decide)) (fun h => h.elim (fun h => absurd h.2 (by decide)) (fun h => h.elim (fun h => absurd h (by decide)) (fun h => h.elim (fun h => absurd h (by decide)) (fun h => h.elim (fun h => absurd h (by decide)) (fun h => h.elim (fun h => absurd h (by decide)) (fun h => absurd h (by decide)))))))))) (fun k => (g183 56 k).resolve_left (fun h => h.elim (fun h => absurd h.1 (by decide)) (fun h => h.elim (fun h => absurd h.1 (by decide)) (fun h => h.elim (fun h => absurd h.1 (by decide)) (fun h => h.elim (fun h => absurd h (by decide)) (fun h => h.elim (fun h => absurd h (by decide)) (fun h => h.elim (fun h => absurd h (by decide)) (fun h => h.elim (fun h => absurd h (by decide)) (fun h => absurd h (by decide)))))))))) (fun k => (g183 57 k).resolve_left (fun h => h.elim (fun h => absurd h.1 (by decide)) (fun h => h.elim (fun h => absurd h.1 (by decide)) (fun h => h.elim (fun h => absurd h.1 (by decide)) (fun h => h.elim (fun h => absurd h (by decide)) (fun h => h.elim (fun h => absurd h (by decide)) (fun h => h.elim (fun h => absurd h (by decide)) (fun h => h.elim (fun h => absurd h (by decide)) (fun h => absurd h (by decide))))))))))
  have KFD_I184 := gc_FD_fr KFD_I160 (by exact gz_m 148 (by omega)) (fun k => (g183 49 k).resolve_left (fun h => h.elim (fun h => absurd h.1 (by decide)) (fun h => h.elim (fun h => absurd h.1 (by decide)) (fun h => h.elim (fun h => absurd h.1 (by decide)) (fun h => h.elim (fun h => absurd h (by decide)) (fun h => h.elim (fun h => absurd h (by decide)) (fun h => h.elim (fun h => absurd h (by decide)) (fun h => h.elim (fun h => absurd h (by decide)) (fun h => absurd h (by decide)))))))))) (fun k => (g183 50 k).resolve_left (fun h => h.elim (fun h => absurd h.1 (by decide)) (fun h => h.elim (fun h => absurd h.1 (by decide)) (fun h => h.elim (fun h => absurd h.1 (by decide)) (fun h => h.elim (fun h => absurd h (by decide)) (fun h => h.elim (fun h => absurd h (by decide)) (fun h => h.elim (fun h => absurd h (by decide)) (fun h => h.elim (fun h => absurd h (by decide)) (fun h => absurd h (by decide))))))))))
  refine gv_callV hD rfl (As := [.inl a3, .inl a4]) (st := []) rfl B_48 S_48 rfl (gc_lV0 hws rfl) (Nat.le_of_ble_eq_true rfl) (gz_Ev_mono (d := 3) (by decide) E183) ?_
  show gv_X _ _ (22, [(0, .inr (.inr (some 48))), (1, .inl a1), (2, .inl a2), (3, .inl a3), (4, .inl a4)], [], sh, gc_h sh I184 J A)
  refine gv_run 1 true hD (pc' := 23) (lv' := [(0, .inr (.inr (some 48))), (1, .inl a1), (2, .inl a2), (3, .inl a3), (4, .inl a4)]) (st' := [.inr (.inr (some 48))]) (h' := gc_h sh I184 J A) (C := (True ∧ True)) rfl ⟨trivial, trivial⟩ ?_
  refine gv_get hD rfl rfl S_48 ⟨by decide, B_48⟩ (gc_hA S_48 rfl A_48_15) ?_
  show gv_X _ _ (26, [(0, .inr (.inr (some 48))), (1, .inl a1), (2, .inl a2), (3, .inl a3), (4, .inl a4)], [.inr (.inr (some 56))], sh, gc_h sh I184 J A)
  refine gv_run 1 true hD (pc' := 27) (lv' := [(0, .inr (.inr (some 48))), (1, .inl a1), (2, .inl a2), (3, .inl a3), (4, .inl a4)]) (st' := [.inl a3, .inr (.inr (some 56))]) (h' := gc_h sh I184 J A) (C := (True ∧ True)) rfl ⟨trivial, trivial⟩ ?_
  have f205 := (show 0 ≤ I184 56 (Int.toNat a3) ∧ I184 56 (Int.toNat a3) ≤ 384 from gc_in hI184 R_56 rfl rfl)
  refine gv_iald hD rfl S_56 rfl ⟨by decide, B_56⟩ ⟨by exact gz_m 149 (by omega), by exact gz_m 150 (by omega)⟩ (gc_iI S_56 rfl) ?_
  show gv_X _ _ (28, [(0, .inr (.inr (some 48))), (1, .inl a1), (2, .inl a2), (3, .inl a3), (4, .inl a4)], [.inl (I184 56 (Int.toNat a3))], sh, gc_h sh I184 J A)
  refine gv_run 1 true hD (pc' := 30) (lv' := [(5, .inl (I184 56 (Int.toNat a3))), (0, .inr (.inr (some 48))), (1, .inl a1), (2, .inl a2), (3, .inl a3), (4, .inl a4)]) (st' := []) (h' := gc_h sh I184 J A) (C := (True ∧ True)) rfl ⟨trivial, trivial⟩ ?_
  refine gv_pick [1, 2, 3, 4, 0] rfl ?_
  exact L30 _ I184 J ((I184 56 (Int.toNat a3))) (Nat.lt_succ_self _) hI184 FI184 FJ KWV_I184 KFN_I184 KLO_I184 KWA_I184 KFZ_I184 KLK_I184 KTR_I184 KWB_I184 KFD_I184 (by exact gz_m 151 (by omega))
