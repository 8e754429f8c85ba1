set_option maxHeartbeats 8000000 in
set_option maxRecDepth 100000 in
theorem d_X7_pickWords {ws0 : List Cond} {tb : String → gz_T} (hws : gc_Ws ws0) (htb : gc_tbs tb) (sh : gz_Sh) (ro : Nat → Nat) (I : gr_I) (J : gr_J) (A : gc_A) (hI : gc_Inv ro I) (t : Nat) (σ : Nat → Int) (ς : Nat → Int → Int) (L : Int) (lo : Int) (hi : Int) (a1 : Int) (hb : gc_Base sh ro A) (h_t : gc_isTongue sh ro A t) (G_t : 144 ≤ t) (ha1 : 0 ≤ a1 ∧ a1 ≤ 95) (x0 : gc_OE σ ς L lo hi (-1) I) (x1 : 0 ≤ I 74 9) (x2 : lo ≤ I 74 9 ∧ I 74 9 < hi) (x3 : I 74 1 = (t : Int)) : ∃ r h', gz_Ev ws0 tb 3 (yX7_pickWords, cX7_pickWords, 6, none) [.inr (.inr (some 74)), .inl a1] sh (gc_h sh I J A) r sh h' 0 0 ∧ (∃ (I' : gr_I) (J' : gr_J), h' = gc_h sh I' J' A ∧ gc_Inv ro I' ∧ (∀ q j : Nat, (q = 76 ∨ q = 77 ∨ q = 78 ∨ q = 79 ∨ q = 80 ∨ q = 81) ∨ I' q j = I q j) ∧ (∀ q j : Nat, (False) ∨ J' q j = J q j) ∧ r = none ∧ (gc_OE σ ς L lo hi (-1) I') ∧ (∀ k : Nat, I 76 k ≤ I' 76 k)) := by
  have FI : ∀ q j : Nat, (q = 76 ∨ q = 77 ∨ q = 78 ∨ q = 79 ∨ q = 80 ∨ q = 81) ∨ I q j = I q j := fun _ _ => Or.inr rfl
  have FJ : ∀ q j : Nat, (False) ∨ J q j = J q j := fun _ _ => Or.inr rfl
  have A_1_9 : A 1 9 = some 14 := gc_bA hb rfl
  have A_74_0 : A 74 0 = some 1 := gc_bA hb rfl
  have B_1 : 1 < 1000000 := by decide
  have B_14 : 14 < 1000000 := by decide
  have B_74 : 74 < 1000000 := by decide
  have R_14 : ro 14 = 27 := gc_bR hb (by decide) rfl
  have R_74 : ro 74 = 73 := gc_bR hb (by decide) rfl
  have S_1 : sh[1]? = some (false, 8, 21) := gc_bS hb rfl
  have S_14 : sh[14]? = some (true, 1, 96) := gc_bS hb rfl
  have S_74 : sh[74]? = some (false, 7, 14) := gc_bS hb rfl
  obtain ⟨S_t, R_t, B_t, A_t_0, h_t_1, A_t_1, h_t_3, A_t_2, S_t_5, R_t_5, B_t_5, A_t_3, S_t_6, R_t_6, B_t_6, A_t_4, h_t_7, A_t_5, S_t_9, R_t_9, B_t_9, A_t_7, S_t_10, R_t_10, B_t_10, A_t_8, h_t_11, A_t_9, S_t_13, R_t_13, B_t_13, A_t_10, S_t_14, R_t_14, B_t_14, A_t_12, S_t_15, R_t_15, B_t_15, A_t_14, S_t_16, R_t_16, B_t_16, A_t_15, h_t_17⟩ := id h_t
  obtain ⟨S_t_1, R_t_1, B_t_1, A_t_1_0, S_t_1_1, R_t_1_1, B_t_1_1, Q0_t_1, Q1_t_1, Q2_t_1⟩ := id h_t_1
  obtain ⟨S_t_3, R_t_3, B_t_3, A_t_3_0, S_t_3_1, R_t_3_1, B_t_3_1, Q0_t_3, Q1_t_3, Q2_t_3⟩ := id h_t_3
  obtain ⟨S_t_7, R_t_7, B_t_7, A_t_7_0, S_t_7_1, R_t_7_1, B_t_7_1, Q0_t_7, Q1_t_7, Q2_t_7⟩ := id h_t_7
  obtain ⟨S_t_11, R_t_11, B_t_11, A_t_11_0, S_t_11_1, R_t_11_1, B_t_11_1, Q0_t_11, Q1_t_11, Q2_t_11⟩ := id h_t_11
  obtain ⟨S_t_17, R_t_17, B_t_17, A_t_17_0, S_20, R_20, B_20, A_t_17_1, S_t_17_1, R_t_17_1, B_t_17_1, A_t_17_2, S_t_17_2, R_t_17_2, B_t_17_2, A_t_17_3, S_t_17_3, R_t_17_3, B_t_17_3, A_t_17_4, S_t_17_4, R_t_17_4, B_t_17_4, A_t_17_5, S_t_17_5, R_t_17_5, B_t_17_5, S_t_17_6, R_t_17_6, B_t_17_6, S_t_17_7, R_t_17_7, B_t_17_7⟩ := id h_t_17
  have hD : gv_D (gc_E7 ws0 tb 2 (yX7_pickWords, cX7_pickWords, 6, none) kX7_pickWords) := gq_of oX7_pickWords
  refine gc_ev7 (d := 2) (l := kX7_pickWords) (Po := fun r h' => (∃ (I' : gr_I) (J' : gr_J), h' = gc_h sh I' J' A ∧ gc_Inv ro I' ∧ (∀ q j : Nat, (q = 76 ∨ q = 77 ∨ q = 78 ∨ q = 79 ∨ q = 80 ∨ q = 81) ∨ I' q j = I q j) ∧ (∀ q j : Nat, (False) ∨ J' q j = J q j) ∧ r = none ∧ (gc_OE σ ς L lo hi (-1) I') ∧ (∀ k : Nat, I 76 k ≤ I' 76 k))) htb rfl (Nat.le_of_ble_eq_true rfl) ?_
  have N_t__76 : ¬ (t = 76) := by exact gz_m 0 (by omega)
  have N_t__77 : ¬ (t = 77) := by exact gz_m 1 (by omega)
  have N_t__78 : ¬ (t = 78) := by exact gz_m 2 (by omega)
  have N_t__79 : ¬ (t = 79) := by exact gz_m 3 (by omega)
  have N_t__80 : ¬ (t = 80) := by exact gz_m 4 (by omega)
  have N_t__81 : ¬ (t = 81) := by exact gz_m 5 (by omega)
  have f1 := (show (-1) ≤ I 74 9 ∧ I 74 9 ≤ 59 from gc_in hI R_74 rfl rfl)
  have f2 := (show 0 ≤ I t 11 ∧ I t 11 ≤ 64 from gc_in hI R_t rfl rfl)
  have f3 := (show (-1) ≤ I 74 1 ∧ I 74 1 ≤ 999999 from gc_in hI R_74 rfl rfl)
  have L2 : ∀ (n9 : Nat) (I4 : gr_I) (J5 : gr_J) (v2_6 : Int), (65 - v2_6).toNat < n9 → gc_Inv ro I4 → (∀ q j : Nat, (q = 76 ∨ q = 77 ∨ q = 78 ∨ q = 79 ∨ q = 80 ∨ q = 81) ∨ I4 q j = I q j) → (∀ q j : Nat, (False) ∨ J5 q j = J q j) → ((0 ≤ a1 ∧ a1 ≤ 95) ∧ (0 ≤ v2_6 ∧ v2_6 ≤ 64) ∧ (I4 74 9 = I 74 9) ∧ (I4 74 1 = (t : Int))) → (gc_OE σ ς L lo hi (-1) I4) → (∀ k : Nat, I 76 k ≤ I4 76 k) → gv_X (gc_E7 ws0 tb 2 (yX7_pickWords, cX7_pickWords, 6, none) kX7_pickWords) (gv_Q cX7_pickWords none sh (fun r h' => (∃ (I' : gr_I) (J' : gr_J), h' = gc_h sh I' J' A ∧ gc_Inv ro I' ∧ (∀ q j : Nat, (q = 76 ∨ q = 77 ∨ q = 78 ∨ q = 79 ∨ q = 80 ∨ q = 81) ∨ I' q j = I q j) ∧ (∀ q j : Nat, (False) ∨ J' q j = J q j) ∧ r = none ∧ (gc_OE σ ς L lo hi (-1) I') ∧ (∀ k : Nat, I 76 k ≤ I' 76 k)))) (2, [(0, .inr (.inr (some 74))), (1, .inl a1), (2, .inl v2_6)], [], sh, gc_h sh I4 J5 A) := by
    intro n9
    induction n9 with
    | zero => intro I4 J5 v2_6 hn; exact gz_m 6 (by omega)
    | succ n9 ih2 =>
      intro I4 J5 v2_6 hn hI4 FI4 FJ5 m_6 e0_6 e1_6
      obtain ⟨ha1_6, hv2_6, e2_6, e3_6⟩ := m_6
      have f7 := (show (-1) ≤ I4 74 9 ∧ I4 74 9 ≤ 59 from gc_in hI4 R_74 rfl rfl)
      have f8 := (show 0 ≤ I4 t 11 ∧ I4 t 11 ≤ 64 from gc_in hI4 R_t rfl rfl)
      have f9 := (show (-1) ≤ I4 74 1 ∧ I4 74 1 ≤ 999999 from gc_in hI4 R_74 rfl rfl)
      have L112 : ∀ (I10 : gr_I) (J11 : gr_J) , gc_Inv ro I10 → (∀ q j : Nat, (q = 76 ∨ q = 77 ∨ q = 78 ∨ q = 79 ∨ q = 80 ∨ q = 81) ∨ I10 q j = I q j) → (∀ q j : Nat, (False) ∨ J11 q j = J q j) → ((0 ≤ a1 ∧ a1 ≤ 95) ∧ (0 ≤ v2_6 ∧ v2_6 ≤ 63) ∧ (I10 74 9 = I 74 9) ∧ (v2_6 ≤ 63) ∧ (I10 74 1 = (t : Int))) → (gc_OE σ ς L lo hi (-1) I10) → (∀ k : Nat, I 76 k ≤ I10 76 k) → gv_X (gc_E7 ws0 tb 2 (yX7_pickWords, cX7_pickWords, 6, none) kX7_pickWords) (gv_Q cX7_pickWords none sh (fun r h' => (∃ (I' : gr_I) (J' : gr_J), h' = gc_h sh I' J' A ∧ gc_Inv ro I' ∧ (∀ q j : Nat, (q = 76 ∨ q = 77 ∨ q = 78 ∨ q = 79 ∨ q = 80 ∨ q = 81) ∨ I' q j = I q j) ∧ (∀ q j : Nat, (False) ∨ J' q j = J q j) ∧ r = none ∧ (gc_OE σ ς L lo hi (-1) I') ∧ (∀ k : Nat, I 76 k ≤ I' 76 k)))) (112, [(0, .inr (.inr (some 74))), (1, .inl a1), (2, .inl v2_6)], [], sh, gc_h sh I10 J11 A) := by
        intro I10 J11 hI10 FI10 FJ11 m_12 e0_12 e1_12
        clear ha1_6 hv2_6 e2_6 e3_6 f7 f8 f9
        obtain ⟨ha1_12, hv2_6_12, e2_12, e3_12, e4_12⟩ := m_12
        have f13 := (show (-1) ≤ I10 74 9 ∧ I10 74 9 ≤ 59 from gc_in hI10 R_74 rfl rfl)
        have f14 := (show 0 ≤ I10 t 11 ∧ I10 t 11 ≤ 64 from gc_in hI10 R_t rfl rfl)
        have f15 := (show (-1) ≤ I10 74 1 ∧ I10 74 1 ≤ 999999 from gc_in hI10 R_74 rfl rfl)
        refine gv_run 2 true hD (pc' := 2) (lv' := [(2, .inl (v2_6 + 1)), (0, .inr (.inr (some 74))), (1, .inl a1)]) (st' := []) (h' := gc_h sh I10 J11 A) (C := ((True ∧ True) ∧ True)) rfl ⟨⟨trivial, trivial⟩, trivial⟩ ?_
        refine gv_pick [1, 2, 0] rfl ?_
        exact ih2 I10 J11 (v2_6 + 1) (by exact gz_m 7 (by omega)) hI10 FI10 FJ11 (by exact gz_m 8 (by omega)) e0_12 e1_12
      have L30 : ∀ (n9 : Nat) (I16 : gr_I) (J17 : gr_J) (v3_18 : Int), (25 - v3_18).toNat < n9 → gc_Inv ro I16 → (∀ q j : Nat, (q = 76 ∨ q = 77 ∨ q = 78 ∨ q = 79 ∨ q = 80 ∨ q = 81) ∨ I16 q j = I q j) → (∀ q j : Nat, (False) ∨ J17 q j = J q j) → ((0 ≤ a1 ∧ a1 ≤ 95) ∧ (0 ≤ v2_6 ∧ v2_6 ≤ 63) ∧ (0 ≤ v3_18 ∧ v3_18 ≤ 24) ∧ (I16 74 9 = I 74 9) ∧ (v2_6 ≤ 63) ∧ (I16 74 1 = (t : Int))) → (gc_OE σ ς L lo hi (-1) I16) → (∀ k : Nat, I 76 k ≤ I16 76 k) → gv_X (gc_E7 ws0 tb 2 (yX7_pickWords, cX7_pickWords, 6, none) kX7_pickWords) (gv_Q cX7_pickWords none sh (fun r h' => (∃ (I' : gr_I) (J' : gr_J), h' = gc_h sh I' J' A ∧ gc_Inv ro I' ∧ (∀ q j : Nat, (q = 76 ∨ q = 77 ∨ q = 78 ∨ q = 79 ∨ q = 80 ∨ q = 81) ∨ I' q j = I q j) ∧ (∀ q j : Nat, (False) ∨ J' q j = J q j) ∧ r = none ∧ (gc_OE σ ς L lo hi (-1) I') ∧ (∀ k : Nat, I 76 k ≤ I' 76 k)))) (30, [(0, .inr (.inr (some 74))), (1, .inl a1), (2, .inl v2_6), (3, .inl v3_18)], [], sh, gc_h sh I16 J17 A) := by
        intro n9
        induction n9 with
        | zero => intro I16 J17 v3_18 hn; exact gz_m 9 (by omega)
        | succ n9 ih30 =>
          intro I16 J17 v3_18 hn hI16 FI16 FJ17 m_18 e0_18 e1_18
          clear ha1_6 hv2_6 e2_6 e3_6 f7 f8 f9
          obtain ⟨ha1_18, hv2_6_18, hv3_18, e2_18, e3_18, e4_18⟩ := m_18
          have f19 := (show (-1) ≤ I16 74 9 ∧ I16 74 9 ≤ 59 from gc_in hI16 R_74 rfl rfl)
          have f20 := (show 0 ≤ I16 t 11 ∧ I16 t 11 ≤ 64 from gc_in hI16 R_t rfl rfl)
          have f21 := (show (-1) ≤ I16 74 1 ∧ I16 74 1 ≤ 999999 from gc_in hI16 R_74 rfl rfl)
          have L106 : ∀ (I22 : gr_I) (J23 : gr_J) , gc_Inv ro I22 → (∀ q j : Nat, (q = 76 ∨ q = 77 ∨ q = 78 ∨ q = 79 ∨ q = 80 ∨ q = 81) ∨ I22 q j = I q j) → (∀ q j : Nat, (False) ∨ J23 q j = J q j) → ((0 ≤ a1 ∧ a1 ≤ 95) ∧ (0 ≤ v2_6 ∧ v2_6 ≤ 63) ∧ (0 ≤ v3_18 ∧ v3_18 ≤ 23) ∧ (I22 74 9 = I 74 9) ∧ (v2_6 ≤ 63) ∧ (v3_18 ≤ 23) ∧ (I22 74 1 = (t : Int))) → (gc_OE σ ς L lo hi (-1) I22) → (∀ k : Nat, I 76 k ≤ I22 76 k) → gv_X (gc_E7 ws0 tb 2 (yX7_pickWords, cX7_pickWords, 6, none) kX7_pickWords) (gv_Q cX7_pickWords none sh (fun r h' => (∃ (I' : gr_I) (J' : gr_J), h' = gc_h sh I' J' A ∧ gc_Inv ro I' ∧ (∀ q j : Nat, (q = 76 ∨ q = 77 ∨ q = 78 ∨ q = 79 ∨ q = 80 ∨ q = 81) ∨ I' q j = I q j) ∧ (∀ q j : Nat, (False) ∨ J' q j = J q j) ∧ r = none ∧ (gc_OE σ ς L lo hi (-1) I') ∧ (∀ k : Nat, I 76 k ≤ I' 76 k)))) (106, [(0, .inr (.inr (some 74))), (1, .inl a1), (2, .inl v2_6), (3, .inl v3_18)], [], sh, gc_h sh I22 J23 A) := by
            intro I22 J23 hI22 FI22 FJ23 m_24 e0_24 e1_24
            clear ha1_18 hv2_6_18 hv3_18 e2_18 e3_18 e4_18 f19 f20 f21
            obtain ⟨ha1_24, hv2_6_24, hv3_18_24, e2_24, e3_24, e4_24, e5_24⟩ := m_24
            have f25 := (show (-1) ≤ I22 74 9 ∧ I22 74 9 ≤ 59 from gc_in hI22 R_74 rfl rfl)
            have f26 := (show 0 ≤ I22 t 11 ∧ I22 t 11 ≤ 64 from gc_in hI22 R_t rfl rfl)
            have f27 := (show (-1) ≤ I22 74 1 ∧ I22 74 1 ≤ 999999 from gc_in hI22 R_74 rfl rfl)
            refine gv_run 2 true hD (pc' := 30) (lv' := [(3, .inl (v3_18 + 1)), (0, .inr (.inr (some 74))), (1, .inl a1), (2, .inl v2_6)]) (st' := []) (h' := gc_h sh I22 J23 A) (C := ((True ∧ True) ∧ True)) rfl ⟨⟨trivial, trivial⟩, trivial⟩ ?_
            refine gv_pick [1, 2, 3, 0] rfl ?_
            exact ih30 I22 J23 (v3_18 + 1) (by exact gz_m 10 (by omega)) hI22 FI22 FJ23 (by exact gz_m 11 (by omega)) e0_24 e1_24
          refine gv_run 2 true hD (pc' := 32) (lv' := [(0, .inr (.inr (some 74))), (1, .inl a1), (2, .inl v2_6), (3, .inl v3_18)]) (st' := [.inr (.inr (some 74)), .inl v3_18]) (h' := gc_h sh I16 J17 A) (C := ((True ∧ True) ∧ True)) rfl ⟨⟨trivial, trivial⟩, trivial⟩ ?_
          refine gv_get hD rfl rfl S_74 ⟨by decide, B_74⟩ (gc_h5 (t := t) S_74 rfl (by exact gz_m 12 (by omega))) ?_
          show gv_X _ _ (35, [(0, .inr (.inr (some 74))), (1, .inl a1), (2, .inl v2_6), (3, .inl v3_18)], [.inr (.inr (some t)), .inl v3_18], sh, gc_h sh I16 J17 A)
          refine gv_run 1 true hD (pc' := 36) (lv' := [(0, .inr (.inr (some 74))), (1, .inl a1), (2, .inl v2_6), (3, .inl v3_18)]) (st' := [.inl v2_6, .inr (.inr (some t)), .inl v3_18]) (h' := gc_h sh I16 J17 A) (C := (True ∧ True)) rfl ⟨trivial, trivial⟩ ?_
          obtain ⟨r28, h28, E28, P28⟩ := d_X11_cellsOf (ws0 := ws0) (tb := tb) hws htb sh ro I16 J17 A hI16 t v2_6 h_t   ⟨by exact gz_m 13 (by omega), by exact gz_m 14 (by omega)⟩  
          obtain ⟨rfl, ⟨z28, rfl, q28⟩⟩ := P28
          refine gv_callV hD rfl (As := [.inl v2_6]) (st := [.inl v3_18]) rfl B_t S_t rfl (gc_lV7 hws rfl) (Nat.le_of_ble_eq_true rfl) (gz_Ev_mono (d := 2) (by decide) E28) ?_
          show gv_X _ _ (39, [(0, .inr (.inr (some 74))), (1, .inl a1), (2, .inl v2_6), (3, .inl v3_18)], [.inl z28, .inl v3_18], sh, gc_h sh I16 J17 A)
          refine gv_icmp_ge (t := 112) hD rfl rfl ⟨⟨by exact gz_m 15 (by omega), by exact gz_m 16 (by omega)⟩, ⟨by exact gz_m 17 (by omega), by exact gz_m 18 (by omega)⟩⟩ (fun c29 => ?_) (fun c29 => ?_)
          · show gv_X _ _ (112, [(0, .inr (.inr (some 74))), (1, .inl a1), (2, .inl v2_6), (3, .inl v3_18)], [], sh, gc_h sh I16 J17 A)
            refine gv_pick [0, 1, 2] rfl ?_
            exact L112 I16 J17 hI16 FI16 FJ17 (by exact gz_m 19 (by omega)) e0_18 e1_18
          · show gv_X _ _ (42, [(0, .inr (.inr (some 74))), (1, .inl a1), (2, .inl v2_6), (3, .inl v3_18)], [], sh, gc_h sh I16 J17 A)
            refine gv_run 7 true hD (pc' := 51) (lv' := [(4, .inl ((v2_6 * 24) + v3_18)), (0, .inr (.inr (some 74))), (1, .inl a1), (2, .inl v2_6), (3, .inl v3_18)]) (st' := [.inr (.inr (some 74))]) (h' := gc_h sh I16 J17 A) (C := (((((((True ∧ True) ∧ True) ∧ True) ∧ True) ∧ True) ∧ True) ∧ True)) rfl ⟨⟨⟨⟨⟨⟨⟨trivial, trivial⟩, trivial⟩, trivial⟩, trivial⟩, trivial⟩, trivial⟩, trivial⟩ ?_
            refine gv_get hD rfl rfl S_74 ⟨by decide, B_74⟩ (gc_h5 (t := t) S_74 rfl (by exact gz_m 20 (by omega))) ?_
            show gv_X _ _ (54, [(4, .inl ((v2_6 * 24) + v3_18)), (0, .inr (.inr (some 74))), (1, .inl a1), (2, .inl v2_6), (3, .inl v3_18)], [.inr (.inr (some t))], sh, gc_h sh I16 J17 A)
            refine gv_get hD rfl rfl S_t ⟨by decide, B_t⟩ (gc_hA S_t rfl A_t_15) ?_
            show gv_X _ _ (57, [(4, .inl ((v2_6 * 24) + v3_18)), (0, .inr (.inr (some 74))), (1, .inl a1), (2, .inl v2_6), (3, .inl v3_18)], [.inr (.inr (some (t + 17)))], sh, gc_h sh I16 J17 A)
            refine gv_get hD rfl rfl S_t_17 ⟨by decide, B_t_17⟩ (gc_hA S_t_17 rfl A_t_17_2) ?_
            show gv_X _ _ (60, [(4, .inl ((v2_6 * 24) + v3_18)), (0, .inr (.inr (some 74))), (1, .inl a1), (2, .inl v2_6), (3, .inl v3_18)], [.inr (.inr (some ((t + 17) + 2)))], sh, gc_h sh I16 J17 A)
            refine gv_run 1 true hD (pc' := 62) (lv' := [(4, .inl ((v2_6 * 24) + v3_18)), (0, .inr (.inr (some 74))), (1, .inl a1), (2, .inl v2_6), (3, .inl v3_18)]) (st' := [.inl ((v2_6 * 24) + v3_18), .inr (.inr (some ((t + 17) + 2)))]) (h' := gc_h sh I16 J17 A) (C := (True ∧ True)) rfl ⟨trivial, trivial⟩ ?_
            have f30 := (show (-1) ≤ I16 ((t + 17) + 2) (Int.toNat (((v2_6 * 24) + v3_18))) ∧ I16 ((t + 17) + 2) (Int.toNat (((v2_6 * 24) + v3_18))) ≤ 24 from gc_in hI16 R_t_17_2 rfl rfl)
            refine gv_iald hD rfl S_t_17_2 rfl ⟨by decide, B_t_17_2⟩ ⟨by exact gz_m 21 (by omega), by exact gz_m 22 (by omega)⟩ (gc_iI S_t_17_2 rfl) ?_
            show gv_X _ _ (63, [(4, .inl ((v2_6 * 24) + v3_18)), (0, .inr (.inr (some 74))), (1, .inl a1), (2, .inl v2_6), (3, .inl v3_18)], [.inl (I16 ((t + 17) + 2) (Int.toNat (((v2_6 * 24) + v3_18))))], sh, gc_h sh I16 J17 A)
            refine gv_run 2 true hD (pc' := 67) (lv' := [(5, .inl (I16 ((t + 17) + 2) (Int.toNat (((v2_6 * 24) + v3_18))))), (4, .inl ((v2_6 * 24) + v3_18)), (0, .inr (.inr (some 74))), (1, .inl a1), (2, .inl v2_6), (3, .inl v3_18)]) (st' := [.inl (I16 ((t + 17) + 2) (Int.toNat (((v2_6 * 24) + v3_18))))]) (h' := gc_h sh I16 J17 A) (C := ((True ∧ True) ∧ True)) rfl ⟨⟨trivial, trivial⟩, trivial⟩ ?_
            refine gv_if_le (t := 106) hD rfl rfl ⟨by exact gz_m 23 (by omega), by exact gz_m 24 (by omega)⟩ (fun c31 => ?_) (fun c31 => ?_)
            · show gv_X _ _ (106, [(5, .inl (I16 ((t + 17) + 2) (Int.toNat (((v2_6 * 24) + v3_18))))), (4, .inl ((v2_6 * 24) + v3_18)), (0, .inr (.inr (some 74))), (1, .inl a1), (2, .inl v2_6), (3, .inl v3_18)], [], sh, gc_h sh I16 J17 A)
              refine gv_pick [2, 3, 4, 5] rfl ?_
              exact L106 I16 J17 hI16 FI16 FJ17 (by exact gz_m 25 (by omega)) e0_18 e1_18
            · show gv_X _ _ (70, [(5, .inl (I16 ((t + 17) + 2) (Int.toNat (((v2_6 * 24) + v3_18))))), (4, .inl ((v2_6 * 24) + v3_18)), (0, .inr (.inr (some 74))), (1, .inl a1), (2, .inl v2_6), (3, .inl v3_18)], [], sh, gc_h sh I16 J17 A)
              refine gv_run 3 true hD (pc' := 74) (lv' := [(5, .inl (I16 ((t + 17) + 2) (Int.toNat (((v2_6 * 24) + v3_18))))), (4, .inl ((v2_6 * 24) + v3_18)), (0, .inr (.inr (some 74))), (1, .inl a1), (2, .inl v2_6), (3, .inl v3_18)]) (st' := [.inr (.inr (some 74)), .inl ((v2_6 * 24) + v3_18), .inr (.inr (some 74))]) (h' := gc_h sh I16 J17 A) (C := (((True ∧ True) ∧ True) ∧ True)) rfl ⟨⟨⟨trivial, trivial⟩, trivial⟩, trivial⟩ ?_
              refine gv_get hD rfl rfl S_74 ⟨by decide, B_74⟩ (gc_h5 (t := t) S_74 rfl (by exact gz_m 26 (by omega))) ?_
              show gv_X _ _ (77, [(5, .inl (I16 ((t + 17) + 2) (Int.toNat (((v2_6 * 24) + v3_18))))), (4, .inl ((v2_6 * 24) + v3_18)), (0, .inr (.inr (some 74))), (1, .inl a1), (2, .inl v2_6), (3, .inl v3_18)], [.inr (.inr (some t)), .inl ((v2_6 * 24) + v3_18), .inr (.inr (some 74))], sh, gc_h sh I16 J17 A)
              refine gv_run 1 true hD (pc' := 78) (lv' := [(5, .inl (I16 ((t + 17) + 2) (Int.toNat (((v2_6 * 24) + v3_18))))), (4, .inl ((v2_6 * 24) + v3_18)), (0, .inr (.inr (some 74))), (1, .inl a1), (2, .inl v2_6), (3, .inl v3_18)]) (st' := [.inl v2_6, .inr (.inr (some t)), .inl ((v2_6 * 24) + v3_18), .inr (.inr (some 74))]) (h' := gc_h sh I16 J17 A) (C := (True ∧ True)) rfl ⟨trivial, trivial⟩ ?_
              obtain ⟨r32, h32, E32, P32⟩ := d_X11_wordCost (ws0 := ws0) (tb := tb) hws htb sh ro I16 J17 A hI16 t v2_6 h_t   ⟨by exact gz_m 27 (by omega), by exact gz_m 28 (by omega)⟩  
              obtain ⟨rfl, ⟨z32, rfl, q32⟩⟩ := P32
              refine gv_callV hD rfl (As := [.inl v2_6]) (st := [.inl ((v2_6 * 24) + v3_18), .inr (.inr (some 74))]) rfl B_t S_t rfl (gc_lV7 hws rfl) (Nat.le_of_ble_eq_true rfl) (gz_Ev_mono (d := 1) (by decide) E32) ?_
              show gv_X _ _ (81, [(5, .inl (I16 ((t + 17) + 2) (Int.toNat (((v2_6 * 24) + v3_18))))), (4, .inl ((v2_6 * 24) + v3_18)), (0, .inr (.inr (some 74))), (1, .inl a1), (2, .inl v2_6), (3, .inl v3_18)], [.inl z32, .inl ((v2_6 * 24) + v3_18), .inr (.inr (some 74))], sh, gc_h sh I16 J17 A)
              refine gv_run 1 true hD (pc' := 82) (lv' := [(5, .inl (I16 ((t + 17) + 2) (Int.toNat (((v2_6 * 24) + v3_18))))), (4, .inl ((v2_6 * 24) + v3_18)), (0, .inr (.inr (some 74))), (1, .inl a1), (2, .inl v2_6), (3, .inl v3_18)]) (st' := [.inr (.inr (some 74)), .inl z32, .inl ((v2_6 * 24) + v3_18), .inr (.inr (some 74))]) (h' := gc_h sh I16 J17 A) (C := (True ∧ True)) rfl ⟨trivial, trivial⟩ ?_
              refine gv_get hD rfl rfl S_74 ⟨by decide, B_74⟩ (gc_hA S_74 rfl A_74_0) ?_
              show gv_X _ _ (85, [(5, .inl (I16 ((t + 17) + 2) (Int.toNat (((v2_6 * 24) + v3_18))))), (4, .inl ((v2_6 * 24) + v3_18)), (0, .inr (.inr (some 74))), (1, .inl a1), (2, .inl v2_6), (3, .inl v3_18)], [.inr (.inr (some 1)), .inl z32, .inl ((v2_6 * 24) + v3_18), .inr (.inr (some 74))], sh, gc_h sh I16 J17 A)
              refine gv_get hD rfl rfl S_1 ⟨by decide, B_1⟩ (gc_hA S_1 rfl A_1_9) ?_
              show gv_X _ _ (88, [(5, .inl (I16 ((t + 17) + 2) (Int.toNat (((v2_6 * 24) + v3_18))))), (4, .inl ((v2_6 * 24) + v3_18)), (0, .inr (.inr (some 74))), (1, .inl a1), (2, .inl v2_6), (3, .inl v3_18)], [.inr (.inr (some 14)), .inl z32, .inl ((v2_6 * 24) + v3_18), .inr (.inr (some 74))], sh, gc_h sh I16 J17 A)
              refine gv_run 1 true hD (pc' := 89) (lv' := [(5, .inl (I16 ((t + 17) + 2) (Int.toNat (((v2_6 * 24) + v3_18))))), (4, .inl ((v2_6 * 24) + v3_18)), (0, .inr (.inr (some 74))), (1, .inl a1), (2, .inl v2_6), (3, .inl v3_18)]) (st' := [.inl a1, .inr (.inr (some 14)), .inl z32, .inl ((v2_6 * 24) + v3_18), .inr (.inr (some 74))]) (h' := gc_h sh I16 J17 A) (C := (True ∧ True)) rfl ⟨trivial, trivial⟩ ?_
              have f33 := (show 0 ≤ I16 14 (Int.toNat a1) ∧ I16 14 (Int.toNat a1) ≤ 10000 from gc_in hI16 R_14 rfl rfl)
              refine gv_iald hD rfl S_14 rfl ⟨by decide, B_14⟩ ⟨by exact gz_m 29 (by omega), by exact gz_m 30 (by omega)⟩ (gc_iI S_14 rfl) ?_
              show gv_X _ _ (90, [(5, .inl (I16 ((t + 17) + 2) (Int.toNat (((v2_6 * 24) + v3_18))))), (4, .inl ((v2_6 * 24) + v3_18)), (0, .inr (.inr (some 74))), (1, .inl a1), (2, .inl v2_6), (3, .inl v3_18)], [.inl (I16 14 (Int.toNat a1)), .inl z32, .inl ((v2_6 * 24) + v3_18), .inr (.inr (some 74))], sh, gc_h sh I16 J17 A)
              refine gv_run 2 true hD (pc' := 92) (lv' := [(5, .inl (I16 ((t + 17) + 2) (Int.toNat (((v2_6 * 24) + v3_18))))), (4, .inl ((v2_6 * 24) + v3_18)), (0, .inr (.inr (some 74))), (1, .inl a1), (2, .inl v2_6), (3, .inl v3_18)]) (st' := [.inr (.inr (some 74)), .inl (z32 + (I16 14 (Int.toNat a1))), .inl ((v2_6 * 24) + v3_18), .inr (.inr (some 74))]) (h' := gc_h sh I16 J17 A) (C := ((True ∧ True) ∧ True)) rfl ⟨⟨trivial, trivial⟩, trivial⟩ ?_
              refine gv_get hD rfl rfl S_74 ⟨by decide, B_74⟩ (gc_h5 (t := t) S_74 rfl (by exact gz_m 31 (by omega))) ?_
              show gv_X _ _ (95, [(5, .inl (I16 ((t + 17) + 2) (Int.toNat (((v2_6 * 24) + v3_18))))), (4, .inl ((v2_6 * 24) + v3_18)), (0, .inr (.inr (some 74))), (1, .inl a1), (2, .inl v2_6), (3, .inl v3_18)], [.inr (.inr (some t)), .inl (z32 + (I16 14 (Int.toNat a1))), .inl ((v2_6 * 24) + v3_18), .inr (.inr (some 74))], sh, gc_h sh I16 J17 A)
              refine gv_run 1 true hD (pc' := 97) (lv' := [(5, .inl (I16 ((t + 17) + 2) (Int.toNat (((v2_6 * 24) + v3_18))))), (4, .inl ((v2_6 * 24) + v3_18)), (0, .inr (.inr (some 74))), (1, .inl a1), (2, .inl v2_6), (3, .inl v3_18)]) (st' := [.inl ((v2_6 * 24) + v3_18), .inr (.inr (some t)), .inl (z32 + (I16 14 (Int.toNat a1))), .inl ((v2_6 * 24) + v3_18), .inr (.inr (some 74))]) (h' := gc_h sh I16 J17 A) (C := (True ∧ True)) rfl ⟨trivial, trivial⟩ ?_
              obtain ⟨r34, h34, E34, P34⟩ := d_X11_formValues (ws0 := ws0) (tb := tb) hws htb sh ro I16 J17 A hI16 t (((v2_6 * 24) + v3_18)) h_t   ⟨by exact gz_m 32 (by omega), by exact gz_m 33 (by omega)⟩  
              obtain ⟨rfl, ⟨z34, rfl, q34⟩⟩ := P34
              refine gv_callV hD rfl (As := [.inl ((v2_6 * 24) + v3_18)]) (st := [.inl (z32 + (I16 14 (Int.toNat a1))), .inl ((v2_6 * 24) + v3_18), .inr (.inr (some 74))]) rfl B_t S_t rfl (gc_lV7 hws rfl) (Nat.le_of_ble_eq_true rfl) (gz_Ev_mono (d := 2) (by decide) E34) ?_
              show gv_X _ _ (100, [(5, .inl (I16 ((t + 17) + 2) (Int.toNat (((v2_6 * 24) + v3_18))))), (4, .inl ((v2_6 * 24) + v3_18)), (0, .inr (.inr (some 74))), (1, .inl a1), (2, .inl v2_6), (3, .inl v3_18)], [.inl z34, .inl (z32 + (I16 14 (Int.toNat a1))), .inl ((v2_6 * 24) + v3_18), .inr (.inr (some 74))], sh, gc_h sh I16 J17 A)
              refine gv_run 2 true hD (pc' := 103) (lv' := [(5, .inl (I16 ((t + 17) + 2) (Int.toNat (((v2_6 * 24) + v3_18))))), (4, .inl ((v2_6 * 24) + v3_18)), (0, .inr (.inr (some 74))), (1, .inl a1), (2, .inl v2_6), (3, .inl v3_18)]) (st' := [.inl 0, .inl (I16 ((t + 17) + 2) (Int.toNat (((v2_6 * 24) + v3_18)))), .inl z34, .inl (z32 + (I16 14 (Int.toNat a1))), .inl ((v2_6 * 24) + v3_18), .inr (.inr (some 74))]) (h' := gc_h sh I16 J17 A) (C := ((True ∧ True) ∧ True)) rfl ⟨⟨trivial, trivial⟩, trivial⟩ ?_
              obtain ⟨r35, h35, E35, P35⟩ := d_X7_putOption (ws0 := ws0) (tb := tb) hws htb sh ro I16 J17 A hI16  σ ς L lo hi (((v2_6 * 24) + v3_18)) ((z32 + (I16 14 (Int.toNat a1)))) z34 ((I16 ((t + 17) + 2) (Int.toNat (((v2_6 * 24) + v3_18))))) 0 hb   ⟨by exact gz_m 34 (by omega), by exact gz_m 35 (by omega)⟩ ⟨by exact gz_m 36 (by omega), by exact gz_m 37 (by omega)⟩ ⟨by exact gz_m 38 (by omega), by exact gz_m 39 (by omega)⟩ ⟨by exact gz_m 40 (by omega), by exact gz_m 41 (by omega)⟩ ⟨by exact gz_m 42 (by omega), by exact gz_m 43 (by omega)⟩ e0_18 (Or.inl (by exact gz_m 44 (by omega))) (by exact gz_m 45 (by omega)) (by exact gz_m 46 (by omega)) 
              obtain ⟨I36, J37, rfl, hI36, g35, k35, ⟨rfl, q35⟩⟩ := P35
              have FI36 := gc_frc (W := fun q j => q = 76 ∨ q = 77 ∨ q = 78 ∨ q = 79 ∨ q = 80 ∨ q = 81) (V := fun q j => q = 76 ∨ q = 77 ∨ q = 78 ∨ q = 79 ∨ q = 80 ∨ q = 81) FI16 (fun q j h => (h.elim (fun h => (Or.inl h)) (fun h => (h.elim (fun h => (Or.inr (Or.inl h))) (fun h => (h.elim (fun h => (Or.inr (Or.inr (Or.inl h)))) (fun h => (h.elim (fun h => (Or.inr (Or.inr (Or.inr (Or.inl h))))) (fun h => (h.elim (fun h => (Or.inr (Or.inr (Or.inr (Or.inr (Or.inl h)))))) (fun h => (Or.inr (Or.inr (Or.inr (Or.inr (Or.inr h)))))))))))))))) g35
              have t38 := (g35 74 9).resolve_left (fun h => h.elim (fun h => absurd h (by decide)) (fun h => h.elim (fun h => absurd h (by decide)) (fun h => h.elim (fun h => absurd h (by decide)) (fun h => h.elim (fun h => absurd h (by decide)) (fun h => h.elim (fun h => absurd h (by decide)) (fun h => absurd h (by decide)))))))
              have t39 := (g35 t 11).resolve_left (fun h => h.elim (fun h => absurd h N_t__76) (fun h => h.elim (fun h => absurd h N_t__77) (fun h => h.elim (fun h => absurd h N_t__78) (fun h => h.elim (fun h => absurd h N_t__79) (fun h => h.elim (fun h => absurd h N_t__80) (fun h => absurd h N_t__81))))))
              have t40 := (g35 74 1).resolve_left (fun h => h.elim (fun h => absurd h (by decide)) (fun h => h.elim (fun h => absurd h (by decide)) (fun h => h.elim (fun h => absurd h (by decide)) (fun h => h.elim (fun h => absurd h (by decide)) (fun h => h.elim (fun h => absurd h (by decide)) (fun h => absurd h (by decide)))))))
              obtain rfl : J17 = J37 := funext fun q => funext fun j => ((k35 q j).resolve_left id).symm
              refine gv_callV hD rfl (As := [.inl ((v2_6 * 24) + v3_18), .inl (z32 + (I16 14 (Int.toNat a1))), .inl z34, .inl (I16 ((t + 17) + 2) (Int.toNat (((v2_6 * 24) + v3_18)))), .inl 0]) (st := []) rfl B_74 S_74 rfl (gc_lV7 hws rfl) (Nat.le_of_ble_eq_true rfl) (gz_Ev_mono (d := 1) (by decide) E35) ?_
              show gv_X _ _ (106, [(5, .inl (I16 ((t + 17) + 2) (Int.toNat (((v2_6 * 24) + v3_18))))), (4, .inl ((v2_6 * 24) + v3_18)), (0, .inr (.inr (some 74))), (1, .inl a1), (2, .inl v2_6), (3, .inl v3_18)], [], sh, gc_h sh I36 J17 A)
              refine gv_pick [2, 3, 4, 5] rfl ?_
              exact L106 I36 J17 hI36 FI36 FJ17 (by exact gz_m 47 (by omega)) q35.1 (fun k => Int.le_trans (e1_18 k) (q35.2 k))
      refine gv_run 2 true hD (pc' := 4) (lv' := [(0, .inr (.inr (some 74))), (1, .inl a1), (2, .inl v2_6)]) (st' := [.inr (.inr (some 74)), .inl v2_6]) (h' := gc_h sh I4 J5 A) (C := ((True ∧ True) ∧ True)) rfl ⟨⟨trivial, trivial⟩, trivial⟩ ?_
      refine gv_get hD rfl rfl S_74 ⟨by decide, B_74⟩ (gc_h5 (t := t) S_74 rfl (by exact gz_m 48 (by omega))) ?_
      show gv_X _ _ (7, [(0, .inr (.inr (some 74))), (1, .inl a1), (2, .inl v2_6)], [.inr (.inr (some t)), .inl v2_6], sh, gc_h sh I4 J5 A)
      have f41 := (show 0 ≤ I4 t 11 ∧ I4 t 11 ≤ 64 from gc_in hI4 R_t rfl rfl)
      refine gv_get hD rfl rfl S_t ⟨by decide, B_t⟩ (gc_hI S_t rfl) ?_
      show gv_X _ _ (10, [(0, .inr (.inr (some 74))), (1, .inl a1), (2, .inl v2_6)], [.inl (I4 t 11), .inl v2_6], sh, gc_h sh I4 J5 A)
      refine gv_icmp_ge (t := 118) hD rfl rfl ⟨⟨by exact gz_m 49 (by omega), by exact gz_m 50 (by omega)⟩, ⟨by exact gz_m 51 (by omega), by exact gz_m 52 (by omega)⟩⟩ (fun c42 => ?_) (fun c42 => ?_)
      · show gv_X _ _ (118, [(0, .inr (.inr (some 74))), (1, .inl a1), (2, .inl v2_6)], [], sh, gc_h sh I4 J5 A)
        exact gv_vret hD rfl ⟨I4, J5, rfl, hI4, FI4, FJ5, ⟨rfl, e0_6, e1_6⟩⟩
      · show gv_X _ _ (13, [(0, .inr (.inr (some 74))), (1, .inl a1), (2, .inl v2_6)], [], sh, gc_h sh I4 J5 A)
        refine gv_run 1 true hD (pc' := 14) (lv' := [(0, .inr (.inr (some 74))), (1, .inl a1), (2, .inl v2_6)]) (st' := [.inr (.inr (some 74))]) (h' := gc_h sh I4 J5 A) (C := (True ∧ True)) rfl ⟨trivial, trivial⟩ ?_
        refine gv_get hD rfl rfl S_74 ⟨by decide, B_74⟩ (gc_h5 (t := t) S_74 rfl (by exact gz_m 53 (by omega))) ?_
        show gv_X _ _ (17, [(0, .inr (.inr (some 74))), (1, .inl a1), (2, .inl v2_6)], [.inr (.inr (some t))], sh, gc_h sh I4 J5 A)
        refine gv_run 1 true hD (pc' := 18) (lv' := [(0, .inr (.inr (some 74))), (1, .inl a1), (2, .inl v2_6)]) (st' := [.inl v2_6, .inr (.inr (some t))]) (h' := gc_h sh I4 J5 A) (C := (True ∧ True)) rfl ⟨trivial, trivial⟩ ?_
        obtain ⟨r43, h43, E43, P43⟩ := d_X11_wordFun_w (ws0 := ws0) (tb := tb) hws htb sh ro I4 J5 A hI4 t v2_6 h_t   ⟨by exact gz_m 54 (by omega), by exact gz_m 55 (by omega)⟩  
        obtain ⟨rfl, ⟨z43, rfl, q43⟩⟩ := P43
        refine gv_callV hD rfl (As := [.inl v2_6]) (st := []) rfl B_t S_t rfl (gc_lV7 hws rfl) (Nat.le_of_ble_eq_true rfl) (gz_Ev_mono (d := 1) (by decide) E43) ?_
        show gv_X _ _ (21, [(0, .inr (.inr (some 74))), (1, .inl a1), (2, .inl v2_6)], [.inl z43], sh, gc_h sh I4 J5 A)
        refine gv_run 1 true hD (pc' := 22) (lv' := [(0, .inr (.inr (some 74))), (1, .inl a1), (2, .inl v2_6)]) (st' := [.inl a1, .inl z43]) (h' := gc_h sh I4 J5 A) (C := (True ∧ True)) rfl ⟨trivial, trivial⟩ ?_
        refine gv_icmp_eq (t := 28) hD rfl rfl ⟨⟨by exact gz_m 56 (by omega), by exact gz_m 57 (by omega)⟩, ⟨by exact gz_m 58 (by omega), by exact gz_m 59 (by omega)⟩⟩ (fun c44 => ?_) (fun c44 => ?_)
        · show gv_X _ _ (28, [(0, .inr (.inr (some 74))), (1, .inl a1), (2, .inl v2_6)], [], sh, gc_h sh I4 J5 A)
          refine gv_run 2 true hD (pc' := 30) (lv' := [(3, .inl 0), (0, .inr (.inr (some 74))), (1, .inl a1), (2, .inl v2_6)]) (st' := []) (h' := gc_h sh I4 J5 A) (C := ((True ∧ True) ∧ True)) rfl ⟨⟨trivial, trivial⟩, trivial⟩ ?_
          refine gv_pick [1, 2, 3, 0] rfl ?_
          exact L30 _ I4 J5 0 (Nat.lt_succ_self _) hI4 FI4 FJ5 (by exact gz_m 60 (by omega)) e0_6 e1_6
        · show gv_X _ _ (25, [(0, .inr (.inr (some 74))), (1, .inl a1), (2, .inl v2_6)], [], sh, gc_h sh I4 J5 A)
          refine gv_run 1 true hD (pc' := 112) (lv' := [(0, .inr (.inr (some 74))), (1, .inl a1), (2, .inl v2_6)]) (st' := []) (h' := gc_h sh I4 J5 A) (C := (True ∧ True)) rfl ⟨trivial, trivial⟩ ?_
          exact L112 I4 J5 hI4 FI4 FJ5 (by exact gz_m 61 (by omega)) e0_6 e1_6
  refine gv_run 2 true hD (pc' := 2) (lv' := [(2, .inl 0), (0, .inr (.inr (some 74))), (1, .inl a1)]) (st' := []) (h' := gc_h sh I J A) (C := ((True ∧ True) ∧ True)) rfl ⟨⟨trivial, trivial⟩, trivial⟩ ?_
  refine gv_pick [1, 2, 0] rfl ?_
  exact L2 _ I J 0 (Nat.lt_succ_self _) hI FI FJ (by exact gz_m 62 (by omega)) x0 (fun k => Int.le_refl _)
