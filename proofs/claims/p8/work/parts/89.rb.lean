set_option maxHeartbeats 8000000 in
set_option maxRecDepth 100000 in
theorem d_X5_merge {ws0 : List Cond} {tb : String → gz_T} (hws : gc_Ws ws0) (htb : gc_tbs tb) (sh : gz_Sh) (ro : Nat → Nat) (I : gr_I) (J : gr_J) (A : gc_A) (hI : gc_Inv ro I) (t : Nat) (a1 : Int) (a2 : Int) (a3 : Int) (hb : gc_Base sh ro A) (h_t : gc_isTongue sh ro A t) (G_t : 144 ≤ t) (ha1 : 0 ≤ a1 ∧ a1 ≤ 9000) (ha2 : 0 ≤ a2 ∧ a2 ≤ 9000) (ha3 : 0 ≤ a3 ∧ a3 ≤ 9000) (x0 : gc_Ls sh ro A t I) (x1 : gc_WV t I) (x2 : gc_SR a1 I) (x3 : a1 ≤ a2 ∧ a2 ≤ a3 ∧ a3 ≤ I 61 8) (x4 : I 61 2 = (t : Int)) (KOR_I : gc_OR I) : ∃ r h', gz_Ev ws0 tb 3 (yX5_merge, cX5_merge, 8, none) [.inr (.inr (some 61)), .inl a1, .inl a2, .inl a3] sh (gc_h sh I J A) r sh h' 0 0 ∧ (∃ (I' : gr_I) (J' : gr_J), h' = gc_h sh I' J' A ∧ gc_Inv ro I' ∧ (∀ q j : Nat, (q = 65 ∨ q = 66) ∨ I' q j = I q j) ∧ (∀ q j : Nat, (False) ∨ J' q j = J q j) ∧ gc_OR I' ∧ r = none ∧ (gc_SR a3 I')) := by
  have FI : ∀ q j : Nat, (q = 65 ∨ q = 66) ∨ I q j = I q j := fun _ _ => Or.inr rfl
  have FJ : ∀ q j : Nat, (False) ∨ J q j = J q j := fun _ _ => Or.inr rfl
  have B_61 : 61 < 1000000 := by decide
  have B_65 : 65 < 1000000 := by decide
  have B_66 : 66 < 1000000 := by decide
  have R_48 : ro 48 = 49 := gc_bR hb (by decide) rfl
  have R_61 : ro 61 = 72 := gc_bR hb (by decide) rfl
  have R_65 : ro 65 = 51 := gc_bR hb (by decide) rfl
  have R_66 : ro 66 = 51 := gc_bR hb (by decide) rfl
  have S_61 : sh[61]? = some (false, 5, 19) := gc_bS hb rfl
  have S_65 : sh[65]? = some (true, 1, 9000) := gc_bS hb rfl
  have S_66 : sh[66]? = some (true, 1, 9000) := gc_bS hb rfl
  obtain ⟨S_t, R_t, B_t, A_t_0, h_t_1, A_t_1, h_t_3, A_t_2, S_t_5, R_t_5, B_t_5, A_t_3, S_t_6, R_t_6, B_t_6, A_t_4, h_t_7, A_t_5, S_t_9, R_t_9, B_t_9, A_t_7, S_t_10, R_t_10, B_t_10, A_t_8, h_t_11, A_t_9, S_t_13, R_t_13, B_t_13, A_t_10, S_t_14, R_t_14, B_t_14, A_t_12, S_t_15, R_t_15, B_t_15, A_t_14, S_t_16, R_t_16, B_t_16, A_t_15, h_t_17⟩ := id h_t
  obtain ⟨S_t_1, R_t_1, B_t_1, A_t_1_0, S_t_1_1, R_t_1_1, B_t_1_1, Q0_t_1, Q1_t_1, Q2_t_1⟩ := id h_t_1
  obtain ⟨S_t_3, R_t_3, B_t_3, A_t_3_0, S_t_3_1, R_t_3_1, B_t_3_1, Q0_t_3, Q1_t_3, Q2_t_3⟩ := id h_t_3
  obtain ⟨S_t_7, R_t_7, B_t_7, A_t_7_0, S_t_7_1, R_t_7_1, B_t_7_1, Q0_t_7, Q1_t_7, Q2_t_7⟩ := id h_t_7
  obtain ⟨S_t_11, R_t_11, B_t_11, A_t_11_0, S_t_11_1, R_t_11_1, B_t_11_1, Q0_t_11, Q1_t_11, Q2_t_11⟩ := id h_t_11
  obtain ⟨S_t_17, R_t_17, B_t_17, A_t_17_0, S_20, R_20, B_20, A_t_17_1, S_t_17_1, R_t_17_1, B_t_17_1, A_t_17_2, S_t_17_2, R_t_17_2, B_t_17_2, A_t_17_3, S_t_17_3, R_t_17_3, B_t_17_3, A_t_17_4, S_t_17_4, R_t_17_4, B_t_17_4, A_t_17_5, S_t_17_5, R_t_17_5, B_t_17_5, S_t_17_6, R_t_17_6, B_t_17_6, S_t_17_7, R_t_17_7, B_t_17_7⟩ := id h_t_17
  have hD : gv_D (gc_E5 ws0 tb 2 (yX5_merge, cX5_merge, 8, none) kX5_merge) := gq_of oX5_merge
  refine gc_ev5 (d := 2) (l := kX5_merge) (Po := fun r h' => (∃ (I' : gr_I) (J' : gr_J), h' = gc_h sh I' J' A ∧ gc_Inv ro I' ∧ (∀ q j : Nat, (q = 65 ∨ q = 66) ∨ I' q j = I q j) ∧ (∀ q j : Nat, (False) ∨ J' q j = J q j) ∧ gc_OR I' ∧ r = none ∧ (gc_SR a3 I'))) htb rfl (Nat.le_of_ble_eq_true rfl) ?_
  have N_t__65 : ¬ (t = 65) := by exact gz_m 0 (by omega)
  have N_t__66 : ¬ (t = 66) := by exact gz_m 1 (by omega)
  have f1 := (show 0 ≤ I 61 8 ∧ I 61 8 ≤ 9000 from gc_in hI R_61 rfl rfl)
  have f2 := (show 0 ≤ I 61 9 ∧ I 61 9 ≤ 1 from gc_in hI R_61 rfl rfl)
  have f3 := (show 0 ≤ I 61 10 ∧ I 61 10 ≤ 1 from gc_in hI R_61 rfl rfl)
  have f4 := (show 0 ≤ I 48 6 ∧ I 48 6 ≤ 9000 from gc_in hI R_48 rfl rfl)
  have f5 := (show (-1) ≤ I 61 2 ∧ I 61 2 ≤ 999999 from gc_in hI R_61 rfl rfl)
  have L9 : ∀ (n9 : Nat) (I6 : gr_I) (J7 : gr_J) (v4_8 : Int) (v5_8 : Int) (v6_8 : Int), (9001 - v6_8).toNat < n9 → gc_Inv ro I6 → (∀ q j : Nat, (q = 65 ∨ q = 66) ∨ I6 q j = I q j) → (∀ q j : Nat, (False) ∨ J7 q j = J q j) → gc_OR I6 → ((0 ≤ a2 ∧ a2 ≤ 9000) ∧ (0 ≤ a3 ∧ a3 ≤ 9000) ∧ (0 ≤ v4_8 ∧ v4_8 ≤ 9000) ∧ (0 ≤ v5_8 ∧ v5_8 ≤ 9000) ∧ (0 ≤ v6_8 ∧ v6_8 ≤ 9000) ∧ (a1 ≤ v4_8) ∧ (v4_8 ≤ a2) ∧ (a2 ≤ v5_8) ∧ (v5_8 ≤ a3) ∧ (v6_8 - a1 = v4_8 - a1 + (v5_8 - a2)) ∧ (v6_8 ≤ a3) ∧ (I6 61 8 = I 61 8) ∧ (I6 61 2 = (t : Int))) → (gc_SR v6_8 I6) → gv_X (gc_E5 ws0 tb 2 (yX5_merge, cX5_merge, 8, none) kX5_merge) (gv_Q cX5_merge none sh (fun r h' => (∃ (I' : gr_I) (J' : gr_J), h' = gc_h sh I' J' A ∧ gc_Inv ro I' ∧ (∀ q j : Nat, (q = 65 ∨ q = 66) ∨ I' q j = I q j) ∧ (∀ q j : Nat, (False) ∨ J' q j = J q j) ∧ gc_OR I' ∧ r = none ∧ (gc_SR a3 I')))) (9, [(0, .inr (.inr (some 61))), (2, .inl a2), (3, .inl a3), (4, .inl v4_8), (5, .inl v5_8), (6, .inl v6_8)], [], sh, gc_h sh I6 J7 A) := by
    intro n9
    induction n9 with
    | zero => intro I6 J7 v4_8 v5_8 v6_8 hn; exact gz_m 2 (by omega)
    | succ n9 ih9 =>
      intro I6 J7 v4_8 v5_8 v6_8 hn hI6 FI6 FJ7 KOR_I6 m_8 e0_8
      obtain ⟨ha2_8, ha3_8, hv4_8, hv5_8, hv6_8, e1_8, e2_8, e3_8, e4_8, e5_8, e6_8, e7_8, e8_8⟩ := m_8
      have f9 := (show 0 ≤ I6 61 8 ∧ I6 61 8 ≤ 9000 from gc_in hI6 R_61 rfl rfl)
      have f10 := (show 0 ≤ I6 61 9 ∧ I6 61 9 ≤ 1 from gc_in hI6 R_61 rfl rfl)
      have f11 := (show 0 ≤ I6 61 10 ∧ I6 61 10 ≤ 1 from gc_in hI6 R_61 rfl rfl)
      have f12 := (show 0 ≤ I6 48 6 ∧ I6 48 6 ≤ 9000 from gc_in hI6 R_48 rfl rfl)
      have f13 := (show (-1) ≤ I6 61 2 ∧ I6 61 2 ≤ 999999 from gc_in hI6 R_61 rfl rfl)
      have L53 : ∀ (s0_14 : Int), ((0 ≤ a2 ∧ a2 ≤ 9000) ∧ (1 ≤ a3 ∧ a3 ≤ 9000) ∧ (0 ≤ v4_8 ∧ v4_8 ≤ 9000) ∧ (0 ≤ v5_8 ∧ v5_8 ≤ 9000) ∧ (0 ≤ v6_8 ∧ v6_8 ≤ 8999) ∧ (0 ≤ s0_14 ∧ s0_14 ≤ 1) ∧ ((s0_14 = 1 ∧ v5_8 < a3) ∨ (s0_14 = 0 ∧ v4_8 < a2)) ∧ (I6 61 8 = I 61 8) ∧ (I6 61 2 = (t : Int))) → gv_X (gc_E5 ws0 tb 2 (yX5_merge, cX5_merge, 8, none) kX5_merge) (gv_Q cX5_merge none sh (fun r h' => (∃ (I' : gr_I) (J' : gr_J), h' = gc_h sh I' J' A ∧ gc_Inv ro I' ∧ (∀ q j : Nat, (q = 65 ∨ q = 66) ∨ I' q j = I q j) ∧ (∀ q j : Nat, (False) ∨ J' q j = J q j) ∧ gc_OR I' ∧ r = none ∧ (gc_SR a3 I')))) (53, [(0, .inr (.inr (some 61))), (2, .inl a2), (3, .inl a3), (4, .inl v4_8), (5, .inl v5_8), (6, .inl v6_8)], [.inl s0_14], sh, gc_h sh I6 J7 A) := by
        intro s0_14 m_14
        obtain ⟨ha2_14, ha3_14, hv4_8_14, hv5_8_14, hv6_8_14, hs0_14, e0_14, e1_14, e2_14⟩ := m_14
        have f15 := (show 0 ≤ I6 61 8 ∧ I6 61 8 ≤ 9000 from gc_in hI6 R_61 rfl rfl)
        have f16 := (show 0 ≤ I6 61 9 ∧ I6 61 9 ≤ 1 from gc_in hI6 R_61 rfl rfl)
        have f17 := (show 0 ≤ I6 61 10 ∧ I6 61 10 ≤ 1 from gc_in hI6 R_61 rfl rfl)
        have f18 := (show 0 ≤ I6 48 6 ∧ I6 48 6 ≤ 9000 from gc_in hI6 R_48 rfl rfl)
        have f19 := (show (-1) ≤ I6 61 2 ∧ I6 61 2 ≤ 999999 from gc_in hI6 R_61 rfl rfl)
        refine gv_run 2 true hD (pc' := 56) (lv' := [(7, .inl s0_14), (0, .inr (.inr (some 61))), (2, .inl a2), (3, .inl a3), (4, .inl v4_8), (5, .inl v5_8), (6, .inl v6_8)]) (st' := [.inr (.inr (some 61))]) (h' := gc_h sh I6 J7 A) (C := ((True ∧ True) ∧ True)) rfl ⟨⟨trivial, trivial⟩, trivial⟩ ?_
        have f21 := (show 0 ≤ I6 61 10 ∧ I6 61 10 ≤ 1 from gc_in hI6 R_61 rfl rfl)
        obtain ⟨f20_, hq_f20_, S_f20, R_f20, B_f20, D_f20⟩ := gc_sw (p := 61) (d := 4) (s := 1) (z := I6 61 10) (show 0 ≤ I6 61 10 ∧ I6 61 10 ≤ 1 from gc_in hI6 R_61 rfl rfl) S_65 R_65 B_65 S_66 R_66 B_66
        refine gv_get hD rfl rfl S_61 ⟨by decide, B_61⟩ (gc_hS (n := 4) S_61 rfl hq_f20_) ?_
        show gv_X _ _ (59, [(7, .inl s0_14), (0, .inr (.inr (some 61))), (2, .inl a2), (3, .inl a3), (4, .inl v4_8), (5, .inl v5_8), (6, .inl v6_8)], [.inr (.inr (some f20_))], sh, gc_h sh I6 J7 A)
        refine gv_run 2 true hD (pc' := 63) (lv' := [(7, .inl s0_14), (0, .inr (.inr (some 61))), (2, .inl a2), (3, .inl a3), (4, .inl v4_8), (5, .inl v5_8), (6, .inl v6_8)]) (st' := [.inl s0_14, .inl v6_8, .inr (.inr (some f20_))]) (h' := gc_h sh I6 J7 A) (C := ((True ∧ True) ∧ True)) rfl ⟨⟨trivial, trivial⟩, trivial⟩ ?_
        refine gv_if_eq (t := 79) hD rfl rfl ⟨by exact gz_m 3 (by omega), by exact gz_m 4 (by omega)⟩ (fun c22 => ?_) (fun c22 => ?_)
        · show gv_X _ _ (79, [(7, .inl s0_14), (0, .inr (.inr (some 61))), (2, .inl a2), (3, .inl a3), (4, .inl v4_8), (5, .inl v5_8), (6, .inl v6_8)], [.inl v6_8, .inr (.inr (some f20_))], sh, gc_h sh I6 J7 A)
          refine gv_run 1 true hD (pc' := 80) (lv' := [(7, .inl s0_14), (0, .inr (.inr (some 61))), (2, .inl a2), (3, .inl a3), (4, .inl v4_8), (5, .inl v5_8), (6, .inl v6_8)]) (st' := [.inr (.inr (some 61)), .inl v6_8, .inr (.inr (some f20_))]) (h' := gc_h sh I6 J7 A) (C := (True ∧ True)) rfl ⟨trivial, trivial⟩ ?_
          have f24 := (show 0 ≤ I6 61 9 ∧ I6 61 9 ≤ 1 from gc_in hI6 R_61 rfl rfl)
          obtain ⟨f23_, hq_f23_, S_f23, R_f23, B_f23, D_f23⟩ := gc_sw (p := 61) (d := 4) (s := 1) (z := I6 61 9) (show 0 ≤ I6 61 9 ∧ I6 61 9 ≤ 1 from gc_in hI6 R_61 rfl rfl) S_65 R_65 B_65 S_66 R_66 B_66
          refine gv_get hD rfl rfl S_61 ⟨by decide, B_61⟩ (gc_hS (n := 4) S_61 rfl hq_f23_) ?_
          show gv_X _ _ (83, [(7, .inl s0_14), (0, .inr (.inr (some 61))), (2, .inl a2), (3, .inl a3), (4, .inl v4_8), (5, .inl v5_8), (6, .inl v6_8)], [.inr (.inr (some f23_)), .inl v6_8, .inr (.inr (some f20_))], sh, gc_h sh I6 J7 A)
          refine gv_run 2 true hD (pc' := 88) (lv' := [(4, .inl (v4_8 + 1)), (7, .inl s0_14), (0, .inr (.inr (some 61))), (2, .inl a2), (3, .inl a3), (5, .inl v5_8), (6, .inl v6_8)]) (st' := [.inl v4_8, .inr (.inr (some f23_)), .inl v6_8, .inr (.inr (some f20_))]) (h' := gc_h sh I6 J7 A) (C := ((True ∧ True) ∧ True)) rfl ⟨⟨trivial, trivial⟩, trivial⟩ ?_
          have t25 := gc_OR_at (f := f23_) (i := Int.toNat v4_8) KOR_I6 hq_f23_ (by exact gz_m 5 (by omega))
          have f26 := (show 0 ≤ I6 f23_ (Int.toNat v4_8) ∧ I6 f23_ (Int.toNat v4_8) ≤ 8999 from gc_in hI6 R_f23 rfl rfl)
          refine gv_iald hD rfl S_f23 rfl ⟨by decide, B_f23⟩ ⟨by exact gz_m 6 (by omega), by exact gz_m 7 (by omega)⟩ (gc_iI S_f23 rfl) ?_
          show gv_X _ _ (89, [(4, .inl (v4_8 + 1)), (7, .inl s0_14), (0, .inr (.inr (some 61))), (2, .inl a2), (3, .inl a3), (5, .inl v5_8), (6, .inl v6_8)], [.inl (I6 f23_ (Int.toNat v4_8)), .inl v6_8, .inr (.inr (some f20_))], sh, gc_h sh I6 J7 A)
          refine gv_iast hD rfl S_f20 ⟨by decide, B_f20⟩ ⟨by exact gz_m 8 (by omega), by exact gz_m 9 (by omega)⟩ ?_
          refine gc_st hI6 S_f20 rfl R_f20 (lo := 0) (hi := 8999) rfl rfl (by exact gz_m 10 (by omega)) (by exact gz_m 11 (by omega)) (fun I27 hI27 q28 p28 => ?_)
          have FI27 := gc_frs (W := fun q j => q = 65 ∨ q = 66) FI6 (show f20_ = 65 ∨ f20_ = 66 from by exact gz_m 12 (by omega)) p28
          have t29 := p28 61 8 (fun h => absurd h.1 (by exact gz_m 13 (by omega)))
          have t30 := p28 61 9 (fun h => absurd h.1 (by exact gz_m 14 (by omega)))
          have t31 := p28 61 10 (fun h => absurd h.1 (by exact gz_m 15 (by omega)))
          have t32 := p28 48 6 (fun h => absurd h.1 (by exact gz_m 16 (by omega)))
          have t33 := p28 61 2 (fun h => absurd h.1 (by exact gz_m 17 (by omega)))
          have KOR_I27 : gc_OR I27 := gc_OR_st KOR_I6 p28 (by exact gz_m 18 (by omega)) (by exact gz_m 19 (by omega))
          show gv_X _ _ (90, [(4, .inl (v4_8 + 1)), (7, .inl s0_14), (0, .inr (.inr (some 61))), (2, .inl a2), (3, .inl a3), (5, .inl v5_8), (6, .inl v6_8)], [], sh, gc_h sh I27 J7 A)
          refine gv_run 2 true hD (pc' := 9) (lv' := [(6, .inl (v6_8 + 1)), (4, .inl (v4_8 + 1)), (7, .inl s0_14), (0, .inr (.inr (some 61))), (2, .inl a2), (3, .inl a3), (5, .inl v5_8)]) (st' := []) (h' := gc_h sh I27 J7 A) (C := ((True ∧ True) ∧ True)) rfl ⟨⟨trivial, trivial⟩, trivial⟩ ?_
          refine gv_pick [3, 4, 5, 1, 6, 0] rfl ?_
          exact ih9 I27 J7 (v4_8 + 1) v5_8 (v6_8 + 1) (by exact gz_m 20 (by omega)) hI27 FI27 FJ7 KOR_I27 (by exact gz_m 21 (by omega)) (gc_SR_nx e0_8 (by exact gz_m 22 (by omega)) p28 hq_f20_ (by exact gz_m 23 (by omega)))
        · show gv_X _ _ (66, [(7, .inl s0_14), (0, .inr (.inr (some 61))), (2, .inl a2), (3, .inl a3), (4, .inl v4_8), (5, .inl v5_8), (6, .inl v6_8)], [.inl v6_8, .inr (.inr (some f20_))], sh, gc_h sh I6 J7 A)
          refine gv_run 1 true hD (pc' := 67) (lv' := [(7, .inl s0_14), (0, .inr (.inr (some 61))), (2, .inl a2), (3, .inl a3), (4, .inl v4_8), (5, .inl v5_8), (6, .inl v6_8)]) (st' := [.inr (.inr (some 61)), .inl v6_8, .inr (.inr (some f20_))]) (h' := gc_h sh I6 J7 A) (C := (True ∧ True)) rfl ⟨trivial, trivial⟩ ?_
          have f35 := (show 0 ≤ I6 61 9 ∧ I6 61 9 ≤ 1 from gc_in hI6 R_61 rfl rfl)
          obtain ⟨f34_, hq_f34_, S_f34, R_f34, B_f34, D_f34⟩ := gc_sw (p := 61) (d := 4) (s := 1) (z := I6 61 9) (show 0 ≤ I6 61 9 ∧ I6 61 9 ≤ 1 from gc_in hI6 R_61 rfl rfl) S_65 R_65 B_65 S_66 R_66 B_66
          refine gv_get hD rfl rfl S_61 ⟨by decide, B_61⟩ (gc_hS (n := 4) S_61 rfl hq_f34_) ?_
          show gv_X _ _ (70, [(7, .inl s0_14), (0, .inr (.inr (some 61))), (2, .inl a2), (3, .inl a3), (4, .inl v4_8), (5, .inl v5_8), (6, .inl v6_8)], [.inr (.inr (some f34_)), .inl v6_8, .inr (.inr (some f20_))], sh, gc_h sh I6 J7 A)
          refine gv_run 2 true hD (pc' := 75) (lv' := [(5, .inl (v5_8 + 1)), (7, .inl s0_14), (0, .inr (.inr (some 61))), (2, .inl a2), (3, .inl a3), (4, .inl v4_8), (6, .inl v6_8)]) (st' := [.inl v5_8, .inr (.inr (some f34_)), .inl v6_8, .inr (.inr (some f20_))]) (h' := gc_h sh I6 J7 A) (C := ((True ∧ True) ∧ True)) rfl ⟨⟨trivial, trivial⟩, trivial⟩ ?_
          have t36 := gc_OR_at (f := f34_) (i := Int.toNat v5_8) KOR_I6 hq_f34_ (by exact gz_m 24 (by omega))
          have f37 := (show 0 ≤ I6 f34_ (Int.toNat v5_8) ∧ I6 f34_ (Int.toNat v5_8) ≤ 8999 from gc_in hI6 R_f34 rfl rfl)
          refine gv_iald hD rfl S_f34 rfl ⟨by decide, B_f34⟩ ⟨by exact gz_m 25 (by omega), by exact gz_m 26 (by omega)⟩ (gc_iI S_f34 rfl) ?_
          show gv_X _ _ (76, [(5, .inl (v5_8 + 1)), (7, .inl s0_14), (0, .inr (.inr (some 61))), (2, .inl a2), (3, .inl a3), (4, .inl v4_8), (6, .inl v6_8)], [.inl (I6 f34_ (Int.toNat v5_8)), .inl v6_8, .inr (.inr (some f20_))], sh, gc_h sh I6 J7 A)
          refine gv_run 1 true hD (pc' := 89) (lv' := [(5, .inl (v5_8 + 1)), (7, .inl s0_14), (0, .inr (.inr (some 61))), (2, .inl a2), (3, .inl a3), (4, .inl v4_8), (6, .inl v6_8)]) (st' := [.inl (I6 f34_ (Int.toNat v5_8)), .inl v6_8, .inr (.inr (some f20_))]) (h' := gc_h sh I6 J7 A) (C := (True ∧ True)) rfl ⟨trivial, trivial⟩ ?_
          refine gv_iast hD rfl S_f20 ⟨by decide, B_f20⟩ ⟨by exact gz_m 27 (by omega), by exact gz_m 28 (by omega)⟩ ?_
          refine gc_st hI6 S_f20 rfl R_f20 (lo := 0) (hi := 8999) rfl rfl (by exact gz_m 29 (by omega)) (by exact gz_m 30 (by omega)) (fun I38 hI38 q39 p39 => ?_)
          have FI38 := gc_frs (W := fun q j => q = 65 ∨ q = 66) FI6 (show f20_ = 65 ∨ f20_ = 66 from by exact gz_m 31 (by omega)) p39
          have t40 := p39 61 8 (fun h => absurd h.1 (by exact gz_m 32 (by omega)))
          have t41 := p39 61 9 (fun h => absurd h.1 (by exact gz_m 33 (by omega)))
          have t42 := p39 61 10 (fun h => absurd h.1 (by exact gz_m 34 (by omega)))
          have t43 := p39 48 6 (fun h => absurd h.1 (by exact gz_m 35 (by omega)))
          have t44 := p39 61 2 (fun h => absurd h.1 (by exact gz_m 36 (by omega)))
          have KOR_I38 : gc_OR I38 := gc_OR_st KOR_I6 p39 (by exact gz_m 37 (by omega)) (by exact gz_m 38 (by omega))
          show gv_X _ _ (90, [(5, .inl (v5_8 + 1)), (7, .inl s0_14), (0, .inr (.inr (some 61))), (2, .inl a2), (3, .inl a3), (4, .inl v4_8), (6, .inl v6_8)], [], sh, gc_h sh I38 J7 A)
          refine gv_run 2 true hD (pc' := 9) (lv' := [(6, .inl (v6_8 + 1)), (5, .inl (v5_8 + 1)), (7, .inl s0_14), (0, .inr (.inr (some 61))), (2, .inl a2), (3, .inl a3), (4, .inl v4_8)]) (st' := []) (h' := gc_h sh I38 J7 A) (C := ((True ∧ True) ∧ True)) rfl ⟨⟨trivial, trivial⟩, trivial⟩ ?_
          refine gv_pick [3, 4, 5, 6, 1, 0] rfl ?_
          exact ih9 I38 J7 v4_8 (v5_8 + 1) (v6_8 + 1) (by exact gz_m 39 (by omega)) hI38 FI38 FJ7 KOR_I38 (by exact gz_m 40 (by omega)) (gc_SR_nx e0_8 (by exact gz_m 41 (by omega)) p39 hq_f20_ (by exact gz_m 42 (by omega)))
      have L48 : ((0 ≤ a2 ∧ a2 ≤ 9000) ∧ (1 ≤ a3 ∧ a3 ≤ 9000) ∧ (0 ≤ v4_8 ∧ v4_8 ≤ 9000) ∧ (0 ≤ v5_8 ∧ v5_8 ≤ 9000) ∧ (0 ≤ v6_8 ∧ v6_8 ≤ 8999) ∧ (v5_8 < a3) ∧ (I6 61 8 = I 61 8) ∧ (I6 61 2 = (t : Int))) → gv_X (gc_E5 ws0 tb 2 (yX5_merge, cX5_merge, 8, none) kX5_merge) (gv_Q cX5_merge none sh (fun r h' => (∃ (I' : gr_I) (J' : gr_J), h' = gc_h sh I' J' A ∧ gc_Inv ro I' ∧ (∀ q j : Nat, (q = 65 ∨ q = 66) ∨ I' q j = I q j) ∧ (∀ q j : Nat, (False) ∨ J' q j = J q j) ∧ gc_OR I' ∧ r = none ∧ (gc_SR a3 I')))) (48, [(0, .inr (.inr (some 61))), (2, .inl a2), (3, .inl a3), (4, .inl v4_8), (5, .inl v5_8), (6, .inl v6_8)], [], sh, gc_h sh I6 J7 A) := by
        intro m_45
        obtain ⟨ha2_45, ha3_45, hv4_8_45, hv5_8_45, hv6_8_45, e0_45, e1_45, e2_45⟩ := m_45
        have f46 := (show 0 ≤ I6 61 8 ∧ I6 61 8 ≤ 9000 from gc_in hI6 R_61 rfl rfl)
        have f47 := (show 0 ≤ I6 61 9 ∧ I6 61 9 ≤ 1 from gc_in hI6 R_61 rfl rfl)
        have f48 := (show 0 ≤ I6 61 10 ∧ I6 61 10 ≤ 1 from gc_in hI6 R_61 rfl rfl)
        have f49 := (show 0 ≤ I6 48 6 ∧ I6 48 6 ≤ 9000 from gc_in hI6 R_48 rfl rfl)
        have f50 := (show (-1) ≤ I6 61 2 ∧ I6 61 2 ≤ 999999 from gc_in hI6 R_61 rfl rfl)
        refine gv_run 2 true hD (pc' := 53) (lv' := [(0, .inr (.inr (some 61))), (2, .inl a2), (3, .inl a3), (4, .inl v4_8), (5, .inl v5_8), (6, .inl v6_8)]) (st' := [.inl 1]) (h' := gc_h sh I6 J7 A) (C := ((True ∧ True) ∧ True)) rfl ⟨⟨trivial, trivial⟩, trivial⟩ ?_
        exact L53 1 (by exact gz_m 43 (by omega))
      have L52 : ((1 ≤ a2 ∧ a2 ≤ 9000) ∧ (1 ≤ a3 ∧ a3 ≤ 9000) ∧ (0 ≤ v4_8 ∧ v4_8 ≤ 8999) ∧ (0 ≤ v5_8 ∧ v5_8 ≤ 9000) ∧ (0 ≤ v6_8 ∧ v6_8 ≤ 8999) ∧ (v4_8 < a2) ∧ (I6 61 8 = I 61 8) ∧ (I6 61 2 = (t : Int))) → gv_X (gc_E5 ws0 tb 2 (yX5_merge, cX5_merge, 8, none) kX5_merge) (gv_Q cX5_merge none sh (fun r h' => (∃ (I' : gr_I) (J' : gr_J), h' = gc_h sh I' J' A ∧ gc_Inv ro I' ∧ (∀ q j : Nat, (q = 65 ∨ q = 66) ∨ I' q j = I q j) ∧ (∀ q j : Nat, (False) ∨ J' q j = J q j) ∧ gc_OR I' ∧ r = none ∧ (gc_SR a3 I')))) (52, [(0, .inr (.inr (some 61))), (2, .inl a2), (3, .inl a3), (4, .inl v4_8), (5, .inl v5_8), (6, .inl v6_8)], [], sh, gc_h sh I6 J7 A) := by
        intro m_51
        obtain ⟨ha2_51, ha3_51, hv4_8_51, hv5_8_51, hv6_8_51, e0_51, e1_51, e2_51⟩ := m_51
        have f52 := (show 0 ≤ I6 61 8 ∧ I6 61 8 ≤ 9000 from gc_in hI6 R_61 rfl rfl)
        have f53 := (show 0 ≤ I6 61 9 ∧ I6 61 9 ≤ 1 from gc_in hI6 R_61 rfl rfl)
        have f54 := (show 0 ≤ I6 61 10 ∧ I6 61 10 ≤ 1 from gc_in hI6 R_61 rfl rfl)
        have f55 := (show 0 ≤ I6 48 6 ∧ I6 48 6 ≤ 9000 from gc_in hI6 R_48 rfl rfl)
        have f56 := (show (-1) ≤ I6 61 2 ∧ I6 61 2 ≤ 999999 from gc_in hI6 R_61 rfl rfl)
        refine gv_run 1 true hD (pc' := 53) (lv' := [(0, .inr (.inr (some 61))), (2, .inl a2), (3, .inl a3), (4, .inl v4_8), (5, .inl v5_8), (6, .inl v6_8)]) (st' := [.inl 0]) (h' := gc_h sh I6 J7 A) (C := (True ∧ True)) rfl ⟨trivial, trivial⟩ ?_
        exact L53 0 (by exact gz_m 44 (by omega))
      refine gv_run 2 true hD (pc' := 12) (lv' := [(0, .inr (.inr (some 61))), (2, .inl a2), (3, .inl a3), (4, .inl v4_8), (5, .inl v5_8), (6, .inl v6_8)]) (st' := [.inl a3, .inl v6_8]) (h' := gc_h sh I6 J7 A) (C := ((True ∧ True) ∧ True)) rfl ⟨⟨trivial, trivial⟩, trivial⟩ ?_
      refine gv_icmp_ge (t := 96) hD rfl rfl ⟨⟨by exact gz_m 45 (by omega), by exact gz_m 46 (by omega)⟩, ⟨by exact gz_m 47 (by omega), by exact gz_m 48 (by omega)⟩⟩ (fun c57 => ?_) (fun c57 => ?_)
      · show gv_X _ _ (96, [(0, .inr (.inr (some 61))), (2, .inl a2), (3, .inl a3), (4, .inl v4_8), (5, .inl v5_8), (6, .inl v6_8)], [], sh, gc_h sh I6 J7 A)
        exact gv_vret hD rfl ⟨I6, J7, rfl, hI6, FI6, FJ7, KOR_I6, ⟨rfl, (gc_SR_w e0_8 (by exact gz_m 49 (by omega)))⟩⟩
      · show gv_X _ _ (15, [(0, .inr (.inr (some 61))), (2, .inl a2), (3, .inl a3), (4, .inl v4_8), (5, .inl v5_8), (6, .inl v6_8)], [], sh, gc_h sh I6 J7 A)
        refine gv_run 2 true hD (pc' := 18) (lv' := [(0, .inr (.inr (some 61))), (2, .inl a2), (3, .inl a3), (4, .inl v4_8), (5, .inl v5_8), (6, .inl v6_8)]) (st' := [.inl a2, .inl v4_8]) (h' := gc_h sh I6 J7 A) (C := ((True ∧ True) ∧ True)) rfl ⟨⟨trivial, trivial⟩, trivial⟩ ?_
        refine gv_icmp_ge (t := 48) hD rfl rfl ⟨⟨by exact gz_m 50 (by omega), by exact gz_m 51 (by omega)⟩, ⟨by exact gz_m 52 (by omega), by exact gz_m 53 (by omega)⟩⟩ (fun c58 => ?_) (fun c58 => ?_)
        · show gv_X _ _ (48, [(0, .inr (.inr (some 61))), (2, .inl a2), (3, .inl a3), (4, .inl v4_8), (5, .inl v5_8), (6, .inl v6_8)], [], sh, gc_h sh I6 J7 A)
          exact L48 (by exact gz_m 54 (by omega))
        · show gv_X _ _ (21, [(0, .inr (.inr (some 61))), (2, .inl a2), (3, .inl a3), (4, .inl v4_8), (5, .inl v5_8), (6, .inl v6_8)], [], sh, gc_h sh I6 J7 A)
          refine gv_run 2 true hD (pc' := 24) (lv' := [(0, .inr (.inr (some 61))), (2, .inl a2), (3, .inl a3), (4, .inl v4_8), (5, .inl v5_8), (6, .inl v6_8)]) (st' := [.inl a3, .inl v5_8]) (h' := gc_h sh I6 J7 A) (C := ((True ∧ True) ∧ True)) rfl ⟨⟨trivial, trivial⟩, trivial⟩ ?_
          refine gv_icmp_ge (t := 52) hD rfl rfl ⟨⟨by exact gz_m 55 (by omega), by exact gz_m 56 (by omega)⟩, ⟨by exact gz_m 57 (by omega), by exact gz_m 58 (by omega)⟩⟩ (fun c59 => ?_) (fun c59 => ?_)
          · show gv_X _ _ (52, [(0, .inr (.inr (some 61))), (2, .inl a2), (3, .inl a3), (4, .inl v4_8), (5, .inl v5_8), (6, .inl v6_8)], [], sh, gc_h sh I6 J7 A)
            exact L52 (by exact gz_m 59 (by omega))
          · show gv_X _ _ (27, [(0, .inr (.inr (some 61))), (2, .inl a2), (3, .inl a3), (4, .inl v4_8), (5, .inl v5_8), (6, .inl v6_8)], [], sh, gc_h sh I6 J7 A)
            refine gv_run 2 true hD (pc' := 29) (lv' := [(0, .inr (.inr (some 61))), (2, .inl a2), (3, .inl a3), (4, .inl v4_8), (5, .inl v5_8), (6, .inl v6_8)]) (st' := [.inr (.inr (some 61)), .inr (.inr (some 61))]) (h' := gc_h sh I6 J7 A) (C := ((True ∧ True) ∧ True)) rfl ⟨⟨trivial, trivial⟩, trivial⟩ ?_
            have f61 := (show 0 ≤ I6 61 9 ∧ I6 61 9 ≤ 1 from gc_in hI6 R_61 rfl rfl)
            obtain ⟨f60_, hq_f60_, S_f60, R_f60, B_f60, D_f60⟩ := gc_sw (p := 61) (d := 4) (s := 1) (z := I6 61 9) (show 0 ≤ I6 61 9 ∧ I6 61 9 ≤ 1 from gc_in hI6 R_61 rfl rfl) S_65 R_65 B_65 S_66 R_66 B_66
            refine gv_get hD rfl rfl S_61 ⟨by decide, B_61⟩ (gc_hS (n := 4) S_61 rfl hq_f60_) ?_
            show gv_X _ _ (32, [(0, .inr (.inr (some 61))), (2, .inl a2), (3, .inl a3), (4, .inl v4_8), (5, .inl v5_8), (6, .inl v6_8)], [.inr (.inr (some f60_)), .inr (.inr (some 61))], sh, gc_h sh I6 J7 A)
            refine gv_run 1 true hD (pc' := 34) (lv' := [(0, .inr (.inr (some 61))), (2, .inl a2), (3, .inl a3), (4, .inl v4_8), (5, .inl v5_8), (6, .inl v6_8)]) (st' := [.inl v5_8, .inr (.inr (some f60_)), .inr (.inr (some 61))]) (h' := gc_h sh I6 J7 A) (C := (True ∧ True)) rfl ⟨trivial, trivial⟩ ?_
            have t62 := gc_OR_at (f := f60_) (i := Int.toNat v5_8) KOR_I6 hq_f60_ (by exact gz_m 60 (by omega))
            have f63 := (show 0 ≤ I6 f60_ (Int.toNat v5_8) ∧ I6 f60_ (Int.toNat v5_8) ≤ 8999 from gc_in hI6 R_f60 rfl rfl)
            refine gv_iald hD rfl S_f60 rfl ⟨by decide, B_f60⟩ ⟨by exact gz_m 61 (by omega), by exact gz_m 62 (by omega)⟩ (gc_iI S_f60 rfl) ?_
            show gv_X _ _ (35, [(0, .inr (.inr (some 61))), (2, .inl a2), (3, .inl a3), (4, .inl v4_8), (5, .inl v5_8), (6, .inl v6_8)], [.inl (I6 f60_ (Int.toNat v5_8)), .inr (.inr (some 61))], sh, gc_h sh I6 J7 A)
            refine gv_run 1 true hD (pc' := 36) (lv' := [(0, .inr (.inr (some 61))), (2, .inl a2), (3, .inl a3), (4, .inl v4_8), (5, .inl v5_8), (6, .inl v6_8)]) (st' := [.inr (.inr (some 61)), .inl (I6 f60_ (Int.toNat v5_8)), .inr (.inr (some 61))]) (h' := gc_h sh I6 J7 A) (C := (True ∧ True)) rfl ⟨trivial, trivial⟩ ?_
            have f65 := (show 0 ≤ I6 61 9 ∧ I6 61 9 ≤ 1 from gc_in hI6 R_61 rfl rfl)
            obtain ⟨f64_, hq_f64_, S_f64, R_f64, B_f64, D_f64⟩ := gc_sw (p := 61) (d := 4) (s := 1) (z := I6 61 9) (show 0 ≤ I6 61 9 ∧ I6 61 9 ≤ 1 from gc_in hI6 R_61 rfl rfl) S_65 R_65 B_65 S_66 R_66 B_66
            refine gv_get hD rfl rfl S_61 ⟨by decide, B_61⟩ (gc_hS (n := 4) S_61 rfl hq_f64_) ?_
            show gv_X _ _ (39, [(0, .inr (.inr (some 61))), (2, .inl a2), (3, .inl a3), (4, .inl v4_8), (5, .inl v5_8), (6, .inl v6_8)], [.inr (.inr (some f64_)), .inl (I6 f60_ (Int.toNat v5_8)), .inr (.inr (some 61))], sh, gc_h sh I6 J7 A)
            refine gv_run 1 true hD (pc' := 41) (lv' := [(0, .inr (.inr (some 61))), (2, .inl a2), (3, .inl a3), (4, .inl v4_8), (5, .inl v5_8), (6, .inl v6_8)]) (st' := [.inl v4_8, .inr (.inr (some f64_)), .inl (I6 f60_ (Int.toNat v5_8)), .inr (.inr (some 61))]) (h' := gc_h sh I6 J7 A) (C := (True ∧ True)) rfl ⟨trivial, trivial⟩ ?_
            have t66 := gc_OR_at (f := f64_) (i := Int.toNat v4_8) KOR_I6 hq_f64_ (by exact gz_m 63 (by omega))
            have f67 := (show 0 ≤ I6 f64_ (Int.toNat v4_8) ∧ I6 f64_ (Int.toNat v4_8) ≤ 8999 from gc_in hI6 R_f64 rfl rfl)
            refine gv_iald hD rfl S_f64 rfl ⟨by decide, B_f64⟩ ⟨by exact gz_m 64 (by omega), by exact gz_m 65 (by omega)⟩ (gc_iI S_f64 rfl) ?_
            show gv_X _ _ (42, [(0, .inr (.inr (some 61))), (2, .inl a2), (3, .inl a3), (4, .inl v4_8), (5, .inl v5_8), (6, .inl v6_8)], [.inl (I6 f64_ (Int.toNat v4_8)), .inl (I6 f60_ (Int.toNat v5_8)), .inr (.inr (some 61))], sh, gc_h sh I6 J7 A)
            obtain ⟨r68, h68, E68, P68⟩ := d_X5_compare (ws0 := ws0) (tb := tb) hws htb sh ro I6 J7 A hI6  t ((I6 f60_ (Int.toNat v5_8))) ((I6 f64_ (Int.toNat v4_8))) hb  h_t G_t  ⟨by exact gz_m 66 (by omega), by exact gz_m 67 (by omega)⟩ ⟨by exact gz_m 68 (by omega), by exact gz_m 69 (by omega)⟩ (gc_Ls_fr x0 ((FI6 t 13).resolve_left (by exact gz_m 70 (by omega))) (fun q hL hq d k hd => (FI6 (q + d) k).resolve_left (by have := gc_dj_LT hL h_t; exact gz_m 71 (by omega)))) (gc_WV_fr x1 ((FI6 48 6).resolve_left (fun h => h.elim (fun h => absurd h (by decide)) (fun h => absurd h (by decide)))) ((FI6 t 13).resolve_left (fun h => h.elim (fun h => absurd h N_t__65) (fun h => absurd h N_t__66))) (fun k => (FI6 54 k).resolve_left (fun h => h.elim (fun h => absurd h (by decide)) (fun h => absurd h (by decide))))) (by exact gz_m 72 (by omega)) (by exact gz_m 73 (by omega)) (by exact gz_m 74 (by omega)) 
            obtain ⟨rfl, ⟨z68, rfl, q68⟩⟩ := P68
            refine gv_callV hD rfl (As := [.inl (I6 f60_ (Int.toNat v5_8)), .inl (I6 f64_ (Int.toNat v4_8))]) (st := []) rfl B_61 S_61 rfl (gc_lV5 hws rfl) (Nat.le_of_ble_eq_true rfl) (gz_Ev_mono (d := 2) (by decide) E68) ?_
            show gv_X _ _ (45, [(0, .inr (.inr (some 61))), (2, .inl a2), (3, .inl a3), (4, .inl v4_8), (5, .inl v5_8), (6, .inl v6_8)], [.inl z68], sh, gc_h sh I6 J7 A)
            refine gv_if_ge (t := 52) hD rfl rfl ⟨by exact gz_m 75 (by omega), by exact gz_m 76 (by omega)⟩ (fun c69 => ?_) (fun c69 => ?_)
            · show gv_X _ _ (52, [(0, .inr (.inr (some 61))), (2, .inl a2), (3, .inl a3), (4, .inl v4_8), (5, .inl v5_8), (6, .inl v6_8)], [], sh, gc_h sh I6 J7 A)
              exact L52 (by exact gz_m 77 (by omega))
            · show gv_X _ _ (48, [(0, .inr (.inr (some 61))), (2, .inl a2), (3, .inl a3), (4, .inl v4_8), (5, .inl v5_8), (6, .inl v6_8)], [], sh, gc_h sh I6 J7 A)
              exact L48 (by exact gz_m 78 (by omega))
  refine gv_run 6 true hD (pc' := 9) (lv' := [(6, .inl a1), (5, .inl a2), (4, .inl a1), (0, .inr (.inr (some 61))), (1, .inl a1), (2, .inl a2), (3, .inl a3)]) (st' := []) (h' := gc_h sh I J A) (C := ((((((True ∧ True) ∧ True) ∧ True) ∧ True) ∧ True) ∧ True)) rfl ⟨⟨⟨⟨⟨⟨trivial, trivial⟩, trivial⟩, trivial⟩, trivial⟩, trivial⟩, trivial⟩ ?_
  refine gv_pick [3, 5, 6, 2, 1, 0] rfl ?_
  exact L9 _ I J a1 a2 a1 (Nat.lt_succ_self _) hI FI FJ KOR_I (by exact gz_m 79 (by omega)) x2
set_option maxHeartbeats 8000000 in
set_option maxRecDepth 100000 in
theorem d_X5_sortWays {ws0 : List Cond} {tb : String → gz_T} (hws : gc_Ws ws0) (htb : gc_tbs tb) (sh : gz_Sh) (ro : Nat → Nat) (I : gr_I) (J : gr_J) (A : gc_A) (hI : gc_Inv ro I) (t : Nat)  (hb : gc_Base sh ro A) (h_t : gc_isTongue sh ro A t) (G_t : 144 ≤ t)  (x0 : gc_Ls sh ro A t I) (x1 : gc_WV t I) (x2 : I 61 2 = (t : Int)) (KOR_I : gc_OR I) : ∃ r h', gz_Ev ws0 tb 4 (yX5_sortWays, cX5_sortWays, 3, none) [.inr (.inr (some 61))] sh (gc_h sh I J A) r sh h' 0 0 ∧ (∃ (I' : gr_I) (J' : gr_J), h' = gc_h sh I' J' A ∧ gc_Inv ro I' ∧ (∀ q j : Nat, (q = 65 ∨ q = 66 ∨ (q = 61 ∧ j = 9) ∨ (q = 61 ∧ j = 10)) ∨ I' q j = I q j) ∧ (∀ q j : Nat, (False) ∨ J' q j = J q j) ∧ gc_OR I' ∧ r = none) := by
  have FI : ∀ q j : Nat, (q = 65 ∨ q = 66 ∨ (q = 61 ∧ j = 9) ∨ (q = 61 ∧ j = 10)) ∨ I q j = I q j := fun _ _ => Or.inr rfl
  have FJ : ∀ q j : Nat, (False) ∨ J q j = J q j := fun _ _ => Or.inr rfl
  have B_61 : 61 < 1000000 := by decide
  have B_65 : 65 < 1000000 := by decide
  have B_66 : 66 < 1000000 := by decide
  have R_48 : ro 48 = 49 := gc_bR hb (by decide) rfl
  have R_61 : ro 61 = 72 := gc_bR hb (by decide) rfl
  have R_65 : ro 65 = 51 := gc_bR hb (by decide) rfl
  have R_66 : ro 66 = 51 := gc_bR hb (by decide) rfl
  have S_61 : sh[61]? = some (false, 5, 19) := gc_bS hb rfl
  have S_65 : sh[65]? = some (true, 1, 9000) := gc_bS hb rfl
  have S_66 : sh[66]? = some (true, 1, 9000) := gc_bS hb rfl
  obtain ⟨S_t, R_t, B_t, A_t_0, h_t_1, A_t_1, h_t_3, A_t_2, S_t_5, R_t_5, B_t_5, A_t_3, S_t_6, R_t_6, B_t_6, A_t_4, h_t_7, A_t_5, S_t_9, R_t_9, B_t_9, A_t_7, S_t_10, R_t_10, B_t_10, A_t_8, h_t_11, A_t_9, S_t_13, R_t_13, B_t_13, A_t_10, S_t_14, R_t_14, B_t_14, A_t_12, S_t_15, R_t_15, B_t_15, A_t_14, S_t_16, R_t_16, B_t_16, A_t_15, h_t_17⟩ := id h_t
  obtain ⟨S_t_1, R_t_1, B_t_1, A_t_1_0, S_t_1_1, R_t_1_1, B_t_1_1, Q0_t_1, Q1_t_1, Q2_t_1⟩ := id h_t_1
  obtain ⟨S_t_3, R_t_3, B_t_3, A_t_3_0, S_t_3_1, R_t_3_1, B_t_3_1, Q0_t_3, Q1_t_3, Q2_t_3⟩ := id h_t_3
  obtain ⟨S_t_7, R_t_7, B_t_7, A_t_7_0, S_t_7_1, R_t_7_1, B_t_7_1, Q0_t_7, Q1_t_7, Q2_t_7⟩ := id h_t_7
  obtain ⟨S_t_11, R_t_11, B_t_11, A_t_11_0, S_t_11_1, R_t_11_1, B_t_11_1, Q0_t_11, Q1_t_11, Q2_t_11⟩ := id h_t_11
  obtain ⟨S_t_17, R_t_17, B_t_17, A_t_17_0, S_20, R_20, B_20, A_t_17_1, S_t_17_1, R_t_17_1, B_t_17_1, A_t_17_2, S_t_17_2, R_t_17_2, B_t_17_2, A_t_17_3, S_t_17_3, R_t_17_3, B_t_17_3, A_t_17_4, S_t_17_4, R_t_17_4, B_t_17_4, A_t_17_5, S_t_17_5, R_t_17_5, B_t_17_5, S_t_17_6, R_t_17_6, B_t_17_6, S_t_17_7, R_t_17_7, B_t_17_7⟩ := id h_t_17
  have hD : gv_D (gc_E5 ws0 tb 3 (yX5_sortWays, cX5_sortWays, 3, none) kX5_sortWays) := gq_of oX5_sortWays
  refine gc_ev5 (d := 3) (l := kX5_sortWays) (Po := fun r h' => (∃ (I' : gr_I) (J' : gr_J), h' = gc_h sh I' J' A ∧ gc_Inv ro I' ∧ (∀ q j : Nat, (q = 65 ∨ q = 66 ∨ (q = 61 ∧ j = 9) ∨ (q = 61 ∧ j = 10)) ∨ I' q j = I q j) ∧ (∀ q j : Nat, (False) ∨ J' q j = J q j) ∧ gc_OR I' ∧ r = none)) htb rfl (Nat.le_of_ble_eq_true rfl) ?_
  have N_t__65 : ¬ (t = 65) := by exact gz_m 0 (by omega)
  have N_t__66 : ¬ (t = 66) := by exact gz_m 1 (by omega)
  have f1 := (show 0 ≤ I 61 8 ∧ I 61 8 ≤ 9000 from gc_in hI R_61 rfl rfl)
  have f2 := (show 0 ≤ I 61 9 ∧ I 61 9 ≤ 1 from gc_in hI R_61 rfl rfl)
  have f3 := (show 0 ≤ I 61 10 ∧ I 61 10 ≤ 1 from gc_in hI R_61 rfl rfl)
  have f4 := (show 0 ≤ I 48 6 ∧ I 48 6 ≤ 9000 from gc_in hI R_48 rfl rfl)
  have f5 := (show (-1) ≤ I 61 2 ∧ I 61 2 ≤ 999999 from gc_in hI R_61 rfl rfl)
  have L2 : ∀ (n9 : Nat) (I6 : gr_I) (J7 : gr_J) (v1_8 : Int), (40000 - v1_8).toNat < n9 → gc_Inv ro I6 → (∀ q j : Nat, (q = 65 ∨ q = 66 ∨ (q = 61 ∧ j = 9) ∨ (q = 61 ∧ j = 10)) ∨ I6 q j = I q j) → (∀ q j : Nat, (False) ∨ J7 q j = J q j) → gc_OR I6 → ((1 ≤ v1_8 ∧ v1_8 ≤ 17998) ∧ (I6 61 8 = I 61 8) ∧ (I6 61 2 = (t : Int))) → gv_X (gc_E5 ws0 tb 3 (yX5_sortWays, cX5_sortWays, 3, none) kX5_sortWays) (gv_Q cX5_sortWays none sh (fun r h' => (∃ (I' : gr_I) (J' : gr_J), h' = gc_h sh I' J' A ∧ gc_Inv ro I' ∧ (∀ q j : Nat, (q = 65 ∨ q = 66 ∨ (q = 61 ∧ j = 9) ∨ (q = 61 ∧ j = 10)) ∨ I' q j = I q j) ∧ (∀ q j : Nat, (False) ∨ J' q j = J q j) ∧ gc_OR I' ∧ r = none))) (2, [(0, .inr (.inr (some 61))), (1, .inl v1_8)], [], sh, gc_h sh I6 J7 A) := by
    intro n9
    induction n9 with
    | zero => intro I6 J7 v1_8 hn; exact gz_m 2 (by omega)
    | succ n9 ih2 =>
      intro I6 J7 v1_8 hn hI6 FI6 FJ7 KOR_I6 m_8
      obtain ⟨hv1_8, e0_8, e1_8⟩ := m_8
      have f9 := (show 0 ≤ I6 61 8 ∧ I6 61 8 ≤ 9000 from gc_in hI6 R_61 rfl rfl)
      have f10 := (show 0 ≤ I6 61 9 ∧ I6 61 9 ≤ 1 from gc_in hI6 R_61 rfl rfl)
      have f11 := (show 0 ≤ I6 61 10 ∧ I6 61 10 ≤ 1 from gc_in hI6 R_61 rfl rfl)
      have f12 := (show 0 ≤ I6 48 6 ∧ I6 48 6 ≤ 9000 from gc_in hI6 R_48 rfl rfl)
      have f13 := (show (-1) ≤ I6 61 2 ∧ I6 61 2 ≤ 999999 from gc_in hI6 R_61 rfl rfl)
      have L12 : ∀ (n9 : Nat) (I14 : gr_I) (J15 : gr_J) (v2_16 : Int), (60000 - v2_16).toNat < n9 → gc_Inv ro I14 → (∀ q j : Nat, (q = 65 ∨ q = 66 ∨ (q = 61 ∧ j = 9) ∨ (q = 61 ∧ j = 10)) ∨ I14 q j = I q j) → (∀ q j : Nat, (False) ∨ J15 q j = J q j) → gc_OR I14 → ((1 ≤ v1_8 ∧ v1_8 ≤ 8999) ∧ (0 ≤ v2_16 ∧ v2_16 ≤ 26997) ∧ (v1_8 < I14 61 8) ∧ (I14 61 8 = I 61 8) ∧ (I14 61 2 = (t : Int))) → (∀ b : Int, b ≤ v2_16 → b ≤ I14 61 8 → gc_SR b I14) → gv_X (gc_E5 ws0 tb 3 (yX5_sortWays, cX5_sortWays, 3, none) kX5_sortWays) (gv_Q cX5_sortWays none sh (fun r h' => (∃ (I' : gr_I) (J' : gr_J), h' = gc_h sh I' J' A ∧ gc_Inv ro I' ∧ (∀ q j : Nat, (q = 65 ∨ q = 66 ∨ (q = 61 ∧ j = 9) ∨ (q = 61 ∧ j = 10)) ∨ I' q j = I q j) ∧ (∀ q j : Nat, (False) ∨ J' q j = J q j) ∧ gc_OR I' ∧ r = none))) (12, [(0, .inr (.inr (some 61))), (1, .inl v1_8), (2, .inl v2_16)], [], sh, gc_h sh I14 J15 A) := by
        intro n9
        induction n9 with
        | zero => intro I14 J15 v2_16 hn; exact gz_m 3 (by omega)
        | succ n9 ih12 =>
          intro I14 J15 v2_16 hn hI14 FI14 FJ15 KOR_I14 m_16 e0_16
          clear hv1_8 e0_8 e1_8 f9 f10 f11 f12 f13
          obtain ⟨hv1_8_16, hv2_16, e1_16, e2_16, e3_16⟩ := m_16
          have f17 := (show 0 ≤ I14 61 8 ∧ I14 61 8 ≤ 9000 from gc_in hI14 R_61 rfl rfl)
          have f18 := (show 0 ≤ I14 61 9 ∧ I14 61 9 ≤ 1 from gc_in hI14 R_61 rfl rfl)
          have f19 := (show 0 ≤ I14 61 10 ∧ I14 61 10 ≤ 1 from gc_in hI14 R_61 rfl rfl)
          have f20 := (show 0 ≤ I14 48 6 ∧ I14 48 6 ≤ 9000 from gc_in hI14 R_48 rfl rfl)
          have f21 := (show (-1) ≤ I14 61 2 ∧ I14 61 2 ≤ 999999 from gc_in hI14 R_61 rfl rfl)
          refine gv_run 2 true hD (pc' := 14) (lv' := [(0, .inr (.inr (some 61))), (1, .inl v1_8), (2, .inl v2_16)]) (st' := [.inr (.inr (some 61)), .inl v2_16]) (h' := gc_h sh I14 J15 A) (C := ((True ∧ True) ∧ True)) rfl ⟨⟨trivial, trivial⟩, trivial⟩ ?_
          have f22 := (show 0 ≤ I14 61 8 ∧ I14 61 8 ≤ 9000 from gc_in hI14 R_61 rfl rfl)
          refine gv_get hD rfl rfl S_61 ⟨by decide, B_61⟩ (gc_hI S_61 rfl) ?_
          show gv_X _ _ (17, [(0, .inr (.inr (some 61))), (1, .inl v1_8), (2, .inl v2_16)], [.inl (I14 61 8), .inl v2_16], sh, gc_h sh I14 J15 A)
          refine gv_icmp_ge (t := 56) hD rfl rfl ⟨⟨by exact gz_m 4 (by omega), by exact gz_m 5 (by omega)⟩, ⟨by exact gz_m 6 (by omega), by exact gz_m 7 (by omega)⟩⟩ (fun c23 => ?_) (fun c23 => ?_)
          · show gv_X _ _ (56, [(0, .inr (.inr (some 61))), (1, .inl v1_8), (2, .inl v2_16)], [], sh, gc_h sh I14 J15 A)
            refine gv_run 1 true hD (pc' := 57) (lv' := [(0, .inr (.inr (some 61))), (1, .inl v1_8), (2, .inl v2_16)]) (st' := [.inr (.inr (some 61))]) (h' := gc_h sh I14 J15 A) (C := (True ∧ True)) rfl ⟨trivial, trivial⟩ ?_
            have f25 := (show 0 ≤ I14 61 9 ∧ I14 61 9 ≤ 1 from gc_in hI14 R_61 rfl rfl)
            obtain ⟨f24_, hq_f24_, S_f24, R_f24, B_f24, D_f24⟩ := gc_sw (p := 61) (d := 4) (s := 1) (z := I14 61 9) (show 0 ≤ I14 61 9 ∧ I14 61 9 ≤ 1 from gc_in hI14 R_61 rfl rfl) S_65 R_65 B_65 S_66 R_66 B_66
            refine gv_get hD rfl rfl S_61 ⟨by decide, B_61⟩ (gc_hS (n := 4) S_61 rfl hq_f24_) ?_
            show gv_X _ _ (60, [(0, .inr (.inr (some 61))), (1, .inl v1_8), (2, .inl v2_16)], [.inr (.inr (some f24_))], sh, gc_h sh I14 J15 A)
            refine gv_run 3 true hD (pc' := 63) (lv' := [(2, .inr (.inr (some f24_))), (0, .inr (.inr (some 61))), (1, .inl v1_8)]) (st' := [.inr (.inr (some 61)), .inr (.inr (some 61))]) (h' := gc_h sh I14 J15 A) (C := (((True ∧ True) ∧ True) ∧ True)) rfl ⟨⟨⟨trivial, trivial⟩, trivial⟩, trivial⟩ ?_
            have f27 := (show 0 ≤ I14 61 10 ∧ I14 61 10 ≤ 1 from gc_in hI14 R_61 rfl rfl)
            obtain ⟨f26_, hq_f26_, S_f26, R_f26, B_f26, D_f26⟩ := gc_sw (p := 61) (d := 4) (s := 1) (z := I14 61 10) (show 0 ≤ I14 61 10 ∧ I14 61 10 ≤ 1 from gc_in hI14 R_61 rfl rfl) S_65 R_65 B_65 S_66 R_66 B_66
            refine gv_get hD rfl rfl S_61 ⟨by decide, B_61⟩ (gc_hS (n := 4) S_61 rfl hq_f26_) ?_
            show gv_X _ _ (66, [(2, .inr (.inr (some f24_))), (0, .inr (.inr (some 61))), (1, .inl v1_8)], [.inr (.inr (some f26_)), .inr (.inr (some 61))], sh, gc_h sh I14 J15 A)
            refine gv_put hD rfl rfl S_61 ⟨by decide, B_61⟩ rfl trivial ?_
            refine gc_stS (n := 4) (b0 := (f26_ - (61 + 4)) / 1) hI14 S_61 rfl (by exact gz_m 8 (by omega)) R_61 (lo := 0) (hi := 1) rfl rfl (by exact gz_m 9 (by omega)) (by exact gz_m 10 (by omega)) (fun I28 hI28 q29 p29 => ?_)
            have FI28 := gc_frs (W := fun q j => q = 65 ∨ q = 66 ∨ (q = 61 ∧ j = 9) ∨ (q = 61 ∧ j = 10)) FI14 (Or.inr (Or.inr (Or.inl ⟨rfl, rfl⟩))) p29
            have t30 := p29 61 8 (fun h => absurd h.2 (by decide))
            have t31 := p29 61 10 (fun h => absurd h.2 (by decide))
            have t32 := p29 48 6 (fun h => absurd h.2 (by decide))
            have t33 := p29 61 2 (fun h => absurd h.2 (by decide))
            have f34 := (show 0 ≤ I28 61 8 ∧ I28 61 8 ≤ 9000 from gc_in hI28 R_61 rfl rfl)
            have f35 := (show 0 ≤ I28 61 9 ∧ I28 61 9 ≤ 1 from gc_in hI28 R_61 rfl rfl)
            have f36 := (show 0 ≤ I28 61 10 ∧ I28 61 10 ≤ 1 from gc_in hI28 R_61 rfl rfl)
            have f37 := (show 0 ≤ I28 48 6 ∧ I28 48 6 ≤ 9000 from gc_in hI28 R_48 rfl rfl)
            have f38 := (show (-1) ≤ I28 61 2 ∧ I28 61 2 ≤ 999999 from gc_in hI28 R_61 rfl rfl)
            show gv_X _ _ (69, [(2, .inr (.inr (some f24_))), (0, .inr (.inr (some 61))), (1, .inl v1_8)], [], sh, gc_h sh I28 J15 A)
            refine gv_run 2 true hD (pc' := 71) (lv' := [(2, .inr (.inr (some f24_))), (0, .inr (.inr (some 61))), (1, .inl v1_8)]) (st' := [.inr (.inr (some f24_)), .inr (.inr (some 61))]) (h' := gc_h sh I28 J15 A) (C := ((True ∧ True) ∧ True)) rfl ⟨⟨trivial, trivial⟩, trivial⟩ ?_
            refine gv_put hD rfl rfl S_61 ⟨by decide, B_61⟩ rfl trivial ?_
            refine gc_stS (n := 4) (b0 := (f24_ - (61 + 4)) / 1) hI28 S_61 rfl (by exact gz_m 11 (by omega)) R_61 (lo := 0) (hi := 1) rfl rfl (by exact gz_m 12 (by omega)) (by exact gz_m 13 (by omega)) (fun I39 hI39 q40 p40 => ?_)
            have FI39 := gc_frs (W := fun q j => q = 65 ∨ q = 66 ∨ (q = 61 ∧ j = 9) ∨ (q = 61 ∧ j = 10)) FI28 (Or.inr (Or.inr (Or.inr ⟨rfl, rfl⟩))) p40
            have t41 := p40 61 8 (fun h => absurd h.2 (by decide))
            have t42 := p40 61 9 (fun h => absurd h.2 (by decide))
            have t43 := p40 48 6 (fun h => absurd h.2 (by decide))
            have t44 := p40 61 2 (fun h => absurd h.2 (by decide))
            have f45 := (show 0 ≤ I39 61 8 ∧ I39 61 8 ≤ 9000 from gc_in hI39 R_61 rfl rfl)
            have f46 := (show 0 ≤ I39 61 9 ∧ I39 61 9 ≤ 1 from gc_in hI39 R_61 rfl rfl)
            have f47 := (show 0 ≤ I39 61 10 ∧ I39 61 10 ≤ 1 from gc_in hI39 R_61 rfl rfl)
            have f48 := (show 0 ≤ I39 48 6 ∧ I39 48 6 ≤ 9000 from gc_in hI39 R_48 rfl rfl)
            have f49 := (show (-1) ≤ I39 61 2 ∧ I39 61 2 ≤ 999999 from gc_in hI39 R_61 rfl rfl)
            have KOR_I39 : gc_OR I39 := gc_OR_sw (b := I14 61 8) (e0_16 (I14 61 8) (by exact gz_m 14 (by omega)) (by exact gz_m 15 (by omega))) (by exact gz_m 16 (by omega)) (by exact gz_m 17 (by omega)) (by exact gz_m 18 (by omega)) (fun k => (p40 65 k (fun h => absurd h.1 (by decide))).trans (p29 65 k (fun h => absurd h.1 (by decide)))) (fun k => (p40 66 k (fun h => absurd h.1 (by decide))).trans (p29 66 k (fun h => absurd h.1 (by decide))))
            show gv_X _ _ (74, [(2, .inr (.inr (some f24_))), (0, .inr (.inr (some 61))), (1, .inl v1_8)], [], sh, gc_h sh I39 J15 A)
            refine gv_run 5 true hD (pc' := 2) (lv' := [(1, .inl (v1_8 * 2)), (2, .inr (.inr (some f24_))), (0, .inr (.inr (some 61)))]) (st' := []) (h' := gc_h sh I39 J15 A) (C := (((((True ∧ True) ∧ True) ∧ True) ∧ True) ∧ True)) rfl ⟨⟨⟨⟨⟨trivial, trivial⟩, trivial⟩, trivial⟩, trivial⟩, trivial⟩ ?_
            refine gv_pick [2, 0] rfl ?_
            exact ih2 I39 J15 (v1_8 * 2) (by exact gz_m 19 (by omega)) hI39 FI39 FJ15 KOR_I39 (by exact gz_m 20 (by omega))
          · show gv_X _ _ (20, [(0, .inr (.inr (some 61))), (1, .inl v1_8), (2, .inl v2_16)], [], sh, gc_h sh I14 J15 A)
            refine gv_run 6 true hD (pc' := 26) (lv' := [(0, .inr (.inr (some 61))), (1, .inl v1_8), (2, .inl v2_16)]) (st' := [.inr (.inr (some 61)), .inl (v2_16 + v1_8), .inl v2_16, .inr (.inr (some 61))]) (h' := gc_h sh I14 J15 A) (C := ((((((True ∧ True) ∧ True) ∧ True) ∧ True) ∧ True) ∧ True)) rfl ⟨⟨⟨⟨⟨⟨trivial, trivial⟩, trivial⟩, trivial⟩, trivial⟩, trivial⟩, trivial⟩ ?_
            have f50 := (show 0 ≤ I14 61 8 ∧ I14 61 8 ≤ 9000 from gc_in hI14 R_61 rfl rfl)
            refine gv_get hD rfl rfl S_61 ⟨by decide, B_61⟩ (gc_hI S_61 rfl) ?_
            show gv_X _ _ (29, [(0, .inr (.inr (some 61))), (1, .inl v1_8), (2, .inl v2_16)], [.inl (I14 61 8), .inl (v2_16 + v1_8), .inl v2_16, .inr (.inr (some 61))], sh, gc_h sh I14 J15 A)
            obtain ⟨z51, E51, q51⟩ := gj_min (ws0 := ws0) (tb := tb) (sh := sh) (h := gc_h sh I14 J15 A) (v2_16 + v1_8) (I14 61 8) ⟨by exact gz_m 21 (by omega), by exact gz_m 22 (by omega)⟩ ⟨by exact gz_m 23 (by omega), by exact gz_m 24 (by omega)⟩
            refine gv_callS hD rfl (As := [.inl (v2_16 + v1_8), .inl (I14 61 8)]) (st := [.inl v2_16, .inr (.inr (some 61))]) rfl (gc_lS5 hws rfl) (Nat.le_of_ble_eq_true rfl) (gz_Ev_mono (d := 1) (by decide) E51) ?_
            show gv_X _ _ (32, [(0, .inr (.inr (some 61))), (1, .inl v1_8), (2, .inl v2_16)], [.inl z51, .inl v2_16, .inr (.inr (some 61))], sh, gc_h sh I14 J15 A)
            refine gv_run 6 true hD (pc' := 38) (lv' := [(0, .inr (.inr (some 61))), (1, .inl v1_8), (2, .inl v2_16)]) (st' := [.inr (.inr (some 61)), .inl (v2_16 + (2 * v1_8)), .inl z51, .inl v2_16, .inr (.inr (some 61))]) (h' := gc_h sh I14 J15 A) (C := ((((((True ∧ True) ∧ True) ∧ True) ∧ True) ∧ True) ∧ True)) rfl ⟨⟨⟨⟨⟨⟨trivial, trivial⟩, trivial⟩, trivial⟩, trivial⟩, trivial⟩, trivial⟩ ?_
            have f52 := (show 0 ≤ I14 61 8 ∧ I14 61 8 ≤ 9000 from gc_in hI14 R_61 rfl rfl)
            refine gv_get hD rfl rfl S_61 ⟨by decide, B_61⟩ (gc_hI S_61 rfl) ?_
            show gv_X _ _ (41, [(0, .inr (.inr (some 61))), (1, .inl v1_8), (2, .inl v2_16)], [.inl (I14 61 8), .inl (v2_16 + (2 * v1_8)), .inl z51, .inl v2_16, .inr (.inr (some 61))], sh, gc_h sh I14 J15 A)
            obtain ⟨z53, E53, q53⟩ := gj_min (ws0 := ws0) (tb := tb) (sh := sh) (h := gc_h sh I14 J15 A) ((v2_16 + (2 * v1_8))) (I14 61 8) ⟨by exact gz_m 25 (by omega), by exact gz_m 26 (by omega)⟩ ⟨by exact gz_m 27 (by omega), by exact gz_m 28 (by omega)⟩
            refine gv_callS hD rfl (As := [.inl (v2_16 + (2 * v1_8)), .inl (I14 61 8)]) (st := [.inl z51, .inl v2_16, .inr (.inr (some 61))]) rfl (gc_lS5 hws rfl) (Nat.le_of_ble_eq_true rfl) (gz_Ev_mono (d := 1) (by decide) E53) ?_
            show gv_X _ _ (44, [(0, .inr (.inr (some 61))), (1, .inl v1_8), (2, .inl v2_16)], [.inl z53, .inl z51, .inl v2_16, .inr (.inr (some 61))], sh, gc_h sh I14 J15 A)
            obtain ⟨r54, h54, E54, P54⟩ := d_X5_merge (ws0 := ws0) (tb := tb) hws htb sh ro I14 J15 A hI14  t v2_16 z51 z53 hb  h_t G_t  ⟨by exact gz_m 29 (by omega), by exact gz_m 30 (by omega)⟩ ⟨by exact gz_m 31 (by omega), by exact gz_m 32 (by omega)⟩ ⟨by exact gz_m 33 (by omega), by exact gz_m 34 (by omega)⟩ (gc_Ls_fr x0 ((FI14 t 13).resolve_left (by exact gz_m 35 (by omega))) (fun q hL hq d k hd => (FI14 (q + d) k).resolve_left (by have := gc_dj_LT hL h_t; exact gz_m 36 (by omega)))) (gc_WV_fr x1 ((FI14 48 6).resolve_left (fun h => h.elim (fun h => absurd h (by decide)) (fun h => h.elim (fun h => absurd h (by decide)) (fun h => h.elim (fun h => absurd h.2 (by decide)) (fun h => absurd h.2 (by decide)))))) ((FI14 t 13).resolve_left (fun h => h.elim (fun h => absurd h N_t__65) (fun h => h.elim (fun h => absurd h N_t__66) (fun h => h.elim (fun h => absurd h.2 (by decide)) (fun h => absurd h.2 (by decide)))))) (fun k => (FI14 54 k).resolve_left (fun h => h.elim (fun h => absurd h (by decide)) (fun h => h.elim (fun h => absurd h (by decide)) (fun h => h.elim (fun h => absurd h.1 (by decide)) (fun h => absurd h.1 (by decide))))))) (e0_16 v2_16 (by exact gz_m 37 (by omega)) (by exact gz_m 38 (by omega))) (by exact gz_m 39 (by omega)) (by exact gz_m 40 (by omega)) KOR_I14
            obtain ⟨I55, J56, rfl, hI55, g54, k54, KOR_I55, ⟨rfl, q54⟩⟩ := P54
            have FI55 := gc_frc (W := fun q j => q = 65 ∨ q = 66 ∨ (q = 61 ∧ j = 9) ∨ (q = 61 ∧ j = 10)) (V := fun q j => q = 65 ∨ q = 66) FI14 (fun q j h => (h.elim (fun h => (Or.inl h)) (fun h => (Or.inr (Or.inl h))))) g54
            have t57 := (g54 61 8).resolve_left (fun h => h.elim (fun h => absurd h (by decide)) (fun h => absurd h (by decide)))
            have t58 := (g54 61 9).resolve_left (fun h => h.elim (fun h => absurd h (by decide)) (fun h => absurd h (by decide)))
            have t59 := (g54 61 10).resolve_left (fun h => h.elim (fun h => absurd h (by decide)) (fun h => absurd h (by decide)))
            have t60 := (g54 48 6).resolve_left (fun h => h.elim (fun h => absurd h (by decide)) (fun h => absurd h (by decide)))
            have t61 := (g54 61 2).resolve_left (fun h => h.elim (fun h => absurd h (by decide)) (fun h => absurd h (by decide)))
            have f62 := (show 0 ≤ I55 61 8 ∧ I55 61 8 ≤ 9000 from gc_in hI55 R_61 rfl rfl)
            have f63 := (show 0 ≤ I55 61 9 ∧ I55 61 9 ≤ 1 from gc_in hI55 R_61 rfl rfl)
            have f64 := (show 0 ≤ I55 61 10 ∧ I55 61 10 ≤ 1 from gc_in hI55 R_61 rfl rfl)
            have f65 := (show 0 ≤ I55 48 6 ∧ I55 48 6 ≤ 9000 from gc_in hI55 R_48 rfl rfl)
            have f66 := (show (-1) ≤ I55 61 2 ∧ I55 61 2 ≤ 999999 from gc_in hI55 R_61 rfl rfl)
            obtain rfl : J15 = J56 := funext fun q => funext fun j => ((k54 q j).resolve_left id).symm
            refine gv_callV hD rfl (As := [.inl v2_16, .inl z51, .inl z53]) (st := []) rfl B_61 S_61 rfl (gc_lV5 hws rfl) (Nat.le_of_ble_eq_true rfl) (gz_Ev_mono (d := 3) (by decide) E54) ?_
            show gv_X _ _ (47, [(0, .inr (.inr (some 61))), (1, .inl v1_8), (2, .inl v2_16)], [], sh, gc_h sh I55 J15 A)
            refine gv_run 7 true hD (pc' := 12) (lv' := [(2, .inl (v2_16 + (2 * v1_8))), (0, .inr (.inr (some 61))), (1, .inl v1_8)]) (st' := []) (h' := gc_h sh I55 J15 A) (C := (((((((True ∧ True) ∧ True) ∧ True) ∧ True) ∧ True) ∧ True) ∧ True)) rfl ⟨⟨⟨⟨⟨⟨⟨trivial, trivial⟩, trivial⟩, trivial⟩, trivial⟩, trivial⟩, trivial⟩, trivial⟩ ?_
            refine gv_pick [1, 2, 0] rfl ?_
            exact ih12 I55 J15 ((v2_16 + (2 * v1_8))) (by exact gz_m 41 (by omega)) hI55 FI55 FJ15 KOR_I55 (by exact gz_m 42 (by omega)) (fun b h1 h2 => gc_SR_w q54 (by exact gz_m 43 (by omega)))
      refine gv_run 2 true hD (pc' := 4) (lv' := [(0, .inr (.inr (some 61))), (1, .inl v1_8)]) (st' := [.inr (.inr (some 61)), .inl v1_8]) (h' := gc_h sh I6 J7 A) (C := ((True ∧ True) ∧ True)) rfl ⟨⟨trivial, trivial⟩, trivial⟩ ?_
      have f67 := (show 0 ≤ I6 61 8 ∧ I6 61 8 ≤ 9000 from gc_in hI6 R_61 rfl rfl)
      refine gv_get hD rfl rfl S_61 ⟨by decide, B_61⟩ (gc_hI S_61 rfl) ?_
      show gv_X _ _ (7, [(0, .inr (.inr (some 61))), (1, .inl v1_8)], [.inl (I6 61 8), .inl v1_8], sh, gc_h sh I6 J7 A)
      refine gv_icmp_ge (t := 81) hD rfl rfl ⟨⟨by exact gz_m 44 (by omega), by exact gz_m 45 (by omega)⟩, ⟨by exact gz_m 46 (by omega), by exact gz_m 47 (by omega)⟩⟩ (fun c68 => ?_) (fun c68 => ?_)
      · show gv_X _ _ (81, [(0, .inr (.inr (some 61))), (1, .inl v1_8)], [], sh, gc_h sh I6 J7 A)
        exact gv_vret hD rfl ⟨I6, J7, rfl, hI6, FI6, FJ7, KOR_I6, rfl⟩
      · show gv_X _ _ (10, [(0, .inr (.inr (some 61))), (1, .inl v1_8)], [], sh, gc_h sh I6 J7 A)
        refine gv_run 2 true hD (pc' := 12) (lv' := [(2, .inl 0), (0, .inr (.inr (some 61))), (1, .inl v1_8)]) (st' := []) (h' := gc_h sh I6 J7 A) (C := ((True ∧ True) ∧ True)) rfl ⟨⟨trivial, trivial⟩, trivial⟩ ?_
        refine gv_pick [1, 2, 0] rfl ?_
        exact L12 _ I6 J7 0 (Nat.lt_succ_self _) hI6 FI6 FJ7 KOR_I6 (by exact gz_m 48 (by omega)) (fun b h1 h2 => ⟨by exact gz_m 49 (by omega), fun i hi => by exact gz_m 50 (by omega)⟩)
  refine gv_run 2 true hD (pc' := 2) (lv' := [(1, .inl 1), (0, .inr (.inr (some 61)))]) (st' := []) (h' := gc_h sh I J A) (C := ((True ∧ True) ∧ True)) rfl ⟨⟨trivial, trivial⟩, trivial⟩ ?_
  refine gv_pick [1, 0] rfl ?_
  exact L2 _ I J 1 (Nat.lt_succ_self _) hI FI FJ KOR_I (by exact gz_m 51 (by omega))
