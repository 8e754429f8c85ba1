set_option maxHeartbeats 8000000 in
set_option maxRecDepth 100000 in
theorem d_X5_merge {ws0 : List Cond} {tb : String → gz_T} (hws : gc_Ws ws0) (htb : gc_tbs tb) (sh : gz_Sh) (ro : Nat → Nat) (I : gr_I) (J : gr_J) (A : gc_A) (hI : gc_Inv ro I) (t : Nat) (a1 : Int) (a2 : Int) (a3 : Int) (hb : gc_Base sh ro A) (h_t : gc_isTongue sh ro A t) (G_t : 144 ≤ t) (ha1 : 0 ≤ a1 ∧ a1 ≤ 9000) (ha2 : 0 ≤ a2 ∧ a2 ≤ 9000) (ha3 : 0 ≤ a3 ∧ a3 ≤ 9000) (x0 : gc_Ls sh ro A t I) (x1 : gc_WV t I) (x2 : gc_SR a1 I) (x3 : a1 ≤ a2 ∧ a2 ≤ a3 ∧ a3 ≤ I 61 8) (x4 : I 61 2 = (t : Int)) (KOR_I : gc_OR I) : ∃ r hₚ, gz_Ev ws0 tb 3 (yX5_merge, cX5_merge, 8, none) [.inr (.inr (some 61)), .inl a1, .inl a2, .inl a3] sh (gc_h sh I J A) r sh hₚ 0 0 ∧ (∃ (Iₚ : gr_I) (Jₚ : gr_J), hₚ = gc_h sh Iₚ Jₚ A ∧ gc_Inv ro Iₚ ∧ (∀ q j : Nat, (q = 65 ∨ q = 66) ∨ Iₚ q j = I q j) ∧ (∀ q j : Nat, (False) ∨ Jₚ q j = J q j) ∧ gc_OR Iₚ ∧ r = none ∧ (gc_SR a3 Iₚ)) := by
  have FI : ∀ q j : Nat, (q = 65 ∨ q = 66) ∨ I q j = I q j := fun _ _ => Or.inr rfl
  have FJ : ∀ q j : Nat, (False) ∨ J q j = J q j := fun _ _ => Or.inr rfl
  have B_61 := gz_hi (show 61 < 1000000 from by decide)
  have B_65 := gz_hi (show 65 < 1000000 from by decide)
  have B_66 := gz_hi (show 66 < 1000000 from by decide)
  have R_48 := gz_hi (show ro 48 = 49 from gc_bR_48 hb)
  have R_61 := gz_hi (show ro 61 = 72 from gc_bR_61 hb)
  have R_65 := gz_hi (show ro 65 = 51 from gc_bR_65 hb)
  have R_66 := gz_hi (show ro 66 = 51 from gc_bR_66 hb)
  have S_61 : sh[61]? = some (false, 5, 19) := gc_bS_61 hb
  have S_65 : sh[65]? = some (true, 1, 9000) := gc_bS_65 hb
  have S_66 : sh[66]? = some (true, 1, 9000) := gc_bS_66 hb
  obtain ⟨S_t, R_t, B_t, A_t_0, h_t_1, A_t_1, h_t_3, A_t_2, S_t_5, R_t_5, B_t_5, A_t_3, S_t_6, R_t_6, B_t_6, A_t_4, h_t_7, A_t_5, S_t_9, R_t_9, B_t_9, A_t_7, S_t_10, R_t_10, B_t_10, A_t_8, h_t_11, A_t_9, S_t_13, R_t_13, B_t_13, A_t_10, S_t_14, R_t_14, B_t_14, A_t_12, S_t_15, R_t_15, B_t_15, A_t_14, S_t_16, R_t_16, B_t_16, A_t_15, h_t_17⟩ := id h_t
  replace R_t := gz_hi R_t
  replace B_t := gz_hi B_t
  replace R_t_5 := gz_hi R_t_5
  replace B_t_5 := gz_hi B_t_5
  replace R_t_6 := gz_hi R_t_6
  replace B_t_6 := gz_hi B_t_6
  replace R_t_9 := gz_hi R_t_9
  replace B_t_9 := gz_hi B_t_9
  replace R_t_10 := gz_hi R_t_10
  replace B_t_10 := gz_hi B_t_10
  replace R_t_13 := gz_hi R_t_13
  replace B_t_13 := gz_hi B_t_13
  replace R_t_14 := gz_hi R_t_14
  replace B_t_14 := gz_hi B_t_14
  replace R_t_15 := gz_hi R_t_15
  replace B_t_15 := gz_hi B_t_15
  replace R_t_16 := gz_hi R_t_16
  replace B_t_16 := gz_hi B_t_16
  obtain ⟨S_t_1, R_t_1, B_t_1, A_t_1_0, S_t_1_1, R_t_1_1, B_t_1_1, Q0_t_1, Q1_t_1, Q2_t_1⟩ := id h_t_1
  replace R_t_1 := gz_hi R_t_1
  replace B_t_1 := gz_hi B_t_1
  replace R_t_1_1 := gz_hi R_t_1_1
  replace B_t_1_1 := gz_hi B_t_1_1
  obtain ⟨S_t_3, R_t_3, B_t_3, A_t_3_0, S_t_3_1, R_t_3_1, B_t_3_1, Q0_t_3, Q1_t_3, Q2_t_3⟩ := id h_t_3
  replace R_t_3 := gz_hi R_t_3
  replace B_t_3 := gz_hi B_t_3
  replace R_t_3_1 := gz_hi R_t_3_1
  replace B_t_3_1 := gz_hi B_t_3_1
  obtain ⟨S_t_7, R_t_7, B_t_7, A_t_7_0, S_t_7_1, R_t_7_1, B_t_7_1, Q0_t_7, Q1_t_7, Q2_t_7⟩ := id h_t_7
  replace R_t_7 := gz_hi R_t_7
  replace B_t_7 := gz_hi B_t_7
  replace R_t_7_1 := gz_hi R_t_7_1
  replace B_t_7_1 := gz_hi B_t_7_1
  obtain ⟨S_t_11, R_t_11, B_t_11, A_t_11_0, S_t_11_1, R_t_11_1, B_t_11_1, Q0_t_11, Q1_t_11, Q2_t_11⟩ := id h_t_11
  replace R_t_11 := gz_hi R_t_11
  replace B_t_11 := gz_hi B_t_11
  replace R_t_11_1 := gz_hi R_t_11_1
  replace B_t_11_1 := gz_hi B_t_11_1
  obtain ⟨S_t_17, R_t_17, B_t_17, A_t_17_0, S_20, R_20, B_20, A_t_17_1, S_t_17_1, R_t_17_1, B_t_17_1, A_t_17_2, S_t_17_2, R_t_17_2, B_t_17_2, A_t_17_3, S_t_17_3, R_t_17_3, B_t_17_3, A_t_17_4, S_t_17_4, R_t_17_4, B_t_17_4, A_t_17_5, S_t_17_5, R_t_17_5, B_t_17_5, S_t_17_6, R_t_17_6, B_t_17_6, S_t_17_7, R_t_17_7, B_t_17_7⟩ := id h_t_17
  replace R_t_17 := gz_hi R_t_17
  replace B_t_17 := gz_hi B_t_17
  replace R_20 := gz_hi R_20
  replace B_20 := gz_hi B_20
  replace R_t_17_1 := gz_hi R_t_17_1
  replace B_t_17_1 := gz_hi B_t_17_1
  replace R_t_17_2 := gz_hi R_t_17_2
  replace B_t_17_2 := gz_hi B_t_17_2
  replace R_t_17_3 := gz_hi R_t_17_3
  replace B_t_17_3 := gz_hi B_t_17_3
  replace R_t_17_4 := gz_hi R_t_17_4
  replace B_t_17_4 := gz_hi B_t_17_4
  replace R_t_17_5 := gz_hi R_t_17_5
  replace B_t_17_5 := gz_hi B_t_17_5
  replace R_t_17_6 := gz_hi R_t_17_6
  replace B_t_17_6 := gz_hi B_t_17_6
  replace R_t_17_7 := gz_hi R_t_17_7
  replace B_t_17_7 := gz_hi B_t_17_7
  have hD : gv_D (gc_E5 ws0 tb 2 (yX5_merge, cX5_merge, 8, none) kX5_merge) := gq_of oX5_merge
  refine gc_ev5 (d := 2) (l := kX5_merge) (Po := fun r hₚ => (∃ (Iₚ : gr_I) (Jₚ : gr_J), hₚ = gc_h sh Iₚ Jₚ A ∧ gc_Inv ro Iₚ ∧ (∀ q j : Nat, (q = 65 ∨ q = 66) ∨ Iₚ q j = I q j) ∧ (∀ q j : Nat, (False) ∨ Jₚ q j = J q j) ∧ gc_OR Iₚ ∧ r = none ∧ (gc_SR a3 Iₚ))) htb rfl (Nat.le_of_ble_eq_true rfl) ?_
  have N_t__65 := gz_hi (show ¬ (t = 65) from by (/-0-/first | (have o1 := gz_sh B_t; have o2 := gz_sh B_t_10; have o3 := gz_sh B_t_13; have o4 := gz_sh B_t_14; have o5 := gz_sh B_t_15; have o6 := gz_sh B_t_16; have o7 := gz_sh B_t_17; have o8 := gz_sh B_t_17_1; have o9 := gz_sh B_t_17_2; have o10 := gz_sh B_t_17_3; have o11 := gz_sh B_t_17_4; have o12 := gz_sh B_t_17_5; have o13 := gz_sh B_t_17_6; have o14 := gz_sh B_t_17_7; have o15 := gz_sh B_t_5; have o16 := gz_sh B_t_6; have o17 := gz_sh B_t_9; omega) | (simp only [gz_hd] at *; omega)))
  have N_t__66 := gz_hi (show ¬ (t = 66) from by (/-1-/first | (have o1 := gz_sh B_t; have o2 := gz_sh B_t_10; have o3 := gz_sh B_t_13; have o4 := gz_sh B_t_14; have o5 := gz_sh B_t_15; have o6 := gz_sh B_t_16; have o7 := gz_sh B_t_17; have o8 := gz_sh B_t_17_1; have o9 := gz_sh B_t_17_2; have o10 := gz_sh B_t_17_3; have o11 := gz_sh B_t_17_4; have o12 := gz_sh B_t_17_5; have o13 := gz_sh B_t_17_6; have o14 := gz_sh B_t_17_7; have o15 := gz_sh B_t_5; have o16 := gz_sh B_t_6; have o17 := gz_sh B_t_9; omega) | (simp only [gz_hd] at *; omega)))
  have f1 := gz_hi ((gc_b_72_8 hI (gz_sh R_61)))
  have L9 : ∀ (n9 : Nat) (I6 : gr_I) (J7 : gr_J) (v4_8 : Int) (v5_8 : Int) (v6_8 : Int), (9001 - v6_8).toNat < n9 → gc_Inv ro I6 → (∀ q j : Nat, (q = 65 ∨ q = 66) ∨ I6 q j = I q j) → (∀ q j : Nat, (False) ∨ J7 q j = J q j) → gc_OR I6 → ((0 ≤ a2 ∧ a2 ≤ 9000) ∧ (0 ≤ a3 ∧ a3 ≤ 9000) ∧ (0 ≤ v4_8 ∧ v4_8 ≤ 9000) ∧ (0 ≤ v5_8 ∧ v5_8 ≤ 9000) ∧ (0 ≤ v6_8 ∧ v6_8 ≤ 9000) ∧ (a1 ≤ v4_8) ∧ (v4_8 ≤ a2) ∧ (a2 ≤ v5_8) ∧ (v5_8 ≤ a3) ∧ (v6_8 - a1 = v4_8 - a1 + (v5_8 - a2)) ∧ (v6_8 ≤ a3) ∧ (I6 61 8 = I 61 8) ∧ (I6 61 2 = (t : Int))) → (gc_SR v6_8 I6) → gv_X (gc_E5 ws0 tb 2 (yX5_merge, cX5_merge, 8, none) kX5_merge) (gv_Q cX5_merge none sh (fun r hₚ => (∃ (Iₚ : gr_I) (Jₚ : gr_J), hₚ = gc_h sh Iₚ Jₚ A ∧ gc_Inv ro Iₚ ∧ (∀ q j : Nat, (q = 65 ∨ q = 66) ∨ Iₚ q j = I q j) ∧ (∀ q j : Nat, (False) ∨ Jₚ q j = J q j) ∧ gc_OR Iₚ ∧ r = none ∧ (gc_SR a3 Iₚ)))) (9, [(0, .inr (.inr (some 61))), (2, .inl a2), (3, .inl a3), (4, .inl v4_8), (5, .inl v5_8), (6, .inl v6_8)], [], sh, gc_h sh I6 J7 A) := by
    intro n9
    induction n9 with
    | zero => intro I6 J7 v4_8 v5_8 v6_8 hn; (/-2-/first | omega | (simp only [gz_hd] at *; omega))
    | succ n9 ih9 =>
      intro I6 J7 v4_8 v5_8 v6_8 hn hI6 FI6 FJ7 KOR_I6 m_8 e0_8
      obtain ⟨ha2_8, ha3_8, hv4_8, hv5_8, hv6_8, e1_8, e2_8, e3_8, e4_8, e5_8, e6_8, e7_8, e8_8⟩ := gz_h13 m_8
      have f10 := gz_hi ((gc_b_72_9 hI6 (gz_sh R_61)))
      have f11 := gz_hi ((gc_b_72_10 hI6 (gz_sh R_61)))
      have L53 : ∀ (s0_14 : Int), ((0 ≤ a2 ∧ a2 ≤ 9000) ∧ (1 ≤ a3 ∧ a3 ≤ 9000) ∧ (0 ≤ v4_8 ∧ v4_8 ≤ 9000) ∧ (0 ≤ v5_8 ∧ v5_8 ≤ 9000) ∧ (0 ≤ v6_8 ∧ v6_8 ≤ 8999) ∧ (0 ≤ s0_14 ∧ s0_14 ≤ 1) ∧ ((s0_14 = 1 ∧ v5_8 < a3) ∨ (s0_14 = 0 ∧ v4_8 < a2)) ∧ (I6 61 8 = I 61 8) ∧ (I6 61 2 = (t : Int))) → gv_X (gc_E5 ws0 tb 2 (yX5_merge, cX5_merge, 8, none) kX5_merge) (gv_Q cX5_merge none sh (fun r hₚ => (∃ (Iₚ : gr_I) (Jₚ : gr_J), hₚ = gc_h sh Iₚ Jₚ A ∧ gc_Inv ro Iₚ ∧ (∀ q j : Nat, (q = 65 ∨ q = 66) ∨ Iₚ q j = I q j) ∧ (∀ q j : Nat, (False) ∨ Jₚ q j = J q j) ∧ gc_OR Iₚ ∧ r = none ∧ (gc_SR a3 Iₚ)))) (53, [(0, .inr (.inr (some 61))), (2, .inl a2), (3, .inl a3), (4, .inl v4_8), (5, .inl v5_8), (6, .inl v6_8)], [.inl s0_14], sh, gc_h sh I6 J7 A) := by
        intro s0_14 m_14
        obtain ⟨ha2_14, ha3_14, hv4_8_14, hv5_8_14, hv6_8_14, hs0_14, e0_14, e1_14, e2_14⟩ := gz_h9 m_14
        refine gv_run 2 true hD (pcₚ := 56) (lvₚ := [(7, .inl s0_14), (0, .inr (.inr (some 61))), (2, .inl a2), (3, .inl a3), (4, .inl v4_8), (5, .inl v5_8), (6, .inl v6_8)]) (stₚ := [.inr (.inr (some 61))]) (hₚ := gc_h sh I6 J7 A) (C := ((True ∧ True) ∧ True)) rfl ⟨⟨trivial, trivial⟩, trivial⟩ ?_
        obtain ⟨f20_, hq_f20_, S_f20, R_f20, B_f20, D_f20⟩ := gc_sw (p := 61) (d := 4) (s := 1) (z := I6 61 10) (gc_b_72_10 hI6 (gz_sh R_61)) S_65 (gz_sh R_65) (gz_sh B_65) S_66 (gz_sh R_66) (gz_sh B_66)
        refine gv_get hD rfl rfl S_61 ⟨by decide, (gz_sh B_61)⟩ (gc_hS (n := 4) S_61 rfl hq_f20_) ?_
        show gv_X _ _ (59, [(7, .inl s0_14), (0, .inr (.inr (some 61))), (2, .inl a2), (3, .inl a3), (4, .inl v4_8), (5, .inl v5_8), (6, .inl v6_8)], [.inr (.inr (some f20_))], sh, gc_h sh I6 J7 A)
        refine gv_run 2 true hD (pcₚ := 63) (lvₚ := [(7, .inl s0_14), (0, .inr (.inr (some 61))), (2, .inl a2), (3, .inl a3), (4, .inl v4_8), (5, .inl v5_8), (6, .inl v6_8)]) (stₚ := [.inl s0_14, .inl v6_8, .inr (.inr (some f20_))]) (hₚ := gc_h sh I6 J7 A) (C := ((True ∧ True) ∧ True)) rfl ⟨⟨trivial, trivial⟩, trivial⟩ ?_
        refine gv_if_eq (t := 79) hD rfl rfl ⟨by (/-3-/first | (have o1 := gz_sh hs0_14; omega) | (simp only [gz_hd] at *; omega)), by (/-4-/first | (have o1 := gz_sh hs0_14; omega) | (simp only [gz_hd] at *; omega))⟩ (fun c22 => ?_) (fun c22 => ?_)
        · show gv_X _ _ (79, [(7, .inl s0_14), (0, .inr (.inr (some 61))), (2, .inl a2), (3, .inl a3), (4, .inl v4_8), (5, .inl v5_8), (6, .inl v6_8)], [.inl v6_8, .inr (.inr (some f20_))], sh, gc_h sh I6 J7 A)
          refine gv_run 1 true hD (pcₚ := 80) (lvₚ := [(7, .inl s0_14), (0, .inr (.inr (some 61))), (2, .inl a2), (3, .inl a3), (4, .inl v4_8), (5, .inl v5_8), (6, .inl v6_8)]) (stₚ := [.inr (.inr (some 61)), .inl v6_8, .inr (.inr (some f20_))]) (hₚ := gc_h sh I6 J7 A) (C := (True ∧ True)) rfl ⟨trivial, trivial⟩ ?_
          obtain ⟨f23_, hq_f23_, S_f23, R_f23, B_f23, D_f23⟩ := gc_sw (p := 61) (d := 4) (s := 1) (z := I6 61 9) (gc_b_72_9 hI6 (gz_sh R_61)) S_65 (gz_sh R_65) (gz_sh B_65) S_66 (gz_sh R_66) (gz_sh B_66)
          refine gv_get hD rfl rfl S_61 ⟨by decide, (gz_sh B_61)⟩ (gc_hS (n := 4) S_61 rfl hq_f23_) ?_
          show gv_X _ _ (83, [(7, .inl s0_14), (0, .inr (.inr (some 61))), (2, .inl a2), (3, .inl a3), (4, .inl v4_8), (5, .inl v5_8), (6, .inl v6_8)], [.inr (.inr (some f23_)), .inl v6_8, .inr (.inr (some f20_))], sh, gc_h sh I6 J7 A)
          refine gv_run 2 true hD (pcₚ := 88) (lvₚ := [(4, .inl (v4_8 + 1)), (7, .inl s0_14), (0, .inr (.inr (some 61))), (2, .inl a2), (3, .inl a3), (5, .inl v5_8), (6, .inl v6_8)]) (stₚ := [.inl v4_8, .inr (.inr (some f23_)), .inl v6_8, .inr (.inr (some f20_))]) (hₚ := gc_h sh I6 J7 A) (C := ((True ∧ True) ∧ True)) rfl ⟨⟨trivial, trivial⟩, trivial⟩ ?_
          have t25 := gz_hi (gc_OR_at (f := f23_) (i := Int.toNat v4_8) KOR_I6 hq_f23_ (by (/-5-/first | (have o1 := gz_sh e0_14; have o2 := gz_sh e7_8; have o3 := gz_sh ha3_14; omega) | (simp only [gz_hd] at *; omega))))
          have f26 := gz_hi ((show 0 ≤ I6 f23_ (Int.toNat v4_8) ∧ I6 f23_ (Int.toNat v4_8) ≤ 8999 from gc_in2 hI6 R_f23 rfl rfl rfl))
          refine gv_iald hD rfl S_f23 rfl ⟨by decide, B_f23⟩ ⟨by (/-6-/first | (have o1 := gz_sh hv4_8; omega) | (simp only [gz_hd] at *; omega)), by (/-7-/first | (have o1 := gz_sh e3_8; have o2 := gz_sh e5_8; have o3 := gz_sh hv6_8_14; omega) | (simp only [gz_hd] at *; omega))⟩ (gc_iI S_f23 rfl) ?_
          show gv_X _ _ (89, [(4, .inl (v4_8 + 1)), (7, .inl s0_14), (0, .inr (.inr (some 61))), (2, .inl a2), (3, .inl a3), (5, .inl v5_8), (6, .inl v6_8)], [.inl (I6 f23_ (Int.toNat v4_8)), .inl v6_8, .inr (.inr (some f20_))], sh, gc_h sh I6 J7 A)
          refine gv_iast hD rfl S_f20 ⟨by decide, B_f20⟩ ⟨by (/-8-/first | (have o1 := gz_sh hv6_8; omega) | (simp only [gz_hd] at *; omega)), by (/-9-/first | (have o1 := gz_sh hv6_8_14; omega) | (simp only [gz_hd] at *; omega))⟩ ?_
          refine gc_st hI6 S_f20 rfl R_f20 (lo := 0) (hi := 8999) rfl rfl (by (/-10-/first | (have o1 := gz_sh f26; omega) | (simp only [gz_hd] at *; omega))) (by (/-11-/first | (have o1 := gz_sh f26; omega) | (simp only [gz_hd] at *; omega))) (fun I27 hI27 q28 p28 => ?_)
          have FI27 := gc_frs (W := fun q j => q = 65 ∨ q = 66) FI6 (show f20_ = 65 ∨ f20_ = 66 from by (/-12-/first | omega | (simp only [gz_hd] at *; omega))) p28
          have t29 := gz_hi (p28 61 8 (fun h => absurd h.1 (by (/-13-/first | omega | (simp only [gz_hd] at *; omega)))))
          have t30 := gz_hi (p28 61 9 (fun h => absurd h.1 (by (/-14-/first | omega | (simp only [gz_hd] at *; omega)))))
          have t31 := gz_hi (p28 61 10 (fun h => absurd h.1 (by (/-15-/first | omega | (simp only [gz_hd] at *; omega)))))
          have t32 := gz_hi (p28 48 6 (fun h => absurd h.1 (by (/-16-/first | omega | (simp only [gz_hd] at *; omega)))))
          have t33 := gz_hi (p28 61 2 (fun h => absurd h.1 (by (/-17-/first | omega | (simp only [gz_hd] at *; omega)))))
          have KOR_I27 : gc_OR I27 := gc_OR_st KOR_I6 p28 (by (/-18-/first | omega | (simp only [gz_hd] at *; omega))) (by (/-19-/first | (have o1 := gz_sh t25; omega) | (simp only [gz_hd] at *; omega)))
          show gv_X _ _ (90, [(4, .inl (v4_8 + 1)), (7, .inl s0_14), (0, .inr (.inr (some 61))), (2, .inl a2), (3, .inl a3), (5, .inl v5_8), (6, .inl v6_8)], [], sh, gc_h sh I27 J7 A)
          refine gv_run 2 true hD (pcₚ := 9) (lvₚ := [(6, .inl (v6_8 + 1)), (4, .inl (v4_8 + 1)), (7, .inl s0_14), (0, .inr (.inr (some 61))), (2, .inl a2), (3, .inl a3), (5, .inl v5_8)]) (stₚ := []) (hₚ := gc_h sh I27 J7 A) (C := ((True ∧ True) ∧ True)) rfl ⟨⟨trivial, trivial⟩, trivial⟩ ?_
          refine gv_pick [3, 4, 5, 1, 6, 0] rfl ?_
          exact ih9 I27 J7 (v4_8 + 1) v5_8 (v6_8 + 1) (by (/-20-/first | (have o1 := gz_sh e0_14; have o2 := gz_sh f10; have o3 := gz_sh f11; have o4 := gz_sh hv6_8; have o5 := gz_sh hv6_8_14; have o6 := gz_sh t30; have o7 := gz_sh t31; omega) | (simp only [gz_hd] at *; omega))) hI27 FI27 FJ7 KOR_I27 (by (/-21-/first | (and_intros; (omega); (omega); (have o1 := gz_sh ha3_14; omega); (omega); (have o1 := gz_sh hv4_8; omega); (have o1 := gz_sh e3_8; have o2 := gz_sh e5_8; have o3 := gz_sh hv6_8_14; omega); (have o1 := gz_sh hv5_8; omega); (have o1 := gz_sh hv5_8; omega); (have o1 := gz_sh hv6_8; omega); (have o1 := gz_sh hv6_8_14; omega); (have o1 := gz_sh e1_8; omega); (have o1 := gz_sh e0_14; omega); (have o1 := gz_sh e3_8; omega); (have o1 := gz_sh e4_8; omega); (have o1 := gz_sh e5_8; omega); (have o1 := gz_sh e0_14; have o2 := gz_sh e4_8; have o3 := gz_sh e5_8; omega); (have o1 := gz_sh e7_8; have o2 := gz_sh t29; omega); (have o1 := gz_sh e8_8; have o2 := gz_sh t33; omega)) | (simp only [gz_hd] at *; omega))) (gc_SR_nx e0_8 (by (/-22-/first | (have o1 := gz_sh hv6_8; omega) | (simp only [gz_hd] at *; omega))) p28 hq_f20_ (by (/-23-/first | (have o1 := gz_sh t25; omega) | (simp only [gz_hd] at *; omega))))
        · show gv_X _ _ (66, [(7, .inl s0_14), (0, .inr (.inr (some 61))), (2, .inl a2), (3, .inl a3), (4, .inl v4_8), (5, .inl v5_8), (6, .inl v6_8)], [.inl v6_8, .inr (.inr (some f20_))], sh, gc_h sh I6 J7 A)
          refine gv_run 1 true hD (pcₚ := 67) (lvₚ := [(7, .inl s0_14), (0, .inr (.inr (some 61))), (2, .inl a2), (3, .inl a3), (4, .inl v4_8), (5, .inl v5_8), (6, .inl v6_8)]) (stₚ := [.inr (.inr (some 61)), .inl v6_8, .inr (.inr (some f20_))]) (hₚ := gc_h sh I6 J7 A) (C := (True ∧ True)) rfl ⟨trivial, trivial⟩ ?_
          obtain ⟨f34_, hq_f34_, S_f34, R_f34, B_f34, D_f34⟩ := gc_sw (p := 61) (d := 4) (s := 1) (z := I6 61 9) (gc_b_72_9 hI6 (gz_sh R_61)) S_65 (gz_sh R_65) (gz_sh B_65) S_66 (gz_sh R_66) (gz_sh B_66)
          refine gv_get hD rfl rfl S_61 ⟨by decide, (gz_sh B_61)⟩ (gc_hS (n := 4) S_61 rfl hq_f34_) ?_
          show gv_X _ _ (70, [(7, .inl s0_14), (0, .inr (.inr (some 61))), (2, .inl a2), (3, .inl a3), (4, .inl v4_8), (5, .inl v5_8), (6, .inl v6_8)], [.inr (.inr (some f34_)), .inl v6_8, .inr (.inr (some f20_))], sh, gc_h sh I6 J7 A)
          refine gv_run 2 true hD (pcₚ := 75) (lvₚ := [(5, .inl (v5_8 + 1)), (7, .inl s0_14), (0, .inr (.inr (some 61))), (2, .inl a2), (3, .inl a3), (4, .inl v4_8), (6, .inl v6_8)]) (stₚ := [.inl v5_8, .inr (.inr (some f34_)), .inl v6_8, .inr (.inr (some f20_))]) (hₚ := gc_h sh I6 J7 A) (C := ((True ∧ True) ∧ True)) rfl ⟨⟨trivial, trivial⟩, trivial⟩ ?_
          have t36 := gz_hi (gc_OR_at (f := f34_) (i := Int.toNat v5_8) KOR_I6 hq_f34_ (by (/-24-/first | (have o1 := gz_sh e0_14; have o2 := gz_sh e7_8; have o3 := gz_sh ha3_14; have o4 := gz_sh hs0_14; omega) | (simp only [gz_hd] at *; omega))))
          have f37 := gz_hi ((show 0 ≤ I6 f34_ (Int.toNat v5_8) ∧ I6 f34_ (Int.toNat v5_8) ≤ 8999 from gc_in2 hI6 R_f34 rfl rfl rfl))
          refine gv_iald hD rfl S_f34 rfl ⟨by decide, B_f34⟩ ⟨by (/-25-/first | (have o1 := gz_sh hv5_8; omega) | (simp only [gz_hd] at *; omega)), by (/-26-/first | (have o1 := gz_sh e0_14; have o2 := gz_sh f1; have o3 := gz_sh hs0_14; omega) | (simp only [gz_hd] at *; omega))⟩ (gc_iI S_f34 rfl) ?_
          show gv_X _ _ (76, [(5, .inl (v5_8 + 1)), (7, .inl s0_14), (0, .inr (.inr (some 61))), (2, .inl a2), (3, .inl a3), (4, .inl v4_8), (6, .inl v6_8)], [.inl (I6 f34_ (Int.toNat v5_8)), .inl v6_8, .inr (.inr (some f20_))], sh, gc_h sh I6 J7 A)
          refine gv_run 1 true hD (pcₚ := 89) (lvₚ := [(5, .inl (v5_8 + 1)), (7, .inl s0_14), (0, .inr (.inr (some 61))), (2, .inl a2), (3, .inl a3), (4, .inl v4_8), (6, .inl v6_8)]) (stₚ := [.inl (I6 f34_ (Int.toNat v5_8)), .inl v6_8, .inr (.inr (some f20_))]) (hₚ := gc_h sh I6 J7 A) (C := (True ∧ True)) rfl ⟨trivial, trivial⟩ ?_
          refine gv_iast hD rfl S_f20 ⟨by decide, B_f20⟩ ⟨by (/-27-/first | (have o1 := gz_sh hv6_8; omega) | (simp only [gz_hd] at *; omega)), by (/-28-/first | (have o1 := gz_sh hv6_8_14; omega) | (simp only [gz_hd] at *; omega))⟩ ?_
          refine gc_st hI6 S_f20 rfl R_f20 (lo := 0) (hi := 8999) rfl rfl (by (/-29-/first | (have o1 := gz_sh f37; omega) | (simp only [gz_hd] at *; omega))) (by (/-30-/first | (have o1 := gz_sh f37; omega) | (simp only [gz_hd] at *; omega))) (fun I38 hI38 q39 p39 => ?_)
          have FI38 := gc_frs (W := fun q j => q = 65 ∨ q = 66) FI6 (show f20_ = 65 ∨ f20_ = 66 from by (/-31-/first | omega | (simp only [gz_hd] at *; omega))) p39
          have t40 := gz_hi (p39 61 8 (fun h => absurd h.1 (by (/-32-/first | omega | (simp only [gz_hd] at *; omega)))))
          have t41 := gz_hi (p39 61 9 (fun h => absurd h.1 (by (/-33-/first | omega | (simp only [gz_hd] at *; omega)))))
          have t42 := gz_hi (p39 61 10 (fun h => absurd h.1 (by (/-34-/first | omega | (simp only [gz_hd] at *; omega)))))
          have t43 := gz_hi (p39 48 6 (fun h => absurd h.1 (by (/-35-/first | omega | (simp only [gz_hd] at *; omega)))))
          have t44 := gz_hi (p39 61 2 (fun h => absurd h.1 (by (/-36-/first | omega | (simp only [gz_hd] at *; omega)))))
          have KOR_I38 : gc_OR I38 := gc_OR_st KOR_I6 p39 (by (/-37-/first | omega | (simp only [gz_hd] at *; omega))) (by (/-38-/first | (have o1 := gz_sh t36; omega) | (simp only [gz_hd] at *; omega)))
          show gv_X _ _ (90, [(5, .inl (v5_8 + 1)), (7, .inl s0_14), (0, .inr (.inr (some 61))), (2, .inl a2), (3, .inl a3), (4, .inl v4_8), (6, .inl v6_8)], [], sh, gc_h sh I38 J7 A)
          refine gv_run 2 true hD (pcₚ := 9) (lvₚ := [(6, .inl (v6_8 + 1)), (5, .inl (v5_8 + 1)), (7, .inl s0_14), (0, .inr (.inr (some 61))), (2, .inl a2), (3, .inl a3), (4, .inl v4_8)]) (stₚ := []) (hₚ := gc_h sh I38 J7 A) (C := ((True ∧ True) ∧ True)) rfl ⟨⟨trivial, trivial⟩, trivial⟩ ?_
          refine gv_pick [3, 4, 5, 6, 1, 0] rfl ?_
          exact ih9 I38 J7 v4_8 (v5_8 + 1) (v6_8 + 1) (by (/-39-/first | (have o1 := gz_sh e0_14; have o2 := gz_sh f10; have o3 := gz_sh f11; have o4 := gz_sh hs0_14; have o5 := gz_sh hv6_8; have o6 := gz_sh hv6_8_14; have o7 := gz_sh t41; have o8 := gz_sh t42; omega) | (simp only [gz_hd] at *; omega))) hI38 FI38 FJ7 KOR_I38 (by (/-40-/first | (and_intros; (omega); (omega); (have o1 := gz_sh ha3_14; omega); (omega); (have o1 := gz_sh hv4_8; omega); (have o1 := gz_sh hv4_8; omega); (have o1 := gz_sh hv5_8; omega); (have o1 := gz_sh e0_14; have o2 := gz_sh hs0_14; omega); (have o1 := gz_sh hv6_8; omega); (have o1 := gz_sh hv6_8_14; omega); (have o1 := gz_sh e1_8; omega); (have o1 := gz_sh e2_8; omega); (have o1 := gz_sh e3_8; omega); (have o1 := gz_sh e0_14; have o2 := gz_sh hs0_14; omega); (have o1 := gz_sh e5_8; omega); (have o1 := gz_sh e0_14; have o2 := gz_sh e2_8; have o3 := gz_sh e4_8; have o4 := gz_sh e5_8; omega); (have o1 := gz_sh e7_8; have o2 := gz_sh t40; omega); (have o1 := gz_sh e8_8; have o2 := gz_sh t44; omega)) | (simp only [gz_hd] at *; omega))) (gc_SR_nx e0_8 (by (/-41-/first | (have o1 := gz_sh hv6_8; omega) | (simp only [gz_hd] at *; omega))) p39 hq_f20_ (by (/-42-/first | (have o1 := gz_sh t36; omega) | (simp only [gz_hd] at *; omega))))
      have L48 : ((0 ≤ a2 ∧ a2 ≤ 9000) ∧ (1 ≤ a3 ∧ a3 ≤ 9000) ∧ (0 ≤ v4_8 ∧ v4_8 ≤ 9000) ∧ (0 ≤ v5_8 ∧ v5_8 ≤ 9000) ∧ (0 ≤ v6_8 ∧ v6_8 ≤ 8999) ∧ (v5_8 < a3) ∧ (I6 61 8 = I 61 8) ∧ (I6 61 2 = (t : Int))) → gv_X (gc_E5 ws0 tb 2 (yX5_merge, cX5_merge, 8, none) kX5_merge) (gv_Q cX5_merge none sh (fun r hₚ => (∃ (Iₚ : gr_I) (Jₚ : gr_J), hₚ = gc_h sh Iₚ Jₚ A ∧ gc_Inv ro Iₚ ∧ (∀ q j : Nat, (q = 65 ∨ q = 66) ∨ Iₚ q j = I q j) ∧ (∀ q j : Nat, (False) ∨ Jₚ q j = J q j) ∧ gc_OR Iₚ ∧ r = none ∧ (gc_SR a3 Iₚ)))) (48, [(0, .inr (.inr (some 61))), (2, .inl a2), (3, .inl a3), (4, .inl v4_8), (5, .inl v5_8), (6, .inl v6_8)], [], sh, gc_h sh I6 J7 A) := by
        intro m_45
        obtain ⟨ha2_45, ha3_45, hv4_8_45, hv5_8_45, hv6_8_45, e0_45, e1_45, e2_45⟩ := gz_h8 m_45
        refine gv_run 2 true hD (pcₚ := 53) (lvₚ := [(0, .inr (.inr (some 61))), (2, .inl a2), (3, .inl a3), (4, .inl v4_8), (5, .inl v5_8), (6, .inl v6_8)]) (stₚ := [.inl 1]) (hₚ := gc_h sh I6 J7 A) (C := ((True ∧ True) ∧ True)) rfl ⟨⟨trivial, trivial⟩, trivial⟩ ?_
        exact L53 1 (by (/-43-/first | (and_intros; (omega); (omega); (have o1 := gz_sh ha3_45; omega); (omega); (have o1 := gz_sh hv4_8; omega); (have o1 := gz_sh hv4_8; omega); (have o1 := gz_sh hv5_8; omega); (have o1 := gz_sh hv5_8; omega); (have o1 := gz_sh hv6_8; omega); (have o1 := gz_sh hv6_8_45; omega); (omega); (omega); (have o1 := gz_sh e0_45; omega); (have o1 := gz_sh e7_8; omega); (have o1 := gz_sh e8_8; omega)) | (simp only [gz_hd] at *; omega)))
      have L52 : ((1 ≤ a2 ∧ a2 ≤ 9000) ∧ (1 ≤ a3 ∧ a3 ≤ 9000) ∧ (0 ≤ v4_8 ∧ v4_8 ≤ 8999) ∧ (0 ≤ v5_8 ∧ v5_8 ≤ 9000) ∧ (0 ≤ v6_8 ∧ v6_8 ≤ 8999) ∧ (v4_8 < a2) ∧ (I6 61 8 = I 61 8) ∧ (I6 61 2 = (t : Int))) → gv_X (gc_E5 ws0 tb 2 (yX5_merge, cX5_merge, 8, none) kX5_merge) (gv_Q cX5_merge none sh (fun r hₚ => (∃ (Iₚ : gr_I) (Jₚ : gr_J), hₚ = gc_h sh Iₚ Jₚ A ∧ gc_Inv ro Iₚ ∧ (∀ q j : Nat, (q = 65 ∨ q = 66) ∨ Iₚ q j = I q j) ∧ (∀ q j : Nat, (False) ∨ Jₚ q j = J q j) ∧ gc_OR Iₚ ∧ r = none ∧ (gc_SR a3 Iₚ)))) (52, [(0, .inr (.inr (some 61))), (2, .inl a2), (3, .inl a3), (4, .inl v4_8), (5, .inl v5_8), (6, .inl v6_8)], [], sh, gc_h sh I6 J7 A) := by
        intro m_51
        obtain ⟨ha2_51, ha3_51, hv4_8_51, hv5_8_51, hv6_8_51, e0_51, e1_51, e2_51⟩ := gz_h8 m_51
        refine gv_run 1 true hD (pcₚ := 53) (lvₚ := [(0, .inr (.inr (some 61))), (2, .inl a2), (3, .inl a3), (4, .inl v4_8), (5, .inl v5_8), (6, .inl v6_8)]) (stₚ := [.inl 0]) (hₚ := gc_h sh I6 J7 A) (C := (True ∧ True)) rfl ⟨trivial, trivial⟩ ?_
        exact L53 0 (by (/-44-/first | (and_intros; (have o1 := gz_sh ha2_51; omega); (omega); (have o1 := gz_sh ha3_51; omega); (omega); (have o1 := gz_sh hv4_8; omega); (have o1 := gz_sh hv4_8_51; omega); (have o1 := gz_sh hv5_8; omega); (have o1 := gz_sh hv5_8; omega); (have o1 := gz_sh hv6_8; omega); (have o1 := gz_sh hv6_8_51; omega); (omega); (omega); (have o1 := gz_sh e0_51; omega); (have o1 := gz_sh e7_8; omega); (have o1 := gz_sh e8_8; omega)) | (simp only [gz_hd] at *; omega)))
      refine gv_run 2 true hD (pcₚ := 12) (lvₚ := [(0, .inr (.inr (some 61))), (2, .inl a2), (3, .inl a3), (4, .inl v4_8), (5, .inl v5_8), (6, .inl v6_8)]) (stₚ := [.inl a3, .inl v6_8]) (hₚ := gc_h sh I6 J7 A) (C := ((True ∧ True) ∧ True)) rfl ⟨⟨trivial, trivial⟩, trivial⟩ ?_
      refine gv_icmp_ge (t := 96) hD rfl rfl ⟨⟨by (/-45-/first | (have o1 := gz_sh hv6_8; omega) | (simp only [gz_hd] at *; omega)), by (/-46-/first | (have o1 := gz_sh hv6_8; omega) | (simp only [gz_hd] at *; omega))⟩, ⟨by (/-47-/first | omega | (simp only [gz_hd] at *; omega)), by (/-48-/first | omega | (simp only [gz_hd] at *; omega))⟩⟩ (fun c57 => ?_) (fun c57 => ?_)
      · show gv_X _ _ (96, [(0, .inr (.inr (some 61))), (2, .inl a2), (3, .inl a3), (4, .inl v4_8), (5, .inl v5_8), (6, .inl v6_8)], [], sh, gc_h sh I6 J7 A)
        exact gv_vret hD rfl ⟨I6, J7, rfl, hI6, FI6, FJ7, KOR_I6, ⟨rfl, (gc_SR_w e0_8 (by (/-49-/first | omega | (simp only [gz_hd] at *; omega))))⟩⟩
      · show gv_X _ _ (15, [(0, .inr (.inr (some 61))), (2, .inl a2), (3, .inl a3), (4, .inl v4_8), (5, .inl v5_8), (6, .inl v6_8)], [], sh, gc_h sh I6 J7 A)
        refine gv_run 2 true hD (pcₚ := 18) (lvₚ := [(0, .inr (.inr (some 61))), (2, .inl a2), (3, .inl a3), (4, .inl v4_8), (5, .inl v5_8), (6, .inl v6_8)]) (stₚ := [.inl a2, .inl v4_8]) (hₚ := gc_h sh I6 J7 A) (C := ((True ∧ True) ∧ True)) rfl ⟨⟨trivial, trivial⟩, trivial⟩ ?_
        refine gv_icmp_ge (t := 48) hD rfl rfl ⟨⟨by (/-50-/first | (have o1 := gz_sh hv4_8; omega) | (simp only [gz_hd] at *; omega)), by (/-51-/first | (have o1 := gz_sh hv4_8; omega) | (simp only [gz_hd] at *; omega))⟩, ⟨by (/-52-/first | omega | (simp only [gz_hd] at *; omega)), by (/-53-/first | omega | (simp only [gz_hd] at *; omega))⟩⟩ (fun c58 => ?_) (fun c58 => ?_)
        · show gv_X _ _ (48, [(0, .inr (.inr (some 61))), (2, .inl a2), (3, .inl a3), (4, .inl v4_8), (5, .inl v5_8), (6, .inl v6_8)], [], sh, gc_h sh I6 J7 A)
          exact L48 (by (/-54-/first | (and_intros; (omega); (omega); (have o1 := gz_sh e5_8; have o2 := gz_sh hv4_8; have o3 := gz_sh hv5_8; omega); (omega); (have o1 := gz_sh hv4_8; omega); (have o1 := gz_sh hv4_8; omega); (have o1 := gz_sh hv5_8; omega); (have o1 := gz_sh hv5_8; omega); (have o1 := gz_sh e5_8; have o2 := gz_sh hv5_8; omega); (omega); (have o1 := gz_sh e5_8; omega); (have o1 := gz_sh e7_8; omega); (have o1 := gz_sh e8_8; omega)) | (simp only [gz_hd] at *; omega)))
        · show gv_X _ _ (21, [(0, .inr (.inr (some 61))), (2, .inl a2), (3, .inl a3), (4, .inl v4_8), (5, .inl v5_8), (6, .inl v6_8)], [], sh, gc_h sh I6 J7 A)
          refine gv_run 2 true hD (pcₚ := 24) (lvₚ := [(0, .inr (.inr (some 61))), (2, .inl a2), (3, .inl a3), (4, .inl v4_8), (5, .inl v5_8), (6, .inl v6_8)]) (stₚ := [.inl a3, .inl v5_8]) (hₚ := gc_h sh I6 J7 A) (C := ((True ∧ True) ∧ True)) rfl ⟨⟨trivial, trivial⟩, trivial⟩ ?_
          refine gv_icmp_ge (t := 52) hD rfl rfl ⟨⟨by (/-55-/first | (have o1 := gz_sh hv5_8; omega) | (simp only [gz_hd] at *; omega)), by (/-56-/first | (have o1 := gz_sh hv5_8; omega) | (simp only [gz_hd] at *; omega))⟩, ⟨by (/-57-/first | omega | (simp only [gz_hd] at *; omega)), by (/-58-/first | omega | (simp only [gz_hd] at *; omega))⟩⟩ (fun c59 => ?_) (fun c59 => ?_)
          · show gv_X _ _ (52, [(0, .inr (.inr (some 61))), (2, .inl a2), (3, .inl a3), (4, .inl v4_8), (5, .inl v5_8), (6, .inl v6_8)], [], sh, gc_h sh I6 J7 A)
            exact L52 (by (/-59-/first | (and_intros; (have o1 := gz_sh e5_8; have o2 := gz_sh hv4_8; omega); (omega); (have o1 := gz_sh hv6_8; omega); (have o1 := gz_sh hv5_8; omega); (have o1 := gz_sh hv4_8; omega); (have o1 := gz_sh e5_8; omega); (have o1 := gz_sh hv5_8; omega); (have o1 := gz_sh hv5_8; omega); (have o1 := gz_sh hv6_8; omega); (have o1 := gz_sh hv5_8; omega); (have o1 := gz_sh e5_8; omega); (have o1 := gz_sh e7_8; omega); (have o1 := gz_sh e8_8; omega)) | (simp only [gz_hd] at *; omega)))
          · show gv_X _ _ (27, [(0, .inr (.inr (some 61))), (2, .inl a2), (3, .inl a3), (4, .inl v4_8), (5, .inl v5_8), (6, .inl v6_8)], [], sh, gc_h sh I6 J7 A)
            refine gv_run 2 true hD (pcₚ := 29) (lvₚ := [(0, .inr (.inr (some 61))), (2, .inl a2), (3, .inl a3), (4, .inl v4_8), (5, .inl v5_8), (6, .inl v6_8)]) (stₚ := [.inr (.inr (some 61)), .inr (.inr (some 61))]) (hₚ := gc_h sh I6 J7 A) (C := ((True ∧ True) ∧ True)) rfl ⟨⟨trivial, trivial⟩, trivial⟩ ?_
            obtain ⟨f60_, hq_f60_, S_f60, R_f60, B_f60, D_f60⟩ := gc_sw (p := 61) (d := 4) (s := 1) (z := I6 61 9) (gc_b_72_9 hI6 (gz_sh R_61)) S_65 (gz_sh R_65) (gz_sh B_65) S_66 (gz_sh R_66) (gz_sh B_66)
            refine gv_get hD rfl rfl S_61 ⟨by decide, (gz_sh B_61)⟩ (gc_hS (n := 4) S_61 rfl hq_f60_) ?_
            show gv_X _ _ (32, [(0, .inr (.inr (some 61))), (2, .inl a2), (3, .inl a3), (4, .inl v4_8), (5, .inl v5_8), (6, .inl v6_8)], [.inr (.inr (some f60_)), .inr (.inr (some 61))], sh, gc_h sh I6 J7 A)
            refine gv_run 1 true hD (pcₚ := 34) (lvₚ := [(0, .inr (.inr (some 61))), (2, .inl a2), (3, .inl a3), (4, .inl v4_8), (5, .inl v5_8), (6, .inl v6_8)]) (stₚ := [.inl v5_8, .inr (.inr (some f60_)), .inr (.inr (some 61))]) (hₚ := gc_h sh I6 J7 A) (C := (True ∧ True)) rfl ⟨trivial, trivial⟩ ?_
            have t62 := gz_hi (gc_OR_at (f := f60_) (i := Int.toNat v5_8) KOR_I6 hq_f60_ (by (/-60-/first | (have o1 := gz_sh e5_8; have o2 := gz_sh e7_8; have o3 := gz_sh hv6_8; omega) | (simp only [gz_hd] at *; omega))))
            have f63 := gz_hi ((show 0 ≤ I6 f60_ (Int.toNat v5_8) ∧ I6 f60_ (Int.toNat v5_8) ≤ 8999 from gc_in2 hI6 R_f60 rfl rfl rfl))
            refine gv_iald hD rfl S_f60 rfl ⟨by decide, B_f60⟩ ⟨by (/-61-/first | (have o1 := gz_sh hv5_8; omega) | (simp only [gz_hd] at *; omega)), by (/-62-/first | (have o1 := gz_sh f1; omega) | (simp only [gz_hd] at *; omega))⟩ (gc_iI S_f60 rfl) ?_
            show gv_X _ _ (35, [(0, .inr (.inr (some 61))), (2, .inl a2), (3, .inl a3), (4, .inl v4_8), (5, .inl v5_8), (6, .inl v6_8)], [.inl (I6 f60_ (Int.toNat v5_8)), .inr (.inr (some 61))], sh, gc_h sh I6 J7 A)
            refine gv_run 1 true hD (pcₚ := 36) (lvₚ := [(0, .inr (.inr (some 61))), (2, .inl a2), (3, .inl a3), (4, .inl v4_8), (5, .inl v5_8), (6, .inl v6_8)]) (stₚ := [.inr (.inr (some 61)), .inl (I6 f60_ (Int.toNat v5_8)), .inr (.inr (some 61))]) (hₚ := gc_h sh I6 J7 A) (C := (True ∧ True)) rfl ⟨trivial, trivial⟩ ?_
            obtain ⟨f64_, hq_f64_, S_f64, R_f64, B_f64, D_f64⟩ := gc_sw (p := 61) (d := 4) (s := 1) (z := I6 61 9) (gc_b_72_9 hI6 (gz_sh R_61)) S_65 (gz_sh R_65) (gz_sh B_65) S_66 (gz_sh R_66) (gz_sh B_66)
            refine gv_get hD rfl rfl S_61 ⟨by decide, (gz_sh B_61)⟩ (gc_hS (n := 4) S_61 rfl hq_f64_) ?_
            show gv_X _ _ (39, [(0, .inr (.inr (some 61))), (2, .inl a2), (3, .inl a3), (4, .inl v4_8), (5, .inl v5_8), (6, .inl v6_8)], [.inr (.inr (some f64_)), .inl (I6 f60_ (Int.toNat v5_8)), .inr (.inr (some 61))], sh, gc_h sh I6 J7 A)
            refine gv_run 1 true hD (pcₚ := 41) (lvₚ := [(0, .inr (.inr (some 61))), (2, .inl a2), (3, .inl a3), (4, .inl v4_8), (5, .inl v5_8), (6, .inl v6_8)]) (stₚ := [.inl v4_8, .inr (.inr (some f64_)), .inl (I6 f60_ (Int.toNat v5_8)), .inr (.inr (some 61))]) (hₚ := gc_h sh I6 J7 A) (C := (True ∧ True)) rfl ⟨trivial, trivial⟩ ?_
            have t66 := gz_hi (gc_OR_at (f := f64_) (i := Int.toNat v4_8) KOR_I6 hq_f64_ (by (/-63-/first | (have o1 := gz_sh e3_8; have o2 := gz_sh e5_8; have o3 := gz_sh e7_8; have o4 := gz_sh hv5_8; omega) | (simp only [gz_hd] at *; omega))))
            have f67 := gz_hi ((show 0 ≤ I6 f64_ (Int.toNat v4_8) ∧ I6 f64_ (Int.toNat v4_8) ≤ 8999 from gc_in2 hI6 R_f64 rfl rfl rfl))
            refine gv_iald hD rfl S_f64 rfl ⟨by decide, B_f64⟩ ⟨by (/-64-/first | (have o1 := gz_sh hv4_8; omega) | (simp only [gz_hd] at *; omega)), by (/-65-/first | omega | (simp only [gz_hd] at *; omega))⟩ (gc_iI S_f64 rfl) ?_
            show gv_X _ _ (42, [(0, .inr (.inr (some 61))), (2, .inl a2), (3, .inl a3), (4, .inl v4_8), (5, .inl v5_8), (6, .inl v6_8)], [.inl (I6 f64_ (Int.toNat v4_8)), .inl (I6 f60_ (Int.toNat v5_8)), .inr (.inr (some 61))], sh, gc_h sh I6 J7 A)
            obtain ⟨r68, h68, E68, P68⟩ := d_X5_compare (ws0 := ws0) (tb := tb) hws htb sh ro I6 J7 A hI6  t ((I6 f60_ (Int.toNat v5_8))) ((I6 f64_ (Int.toNat v4_8))) hb  h_t G_t  ⟨by (/-66-/first | (have o1 := gz_sh f63; omega) | (simp only [gz_hd] at *; omega)), by (/-67-/first | (have o1 := gz_sh f63; omega) | (simp only [gz_hd] at *; omega))⟩ ⟨by (/-68-/first | (have o1 := gz_sh f67; omega) | (simp only [gz_hd] at *; omega)), by (/-69-/first | (have o1 := gz_sh f67; omega) | (simp only [gz_hd] at *; omega))⟩ (gc_Ls_fr x0 ((FI6 t 13).resolve_left (by (/-70-/first | (have o1 := gz_sh B_t; have o2 := gz_sh B_t_10; have o3 := gz_sh B_t_13; have o4 := gz_sh B_t_14; have o5 := gz_sh B_t_15; have o6 := gz_sh B_t_16; have o7 := gz_sh B_t_17; have o8 := gz_sh B_t_17_1; have o9 := gz_sh B_t_17_2; have o10 := gz_sh B_t_17_3; have o11 := gz_sh B_t_17_4; have o12 := gz_sh B_t_17_5; have o13 := gz_sh B_t_17_6; have o14 := gz_sh B_t_17_7; have o15 := gz_sh B_t_5; have o16 := gz_sh B_t_6; have o17 := gz_sh B_t_9; have o18 := gz_sh e8_8; omega) | (simp only [gz_hd] at *; omega)))) (fun q hL hq d k hd => (FI6 (q + d) k).resolve_left (by have := gc_dj_LT hL h_t; (/-71-/first | omega | (simp only [gz_hd] at *; omega))))) (gc_WV_fr x1 ((FI6 48 6).resolve_left (fun h => h.elim (fun h => absurd h (by first | exact gz_ne rfl | decide)) (fun h => absurd h (by first | exact gz_ne rfl | decide)))) ((FI6 t 13).resolve_left (fun h => h.elim (fun h => absurd h (gz_sh N_t__65)) (fun h => absurd h (gz_sh N_t__66)))) (fun k => (FI6 54 k).resolve_left (fun h => h.elim (fun h => absurd h (by first | exact gz_ne rfl | decide)) (fun h => absurd h (by first | exact gz_ne rfl | decide))))) (by (/-72-/first | (have o1 := gz_sh t62; omega) | (simp only [gz_hd] at *; omega))) (by (/-73-/first | (have o1 := gz_sh t66; omega) | (simp only [gz_hd] at *; omega))) (by (/-74-/first | (have o1 := gz_sh e8_8; omega) | (simp only [gz_hd] at *; omega))) 
            obtain ⟨rfl, ⟨z68, rfl, q68⟩⟩ := P68
            replace q68 := gz_hi q68
            refine gv_callV hD rfl (As := [.inl (I6 f60_ (Int.toNat v5_8)), .inl (I6 f64_ (Int.toNat v4_8))]) (st := []) rfl (gz_sh B_61) S_61 rfl (gc_lV5 hws rfl) (Nat.le_of_ble_eq_true rfl) (gz_Ev_mono (d := 2) (by decide) E68) ?_
            show gv_X _ _ (45, [(0, .inr (.inr (some 61))), (2, .inl a2), (3, .inl a3), (4, .inl v4_8), (5, .inl v5_8), (6, .inl v6_8)], [.inl z68], sh, gc_h sh I6 J7 A)
            refine gv_if_ge (t := 52) hD rfl rfl ⟨by (/-75-/first | (have o1 := gz_sh q68; omega) | (simp only [gz_hd] at *; omega)), by (/-76-/first | (have o1 := gz_sh q68; omega) | (simp only [gz_hd] at *; omega))⟩ (fun c69 => ?_) (fun c69 => ?_)
            · show gv_X _ _ (52, [(0, .inr (.inr (some 61))), (2, .inl a2), (3, .inl a3), (4, .inl v4_8), (5, .inl v5_8), (6, .inl v6_8)], [], sh, gc_h sh I6 J7 A)
              exact L52 (by (/-77-/first | (and_intros; (have o1 := gz_sh hv4_8; omega); (omega); (have o1 := gz_sh hv6_8; omega); (omega); (have o1 := gz_sh hv4_8; omega); (omega); (have o1 := gz_sh hv5_8; omega); (have o1 := gz_sh hv5_8; omega); (have o1 := gz_sh hv6_8; omega); (omega); (omega); (have o1 := gz_sh e7_8; omega); (have o1 := gz_sh e8_8; omega)) | (simp only [gz_hd] at *; omega)))
            · show gv_X _ _ (48, [(0, .inr (.inr (some 61))), (2, .inl a2), (3, .inl a3), (4, .inl v4_8), (5, .inl v5_8), (6, .inl v6_8)], [], sh, gc_h sh I6 J7 A)
              exact L48 (by (/-78-/first | (and_intros; (omega); (omega); (have o1 := gz_sh hv6_8; omega); (omega); (have o1 := gz_sh hv4_8; omega); (have o1 := gz_sh hv4_8; omega); (have o1 := gz_sh hv5_8; omega); (have o1 := gz_sh hv5_8; omega); (have o1 := gz_sh hv6_8; omega); (omega); (omega); (have o1 := gz_sh e7_8; omega); (have o1 := gz_sh e8_8; omega)) | (simp only [gz_hd] at *; omega)))
  refine gv_run 6 true hD (pcₚ := 9) (lvₚ := [(6, .inl a1), (5, .inl a2), (4, .inl a1), (0, .inr (.inr (some 61))), (1, .inl a1), (2, .inl a2), (3, .inl a3)]) (stₚ := []) (hₚ := gc_h sh I J A) (C := ((((((True ∧ True) ∧ True) ∧ True) ∧ True) ∧ True) ∧ True)) rfl ⟨⟨⟨⟨⟨⟨trivial, trivial⟩, trivial⟩, trivial⟩, trivial⟩, trivial⟩, trivial⟩ ?_
  refine gv_pick [3, 5, 6, 2, 1, 0] rfl ?_
  exact L9 _ I J a1 a2 a1 (Nat.lt_succ_self _) hI FI FJ KOR_I (by (/-79-/first | (and_intros <;> omega) | (simp only [gz_hd] at *; omega))) x2
set_option maxHeartbeats 8000000 in
set_option maxRecDepth 100000 in
theorem d_X5_sortWays {ws0 : List Cond} {tb : String → gz_T} (hws : gc_Ws ws0) (htb : gc_tbs tb) (sh : gz_Sh) (ro : Nat → Nat) (I : gr_I) (J : gr_J) (A : gc_A) (hI : gc_Inv ro I) (t : Nat)  (hb : gc_Base sh ro A) (h_t : gc_isTongue sh ro A t) (G_t : 144 ≤ t)  (x0 : gc_Ls sh ro A t I) (x1 : gc_WV t I) (x2 : I 61 2 = (t : Int)) (KOR_I : gc_OR I) : ∃ r hₚ, gz_Ev ws0 tb 4 (yX5_sortWays, cX5_sortWays, 3, none) [.inr (.inr (some 61))] sh (gc_h sh I J A) r sh hₚ 0 0 ∧ (∃ (Iₚ : gr_I) (Jₚ : gr_J), hₚ = gc_h sh Iₚ Jₚ A ∧ gc_Inv ro Iₚ ∧ (∀ q j : Nat, (q = 65 ∨ q = 66 ∨ (q = 61 ∧ j = 9) ∨ (q = 61 ∧ j = 10)) ∨ Iₚ q j = I q j) ∧ (∀ q j : Nat, (False) ∨ Jₚ q j = J q j) ∧ gc_OR Iₚ ∧ r = none) := by
  have FI : ∀ q j : Nat, (q = 65 ∨ q = 66 ∨ (q = 61 ∧ j = 9) ∨ (q = 61 ∧ j = 10)) ∨ I q j = I q j := fun _ _ => Or.inr rfl
  have FJ : ∀ q j : Nat, (False) ∨ J q j = J q j := fun _ _ => Or.inr rfl
  have B_61 := gz_hi (show 61 < 1000000 from by decide)
  have B_65 := gz_hi (show 65 < 1000000 from by decide)
  have B_66 := gz_hi (show 66 < 1000000 from by decide)
  have R_48 := gz_hi (show ro 48 = 49 from gc_bR_48 hb)
  have R_61 := gz_hi (show ro 61 = 72 from gc_bR_61 hb)
  have R_65 := gz_hi (show ro 65 = 51 from gc_bR_65 hb)
  have R_66 := gz_hi (show ro 66 = 51 from gc_bR_66 hb)
  have S_61 : sh[61]? = some (false, 5, 19) := gc_bS_61 hb
  have S_65 : sh[65]? = some (true, 1, 9000) := gc_bS_65 hb
  have S_66 : sh[66]? = some (true, 1, 9000) := gc_bS_66 hb
  obtain ⟨S_t, R_t, B_t, A_t_0, h_t_1, A_t_1, h_t_3, A_t_2, S_t_5, R_t_5, B_t_5, A_t_3, S_t_6, R_t_6, B_t_6, A_t_4, h_t_7, A_t_5, S_t_9, R_t_9, B_t_9, A_t_7, S_t_10, R_t_10, B_t_10, A_t_8, h_t_11, A_t_9, S_t_13, R_t_13, B_t_13, A_t_10, S_t_14, R_t_14, B_t_14, A_t_12, S_t_15, R_t_15, B_t_15, A_t_14, S_t_16, R_t_16, B_t_16, A_t_15, h_t_17⟩ := id h_t
  replace R_t := gz_hi R_t
  replace B_t := gz_hi B_t
  replace R_t_5 := gz_hi R_t_5
  replace B_t_5 := gz_hi B_t_5
  replace R_t_6 := gz_hi R_t_6
  replace B_t_6 := gz_hi B_t_6
  replace R_t_9 := gz_hi R_t_9
  replace B_t_9 := gz_hi B_t_9
  replace R_t_10 := gz_hi R_t_10
  replace B_t_10 := gz_hi B_t_10
  replace R_t_13 := gz_hi R_t_13
  replace B_t_13 := gz_hi B_t_13
  replace R_t_14 := gz_hi R_t_14
  replace B_t_14 := gz_hi B_t_14
  replace R_t_15 := gz_hi R_t_15
  replace B_t_15 := gz_hi B_t_15
  replace R_t_16 := gz_hi R_t_16
  replace B_t_16 := gz_hi B_t_16
  obtain ⟨S_t_1, R_t_1, B_t_1, A_t_1_0, S_t_1_1, R_t_1_1, B_t_1_1, Q0_t_1, Q1_t_1, Q2_t_1⟩ := id h_t_1
  replace R_t_1 := gz_hi R_t_1
  replace B_t_1 := gz_hi B_t_1
  replace R_t_1_1 := gz_hi R_t_1_1
  replace B_t_1_1 := gz_hi B_t_1_1
  obtain ⟨S_t_3, R_t_3, B_t_3, A_t_3_0, S_t_3_1, R_t_3_1, B_t_3_1, Q0_t_3, Q1_t_3, Q2_t_3⟩ := id h_t_3
  replace R_t_3 := gz_hi R_t_3
  replace B_t_3 := gz_hi B_t_3
  replace R_t_3_1 := gz_hi R_t_3_1
  replace B_t_3_1 := gz_hi B_t_3_1
  obtain ⟨S_t_7, R_t_7, B_t_7, A_t_7_0, S_t_7_1, R_t_7_1, B_t_7_1, Q0_t_7, Q1_t_7, Q2_t_7⟩ := id h_t_7
  replace R_t_7 := gz_hi R_t_7
  replace B_t_7 := gz_hi B_t_7
  replace R_t_7_1 := gz_hi R_t_7_1
  replace B_t_7_1 := gz_hi B_t_7_1
  obtain ⟨S_t_11, R_t_11, B_t_11, A_t_11_0, S_t_11_1, R_t_11_1, B_t_11_1, Q0_t_11, Q1_t_11, Q2_t_11⟩ := id h_t_11
  replace R_t_11 := gz_hi R_t_11
  replace B_t_11 := gz_hi B_t_11
  replace R_t_11_1 := gz_hi R_t_11_1
  replace B_t_11_1 := gz_hi B_t_11_1
  obtain ⟨S_t_17, R_t_17, B_t_17, A_t_17_0, S_20, R_20, B_20, A_t_17_1, S_t_17_1, R_t_17_1, B_t_17_1, A_t_17_2, S_t_17_2, R_t_17_2, B_t_17_2, A_t_17_3, S_t_17_3, R_t_17_3, B_t_17_3, A_t_17_4, S_t_17_4, R_t_17_4, B_t_17_4, A_t_17_5, S_t_17_5, R_t_17_5, B_t_17_5, S_t_17_6, R_t_17_6, B_t_17_6, S_t_17_7, R_t_17_7, B_t_17_7⟩ := id h_t_17
  replace R_t_17 := gz_hi R_t_17
  replace B_t_17 := gz_hi B_t_17
  replace R_20 := gz_hi R_20
  replace B_20 := gz_hi B_20
  replace R_t_17_1 := gz_hi R_t_17_1
  replace B_t_17_1 := gz_hi B_t_17_1
  replace R_t_17_2 := gz_hi R_t_17_2
  replace B_t_17_2 := gz_hi B_t_17_2
  replace R_t_17_3 := gz_hi R_t_17_3
  replace B_t_17_3 := gz_hi B_t_17_3
  replace R_t_17_4 := gz_hi R_t_17_4
  replace B_t_17_4 := gz_hi B_t_17_4
  replace R_t_17_5 := gz_hi R_t_17_5
  replace B_t_17_5 := gz_hi B_t_17_5
  replace R_t_17_6 := gz_hi R_t_17_6
  replace B_t_17_6 := gz_hi B_t_17_6
  replace R_t_17_7 := gz_hi R_t_17_7
  replace B_t_17_7 := gz_hi B_t_17_7
  have hD : gv_D (gc_E5 ws0 tb 3 (yX5_sortWays, cX5_sortWays, 3, none) kX5_sortWays) := gq_of oX5_sortWays
  refine gc_ev5 (d := 3) (l := kX5_sortWays) (Po := fun r hₚ => (∃ (Iₚ : gr_I) (Jₚ : gr_J), hₚ = gc_h sh Iₚ Jₚ A ∧ gc_Inv ro Iₚ ∧ (∀ q j : Nat, (q = 65 ∨ q = 66 ∨ (q = 61 ∧ j = 9) ∨ (q = 61 ∧ j = 10)) ∨ Iₚ q j = I q j) ∧ (∀ q j : Nat, (False) ∨ Jₚ q j = J q j) ∧ gc_OR Iₚ ∧ r = none)) htb rfl (Nat.le_of_ble_eq_true rfl) ?_
  have N_t__65 := gz_hi (show ¬ (t = 65) from by (/-0-/first | (have o1 := gz_sh B_t; have o2 := gz_sh B_t_10; have o3 := gz_sh B_t_13; have o4 := gz_sh B_t_14; have o5 := gz_sh B_t_15; have o6 := gz_sh B_t_16; have o7 := gz_sh B_t_17; have o8 := gz_sh B_t_17_1; have o9 := gz_sh B_t_17_2; have o10 := gz_sh B_t_17_3; have o11 := gz_sh B_t_17_4; have o12 := gz_sh B_t_17_5; have o13 := gz_sh B_t_17_6; have o14 := gz_sh B_t_17_7; have o15 := gz_sh B_t_5; have o16 := gz_sh B_t_6; have o17 := gz_sh B_t_9; omega) | (simp only [gz_hd] at *; omega)))
  have N_t__66 := gz_hi (show ¬ (t = 66) from by (/-1-/first | (have o1 := gz_sh B_t; have o2 := gz_sh B_t_10; have o3 := gz_sh B_t_13; have o4 := gz_sh B_t_14; have o5 := gz_sh B_t_15; have o6 := gz_sh B_t_16; have o7 := gz_sh B_t_17; have o8 := gz_sh B_t_17_1; have o9 := gz_sh B_t_17_2; have o10 := gz_sh B_t_17_3; have o11 := gz_sh B_t_17_4; have o12 := gz_sh B_t_17_5; have o13 := gz_sh B_t_17_6; have o14 := gz_sh B_t_17_7; have o15 := gz_sh B_t_5; have o16 := gz_sh B_t_6; have o17 := gz_sh B_t_9; omega) | (simp only [gz_hd] at *; omega)))
  have f1 := gz_hi ((gc_b_72_8 hI (gz_sh R_61)))
  have L2 : ∀ (n9 : Nat) (I6 : gr_I) (J7 : gr_J) (v1_8 : Int), (40000 - v1_8).toNat < n9 → gc_Inv ro I6 → (∀ q j : Nat, (q = 65 ∨ q = 66 ∨ (q = 61 ∧ j = 9) ∨ (q = 61 ∧ j = 10)) ∨ I6 q j = I q j) → (∀ q j : Nat, (False) ∨ J7 q j = J q j) → gc_OR I6 → ((1 ≤ v1_8 ∧ v1_8 ≤ 17998) ∧ (I6 61 8 = I 61 8) ∧ (I6 61 2 = (t : Int))) → gv_X (gc_E5 ws0 tb 3 (yX5_sortWays, cX5_sortWays, 3, none) kX5_sortWays) (gv_Q cX5_sortWays none sh (fun r hₚ => (∃ (Iₚ : gr_I) (Jₚ : gr_J), hₚ = gc_h sh Iₚ Jₚ A ∧ gc_Inv ro Iₚ ∧ (∀ q j : Nat, (q = 65 ∨ q = 66 ∨ (q = 61 ∧ j = 9) ∨ (q = 61 ∧ j = 10)) ∨ Iₚ q j = I q j) ∧ (∀ q j : Nat, (False) ∨ Jₚ q j = J q j) ∧ gc_OR Iₚ ∧ r = none))) (2, [(0, .inr (.inr (some 61))), (1, .inl v1_8)], [], sh, gc_h sh I6 J7 A) := by
    intro n9
    induction n9 with
    | zero => intro I6 J7 v1_8 hn; (/-2-/first | omega | (simp only [gz_hd] at *; omega))
    | succ n9 ih2 =>
      intro I6 J7 v1_8 hn hI6 FI6 FJ7 KOR_I6 m_8
      obtain ⟨hv1_8, e0_8, e1_8⟩ := gz_h3 m_8
      have f11 := gz_hi ((gc_b_72_10 hI6 (gz_sh R_61)))
      have L12 : ∀ (n9 : Nat) (I14 : gr_I) (J15 : gr_J) (v2_16 : Int), (60000 - v2_16).toNat < n9 → gc_Inv ro I14 → (∀ q j : Nat, (q = 65 ∨ q = 66 ∨ (q = 61 ∧ j = 9) ∨ (q = 61 ∧ j = 10)) ∨ I14 q j = I q j) → (∀ q j : Nat, (False) ∨ J15 q j = J q j) → gc_OR I14 → ((1 ≤ v1_8 ∧ v1_8 ≤ 8999) ∧ (0 ≤ v2_16 ∧ v2_16 ≤ 26997) ∧ (v1_8 < I14 61 8) ∧ (I14 61 8 = I 61 8) ∧ (I14 61 2 = (t : Int))) → (∀ b : Int, b ≤ v2_16 → b ≤ I14 61 8 → gc_SR b I14) → gv_X (gc_E5 ws0 tb 3 (yX5_sortWays, cX5_sortWays, 3, none) kX5_sortWays) (gv_Q cX5_sortWays none sh (fun r hₚ => (∃ (Iₚ : gr_I) (Jₚ : gr_J), hₚ = gc_h sh Iₚ Jₚ A ∧ gc_Inv ro Iₚ ∧ (∀ q j : Nat, (q = 65 ∨ q = 66 ∨ (q = 61 ∧ j = 9) ∨ (q = 61 ∧ j = 10)) ∨ Iₚ q j = I q j) ∧ (∀ q j : Nat, (False) ∨ Jₚ q j = J q j) ∧ gc_OR Iₚ ∧ r = none))) (12, [(0, .inr (.inr (some 61))), (1, .inl v1_8), (2, .inl v2_16)], [], sh, gc_h sh I14 J15 A) := by
        intro n9
        induction n9 with
        | zero => intro I14 J15 v2_16 hn; (/-3-/first | omega | (simp only [gz_hd] at *; omega))
        | succ n9 ih12 =>
          intro I14 J15 v2_16 hn hI14 FI14 FJ15 KOR_I14 m_16 e0_16
          clear hv1_8 e0_8 e1_8 f11
          obtain ⟨hv1_8_16, hv2_16, e1_16, e2_16, e3_16⟩ := gz_h5 m_16
          have f18 := gz_hi ((gc_b_72_9 hI14 (gz_sh R_61)))
          have f19 := gz_hi ((gc_b_72_10 hI14 (gz_sh R_61)))
          refine gv_run 2 true hD (pcₚ := 14) (lvₚ := [(0, .inr (.inr (some 61))), (1, .inl v1_8), (2, .inl v2_16)]) (stₚ := [.inr (.inr (some 61)), .inl v2_16]) (hₚ := gc_h sh I14 J15 A) (C := ((True ∧ True) ∧ True)) rfl ⟨⟨trivial, trivial⟩, trivial⟩ ?_
          refine gv_get hD rfl rfl S_61 ⟨by decide, (gz_sh B_61)⟩ (gc_hI S_61 rfl) ?_
          show gv_X _ _ (17, [(0, .inr (.inr (some 61))), (1, .inl v1_8), (2, .inl v2_16)], [.inl (I14 61 8), .inl v2_16], sh, gc_h sh I14 J15 A)
          refine gv_icmp_ge (t := 56) hD rfl rfl ⟨⟨by (/-4-/first | (have o1 := gz_sh hv2_16; omega) | (simp only [gz_hd] at *; omega)), by (/-5-/first | (have o1 := gz_sh hv2_16; omega) | (simp only [gz_hd] at *; omega))⟩, ⟨by (/-6-/first | (have o1 := gz_sh e2_16; have o2 := gz_sh f1; omega) | (simp only [gz_hd] at *; omega)), by (/-7-/first | (have o1 := gz_sh e2_16; have o2 := gz_sh f1; omega) | (simp only [gz_hd] at *; omega))⟩⟩ (fun c23 => ?_) (fun c23 => ?_)
          · show gv_X _ _ (56, [(0, .inr (.inr (some 61))), (1, .inl v1_8), (2, .inl v2_16)], [], sh, gc_h sh I14 J15 A)
            refine gv_run 1 true hD (pcₚ := 57) (lvₚ := [(0, .inr (.inr (some 61))), (1, .inl v1_8), (2, .inl v2_16)]) (stₚ := [.inr (.inr (some 61))]) (hₚ := gc_h sh I14 J15 A) (C := (True ∧ True)) rfl ⟨trivial, trivial⟩ ?_
            obtain ⟨f24_, hq_f24_, S_f24, R_f24, B_f24, D_f24⟩ := gc_sw (p := 61) (d := 4) (s := 1) (z := I14 61 9) (gc_b_72_9 hI14 (gz_sh R_61)) S_65 (gz_sh R_65) (gz_sh B_65) S_66 (gz_sh R_66) (gz_sh B_66)
            refine gv_get hD rfl rfl S_61 ⟨by decide, (gz_sh B_61)⟩ (gc_hS (n := 4) S_61 rfl hq_f24_) ?_
            show gv_X _ _ (60, [(0, .inr (.inr (some 61))), (1, .inl v1_8), (2, .inl v2_16)], [.inr (.inr (some f24_))], sh, gc_h sh I14 J15 A)
            refine gv_run 3 true hD (pcₚ := 63) (lvₚ := [(2, .inr (.inr (some f24_))), (0, .inr (.inr (some 61))), (1, .inl v1_8)]) (stₚ := [.inr (.inr (some 61)), .inr (.inr (some 61))]) (hₚ := gc_h sh I14 J15 A) (C := (((True ∧ True) ∧ True) ∧ True)) rfl ⟨⟨⟨trivial, trivial⟩, trivial⟩, trivial⟩ ?_
            obtain ⟨f26_, hq_f26_, S_f26, R_f26, B_f26, D_f26⟩ := gc_sw (p := 61) (d := 4) (s := 1) (z := I14 61 10) (gc_b_72_10 hI14 (gz_sh R_61)) S_65 (gz_sh R_65) (gz_sh B_65) S_66 (gz_sh R_66) (gz_sh B_66)
            refine gv_get hD rfl rfl S_61 ⟨by decide, (gz_sh B_61)⟩ (gc_hS (n := 4) S_61 rfl hq_f26_) ?_
            show gv_X _ _ (66, [(2, .inr (.inr (some f24_))), (0, .inr (.inr (some 61))), (1, .inl v1_8)], [.inr (.inr (some f26_)), .inr (.inr (some 61))], sh, gc_h sh I14 J15 A)
            refine gv_put hD rfl rfl S_61 ⟨by decide, (gz_sh B_61)⟩ rfl trivial ?_
            refine gc_stS (n := 4) (b0 := (f26_ - (61 + 4)) / 1) hI14 S_61 rfl (by (/-8-/first | omega | (simp only [gz_hd] at *; omega))) (gz_sh R_61) (lo := 0) (hi := 1) rfl rfl (by (/-9-/first | omega | (simp only [gz_hd] at *; omega))) (by (/-10-/first | omega | (simp only [gz_hd] at *; omega))) (fun I28 hI28 q29 p29 => ?_)
            have FI28 := gc_frs (W := fun q j => q = 65 ∨ q = 66 ∨ (q = 61 ∧ j = 9) ∨ (q = 61 ∧ j = 10)) FI14 (Or.inr (Or.inr (Or.inl ⟨rfl, rfl⟩))) p29
            have t30 := gz_hi (p29 61 8 (fun h => absurd h.2 (by first | exact gz_ne rfl | decide)))
            have t31 := gz_hi (p29 61 10 (fun h => absurd h.2 (by first | exact gz_ne rfl | decide)))
            have t32 := gz_hi (p29 48 6 (fun h => absurd h.2 (by first | exact gz_ne rfl | decide)))
            have t33 := gz_hi (p29 61 2 (fun h => absurd h.2 (by first | exact gz_ne rfl | decide)))
            show gv_X _ _ (69, [(2, .inr (.inr (some f24_))), (0, .inr (.inr (some 61))), (1, .inl v1_8)], [], sh, gc_h sh I28 J15 A)
            refine gv_run 2 true hD (pcₚ := 71) (lvₚ := [(2, .inr (.inr (some f24_))), (0, .inr (.inr (some 61))), (1, .inl v1_8)]) (stₚ := [.inr (.inr (some f24_)), .inr (.inr (some 61))]) (hₚ := gc_h sh I28 J15 A) (C := ((True ∧ True) ∧ True)) rfl ⟨⟨trivial, trivial⟩, trivial⟩ ?_
            refine gv_put hD rfl rfl S_61 ⟨by decide, (gz_sh B_61)⟩ rfl trivial ?_
            refine gc_stS (n := 4) (b0 := (f24_ - (61 + 4)) / 1) hI28 S_61 rfl (by (/-11-/first | omega | (simp only [gz_hd] at *; omega))) (gz_sh R_61) (lo := 0) (hi := 1) rfl rfl (by (/-12-/first | omega | (simp only [gz_hd] at *; omega))) (by (/-13-/first | (have o1 := gz_sh f19; have o2 := gz_sh t31; omega) | (simp only [gz_hd] at *; omega))) (fun I39 hI39 q40 p40 => ?_)
            have FI39 := gc_frs (W := fun q j => q = 65 ∨ q = 66 ∨ (q = 61 ∧ j = 9) ∨ (q = 61 ∧ j = 10)) FI28 (Or.inr (Or.inr (Or.inr ⟨rfl, rfl⟩))) p40
            have t41 := gz_hi (p40 61 8 (fun h => absurd h.2 (by first | exact gz_ne rfl | decide)))
            have t42 := gz_hi (p40 61 9 (fun h => absurd h.2 (by first | exact gz_ne rfl | decide)))
            have t43 := gz_hi (p40 48 6 (fun h => absurd h.2 (by first | exact gz_ne rfl | decide)))
            have t44 := gz_hi (p40 61 2 (fun h => absurd h.2 (by first | exact gz_ne rfl | decide)))
            have KOR_I39 : gc_OR I39 := gc_OR_sw (b := I14 61 8) (e0_16 (I14 61 8) (by (/-14-/first | omega | (simp only [gz_hd] at *; omega))) (by (/-15-/first | omega | (simp only [gz_hd] at *; omega)))) (by (/-16-/first | (have o1 := gz_sh t30; have o2 := gz_sh t41; omega) | (simp only [gz_hd] at *; omega))) (by (/-17-/first | (have o1 := gz_sh f19; have o2 := gz_sh t31; have o3 := gz_sh t42; omega) | (simp only [gz_hd] at *; omega))) (by (/-18-/first | (have o1 := gz_sh t32; have o2 := gz_sh t43; omega) | (simp only [gz_hd] at *; omega))) (fun k => (p40 65 k (fun h => absurd h.1 (by first | exact gz_ne rfl | decide))).trans (p29 65 k (fun h => absurd h.1 (by first | exact gz_ne rfl | decide)))) (fun k => (p40 66 k (fun h => absurd h.1 (by first | exact gz_ne rfl | decide))).trans (p29 66 k (fun h => absurd h.1 (by first | exact gz_ne rfl | decide))))
            show gv_X _ _ (74, [(2, .inr (.inr (some f24_))), (0, .inr (.inr (some 61))), (1, .inl v1_8)], [], sh, gc_h sh I39 J15 A)
            refine gv_run 5 true hD (pcₚ := 2) (lvₚ := [(1, .inl (v1_8 * 2)), (2, .inr (.inr (some f24_))), (0, .inr (.inr (some 61)))]) (stₚ := []) (hₚ := gc_h sh I39 J15 A) (C := (((((True ∧ True) ∧ True) ∧ True) ∧ True) ∧ True)) rfl ⟨⟨⟨⟨⟨trivial, trivial⟩, trivial⟩, trivial⟩, trivial⟩, trivial⟩ ?_
            refine gv_pick [2, 0] rfl ?_
            exact ih2 I39 J15 (v1_8 * 2) (by (/-19-/first | (have o1 := gz_sh f18; have o2 := gz_sh f19; have o3 := gz_sh hv1_8_16; have o4 := gz_sh hv2_16; have o5 := gz_sh t31; have o6 := gz_sh t42; omega) | (simp only [gz_hd] at *; omega))) hI39 FI39 FJ15 KOR_I39 (by (/-20-/first | (and_intros; (have o1 := gz_sh hv1_8_16; omega); (have o1 := gz_sh hv1_8_16; omega); (have o1 := gz_sh e2_16; have o2 := gz_sh t30; have o3 := gz_sh t41; omega); (have o1 := gz_sh e3_16; have o2 := gz_sh t33; have o3 := gz_sh t44; omega)) | (simp only [gz_hd] at *; omega)))
          · show gv_X _ _ (20, [(0, .inr (.inr (some 61))), (1, .inl v1_8), (2, .inl v2_16)], [], sh, gc_h sh I14 J15 A)
            refine gv_run 6 true hD (pcₚ := 26) (lvₚ := [(0, .inr (.inr (some 61))), (1, .inl v1_8), (2, .inl v2_16)]) (stₚ := [.inr (.inr (some 61)), .inl (v2_16 + v1_8), .inl v2_16, .inr (.inr (some 61))]) (hₚ := gc_h sh I14 J15 A) (C := ((((((True ∧ True) ∧ True) ∧ True) ∧ True) ∧ True) ∧ True)) rfl ⟨⟨⟨⟨⟨⟨trivial, trivial⟩, trivial⟩, trivial⟩, trivial⟩, trivial⟩, trivial⟩ ?_
            refine gv_get hD rfl rfl S_61 ⟨by decide, (gz_sh B_61)⟩ (gc_hI S_61 rfl) ?_
            show gv_X _ _ (29, [(0, .inr (.inr (some 61))), (1, .inl v1_8), (2, .inl v2_16)], [.inl (I14 61 8), .inl (v2_16 + v1_8), .inl v2_16, .inr (.inr (some 61))], sh, gc_h sh I14 J15 A)
            obtain ⟨z51, E51, q51⟩ := gj_min (ws0 := ws0) (tb := tb) (sh := sh) (h := gc_h sh I14 J15 A) (v2_16 + v1_8) (I14 61 8) ⟨by (/-21-/first | (have o1 := gz_sh hv1_8_16; have o2 := gz_sh hv2_16; omega) | (simp only [gz_hd] at *; omega)), by (/-22-/first | (have o1 := gz_sh e1_16; have o2 := gz_sh e2_16; have o3 := gz_sh f1; omega) | (simp only [gz_hd] at *; omega))⟩ ⟨by (/-23-/first | (have o1 := gz_sh e2_16; have o2 := gz_sh f1; omega) | (simp only [gz_hd] at *; omega)), by (/-24-/first | (have o1 := gz_sh e2_16; have o2 := gz_sh f1; omega) | (simp only [gz_hd] at *; omega))⟩
            refine gv_callS hD rfl (As := [.inl (v2_16 + v1_8), .inl (I14 61 8)]) (st := [.inl v2_16, .inr (.inr (some 61))]) rfl (gc_lS5 hws rfl) (Nat.le_of_ble_eq_true rfl) (gz_Ev_mono (d := 1) (by decide) E51) ?_
            show gv_X _ _ (32, [(0, .inr (.inr (some 61))), (1, .inl v1_8), (2, .inl v2_16)], [.inl z51, .inl v2_16, .inr (.inr (some 61))], sh, gc_h sh I14 J15 A)
            refine gv_run 6 true hD (pcₚ := 38) (lvₚ := [(0, .inr (.inr (some 61))), (1, .inl v1_8), (2, .inl v2_16)]) (stₚ := [.inr (.inr (some 61)), .inl (v2_16 + (2 * v1_8)), .inl z51, .inl v2_16, .inr (.inr (some 61))]) (hₚ := gc_h sh I14 J15 A) (C := ((((((True ∧ True) ∧ True) ∧ True) ∧ True) ∧ True) ∧ True)) rfl ⟨⟨⟨⟨⟨⟨trivial, trivial⟩, trivial⟩, trivial⟩, trivial⟩, trivial⟩, trivial⟩ ?_
            refine gv_get hD rfl rfl S_61 ⟨by decide, (gz_sh B_61)⟩ (gc_hI S_61 rfl) ?_
            show gv_X _ _ (41, [(0, .inr (.inr (some 61))), (1, .inl v1_8), (2, .inl v2_16)], [.inl (I14 61 8), .inl (v2_16 + (2 * v1_8)), .inl z51, .inl v2_16, .inr (.inr (some 61))], sh, gc_h sh I14 J15 A)
            obtain ⟨z53, E53, q53⟩ := gj_min (ws0 := ws0) (tb := tb) (sh := sh) (h := gc_h sh I14 J15 A) ((v2_16 + (2 * v1_8))) (I14 61 8) ⟨by (/-25-/first | (have o1 := gz_sh hv1_8_16; have o2 := gz_sh hv2_16; omega) | (simp only [gz_hd] at *; omega)), by (/-26-/first | (have o1 := gz_sh e1_16; have o2 := gz_sh e2_16; have o3 := gz_sh f1; omega) | (simp only [gz_hd] at *; omega))⟩ ⟨by (/-27-/first | (have o1 := gz_sh e2_16; have o2 := gz_sh f1; omega) | (simp only [gz_hd] at *; omega)), by (/-28-/first | (have o1 := gz_sh e2_16; have o2 := gz_sh f1; omega) | (simp only [gz_hd] at *; omega))⟩
            refine gv_callS hD rfl (As := [.inl (v2_16 + (2 * v1_8)), .inl (I14 61 8)]) (st := [.inl z51, .inl v2_16, .inr (.inr (some 61))]) rfl (gc_lS5 hws rfl) (Nat.le_of_ble_eq_true rfl) (gz_Ev_mono (d := 1) (by decide) E53) ?_
            show gv_X _ _ (44, [(0, .inr (.inr (some 61))), (1, .inl v1_8), (2, .inl v2_16)], [.inl z53, .inl z51, .inl v2_16, .inr (.inr (some 61))], sh, gc_h sh I14 J15 A)
            obtain ⟨r54, h54, E54, P54⟩ := d_X5_merge (ws0 := ws0) (tb := tb) hws htb sh ro I14 J15 A hI14  t v2_16 z51 z53 hb  h_t G_t  ⟨by (/-29-/first | (have o1 := gz_sh hv2_16; omega) | (simp only [gz_hd] at *; omega)), by (/-30-/first | (have o1 := gz_sh e2_16; have o2 := gz_sh f1; omega) | (simp only [gz_hd] at *; omega))⟩ ⟨by (/-31-/first | (have o1 := gz_sh e1_16; have o2 := gz_sh hv1_8_16; have o3 := gz_sh hv2_16; omega) | (simp only [gz_hd] at *; omega)), by (/-32-/first | (have o1 := gz_sh e2_16; have o2 := gz_sh f1; omega) | (simp only [gz_hd] at *; omega))⟩ ⟨by (/-33-/first | (have o1 := gz_sh hv1_8_16; have o2 := gz_sh hv2_16; omega) | (simp only [gz_hd] at *; omega)), by (/-34-/first | (have o1 := gz_sh e2_16; have o2 := gz_sh f1; omega) | (simp only [gz_hd] at *; omega))⟩ (gc_Ls_fr x0 ((FI14 t 13).resolve_left (by (/-35-/first | (have o1 := gz_sh B_t; have o2 := gz_sh B_t_10; have o3 := gz_sh B_t_13; have o4 := gz_sh B_t_14; have o5 := gz_sh B_t_15; have o6 := gz_sh B_t_16; have o7 := gz_sh B_t_17; have o8 := gz_sh B_t_17_1; have o9 := gz_sh B_t_17_2; have o10 := gz_sh B_t_17_3; have o11 := gz_sh B_t_17_4; have o12 := gz_sh B_t_17_5; have o13 := gz_sh B_t_17_6; have o14 := gz_sh B_t_17_7; have o15 := gz_sh B_t_5; have o16 := gz_sh B_t_6; have o17 := gz_sh B_t_9; have o18 := gz_sh e3_16; omega) | (simp only [gz_hd] at *; omega)))) (fun q hL hq d k hd => (FI14 (q + d) k).resolve_left (by have := gc_dj_LT hL h_t; (/-36-/first | omega | (simp only [gz_hd] at *; omega))))) (gc_WV_fr x1 ((FI14 48 6).resolve_left (fun h => h.elim (fun h => absurd h (by first | exact gz_ne rfl | decide)) (fun h => h.elim (fun h => absurd h (by first | exact gz_ne rfl | decide)) (fun h => h.elim (fun h => absurd h.2 (by first | exact gz_ne rfl | decide)) (fun h => absurd h.2 (by first | exact gz_ne rfl | decide)))))) ((FI14 t 13).resolve_left (fun h => h.elim (fun h => absurd h (gz_sh N_t__65)) (fun h => h.elim (fun h => absurd h (gz_sh N_t__66)) (fun h => h.elim (fun h => absurd h.2 (by first | exact gz_ne rfl | decide)) (fun h => absurd h.2 (by first | exact gz_ne rfl | decide)))))) (fun k => (FI14 54 k).resolve_left (fun h => h.elim (fun h => absurd h (by first | exact gz_ne rfl | decide)) (fun h => h.elim (fun h => absurd h (by first | exact gz_ne rfl | decide)) (fun h => h.elim (fun h => absurd h.1 (by first | exact gz_ne rfl | decide)) (fun h => absurd h.1 (by first | exact gz_ne rfl | decide))))))) (e0_16 v2_16 (by (/-37-/first | omega | (simp only [gz_hd] at *; omega))) (by (/-38-/first | omega | (simp only [gz_hd] at *; omega)))) (by (/-39-/first | (and_intros; (have o1 := gz_sh hv1_8_16; omega); (have o1 := gz_sh hv1_8_16; omega); (omega)) | (simp only [gz_hd] at *; omega))) (by (/-40-/first | (have o1 := gz_sh e3_16; omega) | (simp only [gz_hd] at *; omega))) KOR_I14
            obtain ⟨I55, J56, rfl, hI55, g54, k54, KOR_I55, ⟨rfl, q54⟩⟩ := P54
            replace q54 := gz_hi q54
            have FI55 := gc_frc (W := fun q j => q = 65 ∨ q = 66 ∨ (q = 61 ∧ j = 9) ∨ (q = 61 ∧ j = 10)) (V := fun q j => q = 65 ∨ q = 66) FI14 (fun q j h => (h.elim (fun h => (Or.inl h)) (fun h => (Or.inr (Or.inl h))))) g54
            have t57 := gz_hi ((g54 61 8).resolve_left (fun h => h.elim (fun h => absurd h (by first | exact gz_ne rfl | decide)) (fun h => absurd h (by first | exact gz_ne rfl | decide))))
            have t61 := gz_hi ((g54 61 2).resolve_left (fun h => h.elim (fun h => absurd h (by first | exact gz_ne rfl | decide)) (fun h => absurd h (by first | exact gz_ne rfl | decide))))
            obtain rfl : J15 = J56 := funext fun q => funext fun j => ((k54 q j).resolve_left id).symm
            refine gv_callV hD rfl (As := [.inl v2_16, .inl z51, .inl z53]) (st := []) rfl (gz_sh B_61) S_61 rfl (gc_lV5 hws rfl) (Nat.le_of_ble_eq_true rfl) (gz_Ev_mono (d := 3) (by decide) E54) ?_
            show gv_X _ _ (47, [(0, .inr (.inr (some 61))), (1, .inl v1_8), (2, .inl v2_16)], [], sh, gc_h sh I55 J15 A)
            refine gv_run 7 true hD (pcₚ := 12) (lvₚ := [(2, .inl (v2_16 + (2 * v1_8))), (0, .inr (.inr (some 61))), (1, .inl v1_8)]) (stₚ := []) (hₚ := gc_h sh I55 J15 A) (C := (((((((True ∧ True) ∧ True) ∧ True) ∧ True) ∧ True) ∧ True) ∧ True)) rfl ⟨⟨⟨⟨⟨⟨⟨trivial, trivial⟩, trivial⟩, trivial⟩, trivial⟩, trivial⟩, trivial⟩, trivial⟩ ?_
            refine gv_pick [1, 2, 0] rfl ?_
            exact ih12 I55 J15 ((v2_16 + (2 * v1_8))) (by (/-41-/first | (have o1 := gz_sh e1_16; have o2 := gz_sh e2_16; have o3 := gz_sh f1; have o4 := gz_sh hv1_8_16; have o5 := gz_sh hv2_16; have o6 := gz_sh t57; omega) | (simp only [gz_hd] at *; omega))) hI55 FI55 FJ15 KOR_I55 (by (/-42-/first | (and_intros; (have o1 := gz_sh hv1_8_16; omega); (have o1 := gz_sh hv1_8_16; omega); (have o1 := gz_sh hv1_8_16; have o2 := gz_sh hv2_16; omega); (have o1 := gz_sh e1_16; have o2 := gz_sh e2_16; have o3 := gz_sh f1; omega); (have o1 := gz_sh e1_16; have o2 := gz_sh t57; omega); (have o1 := gz_sh e2_16; have o2 := gz_sh t57; omega); (have o1 := gz_sh e3_16; have o2 := gz_sh t61; omega)) | (simp only [gz_hd] at *; omega))) (fun b h1 h2 => gc_SR_w (gz_sh q54) (by (/-43-/first | (have o1 := gz_sh t57; omega) | (simp only [gz_hd] at *; omega))))
      refine gv_run 2 true hD (pcₚ := 4) (lvₚ := [(0, .inr (.inr (some 61))), (1, .inl v1_8)]) (stₚ := [.inr (.inr (some 61)), .inl v1_8]) (hₚ := gc_h sh I6 J7 A) (C := ((True ∧ True) ∧ True)) rfl ⟨⟨trivial, trivial⟩, trivial⟩ ?_
      refine gv_get hD rfl rfl S_61 ⟨by decide, (gz_sh B_61)⟩ (gc_hI S_61 rfl) ?_
      show gv_X _ _ (7, [(0, .inr (.inr (some 61))), (1, .inl v1_8)], [.inl (I6 61 8), .inl v1_8], sh, gc_h sh I6 J7 A)
      refine gv_icmp_ge (t := 81) hD rfl rfl ⟨⟨by (/-44-/first | (have o1 := gz_sh hv1_8; omega) | (simp only [gz_hd] at *; omega)), by (/-45-/first | (have o1 := gz_sh hv1_8; omega) | (simp only [gz_hd] at *; omega))⟩, ⟨by (/-46-/first | (have o1 := gz_sh e0_8; have o2 := gz_sh f1; omega) | (simp only [gz_hd] at *; omega)), by (/-47-/first | (have o1 := gz_sh e0_8; have o2 := gz_sh f1; omega) | (simp only [gz_hd] at *; omega))⟩⟩ (fun c68 => ?_) (fun c68 => ?_)
      · show gv_X _ _ (81, [(0, .inr (.inr (some 61))), (1, .inl v1_8)], [], sh, gc_h sh I6 J7 A)
        exact gv_vret hD rfl ⟨I6, J7, rfl, hI6, FI6, FJ7, KOR_I6, rfl⟩
      · show gv_X _ _ (10, [(0, .inr (.inr (some 61))), (1, .inl v1_8)], [], sh, gc_h sh I6 J7 A)
        refine gv_run 2 true hD (pcₚ := 12) (lvₚ := [(2, .inl 0), (0, .inr (.inr (some 61))), (1, .inl v1_8)]) (stₚ := []) (hₚ := gc_h sh I6 J7 A) (C := ((True ∧ True) ∧ True)) rfl ⟨⟨trivial, trivial⟩, trivial⟩ ?_
        refine gv_pick [1, 2, 0] rfl ?_
        exact L12 _ I6 J7 0 (Nat.lt_succ_self _) hI6 FI6 FJ7 KOR_I6 (by (/-48-/first | (and_intros; (have o1 := gz_sh hv1_8; omega); (have o1 := gz_sh e0_8; have o2 := gz_sh f1; omega); (omega); (omega); (omega); (have o1 := gz_sh e0_8; omega); (have o1 := gz_sh e1_8; omega)) | (simp only [gz_hd] at *; omega))) (fun b h1 h2 => ⟨by (/-49-/first | (have o1 := gz_sh f11; omega) | (simp only [gz_hd] at *; omega)), fun i hi => by (/-50-/first | omega | (simp only [gz_hd] at *; omega))⟩)
  refine gv_run 2 true hD (pcₚ := 2) (lvₚ := [(1, .inl 1), (0, .inr (.inr (some 61)))]) (stₚ := []) (hₚ := gc_h sh I J A) (C := ((True ∧ True) ∧ True)) rfl ⟨⟨trivial, trivial⟩, trivial⟩ ?_
  refine gv_pick [1, 0] rfl ?_
  exact L2 _ I J 1 (Nat.lt_succ_self _) hI FI FJ KOR_I (by (/-51-/first | (and_intros <;> omega) | (simp only [gz_hd] at *; omega)))
