set_option maxHeartbeats 8000000 in
set_option maxRecDepth 100000 in
theorem d_X12_bar_o {ws0 : List Cond} {tb : String → gz_T} (hws : gc_Ws ws0) (htb : gc_tbs tb) (sh : gz_Sh) (ro : Nat → Nat) (I : gr_I) (J : gr_J) (A : gc_A) (hI : gc_Inv ro I) (t : Nat) (σ : Nat → Int) (a1 : Int) (a2 : Int) (hb : gc_Base sh ro A) (h_t : gc_isTongue sh ro A t) (G_t : 144 ≤ t) (ha1 : 0 ≤ a1 ∧ a1 ≤ 95) (ha2 : 0 ≤ a2 ∧ a2 ≤ 1) (x0 : gc_Ls sh ro A t I) (x1 : gc_WV t I) (x2 : ∀ i q : Nat, (i : Int) < I t 13 → A (t + 16) i = some q → I q 8 = σ i) (x3 : gc_WA σ I) (x4 : gc_FN I) (x5 : I 49 (Int.toNat (I 48 10)) + I 50 (Int.toNat (I 48 10)) ≤ I 48 3) (x6 : I 61 4 = 0 ∨ (gc_LH σ (-1) I ∧ gc_TH (-1) I)) (x7 : I 61 3 = 1) (x8 : I 61 2 = (t : Int)) (x9 : a1 < I 4 1) : ∃ r hₚ, gz_Ev ws0 tb 4 (yX12_bar, cX12_bar, 3, (some .long)) [.inr (.inr (some 0)), .inl a1, .inl a2] sh (gc_h sh I J A) r sh hₚ 0 0 ∧ (∃ (Iₚ : gr_I) (Jₚ : gr_J), hₚ = gc_h sh Iₚ Jₚ A ∧ gc_Inv ro Iₚ ∧ (∀ q j : Nat, ((q = 61 ∧ j = 4) ∨ q = 62) ∨ Iₚ q j = I q j) ∧ (∀ q j : Nat, (q = 63) ∨ Jₚ q j = J q j) ∧ (∃ z : Int64, r = some (.inr (.inl z)) ∧ (Iₚ 61 4 = 0))) := by
  have FI : ∀ q j : Nat, ((q = 61 ∧ j = 4) ∨ q = 62) ∨ I q j = I q j := fun _ _ => Or.inr rfl
  have FJ : ∀ q j : Nat, (q = 63) ∨ J q j = J q j := fun _ _ => Or.inr rfl
  have A_0_0 : A 0 0 = some 1 := gc_bA_0_0 hb
  have A_0_7 : A 0 7 = some 61 := gc_bA_0_7 hb
  have A_1_1 : A 1 1 = some 4 := gc_bA_1_1 hb
  have B_0 := gz_hi (show 0 < 1000000 from by decide)
  have B_1 := gz_hi (show 1 < 1000000 from by decide)
  have B_4 := gz_hi (show 4 < 1000000 from by decide)
  have B_61 := gz_hi (show 61 < 1000000 from by decide)
  have R_4 := gz_hi (show ro 4 = 11 from gc_bR_4 hb)
  have R_61 := gz_hi (show ro 61 = 72 from gc_bR_61 hb)
  have S_0 : sh[0]? = some (false, 12, 17) := gc_bS_0 hb
  have S_1 : sh[1]? = some (false, 8, 21) := gc_bS_1 hb
  have S_4 : sh[4]? = some (false, 4, 2) := gc_bS_4 hb
  have S_61 : sh[61]? = some (false, 5, 19) := gc_bS_61 hb
  obtain ⟨S_t, R_t, B_t, A_t_0, h_t_1, A_t_1, h_t_3, A_t_2, S_t_5, R_t_5, B_t_5, A_t_3, S_t_6, R_t_6, B_t_6, A_t_4, h_t_7, A_t_5, S_t_9, R_t_9, B_t_9, A_t_7, S_t_10, R_t_10, B_t_10, A_t_8, h_t_11, A_t_9, S_t_13, R_t_13, B_t_13, A_t_10, S_t_14, R_t_14, B_t_14, A_t_12, S_t_15, R_t_15, B_t_15, A_t_14, S_t_16, R_t_16, B_t_16, A_t_15, h_t_17⟩ := id h_t
  replace R_t := gz_hi R_t
  replace B_t := gz_hi B_t
  replace R_t_5 := gz_hi R_t_5
  replace B_t_5 := gz_hi B_t_5
  replace R_t_6 := gz_hi R_t_6
  replace B_t_6 := gz_hi B_t_6
  replace R_t_9 := gz_hi R_t_9
  replace B_t_9 := gz_hi B_t_9
  replace R_t_10 := gz_hi R_t_10
  replace B_t_10 := gz_hi B_t_10
  replace R_t_13 := gz_hi R_t_13
  replace B_t_13 := gz_hi B_t_13
  replace R_t_14 := gz_hi R_t_14
  replace B_t_14 := gz_hi B_t_14
  replace R_t_15 := gz_hi R_t_15
  replace B_t_15 := gz_hi B_t_15
  replace R_t_16 := gz_hi R_t_16
  replace B_t_16 := gz_hi B_t_16
  obtain ⟨S_t_1, R_t_1, B_t_1, A_t_1_0, S_t_1_1, R_t_1_1, B_t_1_1, Q0_t_1, Q1_t_1, Q2_t_1⟩ := id h_t_1
  replace R_t_1 := gz_hi R_t_1
  replace B_t_1 := gz_hi B_t_1
  replace R_t_1_1 := gz_hi R_t_1_1
  replace B_t_1_1 := gz_hi B_t_1_1
  obtain ⟨S_t_3, R_t_3, B_t_3, A_t_3_0, S_t_3_1, R_t_3_1, B_t_3_1, Q0_t_3, Q1_t_3, Q2_t_3⟩ := id h_t_3
  replace R_t_3 := gz_hi R_t_3
  replace B_t_3 := gz_hi B_t_3
  replace R_t_3_1 := gz_hi R_t_3_1
  replace B_t_3_1 := gz_hi B_t_3_1
  obtain ⟨S_t_7, R_t_7, B_t_7, A_t_7_0, S_t_7_1, R_t_7_1, B_t_7_1, Q0_t_7, Q1_t_7, Q2_t_7⟩ := id h_t_7
  replace R_t_7 := gz_hi R_t_7
  replace B_t_7 := gz_hi B_t_7
  replace R_t_7_1 := gz_hi R_t_7_1
  replace B_t_7_1 := gz_hi B_t_7_1
  obtain ⟨S_t_11, R_t_11, B_t_11, A_t_11_0, S_t_11_1, R_t_11_1, B_t_11_1, Q0_t_11, Q1_t_11, Q2_t_11⟩ := id h_t_11
  replace R_t_11 := gz_hi R_t_11
  replace B_t_11 := gz_hi B_t_11
  replace R_t_11_1 := gz_hi R_t_11_1
  replace B_t_11_1 := gz_hi B_t_11_1
  obtain ⟨S_t_17, R_t_17, B_t_17, A_t_17_0, S_20, R_20, B_20, A_t_17_1, S_t_17_1, R_t_17_1, B_t_17_1, A_t_17_2, S_t_17_2, R_t_17_2, B_t_17_2, A_t_17_3, S_t_17_3, R_t_17_3, B_t_17_3, A_t_17_4, S_t_17_4, R_t_17_4, B_t_17_4, A_t_17_5, S_t_17_5, R_t_17_5, B_t_17_5, S_t_17_6, R_t_17_6, B_t_17_6, S_t_17_7, R_t_17_7, B_t_17_7⟩ := id h_t_17
  replace R_t_17 := gz_hi R_t_17
  replace B_t_17 := gz_hi B_t_17
  replace R_20 := gz_hi R_20
  replace B_20 := gz_hi B_20
  replace R_t_17_1 := gz_hi R_t_17_1
  replace B_t_17_1 := gz_hi B_t_17_1
  replace R_t_17_2 := gz_hi R_t_17_2
  replace B_t_17_2 := gz_hi B_t_17_2
  replace R_t_17_3 := gz_hi R_t_17_3
  replace B_t_17_3 := gz_hi B_t_17_3
  replace R_t_17_4 := gz_hi R_t_17_4
  replace B_t_17_4 := gz_hi B_t_17_4
  replace R_t_17_5 := gz_hi R_t_17_5
  replace B_t_17_5 := gz_hi B_t_17_5
  replace R_t_17_6 := gz_hi R_t_17_6
  replace B_t_17_6 := gz_hi B_t_17_6
  replace R_t_17_7 := gz_hi R_t_17_7
  replace B_t_17_7 := gz_hi B_t_17_7
  have hD : gv_D (gc_E12 ws0 tb 3 (yX12_bar, cX12_bar, 3, (some .long)) kX12_bar) := gq_of oX12_bar
  refine gc_ev12 (d := 3) (l := kX12_bar) (Po := fun r hₚ => (∃ (Iₚ : gr_I) (Jₚ : gr_J), hₚ = gc_h sh Iₚ Jₚ A ∧ gc_Inv ro Iₚ ∧ (∀ q j : Nat, ((q = 61 ∧ j = 4) ∨ q = 62) ∨ Iₚ q j = I q j) ∧ (∀ q j : Nat, (q = 63) ∨ Jₚ q j = J q j) ∧ (∃ z : Int64, r = some (.inr (.inl z)) ∧ (Iₚ 61 4 = 0)))) htb rfl (Nat.le_of_ble_eq_true rfl) ?_
  refine gv_run 1 true hD (pcₚ := 1) (lvₚ := [(0, .inr (.inr (some 0))), (1, .inl a1), (2, .inl a2)]) (stₚ := [.inl a1]) (hₚ := gc_h sh I J A) (C := (True ∧ True)) rfl ⟨trivial, trivial⟩ ?_
  refine gv_if_lt (t := 18) hD rfl rfl ⟨by (/-0-/first | omega | (simp only [gz_hd] at *; omega)), by (/-1-/first | omega | (simp only [gz_hd] at *; omega))⟩ (fun c4 => ?_) (fun c4 => ?_)
  · exfalso; (/-2-/first | omega | (simp only [gz_hd] at *; omega))
  · show gv_X _ _ (4, [(0, .inr (.inr (some 0))), (1, .inl a1), (2, .inl a2)], [], sh, gc_h sh I J A)
    refine gv_run 2 true hD (pcₚ := 6) (lvₚ := [(0, .inr (.inr (some 0))), (1, .inl a1), (2, .inl a2)]) (stₚ := [.inr (.inr (some 0)), .inl a1]) (hₚ := gc_h sh I J A) (C := ((True ∧ True) ∧ True)) rfl ⟨⟨trivial, trivial⟩, trivial⟩ ?_
    refine gv_get hD rfl rfl S_0 ⟨by decide, (gz_sh B_0)⟩ (gc_hA S_0 rfl A_0_0) ?_
    show gv_X _ _ (9, [(0, .inr (.inr (some 0))), (1, .inl a1), (2, .inl a2)], [.inr (.inr (some 1)), .inl a1], sh, gc_h sh I J A)
    refine gv_get hD rfl rfl S_1 ⟨by decide, (gz_sh B_1)⟩ (gc_hA S_1 rfl A_1_1) ?_
    show gv_X _ _ (12, [(0, .inr (.inr (some 0))), (1, .inl a1), (2, .inl a2)], [.inr (.inr (some 4)), .inl a1], sh, gc_h sh I J A)
    have f5 := gz_hi ((gc_b_11_1 hI (gz_sh R_4)))
    refine gv_get hD rfl rfl S_4 ⟨by decide, (gz_sh B_4)⟩ (gc_hI S_4 rfl) ?_
    show gv_X _ _ (15, [(0, .inr (.inr (some 0))), (1, .inl a1), (2, .inl a2)], [.inl (I 4 1), .inl a1], sh, gc_h sh I J A)
    refine gv_icmp_lt (t := 28) hD rfl rfl ⟨⟨by (/-3-/first | omega | (simp only [gz_hd] at *; omega)), by (/-4-/first | omega | (simp only [gz_hd] at *; omega))⟩, ⟨by (/-5-/first | (have o1 := gz_sh f5; omega) | (simp only [gz_hd] at *; omega)), by (/-6-/first | (have o1 := gz_sh f5; omega) | (simp only [gz_hd] at *; omega))⟩⟩ (fun c6 => ?_) (fun c6 => ?_)
    · show gv_X _ _ (28, [(0, .inr (.inr (some 0))), (1, .inl a1), (2, .inl a2)], [], sh, gc_h sh I J A)
      refine gv_run 1 true hD (pcₚ := 29) (lvₚ := [(0, .inr (.inr (some 0))), (1, .inl a1), (2, .inl a2)]) (stₚ := [.inr (.inr (some 0))]) (hₚ := gc_h sh I J A) (C := (True ∧ True)) rfl ⟨trivial, trivial⟩ ?_
      refine gv_get hD rfl rfl S_0 ⟨by decide, (gz_sh B_0)⟩ (gc_hA S_0 rfl A_0_7) ?_
      show gv_X _ _ (32, [(0, .inr (.inr (some 0))), (1, .inl a1), (2, .inl a2)], [.inr (.inr (some 61))], sh, gc_h sh I J A)
      refine gv_run 2 true hD (pcₚ := 34) (lvₚ := [(0, .inr (.inr (some 0))), (1, .inl a1), (2, .inl a2)]) (stₚ := [.inl a2, .inl a1, .inr (.inr (some 61))]) (hₚ := gc_h sh I J A) (C := ((True ∧ True) ∧ True)) rfl ⟨⟨trivial, trivial⟩, trivial⟩ ?_
      obtain ⟨r7, h7, E7, P7⟩ := d_X5_setBarred_z (ws0 := ws0) (tb := tb) hws htb sh ro I J A hI  a1 a2 hb   ⟨by (/-7-/first | omega | (simp only [gz_hd] at *; omega)), by (/-8-/first | omega | (simp only [gz_hd] at *; omega))⟩ ⟨by (/-9-/first | omega | (simp only [gz_hd] at *; omega)), by (/-10-/first | omega | (simp only [gz_hd] at *; omega))⟩  
      obtain ⟨I8, J9, rfl, hI8, g7, k7, ⟨rfl, q7⟩⟩ := P7
      replace q7 := gz_hi q7
      have FI8 := gc_frc (W := fun q j => (q = 61 ∧ j = 4) ∨ q = 62) (V := fun q j => (q = 61 ∧ j = 4) ∨ q = 62) FI (fun q j h => (h.elim (fun h => (Or.inl h)) (fun h => (Or.inr h)))) g7
      have t11 := gz_hi ((g7 61 2).resolve_left (fun h => h.elim (fun h => absurd h.2 (by first | exact gz_ne rfl | decide)) (fun h => absurd h (by first | exact gz_ne rfl | decide))))
      have f12 := gz_hi ((gc_b_72_4 hI8 (gz_sh R_61)))
      obtain rfl : J = J9 := funext fun q => funext fun j => ((k7 q j).resolve_left id).symm
      refine gv_callV hD rfl (As := [.inl a1, .inl a2]) (st := []) rfl (gz_sh B_61) S_61 rfl (gc_lV12 hws rfl) (Nat.le_of_ble_eq_true rfl) (gz_Ev_mono (d := 1) (by decide) E7) ?_
      show gv_X _ _ (37, [(0, .inr (.inr (some 0))), (1, .inl a1), (2, .inl a2)], [], sh, gc_h sh I8 J A)
      refine gv_run 1 true hD (pcₚ := 38) (lvₚ := [(0, .inr (.inr (some 0))), (1, .inl a1), (2, .inl a2)]) (stₚ := [.inr (.inr (some 0))]) (hₚ := gc_h sh I8 J A) (C := (True ∧ True)) rfl ⟨trivial, trivial⟩ ?_
      refine gv_get hD rfl rfl S_0 ⟨by decide, (gz_sh B_0)⟩ (gc_hA S_0 rfl A_0_7) ?_
      show gv_X _ _ (41, [(0, .inr (.inr (some 0))), (1, .inl a1), (2, .inl a2)], [.inr (.inr (some 61))], sh, gc_h sh I8 J A)
      obtain ⟨r13, h13, E13, P13⟩ := d_X5_total (ws0 := ws0) (tb := tb) hws htb sh ro I8 J A hI8  t  hb  h_t G_t   (gc_Ls_fr x0 (((g7 t 13).resolve_left (by (/-11-/first | (have o1 := gz_sh B_t; have o2 := gz_sh B_t_10; have o3 := gz_sh B_t_13; have o4 := gz_sh B_t_14; have o5 := gz_sh B_t_15; have o6 := gz_sh B_t_16; have o7 := gz_sh B_t_17; have o8 := gz_sh B_t_17_1; have o9 := gz_sh B_t_17_2; have o10 := gz_sh B_t_17_3; have o11 := gz_sh B_t_17_4; have o12 := gz_sh B_t_17_5; have o13 := gz_sh B_t_17_6; have o14 := gz_sh B_t_17_7; have o15 := gz_sh B_t_5; have o16 := gz_sh B_t_6; have o17 := gz_sh B_t_9; have o18 := gz_sh t11; omega) | (simp only [gz_hd] at *; omega))))) (fun q b2 b3 d k hd => by have b4 := gc_dj_LT b2 h_t; exact ((g7 (q + d) k).resolve_left (by (/-12-/first | omega | (simp only [gz_hd] at *; omega)))))) (gc_WV_fr x1 (((g7 48 6).resolve_left (by (/-13-/first | omega | (simp only [gz_hd] at *; omega))))) (((g7 t 13).resolve_left (by (/-14-/first | (have o1 := gz_sh B_t; have o2 := gz_sh B_t_10; have o3 := gz_sh B_t_13; have o4 := gz_sh B_t_14; have o5 := gz_sh B_t_15; have o6 := gz_sh B_t_16; have o7 := gz_sh B_t_17; have o8 := gz_sh B_t_17_1; have o9 := gz_sh B_t_17_2; have o10 := gz_sh B_t_17_3; have o11 := gz_sh B_t_17_4; have o12 := gz_sh B_t_17_5; have o13 := gz_sh B_t_17_6; have o14 := gz_sh B_t_17_7; have o15 := gz_sh B_t_5; have o16 := gz_sh B_t_6; have o17 := gz_sh B_t_9; have o18 := gz_sh t11; omega) | (simp only [gz_hd] at *; omega))))) (fun k => ((g7 54 k).resolve_left (by (/-15-/first | omega | (simp only [gz_hd] at *; omega)))))) (gc_FN_fr x4 (fun k => ((g7 49 k).resolve_left (by (/-16-/first | omega | (simp only [gz_hd] at *; omega))))) (fun k => ((g7 50 k).resolve_left (by (/-17-/first | omega | (simp only [gz_hd] at *; omega)))))) (by (/-18-/first | (have o1 := gz_sh t11; omega) | (simp only [gz_hd] at *; omega))) 
      obtain ⟨I14, J15, rfl, hI14, g13, k13, ⟨z13, rfl⟩⟩ := P13
      have FI14 := gc_frc (W := fun q j => (q = 61 ∧ j = 4) ∨ q = 62) (V := fun q j => False) FI8 (fun q j h => h.elim) g13
      have FJ15 := gc_frc (W := fun q j => q = 63) (V := fun q j => q = 63) FJ (fun q j h => h) k13
      have t16 := gz_hi ((g13 61 4).resolve_left id)
      refine gv_callV hD rfl (As := []) (st := []) rfl (gz_sh B_61) S_61 rfl (gc_lV12 hws rfl) (Nat.le_of_ble_eq_true rfl) (gz_Ev_mono (d := 3) (by decide) E13) ?_
      show gv_X _ _ (44, [(0, .inr (.inr (some 0))), (1, .inl a1), (2, .inl a2)], [.inr (.inl z13)], sh, gc_h sh I14 J15 A)
      exact gv_lret hD rfl ⟨I14, J15, rfl, hI14, FI14, FJ15, ⟨_, rfl, by (/-19-/first | (have o1 := gz_sh f12; have o2 := gz_sh q7; have o3 := gz_sh t16; omega) | (simp only [gz_hd] at *; omega))⟩⟩
    · show gv_X _ _ (18, [(0, .inr (.inr (some 0))), (1, .inl a1), (2, .inl a2)], [], sh, gc_h sh I J A)
      exfalso; (/-20-/first | omega | (simp only [gz_hd] at *; omega))
set_option maxHeartbeats 8000000 in
set_option maxRecDepth 100000 in
theorem d_X12_reading_o {ws0 : List Cond} {tb : String → gz_T} (hws : gc_Ws ws0) (htb : gc_tbs tb) (sh : gz_Sh) (ro : Nat → Nat) (I : gr_I) (J : gr_J) (A : gc_A) (hI : gc_Inv ro I) (t : Nat) (u : Nat) (σ : Nat → Int) (a1 : Int) (a2 : Int) (hb : gc_Base sh ro A) (h_t : gc_isTongue sh ro A t) (G_t : 144 ≤ t) (S_u : sh[u]? = some (true, 1, 60)) (R_u : ro u = 37) (B_u : u < 1000000) (ha1 : (-2147483648) ≤ a1 ∧ a1 ≤ 2147483647) (ha2 : 0 ≤ a2 ∧ a2 ≤ 7) (x0 : gc_Ls sh ro A t I) (x1 : gc_WV t I) (x2 : ∀ i q : Nat, (i : Int) < I t 13 → A (t + 16) i = some q → I q 8 = σ i) (x3 : gc_WA σ I) (x4 : gc_FN I) (x5 : I 49 (Int.toNat (I 48 10)) + I 50 (Int.toNat (I 48 10)) ≤ I 48 3) (x6 : I 61 4 = 0 ∨ (gc_LH σ (-1) I ∧ gc_TH (-1) I)) (x7 : I 61 3 = 1) (x8 : I 61 2 = (t : Int)) (x9 : ∀ k : Nat, (k : Int) < I 48 6 → I 12 (Int.toNat (gc_fn A I t k)) = gc_ws σ I k ∧ gc_fn A I t k < I 4 1) (x10 : ∀ i q : Nat, (i : Int) < I t 13 → A (t + 16) i = some q → ∀ a : Int, 0 ≤ a → a < I q 8 → 0 ≤ I (q + 6) (Int.toNat a) ∧ I (q + 6) (Int.toNat a) < I q 8) (x11 : A 114 (Int.toNat a2) = some u) (x12 : u = 115 + Int.toNat a2) : ∃ r hₚ, gz_Ev ws0 tb 10 (yX12_reading, cX12_reading, 4, (some .int)) [.inr (.inr (some 0)), .inl a1, .inl a2] sh (gc_h sh I J A) r sh hₚ 0 0 ∧ (∃ (Iₚ : gr_I) (Jₚ : gr_J), hₚ = gc_h sh Iₚ Jₚ A ∧ gc_Inv ro Iₚ ∧ (∀ q j : Nat, ((q = 61 ∧ j = 4) ∨ (q = 61 ∧ j = 8) ∨ (q = 61 ∧ j = 9) ∨ (q = 61 ∧ j = 10) ∨ (q = 61 ∧ j = 15) ∨ q = 64 ∨ q = 65 ∨ q = 66 ∨ q = 67 ∨ q = 68 ∨ q = 69 ∨ q = 70 ∨ q = 71 ∨ q = 72 ∨ q = 73 ∨ q = 123 ∨ q = u ∨ (q = 124 ∧ j = (Int.toNat a2))) ∨ Iₚ q j = I q j) ∧ (∀ q j : Nat, (False) ∨ Jₚ q j = J q j) ∧ (∃ z : Int, r = some (.inl z) ∧ (-2) ≤ z ∧ z ≤ 60 ∧ (gc_LH σ (-1) Iₚ) ∧ (gc_TH (-1) Iₚ) ∧ (Iₚ 61 4 = 1) ∧ (z ≤ 0 ∨ (gc_wtr Iₚ u z ∧ gc_rg u Iₚ z 0 (I 4 1 - 1) ∧ Iₚ 124 (Int.toNat a2) = z)) ∧ (0 < z ∨ ((∀ k, Iₚ u k = I u k) ∧ Iₚ 124 (Int.toNat a2) = I 124 (Int.toNat a2))))) := by
  have FI : ∀ q j : Nat, ((q = 61 ∧ j = 4) ∨ (q = 61 ∧ j = 8) ∨ (q = 61 ∧ j = 9) ∨ (q = 61 ∧ j = 10) ∨ (q = 61 ∧ j = 15) ∨ q = 64 ∨ q = 65 ∨ q = 66 ∨ q = 67 ∨ q = 68 ∨ q = 69 ∨ q = 70 ∨ q = 71 ∨ q = 72 ∨ q = 73 ∨ q = 123 ∨ q = u ∨ (q = 124 ∧ j = (Int.toNat a2))) ∨ I q j = I q j := fun _ _ => Or.inr rfl
  have FJ : ∀ q j : Nat, (False) ∨ J q j = J q j := fun _ _ => Or.inr rfl
  have A_0_11 : A 0 11 = some 114 := gc_bA_0_11 hb
  have A_0_12 : A 0 12 = some 124 := gc_bA_0_12 hb
  have A_0_7 : A 0 7 = some 61 := gc_bA_0_7 hb
  have B_0 := gz_hi (show 0 < 1000000 from by decide)
  have B_114 := gz_hi (show 114 < 1000000 from by decide)
  have B_123 := gz_hi (show 123 < 1000000 from by decide)
  have B_124 := gz_hi (show 124 < 1000000 from by decide)
  have B_61 := gz_hi (show 61 < 1000000 from by decide)
  have R_123 := gz_hi (show ro 123 = 37 from gc_bR_123 hb)
  have R_124 := gz_hi (show ro 124 = 68 from gc_bR_124 hb)
  have R_4 := gz_hi (show ro 4 = 11 from gc_bR_4 hb)
  have R_61 := gz_hi (show ro 61 = 72 from gc_bR_61 hb)
  have S_0 : sh[0]? = some (false, 12, 17) := gc_bS_0 hb
  have S_114 : sh[114]? = some (true, 7, 9) := gc_bS_114 hb
  have S_123 : sh[123]? = some (true, 1, 60) := gc_bS_123 hb
  have S_124 : sh[124]? = some (true, 1, 9) := gc_bS_124 hb
  have S_61 : sh[61]? = some (false, 5, 19) := gc_bS_61 hb
  obtain ⟨S_t, R_t, B_t, A_t_0, h_t_1, A_t_1, h_t_3, A_t_2, S_t_5, R_t_5, B_t_5, A_t_3, S_t_6, R_t_6, B_t_6, A_t_4, h_t_7, A_t_5, S_t_9, R_t_9, B_t_9, A_t_7, S_t_10, R_t_10, B_t_10, A_t_8, h_t_11, A_t_9, S_t_13, R_t_13, B_t_13, A_t_10, S_t_14, R_t_14, B_t_14, A_t_12, S_t_15, R_t_15, B_t_15, A_t_14, S_t_16, R_t_16, B_t_16, A_t_15, h_t_17⟩ := id h_t
  replace R_t := gz_hi R_t
  replace B_t := gz_hi B_t
  replace R_t_5 := gz_hi R_t_5
  replace B_t_5 := gz_hi B_t_5
  replace R_t_6 := gz_hi R_t_6
  replace B_t_6 := gz_hi B_t_6
  replace R_t_9 := gz_hi R_t_9
  replace B_t_9 := gz_hi B_t_9
  replace R_t_10 := gz_hi R_t_10
  replace B_t_10 := gz_hi B_t_10
  replace R_t_13 := gz_hi R_t_13
  replace B_t_13 := gz_hi B_t_13
  replace R_t_14 := gz_hi R_t_14
  replace B_t_14 := gz_hi B_t_14
  replace R_t_15 := gz_hi R_t_15
  replace B_t_15 := gz_hi B_t_15
  replace R_t_16 := gz_hi R_t_16
  replace B_t_16 := gz_hi B_t_16
  obtain ⟨S_t_1, R_t_1, B_t_1, A_t_1_0, S_t_1_1, R_t_1_1, B_t_1_1, Q0_t_1, Q1_t_1, Q2_t_1⟩ := id h_t_1
  replace R_t_1 := gz_hi R_t_1
  replace B_t_1 := gz_hi B_t_1
  replace R_t_1_1 := gz_hi R_t_1_1
  replace B_t_1_1 := gz_hi B_t_1_1
  obtain ⟨S_t_3, R_t_3, B_t_3, A_t_3_0, S_t_3_1, R_t_3_1, B_t_3_1, Q0_t_3, Q1_t_3, Q2_t_3⟩ := id h_t_3
  replace R_t_3 := gz_hi R_t_3
  replace B_t_3 := gz_hi B_t_3
  replace R_t_3_1 := gz_hi R_t_3_1
  replace B_t_3_1 := gz_hi B_t_3_1
  obtain ⟨S_t_7, R_t_7, B_t_7, A_t_7_0, S_t_7_1, R_t_7_1, B_t_7_1, Q0_t_7, Q1_t_7, Q2_t_7⟩ := id h_t_7
  replace R_t_7 := gz_hi R_t_7
  replace B_t_7 := gz_hi B_t_7
  replace R_t_7_1 := gz_hi R_t_7_1
  replace B_t_7_1 := gz_hi B_t_7_1
  obtain ⟨S_t_11, R_t_11, B_t_11, A_t_11_0, S_t_11_1, R_t_11_1, B_t_11_1, Q0_t_11, Q1_t_11, Q2_t_11⟩ := id h_t_11
  replace R_t_11 := gz_hi R_t_11
  replace B_t_11 := gz_hi B_t_11
  replace R_t_11_1 := gz_hi R_t_11_1
  replace B_t_11_1 := gz_hi B_t_11_1
  obtain ⟨S_t_17, R_t_17, B_t_17, A_t_17_0, S_20, R_20, B_20, A_t_17_1, S_t_17_1, R_t_17_1, B_t_17_1, A_t_17_2, S_t_17_2, R_t_17_2, B_t_17_2, A_t_17_3, S_t_17_3, R_t_17_3, B_t_17_3, A_t_17_4, S_t_17_4, R_t_17_4, B_t_17_4, A_t_17_5, S_t_17_5, R_t_17_5, B_t_17_5, S_t_17_6, R_t_17_6, B_t_17_6, S_t_17_7, R_t_17_7, B_t_17_7⟩ := id h_t_17
  replace R_t_17 := gz_hi R_t_17
  replace B_t_17 := gz_hi B_t_17
  replace R_20 := gz_hi R_20
  replace B_20 := gz_hi B_20
  replace R_t_17_1 := gz_hi R_t_17_1
  replace B_t_17_1 := gz_hi B_t_17_1
  replace R_t_17_2 := gz_hi R_t_17_2
  replace B_t_17_2 := gz_hi B_t_17_2
  replace R_t_17_3 := gz_hi R_t_17_3
  replace B_t_17_3 := gz_hi B_t_17_3
  replace R_t_17_4 := gz_hi R_t_17_4
  replace B_t_17_4 := gz_hi B_t_17_4
  replace R_t_17_5 := gz_hi R_t_17_5
  replace B_t_17_5 := gz_hi B_t_17_5
  replace R_t_17_6 := gz_hi R_t_17_6
  replace B_t_17_6 := gz_hi B_t_17_6
  replace R_t_17_7 := gz_hi R_t_17_7
  replace B_t_17_7 := gz_hi B_t_17_7
  have hD : gv_D (gc_E12 ws0 tb 9 (yX12_reading, cX12_reading, 4, (some .int)) kX12_reading) := gq_of oX12_reading
  refine gc_ev12 (d := 9) (l := kX12_reading) (Po := fun r hₚ => (∃ (Iₚ : gr_I) (Jₚ : gr_J), hₚ = gc_h sh Iₚ Jₚ A ∧ gc_Inv ro Iₚ ∧ (∀ q j : Nat, ((q = 61 ∧ j = 4) ∨ (q = 61 ∧ j = 8) ∨ (q = 61 ∧ j = 9) ∨ (q = 61 ∧ j = 10) ∨ (q = 61 ∧ j = 15) ∨ q = 64 ∨ q = 65 ∨ q = 66 ∨ q = 67 ∨ q = 68 ∨ q = 69 ∨ q = 70 ∨ q = 71 ∨ q = 72 ∨ q = 73 ∨ q = 123 ∨ q = u ∨ (q = 124 ∧ j = (Int.toNat a2))) ∨ Iₚ q j = I q j) ∧ (∀ q j : Nat, (False) ∨ Jₚ q j = J q j) ∧ (∃ z : Int, r = some (.inl z) ∧ (-2) ≤ z ∧ z ≤ 60 ∧ (gc_LH σ (-1) Iₚ) ∧ (gc_TH (-1) Iₚ) ∧ (Iₚ 61 4 = 1) ∧ (z ≤ 0 ∨ (gc_wtr Iₚ u z ∧ gc_rg u Iₚ z 0 (I 4 1 - 1) ∧ Iₚ 124 (Int.toNat a2) = z)) ∧ (0 < z ∨ ((∀ k, Iₚ u k = I u k) ∧ Iₚ 124 (Int.toNat a2) = I 124 (Int.toNat a2)))))) htb rfl (Nat.le_of_ble_eq_true rfl) ?_
  have N_48__u := gz_hi (show ¬ (48 = u) from by (/-0-/first | omega | (simp only [gz_hd] at *; omega)))
  have N_54__u := gz_hi (show ¬ (54 = u) from by (/-1-/first | (have o1 := gz_sh N_48__u; omega) | (simp only [gz_hd] at *; omega)))
  have N_55__u := gz_hi (show ¬ (55 = u) from by (/-2-/first | (have o1 := gz_sh N_48__u; have o2 := gz_sh N_54__u; omega) | (simp only [gz_hd] at *; omega)))
  have N_67__u := gz_hi (show ¬ (67 = u) from by (/-3-/first | (have o1 := gz_sh N_48__u; have o2 := gz_sh N_54__u; have o3 := gz_sh N_55__u; omega) | (simp only [gz_hd] at *; omega)))
  have N_69__u := gz_hi (show ¬ (69 = u) from by (/-4-/first | (have o1 := gz_sh N_48__u; have o2 := gz_sh N_54__u; have o3 := gz_sh N_55__u; have o4 := gz_sh N_67__u; omega) | (simp only [gz_hd] at *; omega)))
  have N_70__u := gz_hi (show ¬ (70 = u) from by (/-5-/first | (have o1 := gz_sh N_48__u; have o2 := gz_sh N_54__u; have o3 := gz_sh N_55__u; have o4 := gz_sh N_67__u; have o5 := gz_sh N_69__u; omega) | (simp only [gz_hd] at *; omega)))
  have N_61__u := gz_hi (show ¬ (61 = u) from by (/-6-/first | (have o1 := gz_sh N_48__u; have o2 := gz_sh N_54__u; have o3 := gz_sh N_55__u; have o4 := gz_sh N_67__u; have o5 := gz_sh N_69__u; have o6 := gz_sh N_70__u; omega) | (simp only [gz_hd] at *; omega)))
  have N_72__u := gz_hi (show ¬ (72 = u) from by (/-7-/first | (have o1 := gz_sh N_48__u; have o2 := gz_sh N_54__u; have o3 := gz_sh N_55__u; have o4 := gz_sh N_61__u; have o5 := gz_sh N_67__u; have o6 := gz_sh N_69__u; have o7 := gz_sh N_70__u; omega) | (simp only [gz_hd] at *; omega)))
  have N_4__u := gz_hi (show ¬ (4 = u) from by (/-8-/first | (have o1 := gz_sh N_48__u; have o2 := gz_sh N_54__u; have o3 := gz_sh N_55__u; have o4 := gz_sh N_61__u; have o5 := gz_sh N_67__u; have o6 := gz_sh N_69__u; have o7 := gz_sh N_70__u; have o8 := gz_sh N_72__u; omega) | (simp only [gz_hd] at *; omega)))
  refine gv_run 1 true hD (pcₚ := 1) (lvₚ := [(0, .inr (.inr (some 0))), (1, .inl a1), (2, .inl a2)]) (stₚ := [.inl a2]) (hₚ := gc_h sh I J A) (C := (True ∧ True)) rfl ⟨trivial, trivial⟩ ?_
  obtain ⟨r3, h3, E3, P3⟩ := d_X12_checkPlace (ws0 := ws0) (tb := tb) hws htb sh ro I J A hI  a2 hb   ⟨by (/-9-/first | omega | (simp only [gz_hd] at *; omega)), by (/-10-/first | omega | (simp only [gz_hd] at *; omega))⟩  
  obtain ⟨rfl, rfl⟩ := P3
  refine gv_callS hD rfl (As := [.inl a2]) (st := []) rfl (gc_lS12 hws rfl) (Nat.le_of_ble_eq_true rfl) (gz_Ev_mono (d := 1) (by decide) E3) ?_
  show gv_X _ _ (4, [(0, .inr (.inr (some 0))), (1, .inl a1), (2, .inl a2)], [], sh, gc_h sh I J A)
  refine gv_run 1 true hD (pcₚ := 5) (lvₚ := [(0, .inr (.inr (some 0))), (1, .inl a1), (2, .inl a2)]) (stₚ := [.inr (.inr (some 0))]) (hₚ := gc_h sh I J A) (C := (True ∧ True)) rfl ⟨trivial, trivial⟩ ?_
  refine gv_get hD rfl rfl S_0 ⟨by decide, (gz_sh B_0)⟩ (gc_hA S_0 rfl A_0_7) ?_
  show gv_X _ _ (8, [(0, .inr (.inr (some 0))), (1, .inl a1), (2, .inl a2)], [.inr (.inr (some 61))], sh, gc_h sh I J A)
  refine gv_run 2 true hD (pcₚ := 10) (lvₚ := [(0, .inr (.inr (some 0))), (1, .inl a1), (2, .inl a2)]) (stₚ := [.inr (.inr (some 0)), .inl a1, .inr (.inr (some 61))]) (hₚ := gc_h sh I J A) (C := ((True ∧ True) ∧ True)) rfl ⟨⟨trivial, trivial⟩, trivial⟩ ?_
  refine gv_get hD rfl rfl S_0 ⟨by decide, (gz_sh B_0)⟩ (gc_hA S_0 rfl A_0_11) ?_
  show gv_X _ _ (13, [(0, .inr (.inr (some 0))), (1, .inl a1), (2, .inl a2)], [.inr (.inr (some 114)), .inl a1, .inr (.inr (some 61))], sh, gc_h sh I J A)
  refine gv_run 1 true hD (pcₚ := 15) (lvₚ := [(0, .inr (.inr (some 0))), (1, .inl a1), (2, .inl a2)]) (stₚ := [.inl 8, .inr (.inr (some 114)), .inl a1, .inr (.inr (some 61))]) (hₚ := gc_h sh I J A) (C := (True ∧ True)) rfl ⟨trivial, trivial⟩ ?_
  refine gv_aald hD rfl S_114 ⟨by decide, by decide⟩ ⟨by decide, (gz_sh B_114)⟩ ⟨by (/-11-/first | omega | (simp only [gz_hd] at *; omega)), by (/-12-/first | omega | (simp only [gz_hd] at *; omega))⟩ ((gc_aA S_114 rfl).trans (show A 114 8 = some 123 from gc_bA hb rfl)) ?_
  show gv_X _ _ (16, [(0, .inr (.inr (some 0))), (1, .inl a1), (2, .inl a2)], [.inr (.inr (some 123)), .inl a1, .inr (.inr (some 61))], sh, gc_h sh I J A)
  obtain ⟨r5, h5, E5, P5⟩ := d_X5_spell_f (ws0 := ws0) (tb := tb) hws htb sh ro I J A hI  60 t σ a1 123 hb S_123 (gz_sh R_123) (gz_sh B_123) (by decide) h_t G_t  ⟨by (/-13-/first | omega | (simp only [gz_hd] at *; omega)), by (/-14-/first | omega | (simp only [gz_hd] at *; omega))⟩ x0 x1 x2 x3 x4 (by (/-15-/first | omega | (simp only [gz_hd] at *; omega))) x6 (by (/-16-/first | omega | (simp only [gz_hd] at *; omega))) x9 x10 (by (/-17-/first | (and_intros <;> omega) | (simp only [gz_hd] at *; omega))) (by (/-18-/first | omega | (simp only [gz_hd] at *; omega))) (by (/-19-/first | omega | (simp only [gz_hd] at *; omega))) 
  obtain ⟨I6, J7, rfl, hI6, g5, k5, ⟨z5, rfl, q5⟩⟩ := P5
  replace q5 := gz_hi q5
  have FI6 := gc_frc (W := fun q j => (q = 61 ∧ j = 4) ∨ (q = 61 ∧ j = 8) ∨ (q = 61 ∧ j = 9) ∨ (q = 61 ∧ j = 10) ∨ (q = 61 ∧ j = 15) ∨ q = 64 ∨ q = 65 ∨ q = 66 ∨ q = 67 ∨ q = 68 ∨ q = 69 ∨ q = 70 ∨ q = 71 ∨ q = 72 ∨ q = 73 ∨ q = 123 ∨ q = u ∨ (q = 124 ∧ j = (Int.toNat a2))) (V := fun q j => (q = 61 ∧ j = 4) ∨ (q = 61 ∧ j = 8) ∨ (q = 61 ∧ j = 9) ∨ (q = 61 ∧ j = 10) ∨ (q = 61 ∧ j = 15) ∨ q = 64 ∨ q = 65 ∨ q = 66 ∨ q = 67 ∨ q = 68 ∨ q = 69 ∨ q = 70 ∨ q = 71 ∨ q = 72 ∨ q = 73 ∨ q = 123) FI (fun q j h => (h.elim (fun h => (Or.inl h)) (fun h => (h.elim (fun h => (Or.inr (Or.inl h))) (fun h => (h.elim (fun h => (Or.inr (Or.inr (Or.inl h)))) (fun h => (h.elim (fun h => (Or.inr (Or.inr (Or.inr (Or.inl h))))) (fun h => (h.elim (fun h => (Or.inr (Or.inr (Or.inr (Or.inr (Or.inl h)))))) (fun h => (h.elim (fun h => (Or.inr (Or.inr (Or.inr (Or.inr (Or.inr (Or.inl h))))))) (fun h => (h.elim (fun h => (Or.inr (Or.inr (Or.inr (Or.inr (Or.inr (Or.inr (Or.inl h)))))))) (fun h => (h.elim (fun h => (Or.inr (Or.inr (Or.inr (Or.inr (Or.inr (Or.inr (Or.inr (Or.inl h))))))))) (fun h => (h.elim (fun h => (Or.inr (Or.inr (Or.inr (Or.inr (Or.inr (Or.inr (Or.inr (Or.inr (Or.inl h)))))))))) (fun h => (h.elim (fun h => (Or.inr (Or.inr (Or.inr (Or.inr (Or.inr (Or.inr (Or.inr (Or.inr (Or.inr (Or.inl h))))))))))) (fun h => (h.elim (fun h => (Or.inr (Or.inr (Or.inr (Or.inr (Or.inr (Or.inr (Or.inr (Or.inr (Or.inr (Or.inr (Or.inl h)))))))))))) (fun h => (h.elim (fun h => (Or.inr (Or.inr (Or.inr (Or.inr (Or.inr (Or.inr (Or.inr (Or.inr (Or.inr (Or.inr (Or.inr (Or.inl h))))))))))))) (fun h => (h.elim (fun h => (Or.inr (Or.inr (Or.inr (Or.inr (Or.inr (Or.inr (Or.inr (Or.inr (Or.inr (Or.inr (Or.inr (Or.inr (Or.inl h)))))))))))))) (fun h => (h.elim (fun h => (Or.inr (Or.inr (Or.inr (Or.inr (Or.inr (Or.inr (Or.inr (Or.inr (Or.inr (Or.inr (Or.inr (Or.inr (Or.inr (Or.inl h))))))))))))))) (fun h => (h.elim (fun h => (Or.inr (Or.inr (Or.inr (Or.inr (Or.inr (Or.inr (Or.inr (Or.inr (Or.inr (Or.inr (Or.inr (Or.inr (Or.inr (Or.inr (Or.inl h)))))))))))))))) (fun h => (Or.inr (Or.inr (Or.inr (Or.inr (Or.inr (Or.inr (Or.inr (Or.inr (Or.inr (Or.inr (Or.inr (Or.inr (Or.inr (Or.inr (Or.inr (Or.inl h))))))))))))))))))))))))))))))))))))))))))))))) g5
  obtain rfl : J = J7 := funext fun q => funext fun j => ((k5 q j).resolve_left id).symm
  have KLH_I6 : gc_LH σ (-1) I6 := (gz_sh q5).2.2.1
  have KTH_I6 : gc_TH (-1) I6 := (gz_sh q5).2.2.2.1
  refine gv_callV hD rfl (As := [.inl a1, .inr (.inr (some 123))]) (st := []) rfl (gz_sh B_61) S_61 rfl (gc_lV12 hws rfl) (Nat.le_of_ble_eq_true rfl) (gz_Ev_mono (d := 9) (by decide) E5) ?_
  show gv_X _ _ (19, [(0, .inr (.inr (some 0))), (1, .inl a1), (2, .inl a2)], [.inl z5], sh, gc_h sh I6 J A)
  refine gv_run 2 true hD (pcₚ := 21) (lvₚ := [(3, .inl z5), (0, .inr (.inr (some 0))), (1, .inl a1), (2, .inl a2)]) (stₚ := [.inl z5]) (hₚ := gc_h sh I6 J A) (C := ((True ∧ True) ∧ True)) rfl ⟨⟨trivial, trivial⟩, trivial⟩ ?_
  refine gv_if_le (t := 50) hD rfl rfl ⟨by (/-20-/first | (have o1 := gz_sh q5; omega) | (simp only [gz_hd] at *; omega)), by (/-21-/first | (have o1 := gz_sh q5; omega) | (simp only [gz_hd] at *; omega))⟩ (fun c10 => ?_) (fun c10 => ?_)
  · show gv_X _ _ (50, [(3, .inl z5), (0, .inr (.inr (some 0))), (1, .inl a1), (2, .inl a2)], [], sh, gc_h sh I6 J A)
    refine gv_run 1 true hD (pcₚ := 51) (lvₚ := [(3, .inl z5), (0, .inr (.inr (some 0))), (1, .inl a1), (2, .inl a2)]) (stₚ := [.inl z5]) (hₚ := gc_h sh I6 J A) (C := (True ∧ True)) rfl ⟨trivial, trivial⟩ ?_
    exact gv_iret hD rfl ⟨I6, J, rfl, hI6, FI6, FJ, ⟨_, rfl, by (/-22-/first | (have o1 := gz_sh q5; omega) | (simp only [gz_hd] at *; omega)), by (/-23-/first | omega | (simp only [gz_hd] at *; omega)), KLH_I6, KTH_I6, by (/-24-/first | (have o1 := gz_sh q5; omega) | (simp only [gz_hd] at *; omega)), (Or.inl (by (/-25-/first | omega | (simp only [gz_hd] at *; omega)))), (Or.inr ⟨fun k => ((g5 u k).resolve_left (by (/-26-/first | (have o1 := gz_sh N_48__u; have o2 := gz_sh N_4__u; have o3 := gz_sh N_54__u; have o4 := gz_sh N_55__u; have o5 := gz_sh N_61__u; have o6 := gz_sh N_67__u; have o7 := gz_sh N_69__u; have o8 := gz_sh N_70__u; have o9 := gz_sh N_72__u; have o10 := gz_sh q5; omega) | (simp only [gz_hd] at *; omega)))), ((g5 124 (Int.toNat a2)).resolve_left (by (/-27-/first | omega | (simp only [gz_hd] at *; omega))))⟩)⟩⟩
  · show gv_X _ _ (24, [(3, .inl z5), (0, .inr (.inr (some 0))), (1, .inl a1), (2, .inl a2)], [], sh, gc_h sh I6 J A)
    refine gv_run 1 true hD (pcₚ := 25) (lvₚ := [(3, .inl z5), (0, .inr (.inr (some 0))), (1, .inl a1), (2, .inl a2)]) (stₚ := [.inr (.inr (some 0))]) (hₚ := gc_h sh I6 J A) (C := (True ∧ True)) rfl ⟨trivial, trivial⟩ ?_
    refine gv_get hD rfl rfl S_0 ⟨by decide, (gz_sh B_0)⟩ (gc_hA S_0 rfl A_0_11) ?_
    show gv_X _ _ (28, [(3, .inl z5), (0, .inr (.inr (some 0))), (1, .inl a1), (2, .inl a2)], [.inr (.inr (some 114))], sh, gc_h sh I6 J A)
    refine gv_run 1 true hD (pcₚ := 30) (lvₚ := [(3, .inl z5), (0, .inr (.inr (some 0))), (1, .inl a1), (2, .inl a2)]) (stₚ := [.inl 8, .inr (.inr (some 114))]) (hₚ := gc_h sh I6 J A) (C := (True ∧ True)) rfl ⟨trivial, trivial⟩ ?_
    refine gv_aald hD rfl S_114 ⟨by decide, by decide⟩ ⟨by decide, (gz_sh B_114)⟩ ⟨by (/-28-/first | omega | (simp only [gz_hd] at *; omega)), by (/-29-/first | omega | (simp only [gz_hd] at *; omega))⟩ ((gc_aA S_114 rfl).trans (show A 114 8 = some 123 from gc_bA hb rfl)) ?_
    show gv_X _ _ (31, [(3, .inl z5), (0, .inr (.inr (some 0))), (1, .inl a1), (2, .inl a2)], [.inr (.inr (some 123))], sh, gc_h sh I6 J A)
    refine gv_run 2 true hD (pcₚ := 33) (lvₚ := [(3, .inl z5), (0, .inr (.inr (some 0))), (1, .inl a1), (2, .inl a2)]) (stₚ := [.inr (.inr (some 0)), .inl 0, .inr (.inr (some 123))]) (hₚ := gc_h sh I6 J A) (C := ((True ∧ True) ∧ True)) rfl ⟨⟨trivial, trivial⟩, trivial⟩ ?_
    refine gv_get hD rfl rfl S_0 ⟨by decide, (gz_sh B_0)⟩ (gc_hA S_0 rfl A_0_11) ?_
    show gv_X _ _ (36, [(3, .inl z5), (0, .inr (.inr (some 0))), (1, .inl a1), (2, .inl a2)], [.inr (.inr (some 114)), .inl 0, .inr (.inr (some 123))], sh, gc_h sh I6 J A)
    refine gv_run 1 true hD (pcₚ := 37) (lvₚ := [(3, .inl z5), (0, .inr (.inr (some 0))), (1, .inl a1), (2, .inl a2)]) (stₚ := [.inl a2, .inr (.inr (some 114)), .inl 0, .inr (.inr (some 123))]) (hₚ := gc_h sh I6 J A) (C := (True ∧ True)) rfl ⟨trivial, trivial⟩ ?_
    refine gv_aald hD rfl S_114 ⟨by decide, by decide⟩ ⟨by decide, (gz_sh B_114)⟩ ⟨by (/-30-/first | omega | (simp only [gz_hd] at *; omega)), by (/-31-/first | omega | (simp only [gz_hd] at *; omega))⟩ ((gc_aA S_114 rfl).trans x11) ?_
    show gv_X _ _ (38, [(3, .inl z5), (0, .inr (.inr (some 0))), (1, .inl a1), (2, .inl a2)], [.inr (.inr (some u)), .inl 0, .inr (.inr (some 123))], sh, gc_h sh I6 J A)
    refine gv_run 2 true hD (pcₚ := 40) (lvₚ := [(3, .inl z5), (0, .inr (.inr (some 0))), (1, .inl a1), (2, .inl a2)]) (stₚ := [.inl z5, .inl 0, .inr (.inr (some u)), .inl 0, .inr (.inr (some 123))]) (hₚ := gc_h sh I6 J A) (C := ((True ∧ True) ∧ True)) rfl ⟨⟨trivial, trivial⟩, trivial⟩ ?_
    refine gv_copy hD rfl (gc_lC12_256 hws) (Nat.le_of_ble_eq_true rfl) ⟨(gz_sh B_123), B_u⟩ S_123 S_u (by decide) ⟨by decide, by decide⟩ ⟨by (/-32-/first | omega | (simp only [gz_hd] at *; omega)), by (/-33-/first | omega | (simp only [gz_hd] at *; omega)), by (/-34-/first | omega | (simp only [gz_hd] at *; omega))⟩ (by (/-35-/first | (have o1 := gz_sh q5; omega) | (simp only [gz_hd] at *; omega))) (by (/-36-/first | (have o1 := gz_sh q5; omega) | (simp only [gz_hd] at *; omega))) (fun h => absurd h (by first | exact gz_ne rfl | decide)) ?_
    refine gc_cp hI6 S_123 S_u (by decide) (fun j hj => by have h9 := (gc_b_37 hI6 (gz_sh R_123) (Int.toNat 0 + j)); rw [R_u]; exact ⟨by show 0 ≤ _; (/-37-/first | omega | (simp only [gz_hd] at *; omega)), by show _ ≤ 95; (/-38-/first | omega | (simp only [gz_hd] at *; omega))⟩) (fun I14 hI14 p13 q13 => ?_)
    have FI14 := gc_frp (W := fun q j => (q = 61 ∧ j = 4) ∨ (q = 61 ∧ j = 8) ∨ (q = 61 ∧ j = 9) ∨ (q = 61 ∧ j = 10) ∨ (q = 61 ∧ j = 15) ∨ q = 64 ∨ q = 65 ∨ q = 66 ∨ q = 67 ∨ q = 68 ∨ q = 69 ∨ q = 70 ∨ q = 71 ∨ q = 72 ∨ q = 73 ∨ q = 123 ∨ q = u ∨ (q = 124 ∧ j = (Int.toNat a2))) (V := fun q j => q = u ∧ Int.toNat 0 ≤ j ∧ j < Int.toNat 0 + Int.toNat z5) FI6 (fun q j h => (Or.inr (Or.inr (Or.inr (Or.inr (Or.inr (Or.inr (Or.inr (Or.inr (Or.inr (Or.inr (Or.inr (Or.inr (Or.inr (Or.inr (Or.inr (Or.inr (Or.inl h.1)))))))))))))))))) p13
    have KLH_I14 := gc_LH_fr KLH_I6 (p13 48 6 (fun h => absurd h.1 (gz_sh N_48__u))) (p13 48 3 (fun h => absurd h.1 (gz_sh N_48__u))) (fun k => p13 54 k (fun h => absurd h.1 (gz_sh N_54__u))) (fun k => p13 55 k (fun h => absurd h.1 (gz_sh N_55__u))) (fun k => p13 67 k (fun h => absurd h.1 (gz_sh N_67__u))) (fun k => p13 69 k (fun h => absurd h.1 (gz_sh N_69__u))) (fun k => p13 70 k (fun h => absurd h.1 (gz_sh N_70__u)))
    have KTH_I14 := gc_TH_fr KTH_I6 (p13 61 15 (fun h => absurd h.1 (gz_sh N_61__u))) (p13 48 3 (fun h => absurd h.1 (gz_sh N_48__u))) (fun k => p13 67 k (fun h => absurd h.1 (gz_sh N_67__u))) (fun k => p13 72 k (fun h => absurd h.1 (gz_sh N_72__u)))
    have t16 := gz_hi (p13 61 4 (fun h => absurd h.1 (gz_sh N_61__u)))
    show gv_X _ _ (43, [(3, .inl z5), (0, .inr (.inr (some 0))), (1, .inl a1), (2, .inl a2)], [], sh, gc_h sh I14 J A)
    refine gv_run 1 true hD (pcₚ := 44) (lvₚ := [(3, .inl z5), (0, .inr (.inr (some 0))), (1, .inl a1), (2, .inl a2)]) (stₚ := [.inr (.inr (some 0))]) (hₚ := gc_h sh I14 J A) (C := (True ∧ True)) rfl ⟨trivial, trivial⟩ ?_
    refine gv_get hD rfl rfl S_0 ⟨by decide, (gz_sh B_0)⟩ (gc_hA S_0 rfl A_0_12) ?_
    show gv_X _ _ (47, [(3, .inl z5), (0, .inr (.inr (some 0))), (1, .inl a1), (2, .inl a2)], [.inr (.inr (some 124))], sh, gc_h sh I14 J A)
    refine gv_run 2 true hD (pcₚ := 49) (lvₚ := [(3, .inl z5), (0, .inr (.inr (some 0))), (1, .inl a1), (2, .inl a2)]) (stₚ := [.inl z5, .inl a2, .inr (.inr (some 124))]) (hₚ := gc_h sh I14 J A) (C := ((True ∧ True) ∧ True)) rfl ⟨⟨trivial, trivial⟩, trivial⟩ ?_
    refine gv_iast hD rfl S_124 ⟨by decide, (gz_sh B_124)⟩ ⟨by (/-39-/first | omega | (simp only [gz_hd] at *; omega)), by (/-40-/first | omega | (simp only [gz_hd] at *; omega))⟩ ?_
    refine gc_st hI14 S_124 rfl (gz_sh R_124) (lo := 0) (hi := 60) rfl rfl (by (/-41-/first | omega | (simp only [gz_hd] at *; omega))) (by (/-42-/first | (have o1 := gz_sh q5; omega) | (simp only [gz_hd] at *; omega))) (fun I20 hI20 q21 p21 => ?_)
    have FI20 := gc_frs (W := fun q j => (q = 61 ∧ j = 4) ∨ (q = 61 ∧ j = 8) ∨ (q = 61 ∧ j = 9) ∨ (q = 61 ∧ j = 10) ∨ (q = 61 ∧ j = 15) ∨ q = 64 ∨ q = 65 ∨ q = 66 ∨ q = 67 ∨ q = 68 ∨ q = 69 ∨ q = 70 ∨ q = 71 ∨ q = 72 ∨ q = 73 ∨ q = 123 ∨ q = u ∨ (q = 124 ∧ j = (Int.toNat a2))) FI14 (Or.inr (Or.inr (Or.inr (Or.inr (Or.inr (Or.inr (Or.inr (Or.inr (Or.inr (Or.inr (Or.inr (Or.inr (Or.inr (Or.inr (Or.inr (Or.inr (Or.inr ⟨rfl, rfl⟩))))))))))))))))) p21
    have t22 := gz_hi (p21 61 4 (fun h => absurd h.1 (by first | exact gz_ne rfl | decide)))
    have KLH_I20 := gc_LH_fr KLH_I14 (p21 48 6 (fun h => absurd h.1 (by first | exact gz_ne rfl | decide))) (p21 48 3 (fun h => absurd h.1 (by first | exact gz_ne rfl | decide))) (fun k => p21 54 k (fun h => absurd h.1 (by first | exact gz_ne rfl | decide))) (fun k => p21 55 k (fun h => absurd h.1 (by first | exact gz_ne rfl | decide))) (fun k => p21 67 k (fun h => absurd h.1 (by first | exact gz_ne rfl | decide))) (fun k => p21 69 k (fun h => absurd h.1 (by first | exact gz_ne rfl | decide))) (fun k => p21 70 k (fun h => absurd h.1 (by first | exact gz_ne rfl | decide)))
    have KTH_I20 := gc_TH_fr KTH_I14 (p21 61 15 (fun h => absurd h.1 (by first | exact gz_ne rfl | decide))) (p21 48 3 (fun h => absurd h.1 (by first | exact gz_ne rfl | decide))) (fun k => p21 67 k (fun h => absurd h.1 (by first | exact gz_ne rfl | decide))) (fun k => p21 72 k (fun h => absurd h.1 (by first | exact gz_ne rfl | decide)))
    show gv_X _ _ (50, [(3, .inl z5), (0, .inr (.inr (some 0))), (1, .inl a1), (2, .inl a2)], [], sh, gc_h sh I20 J A)
    refine gv_run 1 true hD (pcₚ := 51) (lvₚ := [(3, .inl z5), (0, .inr (.inr (some 0))), (1, .inl a1), (2, .inl a2)]) (stₚ := [.inl z5]) (hₚ := gc_h sh I20 J A) (C := (True ∧ True)) rfl ⟨trivial, trivial⟩ ?_
    exact gv_iret hD rfl ⟨I20, J, rfl, hI20, FI20, FJ, ⟨_, rfl, by (/-43-/first | omega | (simp only [gz_hd] at *; omega)), by (/-44-/first | (have o1 := gz_sh q5; omega) | (simp only [gz_hd] at *; omega)), KLH_I20, KTH_I20, by (/-45-/first | (have o1 := gz_sh q5; have o2 := gz_sh t16; have o3 := gz_sh t22; omega) | (simp only [gz_hd] at *; omega)), (Or.inr ⟨gh_wtr_cp ((gz_sh q5).2.2.2.2.2.1.resolve_left (by (/-46-/first | (have o1 := gz_sh q5; omega) | (simp only [gz_hd] at *; omega)))) (by (/-47-/first | omega | (simp only [gz_hd] at *; omega))) (fun k hk => ((p21 u k (fun h => absurd h.1 (by (/-48-/first | (have o1 := gz_sh N_48__u; have o2 := gz_sh N_4__u; have o3 := gz_sh N_54__u; have o4 := gz_sh N_55__u; have o5 := gz_sh N_61__u; have o6 := gz_sh N_67__u; have o7 := gz_sh N_69__u; have o8 := gz_sh N_70__u; have o9 := gz_sh N_72__u; have o10 := gz_sh q5; omega) | (simp only [gz_hd] at *; omega)))))).trans (by have h9 := q13 k (by (/-49-/first | omega | (simp only [gz_hd] at *; omega))); rw [show Int.toNat 0 + k = k from by (/-50-/first | omega | (simp only [gz_hd] at *; omega))] at h9; exact h9.trans (rfl))) (fun k => ((p21 12 k (fun h => absurd h.1 (by (/-51-/first | omega | (simp only [gz_hd] at *; omega))))).trans (p13 12 k (fun h => absurd h.1 (by (/-52-/first | (have o1 := gz_sh N_48__u; have o2 := gz_sh N_4__u; have o3 := gz_sh N_54__u; have o4 := gz_sh N_55__u; have o5 := gz_sh N_61__u; have o6 := gz_sh N_67__u; have o7 := gz_sh N_69__u; have o8 := gz_sh N_70__u; have o9 := gz_sh N_72__u; have o10 := gz_sh q5; omega) | (simp only [gz_hd] at *; omega))))))), gh_rg_cp ((gz_sh q5).2.2.2.2.2.2.resolve_left (by (/-53-/first | (have o1 := gz_sh q5; omega) | (simp only [gz_hd] at *; omega)))) (fun k hk => ((p21 u k (fun h => absurd h.1 (by (/-54-/first | (have o1 := gz_sh N_48__u; have o2 := gz_sh N_4__u; have o3 := gz_sh N_54__u; have o4 := gz_sh N_55__u; have o5 := gz_sh N_61__u; have o6 := gz_sh N_67__u; have o7 := gz_sh N_69__u; have o8 := gz_sh N_70__u; have o9 := gz_sh N_72__u; have o10 := gz_sh q5; omega) | (simp only [gz_hd] at *; omega)))))).trans (by have h9 := q13 k (by (/-55-/first | omega | (simp only [gz_hd] at *; omega))); rw [show Int.toNat 0 + k = k from by (/-56-/first | omega | (simp only [gz_hd] at *; omega))] at h9; exact h9.trans (rfl))), by (/-57-/first | omega | (simp only [gz_hd] at *; omega))⟩), (Or.inl (by (/-58-/first | omega | (simp only [gz_hd] at *; omega))))⟩⟩
