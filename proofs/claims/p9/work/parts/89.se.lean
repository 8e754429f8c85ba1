set_option maxHeartbeats 8000000 in
set_option maxRecDepth 100000 in
theorem d_X11_loadSizes {ws0 : List Cond} {tb : String → gz_T} (hws : gc_Ws ws0) (htb : gc_tbs tb) (sh : gz_Sh) (ro : Nat → Nat) (I : gr_I) (J : gr_J) (A : gc_A) (hI : gc_Inv ro I) (p : Nat) (m : Nat) (a1 : Nat) (a2 : Int) (hp : gc_isTongue sh ro A p) (S_a1 : sh[a1]? = some (true, 1, m)) (R_a1 : ro a1 = 70) (B_a1 : a1 < 1000000) (M_a1 : m < 2147483648) (ha2 : 0 ≤ a2 ∧ a2 ≤ 1000) (x0 : a2 + 7 ≤ m) (x1 : 144 ≤ p) (x2 : a1 < 144) (x3 : 0 ≤ I a1 (Int.toNat a2) ∧ I a1 (Int.toNat a2) ≤ 8) (x4 : 0 ≤ I a1 (Int.toNat (a2 + 1)) ∧ I a1 (Int.toNat (a2 + 1)) ≤ 48) (x5 : 0 ≤ I a1 (Int.toNat (a2 + 2)) ∧ I a1 (Int.toNat (a2 + 2)) ≤ 16) (x6 : 0 ≤ I a1 (Int.toNat (a2 + 3)) ∧ I a1 (Int.toNat (a2 + 3)) ≤ 24) (x7 : 0 ≤ I a1 (Int.toNat (a2 + 4)) ∧ I a1 (Int.toNat (a2 + 4)) ≤ 24) (x8 : 0 ≤ I a1 (Int.toNat (a2 + 5)) ∧ I a1 (Int.toNat (a2 + 5)) ≤ 64) (x9 : 0 ≤ I a1 (Int.toNat (a2 + 6)) ∧ I a1 (Int.toNat (a2 + 6)) ≤ 384) : ∃ r hₚ, gz_Ev ws0 tb 1 (yX11_loadSizes, cX11_loadSizes, 3, none) [.inr (.inr (some p)), .inr (.inr (some a1)), .inl a2] sh (gc_h sh I J A) r sh hₚ 0 0 ∧ (∃ (Iₚ : gr_I) (Jₚ : gr_J), hₚ = gc_h sh Iₚ Jₚ A ∧ gc_Inv ro Iₚ ∧ (∀ q j : Nat, ((q = (p + 1) ∧ j = 1) ∨ (q = (p + 3) ∧ j = 1) ∨ (q = (p + 7) ∧ j = 1) ∨ (q = (p + 11) ∧ j = 1) ∨ (q = p ∧ j = 6) ∨ (q = p ∧ j = 11) ∨ (q = p ∧ j = 13)) ∨ Iₚ q j = I q j) ∧ (∀ q j : Nat, (False) ∨ Jₚ q j = J q j) ∧ r = none ∧ (Iₚ (p + 1) 1 = I a1 (Int.toNat a2)) ∧ (Iₚ (p + 3) 1 = I a1 (Int.toNat (a2 + 1))) ∧ (Iₚ (p + 7) 1 = I a1 (Int.toNat (a2 + 2))) ∧ (Iₚ p 6 = I a1 (Int.toNat (a2 + 3))) ∧ (Iₚ (p + 11) 1 = I a1 (Int.toNat (a2 + 4))) ∧ (Iₚ p 11 = I a1 (Int.toNat (a2 + 5))) ∧ (Iₚ p 13 = I a1 (Int.toNat (a2 + 6)))) := by
  have FI : ∀ q j : Nat, ((q = (p + 1) ∧ j = 1) ∨ (q = (p + 3) ∧ j = 1) ∨ (q = (p + 7) ∧ j = 1) ∨ (q = (p + 11) ∧ j = 1) ∨ (q = p ∧ j = 6) ∨ (q = p ∧ j = 11) ∨ (q = p ∧ j = 13)) ∨ I q j = I q j := fun _ _ => Or.inr rfl
  have FJ : ∀ q j : Nat, (False) ∨ J q j = J q j := fun _ _ => Or.inr rfl
  obtain ⟨S_p, R_p, B_p, A_p_0, h_p_1, A_p_1, h_p_3, A_p_2, S_p_5, R_p_5, B_p_5, A_p_3, S_p_6, R_p_6, B_p_6, A_p_4, h_p_7, A_p_5, S_p_9, R_p_9, B_p_9, A_p_7, S_p_10, R_p_10, B_p_10, A_p_8, h_p_11, A_p_9, S_p_13, R_p_13, B_p_13, A_p_10, S_p_14, R_p_14, B_p_14, A_p_12, S_p_15, R_p_15, B_p_15, A_p_14, S_p_16, R_p_16, B_p_16, A_p_15, h_p_17⟩ := id hp
  replace R_p := gz_hi R_p
  replace B_p := gz_hi B_p
  replace R_p_5 := gz_hi R_p_5
  replace B_p_5 := gz_hi B_p_5
  replace R_p_6 := gz_hi R_p_6
  replace B_p_6 := gz_hi B_p_6
  replace R_p_9 := gz_hi R_p_9
  replace B_p_9 := gz_hi B_p_9
  replace R_p_10 := gz_hi R_p_10
  replace B_p_10 := gz_hi B_p_10
  replace R_p_13 := gz_hi R_p_13
  replace B_p_13 := gz_hi B_p_13
  replace R_p_14 := gz_hi R_p_14
  replace B_p_14 := gz_hi B_p_14
  replace R_p_15 := gz_hi R_p_15
  replace B_p_15 := gz_hi B_p_15
  replace R_p_16 := gz_hi R_p_16
  replace B_p_16 := gz_hi B_p_16
  obtain ⟨S_p_1, R_p_1, B_p_1, A_p_1_0, S_p_1_1, R_p_1_1, B_p_1_1, Q0_p_1, Q1_p_1, Q2_p_1⟩ := id h_p_1
  replace R_p_1 := gz_hi R_p_1
  replace B_p_1 := gz_hi B_p_1
  replace R_p_1_1 := gz_hi R_p_1_1
  replace B_p_1_1 := gz_hi B_p_1_1
  obtain ⟨S_p_3, R_p_3, B_p_3, A_p_3_0, S_p_3_1, R_p_3_1, B_p_3_1, Q0_p_3, Q1_p_3, Q2_p_3⟩ := id h_p_3
  replace R_p_3 := gz_hi R_p_3
  replace B_p_3 := gz_hi B_p_3
  replace R_p_3_1 := gz_hi R_p_3_1
  replace B_p_3_1 := gz_hi B_p_3_1
  obtain ⟨S_p_7, R_p_7, B_p_7, A_p_7_0, S_p_7_1, R_p_7_1, B_p_7_1, Q0_p_7, Q1_p_7, Q2_p_7⟩ := id h_p_7
  replace R_p_7 := gz_hi R_p_7
  replace B_p_7 := gz_hi B_p_7
  replace R_p_7_1 := gz_hi R_p_7_1
  replace B_p_7_1 := gz_hi B_p_7_1
  obtain ⟨S_p_11, R_p_11, B_p_11, A_p_11_0, S_p_11_1, R_p_11_1, B_p_11_1, Q0_p_11, Q1_p_11, Q2_p_11⟩ := id h_p_11
  replace R_p_11 := gz_hi R_p_11
  replace B_p_11 := gz_hi B_p_11
  replace R_p_11_1 := gz_hi R_p_11_1
  replace B_p_11_1 := gz_hi B_p_11_1
  obtain ⟨S_p_17, R_p_17, B_p_17, A_p_17_0, S_20, R_20, B_20, A_p_17_1, S_p_17_1, R_p_17_1, B_p_17_1, A_p_17_2, S_p_17_2, R_p_17_2, B_p_17_2, A_p_17_3, S_p_17_3, R_p_17_3, B_p_17_3, A_p_17_4, S_p_17_4, R_p_17_4, B_p_17_4, A_p_17_5, S_p_17_5, R_p_17_5, B_p_17_5, S_p_17_6, R_p_17_6, B_p_17_6, S_p_17_7, R_p_17_7, B_p_17_7⟩ := id h_p_17
  replace R_p_17 := gz_hi R_p_17
  replace B_p_17 := gz_hi B_p_17
  replace R_20 := gz_hi R_20
  replace B_20 := gz_hi B_20
  replace R_p_17_1 := gz_hi R_p_17_1
  replace B_p_17_1 := gz_hi B_p_17_1
  replace R_p_17_2 := gz_hi R_p_17_2
  replace B_p_17_2 := gz_hi B_p_17_2
  replace R_p_17_3 := gz_hi R_p_17_3
  replace B_p_17_3 := gz_hi B_p_17_3
  replace R_p_17_4 := gz_hi R_p_17_4
  replace B_p_17_4 := gz_hi B_p_17_4
  replace R_p_17_5 := gz_hi R_p_17_5
  replace B_p_17_5 := gz_hi B_p_17_5
  replace R_p_17_6 := gz_hi R_p_17_6
  replace B_p_17_6 := gz_hi B_p_17_6
  replace R_p_17_7 := gz_hi R_p_17_7
  replace B_p_17_7 := gz_hi B_p_17_7
  have hD : gv_D (gc_E11 ws0 tb 0 (yX11_loadSizes, cX11_loadSizes, 3, none) kX11_loadSizes) := gq_of oX11_loadSizes
  refine gc_ev11 (d := 0) (l := kX11_loadSizes) (Po := fun r hₚ => (∃ (Iₚ : gr_I) (Jₚ : gr_J), hₚ = gc_h sh Iₚ Jₚ A ∧ gc_Inv ro Iₚ ∧ (∀ q j : Nat, ((q = (p + 1) ∧ j = 1) ∨ (q = (p + 3) ∧ j = 1) ∨ (q = (p + 7) ∧ j = 1) ∨ (q = (p + 11) ∧ j = 1) ∨ (q = p ∧ j = 6) ∨ (q = p ∧ j = 11) ∨ (q = p ∧ j = 13)) ∨ Iₚ q j = I q j) ∧ (∀ q j : Nat, (False) ∨ Jₚ q j = J q j) ∧ r = none ∧ (Iₚ (p + 1) 1 = I a1 (Int.toNat a2)) ∧ (Iₚ (p + 3) 1 = I a1 (Int.toNat (a2 + 1))) ∧ (Iₚ (p + 7) 1 = I a1 (Int.toNat (a2 + 2))) ∧ (Iₚ p 6 = I a1 (Int.toNat (a2 + 3))) ∧ (Iₚ (p + 11) 1 = I a1 (Int.toNat (a2 + 4))) ∧ (Iₚ p 11 = I a1 (Int.toNat (a2 + 5))) ∧ (Iₚ p 13 = I a1 (Int.toNat (a2 + 6))))) htb rfl (Nat.le_of_ble_eq_true rfl) ?_
  have N_p_3__p_1 := gz_hi (show ¬ ((p + 3) = (p + 1)) from by (/-0-/first | omega | (simp only [gz_hd] at *; omega)))
  have N_p_7__p_1 := gz_hi (show ¬ ((p + 7) = (p + 1)) from by (/-1-/first | omega | (simp only [gz_hd] at *; omega)))
  have N_p_11__p_1 := gz_hi (show ¬ ((p + 11) = (p + 1)) from by (/-2-/first | omega | (simp only [gz_hd] at *; omega)))
  have N_a1__p_1 := gz_hi (show ¬ (a1 = (p + 1)) from by (/-3-/first | (have o1 := gz_sh B_p; have o2 := gz_sh B_p_10; have o3 := gz_sh B_p_13; have o4 := gz_sh B_p_14; have o5 := gz_sh B_p_15; have o6 := gz_sh B_p_16; have o7 := gz_sh B_p_17; have o8 := gz_sh B_p_17_1; have o9 := gz_sh B_p_17_2; have o10 := gz_sh B_p_17_3; have o11 := gz_sh B_p_17_4; have o12 := gz_sh B_p_17_5; have o13 := gz_sh B_p_17_6; have o14 := gz_sh B_p_17_7; have o15 := gz_sh B_p_5; have o16 := gz_sh B_p_6; have o17 := gz_sh B_p_9; omega) | (simp only [gz_hd] at *; omega)))
  have N_p_1__p_3 := gz_hi (show ¬ ((p + 1) = (p + 3)) from by (/-4-/first | omega | (simp only [gz_hd] at *; omega)))
  have N_p_7__p_3 := gz_hi (show ¬ ((p + 7) = (p + 3)) from by (/-5-/first | omega | (simp only [gz_hd] at *; omega)))
  have N_p_11__p_3 := gz_hi (show ¬ ((p + 11) = (p + 3)) from by (/-6-/first | omega | (simp only [gz_hd] at *; omega)))
  have N_a1__p_3 := gz_hi (show ¬ (a1 = (p + 3)) from by (/-7-/first | (have o1 := gz_sh B_p; have o2 := gz_sh B_p_10; have o3 := gz_sh B_p_13; have o4 := gz_sh B_p_14; have o5 := gz_sh B_p_15; have o6 := gz_sh B_p_16; have o7 := gz_sh B_p_17; have o8 := gz_sh B_p_17_1; have o9 := gz_sh B_p_17_2; have o10 := gz_sh B_p_17_3; have o11 := gz_sh B_p_17_4; have o12 := gz_sh B_p_17_5; have o13 := gz_sh B_p_17_6; have o14 := gz_sh B_p_17_7; have o15 := gz_sh B_p_5; have o16 := gz_sh B_p_6; have o17 := gz_sh B_p_9; omega) | (simp only [gz_hd] at *; omega)))
  have N_p_1__p_7 := gz_hi (show ¬ ((p + 1) = (p + 7)) from by (/-8-/first | omega | (simp only [gz_hd] at *; omega)))
  have N_p_3__p_7 := gz_hi (show ¬ ((p + 3) = (p + 7)) from by (/-9-/first | omega | (simp only [gz_hd] at *; omega)))
  have N_p_11__p_7 := gz_hi (show ¬ ((p + 11) = (p + 7)) from by (/-10-/first | omega | (simp only [gz_hd] at *; omega)))
  have N_a1__p_7 := gz_hi (show ¬ (a1 = (p + 7)) from by (/-11-/first | (have o1 := gz_sh B_p; have o2 := gz_sh B_p_10; have o3 := gz_sh B_p_13; have o4 := gz_sh B_p_14; have o5 := gz_sh B_p_15; have o6 := gz_sh B_p_16; have o7 := gz_sh B_p_17; have o8 := gz_sh B_p_17_1; have o9 := gz_sh B_p_17_2; have o10 := gz_sh B_p_17_3; have o11 := gz_sh B_p_17_4; have o12 := gz_sh B_p_17_5; have o13 := gz_sh B_p_17_6; have o14 := gz_sh B_p_17_7; have o15 := gz_sh B_p_5; have o16 := gz_sh B_p_6; have o17 := gz_sh B_p_9; omega) | (simp only [gz_hd] at *; omega)))
  have N_a1__p := gz_hi (show ¬ (a1 = p) from by (/-12-/first | (have o1 := gz_sh B_p; have o2 := gz_sh B_p_10; have o3 := gz_sh B_p_13; have o4 := gz_sh B_p_14; have o5 := gz_sh B_p_15; have o6 := gz_sh B_p_16; have o7 := gz_sh B_p_17; have o8 := gz_sh B_p_17_1; have o9 := gz_sh B_p_17_2; have o10 := gz_sh B_p_17_3; have o11 := gz_sh B_p_17_4; have o12 := gz_sh B_p_17_5; have o13 := gz_sh B_p_17_6; have o14 := gz_sh B_p_17_7; have o15 := gz_sh B_p_5; have o16 := gz_sh B_p_6; have o17 := gz_sh B_p_9; omega) | (simp only [gz_hd] at *; omega)))
  have N_p_1__p_11 := gz_hi (show ¬ ((p + 1) = (p + 11)) from by (/-13-/first | omega | (simp only [gz_hd] at *; omega)))
  have N_p_3__p_11 := gz_hi (show ¬ ((p + 3) = (p + 11)) from by (/-14-/first | omega | (simp only [gz_hd] at *; omega)))
  have N_p_7__p_11 := gz_hi (show ¬ ((p + 7) = (p + 11)) from by (/-15-/first | omega | (simp only [gz_hd] at *; omega)))
  have N_a1__p_11 := gz_hi (show ¬ (a1 = (p + 11)) from by (/-16-/first | (have o1 := gz_sh B_p; have o2 := gz_sh B_p_10; have o3 := gz_sh B_p_13; have o4 := gz_sh B_p_14; have o5 := gz_sh B_p_15; have o6 := gz_sh B_p_16; have o7 := gz_sh B_p_17; have o8 := gz_sh B_p_17_1; have o9 := gz_sh B_p_17_2; have o10 := gz_sh B_p_17_3; have o11 := gz_sh B_p_17_4; have o12 := gz_sh B_p_17_5; have o13 := gz_sh B_p_17_6; have o14 := gz_sh B_p_17_7; have o15 := gz_sh B_p_5; have o16 := gz_sh B_p_6; have o17 := gz_sh B_p_9; omega) | (simp only [gz_hd] at *; omega)))
  refine gv_run 1 true hD (pcₚ := 1) (lvₚ := [(0, .inr (.inr (some p))), (1, .inr (.inr (some a1))), (2, .inl a2)]) (stₚ := [.inr (.inr (some p))]) (hₚ := gc_h sh I J A) (C := (True ∧ True)) rfl ⟨trivial, trivial⟩ ?_
  refine gv_get hD rfl rfl S_p ⟨by decide, (gz_sh B_p)⟩ (gc_hA S_p rfl A_p_0) ?_
  show gv_X _ _ (4, [(0, .inr (.inr (some p))), (1, .inr (.inr (some a1))), (2, .inl a2)], [.inr (.inr (some (p + 1)))], sh, gc_h sh I J A)
  refine gv_run 2 true hD (pcₚ := 6) (lvₚ := [(0, .inr (.inr (some p))), (1, .inr (.inr (some a1))), (2, .inl a2)]) (stₚ := [.inl a2, .inr (.inr (some a1)), .inr (.inr (some (p + 1)))]) (hₚ := gc_h sh I J A) (C := ((True ∧ True) ∧ True)) rfl ⟨⟨trivial, trivial⟩, trivial⟩ ?_
  refine gv_iald hD rfl S_a1 rfl ⟨by (/-17-/first | omega | (simp only [gz_hd] at *; omega)), B_a1⟩ ⟨by (/-18-/first | omega | (simp only [gz_hd] at *; omega)), by (/-19-/first | omega | (simp only [gz_hd] at *; omega))⟩ (gc_iI S_a1 rfl) ?_
  show gv_X _ _ (7, [(0, .inr (.inr (some p))), (1, .inr (.inr (some a1))), (2, .inl a2)], [.inl (I a1 (Int.toNat a2)), .inr (.inr (some (p + 1)))], sh, gc_h sh I J A)
  refine gv_put hD rfl rfl S_p_1 ⟨by decide, (gz_sh B_p_1)⟩ rfl trivial ?_
  refine gc_st (k := 1) hI S_p_1 rfl (gz_sh R_p_1) (lo := 0) (hi := 8) rfl rfl (by (/-20-/first | omega | (simp only [gz_hd] at *; omega))) (by (/-21-/first | omega | (simp only [gz_hd] at *; omega))) (fun I9 hI9 q10 p10 => ?_)
  have FI9 := gc_frs (W := fun q j => (q = (p + 1) ∧ j = 1) ∨ (q = (p + 3) ∧ j = 1) ∨ (q = (p + 7) ∧ j = 1) ∨ (q = (p + 11) ∧ j = 1) ∨ (q = p ∧ j = 6) ∨ (q = p ∧ j = 11) ∨ (q = p ∧ j = 13)) FI (Or.inl ⟨rfl, rfl⟩) p10
  have t17 := gz_hi (p10 a1 (Int.toNat a2) (fun h => absurd h.1 (gz_sh N_a1__p_1)))
  have t18 := gz_hi (p10 a1 (Int.toNat (a2 + 1)) (fun h => absurd h.1 (gz_sh N_a1__p_1)))
  have t19 := gz_hi (p10 a1 (Int.toNat (a2 + 2)) (fun h => absurd h.1 (gz_sh N_a1__p_1)))
  have t20 := gz_hi (p10 a1 (Int.toNat (a2 + 3)) (fun h => absurd h.1 (gz_sh N_a1__p_1)))
  have t21 := gz_hi (p10 a1 (Int.toNat (a2 + 4)) (fun h => absurd h.1 (gz_sh N_a1__p_1)))
  have t22 := gz_hi (p10 a1 (Int.toNat (a2 + 5)) (fun h => absurd h.1 (gz_sh N_a1__p_1)))
  have t23 := gz_hi (p10 a1 (Int.toNat (a2 + 6)) (fun h => absurd h.1 (gz_sh N_a1__p_1)))
  show gv_X _ _ (10, [(0, .inr (.inr (some p))), (1, .inr (.inr (some a1))), (2, .inl a2)], [], sh, gc_h sh I9 J A)
  refine gv_run 1 true hD (pcₚ := 11) (lvₚ := [(0, .inr (.inr (some p))), (1, .inr (.inr (some a1))), (2, .inl a2)]) (stₚ := [.inr (.inr (some p))]) (hₚ := gc_h sh I9 J A) (C := (True ∧ True)) rfl ⟨trivial, trivial⟩ ?_
  refine gv_get hD rfl rfl S_p ⟨by decide, (gz_sh B_p)⟩ (gc_hA S_p rfl A_p_1) ?_
  show gv_X _ _ (14, [(0, .inr (.inr (some p))), (1, .inr (.inr (some a1))), (2, .inl a2)], [.inr (.inr (some (p + 3)))], sh, gc_h sh I9 J A)
  refine gv_run 4 true hD (pcₚ := 18) (lvₚ := [(0, .inr (.inr (some p))), (1, .inr (.inr (some a1))), (2, .inl a2)]) (stₚ := [.inl (a2 + 1), .inr (.inr (some a1)), .inr (.inr (some (p + 3)))]) (hₚ := gc_h sh I9 J A) (C := ((((True ∧ True) ∧ True) ∧ True) ∧ True)) rfl ⟨⟨⟨⟨trivial, trivial⟩, trivial⟩, trivial⟩, trivial⟩ ?_
  refine gv_iald hD rfl S_a1 rfl ⟨by (/-22-/first | omega | (simp only [gz_hd] at *; omega)), B_a1⟩ ⟨by (/-23-/first | omega | (simp only [gz_hd] at *; omega)), by (/-24-/first | omega | (simp only [gz_hd] at *; omega))⟩ (gc_iI S_a1 rfl) ?_
  show gv_X _ _ (19, [(0, .inr (.inr (some p))), (1, .inr (.inr (some a1))), (2, .inl a2)], [.inl (I9 a1 (Int.toNat (a2 + 1))), .inr (.inr (some (p + 3)))], sh, gc_h sh I9 J A)
  refine gv_put hD rfl rfl S_p_3 ⟨by decide, (gz_sh B_p_3)⟩ rfl trivial ?_
  refine gc_st (k := 1) hI9 S_p_3 rfl (gz_sh R_p_3) (lo := 0) (hi := 48) rfl rfl (by (/-25-/first | (have o1 := gz_sh t18; omega) | (simp only [gz_hd] at *; omega))) (by (/-26-/first | (have o1 := gz_sh t18; omega) | (simp only [gz_hd] at *; omega))) (fun I26 hI26 q27 p27 => ?_)
  have FI26 := gc_frs (W := fun q j => (q = (p + 1) ∧ j = 1) ∨ (q = (p + 3) ∧ j = 1) ∨ (q = (p + 7) ∧ j = 1) ∨ (q = (p + 11) ∧ j = 1) ∨ (q = p ∧ j = 6) ∨ (q = p ∧ j = 11) ∨ (q = p ∧ j = 13)) FI9 (Or.inr (Or.inl ⟨rfl, rfl⟩)) p27
  have t28 := gz_hi (p27 (p + 1) 1 (fun h => absurd h.1 (gz_sh N_p_1__p_3)))
  have t34 := gz_hi (p27 a1 (Int.toNat a2) (fun h => absurd h.1 (gz_sh N_a1__p_3)))
  have t35 := gz_hi (p27 a1 (Int.toNat (a2 + 1)) (fun h => absurd h.1 (gz_sh N_a1__p_3)))
  have t36 := gz_hi (p27 a1 (Int.toNat (a2 + 2)) (fun h => absurd h.1 (gz_sh N_a1__p_3)))
  have t37 := gz_hi (p27 a1 (Int.toNat (a2 + 3)) (fun h => absurd h.1 (gz_sh N_a1__p_3)))
  have t38 := gz_hi (p27 a1 (Int.toNat (a2 + 4)) (fun h => absurd h.1 (gz_sh N_a1__p_3)))
  have t39 := gz_hi (p27 a1 (Int.toNat (a2 + 5)) (fun h => absurd h.1 (gz_sh N_a1__p_3)))
  have t40 := gz_hi (p27 a1 (Int.toNat (a2 + 6)) (fun h => absurd h.1 (gz_sh N_a1__p_3)))
  show gv_X _ _ (22, [(0, .inr (.inr (some p))), (1, .inr (.inr (some a1))), (2, .inl a2)], [], sh, gc_h sh I26 J A)
  refine gv_run 1 true hD (pcₚ := 23) (lvₚ := [(0, .inr (.inr (some p))), (1, .inr (.inr (some a1))), (2, .inl a2)]) (stₚ := [.inr (.inr (some p))]) (hₚ := gc_h sh I26 J A) (C := (True ∧ True)) rfl ⟨trivial, trivial⟩ ?_
  refine gv_get hD rfl rfl S_p ⟨by decide, (gz_sh B_p)⟩ (gc_hA S_p rfl A_p_4) ?_
  show gv_X _ _ (26, [(0, .inr (.inr (some p))), (1, .inr (.inr (some a1))), (2, .inl a2)], [.inr (.inr (some (p + 7)))], sh, gc_h sh I26 J A)
  refine gv_run 4 true hD (pcₚ := 30) (lvₚ := [(0, .inr (.inr (some p))), (1, .inr (.inr (some a1))), (2, .inl a2)]) (stₚ := [.inl (a2 + 2), .inr (.inr (some a1)), .inr (.inr (some (p + 7)))]) (hₚ := gc_h sh I26 J A) (C := ((((True ∧ True) ∧ True) ∧ True) ∧ True)) rfl ⟨⟨⟨⟨trivial, trivial⟩, trivial⟩, trivial⟩, trivial⟩ ?_
  refine gv_iald hD rfl S_a1 rfl ⟨by (/-27-/first | omega | (simp only [gz_hd] at *; omega)), B_a1⟩ ⟨by (/-28-/first | omega | (simp only [gz_hd] at *; omega)), by (/-29-/first | omega | (simp only [gz_hd] at *; omega))⟩ (gc_iI S_a1 rfl) ?_
  show gv_X _ _ (31, [(0, .inr (.inr (some p))), (1, .inr (.inr (some a1))), (2, .inl a2)], [.inl (I26 a1 (Int.toNat (a2 + 2))), .inr (.inr (some (p + 7)))], sh, gc_h sh I26 J A)
  refine gv_put hD rfl rfl S_p_7 ⟨by decide, (gz_sh B_p_7)⟩ rfl trivial ?_
  refine gc_st (k := 1) hI26 S_p_7 rfl (gz_sh R_p_7) (lo := 0) (hi := 16) rfl rfl (by (/-30-/first | (have o1 := gz_sh t19; have o2 := gz_sh t36; omega) | (simp only [gz_hd] at *; omega))) (by (/-31-/first | (have o1 := gz_sh t19; have o2 := gz_sh t36; omega) | (simp only [gz_hd] at *; omega))) (fun I43 hI43 q44 p44 => ?_)
  have FI43 := gc_frs (W := fun q j => (q = (p + 1) ∧ j = 1) ∨ (q = (p + 3) ∧ j = 1) ∨ (q = (p + 7) ∧ j = 1) ∨ (q = (p + 11) ∧ j = 1) ∨ (q = p ∧ j = 6) ∨ (q = p ∧ j = 11) ∨ (q = p ∧ j = 13)) FI26 (Or.inr (Or.inr (Or.inl ⟨rfl, rfl⟩))) p44
  have t45 := gz_hi (p44 (p + 1) 1 (fun h => absurd h.1 (gz_sh N_p_1__p_7)))
  have t46 := gz_hi (p44 (p + 3) 1 (fun h => absurd h.1 (gz_sh N_p_3__p_7)))
  have t51 := gz_hi (p44 a1 (Int.toNat a2) (fun h => absurd h.1 (gz_sh N_a1__p_7)))
  have t52 := gz_hi (p44 a1 (Int.toNat (a2 + 1)) (fun h => absurd h.1 (gz_sh N_a1__p_7)))
  have t53 := gz_hi (p44 a1 (Int.toNat (a2 + 2)) (fun h => absurd h.1 (gz_sh N_a1__p_7)))
  have t54 := gz_hi (p44 a1 (Int.toNat (a2 + 3)) (fun h => absurd h.1 (gz_sh N_a1__p_7)))
  have t55 := gz_hi (p44 a1 (Int.toNat (a2 + 4)) (fun h => absurd h.1 (gz_sh N_a1__p_7)))
  have t56 := gz_hi (p44 a1 (Int.toNat (a2 + 5)) (fun h => absurd h.1 (gz_sh N_a1__p_7)))
  have t57 := gz_hi (p44 a1 (Int.toNat (a2 + 6)) (fun h => absurd h.1 (gz_sh N_a1__p_7)))
  show gv_X _ _ (34, [(0, .inr (.inr (some p))), (1, .inr (.inr (some a1))), (2, .inl a2)], [], sh, gc_h sh I43 J A)
  refine gv_run 5 true hD (pcₚ := 39) (lvₚ := [(0, .inr (.inr (some p))), (1, .inr (.inr (some a1))), (2, .inl a2)]) (stₚ := [.inl (a2 + 3), .inr (.inr (some a1)), .inr (.inr (some p))]) (hₚ := gc_h sh I43 J A) (C := (((((True ∧ True) ∧ True) ∧ True) ∧ True) ∧ True)) rfl ⟨⟨⟨⟨⟨trivial, trivial⟩, trivial⟩, trivial⟩, trivial⟩, trivial⟩ ?_
  refine gv_iald hD rfl S_a1 rfl ⟨by (/-32-/first | omega | (simp only [gz_hd] at *; omega)), B_a1⟩ ⟨by (/-33-/first | omega | (simp only [gz_hd] at *; omega)), by (/-34-/first | omega | (simp only [gz_hd] at *; omega))⟩ (gc_iI S_a1 rfl) ?_
  show gv_X _ _ (40, [(0, .inr (.inr (some p))), (1, .inr (.inr (some a1))), (2, .inl a2)], [.inl (I43 a1 (Int.toNat (a2 + 3))), .inr (.inr (some p))], sh, gc_h sh I43 J A)
  refine gv_put hD rfl rfl S_p ⟨by decide, (gz_sh B_p)⟩ rfl trivial ?_
  refine gc_st (k := 6) hI43 S_p rfl (gz_sh R_p) (lo := 0) (hi := 24) rfl rfl (by (/-35-/first | (have o1 := gz_sh t20; have o2 := gz_sh t37; have o3 := gz_sh t54; omega) | (simp only [gz_hd] at *; omega))) (by (/-36-/first | (have o1 := gz_sh t20; have o2 := gz_sh t37; have o3 := gz_sh t54; omega) | (simp only [gz_hd] at *; omega))) (fun I60 hI60 q61 p61 => ?_)
  have FI60 := gc_frs (W := fun q j => (q = (p + 1) ∧ j = 1) ∨ (q = (p + 3) ∧ j = 1) ∨ (q = (p + 7) ∧ j = 1) ∨ (q = (p + 11) ∧ j = 1) ∨ (q = p ∧ j = 6) ∨ (q = p ∧ j = 11) ∨ (q = p ∧ j = 13)) FI43 (Or.inr (Or.inr (Or.inr (Or.inr (Or.inl ⟨rfl, rfl⟩))))) p61
  have t62 := gz_hi (p61 (p + 1) 1 (fun h => absurd h.2 (by first | exact gz_ne rfl | decide)))
  have t63 := gz_hi (p61 (p + 3) 1 (fun h => absurd h.2 (by first | exact gz_ne rfl | decide)))
  have t64 := gz_hi (p61 (p + 7) 1 (fun h => absurd h.2 (by first | exact gz_ne rfl | decide)))
  have t68 := gz_hi (p61 a1 (Int.toNat a2) (fun h => absurd h.1 (gz_sh N_a1__p)))
  have t69 := gz_hi (p61 a1 (Int.toNat (a2 + 1)) (fun h => absurd h.1 (gz_sh N_a1__p)))
  have t70 := gz_hi (p61 a1 (Int.toNat (a2 + 2)) (fun h => absurd h.1 (gz_sh N_a1__p)))
  have t71 := gz_hi (p61 a1 (Int.toNat (a2 + 3)) (fun h => absurd h.1 (gz_sh N_a1__p)))
  have t72 := gz_hi (p61 a1 (Int.toNat (a2 + 4)) (fun h => absurd h.1 (gz_sh N_a1__p)))
  have t73 := gz_hi (p61 a1 (Int.toNat (a2 + 5)) (fun h => absurd h.1 (gz_sh N_a1__p)))
  have t74 := gz_hi (p61 a1 (Int.toNat (a2 + 6)) (fun h => absurd h.1 (gz_sh N_a1__p)))
  show gv_X _ _ (43, [(0, .inr (.inr (some p))), (1, .inr (.inr (some a1))), (2, .inl a2)], [], sh, gc_h sh I60 J A)
  refine gv_run 1 true hD (pcₚ := 44) (lvₚ := [(0, .inr (.inr (some p))), (1, .inr (.inr (some a1))), (2, .inl a2)]) (stₚ := [.inr (.inr (some p))]) (hₚ := gc_h sh I60 J A) (C := (True ∧ True)) rfl ⟨trivial, trivial⟩ ?_
  refine gv_get hD rfl rfl S_p ⟨by decide, (gz_sh B_p)⟩ (gc_hA S_p rfl A_p_8) ?_
  show gv_X _ _ (47, [(0, .inr (.inr (some p))), (1, .inr (.inr (some a1))), (2, .inl a2)], [.inr (.inr (some (p + 11)))], sh, gc_h sh I60 J A)
  refine gv_run 4 true hD (pcₚ := 51) (lvₚ := [(0, .inr (.inr (some p))), (1, .inr (.inr (some a1))), (2, .inl a2)]) (stₚ := [.inl (a2 + 4), .inr (.inr (some a1)), .inr (.inr (some (p + 11)))]) (hₚ := gc_h sh I60 J A) (C := ((((True ∧ True) ∧ True) ∧ True) ∧ True)) rfl ⟨⟨⟨⟨trivial, trivial⟩, trivial⟩, trivial⟩, trivial⟩ ?_
  refine gv_iald hD rfl S_a1 rfl ⟨by (/-37-/first | omega | (simp only [gz_hd] at *; omega)), B_a1⟩ ⟨by (/-38-/first | omega | (simp only [gz_hd] at *; omega)), by (/-39-/first | omega | (simp only [gz_hd] at *; omega))⟩ (gc_iI S_a1 rfl) ?_
  show gv_X _ _ (52, [(0, .inr (.inr (some p))), (1, .inr (.inr (some a1))), (2, .inl a2)], [.inl (I60 a1 (Int.toNat (a2 + 4))), .inr (.inr (some (p + 11)))], sh, gc_h sh I60 J A)
  refine gv_put hD rfl rfl S_p_11 ⟨by decide, (gz_sh B_p_11)⟩ rfl trivial ?_
  refine gc_st (k := 1) hI60 S_p_11 rfl (gz_sh R_p_11) (lo := 0) (hi := 24) rfl rfl (by (/-40-/first | (have o1 := gz_sh t21; have o2 := gz_sh t38; have o3 := gz_sh t55; have o4 := gz_sh t72; omega) | (simp only [gz_hd] at *; omega))) (by (/-41-/first | (have o1 := gz_sh t21; have o2 := gz_sh t38; have o3 := gz_sh t55; have o4 := gz_sh t72; omega) | (simp only [gz_hd] at *; omega))) (fun I77 hI77 q78 p78 => ?_)
  have FI77 := gc_frs (W := fun q j => (q = (p + 1) ∧ j = 1) ∨ (q = (p + 3) ∧ j = 1) ∨ (q = (p + 7) ∧ j = 1) ∨ (q = (p + 11) ∧ j = 1) ∨ (q = p ∧ j = 6) ∨ (q = p ∧ j = 11) ∨ (q = p ∧ j = 13)) FI60 (Or.inr (Or.inr (Or.inr (Or.inl ⟨rfl, rfl⟩)))) p78
  have t79 := gz_hi (p78 (p + 1) 1 (fun h => absurd h.1 (gz_sh N_p_1__p_11)))
  have t80 := gz_hi (p78 (p + 3) 1 (fun h => absurd h.1 (gz_sh N_p_3__p_11)))
  have t81 := gz_hi (p78 (p + 7) 1 (fun h => absurd h.1 (gz_sh N_p_7__p_11)))
  have t82 := gz_hi (p78 p 6 (fun h => absurd h.2 (by first | exact gz_ne rfl | decide)))
  have t85 := gz_hi (p78 a1 (Int.toNat a2) (fun h => absurd h.1 (gz_sh N_a1__p_11)))
  have t86 := gz_hi (p78 a1 (Int.toNat (a2 + 1)) (fun h => absurd h.1 (gz_sh N_a1__p_11)))
  have t87 := gz_hi (p78 a1 (Int.toNat (a2 + 2)) (fun h => absurd h.1 (gz_sh N_a1__p_11)))
  have t88 := gz_hi (p78 a1 (Int.toNat (a2 + 3)) (fun h => absurd h.1 (gz_sh N_a1__p_11)))
  have t89 := gz_hi (p78 a1 (Int.toNat (a2 + 4)) (fun h => absurd h.1 (gz_sh N_a1__p_11)))
  have t90 := gz_hi (p78 a1 (Int.toNat (a2 + 5)) (fun h => absurd h.1 (gz_sh N_a1__p_11)))
  have t91 := gz_hi (p78 a1 (Int.toNat (a2 + 6)) (fun h => absurd h.1 (gz_sh N_a1__p_11)))
  show gv_X _ _ (55, [(0, .inr (.inr (some p))), (1, .inr (.inr (some a1))), (2, .inl a2)], [], sh, gc_h sh I77 J A)
  refine gv_run 5 true hD (pcₚ := 60) (lvₚ := [(0, .inr (.inr (some p))), (1, .inr (.inr (some a1))), (2, .inl a2)]) (stₚ := [.inl (a2 + 5), .inr (.inr (some a1)), .inr (.inr (some p))]) (hₚ := gc_h sh I77 J A) (C := (((((True ∧ True) ∧ True) ∧ True) ∧ True) ∧ True)) rfl ⟨⟨⟨⟨⟨trivial, trivial⟩, trivial⟩, trivial⟩, trivial⟩, trivial⟩ ?_
  refine gv_iald hD rfl S_a1 rfl ⟨by (/-42-/first | omega | (simp only [gz_hd] at *; omega)), B_a1⟩ ⟨by (/-43-/first | omega | (simp only [gz_hd] at *; omega)), by (/-44-/first | omega | (simp only [gz_hd] at *; omega))⟩ (gc_iI S_a1 rfl) ?_
  show gv_X _ _ (61, [(0, .inr (.inr (some p))), (1, .inr (.inr (some a1))), (2, .inl a2)], [.inl (I77 a1 (Int.toNat (a2 + 5))), .inr (.inr (some p))], sh, gc_h sh I77 J A)
  refine gv_put hD rfl rfl S_p ⟨by decide, (gz_sh B_p)⟩ rfl trivial ?_
  refine gc_st (k := 11) hI77 S_p rfl (gz_sh R_p) (lo := 0) (hi := 64) rfl rfl (by (/-45-/first | (have o1 := gz_sh t22; have o2 := gz_sh t39; have o3 := gz_sh t56; have o4 := gz_sh t73; have o5 := gz_sh t90; omega) | (simp only [gz_hd] at *; omega))) (by (/-46-/first | (have o1 := gz_sh t22; have o2 := gz_sh t39; have o3 := gz_sh t56; have o4 := gz_sh t73; have o5 := gz_sh t90; omega) | (simp only [gz_hd] at *; omega))) (fun I94 hI94 q95 p95 => ?_)
  have FI94 := gc_frs (W := fun q j => (q = (p + 1) ∧ j = 1) ∨ (q = (p + 3) ∧ j = 1) ∨ (q = (p + 7) ∧ j = 1) ∨ (q = (p + 11) ∧ j = 1) ∨ (q = p ∧ j = 6) ∨ (q = p ∧ j = 11) ∨ (q = p ∧ j = 13)) FI77 (Or.inr (Or.inr (Or.inr (Or.inr (Or.inr (Or.inl ⟨rfl, rfl⟩)))))) p95
  have t96 := gz_hi (p95 (p + 1) 1 (fun h => absurd h.2 (by first | exact gz_ne rfl | decide)))
  have t97 := gz_hi (p95 (p + 3) 1 (fun h => absurd h.2 (by first | exact gz_ne rfl | decide)))
  have t98 := gz_hi (p95 (p + 7) 1 (fun h => absurd h.2 (by first | exact gz_ne rfl | decide)))
  have t99 := gz_hi (p95 p 6 (fun h => absurd h.2 (by first | exact gz_ne rfl | decide)))
  have t100 := gz_hi (p95 (p + 11) 1 (fun h => absurd h.2 (by first | exact gz_ne rfl | decide)))
  have t102 := gz_hi (p95 a1 (Int.toNat a2) (fun h => absurd h.1 (gz_sh N_a1__p)))
  have t103 := gz_hi (p95 a1 (Int.toNat (a2 + 1)) (fun h => absurd h.1 (gz_sh N_a1__p)))
  have t104 := gz_hi (p95 a1 (Int.toNat (a2 + 2)) (fun h => absurd h.1 (gz_sh N_a1__p)))
  have t105 := gz_hi (p95 a1 (Int.toNat (a2 + 3)) (fun h => absurd h.1 (gz_sh N_a1__p)))
  have t106 := gz_hi (p95 a1 (Int.toNat (a2 + 4)) (fun h => absurd h.1 (gz_sh N_a1__p)))
  have t107 := gz_hi (p95 a1 (Int.toNat (a2 + 5)) (fun h => absurd h.1 (gz_sh N_a1__p)))
  have t108 := gz_hi (p95 a1 (Int.toNat (a2 + 6)) (fun h => absurd h.1 (gz_sh N_a1__p)))
  show gv_X _ _ (64, [(0, .inr (.inr (some p))), (1, .inr (.inr (some a1))), (2, .inl a2)], [], sh, gc_h sh I94 J A)
  refine gv_run 5 true hD (pcₚ := 70) (lvₚ := [(0, .inr (.inr (some p))), (1, .inr (.inr (some a1))), (2, .inl a2)]) (stₚ := [.inl (a2 + 6), .inr (.inr (some a1)), .inr (.inr (some p))]) (hₚ := gc_h sh I94 J A) (C := (((((True ∧ True) ∧ True) ∧ True) ∧ True) ∧ True)) rfl ⟨⟨⟨⟨⟨trivial, trivial⟩, trivial⟩, trivial⟩, trivial⟩, trivial⟩ ?_
  refine gv_iald hD rfl S_a1 rfl ⟨by (/-47-/first | omega | (simp only [gz_hd] at *; omega)), B_a1⟩ ⟨by (/-48-/first | omega | (simp only [gz_hd] at *; omega)), by (/-49-/first | omega | (simp only [gz_hd] at *; omega))⟩ (gc_iI S_a1 rfl) ?_
  show gv_X _ _ (71, [(0, .inr (.inr (some p))), (1, .inr (.inr (some a1))), (2, .inl a2)], [.inl (I94 a1 (Int.toNat (a2 + 6))), .inr (.inr (some p))], sh, gc_h sh I94 J A)
  refine gv_put hD rfl rfl S_p ⟨by decide, (gz_sh B_p)⟩ rfl trivial ?_
  refine gc_st (k := 13) hI94 S_p rfl (gz_sh R_p) (lo := 0) (hi := 384) rfl rfl (by (/-50-/first | (have o1 := gz_sh t108; have o2 := gz_sh t23; have o3 := gz_sh t40; have o4 := gz_sh t57; have o5 := gz_sh t74; have o6 := gz_sh t91; omega) | (simp only [gz_hd] at *; omega))) (by (/-51-/first | (have o1 := gz_sh t108; have o2 := gz_sh t23; have o3 := gz_sh t40; have o4 := gz_sh t57; have o5 := gz_sh t74; have o6 := gz_sh t91; omega) | (simp only [gz_hd] at *; omega))) (fun I111 hI111 q112 p112 => ?_)
  have FI111 := gc_frs (W := fun q j => (q = (p + 1) ∧ j = 1) ∨ (q = (p + 3) ∧ j = 1) ∨ (q = (p + 7) ∧ j = 1) ∨ (q = (p + 11) ∧ j = 1) ∨ (q = p ∧ j = 6) ∨ (q = p ∧ j = 11) ∨ (q = p ∧ j = 13)) FI94 (Or.inr (Or.inr (Or.inr (Or.inr (Or.inr (Or.inr ⟨rfl, rfl⟩)))))) p112
  have t113 := gz_hi (p112 (p + 1) 1 (fun h => absurd h.2 (by first | exact gz_ne rfl | decide)))
  have t114 := gz_hi (p112 (p + 3) 1 (fun h => absurd h.2 (by first | exact gz_ne rfl | decide)))
  have t115 := gz_hi (p112 (p + 7) 1 (fun h => absurd h.2 (by first | exact gz_ne rfl | decide)))
  have t116 := gz_hi (p112 p 6 (fun h => absurd h.2 (by first | exact gz_ne rfl | decide)))
  have t117 := gz_hi (p112 (p + 11) 1 (fun h => absurd h.2 (by first | exact gz_ne rfl | decide)))
  have t118 := gz_hi (p112 p 11 (fun h => absurd h.2 (by first | exact gz_ne rfl | decide)))
  show gv_X _ _ (74, [(0, .inr (.inr (some p))), (1, .inr (.inr (some a1))), (2, .inl a2)], [], sh, gc_h sh I111 J A)
  exact gv_vret hD rfl ⟨I111, J, rfl, hI111, FI111, FJ, ⟨rfl, by (/-52-/first | (and_intros; (have o1 := gz_sh t113; have o2 := gz_sh t28; have o3 := gz_sh t45; have o4 := gz_sh t62; have o5 := gz_sh t79; have o6 := gz_sh t96; omega); (have o1 := gz_sh t114; have o2 := gz_sh t18; have o3 := gz_sh t46; have o4 := gz_sh t63; have o5 := gz_sh t80; have o6 := gz_sh t97; omega); (have o1 := gz_sh t115; have o2 := gz_sh t19; have o3 := gz_sh t36; have o4 := gz_sh t64; have o5 := gz_sh t81; have o6 := gz_sh t98; omega); (have o1 := gz_sh t116; have o2 := gz_sh t20; have o3 := gz_sh t37; have o4 := gz_sh t54; have o5 := gz_sh t82; have o6 := gz_sh t99; omega); (have o1 := gz_sh t100; have o2 := gz_sh t117; have o3 := gz_sh t21; have o4 := gz_sh t38; have o5 := gz_sh t55; have o6 := gz_sh t72; omega); (have o1 := gz_sh t118; have o2 := gz_sh t22; have o3 := gz_sh t39; have o4 := gz_sh t56; have o5 := gz_sh t73; have o6 := gz_sh t90; omega); (have o1 := gz_sh t108; have o2 := gz_sh t23; have o3 := gz_sh t40; have o4 := gz_sh t57; have o5 := gz_sh t74; have o6 := gz_sh t91; omega)) | (simp only [gz_hd] at *; omega))⟩⟩
