def gc_ts7 (Im Is : gr_I) (q b : Nat) : Prop := Im 21 b = Is (q + 1) 1 ∧ Im 21 (b + 1) = Is (q + 3) 1 ∧ Im 21 (b + 2) = Is (q + 7) 1 ∧ Im 21 (b + 3) = Is q 6 ∧ Im 21 (b + 4) = Is (q + 11) 1 ∧ Im 21 (b + 5) = Is q 11 ∧ Im 21 (b + 6) = Is q 13
theorem gc_ts7_fr {Im Im' Is : gr_I} {q b : Nat} (h : gc_ts7 Im Is q b) (hf : ∀ k, k < 7 → Im' 21 (b + k) = Im 21 (b + k))   : gc_ts7 Im' Is q b := by
  unfold gc_ts7 at h ⊢
  obtain ⟨h0, h1, h2, h3, h4, h5, h6⟩ := h
  exact ⟨(hf 0 (by omega)).trans h0, (hf 1 (by omega)).trans h1, (hf 2 (by omega)).trans h2, (hf 3 (by omega)).trans h3, (hf 4 (by omega)).trans h4, (hf 5 (by omega)).trans h5, (hf 6 (by omega)).trans h6⟩
def gc_mkT (A : gc_A) (Is Im : gr_I) (n : Int) : Prop := ∀ j : Nat, (j : Int) < n → ∀ q, A 10 j = some q → gc_ts7 Im Is q (7 + 7 * j)
set_option maxHeartbeats 8000000 in
set_option maxRecDepth 100000 in
theorem d_X11_saveSizes_w {ws0 : List Cond} {tb : String → gz_T} (hws : gc_Ws ws0) (htb : gc_tbs tb) (sh : gz_Sh) (ro : Nat → Nat) (I : gr_I) (J : gr_J) (A : gc_A) (hI : gc_Inv ro I) (p : Nat) (m : Nat) (a1 : Nat) (a2 : Int) (hp : gc_isTongue sh ro A p) (S_a1 : sh[a1]? = some (true, 1, m)) (R_a1 : ro a1 = 70) (B_a1 : a1 < 1000000) (M_a1 : m < 2147483648) (ha2 : 0 ≤ a2 ∧ a2 ≤ 1000) (x0 : a2 + 7 ≤ m) (x1 : 144 ≤ p) (x2 : a1 < 144) : ∃ r hₚ, gz_Ev ws0 tb 1 (yX11_saveSizes, cX11_saveSizes, 3, none) [.inr (.inr (some p)), .inr (.inr (some a1)), .inl a2] sh (gc_h sh I J A) r sh hₚ 0 0 ∧ (∃ (Iₚ : gr_I) (Jₚ : gr_J), hₚ = gc_h sh Iₚ Jₚ A ∧ gc_Inv ro Iₚ ∧ (∀ q j : Nat, ((q = a1 ∧ j = (Int.toNat a2)) ∨ (q = a1 ∧ j = (Int.toNat (a2 + 1))) ∨ (q = a1 ∧ j = (Int.toNat (a2 + 2))) ∨ (q = a1 ∧ j = (Int.toNat (a2 + 3))) ∨ (q = a1 ∧ j = (Int.toNat (a2 + 4))) ∨ (q = a1 ∧ j = (Int.toNat (a2 + 5))) ∨ (q = a1 ∧ j = (Int.toNat (a2 + 6)))) ∨ Iₚ q j = I q j) ∧ (∀ q j : Nat, (False) ∨ Jₚ q j = J q j) ∧ r = none ∧ (Iₚ a1 (Int.toNat a2) = I (p + 1) 1) ∧ (Iₚ a1 (Int.toNat (a2 + 1)) = I (p + 3) 1) ∧ (Iₚ a1 (Int.toNat (a2 + 2)) = I (p + 7) 1) ∧ (Iₚ a1 (Int.toNat (a2 + 3)) = I p 6) ∧ (Iₚ a1 (Int.toNat (a2 + 4)) = I (p + 11) 1) ∧ (Iₚ a1 (Int.toNat (a2 + 5)) = I p 11) ∧ (Iₚ a1 (Int.toNat (a2 + 6)) = I p 13)) := by
  have FI : ∀ q j : Nat, ((q = a1 ∧ j = (Int.toNat a2)) ∨ (q = a1 ∧ j = (Int.toNat (a2 + 1))) ∨ (q = a1 ∧ j = (Int.toNat (a2 + 2))) ∨ (q = a1 ∧ j = (Int.toNat (a2 + 3))) ∨ (q = a1 ∧ j = (Int.toNat (a2 + 4))) ∨ (q = a1 ∧ j = (Int.toNat (a2 + 5))) ∨ (q = a1 ∧ j = (Int.toNat (a2 + 6)))) ∨ I q j = I q j := fun _ _ => Or.inr rfl
  have FJ : ∀ q j : Nat, (False) ∨ J q j = J q j := fun _ _ => Or.inr rfl
  obtain ⟨S_p, R_p, B_p, A_p_0, h_p_1, A_p_1, h_p_3, A_p_2, S_p_5, R_p_5, B_p_5, A_p_3, S_p_6, R_p_6, B_p_6, A_p_4, h_p_7, A_p_5, S_p_9, R_p_9, B_p_9, A_p_7, S_p_10, R_p_10, B_p_10, A_p_8, h_p_11, A_p_9, S_p_13, R_p_13, B_p_13, A_p_10, S_p_14, R_p_14, B_p_14, A_p_12, S_p_15, R_p_15, B_p_15, A_p_14, S_p_16, R_p_16, B_p_16, A_p_15, h_p_17⟩ := id hp
  replace R_p := gz_hi R_p
  replace B_p := gz_hi B_p
  replace R_p_5 := gz_hi R_p_5
  replace B_p_5 := gz_hi B_p_5
  replace R_p_6 := gz_hi R_p_6
  replace B_p_6 := gz_hi B_p_6
  replace R_p_9 := gz_hi R_p_9
  replace B_p_9 := gz_hi B_p_9
  replace R_p_10 := gz_hi R_p_10
  replace B_p_10 := gz_hi B_p_10
  replace R_p_13 := gz_hi R_p_13
  replace B_p_13 := gz_hi B_p_13
  replace R_p_14 := gz_hi R_p_14
  replace B_p_14 := gz_hi B_p_14
  replace R_p_15 := gz_hi R_p_15
  replace B_p_15 := gz_hi B_p_15
  replace R_p_16 := gz_hi R_p_16
  replace B_p_16 := gz_hi B_p_16
  obtain ⟨S_p_1, R_p_1, B_p_1, A_p_1_0, S_p_1_1, R_p_1_1, B_p_1_1, Q0_p_1, Q1_p_1, Q2_p_1⟩ := id h_p_1
  replace R_p_1 := gz_hi R_p_1
  replace B_p_1 := gz_hi B_p_1
  replace R_p_1_1 := gz_hi R_p_1_1
  replace B_p_1_1 := gz_hi B_p_1_1
  obtain ⟨S_p_3, R_p_3, B_p_3, A_p_3_0, S_p_3_1, R_p_3_1, B_p_3_1, Q0_p_3, Q1_p_3, Q2_p_3⟩ := id h_p_3
  replace R_p_3 := gz_hi R_p_3
  replace B_p_3 := gz_hi B_p_3
  replace R_p_3_1 := gz_hi R_p_3_1
  replace B_p_3_1 := gz_hi B_p_3_1
  obtain ⟨S_p_7, R_p_7, B_p_7, A_p_7_0, S_p_7_1, R_p_7_1, B_p_7_1, Q0_p_7, Q1_p_7, Q2_p_7⟩ := id h_p_7
  replace R_p_7 := gz_hi R_p_7
  replace B_p_7 := gz_hi B_p_7
  replace R_p_7_1 := gz_hi R_p_7_1
  replace B_p_7_1 := gz_hi B_p_7_1
  obtain ⟨S_p_11, R_p_11, B_p_11, A_p_11_0, S_p_11_1, R_p_11_1, B_p_11_1, Q0_p_11, Q1_p_11, Q2_p_11⟩ := id h_p_11
  replace R_p_11 := gz_hi R_p_11
  replace B_p_11 := gz_hi B_p_11
  replace R_p_11_1 := gz_hi R_p_11_1
  replace B_p_11_1 := gz_hi B_p_11_1
  obtain ⟨S_p_17, R_p_17, B_p_17, A_p_17_0, S_20, R_20, B_20, A_p_17_1, S_p_17_1, R_p_17_1, B_p_17_1, A_p_17_2, S_p_17_2, R_p_17_2, B_p_17_2, A_p_17_3, S_p_17_3, R_p_17_3, B_p_17_3, A_p_17_4, S_p_17_4, R_p_17_4, B_p_17_4, A_p_17_5, S_p_17_5, R_p_17_5, B_p_17_5, S_p_17_6, R_p_17_6, B_p_17_6, S_p_17_7, R_p_17_7, B_p_17_7⟩ := id h_p_17
  replace R_p_17 := gz_hi R_p_17
  replace B_p_17 := gz_hi B_p_17
  replace R_20 := gz_hi R_20
  replace B_20 := gz_hi B_20
  replace R_p_17_1 := gz_hi R_p_17_1
  replace B_p_17_1 := gz_hi B_p_17_1
  replace R_p_17_2 := gz_hi R_p_17_2
  replace B_p_17_2 := gz_hi B_p_17_2
  replace R_p_17_3 := gz_hi R_p_17_3
  replace B_p_17_3 := gz_hi B_p_17_3
  replace R_p_17_4 := gz_hi R_p_17_4
  replace B_p_17_4 := gz_hi B_p_17_4
  replace R_p_17_5 := gz_hi R_p_17_5
  replace B_p_17_5 := gz_hi B_p_17_5
  replace R_p_17_6 := gz_hi R_p_17_6
  replace B_p_17_6 := gz_hi B_p_17_6
  replace R_p_17_7 := gz_hi R_p_17_7
  replace B_p_17_7 := gz_hi B_p_17_7
  have hD : gv_D (gc_E11 ws0 tb 0 (yX11_saveSizes, cX11_saveSizes, 3, none) kX11_saveSizes) := gq_of oX11_saveSizes
  refine gc_ev11 (d := 0) (l := kX11_saveSizes) (Po := fun r hₚ => (∃ (Iₚ : gr_I) (Jₚ : gr_J), hₚ = gc_h sh Iₚ Jₚ A ∧ gc_Inv ro Iₚ ∧ (∀ q j : Nat, ((q = a1 ∧ j = (Int.toNat a2)) ∨ (q = a1 ∧ j = (Int.toNat (a2 + 1))) ∨ (q = a1 ∧ j = (Int.toNat (a2 + 2))) ∨ (q = a1 ∧ j = (Int.toNat (a2 + 3))) ∨ (q = a1 ∧ j = (Int.toNat (a2 + 4))) ∨ (q = a1 ∧ j = (Int.toNat (a2 + 5))) ∨ (q = a1 ∧ j = (Int.toNat (a2 + 6)))) ∨ Iₚ q j = I q j) ∧ (∀ q j : Nat, (False) ∨ Jₚ q j = J q j) ∧ r = none ∧ (Iₚ a1 (Int.toNat a2) = I (p + 1) 1) ∧ (Iₚ a1 (Int.toNat (a2 + 1)) = I (p + 3) 1) ∧ (Iₚ a1 (Int.toNat (a2 + 2)) = I (p + 7) 1) ∧ (Iₚ a1 (Int.toNat (a2 + 3)) = I p 6) ∧ (Iₚ a1 (Int.toNat (a2 + 4)) = I (p + 11) 1) ∧ (Iₚ a1 (Int.toNat (a2 + 5)) = I p 11) ∧ (Iₚ a1 (Int.toNat (a2 + 6)) = I p 13))) htb rfl (Nat.le_of_ble_eq_true rfl) ?_
  have N_p_1__a1 := gz_hi (show ¬ ((p + 1) = a1) from by (/-0-/first | (have o1 := gz_sh B_p; have o2 := gz_sh B_p_10; have o3 := gz_sh B_p_13; have o4 := gz_sh B_p_14; have o5 := gz_sh B_p_15; have o6 := gz_sh B_p_16; have o7 := gz_sh B_p_17; have o8 := gz_sh B_p_17_1; have o9 := gz_sh B_p_17_2; have o10 := gz_sh B_p_17_3; have o11 := gz_sh B_p_17_4; have o12 := gz_sh B_p_17_5; have o13 := gz_sh B_p_17_6; have o14 := gz_sh B_p_17_7; have o15 := gz_sh B_p_5; have o16 := gz_sh B_p_6; have o17 := gz_sh B_p_9; omega) | (simp only [gz_hd] at *; omega)))
  have N_p_3__a1 := gz_hi (show ¬ ((p + 3) = a1) from by (/-1-/first | (have o1 := gz_sh B_p; have o2 := gz_sh B_p_10; have o3 := gz_sh B_p_13; have o4 := gz_sh B_p_14; have o5 := gz_sh B_p_15; have o6 := gz_sh B_p_16; have o7 := gz_sh B_p_17; have o8 := gz_sh B_p_17_1; have o9 := gz_sh B_p_17_2; have o10 := gz_sh B_p_17_3; have o11 := gz_sh B_p_17_4; have o12 := gz_sh B_p_17_5; have o13 := gz_sh B_p_17_6; have o14 := gz_sh B_p_17_7; have o15 := gz_sh B_p_5; have o16 := gz_sh B_p_6; have o17 := gz_sh B_p_9; omega) | (simp only [gz_hd] at *; omega)))
  have N_p_7__a1 := gz_hi (show ¬ ((p + 7) = a1) from by (/-2-/first | (have o1 := gz_sh B_p; have o2 := gz_sh B_p_10; have o3 := gz_sh B_p_13; have o4 := gz_sh B_p_14; have o5 := gz_sh B_p_15; have o6 := gz_sh B_p_16; have o7 := gz_sh B_p_17; have o8 := gz_sh B_p_17_1; have o9 := gz_sh B_p_17_2; have o10 := gz_sh B_p_17_3; have o11 := gz_sh B_p_17_4; have o12 := gz_sh B_p_17_5; have o13 := gz_sh B_p_17_6; have o14 := gz_sh B_p_17_7; have o15 := gz_sh B_p_5; have o16 := gz_sh B_p_6; have o17 := gz_sh B_p_9; omega) | (simp only [gz_hd] at *; omega)))
  have N_p__a1 := gz_hi (show ¬ (p = a1) from by (/-3-/first | (have o1 := gz_sh B_p; have o2 := gz_sh B_p_10; have o3 := gz_sh B_p_13; have o4 := gz_sh B_p_14; have o5 := gz_sh B_p_15; have o6 := gz_sh B_p_16; have o7 := gz_sh B_p_17; have o8 := gz_sh B_p_17_1; have o9 := gz_sh B_p_17_2; have o10 := gz_sh B_p_17_3; have o11 := gz_sh B_p_17_4; have o12 := gz_sh B_p_17_5; have o13 := gz_sh B_p_17_6; have o14 := gz_sh B_p_17_7; have o15 := gz_sh B_p_5; have o16 := gz_sh B_p_6; have o17 := gz_sh B_p_9; omega) | (simp only [gz_hd] at *; omega)))
  have N_p_11__a1 := gz_hi (show ¬ ((p + 11) = a1) from by (/-4-/first | (have o1 := gz_sh B_p; have o2 := gz_sh B_p_10; have o3 := gz_sh B_p_13; have o4 := gz_sh B_p_14; have o5 := gz_sh B_p_15; have o6 := gz_sh B_p_16; have o7 := gz_sh B_p_17; have o8 := gz_sh B_p_17_1; have o9 := gz_sh B_p_17_2; have o10 := gz_sh B_p_17_3; have o11 := gz_sh B_p_17_4; have o12 := gz_sh B_p_17_5; have o13 := gz_sh B_p_17_6; have o14 := gz_sh B_p_17_7; have o15 := gz_sh B_p_5; have o16 := gz_sh B_p_6; have o17 := gz_sh B_p_9; omega) | (simp only [gz_hd] at *; omega)))
  have f1 := gz_hi ((show 0 ≤ I (p + 1) 1 ∧ I (p + 1) 1 ≤ 8 from gc_in2 hI (gz_sh R_p_1) rfl rfl rfl))
  have f2 := gz_hi ((show 0 ≤ I (p + 3) 1 ∧ I (p + 3) 1 ≤ 48 from gc_in2 hI (gz_sh R_p_3) rfl rfl rfl))
  have f3 := gz_hi ((show 0 ≤ I (p + 7) 1 ∧ I (p + 7) 1 ≤ 16 from gc_in2 hI (gz_sh R_p_7) rfl rfl rfl))
  have f4 := gz_hi ((show 0 ≤ I p 6 ∧ I p 6 ≤ 24 from gc_in2 hI (gz_sh R_p) rfl rfl rfl))
  have f5 := gz_hi ((show 0 ≤ I (p + 11) 1 ∧ I (p + 11) 1 ≤ 24 from gc_in2 hI (gz_sh R_p_11) rfl rfl rfl))
  have f6 := gz_hi ((show 0 ≤ I p 11 ∧ I p 11 ≤ 64 from gc_in2 hI (gz_sh R_p) rfl rfl rfl))
  have f7 := gz_hi ((show 0 ≤ I p 13 ∧ I p 13 ≤ 384 from gc_in2 hI (gz_sh R_p) rfl rfl rfl))
  refine gv_run 3 true hD (pcₚ := 3) (lvₚ := [(0, .inr (.inr (some p))), (1, .inr (.inr (some a1))), (2, .inl a2)]) (stₚ := [.inr (.inr (some p)), .inl a2, .inr (.inr (some a1))]) (hₚ := gc_h sh I J A) (C := (((True ∧ True) ∧ True) ∧ True)) rfl ⟨⟨⟨trivial, trivial⟩, trivial⟩, trivial⟩ ?_
  refine gv_get hD rfl rfl S_p ⟨by decide, (gz_sh B_p)⟩ (gc_hA S_p rfl A_p_0) ?_
  show gv_X _ _ (6, [(0, .inr (.inr (some p))), (1, .inr (.inr (some a1))), (2, .inl a2)], [.inr (.inr (some (p + 1))), .inl a2, .inr (.inr (some a1))], sh, gc_h sh I J A)
  refine gv_get hD rfl rfl S_p_1 ⟨by decide, (gz_sh B_p_1)⟩ (gc_hI S_p_1 rfl) ?_
  show gv_X _ _ (9, [(0, .inr (.inr (some p))), (1, .inr (.inr (some a1))), (2, .inl a2)], [.inl (I (p + 1) 1), .inl a2, .inr (.inr (some a1))], sh, gc_h sh I J A)
  refine gv_iast hD rfl S_a1 ⟨by (/-5-/first | omega | (simp only [gz_hd] at *; omega)), B_a1⟩ ⟨by (/-6-/first | omega | (simp only [gz_hd] at *; omega)), by (/-7-/first | omega | (simp only [gz_hd] at *; omega))⟩ ?_
  refine gc_st hI S_a1 rfl R_a1 (lo := (-1)) (hi := 12000) rfl rfl (by (/-8-/first | (have o1 := gz_sh f1; omega) | (simp only [gz_hd] at *; omega))) (by (/-9-/first | (have o1 := gz_sh f1; omega) | (simp only [gz_hd] at *; omega))) (fun I9 hI9 q10 p10 => ?_)
  have FI9 := gc_frs (W := fun q j => (q = a1 ∧ j = (Int.toNat a2)) ∨ (q = a1 ∧ j = (Int.toNat (a2 + 1))) ∨ (q = a1 ∧ j = (Int.toNat (a2 + 2))) ∨ (q = a1 ∧ j = (Int.toNat (a2 + 3))) ∨ (q = a1 ∧ j = (Int.toNat (a2 + 4))) ∨ (q = a1 ∧ j = (Int.toNat (a2 + 5))) ∨ (q = a1 ∧ j = (Int.toNat (a2 + 6)))) FI (Or.inl ⟨rfl, rfl⟩) p10
  have t11 := gz_hi (p10 (p + 1) 1 (fun h => absurd h.1 (gz_sh N_p_1__a1)))
  have t12 := gz_hi (p10 (p + 3) 1 (fun h => absurd h.1 (gz_sh N_p_3__a1)))
  have t13 := gz_hi (p10 (p + 7) 1 (fun h => absurd h.1 (gz_sh N_p_7__a1)))
  have t14 := gz_hi (p10 p 6 (fun h => absurd h.1 (gz_sh N_p__a1)))
  have t15 := gz_hi (p10 (p + 11) 1 (fun h => absurd h.1 (gz_sh N_p_11__a1)))
  have t16 := gz_hi (p10 p 11 (fun h => absurd h.1 (gz_sh N_p__a1)))
  have t17 := gz_hi (p10 p 13 (fun h => absurd h.1 (gz_sh N_p__a1)))
  show gv_X _ _ (10, [(0, .inr (.inr (some p))), (1, .inr (.inr (some a1))), (2, .inl a2)], [], sh, gc_h sh I9 J A)
  refine gv_run 5 true hD (pcₚ := 15) (lvₚ := [(0, .inr (.inr (some p))), (1, .inr (.inr (some a1))), (2, .inl a2)]) (stₚ := [.inr (.inr (some p)), .inl (a2 + 1), .inr (.inr (some a1))]) (hₚ := gc_h sh I9 J A) (C := (((((True ∧ True) ∧ True) ∧ True) ∧ True) ∧ True)) rfl ⟨⟨⟨⟨⟨trivial, trivial⟩, trivial⟩, trivial⟩, trivial⟩, trivial⟩ ?_
  refine gv_get hD rfl rfl S_p ⟨by decide, (gz_sh B_p)⟩ (gc_hA S_p rfl A_p_1) ?_
  show gv_X _ _ (18, [(0, .inr (.inr (some p))), (1, .inr (.inr (some a1))), (2, .inl a2)], [.inr (.inr (some (p + 3))), .inl (a2 + 1), .inr (.inr (some a1))], sh, gc_h sh I9 J A)
  refine gv_get hD rfl rfl S_p_3 ⟨by decide, (gz_sh B_p_3)⟩ (gc_hI S_p_3 rfl) ?_
  show gv_X _ _ (21, [(0, .inr (.inr (some p))), (1, .inr (.inr (some a1))), (2, .inl a2)], [.inl (I9 (p + 3) 1), .inl (a2 + 1), .inr (.inr (some a1))], sh, gc_h sh I9 J A)
  refine gv_iast hD rfl S_a1 ⟨by (/-16-/first | omega | (simp only [gz_hd] at *; omega)), B_a1⟩ ⟨by (/-17-/first | omega | (simp only [gz_hd] at *; omega)), by (/-18-/first | omega | (simp only [gz_hd] at *; omega))⟩ ?_
  refine gc_st hI9 S_a1 rfl R_a1 (lo := (-1)) (hi := 12000) rfl rfl (by (/-19-/first | (have o1 := gz_sh f2; have o2 := gz_sh t12; omega) | (simp only [gz_hd] at *; omega))) (by (/-20-/first | (have o1 := gz_sh f2; have o2 := gz_sh t12; omega) | (simp only [gz_hd] at *; omega))) (fun I25 hI25 q26 p26 => ?_)
  have FI25 := gc_frs (W := fun q j => (q = a1 ∧ j = (Int.toNat a2)) ∨ (q = a1 ∧ j = (Int.toNat (a2 + 1))) ∨ (q = a1 ∧ j = (Int.toNat (a2 + 2))) ∨ (q = a1 ∧ j = (Int.toNat (a2 + 3))) ∨ (q = a1 ∧ j = (Int.toNat (a2 + 4))) ∨ (q = a1 ∧ j = (Int.toNat (a2 + 5))) ∨ (q = a1 ∧ j = (Int.toNat (a2 + 6)))) FI9 (Or.inr (Or.inl ⟨rfl, rfl⟩)) p26
  have t27 := gz_hi (p26 (p + 1) 1 (fun h => absurd h.1 (gz_sh N_p_1__a1)))
  have t28 := gz_hi (p26 (p + 3) 1 (fun h => absurd h.1 (gz_sh N_p_3__a1)))
  have t29 := gz_hi (p26 (p + 7) 1 (fun h => absurd h.1 (gz_sh N_p_7__a1)))
  have t30 := gz_hi (p26 p 6 (fun h => absurd h.1 (gz_sh N_p__a1)))
  have t31 := gz_hi (p26 (p + 11) 1 (fun h => absurd h.1 (gz_sh N_p_11__a1)))
  have t32 := gz_hi (p26 p 11 (fun h => absurd h.1 (gz_sh N_p__a1)))
  have t33 := gz_hi (p26 p 13 (fun h => absurd h.1 (gz_sh N_p__a1)))
  have t34 := gz_hi (p26 a1 (Int.toNat a2) (fun h => absurd h.2 (by (/-21-/first | omega | (simp only [gz_hd] at *; omega)))))
  show gv_X _ _ (22, [(0, .inr (.inr (some p))), (1, .inr (.inr (some a1))), (2, .inl a2)], [], sh, gc_h sh I25 J A)
  refine gv_run 5 true hD (pcₚ := 27) (lvₚ := [(0, .inr (.inr (some p))), (1, .inr (.inr (some a1))), (2, .inl a2)]) (stₚ := [.inr (.inr (some p)), .inl (a2 + 2), .inr (.inr (some a1))]) (hₚ := gc_h sh I25 J A) (C := (((((True ∧ True) ∧ True) ∧ True) ∧ True) ∧ True)) rfl ⟨⟨⟨⟨⟨trivial, trivial⟩, trivial⟩, trivial⟩, trivial⟩, trivial⟩ ?_
  refine gv_get hD rfl rfl S_p ⟨by decide, (gz_sh B_p)⟩ (gc_hA S_p rfl A_p_4) ?_
  show gv_X _ _ (30, [(0, .inr (.inr (some p))), (1, .inr (.inr (some a1))), (2, .inl a2)], [.inr (.inr (some (p + 7))), .inl (a2 + 2), .inr (.inr (some a1))], sh, gc_h sh I25 J A)
  refine gv_get hD rfl rfl S_p_7 ⟨by decide, (gz_sh B_p_7)⟩ (gc_hI S_p_7 rfl) ?_
  show gv_X _ _ (33, [(0, .inr (.inr (some p))), (1, .inr (.inr (some a1))), (2, .inl a2)], [.inl (I25 (p + 7) 1), .inl (a2 + 2), .inr (.inr (some a1))], sh, gc_h sh I25 J A)
  refine gv_iast hD rfl S_a1 ⟨by (/-27-/first | omega | (simp only [gz_hd] at *; omega)), B_a1⟩ ⟨by (/-28-/first | omega | (simp only [gz_hd] at *; omega)), by (/-29-/first | omega | (simp only [gz_hd] at *; omega))⟩ ?_
  refine gc_st hI25 S_a1 rfl R_a1 (lo := (-1)) (hi := 12000) rfl rfl (by (/-30-/first | (have o1 := gz_sh f3; have o2 := gz_sh t13; have o3 := gz_sh t29; omega) | (simp only [gz_hd] at *; omega))) (by (/-31-/first | (have o1 := gz_sh f3; have o2 := gz_sh t13; have o3 := gz_sh t29; omega) | (simp only [gz_hd] at *; omega))) (fun I41 hI41 q42 p42 => ?_)
  have FI41 := gc_frs (W := fun q j => (q = a1 ∧ j = (Int.toNat a2)) ∨ (q = a1 ∧ j = (Int.toNat (a2 + 1))) ∨ (q = a1 ∧ j = (Int.toNat (a2 + 2))) ∨ (q = a1 ∧ j = (Int.toNat (a2 + 3))) ∨ (q = a1 ∧ j = (Int.toNat (a2 + 4))) ∨ (q = a1 ∧ j = (Int.toNat (a2 + 5))) ∨ (q = a1 ∧ j = (Int.toNat (a2 + 6)))) FI25 (Or.inr (Or.inr (Or.inl ⟨rfl, rfl⟩))) p42
  have t43 := gz_hi (p42 (p + 1) 1 (fun h => absurd h.1 (gz_sh N_p_1__a1)))
  have t44 := gz_hi (p42 (p + 3) 1 (fun h => absurd h.1 (gz_sh N_p_3__a1)))
  have t45 := gz_hi (p42 (p + 7) 1 (fun h => absurd h.1 (gz_sh N_p_7__a1)))
  have t46 := gz_hi (p42 p 6 (fun h => absurd h.1 (gz_sh N_p__a1)))
  have t47 := gz_hi (p42 (p + 11) 1 (fun h => absurd h.1 (gz_sh N_p_11__a1)))
  have t48 := gz_hi (p42 p 11 (fun h => absurd h.1 (gz_sh N_p__a1)))
  have t49 := gz_hi (p42 p 13 (fun h => absurd h.1 (gz_sh N_p__a1)))
  have t50 := gz_hi (p42 a1 (Int.toNat a2) (fun h => absurd h.2 (by (/-32-/first | omega | (simp only [gz_hd] at *; omega)))))
  have t51 := gz_hi (p42 a1 (Int.toNat (a2 + 1)) (fun h => absurd h.2 (by (/-33-/first | omega | (simp only [gz_hd] at *; omega)))))
  show gv_X _ _ (34, [(0, .inr (.inr (some p))), (1, .inr (.inr (some a1))), (2, .inl a2)], [], sh, gc_h sh I41 J A)
  refine gv_run 5 true hD (pcₚ := 39) (lvₚ := [(0, .inr (.inr (some p))), (1, .inr (.inr (some a1))), (2, .inl a2)]) (stₚ := [.inr (.inr (some p)), .inl (a2 + 3), .inr (.inr (some a1))]) (hₚ := gc_h sh I41 J A) (C := (((((True ∧ True) ∧ True) ∧ True) ∧ True) ∧ True)) rfl ⟨⟨⟨⟨⟨trivial, trivial⟩, trivial⟩, trivial⟩, trivial⟩, trivial⟩ ?_
  refine gv_get hD rfl rfl S_p ⟨by decide, (gz_sh B_p)⟩ (gc_hI S_p rfl) ?_
  show gv_X _ _ (42, [(0, .inr (.inr (some p))), (1, .inr (.inr (some a1))), (2, .inl a2)], [.inl (I41 p 6), .inl (a2 + 3), .inr (.inr (some a1))], sh, gc_h sh I41 J A)
  refine gv_iast hD rfl S_a1 ⟨by (/-38-/first | omega | (simp only [gz_hd] at *; omega)), B_a1⟩ ⟨by (/-39-/first | omega | (simp only [gz_hd] at *; omega)), by (/-40-/first | omega | (simp only [gz_hd] at *; omega))⟩ ?_
  refine gc_st hI41 S_a1 rfl R_a1 (lo := (-1)) (hi := 12000) rfl rfl (by (/-41-/first | (have o1 := gz_sh f4; have o2 := gz_sh t14; have o3 := gz_sh t30; have o4 := gz_sh t46; omega) | (simp only [gz_hd] at *; omega))) (by (/-42-/first | (have o1 := gz_sh f4; have o2 := gz_sh t14; have o3 := gz_sh t30; have o4 := gz_sh t46; omega) | (simp only [gz_hd] at *; omega))) (fun I57 hI57 q58 p58 => ?_)
  have FI57 := gc_frs (W := fun q j => (q = a1 ∧ j = (Int.toNat a2)) ∨ (q = a1 ∧ j = (Int.toNat (a2 + 1))) ∨ (q = a1 ∧ j = (Int.toNat (a2 + 2))) ∨ (q = a1 ∧ j = (Int.toNat (a2 + 3))) ∨ (q = a1 ∧ j = (Int.toNat (a2 + 4))) ∨ (q = a1 ∧ j = (Int.toNat (a2 + 5))) ∨ (q = a1 ∧ j = (Int.toNat (a2 + 6)))) FI41 (Or.inr (Or.inr (Or.inr (Or.inl ⟨rfl, rfl⟩)))) p58
  have t59 := gz_hi (p58 (p + 1) 1 (fun h => absurd h.1 (gz_sh N_p_1__a1)))
  have t60 := gz_hi (p58 (p + 3) 1 (fun h => absurd h.1 (gz_sh N_p_3__a1)))
  have t61 := gz_hi (p58 (p + 7) 1 (fun h => absurd h.1 (gz_sh N_p_7__a1)))
  have t62 := gz_hi (p58 p 6 (fun h => absurd h.1 (gz_sh N_p__a1)))
  have t63 := gz_hi (p58 (p + 11) 1 (fun h => absurd h.1 (gz_sh N_p_11__a1)))
  have t64 := gz_hi (p58 p 11 (fun h => absurd h.1 (gz_sh N_p__a1)))
  have t65 := gz_hi (p58 p 13 (fun h => absurd h.1 (gz_sh N_p__a1)))
  have t66 := gz_hi (p58 a1 (Int.toNat a2) (fun h => absurd h.2 (by (/-43-/first | omega | (simp only [gz_hd] at *; omega)))))
  have t67 := gz_hi (p58 a1 (Int.toNat (a2 + 1)) (fun h => absurd h.2 (by (/-44-/first | omega | (simp only [gz_hd] at *; omega)))))
  have t68 := gz_hi (p58 a1 (Int.toNat (a2 + 2)) (fun h => absurd h.2 (by (/-45-/first | omega | (simp only [gz_hd] at *; omega)))))
  show gv_X _ _ (43, [(0, .inr (.inr (some p))), (1, .inr (.inr (some a1))), (2, .inl a2)], [], sh, gc_h sh I57 J A)
  refine gv_run 5 true hD (pcₚ := 48) (lvₚ := [(0, .inr (.inr (some p))), (1, .inr (.inr (some a1))), (2, .inl a2)]) (stₚ := [.inr (.inr (some p)), .inl (a2 + 4), .inr (.inr (some a1))]) (hₚ := gc_h sh I57 J A) (C := (((((True ∧ True) ∧ True) ∧ True) ∧ True) ∧ True)) rfl ⟨⟨⟨⟨⟨trivial, trivial⟩, trivial⟩, trivial⟩, trivial⟩, trivial⟩ ?_
  refine gv_get hD rfl rfl S_p ⟨by decide, (gz_sh B_p)⟩ (gc_hA S_p rfl A_p_8) ?_
  show gv_X _ _ (51, [(0, .inr (.inr (some p))), (1, .inr (.inr (some a1))), (2, .inl a2)], [.inr (.inr (some (p + 11))), .inl (a2 + 4), .inr (.inr (some a1))], sh, gc_h sh I57 J A)
  refine gv_get hD rfl rfl S_p_11 ⟨by decide, (gz_sh B_p_11)⟩ (gc_hI S_p_11 rfl) ?_
  show gv_X _ _ (54, [(0, .inr (.inr (some p))), (1, .inr (.inr (some a1))), (2, .inl a2)], [.inl (I57 (p + 11) 1), .inl (a2 + 4), .inr (.inr (some a1))], sh, gc_h sh I57 J A)
  refine gv_iast hD rfl S_a1 ⟨by (/-49-/first | omega | (simp only [gz_hd] at *; omega)), B_a1⟩ ⟨by (/-50-/first | omega | (simp only [gz_hd] at *; omega)), by (/-51-/first | omega | (simp only [gz_hd] at *; omega))⟩ ?_
  refine gc_st hI57 S_a1 rfl R_a1 (lo := (-1)) (hi := 12000) rfl rfl (by (/-52-/first | (have o1 := gz_sh f5; have o2 := gz_sh t15; have o3 := gz_sh t31; have o4 := gz_sh t47; have o5 := gz_sh t63; omega) | (simp only [gz_hd] at *; omega))) (by (/-53-/first | (have o1 := gz_sh f5; have o2 := gz_sh t15; have o3 := gz_sh t31; have o4 := gz_sh t47; have o5 := gz_sh t63; omega) | (simp only [gz_hd] at *; omega))) (fun I73 hI73 q74 p74 => ?_)
  have FI73 := gc_frs (W := fun q j => (q = a1 ∧ j = (Int.toNat a2)) ∨ (q = a1 ∧ j = (Int.toNat (a2 + 1))) ∨ (q = a1 ∧ j = (Int.toNat (a2 + 2))) ∨ (q = a1 ∧ j = (Int.toNat (a2 + 3))) ∨ (q = a1 ∧ j = (Int.toNat (a2 + 4))) ∨ (q = a1 ∧ j = (Int.toNat (a2 + 5))) ∨ (q = a1 ∧ j = (Int.toNat (a2 + 6)))) FI57 (Or.inr (Or.inr (Or.inr (Or.inr (Or.inl ⟨rfl, rfl⟩))))) p74
  have t75 := gz_hi (p74 (p + 1) 1 (fun h => absurd h.1 (gz_sh N_p_1__a1)))
  have t76 := gz_hi (p74 (p + 3) 1 (fun h => absurd h.1 (gz_sh N_p_3__a1)))
  have t77 := gz_hi (p74 (p + 7) 1 (fun h => absurd h.1 (gz_sh N_p_7__a1)))
  have t78 := gz_hi (p74 p 6 (fun h => absurd h.1 (gz_sh N_p__a1)))
  have t79 := gz_hi (p74 (p + 11) 1 (fun h => absurd h.1 (gz_sh N_p_11__a1)))
  have t80 := gz_hi (p74 p 11 (fun h => absurd h.1 (gz_sh N_p__a1)))
  have t81 := gz_hi (p74 p 13 (fun h => absurd h.1 (gz_sh N_p__a1)))
  have t82 := gz_hi (p74 a1 (Int.toNat a2) (fun h => absurd h.2 (by (/-54-/first | omega | (simp only [gz_hd] at *; omega)))))
  have t83 := gz_hi (p74 a1 (Int.toNat (a2 + 1)) (fun h => absurd h.2 (by (/-55-/first | omega | (simp only [gz_hd] at *; omega)))))
  have t84 := gz_hi (p74 a1 (Int.toNat (a2 + 2)) (fun h => absurd h.2 (by (/-56-/first | omega | (simp only [gz_hd] at *; omega)))))
  have t85 := gz_hi (p74 a1 (Int.toNat (a2 + 3)) (fun h => absurd h.2 (by (/-57-/first | omega | (simp only [gz_hd] at *; omega)))))
  show gv_X _ _ (55, [(0, .inr (.inr (some p))), (1, .inr (.inr (some a1))), (2, .inl a2)], [], sh, gc_h sh I73 J A)
  refine gv_run 5 true hD (pcₚ := 60) (lvₚ := [(0, .inr (.inr (some p))), (1, .inr (.inr (some a1))), (2, .inl a2)]) (stₚ := [.inr (.inr (some p)), .inl (a2 + 5), .inr (.inr (some a1))]) (hₚ := gc_h sh I73 J A) (C := (((((True ∧ True) ∧ True) ∧ True) ∧ True) ∧ True)) rfl ⟨⟨⟨⟨⟨trivial, trivial⟩, trivial⟩, trivial⟩, trivial⟩, trivial⟩ ?_
  refine gv_get hD rfl rfl S_p ⟨by decide, (gz_sh B_p)⟩ (gc_hI S_p rfl) ?_
  show gv_X _ _ (63, [(0, .inr (.inr (some p))), (1, .inr (.inr (some a1))), (2, .inl a2)], [.inl (I73 p 11), .inl (a2 + 5), .inr (.inr (some a1))], sh, gc_h sh I73 J A)
  refine gv_iast hD rfl S_a1 ⟨by (/-60-/first | omega | (simp only [gz_hd] at *; omega)), B_a1⟩ ⟨by (/-61-/first | omega | (simp only [gz_hd] at *; omega)), by (/-62-/first | omega | (simp only [gz_hd] at *; omega))⟩ ?_
  refine gc_st hI73 S_a1 rfl R_a1 (lo := (-1)) (hi := 12000) rfl rfl (by (/-63-/first | (have o1 := gz_sh f6; have o2 := gz_sh t16; have o3 := gz_sh t32; have o4 := gz_sh t48; have o5 := gz_sh t64; have o6 := gz_sh t80; omega) | (simp only [gz_hd] at *; omega))) (by (/-64-/first | (have o1 := gz_sh f6; have o2 := gz_sh t16; have o3 := gz_sh t32; have o4 := gz_sh t48; have o5 := gz_sh t64; have o6 := gz_sh t80; omega) | (simp only [gz_hd] at *; omega))) (fun I89 hI89 q90 p90 => ?_)
  have FI89 := gc_frs (W := fun q j => (q = a1 ∧ j = (Int.toNat a2)) ∨ (q = a1 ∧ j = (Int.toNat (a2 + 1))) ∨ (q = a1 ∧ j = (Int.toNat (a2 + 2))) ∨ (q = a1 ∧ j = (Int.toNat (a2 + 3))) ∨ (q = a1 ∧ j = (Int.toNat (a2 + 4))) ∨ (q = a1 ∧ j = (Int.toNat (a2 + 5))) ∨ (q = a1 ∧ j = (Int.toNat (a2 + 6)))) FI73 (Or.inr (Or.inr (Or.inr (Or.inr (Or.inr (Or.inl ⟨rfl, rfl⟩)))))) p90
  have t91 := gz_hi (p90 (p + 1) 1 (fun h => absurd h.1 (gz_sh N_p_1__a1)))
  have t92 := gz_hi (p90 (p + 3) 1 (fun h => absurd h.1 (gz_sh N_p_3__a1)))
  have t93 := gz_hi (p90 (p + 7) 1 (fun h => absurd h.1 (gz_sh N_p_7__a1)))
  have t94 := gz_hi (p90 p 6 (fun h => absurd h.1 (gz_sh N_p__a1)))
  have t95 := gz_hi (p90 (p + 11) 1 (fun h => absurd h.1 (gz_sh N_p_11__a1)))
  have t96 := gz_hi (p90 p 11 (fun h => absurd h.1 (gz_sh N_p__a1)))
  have t97 := gz_hi (p90 p 13 (fun h => absurd h.1 (gz_sh N_p__a1)))
  have t98 := gz_hi (p90 a1 (Int.toNat a2) (fun h => absurd h.2 (by (/-65-/first | omega | (simp only [gz_hd] at *; omega)))))
  have t99 := gz_hi (p90 a1 (Int.toNat (a2 + 1)) (fun h => absurd h.2 (by (/-66-/first | omega | (simp only [gz_hd] at *; omega)))))
  have t100 := gz_hi (p90 a1 (Int.toNat (a2 + 2)) (fun h => absurd h.2 (by (/-67-/first | omega | (simp only [gz_hd] at *; omega)))))
  have t101 := gz_hi (p90 a1 (Int.toNat (a2 + 3)) (fun h => absurd h.2 (by (/-68-/first | omega | (simp only [gz_hd] at *; omega)))))
  have t102 := gz_hi (p90 a1 (Int.toNat (a2 + 4)) (fun h => absurd h.2 (by (/-69-/first | omega | (simp only [gz_hd] at *; omega)))))
  show gv_X _ _ (64, [(0, .inr (.inr (some p))), (1, .inr (.inr (some a1))), (2, .inl a2)], [], sh, gc_h sh I89 J A)
  refine gv_run 5 true hD (pcₚ := 70) (lvₚ := [(0, .inr (.inr (some p))), (1, .inr (.inr (some a1))), (2, .inl a2)]) (stₚ := [.inr (.inr (some p)), .inl (a2 + 6), .inr (.inr (some a1))]) (hₚ := gc_h sh I89 J A) (C := (((((True ∧ True) ∧ True) ∧ True) ∧ True) ∧ True)) rfl ⟨⟨⟨⟨⟨trivial, trivial⟩, trivial⟩, trivial⟩, trivial⟩, trivial⟩ ?_
  refine gv_get hD rfl rfl S_p ⟨by decide, (gz_sh B_p)⟩ (gc_hI S_p rfl) ?_
  show gv_X _ _ (73, [(0, .inr (.inr (some p))), (1, .inr (.inr (some a1))), (2, .inl a2)], [.inl (I89 p 13), .inl (a2 + 6), .inr (.inr (some a1))], sh, gc_h sh I89 J A)
  refine gv_iast hD rfl S_a1 ⟨by (/-71-/first | omega | (simp only [gz_hd] at *; omega)), B_a1⟩ ⟨by (/-72-/first | omega | (simp only [gz_hd] at *; omega)), by (/-73-/first | omega | (simp only [gz_hd] at *; omega))⟩ ?_
  refine gc_st hI89 S_a1 rfl R_a1 (lo := (-1)) (hi := 12000) rfl rfl (by (/-74-/first | (have o1 := gz_sh f7; have o2 := gz_sh t17; have o3 := gz_sh t33; have o4 := gz_sh t49; have o5 := gz_sh t65; have o6 := gz_sh t81; have o7 := gz_sh t97; omega) | (simp only [gz_hd] at *; omega))) (by (/-75-/first | (have o1 := gz_sh f7; have o2 := gz_sh t17; have o3 := gz_sh t33; have o4 := gz_sh t49; have o5 := gz_sh t65; have o6 := gz_sh t81; have o7 := gz_sh t97; omega) | (simp only [gz_hd] at *; omega))) (fun I105 hI105 q106 p106 => ?_)
  have FI105 := gc_frs (W := fun q j => (q = a1 ∧ j = (Int.toNat a2)) ∨ (q = a1 ∧ j = (Int.toNat (a2 + 1))) ∨ (q = a1 ∧ j = (Int.toNat (a2 + 2))) ∨ (q = a1 ∧ j = (Int.toNat (a2 + 3))) ∨ (q = a1 ∧ j = (Int.toNat (a2 + 4))) ∨ (q = a1 ∧ j = (Int.toNat (a2 + 5))) ∨ (q = a1 ∧ j = (Int.toNat (a2 + 6)))) FI89 (Or.inr (Or.inr (Or.inr (Or.inr (Or.inr (Or.inr ⟨rfl, rfl⟩)))))) p106
  have t107 := gz_hi (p106 (p + 1) 1 (fun h => absurd h.1 (gz_sh N_p_1__a1)))
  have t108 := gz_hi (p106 (p + 3) 1 (fun h => absurd h.1 (gz_sh N_p_3__a1)))
  have t109 := gz_hi (p106 (p + 7) 1 (fun h => absurd h.1 (gz_sh N_p_7__a1)))
  have t110 := gz_hi (p106 p 6 (fun h => absurd h.1 (gz_sh N_p__a1)))
  have t111 := gz_hi (p106 (p + 11) 1 (fun h => absurd h.1 (gz_sh N_p_11__a1)))
  have t112 := gz_hi (p106 p 11 (fun h => absurd h.1 (gz_sh N_p__a1)))
  have t114 := gz_hi (p106 a1 (Int.toNat a2) (fun h => absurd h.2 (by (/-76-/first | omega | (simp only [gz_hd] at *; omega)))))
  have t115 := gz_hi (p106 a1 (Int.toNat (a2 + 1)) (fun h => absurd h.2 (by (/-77-/first | omega | (simp only [gz_hd] at *; omega)))))
  have t116 := gz_hi (p106 a1 (Int.toNat (a2 + 2)) (fun h => absurd h.2 (by (/-78-/first | omega | (simp only [gz_hd] at *; omega)))))
  have t117 := gz_hi (p106 a1 (Int.toNat (a2 + 3)) (fun h => absurd h.2 (by (/-79-/first | omega | (simp only [gz_hd] at *; omega)))))
  have t118 := gz_hi (p106 a1 (Int.toNat (a2 + 4)) (fun h => absurd h.2 (by (/-80-/first | omega | (simp only [gz_hd] at *; omega)))))
  have t119 := gz_hi (p106 a1 (Int.toNat (a2 + 5)) (fun h => absurd h.2 (by (/-81-/first | omega | (simp only [gz_hd] at *; omega)))))
  show gv_X _ _ (74, [(0, .inr (.inr (some p))), (1, .inr (.inr (some a1))), (2, .inl a2)], [], sh, gc_h sh I105 J A)
  exact gv_vret hD rfl ⟨I105, J, rfl, hI105, FI105, FJ, ⟨rfl, by (/-82-/first | (and_intros; (have o1 := gz_sh t114; have o2 := gz_sh t34; have o3 := gz_sh t50; have o4 := gz_sh t66; have o5 := gz_sh t82; have o6 := gz_sh t98; omega); (have o1 := gz_sh t115; have o2 := gz_sh t12; have o3 := gz_sh t51; have o4 := gz_sh t67; have o5 := gz_sh t83; have o6 := gz_sh t99; omega); (have o1 := gz_sh t100; have o2 := gz_sh t116; have o3 := gz_sh t13; have o4 := gz_sh t29; have o5 := gz_sh t68; have o6 := gz_sh t84; omega); (have o1 := gz_sh t101; have o2 := gz_sh t117; have o3 := gz_sh t14; have o4 := gz_sh t30; have o5 := gz_sh t46; have o6 := gz_sh t85; omega); (have o1 := gz_sh t102; have o2 := gz_sh t118; have o3 := gz_sh t15; have o4 := gz_sh t31; have o5 := gz_sh t47; have o6 := gz_sh t63; omega); (have o1 := gz_sh t119; have o2 := gz_sh t16; have o3 := gz_sh t32; have o4 := gz_sh t48; have o5 := gz_sh t64; have o6 := gz_sh t80; omega); (have o1 := gz_sh t17; have o2 := gz_sh t33; have o3 := gz_sh t49; have o4 := gz_sh t65; have o5 := gz_sh t81; have o6 := gz_sh t97; omega)) | (simp only [gz_hd] at *; omega))⟩⟩
