def gc_ts7 (Im Is : gr_I) (q b : Nat) : Prop := Im 21 b = Is (q + 1) 1 ∧ Im 21 (b + 1) = Is (q + 3) 1 ∧ Im 21 (b + 2) = Is (q + 7) 1 ∧ Im 21 (b + 3) = Is q 6 ∧ Im 21 (b + 4) = Is (q + 11) 1 ∧ Im 21 (b + 5) = Is q 11 ∧ Im 21 (b + 6) = Is q 13
set_option maxHeartbeats 8000000 in
theorem gc_ts7_fr {Im Im' Is : gr_I} {q b : Nat} (h : gc_ts7 Im Is q b) (hf : ∀ k, k < 7 → Im' 21 (b + k) = Im 21 (b + k))   : gc_ts7 Im' Is q b := by
  unfold gc_ts7 at h ⊢
  obtain ⟨h0, h1, h2, h3, h4, h5, h6⟩ := h
  exact ⟨(hf 0 (by exact gz_m 0 (by omega))).trans h0, (hf 1 (by exact gz_m 1 (by omega))).trans h1, (hf 2 (by exact gz_m 2 (by omega))).trans h2, (hf 3 (by exact gz_m 3 (by omega))).trans h3, (hf 4 (by exact gz_m 4 (by omega))).trans h4, (hf 5 (by exact gz_m 5 (by omega))).trans h5, (hf 6 (by exact gz_m 6 (by omega))).trans h6⟩
def gc_mkT (A : gc_A) (Is Im : gr_I) (n : Int) : Prop := ∀ j : Nat, (j : Int) < n → ∀ q, A 10 j = some q → gc_ts7 Im Is q (7 + 7 * j)
set_option maxHeartbeats 8000000 in
set_option maxRecDepth 100000 in
theorem d_X11_saveSizes_w {ws0 : List Cond} {tb : String → gz_T} (hws : gc_Ws ws0) (htb : gc_tbs tb) (sh : gz_Sh) (ro : Nat → Nat) (I : gr_I) (J : gr_J) (A : gc_A) (hI : gc_Inv ro I) (p : Nat) (m : Nat) (a1 : Nat) (a2 : Int) (hp : gc_isTongue sh ro A p) (S_a1 : sh[a1]? = some (true, 1, m)) (R_a1 : ro a1 = 70) (B_a1 : a1 < 1000000) (M_a1 : m < 2147483648) (ha2 : 0 ≤ a2 ∧ a2 ≤ 1000) (x0 : a2 + 7 ≤ m) (x1 : 144 ≤ p) (x2 : a1 < 144) : ∃ r h', gz_Ev ws0 tb 1 (yX11_saveSizes, cX11_saveSizes, 3, none) [.inr (.inr (some p)), .inr (.inr (some a1)), .inl a2] sh (gc_h sh I J A) r sh h' 0 0 ∧ (∃ (I' : gr_I) (J' : gr_J), h' = gc_h sh I' J' A ∧ gc_Inv ro I' ∧ (∀ q j : Nat, ((q = a1 ∧ j = (Int.toNat a2)) ∨ (q = a1 ∧ j = (Int.toNat (a2 + 1))) ∨ (q = a1 ∧ j = (Int.toNat (a2 + 2))) ∨ (q = a1 ∧ j = (Int.toNat (a2 + 3))) ∨ (q = a1 ∧ j = (Int.toNat (a2 + 4))) ∨ (q = a1 ∧ j = (Int.toNat (a2 + 5))) ∨ (q = a1 ∧ j = (Int.toNat (a2 + 6)))) ∨ I' q j = I q j) ∧ (∀ q j : Nat, (False) ∨ J' q j = J q j) ∧ r = none ∧ (I' a1 (Int.toNat a2) = I (p + 1) 1) ∧ (I' a1 (Int.toNat (a2 + 1)) = I (p + 3) 1) ∧ (I' a1 (Int.toNat (a2 + 2)) = I (p + 7) 1) ∧ (I' a1 (Int.toNat (a2 + 3)) = I p 6) ∧ (I' a1 (Int.toNat (a2 + 4)) = I (p + 11) 1) ∧ (I' a1 (Int.toNat (a2 + 5)) = I p 11) ∧ (I' a1 (Int.toNat (a2 + 6)) = I p 13)) := by
  have FI : ∀ q j : Nat, ((q = a1 ∧ j = (Int.toNat a2)) ∨ (q = a1 ∧ j = (Int.toNat (a2 + 1))) ∨ (q = a1 ∧ j = (Int.toNat (a2 + 2))) ∨ (q = a1 ∧ j = (Int.toNat (a2 + 3))) ∨ (q = a1 ∧ j = (Int.toNat (a2 + 4))) ∨ (q = a1 ∧ j = (Int.toNat (a2 + 5))) ∨ (q = a1 ∧ j = (Int.toNat (a2 + 6)))) ∨ I q j = I q j := fun _ _ => Or.inr rfl
  have FJ : ∀ q j : Nat, (False) ∨ J q j = J q j := fun _ _ => Or.inr rfl
  obtain ⟨S_p, R_p, B_p, A_p_0, h_p_1, A_p_1, h_p_3, A_p_2, S_p_5, R_p_5, B_p_5, A_p_3, S_p_6, R_p_6, B_p_6, A_p_4, h_p_7, A_p_5, S_p_9, R_p_9, B_p_9, A_p_7, S_p_10, R_p_10, B_p_10, A_p_8, h_p_11, A_p_9, S_p_13, R_p_13, B_p_13, A_p_10, S_p_14, R_p_14, B_p_14, A_p_12, S_p_15, R_p_15, B_p_15, A_p_14, S_p_16, R_p_16, B_p_16, A_p_15, h_p_17⟩ := id hp
  obtain ⟨S_p_1, R_p_1, B_p_1, A_p_1_0, S_p_1_1, R_p_1_1, B_p_1_1, Q0_p_1, Q1_p_1, Q2_p_1⟩ := id h_p_1
  obtain ⟨S_p_3, R_p_3, B_p_3, A_p_3_0, S_p_3_1, R_p_3_1, B_p_3_1, Q0_p_3, Q1_p_3, Q2_p_3⟩ := id h_p_3
  obtain ⟨S_p_7, R_p_7, B_p_7, A_p_7_0, S_p_7_1, R_p_7_1, B_p_7_1, Q0_p_7, Q1_p_7, Q2_p_7⟩ := id h_p_7
  obtain ⟨S_p_11, R_p_11, B_p_11, A_p_11_0, S_p_11_1, R_p_11_1, B_p_11_1, Q0_p_11, Q1_p_11, Q2_p_11⟩ := id h_p_11
  obtain ⟨S_p_17, R_p_17, B_p_17, A_p_17_0, S_20, R_20, B_20, A_p_17_1, S_p_17_1, R_p_17_1, B_p_17_1, A_p_17_2, S_p_17_2, R_p_17_2, B_p_17_2, A_p_17_3, S_p_17_3, R_p_17_3, B_p_17_3, A_p_17_4, S_p_17_4, R_p_17_4, B_p_17_4, A_p_17_5, S_p_17_5, R_p_17_5, B_p_17_5, S_p_17_6, R_p_17_6, B_p_17_6, S_p_17_7, R_p_17_7, B_p_17_7⟩ := id h_p_17
  have hD : gv_D (gc_E11 ws0 tb 0 (yX11_saveSizes, cX11_saveSizes, 3, none) kX11_saveSizes) := gq_of oX11_saveSizes
  refine gc_ev11 (d := 0) (l := kX11_saveSizes) (Po := fun r h' => (∃ (I' : gr_I) (J' : gr_J), h' = gc_h sh I' J' A ∧ gc_Inv ro I' ∧ (∀ q j : Nat, ((q = a1 ∧ j = (Int.toNat a2)) ∨ (q = a1 ∧ j = (Int.toNat (a2 + 1))) ∨ (q = a1 ∧ j = (Int.toNat (a2 + 2))) ∨ (q = a1 ∧ j = (Int.toNat (a2 + 3))) ∨ (q = a1 ∧ j = (Int.toNat (a2 + 4))) ∨ (q = a1 ∧ j = (Int.toNat (a2 + 5))) ∨ (q = a1 ∧ j = (Int.toNat (a2 + 6)))) ∨ I' q j = I q j) ∧ (∀ q j : Nat, (False) ∨ J' q j = J q j) ∧ r = none ∧ (I' a1 (Int.toNat a2) = I (p + 1) 1) ∧ (I' a1 (Int.toNat (a2 + 1)) = I (p + 3) 1) ∧ (I' a1 (Int.toNat (a2 + 2)) = I (p + 7) 1) ∧ (I' a1 (Int.toNat (a2 + 3)) = I p 6) ∧ (I' a1 (Int.toNat (a2 + 4)) = I (p + 11) 1) ∧ (I' a1 (Int.toNat (a2 + 5)) = I p 11) ∧ (I' a1 (Int.toNat (a2 + 6)) = I p 13))) htb rfl (Nat.le_of_ble_eq_true rfl) ?_
  have N_p_1__a1 : ¬ ((p + 1) = a1) := by exact gz_m 0 (by omega)
  have N_p_3__a1 : ¬ ((p + 3) = a1) := by exact gz_m 1 (by omega)
  have N_p_7__a1 : ¬ ((p + 7) = a1) := by exact gz_m 2 (by omega)
  have N_p__a1 : ¬ (p = a1) := by exact gz_m 3 (by omega)
  have N_p_11__a1 : ¬ ((p + 11) = a1) := by exact gz_m 4 (by omega)
  have f1 := (show 0 ≤ I (p + 1) 1 ∧ I (p + 1) 1 ≤ 8 from gc_in hI R_p_1 rfl rfl)
  have f2 := (show 0 ≤ I (p + 3) 1 ∧ I (p + 3) 1 ≤ 48 from gc_in hI R_p_3 rfl rfl)
  have f3 := (show 0 ≤ I (p + 7) 1 ∧ I (p + 7) 1 ≤ 16 from gc_in hI R_p_7 rfl rfl)
  have f4 := (show 0 ≤ I p 6 ∧ I p 6 ≤ 24 from gc_in hI R_p rfl rfl)
  have f5 := (show 0 ≤ I (p + 11) 1 ∧ I (p + 11) 1 ≤ 24 from gc_in hI R_p_11 rfl rfl)
  have f6 := (show 0 ≤ I p 11 ∧ I p 11 ≤ 64 from gc_in hI R_p rfl rfl)
  have f7 := (show 0 ≤ I p 13 ∧ I p 13 ≤ 384 from gc_in hI R_p rfl rfl)
  refine gv_run 3 true hD (pc' := 3) (lv' := [(0, .inr (.inr (some p))), (1, .inr (.inr (some a1))), (2, .inl a2)]) (st' := [.inr (.inr (some p)), .inl a2, .inr (.inr (some a1))]) (h' := gc_h sh I J A) (C := (((True ∧ True) ∧ True) ∧ True)) rfl ⟨⟨⟨trivial, trivial⟩, trivial⟩, trivial⟩ ?_
  refine gv_get hD rfl rfl S_p ⟨by decide, B_p⟩ (gc_hA S_p rfl A_p_0) ?_
  show gv_X _ _ (6, [(0, .inr (.inr (some p))), (1, .inr (.inr (some a1))), (2, .inl a2)], [.inr (.inr (some (p + 1))), .inl a2, .inr (.inr (some a1))], sh, gc_h sh I J A)
  have f8 := (show 0 ≤ I (p + 1) 1 ∧ I (p + 1) 1 ≤ 8 from gc_in hI R_p_1 rfl rfl)
  refine gv_get hD rfl rfl S_p_1 ⟨by decide, B_p_1⟩ (gc_hI S_p_1 rfl) ?_
  show gv_X _ _ (9, [(0, .inr (.inr (some p))), (1, .inr (.inr (some a1))), (2, .inl a2)], [.inl (I (p + 1) 1), .inl a2, .inr (.inr (some a1))], sh, gc_h sh I J A)
  refine gv_iast hD rfl S_a1 ⟨by exact gz_m 5 (by omega), B_a1⟩ ⟨by exact gz_m 6 (by omega), by exact gz_m 7 (by omega)⟩ ?_
  refine gc_st hI S_a1 rfl R_a1 (lo := (-1)) (hi := 12000) rfl rfl (by exact gz_m 8 (by omega)) (by exact gz_m 9 (by omega)) (fun I9 hI9 q10 p10 => ?_)
  have FI9 := gc_frs (W := fun q j => (q = a1 ∧ j = (Int.toNat a2)) ∨ (q = a1 ∧ j = (Int.toNat (a2 + 1))) ∨ (q = a1 ∧ j = (Int.toNat (a2 + 2))) ∨ (q = a1 ∧ j = (Int.toNat (a2 + 3))) ∨ (q = a1 ∧ j = (Int.toNat (a2 + 4))) ∨ (q = a1 ∧ j = (Int.toNat (a2 + 5))) ∨ (q = a1 ∧ j = (Int.toNat (a2 + 6)))) FI (Or.inl ⟨rfl, rfl⟩) p10
  have t11 := p10 (p + 1) 1 (fun h => absurd h.1 N_p_1__a1)
  have t12 := p10 (p + 3) 1 (fun h => absurd h.1 N_p_3__a1)
  have t13 := p10 (p + 7) 1 (fun h => absurd h.1 N_p_7__a1)
  have t14 := p10 p 6 (fun h => absurd h.1 N_p__a1)
  have t15 := p10 (p + 11) 1 (fun h => absurd h.1 N_p_11__a1)
  have t16 := p10 p 11 (fun h => absurd h.1 N_p__a1)
  have t17 := p10 p 13 (fun h => absurd h.1 N_p__a1)
  have t18 := p10 a1 (Int.toNat (a2 + 1)) (fun h => absurd h.2 (by exact gz_m 10 (by omega)))
  have t19 := p10 a1 (Int.toNat (a2 + 2)) (fun h => absurd h.2 (by exact gz_m 11 (by omega)))
  have t20 := p10 a1 (Int.toNat (a2 + 3)) (fun h => absurd h.2 (by exact gz_m 12 (by omega)))
  have t21 := p10 a1 (Int.toNat (a2 + 4)) (fun h => absurd h.2 (by exact gz_m 13 (by omega)))
  have t22 := p10 a1 (Int.toNat (a2 + 5)) (fun h => absurd h.2 (by exact gz_m 14 (by omega)))
  have t23 := p10 a1 (Int.toNat (a2 + 6)) (fun h => absurd h.2 (by exact gz_m 15 (by omega)))
  show gv_X _ _ (10, [(0, .inr (.inr (some p))), (1, .inr (.inr (some a1))), (2, .inl a2)], [], sh, gc_h sh I9 J A)
  refine gv_run 5 true hD (pc' := 15) (lv' := [(0, .inr (.inr (some p))), (1, .inr (.inr (some a1))), (2, .inl a2)]) (st' := [.inr (.inr (some p)), .inl (a2 + 1), .inr (.inr (some a1))]) (h' := gc_h sh I9 J A) (C := (((((True ∧ True) ∧ True) ∧ True) ∧ True) ∧ True)) rfl ⟨⟨⟨⟨⟨trivial, trivial⟩, trivial⟩, trivial⟩, trivial⟩, trivial⟩ ?_
  refine gv_get hD rfl rfl S_p ⟨by decide, B_p⟩ (gc_hA S_p rfl A_p_1) ?_
  show gv_X _ _ (18, [(0, .inr (.inr (some p))), (1, .inr (.inr (some a1))), (2, .inl a2)], [.inr (.inr (some (p + 3))), .inl (a2 + 1), .inr (.inr (some a1))], sh, gc_h sh I9 J A)
  have f24 := (show 0 ≤ I9 (p + 3) 1 ∧ I9 (p + 3) 1 ≤ 48 from gc_in hI9 R_p_3 rfl rfl)
  refine gv_get hD rfl rfl S_p_3 ⟨by decide, B_p_3⟩ (gc_hI S_p_3 rfl) ?_
  show gv_X _ _ (21, [(0, .inr (.inr (some p))), (1, .inr (.inr (some a1))), (2, .inl a2)], [.inl (I9 (p + 3) 1), .inl (a2 + 1), .inr (.inr (some a1))], sh, gc_h sh I9 J A)
  refine gv_iast hD rfl S_a1 ⟨by exact gz_m 16 (by omega), B_a1⟩ ⟨by exact gz_m 17 (by omega), by exact gz_m 18 (by omega)⟩ ?_
  refine gc_st hI9 S_a1 rfl R_a1 (lo := (-1)) (hi := 12000) rfl rfl (by exact gz_m 19 (by omega)) (by exact gz_m 20 (by omega)) (fun I25 hI25 q26 p26 => ?_)
  have FI25 := gc_frs (W := fun q j => (q = a1 ∧ j = (Int.toNat a2)) ∨ (q = a1 ∧ j = (Int.toNat (a2 + 1))) ∨ (q = a1 ∧ j = (Int.toNat (a2 + 2))) ∨ (q = a1 ∧ j = (Int.toNat (a2 + 3))) ∨ (q = a1 ∧ j = (Int.toNat (a2 + 4))) ∨ (q = a1 ∧ j = (Int.toNat (a2 + 5))) ∨ (q = a1 ∧ j = (Int.toNat (a2 + 6)))) FI9 (Or.inr (Or.inl ⟨rfl, rfl⟩)) p26
  have t27 := p26 (p + 1) 1 (fun h => absurd h.1 N_p_1__a1)
  have t28 := p26 (p + 3) 1 (fun h => absurd h.1 N_p_3__a1)
  have t29 := p26 (p + 7) 1 (fun h => absurd h.1 N_p_7__a1)
  have t30 := p26 p 6 (fun h => absurd h.1 N_p__a1)
  have t31 := p26 (p + 11) 1 (fun h => absurd h.1 N_p_11__a1)
  have t32 := p26 p 11 (fun h => absurd h.1 N_p__a1)
  have t33 := p26 p 13 (fun h => absurd h.1 N_p__a1)
  have t34 := p26 a1 (Int.toNat a2) (fun h => absurd h.2 (by exact gz_m 21 (by omega)))
  have t35 := p26 a1 (Int.toNat (a2 + 2)) (fun h => absurd h.2 (by exact gz_m 22 (by omega)))
  have t36 := p26 a1 (Int.toNat (a2 + 3)) (fun h => absurd h.2 (by exact gz_m 23 (by omega)))
  have t37 := p26 a1 (Int.toNat (a2 + 4)) (fun h => absurd h.2 (by exact gz_m 24 (by omega)))
  have t38 := p26 a1 (Int.toNat (a2 + 5)) (fun h => absurd h.2 (by exact gz_m 25 (by omega)))
  have t39 := p26 a1 (Int.toNat (a2 + 6)) (fun h => absurd h.2 (by exact gz_m 26 (by omega)))
  show gv_X _ _ (22, [(0, .inr (.inr (some p))), (1, .inr (.inr (some a1))), (2, .inl a2)], [], sh, gc_h sh I25 J A)
  refine gv_run 5 true hD (pc' := 27) (lv' := [(0, .inr (.inr (some p))), (1, .inr (.inr (some a1))), (2, .inl a2)]) (st' := [.inr (.inr (some p)), .inl (a2 + 2), .inr (.inr (some a1))]) (h' := gc_h sh I25 J A) (C := (((((True ∧ True) ∧ True) ∧ True) ∧ True) ∧ True)) rfl ⟨⟨⟨⟨⟨trivial, trivial⟩, trivial⟩, trivial⟩, trivial⟩, trivial⟩ ?_
  refine gv_get hD rfl rfl S_p ⟨by decide, B_p⟩ (gc_hA S_p rfl A_p_4) ?_
  show gv_X _ _ (30, [(0, .inr (.inr (some p))), (1, .inr (.inr (some a1))), (2, .inl a2)], [.inr (.inr (some (p + 7))), .inl (a2 + 2), .inr (.inr (some a1))], sh, gc_h sh I25 J A)
  have f40 := (show 0 ≤ I25 (p + 7) 1 ∧ I25 (p + 7) 1 ≤ 16 from gc_in hI25 R_p_7 rfl rfl)
  refine gv_get hD rfl rfl S_p_7 ⟨by decide, B_p_7⟩ (gc_hI S_p_7 rfl) ?_
  show gv_X _ _ (33, [(0, .inr (.inr (some p))), (1, .inr (.inr (some a1))), (2, .inl a2)], [.inl (I25 (p + 7) 1), .inl (a2 + 2), .inr (.inr (some a1))], sh, gc_h sh I25 J A)
  refine gv_iast hD rfl S_a1 ⟨by exact gz_m 27 (by omega), B_a1⟩ ⟨by exact gz_m 28 (by omega), by exact gz_m 29 (by omega)⟩ ?_
  refine gc_st hI25 S_a1 rfl R_a1 (lo := (-1)) (hi := 12000) rfl rfl (by exact gz_m 30 (by omega)) (by exact gz_m 31 (by omega)) (fun I41 hI41 q42 p42 => ?_)
  have FI41 := gc_frs (W := fun q j => (q = a1 ∧ j = (Int.toNat a2)) ∨ (q = a1 ∧ j = (Int.toNat (a2 + 1))) ∨ (q = a1 ∧ j = (Int.toNat (a2 + 2))) ∨ (q = a1 ∧ j = (Int.toNat (a2 + 3))) ∨ (q = a1 ∧ j = (Int.toNat (a2 + 4))) ∨ (q = a1 ∧ j = (Int.toNat (a2 + 5))) ∨ (q = a1 ∧ j = (Int.toNat (a2 + 6)))) FI25 (Or.inr (Or.inr (Or.inl ⟨rfl, rfl⟩))) p42
  have t43 := p42 (p + 1) 1 (fun h => absurd h.1 N_p_1__a1)
  have t44 := p42 (p + 3) 1 (fun h => absurd h.1 N_p_3__a1)
  have t45 := p42 (p + 7) 1 (fun h => absurd h.1 N_p_7__a1)
  have t46 := p42 p 6 (fun h => absurd h.1 N_p__a1)
  have t47 := p42 (p + 11) 1 (fun h => absurd h.1 N_p_11__a1)
  have t48 := p42 p 11 (fun h => absurd h.1 N_p__a1)
  have t49 := p42 p 13 (fun h => absurd h.1 N_p__a1)
  have t50 := p42 a1 (Int.toNat a2) (fun h => absurd h.2 (by exact gz_m 32 (by omega)))
  have t51 := p42 a1 (Int.toNat (a2 + 1)) (fun h => absurd h.2 (by exact gz_m 33 (by omega)))
  have t52 := p42 a1 (Int.toNat (a2 + 3)) (fun h => absurd h.2 (by exact gz_m 34 (by omega)))
  have t53 := p42 a1 (Int.toNat (a2 + 4)) (fun h => absurd h.2 (by exact gz_m 35 (by omega)))
  have t54 := p42 a1 (Int.toNat (a2 + 5)) (fun h => absurd h.2 (by exact gz_m 36 (by omega)))
  have t55 := p42 a1 (Int.toNat (a2 + 6)) (fun h => absurd h.2 (by exact gz_m 37 (by omega)))
  show gv_X _ _ (34, [(0, .inr (.inr (some p))), (1, .inr (.inr (some a1))), (2, .inl a2)], [], sh, gc_h sh I41 J A)
  refine gv_run 5 true hD (pc' := 39) (lv' := [(0, .inr (.inr (some p))), (1, .inr (.inr (some a1))), (2, .inl a2)]) (st' := [.inr (.inr (some p)), .inl (a2 + 3), .inr (.inr (some a1))]) (h' := gc_h sh I41 J A) (C := (((((True ∧ True) ∧ True) ∧ True) ∧ True) ∧ True)) rfl ⟨⟨⟨⟨⟨trivial, trivial⟩, trivial⟩, trivial⟩, trivial⟩, trivial⟩ ?_
  have f56 := (show 0 ≤ I41 p 6 ∧ I41 p 6 ≤ 24 from gc_in hI41 R_p rfl rfl)
  refine gv_get hD rfl rfl S_p ⟨by decide, B_p⟩ (gc_hI S_p rfl) ?_
  show gv_X _ _ (42, [(0, .inr (.inr (some p))), (1, .inr (.inr (some a1))), (2, .inl a2)], [.inl (I41 p 6), .inl (a2 + 3), .inr (.inr (some a1))], sh, gc_h sh I41 J A)
  refine gv_iast hD rfl S_a1 ⟨by exact gz_m 38 (by omega), B_a1⟩ ⟨by exact gz_m 39 (by omega), by exact gz_m 40 (by omega)⟩ ?_
  refine gc_st hI41 S_a1 rfl R_a1 (lo := (-1)) (hi := 12000) rfl rfl (by exact gz_m 41 (by omega)) (by exact gz_m 42 (by omega)) (fun I57 hI57 q58 p58 => ?_)
  have FI57 := gc_frs (W := fun q j => (q = a1 ∧ j = (Int.toNat a2)) ∨ (q = a1 ∧ j = (Int.toNat (a2 + 1))) ∨ (q = a1 ∧ j = (Int.toNat (a2 + 2))) ∨ (q = a1 ∧ j = (Int.toNat (a2 + 3))) ∨ (q = a1 ∧ j = (Int.toNat (a2 + 4))) ∨ (q = a1 ∧ j = (Int.toNat (a2 + 5))) ∨ (q = a1 ∧ j = (Int.toNat (a2 + 6)))) FI41 (Or.inr (Or.inr (Or.inr (Or.inl ⟨rfl, rfl⟩)))) p58
  have t59 := p58 (p + 1) 1 (fun h => absurd h.1 N_p_1__a1)
  have t60 := p58 (p + 3) 1 (fun h => absurd h.1 N_p_3__a1)
  have t61 := p58 (p + 7) 1 (fun h => absurd h.1 N_p_7__a1)
  have t62 := p58 p 6 (fun h => absurd h.1 N_p__a1)
  have t63 := p58 (p + 11) 1 (fun h => absurd h.1 N_p_11__a1)
  have t64 := p58 p 11 (fun h => absurd h.1 N_p__a1)
  have t65 := p58 p 13 (fun h => absurd h.1 N_p__a1)
  have t66 := p58 a1 (Int.toNat a2) (fun h => absurd h.2 (by exact gz_m 43 (by omega)))
  have t67 := p58 a1 (Int.toNat (a2 + 1)) (fun h => absurd h.2 (by exact gz_m 44 (by omega)))
  have t68 := p58 a1 (Int.toNat (a2 + 2)) (fun h => absurd h.2 (by exact gz_m 45 (by omega)))
  have t69 := p58 a1 (Int.toNat (a2 + 4)) (fun h => absurd h.2 (by exact gz_m 46 (by omega)))
  have t70 := p58 a1 (Int.toNat (a2 + 5)) (fun h => absurd h.2 (by exact gz_m 47 (by omega)))
  have t71 := p58 a1 (Int.toNat (a2 + 6)) (fun h => absurd h.2 (by exact gz_m 48 (by omega)))
  show gv_X _ _ (43, [(0, .inr (.inr (some p))), (1, .inr (.inr (some a1))), (2, .inl a2)], [], sh, gc_h sh I57 J A)
  refine gv_run 5 true hD (pc' := 48) (lv' := [(0, .inr (.inr (some p))), (1, .inr (.inr (some a1))), (2, .inl a2)]) (st' := [.inr (.inr (some p)), .inl (a2 + 4), .inr (.inr (some a1))]) (h' := gc_h sh I57 J A) (C := (((((True ∧ True) ∧ True) ∧ True) ∧ True) ∧ True)) rfl ⟨⟨⟨⟨⟨trivial, trivial⟩, trivial⟩, trivial⟩, trivial⟩, trivial⟩ ?_
  refine gv_get hD rfl rfl S_p ⟨by decide, B_p⟩ (gc_hA S_p rfl A_p_8) ?_
  show gv_X _ _ (51, [(0, .inr (.inr (some p))), (1, .inr (.inr (some a1))), (2, .inl a2)], [.inr (.inr (some (p + 11))), .inl (a2 + 4), .inr (.inr (some a1))], sh, gc_h sh I57 J A)
  have f72 := (show 0 ≤ I57 (p + 11) 1 ∧ I57 (p + 11) 1 ≤ 24 from gc_in hI57 R_p_11 rfl rfl)
  refine gv_get hD rfl rfl S_p_11 ⟨by decide, B_p_11⟩ (gc_hI S_p_11 rfl) ?_
  show gv_X _ _ (54, [(0, .inr (.inr (some p))), (1, .inr (.inr (some a1))), (2, .inl a2)], [.inl (I57 (p + 11) 1), .inl (a2 + 4), .inr (.inr (some a1))], sh, gc_h sh I57 J A)
  refine gv_iast hD rfl S_a1 ⟨by exact gz_m 49 (by omega), B_a1⟩ ⟨by exact gz_m 50 (by omega), by exact gz_m 51 (by omega)⟩ ?_
  refine gc_st hI57 S_a1 rfl R_a1 (lo := (-1)) (hi := 12000) rfl rfl (by exact gz_m 52 (by omega)) (by exact gz_m 53 (by omega)) (fun I73 hI73 q74 p74 => ?_)
  have FI73 := gc_frs (W := fun q j => (q = a1 ∧ j = (Int.toNat a2)) ∨ (q = a1 ∧ j = (Int.toNat (a2 + 1))) ∨ (q = a1 ∧ j = (Int.toNat (a2 + 2))) ∨ (q = a1 ∧ j = (Int.toNat (a2 + 3))) ∨ (q = a1 ∧ j = (Int.toNat (a2 + 4))) ∨ (q = a1 ∧ j = (Int.toNat (a2 + 5))) ∨ (q = a1 ∧ j = (Int.toNat (a2 + 6)))) FI57 (Or.inr (Or.inr (Or.inr (Or.inr (Or.inl ⟨rfl, rfl⟩))))) p74
  have t75 := p74 (p + 1) 1 (fun h => absurd h.1 N_p_1__a1)
  have t76 := p74 (p + 3) 1 (fun h => absurd h.1 N_p_3__a1)
  have t77 := p74 (p + 7) 1 (fun h => absurd h.1 N_p_7__a1)
  have t78 := p74 p 6 (fun h => absurd h.1 N_p__a1)
  have t79 := p74 (p + 11) 1 (fun h => absurd h.1 N_p_11__a1)
  have t80 := p74 p 11 (fun h => absurd h.1 N_p__a1)
  have t81 := p74 p 13 (fun h => absurd h.1 N_p__a1)
  have t82 := p74 a1 (Int.toNat a2) (fun h => absurd h.2 (by exact gz_m 54 (by omega)))
  have t83 := p74 a1 (Int.toNat (a2 + 1)) (fun h => absurd h.2 (by exact gz_m 55 (by omega)))
  have t84 := p74 a1 (Int.toNat (a2 + 2)) (fun h => absurd h.2 (by exact gz_m 56 (by omega)))
  have t85 := p74 a1 (Int.toNat (a2 + 3)) (fun h => absurd h.2 (by exact gz_m 57 (by omega)))
  have t86 := p74 a1 (Int.toNat (a2 + 5)) (fun h => absurd h.2 (by exact gz_m 58 (by omega)))
  have t87 := p74 a1 (Int.toNat (a2 + 6)) (fun h => absurd h.2 (by exact gz_m 59 (by omega)))
  show gv_X _ _ (55, [(0, .inr (.inr (some p))), (1, .inr (.inr (some a1))), (2, .inl a2)], [], sh, gc_h sh I73 J A)
  refine gv_run 5 true hD (pc' := 60) (lv' := [(0, .inr (.inr (some p))), (1, .inr (.inr (some a1))), (2, .inl a2)]) (st' := [.inr (.inr (some p)), .inl (a2 + 5), .inr (.inr (some a1))]) (h' := gc_h sh I73 J A) (C := (((((True ∧ True) ∧ True) ∧ True) ∧ True) ∧ True)) rfl ⟨⟨⟨⟨⟨trivial, trivial⟩, trivial⟩, trivial⟩, trivial⟩, trivial⟩ ?_
  have f88 := (show 0 ≤ I73 p 11 ∧ I73 p 11 ≤ 64 from gc_in hI73 R_p rfl rfl)
  refine gv_get hD rfl rfl S_p ⟨by decide, B_p⟩ (gc_hI S_p rfl) ?_
  show gv_X _ _ (63, [(0, .inr (.inr (some p))), (1, .inr (.inr (some a1))), (2, .inl a2)], [.inl (I73 p 11), .inl (a2 + 5), .inr (.inr (some a1))], sh, gc_h sh I73 J A)
  refine gv_iast hD rfl S_a1 ⟨by exact gz_m 60 (by omega), B_a1⟩ ⟨by exact gz_m 61 (by omega), by exact gz_m 62 (by omega)⟩ ?_
  refine gc_st hI73 S_a1 rfl R_a1 (lo := (-1)) (hi := 12000) rfl rfl (by exact gz_m 63 (by omega)) (by exact gz_m 64 (by omega)) (fun I89 hI89 q90 p90 => ?_)
  have FI89 := gc_frs (W := fun q j => (q = a1 ∧ j = (Int.toNat a2)) ∨ (q = a1 ∧ j = (Int.toNat (a2 + 1))) ∨ (q = a1 ∧ j = (Int.toNat (a2 + 2))) ∨ (q = a1 ∧ j = (Int.toNat (a2 + 3))) ∨ (q = a1 ∧ j = (Int.toNat (a2 + 4))) ∨ (q = a1 ∧ j = (Int.toNat (a2 + 5))) ∨ (q = a1 ∧ j = (Int.toNat (a2 + 6)))) FI73 (Or.inr (Or.inr (Or.inr (Or.inr (Or.inr (Or.inl ⟨rfl, rfl⟩)))))) p90
  have t91 := p90 (p + 1) 1 (fun h => absurd h.1 N_p_1__a1)
  have t92 := p90 (p + 3) 1 (fun h => absurd h.1 N_p_3__a1)
  have t93 := p90 (p + 7) 1 (fun h => absurd h.1 N_p_7__a1)
  have t94 := p90 p 6 (fun h => absurd h.1 N_p__a1)
  have t95 := p90 (p + 11) 1 (fun h => absurd h.1 N_p_11__a1)
  have t96 := p90 p 11 (fun h => absurd h.1 N_p__a1)
  have t97 := p90 p 13 (fun h => absurd h.1 N_p__a1)
  have t98 := p90 a1 (Int.toNat a2) (fun h => absurd h.2 (by exact gz_m 65 (by omega)))
  have t99 := p90 a1 (Int.toNat (a2 + 1)) (fun h => absurd h.2 (by exact gz_m 66 (by omega)))
  have t100 := p90 a1 (Int.toNat (a2 + 2)) (fun h => absurd h.2 (by exact gz_m 67 (by omega)))
  have t101 := p90 a1 (Int.toNat (a2 + 3)) (fun h => absurd h.2 (by exact gz_m 68 (by omega)))
  have t102 := p90 a1 (Int.toNat (a2 + 4)) (fun h => absurd h.2 (by exact gz_m 69 (by omega)))
  have t103 := p90 a1 (Int.toNat (a2 + 6)) (fun h => absurd h.2 (by exact gz_m 70 (by omega)))
  show gv_X _ _ (64, [(0, .inr (.inr (some p))), (1, .inr (.inr (some a1))), (2, .inl a2)], [], sh, gc_h sh I89 J A)
  refine gv_run 5 true hD (pc' := 70) (lv' := [(0, .inr (.inr (some p))), (1, .inr (.inr (some a1))), (2, .inl a2)]) (st' := [.inr (.inr (some p)), .inl (a2 + 6), .inr (.inr (some a1))]) (h' := gc_h sh I89 J A) (C := (((((True ∧ True) ∧ True) ∧ True) ∧ True) ∧ True)) rfl ⟨⟨⟨⟨⟨trivial, trivial⟩, trivial⟩, trivial⟩, trivial⟩, trivial⟩ ?_
  have f104 := (show 0 ≤ I89 p 13 ∧ I89 p 13 ≤ 384 from gc_in hI89 R_p rfl rfl)
  refine gv_get hD rfl rfl S_p ⟨by decide, B_p⟩ (gc_hI S_p rfl) ?_
  show gv_X _ _ (73, [(0, .inr (.inr (some p))), (1, .inr (.inr (some a1))), (2, .inl a2)], [.inl (I89 p 13), .inl (a2 + 6), .inr (.inr (some a1))], sh, gc_h sh I89 J A)
  refine gv_iast hD rfl S_a1 ⟨by exact gz_m 71 (by omega), B_a1⟩ ⟨by exact gz_m 72 (by omega), by exact gz_m 73 (by omega)⟩ ?_
  refine gc_st hI89 S_a1 rfl R_a1 (lo := (-1)) (hi := 12000) rfl rfl (by exact gz_m 74 (by omega)) (by exact gz_m 75 (by omega)) (fun I105 hI105 q106 p106 => ?_)
  have FI105 := gc_frs (W := fun q j => (q = a1 ∧ j = (Int.toNat a2)) ∨ (q = a1 ∧ j = (Int.toNat (a2 + 1))) ∨ (q = a1 ∧ j = (Int.toNat (a2 + 2))) ∨ (q = a1 ∧ j = (Int.toNat (a2 + 3))) ∨ (q = a1 ∧ j = (Int.toNat (a2 + 4))) ∨ (q = a1 ∧ j = (Int.toNat (a2 + 5))) ∨ (q = a1 ∧ j = (Int.toNat (a2 + 6)))) FI89 (Or.inr (Or.inr (Or.inr (Or.inr (Or.inr (Or.inr ⟨rfl, rfl⟩)))))) p106
  have t107 := p106 (p + 1) 1 (fun h => absurd h.1 N_p_1__a1)
  have t108 := p106 (p + 3) 1 (fun h => absurd h.1 N_p_3__a1)
  have t109 := p106 (p + 7) 1 (fun h => absurd h.1 N_p_7__a1)
  have t110 := p106 p 6 (fun h => absurd h.1 N_p__a1)
  have t111 := p106 (p + 11) 1 (fun h => absurd h.1 N_p_11__a1)
  have t112 := p106 p 11 (fun h => absurd h.1 N_p__a1)
  have t113 := p106 p 13 (fun h => absurd h.1 N_p__a1)
  have t114 := p106 a1 (Int.toNat a2) (fun h => absurd h.2 (by exact gz_m 76 (by omega)))
  have t115 := p106 a1 (Int.toNat (a2 + 1)) (fun h => absurd h.2 (by exact gz_m 77 (by omega)))
  have t116 := p106 a1 (Int.toNat (a2 + 2)) (fun h => absurd h.2 (by exact gz_m 78 (by omega)))
  have t117 := p106 a1 (Int.toNat (a2 + 3)) (fun h => absurd h.2 (by exact gz_m 79 (by omega)))
  have t118 := p106 a1 (Int.toNat (a2 + 4)) (fun h => absurd h.2 (by exact gz_m 80 (by omega)))
  have t119 := p106 a1 (Int.toNat (a2 + 5)) (fun h => absurd h.2 (by exact gz_m 81 (by omega)))
  show gv_X _ _ (74, [(0, .inr (.inr (some p))), (1, .inr (.inr (some a1))), (2, .inl a2)], [], sh, gc_h sh I105 J A)
  exact gv_vret hD rfl ⟨I105, J, rfl, hI105, FI105, FJ, ⟨rfl, by exact gz_m 82 (by omega)⟩⟩
