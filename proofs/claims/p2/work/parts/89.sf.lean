def gc_ts7 (Im Is : gr_I) (q b : Nat) : Prop := Im 21 b = Is (q + 1) 1 ∧ Im 21 (b + 1) = Is (q + 3) 1 ∧ Im 21 (b + 2) = Is (q + 7) 1 ∧ Im 21 (b + 3) = Is q 6 ∧ Im 21 (b + 4) = Is (q + 11) 1 ∧ Im 21 (b + 5) = Is q 11 ∧ Im 21 (b + 6) = Is q 13
theorem gc_ts7_fr {Im Im' Is : gr_I} {q b : Nat} (h : gc_ts7 Im Is q b) (hf : ∀ k, k < 7 → Im' 21 (b + k) = Im 21 (b + k))   : gc_ts7 Im' Is q b := by
  unfold gc_ts7 at h ⊢
  obtain ⟨h0, h1, h2, h3, h4, h5, h6⟩ := h
  exact ⟨(hf 0 (by omega)).trans h0, (hf 1 (by omega)).trans h1, (hf 2 (by omega)).trans h2, (hf 3 (by omega)).trans h3, (hf 4 (by omega)).trans h4, (hf 5 (by omega)).trans h5, (hf 6 (by omega)).trans h6⟩
def gc_mkT (A : gc_A) (Is Im : gr_I) (n : Int) : Prop := ∀ j : Nat, (j : Int) < n → ∀ q, A 10 j = some q → gc_ts7 Im Is q (7 + 7 * j)
set_option maxHeartbeats 4000000 in
set_option maxRecDepth 100000 in
theorem d_X11_saveSizes_w {ws0 : List Cond} {tb : String → gz_T} (hws : gc_Ws ws0) (htb : gc_tbs tb) (sh : gz_Sh) (ro : Nat → Nat) (I : gr_I) (J : gr_J) (A : gc_A) (hI : gc_Inv ro I) (p : Nat) (m : Nat) (a1 : Nat) (a2 : Int) (hp : gc_isTongue sh ro A p) (S_a1 : sh[a1]? = some (true, 1, m)) (R_a1 : ro a1 = 70) (B_a1 : a1 < 1000000) (M_a1 : m < 2147483648) (ha2 : 0 ≤ a2 ∧ a2 ≤ 1000) (x0 : a2 + 7 ≤ m) (x1 : 144 ≤ p) (x2 : a1 < 144) : ∃ r h', gz_Ev ws0 tb 1 (yX11_saveSizes, cX11_saveSizes, 3, none) [.inr (.inr (some p)), .inr (.inr (some a1)), .inl a2] sh (gc_h sh I J A) r sh h' 0 0 ∧ (∃ (I' : gr_I) (J' : gr_J), h' = gc_h sh I' J' A ∧ gc_Inv ro I' ∧ (∀ q j : Nat, ((q = a1 ∧ j = (Int.toNat a2)) ∨ (q = a1 ∧ j = (Int.toNat (a2 + 1))) ∨ (q = a1 ∧ j = (Int.toNat (a2 + 2))) ∨ (q = a1 ∧ j = (Int.toNat (a2 + 3))) ∨ (q = a1 ∧ j = (Int.toNat (a2 + 4))) ∨ (q = a1 ∧ j = (Int.toNat (a2 + 5))) ∨ (q = a1 ∧ j = (Int.toNat (a2 + 6)))) ∨ I' q j = I q j) ∧ (∀ q j : Nat, (False) ∨ J' q j = J q j) ∧ r = none ∧ (I' a1 (Int.toNat a2) = I (p + 1) 1) ∧ (I' a1 (Int.toNat (a2 + 1)) = I (p + 3) 1) ∧ (I' a1 (Int.toNat (a2 + 2)) = I (p + 7) 1) ∧ (I' a1 (Int.toNat (a2 + 3)) = I p 6) ∧ (I' a1 (Int.toNat (a2 + 4)) = I (p + 11) 1) ∧ (I' a1 (Int.toNat (a2 + 5)) = I p 11) ∧ (I' a1 (Int.toNat (a2 + 6)) = I p 13)) := by
  have FI : ∀ q j : Nat, ((q = a1 ∧ j = (Int.toNat a2)) ∨ (q = a1 ∧ j = (Int.toNat (a2 + 1))) ∨ (q = a1 ∧ j = (Int.toNat (a2 + 2))) ∨ (q = a1 ∧ j = (Int.toNat (a2 + 3))) ∨ (q = a1 ∧ j = (Int.toNat (a2 + 4))) ∨ (q = a1 ∧ j = (Int.toNat (a2 + 5))) ∨ (q = a1 ∧ j = (Int.toNat (a2 + 6)))) ∨ I q j = I q j := fun _ _ => Or.inr rfl
  have FJ : ∀ q j : Nat, (False) ∨ J q j = J q j := fun _ _ => Or.inr rfl
  obtain ⟨S_p, R_p, B_p, A_p_0, h_p_1, A_p_1, h_p_3, A_p_2, S_p_5, R_p_5, B_p_5, A_p_3, S_p_6, R_p_6, B_p_6, A_p_4, h_p_7, A_p_5, S_p_9, R_p_9, B_p_9, A_p_7, S_p_10, R_p_10, B_p_10, A_p_8, h_p_11, A_p_9, S_p_13, R_p_13, B_p_13, A_p_10, S_p_14, R_p_14, B_p_14, A_p_12, S_p_15, R_p_15, B_p_15, A_p_14, S_p_16, R_p_16, B_p_16, A_p_15, h_p_17⟩ := id hp
  obtain ⟨S_p_1, R_p_1, B_p_1, A_p_1_0, S_p_1_1, R_p_1_1, B_p_1_1, Q0_p_1, Q1_p_1, Q2_p_1⟩ := id h_p_1
  obtain ⟨S_p_3, R_p_3, B_p_3, A_p_3_0, S_p_3_1, R_p_3_1, B_p_3_1, Q0_p_3, Q1_p_3, Q2_p_3⟩ := id h_p_3
  obtain ⟨S_p_7, R_p_7, B_p_7, A_p_7_0, S_p_7_1, R_p_7_1, B_p_7_1, Q0_p_7, Q1_p_7, Q2_p_7⟩ := id h_p_7
  obtain ⟨S_p_11, R_p_11, B_p_11, A_p_11_0, S_p_11_1, R_p_11_1, B_p_11_1, Q0_p_11, Q1_p_11, Q2_p_11⟩ := id h_p_11
  obtain ⟨S_p_17, R_p_17, B_p_17, A_p_17_0, S_20, R_20, B_20, A_p_17_1, S_p_17_1, R_p_17_1, B_p_17_1, A_p_17_2, S_p_17_2, R_p_17_2, B_p_17_2, A_p_17_3, S_p_17_3, R_p_17_3, B_p_17_3, A_p_17_4, S_p_17_4, R_p_17_4, B_p_17_4, A_p_17_5, S_p_17_5, R_p_17_5, B_p_17_5, S_p_17_6, R_p_17_6, B_p_17_6, S_p_17_7, R_p_17_7, B_p_17_7⟩ := id h_p_17
  have hD : gv_D (gc_E11 ws0 tb 0 (yX11_saveSizes, cX11_saveSizes, 3, none) kX11_saveSizes) := gq_ok oX11_saveSizes
  refine gc_ev11 (d := 0) (l := kX11_saveSizes) (Po := fun r h' => (∃ (I' : gr_I) (J' : gr_J), h' = gc_h sh I' J' A ∧ gc_Inv ro I' ∧ (∀ q j : Nat, ((q = a1 ∧ j = (Int.toNat a2)) ∨ (q = a1 ∧ j = (Int.toNat (a2 + 1))) ∨ (q = a1 ∧ j = (Int.toNat (a2 + 2))) ∨ (q = a1 ∧ j = (Int.toNat (a2 + 3))) ∨ (q = a1 ∧ j = (Int.toNat (a2 + 4))) ∨ (q = a1 ∧ j = (Int.toNat (a2 + 5))) ∨ (q = a1 ∧ j = (Int.toNat (a2 + 6)))) ∨ I' q j = I q j) ∧ (∀ q j : Nat, (False) ∨ J' q j = J q j) ∧ r = none ∧ (I' a1 (Int.toNat a2) = I (p + 1) 1) ∧ (I' a1 (Int.toNat (a2 + 1)) = I (p + 3) 1) ∧ (I' a1 (Int.toNat (a2 + 2)) = I (p + 7) 1) ∧ (I' a1 (Int.toNat (a2 + 3)) = I p 6) ∧ (I' a1 (Int.toNat (a2 + 4)) = I (p + 11) 1) ∧ (I' a1 (Int.toNat (a2 + 5)) = I p 11) ∧ (I' a1 (Int.toNat (a2 + 6)) = I p 13))) htb rfl (Nat.le_of_ble_eq_true rfl) ?_
  have N_p_1__a1 : ¬ ((p + 1) = a1) := by omega
  have N_p_3__a1 : ¬ ((p + 3) = a1) := by omega
  have N_p_7__a1 : ¬ ((p + 7) = a1) := by omega
  have N_p__a1 : ¬ (p = a1) := by omega
  have N_p_11__a1 : ¬ ((p + 11) = a1) := by omega
  have f1 := (show 0 ≤ I (p + 1) 1 ∧ I (p + 1) 1 ≤ 8 from gc_in hI R_p_1 rfl rfl)
  have f2 := (show 0 ≤ I (p + 3) 1 ∧ I (p + 3) 1 ≤ 48 from gc_in hI R_p_3 rfl rfl)
  have f3 := (show 0 ≤ I (p + 7) 1 ∧ I (p + 7) 1 ≤ 16 from gc_in hI R_p_7 rfl rfl)
  have f4 := (show 0 ≤ I p 6 ∧ I p 6 ≤ 24 from gc_in hI R_p rfl rfl)
  have f5 := (show 0 ≤ I (p + 11) 1 ∧ I (p + 11) 1 ≤ 24 from gc_in hI R_p_11 rfl rfl)
  have f6 := (show 0 ≤ I p 11 ∧ I p 11 ≤ 64 from gc_in hI R_p rfl rfl)
  have f7 := (show 0 ≤ I p 13 ∧ I p 13 ≤ 384 from gc_in hI R_p rfl rfl)
  refine gv_run 3 true hD (pc' := 3) (lv' := [(0, .inr (.inr (some p))), (1, .inr (.inr (some a1))), (2, .inl a2)]) (st' := [.inr (.inr (some p)), .inl a2, .inr (.inr (some a1))]) (h' := gc_h sh I J A) (C := (((True ∧ True) ∧ True) ∧ True)) rfl ⟨⟨⟨trivial, trivial⟩, trivial⟩, trivial⟩ ?_
  refine gv_get hD rfl rfl S_p ⟨by decide, B_p⟩ (gc_hA S_p rfl A_p_0) ?_
  show gv_X _ _ (6, [(0, .inr (.inr (some p))), (1, .inr (.inr (some a1))), (2, .inl a2)], [.inr (.inr (some (p + 1))), .inl a2, .inr (.inr (some a1))], sh, gc_h sh I J A)
  have f8 := (show 0 ≤ I (p + 1) 1 ∧ I (p + 1) 1 ≤ 8 from gc_in hI R_p_1 rfl rfl)
  refine gv_get hD rfl rfl S_p_1 ⟨by decide, B_p_1⟩ (gc_hI S_p_1 rfl) ?_
  show gv_X _ _ (9, [(0, .inr (.inr (some p))), (1, .inr (.inr (some a1))), (2, .inl a2)], [.inl (I (p + 1) 1), .inl a2, .inr (.inr (some a1))], sh, gc_h sh I J A)
  refine gv_iast hD rfl S_a1 ⟨by omega, B_a1⟩ ⟨by omega, by omega⟩ ?_
  refine gc_st hI S_a1 rfl R_a1 (lo := (-1)) (hi := 12000) rfl rfl (by omega) (by omega) (fun I9 hI9 q10 p10 => ?_)
  have FI9 := gc_frs (W := fun q j => (q = a1 ∧ j = (Int.toNat a2)) ∨ (q = a1 ∧ j = (Int.toNat (a2 + 1))) ∨ (q = a1 ∧ j = (Int.toNat (a2 + 2))) ∨ (q = a1 ∧ j = (Int.toNat (a2 + 3))) ∨ (q = a1 ∧ j = (Int.toNat (a2 + 4))) ∨ (q = a1 ∧ j = (Int.toNat (a2 + 5))) ∨ (q = a1 ∧ j = (Int.toNat (a2 + 6)))) FI (Or.inl ⟨rfl, rfl⟩) p10
  have t11 := p10 (p + 1) 1 (fun h => absurd h.1 N_p_1__a1)
  have t12 := p10 (p + 3) 1 (fun h => absurd h.1 N_p_3__a1)
  have t13 := p10 (p + 7) 1 (fun h => absurd h.1 N_p_7__a1)
  have t14 := p10 p 6 (fun h => absurd h.1 N_p__a1)
  have t15 := p10 (p + 11) 1 (fun h => absurd h.1 N_p_11__a1)
  have t16 := p10 p 11 (fun h => absurd h.1 N_p__a1)
  have t17 := p10 p 13 (fun h => absurd h.1 N_p__a1)
  have t18 := p10 a1 (Int.toNat (a2 + 1)) (fun h => absurd h.2 (by omega))
  have t19 := p10 a1 (Int.toNat (a2 + 2)) (fun h => absurd h.2 (by omega))
  have t20 := p10 a1 (Int.toNat (a2 + 3)) (fun h => absurd h.2 (by omega))
  have t21 := p10 a1 (Int.toNat (a2 + 4)) (fun h => absurd h.2 (by omega))
  have t22 := p10 a1 (Int.toNat (a2 + 5)) (fun h => absurd h.2 (by omega))
  have t23 := p10 a1 (Int.toNat (a2 + 6)) (fun h => absurd h.2 (by omega))
  show gv_X _ _ (10, [(0, .inr (.inr (some p))), (1, .inr (.inr (some a1))), (2, .inl a2)], [], sh, gc_h sh I9 J A)
  refine gv_run 5 true hD (pc' := 15) (lv' := [(0, .inr (.inr (some p))), (1, .inr (.inr (some a1))), (2, .inl a2)]) (st' := [.inr (.inr (some p)), .inl (a2 + 1), .inr (.inr (some a1))]) (h' := gc_h sh I9 J A) (C := (((((True ∧ True) ∧ True) ∧ True) ∧ True) ∧ True)) rfl ⟨⟨⟨⟨⟨trivial, trivial⟩, trivial⟩, trivial⟩, trivial⟩, trivial⟩ ?_
  refine gv_get hD rfl rfl S_p ⟨by decide, B_p⟩ (gc_hA S_p rfl A_p_1) ?_
  show gv_X _ _ (18, [(0, .inr (.inr (some p))), (1, .inr (.inr (some a1))), (2, .inl a2)], [.inr (.inr (some (p + 3))), .inl (a2 + 1), .inr (.inr (some a1))], sh, gc_h sh I9 J A)
  have f24 := (show 0 ≤ I9 (p + 3) 1 ∧ I9 (p + 3) 1 ≤ 48 from gc_in hI9 R_p_3 rfl rfl)
  refine gv_get hD rfl rfl S_p_3 ⟨by decide, B_p_3⟩ (gc_hI S_p_3 rfl) ?_
  show gv_X _ _ (21, [(0, .inr (.inr (some p))), (1, .inr (.inr (some a1))), (2, .inl a2)], [.inl (I9 (p + 3) 1), .inl (a2 + 1), .inr (.inr (some a1))], sh, gc_h sh I9 J A)
  refine gv_iast hD rfl S_a1 ⟨by omega, B_a1⟩ ⟨by omega, by omega⟩ ?_
  refine gc_st hI9 S_a1 rfl R_a1 (lo := (-1)) (hi := 12000) rfl rfl (by omega) (by omega) (fun I25 hI25 q26 p26 => ?_)
  have FI25 := gc_frs (W := fun q j => (q = a1 ∧ j = (Int.toNat a2)) ∨ (q = a1 ∧ j = (Int.toNat (a2 + 1))) ∨ (q = a1 ∧ j = (Int.toNat (a2 + 2))) ∨ (q = a1 ∧ j = (Int.toNat (a2 + 3))) ∨ (q = a1 ∧ j = (Int.toNat (a2 + 4))) ∨ (q = a1 ∧ j = (Int.toNat (a2 + 5))) ∨ (q = a1 ∧ j = (Int.toNat (a2 + 6)))) FI9 (Or.inr (Or.inl ⟨rfl, rfl⟩)) p26
  have t27 := p26 (p + 1) 1 (fun h => absurd h.1 N_p_1__a1)
  have t28 := p26 (p + 3) 1 (fun h => absurd h.1 N_p_3__a1)
  have t29 := p26 (p + 7) 1 (fun h => absurd h.1 N_p_7__a1)
  have t30 := p26 p 6 (fun h => absurd h.1 N_p__a1)
  have t31 := p26 (p + 11) 1 (fun h => absurd h.1 N_p_11__a1)
  have t32 := p26 p 11 (fun h => absurd h.1 N_p__a1)
  have t33 := p26 p 13 (fun h => absurd h.1 N_p__a1)
  have t34 := p26 a1 (Int.toNat a2) (fun h => absurd h.2 (by omega))
  have t35 := p26 a1 (Int.toNat (a2 + 2)) (fun h => absurd h.2 (by omega))
  have t36 := p26 a1 (Int.toNat (a2 + 3)) (fun h => absurd h.2 (by omega))
  have t37 := p26 a1 (Int.toNat (a2 + 4)) (fun h => absurd h.2 (by omega))
  have t38 := p26 a1 (Int.toNat (a2 + 5)) (fun h => absurd h.2 (by omega))
  have t39 := p26 a1 (Int.toNat (a2 + 6)) (fun h => absurd h.2 (by omega))
  show gv_X _ _ (22, [(0, .inr (.inr (some p))), (1, .inr (.inr (some a1))), (2, .inl a2)], [], sh, gc_h sh I25 J A)
  refine gv_run 5 true hD (pc' := 27) (lv' := [(0, .inr (.inr (some p))), (1, .inr (.inr (some a1))), (2, .inl a2)]) (st' := [.inr (.inr (some p)), .inl (a2 + 2), .inr (.inr (some a1))]) (h' := gc_h sh I25 J A) (C := (((((True ∧ True) ∧ True) ∧ True) ∧ True) ∧ True)) rfl ⟨⟨⟨⟨⟨trivial, trivial⟩, trivial⟩, trivial⟩, trivial⟩, trivial⟩ ?_
  refine gv_get hD rfl rfl S_p ⟨by decide, B_p⟩ (gc_hA S_p rfl A_p_4) ?_
  show gv_X _ _ (30, [(0, .inr (.inr (some p))), (1, .inr (.inr (some a1))), (2, .inl a2)], [.inr (.inr (some (p + 7))), .inl (a2 + 2), .inr (.inr (some a1))], sh, gc_h sh I25 J A)
  have f40 := (show 0 ≤ I25 (p + 7) 1 ∧ I25 (p + 7) 1 ≤ 16 from gc_in hI25 R_p_7 rfl rfl)
  refine gv_get hD rfl rfl S_p_7 ⟨by decide, B_p_7⟩ (gc_hI S_p_7 rfl) ?_
  show gv_X _ _ (33, [(0, .inr (.inr (some p))), (1, .inr (.inr (some a1))), (2, .inl a2)], [.inl (I25 (p + 7) 1), .inl (a2 + 2), .inr (.inr (some a1))], sh, gc_h sh I25 J A)
  refine gv_iast hD rfl S_a1 ⟨by omega, B_a1⟩ ⟨by omega, by omega⟩ ?_
  refine gc_st hI25 S_a1 rfl R_a1 (lo := (-1)) (hi := 12000) rfl rfl (by omega) (by omega) (fun I41 hI41 q42 p42 => ?_)
  have FI41 := gc_frs (W := fun q j => (q = a1 ∧ j = (Int.toNat a2)) ∨ (q = a1 ∧ j = (Int.toNat (a2 + 1))) ∨ (q = a1 ∧ j = (Int.toNat (a2 + 2))) ∨ (q = a1 ∧ j = (Int.toNat (a2 + 3))) ∨ (q = a1 ∧ j = (Int.toNat (a2 + 4))) ∨ (q = a1 ∧ j = (Int.toNat (a2 + 5))) ∨ (q = a1 ∧ j = (Int.toNat (a2 + 6)))) FI25 (Or.inr (Or.inr (Or.inl ⟨rfl, rfl⟩))) p42
  have t43 := p42 (p + 1) 1 (fun h => absurd h.1 N_p_1__a1)
  have t44 := p42 (p + 3) 1 (fun h => absurd h.1 N_p_3__a1)
  have t45 := p42 (p + 7) 1 (fun h => absurd h.1 N_p_7__a1)
  have t46 := p42 p 6 (fun h => absurd h.1 N_p__a1)
  have t47 := p42 (p + 11) 1 (fun h => absurd h.1 N_p_11__a1)
  have t48 := p42 p 11 (fun h => absurd h.1 N_p__a1)
  have t49 := p42 p 13 (fun h => absurd h.1 N_p__a1)
  have t50 := p42 a1 (Int.toNat a2) (fun h => absurd h.2 (by omega))
  have t51 := p42 a1 (Int.toNat (a2 + 1)) (fun h => absurd h.2 (by omega))
  have t52 := p42 a1 (Int.toNat (a2 + 3)) (fun h => absurd h.2 (by omega))
  have t53 := p42 a1 (Int.toNat (a2 + 4)) (fun h => absurd h.2 (by omega))
  have t54 := p42 a1 (Int.toNat (a2 + 5)) (fun h => absurd h.2 (by omega))
  have t55 := p42 a1 (Int.toNat (a2 + 6)) (fun h => absurd h.2 (by omega))
  show gv_X _ _ (34, [(0, .inr (.inr (some p))), (1, .inr (.inr (some a1))), (2, .inl a2)], [], sh, gc_h sh I41 J A)
  refine gv_run 5 true hD (pc' := 39) (lv' := [(0, .inr (.inr (some p))), (1, .inr (.inr (some a1))), (2, .inl a2)]) (st' := [.inr (.inr (some p)), .inl (a2 + 3), .inr (.inr (some a1))]) (h' := gc_h sh I41 J A) (C := (((((True ∧ True) ∧ True) ∧ True) ∧ True) ∧ True)) rfl ⟨⟨⟨⟨⟨trivial, trivial⟩, trivial⟩, trivial⟩, trivial⟩, trivial⟩ ?_
  have f56 := (show 0 ≤ I41 p 6 ∧ I41 p 6 ≤ 24 from gc_in hI41 R_p rfl rfl)
  refine gv_get hD rfl rfl S_p ⟨by decide, B_p⟩ (gc_hI S_p rfl) ?_
  show gv_X _ _ (42, [(0, .inr (.inr (some p))), (1, .inr (.inr (some a1))), (2, .inl a2)], [.inl (I41 p 6), .inl (a2 + 3), .inr (.inr (some a1))], sh, gc_h sh I41 J A)
  refine gv_iast hD rfl S_a1 ⟨by omega, B_a1⟩ ⟨by omega, by omega⟩ ?_
  refine gc_st hI41 S_a1 rfl R_a1 (lo := (-1)) (hi := 12000) rfl rfl (by omega) (by omega) (fun I57 hI57 q58 p58 => ?_)
  have FI57 := gc_frs (W := fun q j => (q = a1 ∧ j = (Int.toNat a2)) ∨ (q = a1 ∧ j = (Int.toNat (a2 + 1))) ∨ (q = a1 ∧ j = (Int.toNat (a2 + 2))) ∨ (q = a1 ∧ j = (Int.toNat (a2 + 3))) ∨ (q = a1 ∧ j = (Int.toNat (a2 + 4))) ∨ (q = a1 ∧ j = (Int.toNat (a2 + 5))) ∨ (q = a1 ∧ j = (Int.toNat (a2 + 6)))) FI41 (Or.inr (Or.inr (Or.inr (Or.inl ⟨rfl, rfl⟩)))) p58
  have t59 := p58 (p + 1) 1 (fun h => absurd h.1 N_p_1__a1)
  have t60 := p58 (p + 3) 1 (fun h => absurd h.1 N_p_3__a1)
  have t61 := p58 (p + 7) 1 (fun h => absurd h.1 N_p_7__a1)
  have t62 := p58 p 6 (fun h => absurd h.1 N_p__a1)
  have t63 := p58 (p + 11) 1 (fun h => absurd h.1 N_p_11__a1)
  have t64 := p58 p 11 (fun h => absurd h.1 N_p__a1)
  have t65 := p58 p 13 (fun h => absurd h.1 N_p__a1)
  have t66 := p58 a1 (Int.toNat a2) (fun h => absurd h.2 (by omega))
  have t67 := p58 a1 (Int.toNat (a2 + 1)) (fun h => absurd h.2 (by omega))
  have t68 := p58 a1 (Int.toNat (a2 + 2)) (fun h => absurd h.2 (by omega))
  have t69 := p58 a1 (Int.toNat (a2 + 4)) (fun h => absurd h.2 (by omega))
  have t70 := p58 a1 (Int.toNat (a2 + 5)) (fun h => absurd h.2 (by omega))
  have t71 := p58 a1 (Int.toNat (a2 + 6)) (fun h => absurd h.2 (by omega))
  show gv_X _ _ (43, [(0, .inr (.inr (some p))), (1, .inr (.inr (some a1))), (2, .inl a2)], [], sh, gc_h sh I57 J A)
  refine gv_run 5 true hD (pc' := 48) (lv' := [(0, .inr (.inr (some p))), (1, .inr (.inr (some a1))), (2, .inl a2)]) (st' := [.inr (.inr (some p)), .inl (a2 + 4), .inr (.inr (some a1))]) (h' := gc_h sh I57 J A) (C := (((((True ∧ True) ∧ True) ∧ True) ∧ True) ∧ True)) rfl ⟨⟨⟨⟨⟨trivial, trivial⟩, trivial⟩, trivial⟩, trivial⟩, trivial⟩ ?_
  refine gv_get hD rfl rfl S_p ⟨by decide, B_p⟩ (gc_hA S_p rfl A_p_8) ?_
  show gv_X _ _ (51, [(0, .inr (.inr (some p))), (1, .inr (.inr (some a1))), (2, .inl a2)], [.inr (.inr (some (p + 11))), .inl (a2 + 4), .inr (.inr (some a1))], sh, gc_h sh I57 J A)
  have f72 := (show 0 ≤ I57 (p + 11) 1 ∧ I57 (p + 11) 1 ≤ 24 from gc_in hI57 R_p_11 rfl rfl)
  refine gv_get hD rfl rfl S_p_11 ⟨by decide, B_p_11⟩ (gc_hI S_p_11 rfl) ?_
  show gv_X _ _ (54, [(0, .inr (.inr (some p))), (1, .inr (.inr (some a1))), (2, .inl a2)], [.inl (I57 (p + 11) 1), .inl (a2 + 4), .inr (.inr (some a1))], sh, gc_h sh I57 J A)
  refine gv_iast hD rfl S_a1 ⟨by omega, B_a1⟩ ⟨by omega, by omega⟩ ?_
  refine gc_st hI57 S_a1 rfl R_a1 (lo := (-1)) (hi := 12000) rfl rfl (by omega) (by omega) (fun I73 hI73 q74 p74 => ?_)
  have FI73 := gc_frs (W := fun q j => (q = a1 ∧ j = (Int.toNat a2)) ∨ (q = a1 ∧ j = (Int.toNat (a2 + 1))) ∨ (q = a1 ∧ j = (Int.toNat (a2 + 2))) ∨ (q = a1 ∧ j = (Int.toNat (a2 + 3))) ∨ (q = a1 ∧ j = (Int.toNat (a2 + 4))) ∨ (q = a1 ∧ j = (Int.toNat (a2 + 5))) ∨ (q = a1 ∧ j = (Int.toNat (a2 + 6)))) FI57 (Or.inr (Or.inr (Or.inr (Or.inr (Or.inl ⟨rfl, rfl⟩))))) p74
  have t75 := p74 (p + 1) 1 (fun h => absurd h.1 N_p_1__a1)
  have t76 := p74 (p + 3) 1 (fun h => absurd h.1 N_p_3__a1)
  have t77 := p74 (p + 7) 1 (fun h => absurd h.1 N_p_7__a1)
  have t78 := p74 p 6 (fun h => absurd h.1 N_p__a1)
  have t79 := p74 (p + 11) 1 (fun h => absurd h.1 N_p_11__a1)
  have t80 := p74 p 11 (fun h => absurd h.1 N_p__a1)
  have t81 := p74 p 13 (fun h => absurd h.1 N_p__a1)
  have t82 := p74 a1 (Int.toNat a2) (fun h => absurd h.2 (by omega))
  have t83 := p74 a1 (Int.toNat (a2 + 1)) (fun h => absurd h.2 (by omega))
  have t84 := p74 a1 (Int.toNat (a2 + 2)) (fun h => absurd h.2 (by omega))
  have t85 := p74 a1 (Int.toNat (a2 + 3)) (fun h => absurd h.2 (by omega))
  have t86 := p74 a1 (Int.toNat (a2 + 5)) (fun h => absurd h.2 (by omega))
  have t87 := p74 a1 (Int.toNat (a2 + 6)) (fun h => absurd h.2 (by omega))
  show gv_X _ _ (55, [(0, .inr (.inr (some p))), (1, .inr (.inr (some a1))), (2, .inl a2)], [], sh, gc_h sh I73 J A)
  refine gv_run 5 true hD (pc' := 60) (lv' := [(0, .inr (.inr (some p))), (1, .inr (.inr (some a1))), (2, .inl a2)]) (st' := [.inr (.inr (some p)), .inl (a2 + 5), .inr (.inr (some a1))]) (h' := gc_h sh I73 J A) (C := (((((True ∧ True) ∧ True) ∧ True) ∧ True) ∧ True)) rfl ⟨⟨⟨⟨⟨trivial, trivial⟩, trivial⟩, trivial⟩, trivial⟩, trivial⟩ ?_
  have f88 := (show 0 ≤ I73 p 11 ∧ I73 p 11 ≤ 64 from gc_in hI73 R_p rfl rfl)
  refine gv_get hD rfl rfl S_p ⟨by decide, B_p⟩ (gc_hI S_p rfl) ?_
  show gv_X _ _ (63, [(0, .inr (.inr (some p))), (1, .inr (.inr (some a1))), (2, .inl a2)], [.inl (I73 p 11), .inl (a2 + 5), .inr (.inr (some a1))], sh, gc_h sh I73 J A)
  refine gv_iast hD rfl S_a1 ⟨by omega, B_a1⟩ ⟨by omega, by omega⟩ ?_
  refine gc_st hI73 S_a1 rfl R_a1 (lo := (-1)) (hi := 12000) rfl rfl (by omega) (by omega) (fun I89 hI89 q90 p90 => ?_)
  have FI89 := gc_frs (W := fun q j => (q = a1 ∧ j = (Int.toNat a2)) ∨ (q = a1 ∧ j = (Int.toNat (a2 + 1))) ∨ (q = a1 ∧ j = (Int.toNat (a2 + 2))) ∨ (q = a1 ∧ j = (Int.toNat (a2 + 3))) ∨ (q = a1 ∧ j = (Int.toNat (a2 + 4))) ∨ (q = a1 ∧ j = (Int.toNat (a2 + 5))) ∨ (q = a1 ∧ j = (Int.toNat (a2 + 6)))) FI73 (Or.inr (Or.inr (Or.inr (Or.inr (Or.inr (Or.inl ⟨rfl, rfl⟩)))))) p90
  have t91 := p90 (p + 1) 1 (fun h => absurd h.1 N_p_1__a1)
  have t92 := p90 (p + 3) 1 (fun h => absurd h.1 N_p_3__a1)
  have t93 := p90 (p + 7) 1 (fun h => absurd h.1 N_p_7__a1)
  have t94 := p90 p 6 (fun h => absurd h.1 N_p__a1)
  have t95 := p90 (p + 11) 1 (fun h => absurd h.1 N_p_11__a1)
  have t96 := p90 p 11 (fun h => absurd h.1 N_p__a1)
  have t97 := p90 p 13 (fun h => absurd h.1 N_p__a1)
  have t98 := p90 a1 (Int.toNat a2) (fun h => absurd h.2 (by omega))
  have t99 := p90 a1 (Int.toNat (a2 + 1)) (fun h => absurd h.2 (by omega))
  have t100 := p90 a1 (Int.toNat (a2 + 2)) (fun h => absurd h.2 (by omega))
  have t101 := p90 a1 (Int.toNat (a2 + 3)) (fun h => absurd h.2 (by omega))
  have t102 := p90 a1 (Int.toNat (a2 + 4)) (fun h => absurd h.2 (by omega))
  have t103 := p90 a1 (Int.toNat (a2 + 6)) (fun h => absurd h.2 (by omega))
  show gv_X _ _ (64, [(0, .inr (.inr (some p))), (1, .inr (.inr (some a1))), (2, .inl a2)], [], sh, gc_h sh I89 J A)
  refine gv_run 5 true hD (pc' := 70) (lv' := [(0, .inr (.inr (some p))), (1, .inr (.inr (some a1))), (2, .inl a2)]) (st' := [.inr (.inr (some p)), .inl (a2 + 6), .inr (.inr (some a1))]) (h' := gc_h sh I89 J A) (C := (((((True ∧ True) ∧ True) ∧ True) ∧ True) ∧ True)) rfl ⟨⟨⟨⟨⟨trivial, trivial⟩, trivial⟩, trivial⟩, trivial⟩, trivial⟩ ?_
  have f104 := (show 0 ≤ I89 p 13 ∧ I89 p 13 ≤ 384 from gc_in hI89 R_p rfl rfl)
  refine gv_get hD rfl rfl S_p ⟨by decide, B_p⟩ (gc_hI S_p rfl) ?_
  show gv_X _ _ (73, [(0, .inr (.inr (some p))), (1, .inr (.inr (some a1))), (2, .inl a2)], [.inl (I89 p 13), .inl (a2 + 6), .inr (.inr (some a1))], sh, gc_h sh I89 J A)
  refine gv_iast hD rfl S_a1 ⟨by omega, B_a1⟩ ⟨by omega, by omega⟩ ?_
  refine gc_st hI89 S_a1 rfl R_a1 (lo := (-1)) (hi := 12000) rfl rfl (by omega) (by omega) (fun I105 hI105 q106 p106 => ?_)
  have FI105 := gc_frs (W := fun q j => (q = a1 ∧ j = (Int.toNat a2)) ∨ (q = a1 ∧ j = (Int.toNat (a2 + 1))) ∨ (q = a1 ∧ j = (Int.toNat (a2 + 2))) ∨ (q = a1 ∧ j = (Int.toNat (a2 + 3))) ∨ (q = a1 ∧ j = (Int.toNat (a2 + 4))) ∨ (q = a1 ∧ j = (Int.toNat (a2 + 5))) ∨ (q = a1 ∧ j = (Int.toNat (a2 + 6)))) FI89 (Or.inr (Or.inr (Or.inr (Or.inr (Or.inr (Or.inr ⟨rfl, rfl⟩)))))) p106
  have t107 := p106 (p + 1) 1 (fun h => absurd h.1 N_p_1__a1)
  have t108 := p106 (p + 3) 1 (fun h => absurd h.1 N_p_3__a1)
  have t109 := p106 (p + 7) 1 (fun h => absurd h.1 N_p_7__a1)
  have t110 := p106 p 6 (fun h => absurd h.1 N_p__a1)
  have t111 := p106 (p + 11) 1 (fun h => absurd h.1 N_p_11__a1)
  have t112 := p106 p 11 (fun h => absurd h.1 N_p__a1)
  have t113 := p106 p 13 (fun h => absurd h.1 N_p__a1)
  have t114 := p106 a1 (Int.toNat a2) (fun h => absurd h.2 (by omega))
  have t115 := p106 a1 (Int.toNat (a2 + 1)) (fun h => absurd h.2 (by omega))
  have t116 := p106 a1 (Int.toNat (a2 + 2)) (fun h => absurd h.2 (by omega))
  have t117 := p106 a1 (Int.toNat (a2 + 3)) (fun h => absurd h.2 (by omega))
  have t118 := p106 a1 (Int.toNat (a2 + 4)) (fun h => absurd h.2 (by omega))
  have t119 := p106 a1 (Int.toNat (a2 + 5)) (fun h => absurd h.2 (by omega))
  show gv_X _ _ (74, [(0, .inr (.inr (some p))), (1, .inr (.inr (some a1))), (2, .inl a2)], [], sh, gc_h sh I105 J A)
  exact gv_vret hD rfl ⟨I105, J, rfl, hI105, FI105, FJ, ⟨rfl, by omega⟩⟩
set_option maxHeartbeats 4000000 in
set_option maxRecDepth 100000 in
theorem d_X8_mark_w {ws0 : List Cond} {tb : String → gz_T} (hws : gc_Ws ws0) (htb : gc_tbs tb) (sh : gz_Sh) (ro : Nat → Nat) (I : gr_I) (J : gr_J) (A : gc_A) (hI : gc_Inv ro I)  (hb : gc_Base sh ro A)  (x0 : gc_Ts sh ro A I) : ∃ r h', gz_Ev ws0 tb 2 (yX8_mark, cX8_mark, 2, none) [.inr (.inr (some 1))] sh (gc_h sh I J A) r sh h' 0 0 ∧ (∃ (I' : gr_I) (J' : gr_J), h' = gc_h sh I' J' A ∧ gc_Inv ro I' ∧ (∀ q j : Nat, ((q = 1 ∧ j = 18) ∨ q = 21) ∨ I' q j = I q j) ∧ (∀ q j : Nat, (False) ∨ J' q j = J q j) ∧ r = none ∧ (I' 21 0 = I 2 1) ∧ (I' 21 1 = I 4 1) ∧ (I' 21 2 = I 6 1) ∧ (I' 21 3 = I 8 1) ∧ (I' 21 4 = I 1 13) ∧ (I' 21 5 = I 1 17) ∧ (I' 21 6 = I 1 5) ∧ (gc_mkT A I I' (I 8 1)) ∧ (∀ f : Nat, f < 96 → I' 21 (63 + f) = I 15 f)) := by
  have FI : ∀ q j : Nat, ((q = 1 ∧ j = 18) ∨ q = 21) ∨ I q j = I q j := fun _ _ => Or.inr rfl
  have FJ : ∀ q j : Nat, (False) ∨ J q j = J q j := fun _ _ => Or.inr rfl
  have A_1_0 : A 1 0 = some 2 := gc_bA hb rfl
  have A_1_1 : A 1 1 = some 4 := gc_bA hb rfl
  have A_1_10 : A 1 10 = some 15 := gc_bA hb rfl
  have A_1_19 : A 1 19 = some 21 := gc_bA hb rfl
  have A_1_2 : A 1 2 = some 6 := gc_bA hb rfl
  have A_1_3 : A 1 3 = some 8 := gc_bA hb rfl
  have A_1_4 : A 1 4 = some 10 := gc_bA hb rfl
  have B_1 : 1 < 1000000 := by decide
  have B_10 : 10 < 1000000 := by decide
  have B_15 : 15 < 1000000 := by decide
  have B_2 : 2 < 1000000 := by decide
  have B_21 : 21 < 1000000 := by decide
  have B_4 : 4 < 1000000 := by decide
  have B_6 : 6 < 1000000 := by decide
  have B_8 : 8 < 1000000 := by decide
  have R_1 : ro 1 = 22 := gc_bR hb (by decide) rfl
  have R_15 : ro 15 = 28 := gc_bR hb (by decide) rfl
  have R_2 : ro 2 = 9 := gc_bR hb (by decide) rfl
  have R_21 : ro 21 = 70 := gc_bR hb (by decide) rfl
  have R_4 : ro 4 = 11 := gc_bR hb (by decide) rfl
  have R_6 : ro 6 = 6 := gc_bR hb (by decide) rfl
  have R_8 : ro 8 = 6 := gc_bR hb (by decide) rfl
  have S_1 : sh[1]? = some (false, 8, 21) := gc_bS hb rfl
  have S_10 : sh[10]? = some (true, 5, 8) := gc_bS hb rfl
  have S_15 : sh[15]? = some (true, 1, 96) := gc_bS hb rfl
  have S_2 : sh[2]? = some (false, 4, 2) := gc_bS hb rfl
  have S_21 : sh[21]? = some (true, 1, 159) := gc_bS hb rfl
  have S_4 : sh[4]? = some (false, 4, 2) := gc_bS hb rfl
  have S_6 : sh[6]? = some (false, 4, 2) := gc_bS hb rfl
  have S_8 : sh[8]? = some (false, 4, 2) := gc_bS hb rfl
  have hD : gv_D (gc_E8 ws0 tb 1 (yX8_mark, cX8_mark, 2, none) kX8_mark) := gq_ok oX8_mark
  refine gc_ev8 (d := 1) (l := kX8_mark) (Po := fun r h' => (∃ (I' : gr_I) (J' : gr_J), h' = gc_h sh I' J' A ∧ gc_Inv ro I' ∧ (∀ q j : Nat, ((q = 1 ∧ j = 18) ∨ q = 21) ∨ I' q j = I q j) ∧ (∀ q j : Nat, (False) ∨ J' q j = J q j) ∧ r = none ∧ (I' 21 0 = I 2 1) ∧ (I' 21 1 = I 4 1) ∧ (I' 21 2 = I 6 1) ∧ (I' 21 3 = I 8 1) ∧ (I' 21 4 = I 1 13) ∧ (I' 21 5 = I 1 17) ∧ (I' 21 6 = I 1 5) ∧ (gc_mkT A I I' (I 8 1)) ∧ (∀ f : Nat, f < 96 → I' 21 (63 + f) = I 15 f))) htb rfl (Nat.le_of_ble_eq_true rfl) ?_
  have f1 := (show (-1) ≤ I 21 0 ∧ I 21 0 ≤ 12000 from gc_in hI R_21 rfl rfl)
  have f2 := (show (-1) ≤ I 21 1 ∧ I 21 1 ≤ 12000 from gc_in hI R_21 rfl rfl)
  have f3 := (show (-1) ≤ I 21 2 ∧ I 21 2 ≤ 12000 from gc_in hI R_21 rfl rfl)
  have f4 := (show (-1) ≤ I 21 3 ∧ I 21 3 ≤ 12000 from gc_in hI R_21 rfl rfl)
  have f5 := (show (-1) ≤ I 21 4 ∧ I 21 4 ≤ 12000 from gc_in hI R_21 rfl rfl)
  have f6 := (show (-1) ≤ I 21 5 ∧ I 21 5 ≤ 12000 from gc_in hI R_21 rfl rfl)
  have f7 := (show (-1) ≤ I 21 6 ∧ I 21 6 ≤ 12000 from gc_in hI R_21 rfl rfl)
  have f8 := (show 0 ≤ I 2 1 ∧ I 2 1 ≤ 32 from gc_in hI R_2 rfl rfl)
  have f9 := (show 0 ≤ I 4 1 ∧ I 4 1 ≤ 96 from gc_in hI R_4 rfl rfl)
  have f10 := (show 0 ≤ I 6 1 ∧ I 6 1 ≤ 8 from gc_in hI R_6 rfl rfl)
  have f11 := (show 0 ≤ I 8 1 ∧ I 8 1 ≤ 8 from gc_in hI R_8 rfl rfl)
  have f12 := (show 0 ≤ I 1 13 ∧ I 1 13 ≤ 64 from gc_in hI R_1 rfl rfl)
  have f13 := (show 0 ≤ I 1 17 ∧ I 1 17 ≤ 12000 from gc_in hI R_1 rfl rfl)
  have f14 := (show (-1) ≤ I 1 5 ∧ I 1 5 ≤ 7 from gc_in hI R_1 rfl rfl)
  have L90 : ∀ (n9 : Nat) (I15 : gr_I) (J16 : gr_J) (v1_17 : Int), (9 - v1_17).toNat < n9 → gc_Inv ro I15 → (∀ q j : Nat, ((q = 1 ∧ j = 18) ∨ q = 21) ∨ I15 q j = I q j) → (∀ q j : Nat, (False) ∨ J16 q j = J q j) → ((0 ≤ v1_17 ∧ v1_17 ≤ 8) ∧ (I15 21 0 = I 2 1) ∧ (I15 21 1 = I 4 1) ∧ (I15 21 2 = I 6 1) ∧ (I15 21 3 = I 8 1) ∧ (I15 21 4 = I 1 13) ∧ (I15 21 5 = I 1 17) ∧ (I15 21 6 = I 1 5) ∧ (I15 8 1 = I 8 1)) → (gc_mkT A I I15 v1_17) → gv_X (gc_E8 ws0 tb 1 (yX8_mark, cX8_mark, 2, none) kX8_mark) (gv_Q cX8_mark none sh (fun r h' => (∃ (I' : gr_I) (J' : gr_J), h' = gc_h sh I' J' A ∧ gc_Inv ro I' ∧ (∀ q j : Nat, ((q = 1 ∧ j = 18) ∨ q = 21) ∨ I' q j = I q j) ∧ (∀ q j : Nat, (False) ∨ J' q j = J q j) ∧ r = none ∧ (I' 21 0 = I 2 1) ∧ (I' 21 1 = I 4 1) ∧ (I' 21 2 = I 6 1) ∧ (I' 21 3 = I 8 1) ∧ (I' 21 4 = I 1 13) ∧ (I' 21 5 = I 1 17) ∧ (I' 21 6 = I 1 5) ∧ (gc_mkT A I I' (I 8 1)) ∧ (∀ f : Nat, f < 96 → I' 21 (63 + f) = I 15 f)))) (90, [(0, .inr (.inr (some 1))), (1, .inl v1_17)], [], sh, gc_h sh I15 J16 A) := by
    intro n9
    induction n9 with
    | zero => intro I15 J16 v1_17 hn; omega
    | succ n9 ih90 =>
      intro I15 J16 v1_17 hn hI15 FI15 FJ16 m_17 e0_17
      obtain ⟨hv1_17, e1_17, e2_17, e3_17, e4_17, e5_17, e6_17, e7_17, e8_17⟩ := m_17
      have f18 := (show (-1) ≤ I15 21 0 ∧ I15 21 0 ≤ 12000 from gc_in hI15 R_21 rfl rfl)
      have f19 := (show (-1) ≤ I15 21 1 ∧ I15 21 1 ≤ 12000 from gc_in hI15 R_21 rfl rfl)
      have f20 := (show (-1) ≤ I15 21 2 ∧ I15 21 2 ≤ 12000 from gc_in hI15 R_21 rfl rfl)
      have f21 := (show (-1) ≤ I15 21 3 ∧ I15 21 3 ≤ 12000 from gc_in hI15 R_21 rfl rfl)
      have f22 := (show (-1) ≤ I15 21 4 ∧ I15 21 4 ≤ 12000 from gc_in hI15 R_21 rfl rfl)
      have f23 := (show (-1) ≤ I15 21 5 ∧ I15 21 5 ≤ 12000 from gc_in hI15 R_21 rfl rfl)
      have f24 := (show (-1) ≤ I15 21 6 ∧ I15 21 6 ≤ 12000 from gc_in hI15 R_21 rfl rfl)
      have f25 := (show 0 ≤ I15 2 1 ∧ I15 2 1 ≤ 32 from gc_in hI15 R_2 rfl rfl)
      have f26 := (show 0 ≤ I15 4 1 ∧ I15 4 1 ≤ 96 from gc_in hI15 R_4 rfl rfl)
      have f27 := (show 0 ≤ I15 6 1 ∧ I15 6 1 ≤ 8 from gc_in hI15 R_6 rfl rfl)
      have f28 := (show 0 ≤ I15 8 1 ∧ I15 8 1 ≤ 8 from gc_in hI15 R_8 rfl rfl)
      have f29 := (show 0 ≤ I15 1 13 ∧ I15 1 13 ≤ 64 from gc_in hI15 R_1 rfl rfl)
      have f30 := (show 0 ≤ I15 1 17 ∧ I15 1 17 ≤ 12000 from gc_in hI15 R_1 rfl rfl)
      have f31 := (show (-1) ≤ I15 1 5 ∧ I15 1 5 ≤ 7 from gc_in hI15 R_1 rfl rfl)
      refine gv_run 2 true hD (pc' := 92) (lv' := [(0, .inr (.inr (some 1))), (1, .inl v1_17)]) (st' := [.inr (.inr (some 1)), .inl v1_17]) (h' := gc_h sh I15 J16 A) (C := ((True ∧ True) ∧ True)) rfl ⟨⟨trivial, trivial⟩, trivial⟩ ?_
      refine gv_get hD rfl rfl S_1 ⟨by decide, B_1⟩ (gc_hA S_1 rfl A_1_3) ?_
      show gv_X _ _ (95, [(0, .inr (.inr (some 1))), (1, .inl v1_17)], [.inr (.inr (some 8)), .inl v1_17], sh, gc_h sh I15 J16 A)
      have f32 := (show 0 ≤ I15 8 1 ∧ I15 8 1 ≤ 8 from gc_in hI15 R_8 rfl rfl)
      refine gv_get hD rfl rfl S_8 ⟨by decide, B_8⟩ (gc_hI S_8 rfl) ?_
      show gv_X _ _ (98, [(0, .inr (.inr (some 1))), (1, .inl v1_17)], [.inl (I15 8 1), .inl v1_17], sh, gc_h sh I15 J16 A)
      refine gv_icmp_ge (t := 127) hD rfl rfl ⟨⟨by omega, by omega⟩, ⟨by omega, by omega⟩⟩ (fun c33 => ?_) (fun c33 => ?_)
      · show gv_X _ _ (127, [(0, .inr (.inr (some 1))), (1, .inl v1_17)], [], sh, gc_h sh I15 J16 A)
        refine gv_run 1 true hD (pc' := 128) (lv' := [(0, .inr (.inr (some 1))), (1, .inl v1_17)]) (st' := [.inr (.inr (some 1))]) (h' := gc_h sh I15 J16 A) (C := (True ∧ True)) rfl ⟨trivial, trivial⟩ ?_
        refine gv_get hD rfl rfl S_1 ⟨by decide, B_1⟩ (gc_hA S_1 rfl A_1_10) ?_
        show gv_X _ _ (131, [(0, .inr (.inr (some 1))), (1, .inl v1_17)], [.inr (.inr (some 15))], sh, gc_h sh I15 J16 A)
        refine gv_run 2 true hD (pc' := 133) (lv' := [(0, .inr (.inr (some 1))), (1, .inl v1_17)]) (st' := [.inr (.inr (some 1)), .inl 0, .inr (.inr (some 15))]) (h' := gc_h sh I15 J16 A) (C := ((True ∧ True) ∧ True)) rfl ⟨⟨trivial, trivial⟩, trivial⟩ ?_
        refine gv_get hD rfl rfl S_1 ⟨by decide, B_1⟩ (gc_hA S_1 rfl A_1_19) ?_
        show gv_X _ _ (136, [(0, .inr (.inr (some 1))), (1, .inl v1_17)], [.inr (.inr (some 21)), .inl 0, .inr (.inr (some 15))], sh, gc_h sh I15 J16 A)
        refine gv_run 2 true hD (pc' := 140) (lv' := [(0, .inr (.inr (some 1))), (1, .inl v1_17)]) (st' := [.inl 96, .inl 63, .inr (.inr (some 21)), .inl 0, .inr (.inr (some 15))]) (h' := gc_h sh I15 J16 A) (C := ((True ∧ True) ∧ True)) rfl ⟨⟨trivial, trivial⟩, trivial⟩ ?_
        refine gv_copy hD rfl (gc_lC8_95 hws) (Nat.le_of_ble_eq_true rfl) ⟨B_15, B_21⟩ S_15 S_21 (by decide) ⟨by decide, by decide⟩ ⟨by omega, by omega, by omega⟩ (by omega) (by omega) (fun h => absurd h (by decide)) ?_
        refine gc_cp hI15 S_15 S_21 (by decide) (fun j hj => by have h9 := (show 0 ≤ I15 15 (Int.toNat 0 + j) ∧ I15 15 (Int.toNat 0 + j) ≤ 40 from gc_in hI15 R_15 rfl rfl); rw [R_21]; exact ⟨by show (-1) ≤ _; omega, by show _ ≤ 12000; omega⟩) (fun I35 hI35 p34 q34 => ?_)
        have FI35 := gc_frp (W := fun q j => (q = 1 ∧ j = 18) ∨ q = 21) (V := fun q j => q = 21 ∧ Int.toNat 63 ≤ j ∧ j < Int.toNat 63 + Int.toNat 96) FI15 (fun q j h => (Or.inr h.1)) p34
        have t37 := p34 21 0 (fun h => by have := h.2; omega)
        have t38 := p34 21 1 (fun h => by have := h.2; omega)
        have t39 := p34 21 2 (fun h => by have := h.2; omega)
        have t40 := p34 21 3 (fun h => by have := h.2; omega)
        have t41 := p34 21 4 (fun h => by have := h.2; omega)
        have t42 := p34 21 5 (fun h => by have := h.2; omega)
        have t43 := p34 21 6 (fun h => by have := h.2; omega)
        have t44 := p34 2 1 (fun h => absurd h.1 (by decide))
        have t45 := p34 4 1 (fun h => absurd h.1 (by decide))
        have t46 := p34 6 1 (fun h => absurd h.1 (by decide))
        have t47 := p34 8 1 (fun h => absurd h.1 (by decide))
        have t48 := p34 1 13 (fun h => absurd h.1 (by decide))
        have t49 := p34 1 17 (fun h => absurd h.1 (by decide))
        have t50 := p34 1 5 (fun h => absurd h.1 (by decide))
        have f51 := (show (-1) ≤ I35 21 0 ∧ I35 21 0 ≤ 12000 from gc_in hI35 R_21 rfl rfl)
        have f52 := (show (-1) ≤ I35 21 1 ∧ I35 21 1 ≤ 12000 from gc_in hI35 R_21 rfl rfl)
        have f53 := (show (-1) ≤ I35 21 2 ∧ I35 21 2 ≤ 12000 from gc_in hI35 R_21 rfl rfl)
        have f54 := (show (-1) ≤ I35 21 3 ∧ I35 21 3 ≤ 12000 from gc_in hI35 R_21 rfl rfl)
        have f55 := (show (-1) ≤ I35 21 4 ∧ I35 21 4 ≤ 12000 from gc_in hI35 R_21 rfl rfl)
        have f56 := (show (-1) ≤ I35 21 5 ∧ I35 21 5 ≤ 12000 from gc_in hI35 R_21 rfl rfl)
        have f57 := (show (-1) ≤ I35 21 6 ∧ I35 21 6 ≤ 12000 from gc_in hI35 R_21 rfl rfl)
        have f58 := (show 0 ≤ I35 2 1 ∧ I35 2 1 ≤ 32 from gc_in hI35 R_2 rfl rfl)
        have f59 := (show 0 ≤ I35 4 1 ∧ I35 4 1 ≤ 96 from gc_in hI35 R_4 rfl rfl)
        have f60 := (show 0 ≤ I35 6 1 ∧ I35 6 1 ≤ 8 from gc_in hI35 R_6 rfl rfl)
        have f61 := (show 0 ≤ I35 8 1 ∧ I35 8 1 ≤ 8 from gc_in hI35 R_8 rfl rfl)
        have f62 := (show 0 ≤ I35 1 13 ∧ I35 1 13 ≤ 64 from gc_in hI35 R_1 rfl rfl)
        have f63 := (show 0 ≤ I35 1 17 ∧ I35 1 17 ≤ 12000 from gc_in hI35 R_1 rfl rfl)
        have f64 := (show (-1) ≤ I35 1 5 ∧ I35 1 5 ≤ 7 from gc_in hI35 R_1 rfl rfl)
        show gv_X _ _ (143, [(0, .inr (.inr (some 1))), (1, .inl v1_17)], [], sh, gc_h sh I35 J16 A)
        exact gv_vret hD rfl ⟨I35, J16, rfl, hI35, FI35, FJ16, ⟨rfl, by omega, by omega, by omega, by omega, by omega, by omega, by omega, (fun j hj q9 hq => gc_ts7_fr (e0_17 j (by omega) q9 hq) (fun k hk => p34 21 _ (fun h => by have := h.2; omega))), (fun f hf => (q34 f hf).trans (by rw [show Int.toNat 0 + f = f from by omega]; exact (FI15 15 f).resolve_left (by omega)))⟩⟩
      · show gv_X _ _ (101, [(0, .inr (.inr (some 1))), (1, .inl v1_17)], [], sh, gc_h sh I15 J16 A)
        refine gv_run 1 true hD (pc' := 102) (lv' := [(0, .inr (.inr (some 1))), (1, .inl v1_17)]) (st' := [.inr (.inr (some 1))]) (h' := gc_h sh I15 J16 A) (C := (True ∧ True)) rfl ⟨trivial, trivial⟩ ?_
        refine gv_get hD rfl rfl S_1 ⟨by decide, B_1⟩ (gc_hA S_1 rfl A_1_4) ?_
        show gv_X _ _ (105, [(0, .inr (.inr (some 1))), (1, .inl v1_17)], [.inr (.inr (some 10))], sh, gc_h sh I15 J16 A)
        refine gv_run 1 true hD (pc' := 106) (lv' := [(0, .inr (.inr (some 1))), (1, .inl v1_17)]) (st' := [.inl v1_17, .inr (.inr (some 10))]) (h' := gc_h sh I15 J16 A) (C := (True ∧ True)) rfl ⟨trivial, trivial⟩ ?_
        obtain ⟨t65_, A_t65, h_t65, G_t65⟩ := (gc_Ts_fr x0 ((FI15 8 1).resolve_left (by omega))) (Int.toNat v1_17) (by omega)
        obtain ⟨S_t65, R_t65, B_t65, A_t65_0, h_t65__1, A_t65_1, h_t65__3, A_t65_2, S_t65__5, R_t65__5, B_t65__5, A_t65_3, S_t65__6, R_t65__6, B_t65__6, A_t65_4, h_t65__7, A_t65_5, S_t65__9, R_t65__9, B_t65__9, A_t65_7, S_t65__10, R_t65__10, B_t65__10, A_t65_8, h_t65__11, A_t65_9, S_t65__13, R_t65__13, B_t65__13, A_t65_10, S_t65__14, R_t65__14, B_t65__14, A_t65_12, S_t65__15, R_t65__15, B_t65__15, A_t65_14, S_t65__16, R_t65__16, B_t65__16, A_t65_15, h_t65__17⟩ := id h_t65
        obtain ⟨S_t65__1, R_t65__1, B_t65__1, A_t65__1_0, S_t65__1_1, R_t65__1_1, B_t65__1_1, Q0_t65__1, Q1_t65__1, Q2_t65__1⟩ := id h_t65__1
        obtain ⟨S_t65__3, R_t65__3, B_t65__3, A_t65__3_0, S_t65__3_1, R_t65__3_1, B_t65__3_1, Q0_t65__3, Q1_t65__3, Q2_t65__3⟩ := id h_t65__3
        obtain ⟨S_t65__7, R_t65__7, B_t65__7, A_t65__7_0, S_t65__7_1, R_t65__7_1, B_t65__7_1, Q0_t65__7, Q1_t65__7, Q2_t65__7⟩ := id h_t65__7
        obtain ⟨S_t65__11, R_t65__11, B_t65__11, A_t65__11_0, S_t65__11_1, R_t65__11_1, B_t65__11_1, Q0_t65__11, Q1_t65__11, Q2_t65__11⟩ := id h_t65__11
        obtain ⟨S_t65__17, R_t65__17, B_t65__17, A_t65__17_0, S_20, R_20, B_20, A_t65__17_1, S_t65__17_1, R_t65__17_1, B_t65__17_1, A_t65__17_2, S_t65__17_2, R_t65__17_2, B_t65__17_2, A_t65__17_3, S_t65__17_3, R_t65__17_3, B_t65__17_3, A_t65__17_4, S_t65__17_4, R_t65__17_4, B_t65__17_4, A_t65__17_5, S_t65__17_5, R_t65__17_5, B_t65__17_5, S_t65__17_6, R_t65__17_6, B_t65__17_6, S_t65__17_7, R_t65__17_7, B_t65__17_7⟩ := id h_t65__17
        refine gv_aald hD rfl S_10 ⟨by decide, by decide⟩ ⟨by decide, B_10⟩ ⟨by omega, by omega⟩ ((gc_aA S_10 rfl).trans A_t65) ?_
        show gv_X _ _ (107, [(0, .inr (.inr (some 1))), (1, .inl v1_17)], [.inr (.inr (some t65_))], sh, gc_h sh I15 J16 A)
        refine gv_run 1 true hD (pc' := 108) (lv' := [(0, .inr (.inr (some 1))), (1, .inl v1_17)]) (st' := [.inr (.inr (some 1)), .inr (.inr (some t65_))]) (h' := gc_h sh I15 J16 A) (C := (True ∧ True)) rfl ⟨trivial, trivial⟩ ?_
        refine gv_get hD rfl rfl S_1 ⟨by decide, B_1⟩ (gc_hA S_1 rfl A_1_19) ?_
        show gv_X _ _ (111, [(0, .inr (.inr (some 1))), (1, .inl v1_17)], [.inr (.inr (some 21)), .inr (.inr (some t65_))], sh, gc_h sh I15 J16 A)
        refine gv_run 5 true hD (pc' := 118) (lv' := [(0, .inr (.inr (some 1))), (1, .inl v1_17)]) (st' := [.inl (7 + (v1_17 * 7)), .inr (.inr (some 21)), .inr (.inr (some t65_))]) (h' := gc_h sh I15 J16 A) (C := (((((True ∧ True) ∧ True) ∧ True) ∧ True) ∧ True)) rfl ⟨⟨⟨⟨⟨trivial, trivial⟩, trivial⟩, trivial⟩, trivial⟩, trivial⟩ ?_
        obtain ⟨r66, h66, E66, P66⟩ := d_X11_saveSizes_w (ws0 := ws0) (tb := tb) hws htb sh ro I15 J16 A hI15 t65_ 159 21 ((7 + (v1_17 * 7))) h_t65 S_21 R_21 B_21 (by decide)  ⟨by omega, by omega⟩ (by omega) (by omega) (by omega) 
        obtain ⟨I67, J68, rfl, hI67, g66, k66, ⟨rfl, q66⟩⟩ := P66
        have FI67 := gc_frc (W := fun q j => (q = 1 ∧ j = 18) ∨ q = 21) (V := fun q j => (q = 21 ∧ j = (Int.toNat ((7 + (v1_17 * 7))))) ∨ (q = 21 ∧ j = (Int.toNat (((7 + (v1_17 * 7))) + 1))) ∨ (q = 21 ∧ j = (Int.toNat (((7 + (v1_17 * 7))) + 2))) ∨ (q = 21 ∧ j = (Int.toNat (((7 + (v1_17 * 7))) + 3))) ∨ (q = 21 ∧ j = (Int.toNat (((7 + (v1_17 * 7))) + 4))) ∨ (q = 21 ∧ j = (Int.toNat (((7 + (v1_17 * 7))) + 5))) ∨ (q = 21 ∧ j = (Int.toNat (((7 + (v1_17 * 7))) + 6)))) FI15 (fun q j h => (h.elim (fun h => (Or.inr h.1)) (fun h => (h.elim (fun h => (Or.inr h.1)) (fun h => (h.elim (fun h => (Or.inr h.1)) (fun h => (h.elim (fun h => (Or.inr h.1)) (fun h => (h.elim (fun h => (Or.inr h.1)) (fun h => (h.elim (fun h => (Or.inr h.1)) (fun h => (Or.inr h.1)))))))))))))) g66
        have t69 := (g66 21 0).resolve_left (by omega)
        have t70 := (g66 21 1).resolve_left (by omega)
        have t71 := (g66 21 2).resolve_left (by omega)
        have t72 := (g66 21 3).resolve_left (by omega)
        have t73 := (g66 21 4).resolve_left (by omega)
        have t74 := (g66 21 5).resolve_left (by omega)
        have t75 := (g66 21 6).resolve_left (by omega)
        have t76 := (g66 2 1).resolve_left (fun h => h.elim (fun h => absurd h.1 (by decide)) (fun h => h.elim (fun h => absurd h.1 (by decide)) (fun h => h.elim (fun h => absurd h.1 (by decide)) (fun h => h.elim (fun h => absurd h.1 (by decide)) (fun h => h.elim (fun h => absurd h.1 (by decide)) (fun h => h.elim (fun h => absurd h.1 (by decide)) (fun h => absurd h.1 (by decide))))))))
        have t77 := (g66 4 1).resolve_left (fun h => h.elim (fun h => absurd h.1 (by decide)) (fun h => h.elim (fun h => absurd h.1 (by decide)) (fun h => h.elim (fun h => absurd h.1 (by decide)) (fun h => h.elim (fun h => absurd h.1 (by decide)) (fun h => h.elim (fun h => absurd h.1 (by decide)) (fun h => h.elim (fun h => absurd h.1 (by decide)) (fun h => absurd h.1 (by decide))))))))
        have t78 := (g66 6 1).resolve_left (fun h => h.elim (fun h => absurd h.1 (by decide)) (fun h => h.elim (fun h => absurd h.1 (by decide)) (fun h => h.elim (fun h => absurd h.1 (by decide)) (fun h => h.elim (fun h => absurd h.1 (by decide)) (fun h => h.elim (fun h => absurd h.1 (by decide)) (fun h => h.elim (fun h => absurd h.1 (by decide)) (fun h => absurd h.1 (by decide))))))))
        have t79 := (g66 8 1).resolve_left (fun h => h.elim (fun h => absurd h.1 (by decide)) (fun h => h.elim (fun h => absurd h.1 (by decide)) (fun h => h.elim (fun h => absurd h.1 (by decide)) (fun h => h.elim (fun h => absurd h.1 (by decide)) (fun h => h.elim (fun h => absurd h.1 (by decide)) (fun h => h.elim (fun h => absurd h.1 (by decide)) (fun h => absurd h.1 (by decide))))))))
        have t80 := (g66 1 13).resolve_left (fun h => h.elim (fun h => absurd h.1 (by decide)) (fun h => h.elim (fun h => absurd h.1 (by decide)) (fun h => h.elim (fun h => absurd h.1 (by decide)) (fun h => h.elim (fun h => absurd h.1 (by decide)) (fun h => h.elim (fun h => absurd h.1 (by decide)) (fun h => h.elim (fun h => absurd h.1 (by decide)) (fun h => absurd h.1 (by decide))))))))
        have t81 := (g66 1 17).resolve_left (fun h => h.elim (fun h => absurd h.1 (by decide)) (fun h => h.elim (fun h => absurd h.1 (by decide)) (fun h => h.elim (fun h => absurd h.1 (by decide)) (fun h => h.elim (fun h => absurd h.1 (by decide)) (fun h => h.elim (fun h => absurd h.1 (by decide)) (fun h => h.elim (fun h => absurd h.1 (by decide)) (fun h => absurd h.1 (by decide))))))))
        have t82 := (g66 1 5).resolve_left (fun h => h.elim (fun h => absurd h.1 (by decide)) (fun h => h.elim (fun h => absurd h.1 (by decide)) (fun h => h.elim (fun h => absurd h.1 (by decide)) (fun h => h.elim (fun h => absurd h.1 (by decide)) (fun h => h.elim (fun h => absurd h.1 (by decide)) (fun h => h.elim (fun h => absurd h.1 (by decide)) (fun h => absurd h.1 (by decide))))))))
        have f83 := (show (-1) ≤ I67 21 0 ∧ I67 21 0 ≤ 12000 from gc_in hI67 R_21 rfl rfl)
        have f84 := (show (-1) ≤ I67 21 1 ∧ I67 21 1 ≤ 12000 from gc_in hI67 R_21 rfl rfl)
        have f85 := (show (-1) ≤ I67 21 2 ∧ I67 21 2 ≤ 12000 from gc_in hI67 R_21 rfl rfl)
        have f86 := (show (-1) ≤ I67 21 3 ∧ I67 21 3 ≤ 12000 from gc_in hI67 R_21 rfl rfl)
        have f87 := (show (-1) ≤ I67 21 4 ∧ I67 21 4 ≤ 12000 from gc_in hI67 R_21 rfl rfl)
        have f88 := (show (-1) ≤ I67 21 5 ∧ I67 21 5 ≤ 12000 from gc_in hI67 R_21 rfl rfl)
        have f89 := (show (-1) ≤ I67 21 6 ∧ I67 21 6 ≤ 12000 from gc_in hI67 R_21 rfl rfl)
        obtain rfl : J16 = J68 := funext fun q => funext fun j => ((k66 q j).resolve_left id).symm
        refine gv_callV hD rfl (As := [.inr (.inr (some 21)), .inl (7 + (v1_17 * 7))]) (st := []) rfl B_t65 S_t65 rfl (gc_lV8 hws rfl) (Nat.le_of_ble_eq_true rfl) (gz_Ev_mono (d := 1) (by decide) E66) ?_
        show gv_X _ _ (121, [(0, .inr (.inr (some 1))), (1, .inl v1_17)], [], sh, gc_h sh I67 J16 A)
        refine gv_run 2 true hD (pc' := 90) (lv' := [(1, .inl (v1_17 + 1)), (0, .inr (.inr (some 1)))]) (st' := []) (h' := gc_h sh I67 J16 A) (C := ((True ∧ True) ∧ True)) rfl ⟨⟨trivial, trivial⟩, trivial⟩ ?_
        refine gv_pick [1, 0] rfl ?_
        exact ih90 I67 J16 (v1_17 + 1) (by omega) hI67 FI67 FJ16 (by omega) (fun j hj q9 hq => if hjj : j = Int.toNat v1_17 then (by subst hjj; cases (A_t65.symm.trans hq); unfold gc_ts7; exact ⟨(by rw [show 7 + 7 * Int.toNat v1_17 = (Int.toNat (7 + (v1_17 * 7))) from by omega]; exact (q66.1).trans ((FI15 (t65_ + 1) 1).resolve_left (by omega))), (by rw [show 7 + 7 * Int.toNat v1_17 + 1 = (Int.toNat ((7 + (v1_17 * 7)) + 1)) from by omega]; exact (q66.2.1).trans ((FI15 (t65_ + 3) 1).resolve_left (by omega))), (by rw [show 7 + 7 * Int.toNat v1_17 + 2 = (Int.toNat ((7 + (v1_17 * 7)) + 2)) from by omega]; exact (q66.2.2.1).trans ((FI15 (t65_ + 7) 1).resolve_left (by omega))), (by rw [show 7 + 7 * Int.toNat v1_17 + 3 = (Int.toNat ((7 + (v1_17 * 7)) + 3)) from by omega]; exact (q66.2.2.2.1).trans ((FI15 t65_ 6).resolve_left (by omega))), (by rw [show 7 + 7 * Int.toNat v1_17 + 4 = (Int.toNat ((7 + (v1_17 * 7)) + 4)) from by omega]; exact (q66.2.2.2.2.1).trans ((FI15 (t65_ + 11) 1).resolve_left (by omega))), (by rw [show 7 + 7 * Int.toNat v1_17 + 5 = (Int.toNat ((7 + (v1_17 * 7)) + 5)) from by omega]; exact (q66.2.2.2.2.2.1).trans ((FI15 t65_ 11).resolve_left (by omega))), (by rw [show 7 + 7 * Int.toNat v1_17 + 6 = (Int.toNat ((7 + (v1_17 * 7)) + 6)) from by omega]; exact (q66.2.2.2.2.2.2).trans ((FI15 t65_ 13).resolve_left (by omega)))⟩) else (gc_ts7_fr (e0_17 j (by omega) q9 hq) (fun k hk => (g66 21 _).resolve_left (by omega))))
  refine gv_run 2 true hD (pc' := 2) (lv' := [(0, .inr (.inr (some 1)))]) (st' := [.inl 0, .inr (.inr (some 1))]) (h' := gc_h sh I J A) (C := ((True ∧ True) ∧ True)) rfl ⟨⟨trivial, trivial⟩, trivial⟩ ?_
  refine gv_put hD rfl rfl S_1 ⟨by decide, B_1⟩ rfl (by omega) ?_
  refine gc_st (k := 18) hI S_1 rfl R_1 (lo := 0) (hi := 1) rfl rfl (by omega) (by omega) (fun I90 hI90 q91 p91 => ?_)
  have FI90 := gc_frs (W := fun q j => (q = 1 ∧ j = 18) ∨ q = 21) FI (Or.inl ⟨rfl, rfl⟩) p91
  have t92 := p91 21 0 (fun h => absurd h.2 (by decide))
  have t93 := p91 21 1 (fun h => absurd h.2 (by decide))
  have t94 := p91 21 2 (fun h => absurd h.2 (by decide))
  have t95 := p91 21 3 (fun h => absurd h.2 (by decide))
  have t96 := p91 21 4 (fun h => absurd h.2 (by decide))
  have t97 := p91 21 5 (fun h => absurd h.2 (by decide))
  have t98 := p91 21 6 (fun h => absurd h.2 (by decide))
  have t99 := p91 2 1 (fun h => absurd h.2 (by decide))
  have t100 := p91 4 1 (fun h => absurd h.2 (by decide))
  have t101 := p91 6 1 (fun h => absurd h.2 (by decide))
  have t102 := p91 8 1 (fun h => absurd h.2 (by decide))
  have t103 := p91 1 13 (fun h => absurd h.2 (by decide))
  have t104 := p91 1 17 (fun h => absurd h.2 (by decide))
  have t105 := p91 1 5 (fun h => absurd h.2 (by decide))
  show gv_X _ _ (5, [(0, .inr (.inr (some 1)))], [], sh, gc_h sh I90 J A)
  refine gv_run 1 true hD (pc' := 6) (lv' := [(0, .inr (.inr (some 1)))]) (st' := [.inr (.inr (some 1))]) (h' := gc_h sh I90 J A) (C := (True ∧ True)) rfl ⟨trivial, trivial⟩ ?_
  refine gv_get hD rfl rfl S_1 ⟨by decide, B_1⟩ (gc_hA S_1 rfl A_1_19) ?_
  show gv_X _ _ (9, [(0, .inr (.inr (some 1)))], [.inr (.inr (some 21))], sh, gc_h sh I90 J A)
  refine gv_run 2 true hD (pc' := 11) (lv' := [(0, .inr (.inr (some 1)))]) (st' := [.inr (.inr (some 1)), .inl 0, .inr (.inr (some 21))]) (h' := gc_h sh I90 J A) (C := ((True ∧ True) ∧ True)) rfl ⟨⟨trivial, trivial⟩, trivial⟩ ?_
  refine gv_get hD rfl rfl S_1 ⟨by decide, B_1⟩ (gc_hA S_1 rfl A_1_0) ?_
  show gv_X _ _ (14, [(0, .inr (.inr (some 1)))], [.inr (.inr (some 2)), .inl 0, .inr (.inr (some 21))], sh, gc_h sh I90 J A)
  have f106 := (show 0 ≤ I90 2 1 ∧ I90 2 1 ≤ 32 from gc_in hI90 R_2 rfl rfl)
  refine gv_get hD rfl rfl S_2 ⟨by decide, B_2⟩ (gc_hI S_2 rfl) ?_
  show gv_X _ _ (17, [(0, .inr (.inr (some 1)))], [.inl (I90 2 1), .inl 0, .inr (.inr (some 21))], sh, gc_h sh I90 J A)
  refine gv_iast hD rfl S_21 ⟨by decide, B_21⟩ ⟨by omega, by omega⟩ ?_
  refine gc_st (k := 0) hI90 S_21 rfl R_21 (lo := (-1)) (hi := 12000) rfl rfl (by omega) (by omega) (fun I107 hI107 q108 p108 => ?_)
  have FI107 := gc_frs (W := fun q j => (q = 1 ∧ j = 18) ∨ q = 21) FI90 (Or.inr rfl) p108
  have t109 := p108 21 1 (fun h => absurd h.2 (by decide))
  have t110 := p108 21 2 (fun h => absurd h.2 (by decide))
  have t111 := p108 21 3 (fun h => absurd h.2 (by decide))
  have t112 := p108 21 4 (fun h => absurd h.2 (by decide))
  have t113 := p108 21 5 (fun h => absurd h.2 (by decide))
  have t114 := p108 21 6 (fun h => absurd h.2 (by decide))
  have t115 := p108 2 1 (fun h => absurd h.2 (by decide))
  have t116 := p108 4 1 (fun h => absurd h.2 (by decide))
  have t117 := p108 6 1 (fun h => absurd h.2 (by decide))
  have t118 := p108 8 1 (fun h => absurd h.2 (by decide))
  have t119 := p108 1 13 (fun h => absurd h.2 (by decide))
  have t120 := p108 1 17 (fun h => absurd h.2 (by decide))
  have t121 := p108 1 5 (fun h => absurd h.2 (by decide))
  have f122 := (show (-1) ≤ I107 21 0 ∧ I107 21 0 ≤ 12000 from gc_in hI107 R_21 rfl rfl)
  show gv_X _ _ (18, [(0, .inr (.inr (some 1)))], [], sh, gc_h sh I107 J A)
  refine gv_run 1 true hD (pc' := 19) (lv' := [(0, .inr (.inr (some 1)))]) (st' := [.inr (.inr (some 1))]) (h' := gc_h sh I107 J A) (C := (True ∧ True)) rfl ⟨trivial, trivial⟩ ?_
  refine gv_get hD rfl rfl S_1 ⟨by decide, B_1⟩ (gc_hA S_1 rfl A_1_19) ?_
  show gv_X _ _ (22, [(0, .inr (.inr (some 1)))], [.inr (.inr (some 21))], sh, gc_h sh I107 J A)
  refine gv_run 2 true hD (pc' := 24) (lv' := [(0, .inr (.inr (some 1)))]) (st' := [.inr (.inr (some 1)), .inl 1, .inr (.inr (some 21))]) (h' := gc_h sh I107 J A) (C := ((True ∧ True) ∧ True)) rfl ⟨⟨trivial, trivial⟩, trivial⟩ ?_
  refine gv_get hD rfl rfl S_1 ⟨by decide, B_1⟩ (gc_hA S_1 rfl A_1_1) ?_
  show gv_X _ _ (27, [(0, .inr (.inr (some 1)))], [.inr (.inr (some 4)), .inl 1, .inr (.inr (some 21))], sh, gc_h sh I107 J A)
  have f123 := (show 0 ≤ I107 4 1 ∧ I107 4 1 ≤ 96 from gc_in hI107 R_4 rfl rfl)
  refine gv_get hD rfl rfl S_4 ⟨by decide, B_4⟩ (gc_hI S_4 rfl) ?_
  show gv_X _ _ (30, [(0, .inr (.inr (some 1)))], [.inl (I107 4 1), .inl 1, .inr (.inr (some 21))], sh, gc_h sh I107 J A)
  refine gv_iast hD rfl S_21 ⟨by decide, B_21⟩ ⟨by omega, by omega⟩ ?_
  refine gc_st (k := 1) hI107 S_21 rfl R_21 (lo := (-1)) (hi := 12000) rfl rfl (by omega) (by omega) (fun I124 hI124 q125 p125 => ?_)
  have FI124 := gc_frs (W := fun q j => (q = 1 ∧ j = 18) ∨ q = 21) FI107 (Or.inr rfl) p125
  have t126 := p125 21 0 (fun h => absurd h.2 (by decide))
  have t127 := p125 21 2 (fun h => absurd h.2 (by decide))
  have t128 := p125 21 3 (fun h => absurd h.2 (by decide))
  have t129 := p125 21 4 (fun h => absurd h.2 (by decide))
  have t130 := p125 21 5 (fun h => absurd h.2 (by decide))
  have t131 := p125 21 6 (fun h => absurd h.2 (by decide))
  have t132 := p125 2 1 (fun h => absurd h.1 (by decide))
  have t133 := p125 4 1 (fun h => absurd h.1 (by decide))
  have t134 := p125 6 1 (fun h => absurd h.1 (by decide))
  have t135 := p125 8 1 (fun h => absurd h.1 (by decide))
  have t136 := p125 1 13 (fun h => absurd h.2 (by decide))
  have t137 := p125 1 17 (fun h => absurd h.2 (by decide))
  have t138 := p125 1 5 (fun h => absurd h.2 (by decide))
  have f139 := (show (-1) ≤ I124 21 1 ∧ I124 21 1 ≤ 12000 from gc_in hI124 R_21 rfl rfl)
  show gv_X _ _ (31, [(0, .inr (.inr (some 1)))], [], sh, gc_h sh I124 J A)
  refine gv_run 1 true hD (pc' := 32) (lv' := [(0, .inr (.inr (some 1)))]) (st' := [.inr (.inr (some 1))]) (h' := gc_h sh I124 J A) (C := (True ∧ True)) rfl ⟨trivial, trivial⟩ ?_
  refine gv_get hD rfl rfl S_1 ⟨by decide, B_1⟩ (gc_hA S_1 rfl A_1_19) ?_
  show gv_X _ _ (35, [(0, .inr (.inr (some 1)))], [.inr (.inr (some 21))], sh, gc_h sh I124 J A)
  refine gv_run 2 true hD (pc' := 37) (lv' := [(0, .inr (.inr (some 1)))]) (st' := [.inr (.inr (some 1)), .inl 2, .inr (.inr (some 21))]) (h' := gc_h sh I124 J A) (C := ((True ∧ True) ∧ True)) rfl ⟨⟨trivial, trivial⟩, trivial⟩ ?_
  refine gv_get hD rfl rfl S_1 ⟨by decide, B_1⟩ (gc_hA S_1 rfl A_1_2) ?_
  show gv_X _ _ (40, [(0, .inr (.inr (some 1)))], [.inr (.inr (some 6)), .inl 2, .inr (.inr (some 21))], sh, gc_h sh I124 J A)
  have f140 := (show 0 ≤ I124 6 1 ∧ I124 6 1 ≤ 8 from gc_in hI124 R_6 rfl rfl)
  refine gv_get hD rfl rfl S_6 ⟨by decide, B_6⟩ (gc_hI S_6 rfl) ?_
  show gv_X _ _ (43, [(0, .inr (.inr (some 1)))], [.inl (I124 6 1), .inl 2, .inr (.inr (some 21))], sh, gc_h sh I124 J A)
  refine gv_iast hD rfl S_21 ⟨by decide, B_21⟩ ⟨by omega, by omega⟩ ?_
  refine gc_st (k := 2) hI124 S_21 rfl R_21 (lo := (-1)) (hi := 12000) rfl rfl (by omega) (by omega) (fun I141 hI141 q142 p142 => ?_)
  have FI141 := gc_frs (W := fun q j => (q = 1 ∧ j = 18) ∨ q = 21) FI124 (Or.inr rfl) p142
  have t143 := p142 21 0 (fun h => absurd h.2 (by decide))
  have t144 := p142 21 1 (fun h => absurd h.2 (by decide))
  have t145 := p142 21 3 (fun h => absurd h.2 (by decide))
  have t146 := p142 21 4 (fun h => absurd h.2 (by decide))
  have t147 := p142 21 5 (fun h => absurd h.2 (by decide))
  have t148 := p142 21 6 (fun h => absurd h.2 (by decide))
  have t149 := p142 2 1 (fun h => absurd h.2 (by decide))
  have t150 := p142 4 1 (fun h => absurd h.2 (by decide))
  have t151 := p142 6 1 (fun h => absurd h.2 (by decide))
  have t152 := p142 8 1 (fun h => absurd h.2 (by decide))
  have t153 := p142 1 13 (fun h => absurd h.2 (by decide))
  have t154 := p142 1 17 (fun h => absurd h.2 (by decide))
  have t155 := p142 1 5 (fun h => absurd h.2 (by decide))
  have f156 := (show (-1) ≤ I141 21 2 ∧ I141 21 2 ≤ 12000 from gc_in hI141 R_21 rfl rfl)
  show gv_X _ _ (44, [(0, .inr (.inr (some 1)))], [], sh, gc_h sh I141 J A)
  refine gv_run 1 true hD (pc' := 45) (lv' := [(0, .inr (.inr (some 1)))]) (st' := [.inr (.inr (some 1))]) (h' := gc_h sh I141 J A) (C := (True ∧ True)) rfl ⟨trivial, trivial⟩ ?_
  refine gv_get hD rfl rfl S_1 ⟨by decide, B_1⟩ (gc_hA S_1 rfl A_1_19) ?_
  show gv_X _ _ (48, [(0, .inr (.inr (some 1)))], [.inr (.inr (some 21))], sh, gc_h sh I141 J A)
  refine gv_run 2 true hD (pc' := 50) (lv' := [(0, .inr (.inr (some 1)))]) (st' := [.inr (.inr (some 1)), .inl 3, .inr (.inr (some 21))]) (h' := gc_h sh I141 J A) (C := ((True ∧ True) ∧ True)) rfl ⟨⟨trivial, trivial⟩, trivial⟩ ?_
  refine gv_get hD rfl rfl S_1 ⟨by decide, B_1⟩ (gc_hA S_1 rfl A_1_3) ?_
  show gv_X _ _ (53, [(0, .inr (.inr (some 1)))], [.inr (.inr (some 8)), .inl 3, .inr (.inr (some 21))], sh, gc_h sh I141 J A)
  have f157 := (show 0 ≤ I141 8 1 ∧ I141 8 1 ≤ 8 from gc_in hI141 R_8 rfl rfl)
  refine gv_get hD rfl rfl S_8 ⟨by decide, B_8⟩ (gc_hI S_8 rfl) ?_
  show gv_X _ _ (56, [(0, .inr (.inr (some 1)))], [.inl (I141 8 1), .inl 3, .inr (.inr (some 21))], sh, gc_h sh I141 J A)
  refine gv_iast hD rfl S_21 ⟨by decide, B_21⟩ ⟨by omega, by omega⟩ ?_
  refine gc_st (k := 3) hI141 S_21 rfl R_21 (lo := (-1)) (hi := 12000) rfl rfl (by omega) (by omega) (fun I158 hI158 q159 p159 => ?_)
  have FI158 := gc_frs (W := fun q j => (q = 1 ∧ j = 18) ∨ q = 21) FI141 (Or.inr rfl) p159
  have t160 := p159 21 0 (fun h => absurd h.2 (by decide))
  have t161 := p159 21 1 (fun h => absurd h.2 (by decide))
  have t162 := p159 21 2 (fun h => absurd h.2 (by decide))
  have t163 := p159 21 4 (fun h => absurd h.2 (by decide))
  have t164 := p159 21 5 (fun h => absurd h.2 (by decide))
  have t165 := p159 21 6 (fun h => absurd h.2 (by decide))
  have t166 := p159 2 1 (fun h => absurd h.2 (by decide))
  have t167 := p159 4 1 (fun h => absurd h.2 (by decide))
  have t168 := p159 6 1 (fun h => absurd h.2 (by decide))
  have t169 := p159 8 1 (fun h => absurd h.2 (by decide))
  have t170 := p159 1 13 (fun h => absurd h.2 (by decide))
  have t171 := p159 1 17 (fun h => absurd h.2 (by decide))
  have t172 := p159 1 5 (fun h => absurd h.2 (by decide))
  have f173 := (show (-1) ≤ I158 21 3 ∧ I158 21 3 ≤ 12000 from gc_in hI158 R_21 rfl rfl)
  show gv_X _ _ (57, [(0, .inr (.inr (some 1)))], [], sh, gc_h sh I158 J A)
  refine gv_run 1 true hD (pc' := 58) (lv' := [(0, .inr (.inr (some 1)))]) (st' := [.inr (.inr (some 1))]) (h' := gc_h sh I158 J A) (C := (True ∧ True)) rfl ⟨trivial, trivial⟩ ?_
  refine gv_get hD rfl rfl S_1 ⟨by decide, B_1⟩ (gc_hA S_1 rfl A_1_19) ?_
  show gv_X _ _ (61, [(0, .inr (.inr (some 1)))], [.inr (.inr (some 21))], sh, gc_h sh I158 J A)
  refine gv_run 2 true hD (pc' := 63) (lv' := [(0, .inr (.inr (some 1)))]) (st' := [.inr (.inr (some 1)), .inl 4, .inr (.inr (some 21))]) (h' := gc_h sh I158 J A) (C := ((True ∧ True) ∧ True)) rfl ⟨⟨trivial, trivial⟩, trivial⟩ ?_
  have f174 := (show 0 ≤ I158 1 13 ∧ I158 1 13 ≤ 64 from gc_in hI158 R_1 rfl rfl)
  refine gv_get hD rfl rfl S_1 ⟨by decide, B_1⟩ (gc_hI S_1 rfl) ?_
  show gv_X _ _ (66, [(0, .inr (.inr (some 1)))], [.inl (I158 1 13), .inl 4, .inr (.inr (some 21))], sh, gc_h sh I158 J A)
  refine gv_iast hD rfl S_21 ⟨by decide, B_21⟩ ⟨by omega, by omega⟩ ?_
  refine gc_st (k := 4) hI158 S_21 rfl R_21 (lo := (-1)) (hi := 12000) rfl rfl (by omega) (by omega) (fun I175 hI175 q176 p176 => ?_)
  have FI175 := gc_frs (W := fun q j => (q = 1 ∧ j = 18) ∨ q = 21) FI158 (Or.inr rfl) p176
  have t177 := p176 21 0 (fun h => absurd h.2 (by decide))
  have t178 := p176 21 1 (fun h => absurd h.2 (by decide))
  have t179 := p176 21 2 (fun h => absurd h.2 (by decide))
  have t180 := p176 21 3 (fun h => absurd h.2 (by decide))
  have t181 := p176 21 5 (fun h => absurd h.2 (by decide))
  have t182 := p176 21 6 (fun h => absurd h.2 (by decide))
  have t183 := p176 2 1 (fun h => absurd h.2 (by decide))
  have t184 := p176 4 1 (fun h => absurd h.2 (by decide))
  have t185 := p176 6 1 (fun h => absurd h.2 (by decide))
  have t186 := p176 8 1 (fun h => absurd h.2 (by decide))
  have t187 := p176 1 13 (fun h => absurd h.2 (by decide))
  have t188 := p176 1 17 (fun h => absurd h.2 (by decide))
  have t189 := p176 1 5 (fun h => absurd h.2 (by decide))
  have f190 := (show (-1) ≤ I175 21 4 ∧ I175 21 4 ≤ 12000 from gc_in hI175 R_21 rfl rfl)
  show gv_X _ _ (67, [(0, .inr (.inr (some 1)))], [], sh, gc_h sh I175 J A)
  refine gv_run 1 true hD (pc' := 68) (lv' := [(0, .inr (.inr (some 1)))]) (st' := [.inr (.inr (some 1))]) (h' := gc_h sh I175 J A) (C := (True ∧ True)) rfl ⟨trivial, trivial⟩ ?_
  refine gv_get hD rfl rfl S_1 ⟨by decide, B_1⟩ (gc_hA S_1 rfl A_1_19) ?_
  show gv_X _ _ (71, [(0, .inr (.inr (some 1)))], [.inr (.inr (some 21))], sh, gc_h sh I175 J A)
  refine gv_run 2 true hD (pc' := 73) (lv' := [(0, .inr (.inr (some 1)))]) (st' := [.inr (.inr (some 1)), .inl 5, .inr (.inr (some 21))]) (h' := gc_h sh I175 J A) (C := ((True ∧ True) ∧ True)) rfl ⟨⟨trivial, trivial⟩, trivial⟩ ?_
  have f191 := (show 0 ≤ I175 1 17 ∧ I175 1 17 ≤ 12000 from gc_in hI175 R_1 rfl rfl)
  refine gv_get hD rfl rfl S_1 ⟨by decide, B_1⟩ (gc_hI S_1 rfl) ?_
  show gv_X _ _ (76, [(0, .inr (.inr (some 1)))], [.inl (I175 1 17), .inl 5, .inr (.inr (some 21))], sh, gc_h sh I175 J A)
  refine gv_iast hD rfl S_21 ⟨by decide, B_21⟩ ⟨by omega, by omega⟩ ?_
  refine gc_st (k := 5) hI175 S_21 rfl R_21 (lo := (-1)) (hi := 12000) rfl rfl (by omega) (by omega) (fun I192 hI192 q193 p193 => ?_)
  have FI192 := gc_frs (W := fun q j => (q = 1 ∧ j = 18) ∨ q = 21) FI175 (Or.inr rfl) p193
  have t194 := p193 21 0 (fun h => absurd h.2 (by decide))
  have t195 := p193 21 1 (fun h => absurd h.2 (by decide))
  have t196 := p193 21 2 (fun h => absurd h.2 (by decide))
  have t197 := p193 21 3 (fun h => absurd h.2 (by decide))
  have t198 := p193 21 4 (fun h => absurd h.2 (by decide))
  have t199 := p193 21 6 (fun h => absurd h.2 (by decide))
  have t200 := p193 2 1 (fun h => absurd h.2 (by decide))
  have t201 := p193 4 1 (fun h => absurd h.2 (by decide))
  have t202 := p193 6 1 (fun h => absurd h.2 (by decide))
  have t203 := p193 8 1 (fun h => absurd h.2 (by decide))
  have t204 := p193 1 13 (fun h => absurd h.2 (by decide))
  have t205 := p193 1 17 (fun h => absurd h.2 (by decide))
  have t206 := p193 1 5 (fun h => absurd h.1 (by decide))
  have f207 := (show (-1) ≤ I192 21 5 ∧ I192 21 5 ≤ 12000 from gc_in hI192 R_21 rfl rfl)
  show gv_X _ _ (77, [(0, .inr (.inr (some 1)))], [], sh, gc_h sh I192 J A)
  refine gv_run 1 true hD (pc' := 78) (lv' := [(0, .inr (.inr (some 1)))]) (st' := [.inr (.inr (some 1))]) (h' := gc_h sh I192 J A) (C := (True ∧ True)) rfl ⟨trivial, trivial⟩ ?_
  refine gv_get hD rfl rfl S_1 ⟨by decide, B_1⟩ (gc_hA S_1 rfl A_1_19) ?_
  show gv_X _ _ (81, [(0, .inr (.inr (some 1)))], [.inr (.inr (some 21))], sh, gc_h sh I192 J A)
  refine gv_run 2 true hD (pc' := 84) (lv' := [(0, .inr (.inr (some 1)))]) (st' := [.inr (.inr (some 1)), .inl 6, .inr (.inr (some 21))]) (h' := gc_h sh I192 J A) (C := ((True ∧ True) ∧ True)) rfl ⟨⟨trivial, trivial⟩, trivial⟩ ?_
  have f208 := (show (-1) ≤ I192 1 5 ∧ I192 1 5 ≤ 7 from gc_in hI192 R_1 rfl rfl)
  refine gv_get hD rfl rfl S_1 ⟨by decide, B_1⟩ (gc_hI S_1 rfl) ?_
  show gv_X _ _ (87, [(0, .inr (.inr (some 1)))], [.inl (I192 1 5), .inl 6, .inr (.inr (some 21))], sh, gc_h sh I192 J A)
  refine gv_iast hD rfl S_21 ⟨by decide, B_21⟩ ⟨by omega, by omega⟩ ?_
  refine gc_st (k := 6) hI192 S_21 rfl R_21 (lo := (-1)) (hi := 12000) rfl rfl (by omega) (by omega) (fun I209 hI209 q210 p210 => ?_)
  have FI209 := gc_frs (W := fun q j => (q = 1 ∧ j = 18) ∨ q = 21) FI192 (Or.inr rfl) p210
  have t211 := p210 21 0 (fun h => absurd h.2 (by decide))
  have t212 := p210 21 1 (fun h => absurd h.2 (by decide))
  have t213 := p210 21 2 (fun h => absurd h.2 (by decide))
  have t214 := p210 21 3 (fun h => absurd h.2 (by decide))
  have t215 := p210 21 4 (fun h => absurd h.2 (by decide))
  have t216 := p210 21 5 (fun h => absurd h.2 (by decide))
  have t217 := p210 2 1 (fun h => absurd h.2 (by decide))
  have t218 := p210 4 1 (fun h => absurd h.2 (by decide))
  have t219 := p210 6 1 (fun h => absurd h.2 (by decide))
  have t220 := p210 8 1 (fun h => absurd h.2 (by decide))
  have t221 := p210 1 13 (fun h => absurd h.2 (by decide))
  have t222 := p210 1 17 (fun h => absurd h.2 (by decide))
  have t223 := p210 1 5 (fun h => absurd h.2 (by decide))
  have f224 := (show (-1) ≤ I209 21 6 ∧ I209 21 6 ≤ 12000 from gc_in hI209 R_21 rfl rfl)
  show gv_X _ _ (88, [(0, .inr (.inr (some 1)))], [], sh, gc_h sh I209 J A)
  refine gv_run 2 true hD (pc' := 90) (lv' := [(1, .inl 0), (0, .inr (.inr (some 1)))]) (st' := []) (h' := gc_h sh I209 J A) (C := ((True ∧ True) ∧ True)) rfl ⟨⟨trivial, trivial⟩, trivial⟩ ?_
  refine gv_pick [1, 0] rfl ?_
  exact L90 _ I209 J 0 (Nat.lt_succ_self _) hI209 FI209 FJ (by omega) (fun j hj => by omega)
