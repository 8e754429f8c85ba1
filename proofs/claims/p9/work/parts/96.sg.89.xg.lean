set_option maxHeartbeats 8000000 in
set_option maxRecDepth 100000 in
theorem d_X12_trees_o {ws0 : List Cond} {tb : String → gz_T} (hws : gc_Ws ws0) (htb : gc_tbs tb) (sh : gz_Sh) (ro : Nat → Nat) (I : gr_I) (J : gr_J) (A : gc_A) (hI : gc_Inv ro I) (t : Nat) (σ : Nat → Int)  (hb : gc_Base sh ro A) (h_t : gc_isTongue sh ro A t) (G_t : 144 ≤ t)  (x0 : gc_Ls sh ro A t I) (x1 : gc_WV t I) (x2 : ∀ i q : Nat, (i : Int) < I t 13 → A (t + 16) i = some q → I q 8 = σ i) (x3 : gc_WA σ I) (x4 : gc_FN I) (x5 : I 49 (Int.toNat (I 48 10)) + I 50 (Int.toNat (I 48 10)) ≤ I 48 3) (x6 : I 61 4 = 0 ∨ (gc_LH σ (-1) I ∧ gc_TH (-1) I)) (x7 : I 61 3 = 1) (x8 : I 61 2 = (t : Int)) : ∃ r hₚ, gz_Ev ws0 tb 4 (yX12_trees, cX12_trees, 1, (some .long)) [.inr (.inr (some 0))] sh (gc_h sh I J A) r sh hₚ 0 0 ∧ (∃ (Iₚ : gr_I) (Jₚ : gr_J), hₚ = gc_h sh Iₚ Jₚ A ∧ gc_Inv ro Iₚ ∧ (∀ q j : Nat, (False) ∨ Iₚ q j = I q j) ∧ (∀ q j : Nat, (q = 63) ∨ Jₚ q j = J q j) ∧ (∃ z : Int64, r = some (.inr (.inl z)))) := by
  have FI : ∀ q j : Nat, (False) ∨ I q j = I q j := fun _ _ => Or.inr rfl
  have FJ : ∀ q j : Nat, (q = 63) ∨ J q j = J q j := fun _ _ => Or.inr rfl
  have A_0_7 : A 0 7 = some 61 := gc_bA_0_7 hb
  have B_0 : 0 < 1000000 := by decide
  have B_61 : 61 < 1000000 := by decide
  have S_0 : sh[0]? = some (false, 12, 17) := gc_bS_0 hb
  have S_61 : sh[61]? = some (false, 5, 19) := gc_bS_61 hb
  obtain ⟨S_t, R_t, B_t, A_t_0, h_t_1, A_t_1, h_t_3, A_t_2, S_t_5, R_t_5, B_t_5, A_t_3, S_t_6, R_t_6, B_t_6, A_t_4, h_t_7, A_t_5, S_t_9, R_t_9, B_t_9, A_t_7, S_t_10, R_t_10, B_t_10, A_t_8, h_t_11, A_t_9, S_t_13, R_t_13, B_t_13, A_t_10, S_t_14, R_t_14, B_t_14, A_t_12, S_t_15, R_t_15, B_t_15, A_t_14, S_t_16, R_t_16, B_t_16, A_t_15, h_t_17⟩ := id h_t
  obtain ⟨S_t_1, R_t_1, B_t_1, A_t_1_0, S_t_1_1, R_t_1_1, B_t_1_1, Q0_t_1, Q1_t_1, Q2_t_1⟩ := id h_t_1
  obtain ⟨S_t_3, R_t_3, B_t_3, A_t_3_0, S_t_3_1, R_t_3_1, B_t_3_1, Q0_t_3, Q1_t_3, Q2_t_3⟩ := id h_t_3
  obtain ⟨S_t_7, R_t_7, B_t_7, A_t_7_0, S_t_7_1, R_t_7_1, B_t_7_1, Q0_t_7, Q1_t_7, Q2_t_7⟩ := id h_t_7
  obtain ⟨S_t_11, R_t_11, B_t_11, A_t_11_0, S_t_11_1, R_t_11_1, B_t_11_1, Q0_t_11, Q1_t_11, Q2_t_11⟩ := id h_t_11
  obtain ⟨S_t_17, R_t_17, B_t_17, A_t_17_0, S_20, R_20, B_20, A_t_17_1, S_t_17_1, R_t_17_1, B_t_17_1, A_t_17_2, S_t_17_2, R_t_17_2, B_t_17_2, A_t_17_3, S_t_17_3, R_t_17_3, B_t_17_3, A_t_17_4, S_t_17_4, R_t_17_4, B_t_17_4, A_t_17_5, S_t_17_5, R_t_17_5, B_t_17_5, S_t_17_6, R_t_17_6, B_t_17_6, S_t_17_7, R_t_17_7, B_t_17_7⟩ := id h_t_17
  have hD : gv_D (gc_E12 ws0 tb 3 (yX12_trees, cX12_trees, 1, (some .long)) kX12_trees) := gq_of oX12_trees
  refine gc_ev12 (d := 3) (l := kX12_trees) (Po := fun r hₚ => (∃ (Iₚ : gr_I) (Jₚ : gr_J), hₚ = gc_h sh Iₚ Jₚ A ∧ gc_Inv ro Iₚ ∧ (∀ q j : Nat, (False) ∨ Iₚ q j = I q j) ∧ (∀ q j : Nat, (q = 63) ∨ Jₚ q j = J q j) ∧ (∃ z : Int64, r = some (.inr (.inl z))))) htb rfl (Nat.le_of_ble_eq_true rfl) ?_
  refine gv_run 1 true hD (pcₚ := 1) (lvₚ := [(0, .inr (.inr (some 0)))]) (stₚ := [.inr (.inr (some 0))]) (hₚ := gc_h sh I J A) (C := (True ∧ True)) rfl ⟨trivial, trivial⟩ ?_
  refine gv_get hD rfl rfl S_0 ⟨by decide, B_0⟩ (gc_hA S_0 rfl A_0_7) ?_
  show gv_X _ _ (4, [(0, .inr (.inr (some 0)))], [.inr (.inr (some 61))], sh, gc_h sh I J A)
  obtain ⟨r1, h1, E1, P1⟩ := d_X5_total (ws0 := ws0) (tb := tb) hws htb sh ro I J A hI  t  hb  h_t G_t   x0 x1 x4 (by omega) 
  obtain ⟨I2, J3, rfl, hI2, g1, k1, ⟨z1, rfl⟩⟩ := P1
  have FI2 := gc_frc (W := fun q j => False) (V := fun q j => False) FI (fun q j h => h.elim) g1
  have FJ3 := gc_frc (W := fun q j => q = 63) (V := fun q j => q = 63) FJ (fun q j h => h) k1
  refine gv_callV hD rfl (As := []) (st := []) rfl B_61 S_61 rfl (gc_lV12 hws rfl) (Nat.le_of_ble_eq_true rfl) (gz_Ev_mono (d := 3) (by decide) E1) ?_
  show gv_X _ _ (7, [(0, .inr (.inr (some 0)))], [.inr (.inl z1)], sh, gc_h sh I2 J3 A)
  exact gv_lret hD rfl ⟨I2, J3, rfl, hI2, FI2, FJ3, ⟨_, rfl⟩⟩
set_option maxHeartbeats 8000000 in
set_option maxRecDepth 100000 in
theorem d_X12_price_o {ws0 : List Cond} {tb : String → gz_T} (hws : gc_Ws ws0) (htb : gc_tbs tb) (sh : gz_Sh) (ro : Nat → Nat) (I : gr_I) (J : gr_J) (A : gc_A) (hI : gc_Inv ro I) (t : Nat) (σ : Nat → Int) (a1 : Int) (hb : gc_Base sh ro A) (h_t : gc_isTongue sh ro A t) (G_t : 144 ≤ t) (ha1 : (-2147483648) ≤ a1 ∧ a1 ≤ 2147483647) (x0 : gc_Ls sh ro A t I) (x1 : gc_WV t I) (x2 : ∀ i q : Nat, (i : Int) < I t 13 → A (t + 16) i = some q → I q 8 = σ i) (x3 : gc_WA σ I) (x4 : gc_FN I) (x5 : I 49 (Int.toNat (I 48 10)) + I 50 (Int.toNat (I 48 10)) ≤ I 48 3) (x6 : I 61 4 = 0 ∨ (gc_LH σ (-1) I ∧ gc_TH (-1) I)) (x7 : I 61 3 = 1) (x8 : I 61 2 = (t : Int)) : ∃ r hₚ, gz_Ev ws0 tb 10 (yX12_price, cX12_price, 2, (some .int)) [.inr (.inr (some 0)), .inl a1] sh (gc_h sh I J A) r sh hₚ 0 0 ∧ (∃ (Iₚ : gr_I) (Jₚ : gr_J), hₚ = gc_h sh Iₚ Jₚ A ∧ gc_Inv ro Iₚ ∧ (∀ q j : Nat, ((q = 61 ∧ j = 4) ∨ (q = 61 ∧ j = 8) ∨ (q = 61 ∧ j = 9) ∨ (q = 61 ∧ j = 10) ∨ (q = 61 ∧ j = 15) ∨ q = 64 ∨ q = 65 ∨ q = 66 ∨ q = 67 ∨ q = 68 ∨ q = 69 ∨ q = 70 ∨ q = 71 ∨ q = 72) ∨ Iₚ q j = I q j) ∧ (∀ q j : Nat, (False) ∨ Jₚ q j = J q j) ∧ (∃ z : Int, r = some (.inl z) ∧ (-2147483648) ≤ z ∧ z ≤ 2147483647 ∧ (gc_LH σ (-1) Iₚ) ∧ (gc_TH (-1) Iₚ) ∧ (Iₚ 61 4 = 1))) := by
  have FI : ∀ q j : Nat, ((q = 61 ∧ j = 4) ∨ (q = 61 ∧ j = 8) ∨ (q = 61 ∧ j = 9) ∨ (q = 61 ∧ j = 10) ∨ (q = 61 ∧ j = 15) ∨ q = 64 ∨ q = 65 ∨ q = 66 ∨ q = 67 ∨ q = 68 ∨ q = 69 ∨ q = 70 ∨ q = 71 ∨ q = 72) ∨ I q j = I q j := fun _ _ => Or.inr rfl
  have FJ : ∀ q j : Nat, (False) ∨ J q j = J q j := fun _ _ => Or.inr rfl
  have A_0_7 : A 0 7 = some 61 := gc_bA_0_7 hb
  have B_0 := gz_hi (show 0 < 1000000 from by decide)
  have B_61 := gz_hi (show 61 < 1000000 from by decide)
  have S_0 : sh[0]? = some (false, 12, 17) := gc_bS_0 hb
  have S_61 : sh[61]? = some (false, 5, 19) := gc_bS_61 hb
  obtain ⟨S_t, R_t, B_t, A_t_0, h_t_1, A_t_1, h_t_3, A_t_2, S_t_5, R_t_5, B_t_5, A_t_3, S_t_6, R_t_6, B_t_6, A_t_4, h_t_7, A_t_5, S_t_9, R_t_9, B_t_9, A_t_7, S_t_10, R_t_10, B_t_10, A_t_8, h_t_11, A_t_9, S_t_13, R_t_13, B_t_13, A_t_10, S_t_14, R_t_14, B_t_14, A_t_12, S_t_15, R_t_15, B_t_15, A_t_14, S_t_16, R_t_16, B_t_16, A_t_15, h_t_17⟩ := id h_t
  replace R_t := gz_hi R_t
  replace B_t := gz_hi B_t
  replace R_t_5 := gz_hi R_t_5
  replace B_t_5 := gz_hi B_t_5
  replace R_t_6 := gz_hi R_t_6
  replace B_t_6 := gz_hi B_t_6
  replace R_t_9 := gz_hi R_t_9
  replace B_t_9 := gz_hi B_t_9
  replace R_t_10 := gz_hi R_t_10
  replace B_t_10 := gz_hi B_t_10
  replace R_t_13 := gz_hi R_t_13
  replace B_t_13 := gz_hi B_t_13
  replace R_t_14 := gz_hi R_t_14
  replace B_t_14 := gz_hi B_t_14
  replace R_t_15 := gz_hi R_t_15
  replace B_t_15 := gz_hi B_t_15
  replace R_t_16 := gz_hi R_t_16
  replace B_t_16 := gz_hi B_t_16
  obtain ⟨S_t_1, R_t_1, B_t_1, A_t_1_0, S_t_1_1, R_t_1_1, B_t_1_1, Q0_t_1, Q1_t_1, Q2_t_1⟩ := id h_t_1
  replace R_t_1 := gz_hi R_t_1
  replace B_t_1 := gz_hi B_t_1
  replace R_t_1_1 := gz_hi R_t_1_1
  replace B_t_1_1 := gz_hi B_t_1_1
  obtain ⟨S_t_3, R_t_3, B_t_3, A_t_3_0, S_t_3_1, R_t_3_1, B_t_3_1, Q0_t_3, Q1_t_3, Q2_t_3⟩ := id h_t_3
  replace R_t_3 := gz_hi R_t_3
  replace B_t_3 := gz_hi B_t_3
  replace R_t_3_1 := gz_hi R_t_3_1
  replace B_t_3_1 := gz_hi B_t_3_1
  obtain ⟨S_t_7, R_t_7, B_t_7, A_t_7_0, S_t_7_1, R_t_7_1, B_t_7_1, Q0_t_7, Q1_t_7, Q2_t_7⟩ := id h_t_7
  replace R_t_7 := gz_hi R_t_7
  replace B_t_7 := gz_hi B_t_7
  replace R_t_7_1 := gz_hi R_t_7_1
  replace B_t_7_1 := gz_hi B_t_7_1
  obtain ⟨S_t_11, R_t_11, B_t_11, A_t_11_0, S_t_11_1, R_t_11_1, B_t_11_1, Q0_t_11, Q1_t_11, Q2_t_11⟩ := id h_t_11
  replace R_t_11 := gz_hi R_t_11
  replace B_t_11 := gz_hi B_t_11
  replace R_t_11_1 := gz_hi R_t_11_1
  replace B_t_11_1 := gz_hi B_t_11_1
  obtain ⟨S_t_17, R_t_17, B_t_17, A_t_17_0, S_20, R_20, B_20, A_t_17_1, S_t_17_1, R_t_17_1, B_t_17_1, A_t_17_2, S_t_17_2, R_t_17_2, B_t_17_2, A_t_17_3, S_t_17_3, R_t_17_3, B_t_17_3, A_t_17_4, S_t_17_4, R_t_17_4, B_t_17_4, A_t_17_5, S_t_17_5, R_t_17_5, B_t_17_5, S_t_17_6, R_t_17_6, B_t_17_6, S_t_17_7, R_t_17_7, B_t_17_7⟩ := id h_t_17
  replace R_t_17 := gz_hi R_t_17
  replace B_t_17 := gz_hi B_t_17
  replace R_20 := gz_hi R_20
  replace B_20 := gz_hi B_20
  replace R_t_17_1 := gz_hi R_t_17_1
  replace B_t_17_1 := gz_hi B_t_17_1
  replace R_t_17_2 := gz_hi R_t_17_2
  replace B_t_17_2 := gz_hi B_t_17_2
  replace R_t_17_3 := gz_hi R_t_17_3
  replace B_t_17_3 := gz_hi B_t_17_3
  replace R_t_17_4 := gz_hi R_t_17_4
  replace B_t_17_4 := gz_hi B_t_17_4
  replace R_t_17_5 := gz_hi R_t_17_5
  replace B_t_17_5 := gz_hi B_t_17_5
  replace R_t_17_6 := gz_hi R_t_17_6
  replace B_t_17_6 := gz_hi B_t_17_6
  replace R_t_17_7 := gz_hi R_t_17_7
  replace B_t_17_7 := gz_hi B_t_17_7
  have hD : gv_D (gc_E12 ws0 tb 9 (yX12_price, cX12_price, 2, (some .int)) kX12_price) := gq_of oX12_price
  refine gc_ev12 (d := 9) (l := kX12_price) (Po := fun r hₚ => (∃ (Iₚ : gr_I) (Jₚ : gr_J), hₚ = gc_h sh Iₚ Jₚ A ∧ gc_Inv ro Iₚ ∧ (∀ q j : Nat, ((q = 61 ∧ j = 4) ∨ (q = 61 ∧ j = 8) ∨ (q = 61 ∧ j = 9) ∨ (q = 61 ∧ j = 10) ∨ (q = 61 ∧ j = 15) ∨ q = 64 ∨ q = 65 ∨ q = 66 ∨ q = 67 ∨ q = 68 ∨ q = 69 ∨ q = 70 ∨ q = 71 ∨ q = 72) ∨ Iₚ q j = I q j) ∧ (∀ q j : Nat, (False) ∨ Jₚ q j = J q j) ∧ (∃ z : Int, r = some (.inl z) ∧ (-2147483648) ≤ z ∧ z ≤ 2147483647 ∧ (gc_LH σ (-1) Iₚ) ∧ (gc_TH (-1) Iₚ) ∧ (Iₚ 61 4 = 1)))) htb rfl (Nat.le_of_ble_eq_true rfl) ?_
  refine gv_run 1 true hD (pcₚ := 1) (lvₚ := [(0, .inr (.inr (some 0))), (1, .inl a1)]) (stₚ := [.inr (.inr (some 0))]) (hₚ := gc_h sh I J A) (C := (True ∧ True)) rfl ⟨trivial, trivial⟩ ?_
  refine gv_get hD rfl rfl S_0 ⟨by decide, (gz_sh B_0)⟩ (gc_hA S_0 rfl A_0_7) ?_
  show gv_X _ _ (4, [(0, .inr (.inr (some 0))), (1, .inl a1)], [.inr (.inr (some 61))], sh, gc_h sh I J A)
  refine gv_run 1 true hD (pcₚ := 5) (lvₚ := [(0, .inr (.inr (some 0))), (1, .inl a1)]) (stₚ := [.inl a1, .inr (.inr (some 61))]) (hₚ := gc_h sh I J A) (C := (True ∧ True)) rfl ⟨trivial, trivial⟩ ?_
  obtain ⟨r1, h1, E1, P1⟩ := d_X5_priceOf (ws0 := ws0) (tb := tb) hws htb sh ro I J A hI  t σ a1 hb  h_t G_t  ⟨by (/-0-/first | omega | (simp only [gz_hd] at *; omega)), by (/-1-/first | omega | (simp only [gz_hd] at *; omega))⟩ x0 x1 x2 x3 x4 (by (/-2-/first | omega | (simp only [gz_hd] at *; omega))) x6 (by (/-3-/first | omega | (simp only [gz_hd] at *; omega))) (by (/-4-/first | omega | (simp only [gz_hd] at *; omega))) 
  obtain ⟨I2, J3, rfl, hI2, g1, k1, ⟨z1, rfl, q1⟩⟩ := P1
  replace q1 := gz_hi q1
  have FI2 := gc_frc (W := fun q j => (q = 61 ∧ j = 4) ∨ (q = 61 ∧ j = 8) ∨ (q = 61 ∧ j = 9) ∨ (q = 61 ∧ j = 10) ∨ (q = 61 ∧ j = 15) ∨ q = 64 ∨ q = 65 ∨ q = 66 ∨ q = 67 ∨ q = 68 ∨ q = 69 ∨ q = 70 ∨ q = 71 ∨ q = 72) (V := fun q j => (q = 61 ∧ j = 4) ∨ (q = 61 ∧ j = 8) ∨ (q = 61 ∧ j = 9) ∨ (q = 61 ∧ j = 10) ∨ (q = 61 ∧ j = 15) ∨ q = 64 ∨ q = 65 ∨ q = 66 ∨ q = 67 ∨ q = 68 ∨ q = 69 ∨ q = 70 ∨ q = 71 ∨ q = 72) FI (fun q j h => (h.elim (fun h => (Or.inl h)) (fun h => (h.elim (fun h => (Or.inr (Or.inl h))) (fun h => (h.elim (fun h => (Or.inr (Or.inr (Or.inl h)))) (fun h => (h.elim (fun h => (Or.inr (Or.inr (Or.inr (Or.inl h))))) (fun h => (h.elim (fun h => (Or.inr (Or.inr (Or.inr (Or.inr (Or.inl h)))))) (fun h => (h.elim (fun h => (Or.inr (Or.inr (Or.inr (Or.inr (Or.inr (Or.inl h))))))) (fun h => (h.elim (fun h => (Or.inr (Or.inr (Or.inr (Or.inr (Or.inr (Or.inr (Or.inl h)))))))) (fun h => (h.elim (fun h => (Or.inr (Or.inr (Or.inr (Or.inr (Or.inr (Or.inr (Or.inr (Or.inl h))))))))) (fun h => (h.elim (fun h => (Or.inr (Or.inr (Or.inr (Or.inr (Or.inr (Or.inr (Or.inr (Or.inr (Or.inl h)))))))))) (fun h => (h.elim (fun h => (Or.inr (Or.inr (Or.inr (Or.inr (Or.inr (Or.inr (Or.inr (Or.inr (Or.inr (Or.inl h))))))))))) (fun h => (h.elim (fun h => (Or.inr (Or.inr (Or.inr (Or.inr (Or.inr (Or.inr (Or.inr (Or.inr (Or.inr (Or.inr (Or.inl h)))))))))))) (fun h => (h.elim (fun h => (Or.inr (Or.inr (Or.inr (Or.inr (Or.inr (Or.inr (Or.inr (Or.inr (Or.inr (Or.inr (Or.inr (Or.inl h))))))))))))) (fun h => (h.elim (fun h => (Or.inr (Or.inr (Or.inr (Or.inr (Or.inr (Or.inr (Or.inr (Or.inr (Or.inr (Or.inr (Or.inr (Or.inr (Or.inl h)))))))))))))) (fun h => (Or.inr (Or.inr (Or.inr (Or.inr (Or.inr (Or.inr (Or.inr (Or.inr (Or.inr (Or.inr (Or.inr (Or.inr (Or.inr h)))))))))))))))))))))))))))))))))))))))) g1
  obtain rfl : J = J3 := funext fun q => funext fun j => ((k1 q j).resolve_left id).symm
  refine gv_callV hD rfl (As := [.inl a1]) (st := []) rfl (gz_sh B_61) S_61 rfl (gc_lV12 hws rfl) (Nat.le_of_ble_eq_true rfl) (gz_Ev_mono (d := 9) (by decide) E1) ?_
  show gv_X _ _ (8, [(0, .inr (.inr (some 0))), (1, .inl a1)], [.inl z1], sh, gc_h sh I2 J A)
  exact gv_iret hD rfl ⟨I2, J, rfl, hI2, FI2, FJ, ⟨_, rfl, by (/-5-/first | (have o1 := gz_sh q1; omega) | (simp only [gz_hd] at *; omega)), by (/-6-/first | (have o1 := gz_sh q1; omega) | (simp only [gz_hd] at *; omega)), (gz_sh q1).2.2.1, (gz_sh q1).2.2.2.1, (gz_sh q1).2.2.2.2⟩⟩
