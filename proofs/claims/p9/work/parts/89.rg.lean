set_option maxHeartbeats 8000000 in
set_option maxRecDepth 100000 in
theorem d_X5_priceOf {ws0 : List Cond} {tb : String → gz_T} (hws : gc_Ws ws0) (htb : gc_tbs tb) (sh : gz_Sh) (ro : Nat → Nat) (I : gr_I) (J : gr_J) (A : gc_A) (hI : gc_Inv ro I) (t : Nat) (σ : Nat → Int) (a1 : Int) (hb : gc_Base sh ro A) (h_t : gc_isTongue sh ro A t) (G_t : 144 ≤ t) (ha1 : (-2147483648) ≤ a1 ∧ a1 ≤ 2147483647) (x0 : gc_Ls sh ro A t I) (x1 : gc_WV t I) (x2 : ∀ i q : Nat, (i : Int) < I t 13 → A (t + 16) i = some q → I q 8 = σ i) (x3 : gc_WA σ I) (x4 : gc_FN I) (x5 : I 49 (Int.toNat (I 48 10)) + I 50 (Int.toNat (I 48 10)) ≤ I 48 3) (x6 : I 61 4 = 0 ∨ (gc_LH σ (-1) I ∧ gc_TH (-1) I)) (x7 : I 61 3 = 1) (x8 : I 61 2 = (t : Int)) : ∃ r hₚ, gz_Ev ws0 tb 9 (yX5_priceOf, cX5_priceOf, 2, (some .int)) [.inr (.inr (some 61)), .inl a1] sh (gc_h sh I J A) r sh hₚ 0 0 ∧ (∃ (Iₚ : gr_I) (Jₚ : gr_J), hₚ = gc_h sh Iₚ Jₚ A ∧ gc_Inv ro Iₚ ∧ (∀ q j : Nat, ((q = 61 ∧ j = 4) ∨ (q = 61 ∧ j = 8) ∨ (q = 61 ∧ j = 9) ∨ (q = 61 ∧ j = 10) ∨ (q = 61 ∧ j = 15) ∨ q = 64 ∨ q = 65 ∨ q = 66 ∨ q = 67 ∨ q = 68 ∨ q = 69 ∨ q = 70 ∨ q = 71 ∨ q = 72) ∨ Iₚ q j = I q j) ∧ (∀ q j : Nat, (False) ∨ Jₚ q j = J q j) ∧ (∃ z : Int, r = some (.inl z) ∧ (-2147483648) ≤ z ∧ z ≤ 2147483647 ∧ (gc_LH σ (-1) Iₚ) ∧ (gc_TH (-1) Iₚ) ∧ (Iₚ 61 4 = 1))) := by
  have FI : ∀ q j : Nat, ((q = 61 ∧ j = 4) ∨ (q = 61 ∧ j = 8) ∨ (q = 61 ∧ j = 9) ∨ (q = 61 ∧ j = 10) ∨ (q = 61 ∧ j = 15) ∨ q = 64 ∨ q = 65 ∨ q = 66 ∨ q = 67 ∨ q = 68 ∨ q = 69 ∨ q = 70 ∨ q = 71 ∨ q = 72) ∨ I q j = I q j := fun _ _ => Or.inr rfl
  have FJ : ∀ q j : Nat, (False) ∨ J q j = J q j := fun _ _ => Or.inr rfl
  have A_61_16 : A 61 16 = some 71 := gc_bA_61_16 hb
  have B_61 := gz_hi (show 61 < 1000000 from by decide)
  have B_71 := gz_hi (show 71 < 1000000 from by decide)
  have R_61 := gz_hi (show ro 61 = 72 from gc_bR_61 hb)
  have R_71 := gz_hi (show ro 71 = 0 from gc_bR_71 hb)
  have S_61 : sh[61]? = some (false, 5, 19) := gc_bS_61 hb
  have S_71 : sh[71]? = some (true, 1, 16) := gc_bS_71 hb
  obtain ⟨S_t, R_t, B_t, A_t_0, h_t_1, A_t_1, h_t_3, A_t_2, S_t_5, R_t_5, B_t_5, A_t_3, S_t_6, R_t_6, B_t_6, A_t_4, h_t_7, A_t_5, S_t_9, R_t_9, B_t_9, A_t_7, S_t_10, R_t_10, B_t_10, A_t_8, h_t_11, A_t_9, S_t_13, R_t_13, B_t_13, A_t_10, S_t_14, R_t_14, B_t_14, A_t_12, S_t_15, R_t_15, B_t_15, A_t_14, S_t_16, R_t_16, B_t_16, A_t_15, h_t_17⟩ := id h_t
  replace R_t := gz_hi R_t
  replace B_t := gz_hi B_t
  replace R_t_5 := gz_hi R_t_5
  replace B_t_5 := gz_hi B_t_5
  replace R_t_6 := gz_hi R_t_6
  replace B_t_6 := gz_hi B_t_6
  replace R_t_9 := gz_hi R_t_9
  replace B_t_9 := gz_hi B_t_9
  replace R_t_10 := gz_hi R_t_10
  replace B_t_10 := gz_hi B_t_10
  replace R_t_13 := gz_hi R_t_13
  replace B_t_13 := gz_hi B_t_13
  replace R_t_14 := gz_hi R_t_14
  replace B_t_14 := gz_hi B_t_14
  replace R_t_15 := gz_hi R_t_15
  replace B_t_15 := gz_hi B_t_15
  replace R_t_16 := gz_hi R_t_16
  replace B_t_16 := gz_hi B_t_16
  obtain ⟨S_t_1, R_t_1, B_t_1, A_t_1_0, S_t_1_1, R_t_1_1, B_t_1_1, Q0_t_1, Q1_t_1, Q2_t_1⟩ := id h_t_1
  replace R_t_1 := gz_hi R_t_1
  replace B_t_1 := gz_hi B_t_1
  replace R_t_1_1 := gz_hi R_t_1_1
  replace B_t_1_1 := gz_hi B_t_1_1
  obtain ⟨S_t_3, R_t_3, B_t_3, A_t_3_0, S_t_3_1, R_t_3_1, B_t_3_1, Q0_t_3, Q1_t_3, Q2_t_3⟩ := id h_t_3
  replace R_t_3 := gz_hi R_t_3
  replace B_t_3 := gz_hi B_t_3
  replace R_t_3_1 := gz_hi R_t_3_1
  replace B_t_3_1 := gz_hi B_t_3_1
  obtain ⟨S_t_7, R_t_7, B_t_7, A_t_7_0, S_t_7_1, R_t_7_1, B_t_7_1, Q0_t_7, Q1_t_7, Q2_t_7⟩ := id h_t_7
  replace R_t_7 := gz_hi R_t_7
  replace B_t_7 := gz_hi B_t_7
  replace R_t_7_1 := gz_hi R_t_7_1
  replace B_t_7_1 := gz_hi B_t_7_1
  obtain ⟨S_t_11, R_t_11, B_t_11, A_t_11_0, S_t_11_1, R_t_11_1, B_t_11_1, Q0_t_11, Q1_t_11, Q2_t_11⟩ := id h_t_11
  replace R_t_11 := gz_hi R_t_11
  replace B_t_11 := gz_hi B_t_11
  replace R_t_11_1 := gz_hi R_t_11_1
  replace B_t_11_1 := gz_hi B_t_11_1
  obtain ⟨S_t_17, R_t_17, B_t_17, A_t_17_0, S_20, R_20, B_20, A_t_17_1, S_t_17_1, R_t_17_1, B_t_17_1, A_t_17_2, S_t_17_2, R_t_17_2, B_t_17_2, A_t_17_3, S_t_17_3, R_t_17_3, B_t_17_3, A_t_17_4, S_t_17_4, R_t_17_4, B_t_17_4, A_t_17_5, S_t_17_5, R_t_17_5, B_t_17_5, S_t_17_6, R_t_17_6, B_t_17_6, S_t_17_7, R_t_17_7, B_t_17_7⟩ := id h_t_17
  replace R_t_17 := gz_hi R_t_17
  replace B_t_17 := gz_hi B_t_17
  replace R_20 := gz_hi R_20
  replace B_20 := gz_hi B_20
  replace R_t_17_1 := gz_hi R_t_17_1
  replace B_t_17_1 := gz_hi B_t_17_1
  replace R_t_17_2 := gz_hi R_t_17_2
  replace B_t_17_2 := gz_hi B_t_17_2
  replace R_t_17_3 := gz_hi R_t_17_3
  replace B_t_17_3 := gz_hi B_t_17_3
  replace R_t_17_4 := gz_hi R_t_17_4
  replace B_t_17_4 := gz_hi B_t_17_4
  replace R_t_17_5 := gz_hi R_t_17_5
  replace B_t_17_5 := gz_hi B_t_17_5
  replace R_t_17_6 := gz_hi R_t_17_6
  replace B_t_17_6 := gz_hi B_t_17_6
  replace R_t_17_7 := gz_hi R_t_17_7
  replace B_t_17_7 := gz_hi B_t_17_7
  have hD : gv_D (gc_E5 ws0 tb 8 (yX5_priceOf, cX5_priceOf, 2, (some .int)) kX5_priceOf) := gq_of oX5_priceOf
  refine gc_ev5 (d := 8) (l := kX5_priceOf) (Po := fun r hₚ => (∃ (Iₚ : gr_I) (Jₚ : gr_J), hₚ = gc_h sh Iₚ Jₚ A ∧ gc_Inv ro Iₚ ∧ (∀ q j : Nat, ((q = 61 ∧ j = 4) ∨ (q = 61 ∧ j = 8) ∨ (q = 61 ∧ j = 9) ∨ (q = 61 ∧ j = 10) ∨ (q = 61 ∧ j = 15) ∨ q = 64 ∨ q = 65 ∨ q = 66 ∨ q = 67 ∨ q = 68 ∨ q = 69 ∨ q = 70 ∨ q = 71 ∨ q = 72) ∨ Iₚ q j = I q j) ∧ (∀ q j : Nat, (False) ∨ Jₚ q j = J q j) ∧ (∃ z : Int, r = some (.inl z) ∧ (-2147483648) ≤ z ∧ z ≤ 2147483647 ∧ (gc_LH σ (-1) Iₚ) ∧ (gc_TH (-1) Iₚ) ∧ (Iₚ 61 4 = 1)))) htb rfl (Nat.le_of_ble_eq_true rfl) ?_
  have L26 : ∀ (I3 : gr_I) (J4 : gr_J) (s0_5 : Int), gc_Inv ro I3 → (∀ q j : Nat, ((q = 61 ∧ j = 4) ∨ (q = 61 ∧ j = 8) ∨ (q = 61 ∧ j = 9) ∨ (q = 61 ∧ j = 10) ∨ (q = 61 ∧ j = 15) ∨ q = 64 ∨ q = 65 ∨ q = 66 ∨ q = 67 ∨ q = 68 ∨ q = 69 ∨ q = 70 ∨ q = 71 ∨ q = 72) ∨ I3 q j = I q j) → (∀ q j : Nat, (False) ∨ J4 q j = J q j) → (((-2147483648) ≤ s0_5 ∧ s0_5 ≤ 2147483647) ∧ (I3 61 4 = 1) ∧ (I3 61 2 = (t : Int))) → (gc_LH σ (-1) I3) → (gc_TH (-1) I3) → gv_X (gc_E5 ws0 tb 8 (yX5_priceOf, cX5_priceOf, 2, (some .int)) kX5_priceOf) (gv_Q cX5_priceOf (some .int) sh (fun r hₚ => (∃ (Iₚ : gr_I) (Jₚ : gr_J), hₚ = gc_h sh Iₚ Jₚ A ∧ gc_Inv ro Iₚ ∧ (∀ q j : Nat, ((q = 61 ∧ j = 4) ∨ (q = 61 ∧ j = 8) ∨ (q = 61 ∧ j = 9) ∨ (q = 61 ∧ j = 10) ∨ (q = 61 ∧ j = 15) ∨ q = 64 ∨ q = 65 ∨ q = 66 ∨ q = 67 ∨ q = 68 ∨ q = 69 ∨ q = 70 ∨ q = 71 ∨ q = 72) ∨ Iₚ q j = I q j) ∧ (∀ q j : Nat, (False) ∨ Jₚ q j = J q j) ∧ (∃ z : Int, r = some (.inl z) ∧ (-2147483648) ≤ z ∧ z ≤ 2147483647 ∧ (gc_LH σ (-1) Iₚ) ∧ (gc_TH (-1) Iₚ) ∧ (Iₚ 61 4 = 1))))) (26, [], [.inl s0_5], sh, gc_h sh I3 J4 A) := by
    intro I3 J4 s0_5 hI3 FI3 FJ4 m_5 e0_5 e1_5
    obtain ⟨hs0_5, e2_5, e3_5⟩ := gz_h3 m_5
    exact gv_iret hD rfl ⟨I3, J4, rfl, hI3, FI3, FJ4, ⟨_, rfl, by (/-0-/first | (have o1 := gz_sh hs0_5; omega) | (simp only [gz_hd] at *; omega)), by (/-1-/first | (have o1 := gz_sh hs0_5; omega) | (simp only [gz_hd] at *; omega)), e0_5, e1_5, by (/-2-/first | (have o1 := gz_sh e2_5; omega) | (simp only [gz_hd] at *; omega))⟩⟩
  have L25 : ∀ (I8 : gr_I) (J9 : gr_J) , gc_Inv ro I8 → (∀ q j : Nat, ((q = 61 ∧ j = 4) ∨ (q = 61 ∧ j = 8) ∨ (q = 61 ∧ j = 9) ∨ (q = 61 ∧ j = 10) ∨ (q = 61 ∧ j = 15) ∨ q = 64 ∨ q = 65 ∨ q = 66 ∨ q = 67 ∨ q = 68 ∨ q = 69 ∨ q = 70 ∨ q = 71 ∨ q = 72) ∨ I8 q j = I q j) → (∀ q j : Nat, (False) ∨ J9 q j = J q j) → ((I8 61 4 = 1) ∧ (I8 61 2 = (t : Int))) → (gc_LH σ (-1) I8) → (gc_TH (-1) I8) → gv_X (gc_E5 ws0 tb 8 (yX5_priceOf, cX5_priceOf, 2, (some .int)) kX5_priceOf) (gv_Q cX5_priceOf (some .int) sh (fun r hₚ => (∃ (Iₚ : gr_I) (Jₚ : gr_J), hₚ = gc_h sh Iₚ Jₚ A ∧ gc_Inv ro Iₚ ∧ (∀ q j : Nat, ((q = 61 ∧ j = 4) ∨ (q = 61 ∧ j = 8) ∨ (q = 61 ∧ j = 9) ∨ (q = 61 ∧ j = 10) ∨ (q = 61 ∧ j = 15) ∨ q = 64 ∨ q = 65 ∨ q = 66 ∨ q = 67 ∨ q = 68 ∨ q = 69 ∨ q = 70 ∨ q = 71 ∨ q = 72) ∨ Iₚ q j = I q j) ∧ (∀ q j : Nat, (False) ∨ Jₚ q j = J q j) ∧ (∃ z : Int, r = some (.inl z) ∧ (-2147483648) ≤ z ∧ z ≤ 2147483647 ∧ (gc_LH σ (-1) Iₚ) ∧ (gc_TH (-1) Iₚ) ∧ (Iₚ 61 4 = 1))))) (25, [], [], sh, gc_h sh I8 J9 A) := by
    intro I8 J9 hI8 FI8 FJ9 m_10 e0_10 e1_10
    obtain ⟨e2_10, e3_10⟩ := gz_h2 m_10
    refine gv_run 1 true hD (pcₚ := 26) (lvₚ := []) (stₚ := [.inl (-1)]) (hₚ := gc_h sh I8 J9 A) (C := (True ∧ True)) rfl ⟨trivial, trivial⟩ ?_
    exact L26 I8 J9 (-1) hI8 FI8 FJ9 (by (/-3-/first | (and_intros; (omega); (omega); (have o1 := gz_sh e2_10; omega); (have o1 := gz_sh e3_10; omega)) | (simp only [gz_hd] at *; omega))) e0_10 e1_10
  refine gv_run 1 true hD (pcₚ := 1) (lvₚ := [(0, .inr (.inr (some 61))), (1, .inl a1)]) (stₚ := [.inr (.inr (some 61))]) (hₚ := gc_h sh I J A) (C := (True ∧ True)) rfl ⟨trivial, trivial⟩ ?_
  obtain ⟨r13, h13, E13, P13⟩ := d_X5_rank (ws0 := ws0) (tb := tb) hws htb sh ro I J A hI  t σ  hb  h_t G_t   x0 x1 x2 x3 x4 (by (/-4-/first | omega | (simp only [gz_hd] at *; omega))) x6 (by (/-5-/first | omega | (simp only [gz_hd] at *; omega))) (by (/-6-/first | omega | (simp only [gz_hd] at *; omega))) 
  obtain ⟨I14, J15, rfl, hI14, g13, k13, ⟨rfl, q13⟩⟩ := P13
  replace q13 := gz_hi q13
  have FI14 := gc_frc (W := fun q j => (q = 61 ∧ j = 4) ∨ (q = 61 ∧ j = 8) ∨ (q = 61 ∧ j = 9) ∨ (q = 61 ∧ j = 10) ∨ (q = 61 ∧ j = 15) ∨ q = 64 ∨ q = 65 ∨ q = 66 ∨ q = 67 ∨ q = 68 ∨ q = 69 ∨ q = 70 ∨ q = 71 ∨ q = 72) (V := fun q j => (q = 61 ∧ j = 4) ∨ (q = 61 ∧ j = 8) ∨ (q = 61 ∧ j = 9) ∨ (q = 61 ∧ j = 10) ∨ (q = 61 ∧ j = 15) ∨ q = 64 ∨ q = 65 ∨ q = 66 ∨ q = 67 ∨ q = 68 ∨ q = 69 ∨ q = 70 ∨ q = 71 ∨ q = 72) FI (fun q j h => (h.elim (fun h => (Or.inl h)) (fun h => (h.elim (fun h => (Or.inr (Or.inl h))) (fun h => (h.elim (fun h => (Or.inr (Or.inr (Or.inl h)))) (fun h => (h.elim (fun h => (Or.inr (Or.inr (Or.inr (Or.inl h))))) (fun h => (h.elim (fun h => (Or.inr (Or.inr (Or.inr (Or.inr (Or.inl h)))))) (fun h => (h.elim (fun h => (Or.inr (Or.inr (Or.inr (Or.inr (Or.inr (Or.inl h))))))) (fun h => (h.elim (fun h => (Or.inr (Or.inr (Or.inr (Or.inr (Or.inr (Or.inr (Or.inl h)))))))) (fun h => (h.elim (fun h => (Or.inr (Or.inr (Or.inr (Or.inr (Or.inr (Or.inr (Or.inr (Or.inl h))))))))) (fun h => (h.elim (fun h => (Or.inr (Or.inr (Or.inr (Or.inr (Or.inr (Or.inr (Or.inr (Or.inr (Or.inl h)))))))))) (fun h => (h.elim (fun h => (Or.inr (Or.inr (Or.inr (Or.inr (Or.inr (Or.inr (Or.inr (Or.inr (Or.inr (Or.inl h))))))))))) (fun h => (h.elim (fun h => (Or.inr (Or.inr (Or.inr (Or.inr (Or.inr (Or.inr (Or.inr (Or.inr (Or.inr (Or.inr (Or.inl h)))))))))))) (fun h => (h.elim (fun h => (Or.inr (Or.inr (Or.inr (Or.inr (Or.inr (Or.inr (Or.inr (Or.inr (Or.inr (Or.inr (Or.inr (Or.inl h))))))))))))) (fun h => (h.elim (fun h => (Or.inr (Or.inr (Or.inr (Or.inr (Or.inr (Or.inr (Or.inr (Or.inr (Or.inr (Or.inr (Or.inr (Or.inr (Or.inl h)))))))))))))) (fun h => (Or.inr (Or.inr (Or.inr (Or.inr (Or.inr (Or.inr (Or.inr (Or.inr (Or.inr (Or.inr (Or.inr (Or.inr (Or.inr h)))))))))))))))))))))))))))))))))))))))) g13
  have t16 := gz_hi ((g13 61 2).resolve_left (fun h => h.elim (fun h => absurd h.2 (by first | exact gz_ne rfl | decide)) (fun h => h.elim (fun h => absurd h.2 (by first | exact gz_ne rfl | decide)) (fun h => h.elim (fun h => absurd h.2 (by first | exact gz_ne rfl | decide)) (fun h => h.elim (fun h => absurd h.2 (by first | exact gz_ne rfl | decide)) (fun h => h.elim (fun h => absurd h.2 (by first | exact gz_ne rfl | decide)) (fun h => h.elim (fun h => absurd h (by first | exact gz_ne rfl | decide)) (fun h => h.elim (fun h => absurd h (by first | exact gz_ne rfl | decide)) (fun h => h.elim (fun h => absurd h (by first | exact gz_ne rfl | decide)) (fun h => h.elim (fun h => absurd h (by first | exact gz_ne rfl | decide)) (fun h => h.elim (fun h => absurd h (by first | exact gz_ne rfl | decide)) (fun h => h.elim (fun h => absurd h (by first | exact gz_ne rfl | decide)) (fun h => h.elim (fun h => absurd h (by first | exact gz_ne rfl | decide)) (fun h => h.elim (fun h => absurd h (by first | exact gz_ne rfl | decide)) (fun h => absurd h (by first | exact gz_ne rfl | decide))))))))))))))))
  have f17 := gz_hi ((gc_b_72_15 hI14 (gz_sh R_61)))
  obtain rfl : J = J15 := funext fun q => funext fun j => ((k13 q j).resolve_left id).symm
  refine gv_callV hD rfl (As := []) (st := []) rfl (gz_sh B_61) S_61 rfl (gc_lV5 hws rfl) (Nat.le_of_ble_eq_true rfl) (gz_Ev_mono (d := 8) (by decide) E13) ?_
  show gv_X _ _ (4, [(0, .inr (.inr (some 61))), (1, .inl a1)], [], sh, gc_h sh I14 J A)
  refine gv_run 1 true hD (pcₚ := 5) (lvₚ := [(0, .inr (.inr (some 61))), (1, .inl a1)]) (stₚ := [.inl a1]) (hₚ := gc_h sh I14 J A) (C := (True ∧ True)) rfl ⟨trivial, trivial⟩ ?_
  refine gv_if_lt (t := 25) hD rfl rfl ⟨by (/-7-/first | omega | (simp only [gz_hd] at *; omega)), by (/-8-/first | omega | (simp only [gz_hd] at *; omega))⟩ (fun c18 => ?_) (fun c18 => ?_)
  · show gv_X _ _ (25, [(0, .inr (.inr (some 61))), (1, .inl a1)], [], sh, gc_h sh I14 J A)
    refine gv_pick [] rfl ?_
    exact L25 I14 J hI14 FI14 FJ (by (/-9-/first | (and_intros; (have o1 := gz_sh q13; omega); (have o1 := gz_sh t16; omega)) | (simp only [gz_hd] at *; omega))) (gz_sh q13).1 (gz_sh q13).2.1
  · show gv_X _ _ (8, [(0, .inr (.inr (some 61))), (1, .inl a1)], [], sh, gc_h sh I14 J A)
    refine gv_run 2 true hD (pcₚ := 10) (lvₚ := [(0, .inr (.inr (some 61))), (1, .inl a1)]) (stₚ := [.inr (.inr (some 61)), .inl a1]) (hₚ := gc_h sh I14 J A) (C := ((True ∧ True) ∧ True)) rfl ⟨⟨trivial, trivial⟩, trivial⟩ ?_
    refine gv_get hD rfl rfl S_61 ⟨by decide, (gz_sh B_61)⟩ (gc_hI S_61 rfl) ?_
    show gv_X _ _ (13, [(0, .inr (.inr (some 61))), (1, .inl a1)], [.inl (I14 61 15), .inl a1], sh, gc_h sh I14 J A)
    refine gv_icmp_ge (t := 25) hD rfl rfl ⟨⟨by (/-10-/first | omega | (simp only [gz_hd] at *; omega)), by (/-11-/first | omega | (simp only [gz_hd] at *; omega))⟩, ⟨by (/-12-/first | (have o1 := gz_sh f17; omega) | (simp only [gz_hd] at *; omega)), by (/-13-/first | (have o1 := gz_sh f17; omega) | (simp only [gz_hd] at *; omega))⟩⟩ (fun c20 => ?_) (fun c20 => ?_)
    · show gv_X _ _ (25, [(0, .inr (.inr (some 61))), (1, .inl a1)], [], sh, gc_h sh I14 J A)
      refine gv_pick [] rfl ?_
      exact L25 I14 J hI14 FI14 FJ (by (/-14-/first | (and_intros; (have o1 := gz_sh q13; omega); (have o1 := gz_sh t16; omega)) | (simp only [gz_hd] at *; omega))) (gz_sh q13).1 (gz_sh q13).2.1
    · show gv_X _ _ (16, [(0, .inr (.inr (some 61))), (1, .inl a1)], [], sh, gc_h sh I14 J A)
      refine gv_run 1 true hD (pcₚ := 17) (lvₚ := [(0, .inr (.inr (some 61))), (1, .inl a1)]) (stₚ := [.inr (.inr (some 61))]) (hₚ := gc_h sh I14 J A) (C := (True ∧ True)) rfl ⟨trivial, trivial⟩ ?_
      refine gv_get hD rfl rfl S_61 ⟨by decide, (gz_sh B_61)⟩ (gc_hA S_61 rfl A_61_16) ?_
      show gv_X _ _ (20, [(0, .inr (.inr (some 61))), (1, .inl a1)], [.inr (.inr (some 71))], sh, gc_h sh I14 J A)
      refine gv_run 1 true hD (pcₚ := 21) (lvₚ := [(0, .inr (.inr (some 61))), (1, .inl a1)]) (stₚ := [.inl a1, .inr (.inr (some 71))]) (hₚ := gc_h sh I14 J A) (C := (True ∧ True)) rfl ⟨trivial, trivial⟩ ?_
      have f21 := gz_hi ((gc_b_0 hI14 (gz_sh R_71) (Int.toNat a1)))
      refine gv_iald hD rfl S_71 rfl ⟨by decide, (gz_sh B_71)⟩ ⟨by (/-15-/first | omega | (simp only [gz_hd] at *; omega)), by (/-16-/first | (have o1 := gz_sh f17; omega) | (simp only [gz_hd] at *; omega))⟩ (gc_iI S_71 rfl) ?_
      show gv_X _ _ (22, [(0, .inr (.inr (some 61))), (1, .inl a1)], [.inl (I14 71 (Int.toNat a1))], sh, gc_h sh I14 J A)
      refine gv_run 1 true hD (pcₚ := 26) (lvₚ := [(0, .inr (.inr (some 61))), (1, .inl a1)]) (stₚ := [.inl (I14 71 (Int.toNat a1))]) (hₚ := gc_h sh I14 J A) (C := (True ∧ True)) rfl ⟨trivial, trivial⟩ ?_
      refine gv_pick [] rfl ?_
      exact L26 I14 J ((I14 71 (Int.toNat a1))) hI14 FI14 FJ (by (/-17-/first | (and_intros; (have o1 := gz_sh f21; omega); (have o1 := gz_sh f21; omega); (have o1 := gz_sh q13; omega); (have o1 := gz_sh t16; omega)) | (simp only [gz_hd] at *; omega))) (gz_sh q13).1 (gz_sh q13).2.1
