set_option maxHeartbeats 8000000 in
set_option maxRecDepth 100000 in
theorem d_X12_swap_h {ws0 : List Cond} {tb : String → gz_T} (hws : gc_Ws ws0) (htb : gc_tbs tb) (sh : gz_Sh) (ro : Nat → Nat) (I : gr_I) (J : gr_J) (A : gc_A) (hI : gc_Inv ro I) (t : Nat) (y : Nat) (a1 : Int) (a2 : Int) (a3 : Int) (hb : gc_Base sh ro A) (h_t : gc_isTongue sh ro A t) (G_t : 144 ≤ t) (h_y : gc_isTongue sh ro A y) (G_y : 144 ≤ y) (ha1 : 0 ≤ a1 ∧ a1 ≤ 7) (ha2 : 0 ≤ a2 ∧ a2 ≤ 31) (ha3 : 0 ≤ a3 ∧ a3 ≤ 7) (x0 : 0 ≤ a1 ∧ a1 < I 8 1) (x1 : A 10 (Int.toNat a1) = some t) (x2 : a2 < I 2 1) (x3 : 0 ≤ a3 ∧ a3 < I 8 1) (x4 : A 10 (Int.toNat a3) = some y) {Q : gz_S → Prop} (L24 : ∀ (I1 : gr_I) (J2 : gr_J) , gc_Inv ro I1 → (∀ q j : Nat, ((q = 0 ∧ j = 15)) ∨ I1 q j = I q j) → (∀ q j : Nat, (False) ∨ J2 q j = J q j) → ((0 ≤ a1 ∧ a1 ≤ 7) ∧ (0 ≤ a2 ∧ a2 ≤ 31) ∧ (0 ≤ a3 ∧ a3 ≤ 7) ∧ (a1 = a1) ∧ (a2 = a2) ∧ (a3 = a3)) → gv_X (gc_E12 ws0 tb 97 (yX12_swap, cX12_swap, 9, (some .int)) kX12_swap) Q (24, [(0, .inr (.inr (some 0))), (1, .inl a1), (2, .inl a2), (3, .inl a3), (4, .inr (.inr (some t))), (5, .inr (.inr (some y)))], [], sh, gc_h sh I1 J2 A)) : gv_X (gc_E12 ws0 tb 97 (yX12_swap, cX12_swap, 9, (some .int)) kX12_swap) Q (0, [(0, .inr (.inr (some 0))), (1, .inl a1), (2, .inl a2), (3, .inl a3)], [], sh, gc_h sh I J A) := by
  have FI : ∀ q j : Nat, ((q = 0 ∧ j = 15)) ∨ I q j = I q j := fun _ _ => Or.inr rfl
  have FJ : ∀ q j : Nat, (False) ∨ J q j = J q j := fun _ _ => Or.inr rfl
  have B_0 := gz_hi (show 0 < 1000000 from by decide)
  have R_0 := gz_hi (show ro 0 = 76 from gc_bR_0 hb)
  have S_0 : sh[0]? = some (false, 12, 17) := gc_bS_0 hb
  obtain ⟨S_t, R_t, B_t, A_t_0, h_t_1, A_t_1, h_t_3, A_t_2, S_t_5, R_t_5, B_t_5, A_t_3, S_t_6, R_t_6, B_t_6, A_t_4, h_t_7, A_t_5, S_t_9, R_t_9, B_t_9, A_t_7, S_t_10, R_t_10, B_t_10, A_t_8, h_t_11, A_t_9, S_t_13, R_t_13, B_t_13, A_t_10, S_t_14, R_t_14, B_t_14, A_t_12, S_t_15, R_t_15, B_t_15, A_t_14, S_t_16, R_t_16, B_t_16, A_t_15, h_t_17⟩ := id h_t
  replace R_t := gz_hi R_t
  replace B_t := gz_hi B_t
  replace R_t_5 := gz_hi R_t_5
  replace B_t_5 := gz_hi B_t_5
  replace R_t_6 := gz_hi R_t_6
  replace B_t_6 := gz_hi B_t_6
  replace R_t_9 := gz_hi R_t_9
  replace B_t_9 := gz_hi B_t_9
  replace R_t_10 := gz_hi R_t_10
  replace B_t_10 := gz_hi B_t_10
  replace R_t_13 := gz_hi R_t_13
  replace B_t_13 := gz_hi B_t_13
  replace R_t_14 := gz_hi R_t_14
  replace B_t_14 := gz_hi B_t_14
  replace R_t_15 := gz_hi R_t_15
  replace B_t_15 := gz_hi B_t_15
  replace R_t_16 := gz_hi R_t_16
  replace B_t_16 := gz_hi B_t_16
  obtain ⟨S_t_1, R_t_1, B_t_1, A_t_1_0, S_t_1_1, R_t_1_1, B_t_1_1, Q0_t_1, Q1_t_1, Q2_t_1⟩ := id h_t_1
  replace R_t_1 := gz_hi R_t_1
  replace B_t_1 := gz_hi B_t_1
  replace R_t_1_1 := gz_hi R_t_1_1
  replace B_t_1_1 := gz_hi B_t_1_1
  obtain ⟨S_t_3, R_t_3, B_t_3, A_t_3_0, S_t_3_1, R_t_3_1, B_t_3_1, Q0_t_3, Q1_t_3, Q2_t_3⟩ := id h_t_3
  replace R_t_3 := gz_hi R_t_3
  replace B_t_3 := gz_hi B_t_3
  replace R_t_3_1 := gz_hi R_t_3_1
  replace B_t_3_1 := gz_hi B_t_3_1
  obtain ⟨S_t_7, R_t_7, B_t_7, A_t_7_0, S_t_7_1, R_t_7_1, B_t_7_1, Q0_t_7, Q1_t_7, Q2_t_7⟩ := id h_t_7
  replace R_t_7 := gz_hi R_t_7
  replace B_t_7 := gz_hi B_t_7
  replace R_t_7_1 := gz_hi R_t_7_1
  replace B_t_7_1 := gz_hi B_t_7_1
  obtain ⟨S_t_11, R_t_11, B_t_11, A_t_11_0, S_t_11_1, R_t_11_1, B_t_11_1, Q0_t_11, Q1_t_11, Q2_t_11⟩ := id h_t_11
  replace R_t_11 := gz_hi R_t_11
  replace B_t_11 := gz_hi B_t_11
  replace R_t_11_1 := gz_hi R_t_11_1
  replace B_t_11_1 := gz_hi B_t_11_1
  obtain ⟨S_t_17, R_t_17, B_t_17, A_t_17_0, S_20, R_20, B_20, A_t_17_1, S_t_17_1, R_t_17_1, B_t_17_1, A_t_17_2, S_t_17_2, R_t_17_2, B_t_17_2, A_t_17_3, S_t_17_3, R_t_17_3, B_t_17_3, A_t_17_4, S_t_17_4, R_t_17_4, B_t_17_4, A_t_17_5, S_t_17_5, R_t_17_5, B_t_17_5, S_t_17_6, R_t_17_6, B_t_17_6, S_t_17_7, R_t_17_7, B_t_17_7⟩ := id h_t_17
  replace R_t_17 := gz_hi R_t_17
  replace B_t_17 := gz_hi B_t_17
  replace R_20 := gz_hi R_20
  replace B_20 := gz_hi B_20
  replace R_t_17_1 := gz_hi R_t_17_1
  replace B_t_17_1 := gz_hi B_t_17_1
  replace R_t_17_2 := gz_hi R_t_17_2
  replace B_t_17_2 := gz_hi B_t_17_2
  replace R_t_17_3 := gz_hi R_t_17_3
  replace B_t_17_3 := gz_hi B_t_17_3
  replace R_t_17_4 := gz_hi R_t_17_4
  replace B_t_17_4 := gz_hi B_t_17_4
  replace R_t_17_5 := gz_hi R_t_17_5
  replace B_t_17_5 := gz_hi B_t_17_5
  replace R_t_17_6 := gz_hi R_t_17_6
  replace B_t_17_6 := gz_hi B_t_17_6
  replace R_t_17_7 := gz_hi R_t_17_7
  replace B_t_17_7 := gz_hi B_t_17_7
  obtain ⟨S_y, R_y, B_y, A_y_0, h_y_1, A_y_1, h_y_3, A_y_2, S_y_5, R_y_5, B_y_5, A_y_3, S_y_6, R_y_6, B_y_6, A_y_4, h_y_7, A_y_5, S_y_9, R_y_9, B_y_9, A_y_7, S_y_10, R_y_10, B_y_10, A_y_8, h_y_11, A_y_9, S_y_13, R_y_13, B_y_13, A_y_10, S_y_14, R_y_14, B_y_14, A_y_12, S_y_15, R_y_15, B_y_15, A_y_14, S_y_16, R_y_16, B_y_16, A_y_15, h_y_17⟩ := id h_y
  replace R_y := gz_hi R_y
  replace B_y := gz_hi B_y
  replace R_y_5 := gz_hi R_y_5
  replace B_y_5 := gz_hi B_y_5
  replace R_y_6 := gz_hi R_y_6
  replace B_y_6 := gz_hi B_y_6
  replace R_y_9 := gz_hi R_y_9
  replace B_y_9 := gz_hi B_y_9
  replace R_y_10 := gz_hi R_y_10
  replace B_y_10 := gz_hi B_y_10
  replace R_y_13 := gz_hi R_y_13
  replace B_y_13 := gz_hi B_y_13
  replace R_y_14 := gz_hi R_y_14
  replace B_y_14 := gz_hi B_y_14
  replace R_y_15 := gz_hi R_y_15
  replace B_y_15 := gz_hi B_y_15
  replace R_y_16 := gz_hi R_y_16
  replace B_y_16 := gz_hi B_y_16
  obtain ⟨S_y_1, R_y_1, B_y_1, A_y_1_0, S_y_1_1, R_y_1_1, B_y_1_1, Q0_y_1, Q1_y_1, Q2_y_1⟩ := id h_y_1
  replace R_y_1 := gz_hi R_y_1
  replace B_y_1 := gz_hi B_y_1
  replace R_y_1_1 := gz_hi R_y_1_1
  replace B_y_1_1 := gz_hi B_y_1_1
  obtain ⟨S_y_3, R_y_3, B_y_3, A_y_3_0, S_y_3_1, R_y_3_1, B_y_3_1, Q0_y_3, Q1_y_3, Q2_y_3⟩ := id h_y_3
  replace R_y_3 := gz_hi R_y_3
  replace B_y_3 := gz_hi B_y_3
  replace R_y_3_1 := gz_hi R_y_3_1
  replace B_y_3_1 := gz_hi B_y_3_1
  obtain ⟨S_y_7, R_y_7, B_y_7, A_y_7_0, S_y_7_1, R_y_7_1, B_y_7_1, Q0_y_7, Q1_y_7, Q2_y_7⟩ := id h_y_7
  replace R_y_7 := gz_hi R_y_7
  replace B_y_7 := gz_hi B_y_7
  replace R_y_7_1 := gz_hi R_y_7_1
  replace B_y_7_1 := gz_hi B_y_7_1
  obtain ⟨S_y_11, R_y_11, B_y_11, A_y_11_0, S_y_11_1, R_y_11_1, B_y_11_1, Q0_y_11, Q1_y_11, Q2_y_11⟩ := id h_y_11
  replace R_y_11 := gz_hi R_y_11
  replace B_y_11 := gz_hi B_y_11
  replace R_y_11_1 := gz_hi R_y_11_1
  replace B_y_11_1 := gz_hi B_y_11_1
  obtain ⟨S_y_17, R_y_17, B_y_17, A_y_17_0, S_20, R_20, B_20, A_y_17_1, S_y_17_1, R_y_17_1, B_y_17_1, A_y_17_2, S_y_17_2, R_y_17_2, B_y_17_2, A_y_17_3, S_y_17_3, R_y_17_3, B_y_17_3, A_y_17_4, S_y_17_4, R_y_17_4, B_y_17_4, A_y_17_5, S_y_17_5, R_y_17_5, B_y_17_5, S_y_17_6, R_y_17_6, B_y_17_6, S_y_17_7, R_y_17_7, B_y_17_7⟩ := id h_y_17
  replace R_y_17 := gz_hi R_y_17
  replace B_y_17 := gz_hi B_y_17
  replace R_20 := gz_hi R_20
  replace B_20 := gz_hi B_20
  replace R_y_17_1 := gz_hi R_y_17_1
  replace B_y_17_1 := gz_hi B_y_17_1
  replace R_y_17_2 := gz_hi R_y_17_2
  replace B_y_17_2 := gz_hi B_y_17_2
  replace R_y_17_3 := gz_hi R_y_17_3
  replace B_y_17_3 := gz_hi B_y_17_3
  replace R_y_17_4 := gz_hi R_y_17_4
  replace B_y_17_4 := gz_hi B_y_17_4
  replace R_y_17_5 := gz_hi R_y_17_5
  replace B_y_17_5 := gz_hi B_y_17_5
  replace R_y_17_6 := gz_hi R_y_17_6
  replace B_y_17_6 := gz_hi B_y_17_6
  replace R_y_17_7 := gz_hi R_y_17_7
  replace B_y_17_7 := gz_hi B_y_17_7
  have hD : gv_D (gc_E12 ws0 tb 97 (yX12_swap, cX12_swap, 9, (some .int)) kX12_swap) := gq_of oX12_swap
  refine gv_run 2 true hD (pcₚ := 2) (lvₚ := [(0, .inr (.inr (some 0))), (1, .inl a1), (2, .inl a2), (3, .inl a3)]) (stₚ := [.inl a1, .inr (.inr (some 0))]) (hₚ := gc_h sh I J A) (C := ((True ∧ True) ∧ True)) rfl ⟨⟨trivial, trivial⟩, trivial⟩ ?_
  refine gv_callV hD rfl (As := [.inl a1]) (st := []) rfl (gz_sh B_0) S_0 rfl (gc_lV12 hws rfl) (Nat.le_of_ble_eq_true rfl) (gz_Ev_mono (d := 1) (by decide) (d_X12_tongueAt hws htb (J := J) hI hb (by (/-0-/first | omega | (simp only [gz_hd] at *; omega))) (by (/-1-/first | omega | (simp only [gz_hd] at *; omega))) x1)) ?_
  show gv_X _ _ (5, [(0, .inr (.inr (some 0))), (1, .inl a1), (2, .inl a2), (3, .inl a3)], [.inr (.inr (some t))], sh, gc_h sh I J A)
  refine gv_run 3 true hD (pcₚ := 9) (lvₚ := [(4, .inr (.inr (some t))), (0, .inr (.inr (some 0))), (1, .inl a1), (2, .inl a2), (3, .inl a3)]) (stₚ := [.inl a2, .inr (.inr (some 0))]) (hₚ := gc_h sh I J A) (C := (((True ∧ True) ∧ True) ∧ True)) rfl ⟨⟨⟨trivial, trivial⟩, trivial⟩, trivial⟩ ?_
  obtain ⟨r5, h5, E5, P5⟩ := d_X12_checkKind (ws0 := ws0) (tb := tb) hws htb sh ro I J A hI  a2 hb   ⟨by (/-2-/first | omega | (simp only [gz_hd] at *; omega)), by (/-3-/first | omega | (simp only [gz_hd] at *; omega))⟩ (by (/-4-/first | omega | (simp only [gz_hd] at *; omega))) 
  obtain ⟨rfl, rfl⟩ := P5
  refine gv_callV hD rfl (As := [.inl a2]) (st := []) rfl (gz_sh B_0) S_0 rfl (gc_lV12 hws rfl) (Nat.le_of_ble_eq_true rfl) (gz_Ev_mono (d := 1) (by decide) E5) ?_
  show gv_X _ _ (12, [(4, .inr (.inr (some t))), (0, .inr (.inr (some 0))), (1, .inl a1), (2, .inl a2), (3, .inl a3)], [], sh, gc_h sh I J A)
  refine gv_run 2 true hD (pcₚ := 14) (lvₚ := [(4, .inr (.inr (some t))), (0, .inr (.inr (some 0))), (1, .inl a1), (2, .inl a2), (3, .inl a3)]) (stₚ := [.inl a3, .inr (.inr (some 0))]) (hₚ := gc_h sh I J A) (C := ((True ∧ True) ∧ True)) rfl ⟨⟨trivial, trivial⟩, trivial⟩ ?_
  refine gv_callV hD rfl (As := [.inl a3]) (st := []) rfl (gz_sh B_0) S_0 rfl (gc_lV12 hws rfl) (Nat.le_of_ble_eq_true rfl) (gz_Ev_mono (d := 1) (by decide) (d_X12_tongueAt hws htb (J := J) hI hb (by (/-5-/first | omega | (simp only [gz_hd] at *; omega))) (by (/-6-/first | omega | (simp only [gz_hd] at *; omega))) x4)) ?_
  show gv_X _ _ (17, [(4, .inr (.inr (some t))), (0, .inr (.inr (some 0))), (1, .inl a1), (2, .inl a2), (3, .inl a3)], [.inr (.inr (some y))], sh, gc_h sh I J A)
  refine gv_run 3 true hD (pcₚ := 21) (lvₚ := [(5, .inr (.inr (some y))), (4, .inr (.inr (some t))), (0, .inr (.inr (some 0))), (1, .inl a1), (2, .inl a2), (3, .inl a3)]) (stₚ := [.inl 0, .inr (.inr (some 0))]) (hₚ := gc_h sh I J A) (C := (((True ∧ True) ∧ True) ∧ True)) rfl ⟨⟨⟨trivial, trivial⟩, trivial⟩, trivial⟩ ?_
  refine gv_put hD rfl rfl S_0 ⟨by decide, (gz_sh B_0)⟩ rfl trivial ?_
  refine gc_st (k := 15) hI S_0 rfl (gz_sh R_0) (lo := 0) (hi := 16) rfl rfl (by (/-7-/first | omega | (simp only [gz_hd] at *; omega))) (by (/-8-/first | omega | (simp only [gz_hd] at *; omega))) (fun I7 hI7 q8 p8 => ?_)
  have FI7 := gc_frs (W := fun q j => (q = 0 ∧ j = 15)) FI ⟨rfl, rfl⟩ p8
  show gv_X _ _ (24, [(5, .inr (.inr (some y))), (4, .inr (.inr (some t))), (0, .inr (.inr (some 0))), (1, .inl a1), (2, .inl a2), (3, .inl a3)], [], sh, gc_h sh I7 J A)
  refine gv_pick [2, 3, 4, 5, 1, 0] rfl ?_
  exact L24 I7 J hI7 FI7 FJ (by (/-9-/first | (and_intros <;> omega) | (simp only [gz_hd] at *; omega)))
