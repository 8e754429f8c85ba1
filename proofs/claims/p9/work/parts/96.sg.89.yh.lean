set_option maxHeartbeats 8000000 in
set_option maxRecDepth 100000 in
theorem d_X12_swap_m {ws0 : List Cond} {tb : String → gz_T} (hws : gc_Ws ws0) (htb : gc_tbs tb) (sh : gz_Sh) (ro : Nat → Nat) (I : gr_I) (J : gr_J) (A : gc_A) (hI : gc_Inv ro I) (a1 : Int) (a2 : Int) (a3 : Int) (a4 : Nat) (a5 : Nat) (a6 : Int) (hb : gc_Base sh ro A) (h_a4 : gc_isTongue sh ro A a4) (G_a4 : 144 ≤ a4) (h_a5 : gc_isTongue sh ro A a5) (G_a5 : 144 ≤ a5) (ha1 : 0 ≤ a1 ∧ a1 ≤ 7) (ha2 : 0 ≤ a2 ∧ a2 ≤ 31) (ha3 : 0 ≤ a3 ∧ a3 ≤ 7) (ha6 : 0 ≤ a6 ∧ a6 ≤ 1) (x0 : gc_sc (a5 + 10) I) (x1 : gc_FB (a5 + 17) (24 * I (a5 + 17) 8) I) (x2 : I (a5 + 17) 8 ≤ I a5 11) {Q : gz_S → Prop} (L62 : ∀ (I5 : gr_I) (J6 : gr_J) (v7_7 : Int), gc_Inv ro I5 → (∀ q j : Nat, ((q = (a5 + 17) ∧ j = 8) ∨ (q = (a5 + 17) ∧ j = 9) ∨ q = (a5 + 18) ∨ q = (a5 + 19) ∨ q = (a5 + 20) ∨ q = (a5 + 21) ∨ (q = (a5 + 17) ∧ j = 6) ∨ (q = (a5 + 17) ∧ j = 7) ∨ q = (a5 + 23) ∨ q = (a5 + 24)) ∨ I5 q j = I q j) → (∀ q j : Nat, (False) ∨ J6 q j = J q j) → gh_BD I a5 I5 → ((0 ≤ a1 ∧ a1 ≤ 7) ∧ (0 ≤ a2 ∧ a2 ≤ 31) ∧ (0 ≤ a3 ∧ a3 ≤ 7) ∧ (0 ≤ a6 ∧ a6 ≤ 1) ∧ (0 ≤ v7_7 ∧ v7_7 ≤ 0) ∧ (v7_7 = 0) ∧ (I5 (a5 + 17) 8 = I a5 11) ∧ (I (a5 + 17) 6 = I (a5 + 17) 7 ∨ ¬ I5 (a5 + 17) 6 = I5 (a5 + 17) 7)) → (gc_FB (a5 + 17) (24 * I a5 11) I5) → gv_X (gc_E12 ws0 tb 97 (yX12_swap, cX12_swap, 9, (some .int)) kX12_swap) Q (62, [(0, .inr (.inr (some 0))), (1, .inl a1), (2, .inl a2), (3, .inl a3), (4, .inr (.inr (some a4))), (5, .inr (.inr (some a5))), (6, .inl a6), (7, .inl v7_7)], [], sh, gc_h sh I5 J6 A)) : gv_X (gc_E12 ws0 tb 97 (yX12_swap, cX12_swap, 9, (some .int)) kX12_swap) Q (49, [(0, .inr (.inr (some 0))), (1, .inl a1), (2, .inl a2), (3, .inl a3), (4, .inr (.inr (some a4))), (5, .inr (.inr (some a5))), (6, .inl a6)], [], sh, gc_h sh I J A) := by
  have FI : ∀ q j : Nat, ((q = (a5 + 17) ∧ j = 8) ∨ (q = (a5 + 17) ∧ j = 9) ∨ q = (a5 + 18) ∨ q = (a5 + 19) ∨ q = (a5 + 20) ∨ q = (a5 + 21) ∨ (q = (a5 + 17) ∧ j = 6) ∨ (q = (a5 + 17) ∧ j = 7) ∨ q = (a5 + 23) ∨ q = (a5 + 24)) ∨ I q j = I q j := fun _ _ => Or.inr rfl
  have FJ : ∀ q j : Nat, (False) ∨ J q j = J q j := fun _ _ => Or.inr rfl
  obtain ⟨S_a4, R_a4, B_a4, A_a4_0, h_a4_1, A_a4_1, h_a4_3, A_a4_2, S_a4_5, R_a4_5, B_a4_5, A_a4_3, S_a4_6, R_a4_6, B_a4_6, A_a4_4, h_a4_7, A_a4_5, S_a4_9, R_a4_9, B_a4_9, A_a4_7, S_a4_10, R_a4_10, B_a4_10, A_a4_8, h_a4_11, A_a4_9, S_a4_13, R_a4_13, B_a4_13, A_a4_10, S_a4_14, R_a4_14, B_a4_14, A_a4_12, S_a4_15, R_a4_15, B_a4_15, A_a4_14, S_a4_16, R_a4_16, B_a4_16, A_a4_15, h_a4_17⟩ := id h_a4
  replace R_a4 := gz_hi R_a4
  replace B_a4 := gz_hi B_a4
  replace R_a4_5 := gz_hi R_a4_5
  replace B_a4_5 := gz_hi B_a4_5
  replace R_a4_6 := gz_hi R_a4_6
  replace B_a4_6 := gz_hi B_a4_6
  replace R_a4_9 := gz_hi R_a4_9
  replace B_a4_9 := gz_hi B_a4_9
  replace R_a4_10 := gz_hi R_a4_10
  replace B_a4_10 := gz_hi B_a4_10
  replace R_a4_13 := gz_hi R_a4_13
  replace B_a4_13 := gz_hi B_a4_13
  replace R_a4_14 := gz_hi R_a4_14
  replace B_a4_14 := gz_hi B_a4_14
  replace R_a4_15 := gz_hi R_a4_15
  replace B_a4_15 := gz_hi B_a4_15
  replace R_a4_16 := gz_hi R_a4_16
  replace B_a4_16 := gz_hi B_a4_16
  obtain ⟨S_a4_1, R_a4_1, B_a4_1, A_a4_1_0, S_a4_1_1, R_a4_1_1, B_a4_1_1, Q0_a4_1, Q1_a4_1, Q2_a4_1⟩ := id h_a4_1
  replace R_a4_1 := gz_hi R_a4_1
  replace B_a4_1 := gz_hi B_a4_1
  replace R_a4_1_1 := gz_hi R_a4_1_1
  replace B_a4_1_1 := gz_hi B_a4_1_1
  obtain ⟨S_a4_3, R_a4_3, B_a4_3, A_a4_3_0, S_a4_3_1, R_a4_3_1, B_a4_3_1, Q0_a4_3, Q1_a4_3, Q2_a4_3⟩ := id h_a4_3
  replace R_a4_3 := gz_hi R_a4_3
  replace B_a4_3 := gz_hi B_a4_3
  replace R_a4_3_1 := gz_hi R_a4_3_1
  replace B_a4_3_1 := gz_hi B_a4_3_1
  obtain ⟨S_a4_7, R_a4_7, B_a4_7, A_a4_7_0, S_a4_7_1, R_a4_7_1, B_a4_7_1, Q0_a4_7, Q1_a4_7, Q2_a4_7⟩ := id h_a4_7
  replace R_a4_7 := gz_hi R_a4_7
  replace B_a4_7 := gz_hi B_a4_7
  replace R_a4_7_1 := gz_hi R_a4_7_1
  replace B_a4_7_1 := gz_hi B_a4_7_1
  obtain ⟨S_a4_11, R_a4_11, B_a4_11, A_a4_11_0, S_a4_11_1, R_a4_11_1, B_a4_11_1, Q0_a4_11, Q1_a4_11, Q2_a4_11⟩ := id h_a4_11
  replace R_a4_11 := gz_hi R_a4_11
  replace B_a4_11 := gz_hi B_a4_11
  replace R_a4_11_1 := gz_hi R_a4_11_1
  replace B_a4_11_1 := gz_hi B_a4_11_1
  obtain ⟨S_a4_17, R_a4_17, B_a4_17, A_a4_17_0, S_20, R_20, B_20, A_a4_17_1, S_a4_17_1, R_a4_17_1, B_a4_17_1, A_a4_17_2, S_a4_17_2, R_a4_17_2, B_a4_17_2, A_a4_17_3, S_a4_17_3, R_a4_17_3, B_a4_17_3, A_a4_17_4, S_a4_17_4, R_a4_17_4, B_a4_17_4, A_a4_17_5, S_a4_17_5, R_a4_17_5, B_a4_17_5, S_a4_17_6, R_a4_17_6, B_a4_17_6, S_a4_17_7, R_a4_17_7, B_a4_17_7⟩ := id h_a4_17
  replace R_a4_17 := gz_hi R_a4_17
  replace B_a4_17 := gz_hi B_a4_17
  replace R_20 := gz_hi R_20
  replace B_20 := gz_hi B_20
  replace R_a4_17_1 := gz_hi R_a4_17_1
  replace B_a4_17_1 := gz_hi B_a4_17_1
  replace R_a4_17_2 := gz_hi R_a4_17_2
  replace B_a4_17_2 := gz_hi B_a4_17_2
  replace R_a4_17_3 := gz_hi R_a4_17_3
  replace B_a4_17_3 := gz_hi B_a4_17_3
  replace R_a4_17_4 := gz_hi R_a4_17_4
  replace B_a4_17_4 := gz_hi B_a4_17_4
  replace R_a4_17_5 := gz_hi R_a4_17_5
  replace B_a4_17_5 := gz_hi B_a4_17_5
  replace R_a4_17_6 := gz_hi R_a4_17_6
  replace B_a4_17_6 := gz_hi B_a4_17_6
  replace R_a4_17_7 := gz_hi R_a4_17_7
  replace B_a4_17_7 := gz_hi B_a4_17_7
  obtain ⟨S_a5, R_a5, B_a5, A_a5_0, h_a5_1, A_a5_1, h_a5_3, A_a5_2, S_a5_5, R_a5_5, B_a5_5, A_a5_3, S_a5_6, R_a5_6, B_a5_6, A_a5_4, h_a5_7, A_a5_5, S_a5_9, R_a5_9, B_a5_9, A_a5_7, S_a5_10, R_a5_10, B_a5_10, A_a5_8, h_a5_11, A_a5_9, S_a5_13, R_a5_13, B_a5_13, A_a5_10, S_a5_14, R_a5_14, B_a5_14, A_a5_12, S_a5_15, R_a5_15, B_a5_15, A_a5_14, S_a5_16, R_a5_16, B_a5_16, A_a5_15, h_a5_17⟩ := id h_a5
  replace R_a5 := gz_hi R_a5
  replace B_a5 := gz_hi B_a5
  replace R_a5_5 := gz_hi R_a5_5
  replace B_a5_5 := gz_hi B_a5_5
  replace R_a5_6 := gz_hi R_a5_6
  replace B_a5_6 := gz_hi B_a5_6
  replace R_a5_9 := gz_hi R_a5_9
  replace B_a5_9 := gz_hi B_a5_9
  replace R_a5_10 := gz_hi R_a5_10
  replace B_a5_10 := gz_hi B_a5_10
  replace R_a5_13 := gz_hi R_a5_13
  replace B_a5_13 := gz_hi B_a5_13
  replace R_a5_14 := gz_hi R_a5_14
  replace B_a5_14 := gz_hi B_a5_14
  replace R_a5_15 := gz_hi R_a5_15
  replace B_a5_15 := gz_hi B_a5_15
  replace R_a5_16 := gz_hi R_a5_16
  replace B_a5_16 := gz_hi B_a5_16
  obtain ⟨S_a5_1, R_a5_1, B_a5_1, A_a5_1_0, S_a5_1_1, R_a5_1_1, B_a5_1_1, Q0_a5_1, Q1_a5_1, Q2_a5_1⟩ := id h_a5_1
  replace R_a5_1 := gz_hi R_a5_1
  replace B_a5_1 := gz_hi B_a5_1
  replace R_a5_1_1 := gz_hi R_a5_1_1
  replace B_a5_1_1 := gz_hi B_a5_1_1
  obtain ⟨S_a5_3, R_a5_3, B_a5_3, A_a5_3_0, S_a5_3_1, R_a5_3_1, B_a5_3_1, Q0_a5_3, Q1_a5_3, Q2_a5_3⟩ := id h_a5_3
  replace R_a5_3 := gz_hi R_a5_3
  replace B_a5_3 := gz_hi B_a5_3
  replace R_a5_3_1 := gz_hi R_a5_3_1
  replace B_a5_3_1 := gz_hi B_a5_3_1
  obtain ⟨S_a5_7, R_a5_7, B_a5_7, A_a5_7_0, S_a5_7_1, R_a5_7_1, B_a5_7_1, Q0_a5_7, Q1_a5_7, Q2_a5_7⟩ := id h_a5_7
  replace R_a5_7 := gz_hi R_a5_7
  replace B_a5_7 := gz_hi B_a5_7
  replace R_a5_7_1 := gz_hi R_a5_7_1
  replace B_a5_7_1 := gz_hi B_a5_7_1
  obtain ⟨S_a5_11, R_a5_11, B_a5_11, A_a5_11_0, S_a5_11_1, R_a5_11_1, B_a5_11_1, Q0_a5_11, Q1_a5_11, Q2_a5_11⟩ := id h_a5_11
  replace R_a5_11 := gz_hi R_a5_11
  replace B_a5_11 := gz_hi B_a5_11
  replace R_a5_11_1 := gz_hi R_a5_11_1
  replace B_a5_11_1 := gz_hi B_a5_11_1
  obtain ⟨S_a5_17, R_a5_17, B_a5_17, A_a5_17_0, S_20, R_20, B_20, A_a5_17_1, S_a5_17_1, R_a5_17_1, B_a5_17_1, A_a5_17_2, S_a5_17_2, R_a5_17_2, B_a5_17_2, A_a5_17_3, S_a5_17_3, R_a5_17_3, B_a5_17_3, A_a5_17_4, S_a5_17_4, R_a5_17_4, B_a5_17_4, A_a5_17_5, S_a5_17_5, R_a5_17_5, B_a5_17_5, S_a5_17_6, R_a5_17_6, B_a5_17_6, S_a5_17_7, R_a5_17_7, B_a5_17_7⟩ := id h_a5_17
  replace R_a5_17 := gz_hi R_a5_17
  replace B_a5_17 := gz_hi B_a5_17
  replace R_20 := gz_hi R_20
  replace B_20 := gz_hi B_20
  replace R_a5_17_1 := gz_hi R_a5_17_1
  replace B_a5_17_1 := gz_hi B_a5_17_1
  replace R_a5_17_2 := gz_hi R_a5_17_2
  replace B_a5_17_2 := gz_hi B_a5_17_2
  replace R_a5_17_3 := gz_hi R_a5_17_3
  replace B_a5_17_3 := gz_hi B_a5_17_3
  replace R_a5_17_4 := gz_hi R_a5_17_4
  replace B_a5_17_4 := gz_hi B_a5_17_4
  replace R_a5_17_5 := gz_hi R_a5_17_5
  replace B_a5_17_5 := gz_hi B_a5_17_5
  replace R_a5_17_6 := gz_hi R_a5_17_6
  replace B_a5_17_6 := gz_hi B_a5_17_6
  replace R_a5_17_7 := gz_hi R_a5_17_7
  replace B_a5_17_7 := gz_hi B_a5_17_7
  have hD : gv_D (gc_E12 ws0 tb 97 (yX12_swap, cX12_swap, 9, (some .int)) kX12_swap) := gq_of oX12_swap
  have N_a5__a5_18 := gz_hi (show ¬ (a5 = (a5 + 18)) from by (/-0-/first | omega | (simp only [gz_hd] at *; omega)))
  have N_a5__a5_19 := gz_hi (show ¬ (a5 = (a5 + 19)) from by (/-1-/first | omega | (simp only [gz_hd] at *; omega)))
  have N_a5__a5_20 := gz_hi (show ¬ (a5 = (a5 + 20)) from by (/-2-/first | omega | (simp only [gz_hd] at *; omega)))
  have N_a5__a5_21 := gz_hi (show ¬ (a5 = (a5 + 21)) from by (/-3-/first | omega | (simp only [gz_hd] at *; omega)))
  have N_a5__a5_23 := gz_hi (show ¬ (a5 = (a5 + 23)) from by (/-4-/first | omega | (simp only [gz_hd] at *; omega)))
  have N_a5__a5_24 := gz_hi (show ¬ (a5 = (a5 + 24)) from by (/-5-/first | omega | (simp only [gz_hd] at *; omega)))
  have KBD_I : gh_BD I a5 I := gh_BD_rf
  refine gv_run 1 true hD (pcₚ := 51) (lvₚ := [(0, .inr (.inr (some 0))), (1, .inl a1), (2, .inl a2), (3, .inl a3), (4, .inr (.inr (some a4))), (5, .inr (.inr (some a5))), (6, .inl a6)]) (stₚ := [.inr (.inr (some a5))]) (hₚ := gc_h sh I J A) (C := (True ∧ True)) rfl ⟨trivial, trivial⟩ ?_
  refine gv_get hD rfl rfl S_a5 ⟨by decide, (gz_sh B_a5)⟩ (gc_hA S_a5 rfl A_a5_15) ?_
  show gv_X _ _ (54, [(0, .inr (.inr (some 0))), (1, .inl a1), (2, .inl a2), (3, .inl a3), (4, .inr (.inr (some a4))), (5, .inr (.inr (some a5))), (6, .inl a6)], [.inr (.inr (some (a5 + 17)))], sh, gc_h sh I J A)
  refine gv_run 1 true hD (pcₚ := 56) (lvₚ := [(0, .inr (.inr (some 0))), (1, .inl a1), (2, .inl a2), (3, .inl a3), (4, .inr (.inr (some a4))), (5, .inr (.inr (some a5))), (6, .inl a6)]) (stₚ := [.inr (.inr (some a5)), .inr (.inr (some (a5 + 17)))]) (hₚ := gc_h sh I J A) (C := (True ∧ True)) rfl ⟨trivial, trivial⟩ ?_
  obtain ⟨r8, h8, E8, P8⟩ := d_X2_build_b (ws0 := ws0) (tb := tb) hws htb sh ro I J A hI (a5 + 17) a5 h_a5_17 h_a5 G_a5   x0 rfl x1 (by (/-6-/first | omega | (simp only [gz_hd] at *; omega))) 
  obtain ⟨I9, J10, rfl, hI9, g8, k8, ⟨rfl, q8⟩⟩ := P8
  replace q8 := gz_hi q8
  have FI9 := gc_frc (W := fun q j => (q = (a5 + 17) ∧ j = 8) ∨ (q = (a5 + 17) ∧ j = 9) ∨ q = (a5 + 18) ∨ q = (a5 + 19) ∨ q = (a5 + 20) ∨ q = (a5 + 21) ∨ (q = (a5 + 17) ∧ j = 6) ∨ (q = (a5 + 17) ∧ j = 7) ∨ q = (a5 + 23) ∨ q = (a5 + 24)) (V := fun q j => (q = (a5 + 17) ∧ j = 6) ∨ (q = (a5 + 17) ∧ j = 7) ∨ (q = (a5 + 17) ∧ j = 8) ∨ (q = (a5 + 17) ∧ j = 9) ∨ q = (a5 + 18) ∨ q = (a5 + 19) ∨ q = (a5 + 20) ∨ q = (a5 + 21) ∨ q = (a5 + 23) ∨ q = (a5 + 24)) FI (fun q j h => (h.elim (fun h => (Or.inr (Or.inr (Or.inr (Or.inr (Or.inr (Or.inr (Or.inl h)))))))) (fun h => (h.elim (fun h => (Or.inr (Or.inr (Or.inr (Or.inr (Or.inr (Or.inr (Or.inr (Or.inl h))))))))) (fun h => (h.elim (fun h => (Or.inl h)) (fun h => (h.elim (fun h => (Or.inr (Or.inl h))) (fun h => (h.elim (fun h => (Or.inr (Or.inr (Or.inl h)))) (fun h => (h.elim (fun h => (Or.inr (Or.inr (Or.inr (Or.inl h))))) (fun h => (h.elim (fun h => (Or.inr (Or.inr (Or.inr (Or.inr (Or.inl h)))))) (fun h => (h.elim (fun h => (Or.inr (Or.inr (Or.inr (Or.inr (Or.inr (Or.inl h))))))) (fun h => (h.elim (fun h => (Or.inr (Or.inr (Or.inr (Or.inr (Or.inr (Or.inr (Or.inr (Or.inr (Or.inl h)))))))))) (fun h => (Or.inr (Or.inr (Or.inr (Or.inr (Or.inr (Or.inr (Or.inr (Or.inr (Or.inr h)))))))))))))))))))))))))))) g8
  obtain rfl : J = J10 := funext fun q => funext fun j => ((k8 q j).resolve_left id).symm
  have KBD_I9 : gh_BD I a5 I9 := gh_BD_tr KBD_I gh_tb_rf (by (/-7-/first | omega | (simp only [gz_hd] at *; omega))) (gz_sh q8).2.2.2
  refine gv_callV hD rfl (As := [.inr (.inr (some a5))]) (st := []) rfl (gz_sh B_a5_17) S_a5_17 rfl (gc_lV12 hws rfl) (Nat.le_of_ble_eq_true rfl) (gz_Ev_mono (d := 5) (by decide) E8) ?_
  show gv_X _ _ (59, [(0, .inr (.inr (some 0))), (1, .inl a1), (2, .inl a2), (3, .inl a3), (4, .inr (.inr (some a4))), (5, .inr (.inr (some a5))), (6, .inl a6)], [], sh, gc_h sh I9 J A)
  refine gv_run 2 true hD (pcₚ := 62) (lvₚ := [(7, .inl 0), (0, .inr (.inr (some 0))), (1, .inl a1), (2, .inl a2), (3, .inl a3), (4, .inr (.inr (some a4))), (5, .inr (.inr (some a5))), (6, .inl a6)]) (stₚ := []) (hₚ := gc_h sh I9 J A) (C := ((True ∧ True) ∧ True)) rfl ⟨⟨trivial, trivial⟩, trivial⟩ ?_
  refine gv_pick [1, 2, 3, 4, 5, 6, 7, 0] rfl ?_
  exact L62 I9 J 0 hI9 FI9 FJ KBD_I9 (by (/-8-/first | (and_intros; (omega); (omega); (omega); (omega); (omega); (omega); (omega); (omega); (omega); (omega); (omega); (have o1 := gz_sh q8; omega); (have o1 := gz_sh q8; omega)) | (simp only [gz_hd] at *; omega))) (gz_sh q8).1
set_option maxHeartbeats 8000000 in
set_option maxRecDepth 100000 in
theorem d_X12_swap_c {ws0 : List Cond} {tb : String → gz_T} (hws : gc_Ws ws0) (htb : gc_tbs tb) (sh : gz_Sh) (ro : Nat → Nat) (I : gr_I) (J : gr_J) (A : gc_A) (hI : gc_Inv ro I) (a1 : Int) (a2 : Int) (a3 : Int) (a4 : Nat) (a5 : Nat) (a6 : Int) (a7 : Int) (hb : gc_Base sh ro A) (h_a4 : gc_isTongue sh ro A a4) (G_a4 : 144 ≤ a4) (h_a5 : gc_isTongue sh ro A a5) (G_a5 : 144 ≤ a5) (ha1 : 0 ≤ a1 ∧ a1 ≤ 7) (ha2 : 0 ≤ a2 ∧ a2 ≤ 31) (ha3 : 0 ≤ a3 ∧ a3 ≤ 7) (ha6 : 0 ≤ a6 ∧ a6 ≤ 1) (ha7 : 0 ≤ a7 ∧ a7 ≤ 16)  {Q : gz_S → Prop} (L69 : ((0 ≤ a1 ∧ a1 ≤ 7) ∧ (0 ≤ a2 ∧ a2 ≤ 31) ∧ (0 ≤ a3 ∧ a3 ≤ 7) ∧ (0 ≤ a6 ∧ a6 ≤ 1) ∧ (0 ≤ a7 ∧ a7 ≤ 15) ∧ (a7 = a7) ∧ (a7 ≤ 15)) → gv_X (gc_E12 ws0 tb 97 (yX12_swap, cX12_swap, 9, (some .int)) kX12_swap) Q (69, [(0, .inr (.inr (some 0))), (1, .inl a1), (2, .inl a2), (3, .inl a3), (4, .inr (.inr (some a4))), (5, .inr (.inr (some a5))), (6, .inl a6), (7, .inl a7)], [], sh, gc_h sh I J A)) (L143 : ((0 ≤ a1 ∧ a1 ≤ 7) ∧ (0 ≤ a2 ∧ a2 ≤ 31) ∧ (0 ≤ a3 ∧ a3 ≤ 7) ∧ (0 ≤ a6 ∧ a6 ≤ 1) ∧ (16 ≤ a7 ∧ a7 ≤ 16) ∧ (a7 = a7)) → gv_X (gc_E12 ws0 tb 97 (yX12_swap, cX12_swap, 9, (some .int)) kX12_swap) Q (143, [(0, .inr (.inr (some 0))), (1, .inl a1), (2, .inl a2), (3, .inl a3), (4, .inr (.inr (some a4))), (5, .inr (.inr (some a5))), (6, .inl a6), (7, .inl a7)], [], sh, gc_h sh I J A)) : gv_X (gc_E12 ws0 tb 97 (yX12_swap, cX12_swap, 9, (some .int)) kX12_swap) Q (62, [(0, .inr (.inr (some 0))), (1, .inl a1), (2, .inl a2), (3, .inl a3), (4, .inr (.inr (some a4))), (5, .inr (.inr (some a5))), (6, .inl a6), (7, .inl a7)], [], sh, gc_h sh I J A) := by
  obtain ⟨S_a4, R_a4, B_a4, A_a4_0, h_a4_1, A_a4_1, h_a4_3, A_a4_2, S_a4_5, R_a4_5, B_a4_5, A_a4_3, S_a4_6, R_a4_6, B_a4_6, A_a4_4, h_a4_7, A_a4_5, S_a4_9, R_a4_9, B_a4_9, A_a4_7, S_a4_10, R_a4_10, B_a4_10, A_a4_8, h_a4_11, A_a4_9, S_a4_13, R_a4_13, B_a4_13, A_a4_10, S_a4_14, R_a4_14, B_a4_14, A_a4_12, S_a4_15, R_a4_15, B_a4_15, A_a4_14, S_a4_16, R_a4_16, B_a4_16, A_a4_15, h_a4_17⟩ := id h_a4
  replace R_a4 := gz_hi R_a4
  replace B_a4 := gz_hi B_a4
  replace R_a4_5 := gz_hi R_a4_5
  replace B_a4_5 := gz_hi B_a4_5
  replace R_a4_6 := gz_hi R_a4_6
  replace B_a4_6 := gz_hi B_a4_6
  replace R_a4_9 := gz_hi R_a4_9
  replace B_a4_9 := gz_hi B_a4_9
  replace R_a4_10 := gz_hi R_a4_10
  replace B_a4_10 := gz_hi B_a4_10
  replace R_a4_13 := gz_hi R_a4_13
  replace B_a4_13 := gz_hi B_a4_13
  replace R_a4_14 := gz_hi R_a4_14
  replace B_a4_14 := gz_hi B_a4_14
  replace R_a4_15 := gz_hi R_a4_15
  replace B_a4_15 := gz_hi B_a4_15
  replace R_a4_16 := gz_hi R_a4_16
  replace B_a4_16 := gz_hi B_a4_16
  obtain ⟨S_a4_1, R_a4_1, B_a4_1, A_a4_1_0, S_a4_1_1, R_a4_1_1, B_a4_1_1, Q0_a4_1, Q1_a4_1, Q2_a4_1⟩ := id h_a4_1
  replace R_a4_1 := gz_hi R_a4_1
  replace B_a4_1 := gz_hi B_a4_1
  replace R_a4_1_1 := gz_hi R_a4_1_1
  replace B_a4_1_1 := gz_hi B_a4_1_1
  obtain ⟨S_a4_3, R_a4_3, B_a4_3, A_a4_3_0, S_a4_3_1, R_a4_3_1, B_a4_3_1, Q0_a4_3, Q1_a4_3, Q2_a4_3⟩ := id h_a4_3
  replace R_a4_3 := gz_hi R_a4_3
  replace B_a4_3 := gz_hi B_a4_3
  replace R_a4_3_1 := gz_hi R_a4_3_1
  replace B_a4_3_1 := gz_hi B_a4_3_1
  obtain ⟨S_a4_7, R_a4_7, B_a4_7, A_a4_7_0, S_a4_7_1, R_a4_7_1, B_a4_7_1, Q0_a4_7, Q1_a4_7, Q2_a4_7⟩ := id h_a4_7
  replace R_a4_7 := gz_hi R_a4_7
  replace B_a4_7 := gz_hi B_a4_7
  replace R_a4_7_1 := gz_hi R_a4_7_1
  replace B_a4_7_1 := gz_hi B_a4_7_1
  obtain ⟨S_a4_11, R_a4_11, B_a4_11, A_a4_11_0, S_a4_11_1, R_a4_11_1, B_a4_11_1, Q0_a4_11, Q1_a4_11, Q2_a4_11⟩ := id h_a4_11
  replace R_a4_11 := gz_hi R_a4_11
  replace B_a4_11 := gz_hi B_a4_11
  replace R_a4_11_1 := gz_hi R_a4_11_1
  replace B_a4_11_1 := gz_hi B_a4_11_1
  obtain ⟨S_a4_17, R_a4_17, B_a4_17, A_a4_17_0, S_20, R_20, B_20, A_a4_17_1, S_a4_17_1, R_a4_17_1, B_a4_17_1, A_a4_17_2, S_a4_17_2, R_a4_17_2, B_a4_17_2, A_a4_17_3, S_a4_17_3, R_a4_17_3, B_a4_17_3, A_a4_17_4, S_a4_17_4, R_a4_17_4, B_a4_17_4, A_a4_17_5, S_a4_17_5, R_a4_17_5, B_a4_17_5, S_a4_17_6, R_a4_17_6, B_a4_17_6, S_a4_17_7, R_a4_17_7, B_a4_17_7⟩ := id h_a4_17
  replace R_a4_17 := gz_hi R_a4_17
  replace B_a4_17 := gz_hi B_a4_17
  replace R_20 := gz_hi R_20
  replace B_20 := gz_hi B_20
  replace R_a4_17_1 := gz_hi R_a4_17_1
  replace B_a4_17_1 := gz_hi B_a4_17_1
  replace R_a4_17_2 := gz_hi R_a4_17_2
  replace B_a4_17_2 := gz_hi B_a4_17_2
  replace R_a4_17_3 := gz_hi R_a4_17_3
  replace B_a4_17_3 := gz_hi B_a4_17_3
  replace R_a4_17_4 := gz_hi R_a4_17_4
  replace B_a4_17_4 := gz_hi B_a4_17_4
  replace R_a4_17_5 := gz_hi R_a4_17_5
  replace B_a4_17_5 := gz_hi B_a4_17_5
  replace R_a4_17_6 := gz_hi R_a4_17_6
  replace B_a4_17_6 := gz_hi B_a4_17_6
  replace R_a4_17_7 := gz_hi R_a4_17_7
  replace B_a4_17_7 := gz_hi B_a4_17_7
  obtain ⟨S_a5, R_a5, B_a5, A_a5_0, h_a5_1, A_a5_1, h_a5_3, A_a5_2, S_a5_5, R_a5_5, B_a5_5, A_a5_3, S_a5_6, R_a5_6, B_a5_6, A_a5_4, h_a5_7, A_a5_5, S_a5_9, R_a5_9, B_a5_9, A_a5_7, S_a5_10, R_a5_10, B_a5_10, A_a5_8, h_a5_11, A_a5_9, S_a5_13, R_a5_13, B_a5_13, A_a5_10, S_a5_14, R_a5_14, B_a5_14, A_a5_12, S_a5_15, R_a5_15, B_a5_15, A_a5_14, S_a5_16, R_a5_16, B_a5_16, A_a5_15, h_a5_17⟩ := id h_a5
  replace R_a5 := gz_hi R_a5
  replace B_a5 := gz_hi B_a5
  replace R_a5_5 := gz_hi R_a5_5
  replace B_a5_5 := gz_hi B_a5_5
  replace R_a5_6 := gz_hi R_a5_6
  replace B_a5_6 := gz_hi B_a5_6
  replace R_a5_9 := gz_hi R_a5_9
  replace B_a5_9 := gz_hi B_a5_9
  replace R_a5_10 := gz_hi R_a5_10
  replace B_a5_10 := gz_hi B_a5_10
  replace R_a5_13 := gz_hi R_a5_13
  replace B_a5_13 := gz_hi B_a5_13
  replace R_a5_14 := gz_hi R_a5_14
  replace B_a5_14 := gz_hi B_a5_14
  replace R_a5_15 := gz_hi R_a5_15
  replace B_a5_15 := gz_hi B_a5_15
  replace R_a5_16 := gz_hi R_a5_16
  replace B_a5_16 := gz_hi B_a5_16
  obtain ⟨S_a5_1, R_a5_1, B_a5_1, A_a5_1_0, S_a5_1_1, R_a5_1_1, B_a5_1_1, Q0_a5_1, Q1_a5_1, Q2_a5_1⟩ := id h_a5_1
  replace R_a5_1 := gz_hi R_a5_1
  replace B_a5_1 := gz_hi B_a5_1
  replace R_a5_1_1 := gz_hi R_a5_1_1
  replace B_a5_1_1 := gz_hi B_a5_1_1
  obtain ⟨S_a5_3, R_a5_3, B_a5_3, A_a5_3_0, S_a5_3_1, R_a5_3_1, B_a5_3_1, Q0_a5_3, Q1_a5_3, Q2_a5_3⟩ := id h_a5_3
  replace R_a5_3 := gz_hi R_a5_3
  replace B_a5_3 := gz_hi B_a5_3
  replace R_a5_3_1 := gz_hi R_a5_3_1
  replace B_a5_3_1 := gz_hi B_a5_3_1
  obtain ⟨S_a5_7, R_a5_7, B_a5_7, A_a5_7_0, S_a5_7_1, R_a5_7_1, B_a5_7_1, Q0_a5_7, Q1_a5_7, Q2_a5_7⟩ := id h_a5_7
  replace R_a5_7 := gz_hi R_a5_7
  replace B_a5_7 := gz_hi B_a5_7
  replace R_a5_7_1 := gz_hi R_a5_7_1
  replace B_a5_7_1 := gz_hi B_a5_7_1
  obtain ⟨S_a5_11, R_a5_11, B_a5_11, A_a5_11_0, S_a5_11_1, R_a5_11_1, B_a5_11_1, Q0_a5_11, Q1_a5_11, Q2_a5_11⟩ := id h_a5_11
  replace R_a5_11 := gz_hi R_a5_11
  replace B_a5_11 := gz_hi B_a5_11
  replace R_a5_11_1 := gz_hi R_a5_11_1
  replace B_a5_11_1 := gz_hi B_a5_11_1
  obtain ⟨S_a5_17, R_a5_17, B_a5_17, A_a5_17_0, S_20, R_20, B_20, A_a5_17_1, S_a5_17_1, R_a5_17_1, B_a5_17_1, A_a5_17_2, S_a5_17_2, R_a5_17_2, B_a5_17_2, A_a5_17_3, S_a5_17_3, R_a5_17_3, B_a5_17_3, A_a5_17_4, S_a5_17_4, R_a5_17_4, B_a5_17_4, A_a5_17_5, S_a5_17_5, R_a5_17_5, B_a5_17_5, S_a5_17_6, R_a5_17_6, B_a5_17_6, S_a5_17_7, R_a5_17_7, B_a5_17_7⟩ := id h_a5_17
  replace R_a5_17 := gz_hi R_a5_17
  replace B_a5_17 := gz_hi B_a5_17
  replace R_20 := gz_hi R_20
  replace B_20 := gz_hi B_20
  replace R_a5_17_1 := gz_hi R_a5_17_1
  replace B_a5_17_1 := gz_hi B_a5_17_1
  replace R_a5_17_2 := gz_hi R_a5_17_2
  replace B_a5_17_2 := gz_hi B_a5_17_2
  replace R_a5_17_3 := gz_hi R_a5_17_3
  replace B_a5_17_3 := gz_hi B_a5_17_3
  replace R_a5_17_4 := gz_hi R_a5_17_4
  replace B_a5_17_4 := gz_hi B_a5_17_4
  replace R_a5_17_5 := gz_hi R_a5_17_5
  replace B_a5_17_5 := gz_hi B_a5_17_5
  replace R_a5_17_6 := gz_hi R_a5_17_6
  replace B_a5_17_6 := gz_hi B_a5_17_6
  replace R_a5_17_7 := gz_hi R_a5_17_7
  replace B_a5_17_7 := gz_hi B_a5_17_7
  have hD : gv_D (gc_E12 ws0 tb 97 (yX12_swap, cX12_swap, 9, (some .int)) kX12_swap) := gq_of oX12_swap
  refine gv_run 2 true hD (pcₚ := 66) (lvₚ := [(0, .inr (.inr (some 0))), (1, .inl a1), (2, .inl a2), (3, .inl a3), (4, .inr (.inr (some a4))), (5, .inr (.inr (some a5))), (6, .inl a6), (7, .inl a7)]) (stₚ := [.inl 16, .inl a7]) (hₚ := gc_h sh I J A) (C := ((True ∧ True) ∧ True)) rfl ⟨⟨trivial, trivial⟩, trivial⟩ ?_
  refine gv_icmp_ge (t := 143) hD rfl rfl ⟨⟨by (/-0-/first | omega | (simp only [gz_hd] at *; omega)), by (/-1-/first | omega | (simp only [gz_hd] at *; omega))⟩, ⟨by (/-2-/first | omega | (simp only [gz_hd] at *; omega)), by (/-3-/first | omega | (simp only [gz_hd] at *; omega))⟩⟩ (fun c3 => ?_) (fun c3 => ?_)
  · show gv_X _ _ (143, [(0, .inr (.inr (some 0))), (1, .inl a1), (2, .inl a2), (3, .inl a3), (4, .inr (.inr (some a4))), (5, .inr (.inr (some a5))), (6, .inl a6), (7, .inl a7)], [], sh, gc_h sh I J A)
    exact L143 (by (/-4-/first | (and_intros <;> omega) | (simp only [gz_hd] at *; omega)))
  · show gv_X _ _ (69, [(0, .inr (.inr (some 0))), (1, .inl a1), (2, .inl a2), (3, .inl a3), (4, .inr (.inr (some a4))), (5, .inr (.inr (some a5))), (6, .inl a6), (7, .inl a7)], [], sh, gc_h sh I J A)
    exact L69 (by (/-5-/first | (and_intros <;> omega) | (simp only [gz_hd] at *; omega)))
set_option maxHeartbeats 8000000 in
set_option maxRecDepth 100000 in
theorem d_X12_swap_i {ws0 : List Cond} {tb : String → gz_T} (hws : gc_Ws ws0) (htb : gc_tbs tb) (sh : gz_Sh) (ro : Nat → Nat) (I : gr_I) (J : gr_J) (A : gc_A) (hI : gc_Inv ro I) (a1 : Int) (a2 : Int) (a3 : Int) (a4 : Nat) (a5 : Nat) (a6 : Int) (a7 : Int) (hb : gc_Base sh ro A) (h_a4 : gc_isTongue sh ro A a4) (G_a4 : 144 ≤ a4) (h_a5 : gc_isTongue sh ro A a5) (G_a5 : 144 ≤ a5) (ha1 : 0 ≤ a1 ∧ a1 ≤ 7) (ha2 : 0 ≤ a2 ∧ a2 ≤ 31) (ha3 : 0 ≤ a3 ∧ a3 ≤ 7) (ha6 : 0 ≤ a6 ∧ a6 ≤ 1) (ha7 : 0 ≤ a7 ∧ a7 ≤ 15)  {Q : gz_S → Prop} (L62 : ∀ (v7_1 : Int), ((0 ≤ a1 ∧ a1 ≤ 7) ∧ (0 ≤ a2 ∧ a2 ≤ 31) ∧ (0 ≤ a3 ∧ a3 ≤ 7) ∧ (0 ≤ a6 ∧ a6 ≤ 1) ∧ (1 ≤ v7_1 ∧ v7_1 ≤ 16) ∧ (v7_1 = a7 + 1)) → gv_X (gc_E12 ws0 tb 97 (yX12_swap, cX12_swap, 9, (some .int)) kX12_swap) Q (62, [(0, .inr (.inr (some 0))), (1, .inl a1), (2, .inl a2), (3, .inl a3), (4, .inr (.inr (some a4))), (5, .inr (.inr (some a5))), (6, .inl a6), (7, .inl v7_1)], [], sh, gc_h sh I J A)) : gv_X (gc_E12 ws0 tb 97 (yX12_swap, cX12_swap, 9, (some .int)) kX12_swap) Q (137, [(0, .inr (.inr (some 0))), (1, .inl a1), (2, .inl a2), (3, .inl a3), (4, .inr (.inr (some a4))), (5, .inr (.inr (some a5))), (6, .inl a6), (7, .inl a7)], [], sh, gc_h sh I J A) := by
  obtain ⟨S_a4, R_a4, B_a4, A_a4_0, h_a4_1, A_a4_1, h_a4_3, A_a4_2, S_a4_5, R_a4_5, B_a4_5, A_a4_3, S_a4_6, R_a4_6, B_a4_6, A_a4_4, h_a4_7, A_a4_5, S_a4_9, R_a4_9, B_a4_9, A_a4_7, S_a4_10, R_a4_10, B_a4_10, A_a4_8, h_a4_11, A_a4_9, S_a4_13, R_a4_13, B_a4_13, A_a4_10, S_a4_14, R_a4_14, B_a4_14, A_a4_12, S_a4_15, R_a4_15, B_a4_15, A_a4_14, S_a4_16, R_a4_16, B_a4_16, A_a4_15, h_a4_17⟩ := id h_a4
  obtain ⟨S_a4_1, R_a4_1, B_a4_1, A_a4_1_0, S_a4_1_1, R_a4_1_1, B_a4_1_1, Q0_a4_1, Q1_a4_1, Q2_a4_1⟩ := id h_a4_1
  obtain ⟨S_a4_3, R_a4_3, B_a4_3, A_a4_3_0, S_a4_3_1, R_a4_3_1, B_a4_3_1, Q0_a4_3, Q1_a4_3, Q2_a4_3⟩ := id h_a4_3
  obtain ⟨S_a4_7, R_a4_7, B_a4_7, A_a4_7_0, S_a4_7_1, R_a4_7_1, B_a4_7_1, Q0_a4_7, Q1_a4_7, Q2_a4_7⟩ := id h_a4_7
  obtain ⟨S_a4_11, R_a4_11, B_a4_11, A_a4_11_0, S_a4_11_1, R_a4_11_1, B_a4_11_1, Q0_a4_11, Q1_a4_11, Q2_a4_11⟩ := id h_a4_11
  obtain ⟨S_a4_17, R_a4_17, B_a4_17, A_a4_17_0, S_20, R_20, B_20, A_a4_17_1, S_a4_17_1, R_a4_17_1, B_a4_17_1, A_a4_17_2, S_a4_17_2, R_a4_17_2, B_a4_17_2, A_a4_17_3, S_a4_17_3, R_a4_17_3, B_a4_17_3, A_a4_17_4, S_a4_17_4, R_a4_17_4, B_a4_17_4, A_a4_17_5, S_a4_17_5, R_a4_17_5, B_a4_17_5, S_a4_17_6, R_a4_17_6, B_a4_17_6, S_a4_17_7, R_a4_17_7, B_a4_17_7⟩ := id h_a4_17
  obtain ⟨S_a5, R_a5, B_a5, A_a5_0, h_a5_1, A_a5_1, h_a5_3, A_a5_2, S_a5_5, R_a5_5, B_a5_5, A_a5_3, S_a5_6, R_a5_6, B_a5_6, A_a5_4, h_a5_7, A_a5_5, S_a5_9, R_a5_9, B_a5_9, A_a5_7, S_a5_10, R_a5_10, B_a5_10, A_a5_8, h_a5_11, A_a5_9, S_a5_13, R_a5_13, B_a5_13, A_a5_10, S_a5_14, R_a5_14, B_a5_14, A_a5_12, S_a5_15, R_a5_15, B_a5_15, A_a5_14, S_a5_16, R_a5_16, B_a5_16, A_a5_15, h_a5_17⟩ := id h_a5
  obtain ⟨S_a5_1, R_a5_1, B_a5_1, A_a5_1_0, S_a5_1_1, R_a5_1_1, B_a5_1_1, Q0_a5_1, Q1_a5_1, Q2_a5_1⟩ := id h_a5_1
  obtain ⟨S_a5_3, R_a5_3, B_a5_3, A_a5_3_0, S_a5_3_1, R_a5_3_1, B_a5_3_1, Q0_a5_3, Q1_a5_3, Q2_a5_3⟩ := id h_a5_3
  obtain ⟨S_a5_7, R_a5_7, B_a5_7, A_a5_7_0, S_a5_7_1, R_a5_7_1, B_a5_7_1, Q0_a5_7, Q1_a5_7, Q2_a5_7⟩ := id h_a5_7
  obtain ⟨S_a5_11, R_a5_11, B_a5_11, A_a5_11_0, S_a5_11_1, R_a5_11_1, B_a5_11_1, Q0_a5_11, Q1_a5_11, Q2_a5_11⟩ := id h_a5_11
  obtain ⟨S_a5_17, R_a5_17, B_a5_17, A_a5_17_0, S_20, R_20, B_20, A_a5_17_1, S_a5_17_1, R_a5_17_1, B_a5_17_1, A_a5_17_2, S_a5_17_2, R_a5_17_2, B_a5_17_2, A_a5_17_3, S_a5_17_3, R_a5_17_3, B_a5_17_3, A_a5_17_4, S_a5_17_4, R_a5_17_4, B_a5_17_4, A_a5_17_5, S_a5_17_5, R_a5_17_5, B_a5_17_5, S_a5_17_6, R_a5_17_6, B_a5_17_6, S_a5_17_7, R_a5_17_7, B_a5_17_7⟩ := id h_a5_17
  have hD : gv_D (gc_E12 ws0 tb 97 (yX12_swap, cX12_swap, 9, (some .int)) kX12_swap) := gq_of oX12_swap
  refine gv_run 2 true hD (pcₚ := 62) (lvₚ := [(7, .inl (a7 + 1)), (0, .inr (.inr (some 0))), (1, .inl a1), (2, .inl a2), (3, .inl a3), (4, .inr (.inr (some a4))), (5, .inr (.inr (some a5))), (6, .inl a6)]) (stₚ := []) (hₚ := gc_h sh I J A) (C := ((True ∧ True) ∧ True)) rfl ⟨⟨trivial, trivial⟩, trivial⟩ ?_
  refine gv_pick [1, 2, 3, 4, 5, 6, 7, 0] rfl ?_
  exact L62 (a7 + 1) (by omega)
set_option maxHeartbeats 8000000 in
set_option maxRecDepth 100000 in
theorem d_X12_swap_e {ws0 : List Cond} {tb : String → gz_T} (hws : gc_Ws ws0) (htb : gc_tbs tb) (sh : gz_Sh) (ro : Nat → Nat) (I : gr_I) (J : gr_J) (A : gc_A) (hI : gc_Inv ro I) (a1 : Int) (a2 : Int) (a3 : Int) (a4 : Nat) (a5 : Nat) (a6 : Int) (a7 : Int) (hb : gc_Base sh ro A) (h_a4 : gc_isTongue sh ro A a4) (G_a4 : 144 ≤ a4) (h_a5 : gc_isTongue sh ro A a5) (G_a5 : 144 ≤ a5) (ha1 : 0 ≤ a1 ∧ a1 ≤ 7) (ha2 : 0 ≤ a2 ∧ a2 ≤ 31) (ha3 : 0 ≤ a3 ∧ a3 ≤ 7) (ha6 : 0 ≤ a6 ∧ a6 ≤ 1) (ha7 : 0 ≤ a7 ∧ a7 ≤ 16)   : gv_X (gc_E12 ws0 tb 97 (yX12_swap, cX12_swap, 9, (some .int)) kX12_swap) (gv_Q cX12_swap (some .int) sh (fun r hₚ => (hₚ = gc_h sh I J A ∧ (∃ z : Int, r = some (.inl z) ∧ 0 ≤ z ∧ z ≤ 16)))) (143, [(0, .inr (.inr (some 0))), (1, .inl a1), (2, .inl a2), (3, .inl a3), (4, .inr (.inr (some a4))), (5, .inr (.inr (some a5))), (6, .inl a6), (7, .inl a7)], [], sh, gc_h sh I J A) := by
  have B_0 : 0 < 1000000 := by decide
  have R_0 : ro 0 = 76 := gc_bR_0 hb
  have S_0 : sh[0]? = some (false, 12, 17) := gc_bS_0 hb
  obtain ⟨S_a4, R_a4, B_a4, A_a4_0, h_a4_1, A_a4_1, h_a4_3, A_a4_2, S_a4_5, R_a4_5, B_a4_5, A_a4_3, S_a4_6, R_a4_6, B_a4_6, A_a4_4, h_a4_7, A_a4_5, S_a4_9, R_a4_9, B_a4_9, A_a4_7, S_a4_10, R_a4_10, B_a4_10, A_a4_8, h_a4_11, A_a4_9, S_a4_13, R_a4_13, B_a4_13, A_a4_10, S_a4_14, R_a4_14, B_a4_14, A_a4_12, S_a4_15, R_a4_15, B_a4_15, A_a4_14, S_a4_16, R_a4_16, B_a4_16, A_a4_15, h_a4_17⟩ := id h_a4
  obtain ⟨S_a4_1, R_a4_1, B_a4_1, A_a4_1_0, S_a4_1_1, R_a4_1_1, B_a4_1_1, Q0_a4_1, Q1_a4_1, Q2_a4_1⟩ := id h_a4_1
  obtain ⟨S_a4_3, R_a4_3, B_a4_3, A_a4_3_0, S_a4_3_1, R_a4_3_1, B_a4_3_1, Q0_a4_3, Q1_a4_3, Q2_a4_3⟩ := id h_a4_3
  obtain ⟨S_a4_7, R_a4_7, B_a4_7, A_a4_7_0, S_a4_7_1, R_a4_7_1, B_a4_7_1, Q0_a4_7, Q1_a4_7, Q2_a4_7⟩ := id h_a4_7
  obtain ⟨S_a4_11, R_a4_11, B_a4_11, A_a4_11_0, S_a4_11_1, R_a4_11_1, B_a4_11_1, Q0_a4_11, Q1_a4_11, Q2_a4_11⟩ := id h_a4_11
  obtain ⟨S_a4_17, R_a4_17, B_a4_17, A_a4_17_0, S_20, R_20, B_20, A_a4_17_1, S_a4_17_1, R_a4_17_1, B_a4_17_1, A_a4_17_2, S_a4_17_2, R_a4_17_2, B_a4_17_2, A_a4_17_3, S_a4_17_3, R_a4_17_3, B_a4_17_3, A_a4_17_4, S_a4_17_4, R_a4_17_4, B_a4_17_4, A_a4_17_5, S_a4_17_5, R_a4_17_5, B_a4_17_5, S_a4_17_6, R_a4_17_6, B_a4_17_6, S_a4_17_7, R_a4_17_7, B_a4_17_7⟩ := id h_a4_17
  obtain ⟨S_a5, R_a5, B_a5, A_a5_0, h_a5_1, A_a5_1, h_a5_3, A_a5_2, S_a5_5, R_a5_5, B_a5_5, A_a5_3, S_a5_6, R_a5_6, B_a5_6, A_a5_4, h_a5_7, A_a5_5, S_a5_9, R_a5_9, B_a5_9, A_a5_7, S_a5_10, R_a5_10, B_a5_10, A_a5_8, h_a5_11, A_a5_9, S_a5_13, R_a5_13, B_a5_13, A_a5_10, S_a5_14, R_a5_14, B_a5_14, A_a5_12, S_a5_15, R_a5_15, B_a5_15, A_a5_14, S_a5_16, R_a5_16, B_a5_16, A_a5_15, h_a5_17⟩ := id h_a5
  obtain ⟨S_a5_1, R_a5_1, B_a5_1, A_a5_1_0, S_a5_1_1, R_a5_1_1, B_a5_1_1, Q0_a5_1, Q1_a5_1, Q2_a5_1⟩ := id h_a5_1
  obtain ⟨S_a5_3, R_a5_3, B_a5_3, A_a5_3_0, S_a5_3_1, R_a5_3_1, B_a5_3_1, Q0_a5_3, Q1_a5_3, Q2_a5_3⟩ := id h_a5_3
  obtain ⟨S_a5_7, R_a5_7, B_a5_7, A_a5_7_0, S_a5_7_1, R_a5_7_1, B_a5_7_1, Q0_a5_7, Q1_a5_7, Q2_a5_7⟩ := id h_a5_7
  obtain ⟨S_a5_11, R_a5_11, B_a5_11, A_a5_11_0, S_a5_11_1, R_a5_11_1, B_a5_11_1, Q0_a5_11, Q1_a5_11, Q2_a5_11⟩ := id h_a5_11
  obtain ⟨S_a5_17, R_a5_17, B_a5_17, A_a5_17_0, S_20, R_20, B_20, A_a5_17_1, S_a5_17_1, R_a5_17_1, B_a5_17_1, A_a5_17_2, S_a5_17_2, R_a5_17_2, B_a5_17_2, A_a5_17_3, S_a5_17_3, R_a5_17_3, B_a5_17_3, A_a5_17_4, S_a5_17_4, R_a5_17_4, B_a5_17_4, A_a5_17_5, S_a5_17_5, R_a5_17_5, B_a5_17_5, S_a5_17_6, R_a5_17_6, B_a5_17_6, S_a5_17_7, R_a5_17_7, B_a5_17_7⟩ := id h_a5_17
  have hD : gv_D (gc_E12 ws0 tb 97 (yX12_swap, cX12_swap, 9, (some .int)) kX12_swap) := gq_of oX12_swap
  refine gv_run 1 true hD (pcₚ := 144) (lvₚ := [(0, .inr (.inr (some 0))), (1, .inl a1), (2, .inl a2), (3, .inl a3), (4, .inr (.inr (some a4))), (5, .inr (.inr (some a5))), (6, .inl a6), (7, .inl a7)]) (stₚ := [.inr (.inr (some 0))]) (hₚ := gc_h sh I J A) (C := (True ∧ True)) rfl ⟨trivial, trivial⟩ ?_
  have f1 := (gc_b_76_15 hI R_0)
  refine gv_get hD rfl rfl S_0 ⟨by decide, B_0⟩ (gc_hI S_0 rfl) ?_
  show gv_X _ _ (147, [(0, .inr (.inr (some 0))), (1, .inl a1), (2, .inl a2), (3, .inl a3), (4, .inr (.inr (some a4))), (5, .inr (.inr (some a5))), (6, .inl a6), (7, .inl a7)], [.inl (I 0 15)], sh, gc_h sh I J A)
  exact gv_iret hD rfl ⟨rfl, ⟨_, rfl, by omega⟩⟩
