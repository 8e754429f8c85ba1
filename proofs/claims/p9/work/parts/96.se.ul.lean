set_option maxHeartbeats 8000000 in
set_option maxRecDepth 100000 in
theorem d_X2_fitsAt_p {ws0 : List Cond} {tb : String → gz_T} (hws : gc_Ws ws0) (htb : gc_tbs tb) (sh : gz_Sh) (ro : Nat → Nat) (I : gr_I) (J : gr_J) (A : gc_A) (hI : gc_Inv ro I) (p : Nat) (m : Nat) (a1 : Nat) (a2 : Int) (a3 : Nat) (a4 : Int) (a5 : Int) (hp : gc_isForms sh ro A p) (h_a1 : gc_isTongue sh ro A a1) (G_a1 : 144 ≤ a1) (S_a3 : sh[a3]? = some (true, 0, m)) (R_a3 : ro a3 = 1) (B_a3 : a3 < 1000000) (M_a3 : m < 2147483648) (ha2 : 0 ≤ a2 ∧ a2 ≤ 597) (ha4 : (-40) ≤ a4 ∧ a4 ≤ 60) (ha5 : 0 ≤ a5 ∧ a5 ≤ 24) (x0 : a5 ≤ m) (x1 : (a2 % 25 = 0 ∨ a2 % 25 = 7 ∨ a2 % 25 = 10 ∨ a2 % 25 = 13 ∨ a2 % 25 = 16 ∨ a2 % 25 = 19 ∨ a2 % 25 = 22)) (x2 : I (a1 + 10) (Int.toNat a2) = 1 → I (a1 + 10) (Int.toNat (a2 + 1)) ≤ 15) : ∃ r hₚ, gz_Ev ws0 tb 1 (yX2_fitsAt, cX2_fitsAt, 8, (some .int)) [.inr (.inr (some p)), .inr (.inr (some a1)), .inl a2, .inr (.inr (some a3)), .inl a4, .inl a5] sh (gc_h sh I J A) r sh hₚ 0 0 ∧ (hₚ = gc_h sh I J A ∧ (∃ z : Int, r = some (.inl z) ∧ (-1) ≤ z ∧ z ≤ 24 ∧ (z < 0 ∨ a4 ≤ z) ∧ (z ≤ a5) ∧ so_End (so_ci I a1 a2) (so_b a5 (I a3)) a5 a4 z)) := by
  obtain ⟨S_p, R_p, B_p, A_p_0, S_20, R_20, B_20, A_p_1, S_p_1, R_p_1, B_p_1, A_p_2, S_p_2, R_p_2, B_p_2, A_p_3, S_p_3, R_p_3, B_p_3, A_p_4, S_p_4, R_p_4, B_p_4, A_p_5, S_p_5, R_p_5, B_p_5, S_p_6, R_p_6, B_p_6, S_p_7, R_p_7, B_p_7⟩ := id hp
  replace R_p := gz_hi R_p
  replace B_p := gz_hi B_p
  replace R_20 := gz_hi R_20
  replace B_20 := gz_hi B_20
  replace R_p_1 := gz_hi R_p_1
  replace B_p_1 := gz_hi B_p_1
  replace R_p_2 := gz_hi R_p_2
  replace B_p_2 := gz_hi B_p_2
  replace R_p_3 := gz_hi R_p_3
  replace B_p_3 := gz_hi B_p_3
  replace R_p_4 := gz_hi R_p_4
  replace B_p_4 := gz_hi B_p_4
  replace R_p_5 := gz_hi R_p_5
  replace B_p_5 := gz_hi B_p_5
  replace R_p_6 := gz_hi R_p_6
  replace B_p_6 := gz_hi B_p_6
  replace R_p_7 := gz_hi R_p_7
  replace B_p_7 := gz_hi B_p_7
  obtain ⟨S_a1, R_a1, B_a1, A_a1_0, h_a1_1, A_a1_1, h_a1_3, A_a1_2, S_a1_5, R_a1_5, B_a1_5, A_a1_3, S_a1_6, R_a1_6, B_a1_6, A_a1_4, h_a1_7, A_a1_5, S_a1_9, R_a1_9, B_a1_9, A_a1_7, S_a1_10, R_a1_10, B_a1_10, A_a1_8, h_a1_11, A_a1_9, S_a1_13, R_a1_13, B_a1_13, A_a1_10, S_a1_14, R_a1_14, B_a1_14, A_a1_12, S_a1_15, R_a1_15, B_a1_15, A_a1_14, S_a1_16, R_a1_16, B_a1_16, A_a1_15, h_a1_17⟩ := id h_a1
  replace R_a1 := gz_hi R_a1
  replace B_a1 := gz_hi B_a1
  replace R_a1_5 := gz_hi R_a1_5
  replace B_a1_5 := gz_hi B_a1_5
  replace R_a1_6 := gz_hi R_a1_6
  replace B_a1_6 := gz_hi B_a1_6
  replace R_a1_9 := gz_hi R_a1_9
  replace B_a1_9 := gz_hi B_a1_9
  replace R_a1_10 := gz_hi R_a1_10
  replace B_a1_10 := gz_hi B_a1_10
  replace R_a1_13 := gz_hi R_a1_13
  replace B_a1_13 := gz_hi B_a1_13
  replace R_a1_14 := gz_hi R_a1_14
  replace B_a1_14 := gz_hi B_a1_14
  replace R_a1_15 := gz_hi R_a1_15
  replace B_a1_15 := gz_hi B_a1_15
  replace R_a1_16 := gz_hi R_a1_16
  replace B_a1_16 := gz_hi B_a1_16
  obtain ⟨S_a1_1, R_a1_1, B_a1_1, A_a1_1_0, S_a1_1_1, R_a1_1_1, B_a1_1_1, Q0_a1_1, Q1_a1_1, Q2_a1_1⟩ := id h_a1_1
  replace R_a1_1 := gz_hi R_a1_1
  replace B_a1_1 := gz_hi B_a1_1
  replace R_a1_1_1 := gz_hi R_a1_1_1
  replace B_a1_1_1 := gz_hi B_a1_1_1
  obtain ⟨S_a1_3, R_a1_3, B_a1_3, A_a1_3_0, S_a1_3_1, R_a1_3_1, B_a1_3_1, Q0_a1_3, Q1_a1_3, Q2_a1_3⟩ := id h_a1_3
  replace R_a1_3 := gz_hi R_a1_3
  replace B_a1_3 := gz_hi B_a1_3
  replace R_a1_3_1 := gz_hi R_a1_3_1
  replace B_a1_3_1 := gz_hi B_a1_3_1
  obtain ⟨S_a1_7, R_a1_7, B_a1_7, A_a1_7_0, S_a1_7_1, R_a1_7_1, B_a1_7_1, Q0_a1_7, Q1_a1_7, Q2_a1_7⟩ := id h_a1_7
  replace R_a1_7 := gz_hi R_a1_7
  replace B_a1_7 := gz_hi B_a1_7
  replace R_a1_7_1 := gz_hi R_a1_7_1
  replace B_a1_7_1 := gz_hi B_a1_7_1
  obtain ⟨S_a1_11, R_a1_11, B_a1_11, A_a1_11_0, S_a1_11_1, R_a1_11_1, B_a1_11_1, Q0_a1_11, Q1_a1_11, Q2_a1_11⟩ := id h_a1_11
  replace R_a1_11 := gz_hi R_a1_11
  replace B_a1_11 := gz_hi B_a1_11
  replace R_a1_11_1 := gz_hi R_a1_11_1
  replace B_a1_11_1 := gz_hi B_a1_11_1
  obtain ⟨S_a1_17, R_a1_17, B_a1_17, A_a1_17_0, S_20, R_20, B_20, A_a1_17_1, S_a1_17_1, R_a1_17_1, B_a1_17_1, A_a1_17_2, S_a1_17_2, R_a1_17_2, B_a1_17_2, A_a1_17_3, S_a1_17_3, R_a1_17_3, B_a1_17_3, A_a1_17_4, S_a1_17_4, R_a1_17_4, B_a1_17_4, A_a1_17_5, S_a1_17_5, R_a1_17_5, B_a1_17_5, S_a1_17_6, R_a1_17_6, B_a1_17_6, S_a1_17_7, R_a1_17_7, B_a1_17_7⟩ := id h_a1_17
  replace R_a1_17 := gz_hi R_a1_17
  replace B_a1_17 := gz_hi B_a1_17
  replace R_20 := gz_hi R_20
  replace B_20 := gz_hi B_20
  replace R_a1_17_1 := gz_hi R_a1_17_1
  replace B_a1_17_1 := gz_hi B_a1_17_1
  replace R_a1_17_2 := gz_hi R_a1_17_2
  replace B_a1_17_2 := gz_hi B_a1_17_2
  replace R_a1_17_3 := gz_hi R_a1_17_3
  replace B_a1_17_3 := gz_hi B_a1_17_3
  replace R_a1_17_4 := gz_hi R_a1_17_4
  replace B_a1_17_4 := gz_hi B_a1_17_4
  replace R_a1_17_5 := gz_hi R_a1_17_5
  replace B_a1_17_5 := gz_hi B_a1_17_5
  replace R_a1_17_6 := gz_hi R_a1_17_6
  replace B_a1_17_6 := gz_hi B_a1_17_6
  replace R_a1_17_7 := gz_hi R_a1_17_7
  replace B_a1_17_7 := gz_hi B_a1_17_7
  have hD : gv_D (gc_E2 ws0 tb 0 (yX2_fitsAt, cX2_fitsAt, 8, (some .int)) kX2_fitsAt) := gq_of oX2_fitsAt
  refine gc_ev2 (d := 0) (l := kX2_fitsAt) (Po := fun r hₚ => (hₚ = gc_h sh I J A ∧ (∃ z : Int, r = some (.inl z) ∧ (-1) ≤ z ∧ z ≤ 24 ∧ (z < 0 ∨ a4 ≤ z) ∧ (z ≤ a5) ∧ so_End (so_ci I a1 a2) (so_b a5 (I a3)) a5 a4 z))) htb rfl (Nat.le_of_ble_eq_true rfl) ?_
  have L23 : ∀ (s0_1 : Int), (((-1) ≤ s0_1 ∧ s0_1 ≤ 24) ∧ (s0_1 < 0 ∨ (s0_1 ≤ 24 ∧ a4 ≤ s0_1)) ∧ (s0_1 ≤ a5)) → so_End (so_ci I a1 a2) (so_b a5 (I a3)) a5 a4 s0_1 → gv_X (gc_E2 ws0 tb 0 (yX2_fitsAt, cX2_fitsAt, 8, (some .int)) kX2_fitsAt) (gv_Q cX2_fitsAt (some .int) sh (fun r hₚ => (hₚ = gc_h sh I J A ∧ (∃ z : Int, r = some (.inl z) ∧ (-1) ≤ z ∧ z ≤ 24 ∧ (z < 0 ∨ a4 ≤ z) ∧ (z ≤ a5) ∧ so_End (so_ci I a1 a2) (so_b a5 (I a3)) a5 a4 z)))) (23, [], [.inl s0_1], sh, gc_h sh I J A) := by
    intro s0_1 m_1 z_1
    obtain ⟨hs0_1, e0_1, e1_1⟩ := gz_h3 m_1
    exact gv_iret hD rfl ⟨rfl, ⟨_, rfl, by (/-0-/first | (have o1 := gz_sh hs0_1; omega) | (simp only [gz_hd] at *; omega)), by (/-1-/first | (have o1 := gz_sh hs0_1; omega) | (simp only [gz_hd] at *; omega)), by (/-2-/first | (have o1 := gz_sh e0_1; omega) | (simp only [gz_hd] at *; omega)), by (/-3-/first | (have o1 := gz_sh e1_1; omega) | (simp only [gz_hd] at *; omega)), z_1⟩⟩
  have L81 : ∀ (s0_2 : Int), (((-1) ≤ s0_2 ∧ s0_2 ≤ 24) ∧ (s0_2 < 0 ∨ (s0_2 ≤ 24 ∧ a4 ≤ s0_2)) ∧ (s0_2 ≤ a5)) → so_End (so_ci I a1 a2) (so_b a5 (I a3)) a5 a4 s0_2 → gv_X (gc_E2 ws0 tb 0 (yX2_fitsAt, cX2_fitsAt, 8, (some .int)) kX2_fitsAt) (gv_Q cX2_fitsAt (some .int) sh (fun r hₚ => (hₚ = gc_h sh I J A ∧ (∃ z : Int, r = some (.inl z) ∧ (-1) ≤ z ∧ z ≤ 24 ∧ (z < 0 ∨ a4 ≤ z) ∧ (z ≤ a5) ∧ so_End (so_ci I a1 a2) (so_b a5 (I a3)) a5 a4 z)))) (81, [], [.inl s0_2], sh, gc_h sh I J A) := by
    intro s0_2 m_2 z_2
    obtain ⟨hs0_2, e0_2, e1_2⟩ := gz_h3 m_2
    exact gv_iret hD rfl ⟨rfl, ⟨_, rfl, by (/-4-/first | (have o1 := gz_sh hs0_2; omega) | (simp only [gz_hd] at *; omega)), by (/-5-/first | (have o1 := gz_sh hs0_2; omega) | (simp only [gz_hd] at *; omega)), by (/-6-/first | (have o1 := gz_sh e0_2; omega) | (simp only [gz_hd] at *; omega)), by (/-7-/first | (have o1 := gz_sh e1_2; omega) | (simp only [gz_hd] at *; omega)), z_2⟩⟩
  have L80 : (∀ q, ¬ so_fits (so_ci I a1 a2) (so_b a5 (I a3)) a5 a4 q) → gv_X (gc_E2 ws0 tb 0 (yX2_fitsAt, cX2_fitsAt, 8, (some .int)) kX2_fitsAt) (gv_Q cX2_fitsAt (some .int) sh (fun r hₚ => (hₚ = gc_h sh I J A ∧ (∃ z : Int, r = some (.inl z) ∧ (-1) ≤ z ∧ z ≤ 24 ∧ (z < 0 ∨ a4 ≤ z) ∧ (z ≤ a5) ∧ so_End (so_ci I a1 a2) (so_b a5 (I a3)) a5 a4 z)))) (80, [], [], sh, gc_h sh I J A) := by
    intro n_80
    refine gv_run 1 true hD (pcₚ := 81) (lvₚ := []) (stₚ := [.inl (-1)]) (hₚ := gc_h sh I J A) (C := (True ∧ True)) rfl ⟨trivial, trivial⟩ ?_
    exact L81 (-1) (by (/-8-/first | (and_intros <;> omega) | (simp only [gz_hd] at *; omega))) (Or.inr ⟨by decide, n_80⟩)
  have L107 : (∀ q, ¬ so_fits (so_ci I a1 a2) (so_b a5 (I a3)) a5 a4 q) → gv_X (gc_E2 ws0 tb 0 (yX2_fitsAt, cX2_fitsAt, 8, (some .int)) kX2_fitsAt) (gv_Q cX2_fitsAt (some .int) sh (fun r hₚ => (hₚ = gc_h sh I J A ∧ (∃ z : Int, r = some (.inl z) ∧ (-1) ≤ z ∧ z ≤ 24 ∧ (z < 0 ∨ a4 ≤ z) ∧ (z ≤ a5) ∧ so_End (so_ci I a1 a2) (so_b a5 (I a3)) a5 a4 z)))) (107, [], [], sh, gc_h sh I J A) := by
    intro n_107
    refine gv_run 1 true hD (pcₚ := 108) (lvₚ := []) (stₚ := [.inl (-1)]) (hₚ := gc_h sh I J A) (C := (True ∧ True)) rfl ⟨trivial, trivial⟩ ?_
    exact gv_iret hD rfl ⟨rfl, ⟨_, rfl, by (/-9-/first | omega | (simp only [gz_hd] at *; omega)), by (/-10-/first | omega | (simp only [gz_hd] at *; omega)), by (/-11-/first | omega | (simp only [gz_hd] at *; omega)), by (/-12-/first | omega | (simp only [gz_hd] at *; omega)), Or.inr ⟨by decide, n_107⟩⟩⟩
  have L112 : ∀ (n9 : Nat) (v6_5 : Int) (v7_5 : Int), (13 - v7_5).toNat < n9 → ((0 ≤ a2 ∧ a2 ≤ 597) ∧ (0 ≤ a4 ∧ a4 ≤ 60) ∧ (0 ≤ v6_5 ∧ v6_5 ≤ 12) ∧ (0 ≤ v7_5 ∧ v7_5 ≤ 12) ∧ (0 ≤ a4) ∧ (a4 + v6_5 ≤ a5)) → ((v6_5 = I (a1 + 10) (Int.toNat (a2 + 2)) ∧ ¬ I (a1 + 10) (Int.toNat a2) = 2 ∧ ¬ I (a1 + 10) (Int.toNat a2) = 1) ∧ ∀ i : Int, 0 ≤ i → i < v7_5 → I a3 (Int.toNat (a4 + i)) = I 20 (Int.toNat (I (a1 + 10) (Int.toNat (a2 + 1)) + i))) → gv_X (gc_E2 ws0 tb 0 (yX2_fitsAt, cX2_fitsAt, 8, (some .int)) kX2_fitsAt) (gv_Q cX2_fitsAt (some .int) sh (fun r hₚ => (hₚ = gc_h sh I J A ∧ (∃ z : Int, r = some (.inl z) ∧ (-1) ≤ z ∧ z ≤ 24 ∧ (z < 0 ∨ a4 ≤ z) ∧ (z ≤ a5) ∧ so_End (so_ci I a1 a2) (so_b a5 (I a3)) a5 a4 z)))) (112, [(0, .inr (.inr (some p))), (1, .inr (.inr (some a1))), (2, .inl a2), (3, .inr (.inr (some a3))), (4, .inl a4), (6, .inl v6_5), (7, .inl v7_5)], [], sh, gc_h sh I J A) := by
    intro n9
    induction n9 with
    | zero => intro v6_5 v7_5 hn; (/-13-/first | omega | (simp only [gz_hd] at *; omega))
    | succ n9 ih112 =>
      intro v6_5 v7_5 hn m_5 k_5
      obtain ⟨ha2_5, ha4_5, hv6_5, hv7_5, e0_5, e1_5⟩ := gz_h6 m_5
      refine gv_run 2 true hD (pcₚ := 116) (lvₚ := [(0, .inr (.inr (some p))), (1, .inr (.inr (some a1))), (2, .inl a2), (3, .inr (.inr (some a3))), (4, .inl a4), (6, .inl v6_5), (7, .inl v7_5)]) (stₚ := [.inl v6_5, .inl v7_5]) (hₚ := gc_h sh I J A) (C := ((True ∧ True) ∧ True)) rfl ⟨⟨trivial, trivial⟩, trivial⟩ ?_
      refine gv_icmp_ge (t := 153) hD rfl rfl ⟨⟨by (/-14-/first | (have o1 := gz_sh hv7_5; omega) | (simp only [gz_hd] at *; omega)), by (/-15-/first | (have o1 := gz_sh hv7_5; omega) | (simp only [gz_hd] at *; omega))⟩, ⟨by (/-16-/first | (have o1 := gz_sh hv6_5; omega) | (simp only [gz_hd] at *; omega)), by (/-17-/first | (have o1 := gz_sh hv6_5; omega) | (simp only [gz_hd] at *; omega))⟩⟩ (fun c6 => ?_) (fun c6 => ?_)
      · show gv_X _ _ (153, [(0, .inr (.inr (some p))), (1, .inr (.inr (some a1))), (2, .inl a2), (3, .inr (.inr (some a3))), (4, .inl a4), (6, .inl v6_5), (7, .inl v7_5)], [], sh, gc_h sh I J A)
        refine gv_run 3 true hD (pcₚ := 158) (lvₚ := [(0, .inr (.inr (some p))), (1, .inr (.inr (some a1))), (2, .inl a2), (3, .inr (.inr (some a3))), (4, .inl a4), (6, .inl v6_5), (7, .inl v7_5)]) (stₚ := [.inl (a4 + v6_5)]) (hₚ := gc_h sh I J A) (C := (((True ∧ True) ∧ True) ∧ True)) rfl ⟨⟨⟨trivial, trivial⟩, trivial⟩, trivial⟩ ?_
        exact gv_iret hD rfl ⟨rfl, ⟨_, rfl, by (/-18-/first | (have o1 := gz_sh ha4_5; have o2 := gz_sh hv6_5; omega) | (simp only [gz_hd] at *; omega)), by (/-19-/first | (have o1 := gz_sh e1_5; omega) | (simp only [gz_hd] at *; omega)), by (/-20-/first | (have o1 := gz_sh hv6_5; omega) | (simp only [gz_hd] at *; omega)), by (/-21-/first | (have o1 := gz_sh e1_5; omega) | (simp only [gz_hd] at *; omega)), Or.inl ⟨by (/-22-/first | (have o1 := gz_sh ha4_5; have o2 := gz_sh hv6_5; omega) | (simp only [gz_hd] at *; omega)), by rw [k_5.1.1]; exact so_fits_l (so_ci_l k_5.1.2.1 k_5.1.2.2 (by (/-23-/first | omega | (simp only [gz_hd] at *; omega)))) (by (/-24-/first | (have o1 := gz_sh e0_5; omega) | (simp only [gz_hd] at *; omega))) (by have h9 := k_5.1.1; (/-25-/first | (have o1 := gz_sh e1_5; omega) | (simp only [gz_hd] at *; omega))) (fun i a c => (so_cut_i (by (/-26-/first | (have o1 := gz_sh ha4_5; omega) | (simp only [gz_hd] at *; omega))) (by have h9 := k_5.1.1; (/-27-/first | (have o1 := gz_sh e1_5; omega) | (simp only [gz_hd] at *; omega)))).trans (k_5.2 i a (by have h9 := k_5.1.1; (/-28-/first | omega | (simp only [gz_hd] at *; omega)))))⟩⟩⟩
      · show gv_X _ _ (119, [(0, .inr (.inr (some p))), (1, .inr (.inr (some a1))), (2, .inl a2), (3, .inr (.inr (some a3))), (4, .inl a4), (6, .inl v6_5), (7, .inl v7_5)], [], sh, gc_h sh I J A)
        refine gv_run 4 true hD (pcₚ := 125) (lvₚ := [(0, .inr (.inr (some p))), (1, .inr (.inr (some a1))), (2, .inl a2), (3, .inr (.inr (some a3))), (4, .inl a4), (6, .inl v6_5), (7, .inl v7_5)]) (stₚ := [.inl (a4 + v7_5), .inr (.inr (some a3))]) (hₚ := gc_h sh I J A) (C := ((((True ∧ True) ∧ True) ∧ True) ∧ True)) rfl ⟨⟨⟨⟨trivial, trivial⟩, trivial⟩, trivial⟩, trivial⟩ ?_
        have f7 := gz_hi ((show (-128) ≤ I a3 (Int.toNat (a4 + v7_5)) ∧ I a3 (Int.toNat (a4 + v7_5)) ≤ 127 from gc_in2 hI R_a3 rfl rfl rfl))
        refine gv_bald hD rfl S_a3 (Or.inl rfl) ⟨by (/-29-/first | omega | (simp only [gz_hd] at *; omega)), B_a3⟩ ⟨by (/-30-/first | (have o1 := gz_sh ha4_5; have o2 := gz_sh hv7_5; omega) | (simp only [gz_hd] at *; omega)), by (/-31-/first | (have o1 := gz_sh e1_5; omega) | (simp only [gz_hd] at *; omega))⟩ (gc_iI S_a3 rfl) ?_
        show gv_X _ _ (126, [(0, .inr (.inr (some p))), (1, .inr (.inr (some a1))), (2, .inl a2), (3, .inr (.inr (some a3))), (4, .inl a4), (6, .inl v6_5), (7, .inl v7_5)], [.inl (I a3 (Int.toNat (a4 + v7_5)))], sh, gc_h sh I J A)
        refine gv_run 1 true hD (pcₚ := 127) (lvₚ := [(0, .inr (.inr (some p))), (1, .inr (.inr (some a1))), (2, .inl a2), (3, .inr (.inr (some a3))), (4, .inl a4), (6, .inl v6_5), (7, .inl v7_5)]) (stₚ := [.inr (.inr (some p)), .inl (I a3 (Int.toNat (a4 + v7_5)))]) (hₚ := gc_h sh I J A) (C := (True ∧ True)) rfl ⟨trivial, trivial⟩ ?_
        refine gv_get hD rfl rfl S_p ⟨by decide, (gz_sh B_p)⟩ (gc_hA S_p rfl A_p_0) ?_
        show gv_X _ _ (130, [(0, .inr (.inr (some p))), (1, .inr (.inr (some a1))), (2, .inl a2), (3, .inr (.inr (some a3))), (4, .inl a4), (6, .inl v6_5), (7, .inl v7_5)], [.inr (.inr (some 20)), .inl (I a3 (Int.toNat (a4 + v7_5)))], sh, gc_h sh I J A)
        refine gv_run 1 true hD (pcₚ := 131) (lvₚ := [(0, .inr (.inr (some p))), (1, .inr (.inr (some a1))), (2, .inl a2), (3, .inr (.inr (some a3))), (4, .inl a4), (6, .inl v6_5), (7, .inl v7_5)]) (stₚ := [.inr (.inr (some a1)), .inr (.inr (some 20)), .inl (I a3 (Int.toNat (a4 + v7_5)))]) (hₚ := gc_h sh I J A) (C := (True ∧ True)) rfl ⟨trivial, trivial⟩ ?_
        refine gv_get hD rfl rfl S_a1 ⟨by decide, (gz_sh B_a1)⟩ (gc_hA S_a1 rfl A_a1_7) ?_
        show gv_X _ _ (134, [(0, .inr (.inr (some p))), (1, .inr (.inr (some a1))), (2, .inl a2), (3, .inr (.inr (some a3))), (4, .inl a4), (6, .inl v6_5), (7, .inl v7_5)], [.inr (.inr (some (a1 + 10))), .inr (.inr (some 20)), .inl (I a3 (Int.toNat (a4 + v7_5)))], sh, gc_h sh I J A)
        refine gv_run 3 true hD (pcₚ := 137) (lvₚ := [(0, .inr (.inr (some p))), (1, .inr (.inr (some a1))), (2, .inl a2), (3, .inr (.inr (some a3))), (4, .inl a4), (6, .inl v6_5), (7, .inl v7_5)]) (stₚ := [.inl (a2 + 1), .inr (.inr (some (a1 + 10))), .inr (.inr (some 20)), .inl (I a3 (Int.toNat (a4 + v7_5)))]) (hₚ := gc_h sh I J A) (C := (((True ∧ True) ∧ True) ∧ True)) rfl ⟨⟨⟨trivial, trivial⟩, trivial⟩, trivial⟩ ?_
        have f8 := gz_hi ((show 0 ≤ I (a1 + 10) (Int.toNat (a2 + 1)) ∧ I (a1 + 10) (Int.toNat (a2 + 1)) ≤ 2000 from ((fun hc => hc.elim (fun hc => (have h9 : 0 ≤ I (a1 + 10) (Int.toNat (a2 + 1)) ∧ I (a1 + 10) (Int.toNat (a2 + 1)) ≤ 2000 := gc_inm hI (gz_sh R_a1_10) rfl rfl hc rfl rfl; ⟨by (/-32-/first | omega | (simp only [gz_hd] at *; omega)), by (/-33-/first | omega | (simp only [gz_hd] at *; omega))⟩)) (fun hc => hc.elim (fun hc => (have h9 : 0 ≤ I (a1 + 10) (Int.toNat (a2 + 1)) ∧ I (a1 + 10) (Int.toNat (a2 + 1)) ≤ 2000 := gc_inm hI (gz_sh R_a1_10) rfl rfl hc rfl rfl; ⟨by (/-34-/first | omega | (simp only [gz_hd] at *; omega)), by (/-35-/first | omega | (simp only [gz_hd] at *; omega))⟩)) (fun hc => hc.elim (fun hc => (have h9 : 0 ≤ I (a1 + 10) (Int.toNat (a2 + 1)) ∧ I (a1 + 10) (Int.toNat (a2 + 1)) ≤ 2000 := gc_inm hI (gz_sh R_a1_10) rfl rfl hc rfl rfl; ⟨by (/-36-/first | omega | (simp only [gz_hd] at *; omega)), by (/-37-/first | omega | (simp only [gz_hd] at *; omega))⟩)) (fun hc => hc.elim (fun hc => (have h9 : 0 ≤ I (a1 + 10) (Int.toNat (a2 + 1)) ∧ I (a1 + 10) (Int.toNat (a2 + 1)) ≤ 2000 := gc_inm hI (gz_sh R_a1_10) rfl rfl hc rfl rfl; ⟨by (/-38-/first | omega | (simp only [gz_hd] at *; omega)), by (/-39-/first | omega | (simp only [gz_hd] at *; omega))⟩)) (fun hc => hc.elim (fun hc => (have h9 : 0 ≤ I (a1 + 10) (Int.toNat (a2 + 1)) ∧ I (a1 + 10) (Int.toNat (a2 + 1)) ≤ 2000 := gc_inm hI (gz_sh R_a1_10) rfl rfl hc rfl rfl; ⟨by (/-40-/first | omega | (simp only [gz_hd] at *; omega)), by (/-41-/first | omega | (simp only [gz_hd] at *; omega))⟩)) (fun hc => hc.elim (fun hc => (have h9 : 0 ≤ I (a1 + 10) (Int.toNat (a2 + 1)) ∧ I (a1 + 10) (Int.toNat (a2 + 1)) ≤ 2000 := gc_inm hI (gz_sh R_a1_10) rfl rfl hc rfl rfl; ⟨by (/-42-/first | omega | (simp only [gz_hd] at *; omega)), by (/-43-/first | omega | (simp only [gz_hd] at *; omega))⟩)) (fun hc => (have h9 : 0 ≤ I (a1 + 10) (Int.toNat (a2 + 1)) ∧ I (a1 + 10) (Int.toNat (a2 + 1)) ≤ 2000 := gc_inm hI (gz_sh R_a1_10) rfl rfl hc rfl rfl; ⟨by (/-44-/first | omega | (simp only [gz_hd] at *; omega)), by (/-45-/first | omega | (simp only [gz_hd] at *; omega))⟩)))))))) (show (Int.toNat (a2 + 1)) % 25 = 1 ∨ (Int.toNat (a2 + 1)) % 25 = 8 ∨ (Int.toNat (a2 + 1)) % 25 = 11 ∨ (Int.toNat (a2 + 1)) % 25 = 14 ∨ (Int.toNat (a2 + 1)) % 25 = 17 ∨ (Int.toNat (a2 + 1)) % 25 = 20 ∨ (Int.toNat (a2 + 1)) % 25 = 23 from by (/-46-/first | (have o1 := gz_sh hv7_5; omega) | (simp only [gz_hd] at *; omega))))))
        refine gv_iald hD rfl S_a1_10 rfl ⟨by decide, (gz_sh B_a1_10)⟩ ⟨by (/-47-/first | omega | (simp only [gz_hd] at *; omega)), by (/-48-/first | omega | (simp only [gz_hd] at *; omega))⟩ (gc_iI S_a1_10 rfl) ?_
        show gv_X _ _ (138, [(0, .inr (.inr (some p))), (1, .inr (.inr (some a1))), (2, .inl a2), (3, .inr (.inr (some a3))), (4, .inl a4), (6, .inl v6_5), (7, .inl v7_5)], [.inl (I (a1 + 10) (Int.toNat (a2 + 1))), .inr (.inr (some 20)), .inl (I a3 (Int.toNat (a4 + v7_5)))], sh, gc_h sh I J A)
        refine gv_run 2 true hD (pcₚ := 141) (lvₚ := [(0, .inr (.inr (some p))), (1, .inr (.inr (some a1))), (2, .inl a2), (3, .inr (.inr (some a3))), (4, .inl a4), (6, .inl v6_5), (7, .inl v7_5)]) (stₚ := [.inl ((I (a1 + 10) (Int.toNat (a2 + 1))) + v7_5), .inr (.inr (some 20)), .inl (I a3 (Int.toNat (a4 + v7_5)))]) (hₚ := gc_h sh I J A) (C := ((True ∧ True) ∧ True)) rfl ⟨⟨trivial, trivial⟩, trivial⟩ ?_
        have f9 := gz_hi ((gc_b_36 hI (gz_sh R_20) (Int.toNat (((I (a1 + 10) (Int.toNat (a2 + 1))) + v7_5)))))
        refine gv_bald hD rfl S_20 (Or.inl rfl) ⟨by decide, (gz_sh B_20)⟩ ⟨by (/-49-/first | (have o1 := gz_sh f8; have o2 := gz_sh hv7_5; omega) | (simp only [gz_hd] at *; omega)), by (/-50-/first | (have o1 := gz_sh f8; have o2 := gz_sh hv7_5; omega) | (simp only [gz_hd] at *; omega))⟩ (gc_iI S_20 rfl) ?_
        show gv_X _ _ (142, [(0, .inr (.inr (some p))), (1, .inr (.inr (some a1))), (2, .inl a2), (3, .inr (.inr (some a3))), (4, .inl a4), (6, .inl v6_5), (7, .inl v7_5)], [.inl (I 20 (Int.toNat (((I (a1 + 10) (Int.toNat (a2 + 1))) + v7_5)))), .inl (I a3 (Int.toNat (a4 + v7_5)))], sh, gc_h sh I J A)
        refine gv_icmp_eq (t := 147) hD rfl rfl ⟨⟨by (/-51-/first | (have o1 := gz_sh f7; omega) | (simp only [gz_hd] at *; omega)), by (/-52-/first | (have o1 := gz_sh f7; omega) | (simp only [gz_hd] at *; omega))⟩, ⟨by (/-53-/first | (have o1 := gz_sh f9; omega) | (simp only [gz_hd] at *; omega)), by (/-54-/first | (have o1 := gz_sh f9; omega) | (simp only [gz_hd] at *; omega))⟩⟩ (fun c10 => ?_) (fun c10 => ?_)
        · show gv_X _ _ (147, [(0, .inr (.inr (some p))), (1, .inr (.inr (some a1))), (2, .inl a2), (3, .inr (.inr (some a3))), (4, .inl a4), (6, .inl v6_5), (7, .inl v7_5)], [], sh, gc_h sh I J A)
          refine gv_run 2 true hD (pcₚ := 112) (lvₚ := [(7, .inl (v7_5 + 1)), (0, .inr (.inr (some p))), (1, .inr (.inr (some a1))), (2, .inl a2), (3, .inr (.inr (some a3))), (4, .inl a4), (6, .inl v6_5)]) (stₚ := []) (hₚ := gc_h sh I J A) (C := ((True ∧ True) ∧ True)) rfl ⟨⟨trivial, trivial⟩, trivial⟩ ?_
          refine gv_pick [1, 2, 3, 4, 5, 6, 0] rfl ?_
          exact ih112 v6_5 (v7_5 + 1) (by (/-55-/first | (have o1 := gz_sh hv6_5; have o2 := gz_sh hv7_5; omega) | (simp only [gz_hd] at *; omega))) (by (/-56-/first | (and_intros; (omega); (omega); (have o1 := gz_sh ha4_5; omega); (omega); (have o1 := gz_sh hv6_5; omega); (have o1 := gz_sh hv6_5; omega); (have o1 := gz_sh hv7_5; omega); (have o1 := gz_sh hv6_5; omega); (have o1 := gz_sh ha4_5; omega); (have o1 := gz_sh e1_5; omega)) | (simp only [gz_hd] at *; omega))) ⟨k_5.1, fun i a c => if e9 : i = v7_5 then (by rw [e9]; exact c10) else k_5.2 i a (by (/-57-/first | omega | (simp only [gz_hd] at *; omega)))⟩
        · show gv_X _ _ (145, [(0, .inr (.inr (some p))), (1, .inr (.inr (some a1))), (2, .inl a2), (3, .inr (.inr (some a3))), (4, .inl a4), (6, .inl v6_5), (7, .inl v7_5)], [], sh, gc_h sh I J A)
          refine gv_run 1 true hD (pcₚ := 146) (lvₚ := [(0, .inr (.inr (some p))), (1, .inr (.inr (some a1))), (2, .inl a2), (3, .inr (.inr (some a3))), (4, .inl a4), (6, .inl v6_5), (7, .inl v7_5)]) (stₚ := [.inl (-1)]) (hₚ := gc_h sh I J A) (C := (True ∧ True)) rfl ⟨trivial, trivial⟩ ?_
          exact gv_iret hD rfl ⟨rfl, ⟨_, rfl, by (/-58-/first | omega | (simp only [gz_hd] at *; omega)), by (/-59-/first | omega | (simp only [gz_hd] at *; omega)), by (/-60-/first | omega | (simp only [gz_hd] at *; omega)), by (/-61-/first | omega | (simp only [gz_hd] at *; omega)), Or.inr ⟨by decide, so_fits_lx (so_ci_l k_5.1.2.1 k_5.1.2.2 (by (/-62-/first | omega | (simp only [gz_hd] at *; omega)))) (Or.inr ⟨v7_5, ⟨by (/-63-/first | (have o1 := gz_sh hv7_5; omega) | (simp only [gz_hd] at *; omega)), by have h9 := k_5.1.1; (/-64-/first | omega | (simp only [gz_hd] at *; omega))⟩, fun h8 => c10 ((so_cut_i (by (/-65-/first | (have o1 := gz_sh ha4_5; have o2 := gz_sh hv7_5; omega) | (simp only [gz_hd] at *; omega))) (by (/-66-/first | (have o1 := gz_sh e1_5; omega) | (simp only [gz_hd] at *; omega)))).symm.trans h8)⟩)⟩⟩⟩
  refine gv_run 1 true hD (pcₚ := 1) (lvₚ := [(0, .inr (.inr (some p))), (1, .inr (.inr (some a1))), (2, .inl a2), (3, .inr (.inr (some a3))), (4, .inl a4), (5, .inl a5)]) (stₚ := [.inr (.inr (some a1))]) (hₚ := gc_h sh I J A) (C := (True ∧ True)) rfl ⟨trivial, trivial⟩ ?_
  refine gv_get hD rfl rfl S_a1 ⟨by decide, (gz_sh B_a1)⟩ (gc_hA S_a1 rfl A_a1_7) ?_
  show gv_X _ _ (4, [(0, .inr (.inr (some p))), (1, .inr (.inr (some a1))), (2, .inl a2), (3, .inr (.inr (some a3))), (4, .inl a4), (5, .inl a5)], [.inr (.inr (some (a1 + 10)))], sh, gc_h sh I J A)
  refine gv_run 1 true hD (pcₚ := 5) (lvₚ := [(0, .inr (.inr (some p))), (1, .inr (.inr (some a1))), (2, .inl a2), (3, .inr (.inr (some a3))), (4, .inl a4), (5, .inl a5)]) (stₚ := [.inl a2, .inr (.inr (some (a1 + 10)))]) (hₚ := gc_h sh I J A) (C := (True ∧ True)) rfl ⟨trivial, trivial⟩ ?_
  have f11 := gz_hi ((show 0 ≤ I (a1 + 10) (Int.toNat a2) ∧ I (a1 + 10) (Int.toNat a2) ≤ 2 from ((fun hc => hc.elim (fun hc => (have h9 : 0 ≤ I (a1 + 10) (Int.toNat a2) ∧ I (a1 + 10) (Int.toNat a2) ≤ 2 := gc_inm hI (gz_sh R_a1_10) rfl rfl hc rfl rfl; ⟨by (/-67-/first | omega | (simp only [gz_hd] at *; omega)), by (/-68-/first | omega | (simp only [gz_hd] at *; omega))⟩)) (fun hc => hc.elim (fun hc => (have h9 : 0 ≤ I (a1 + 10) (Int.toNat a2) ∧ I (a1 + 10) (Int.toNat a2) ≤ 2 := gc_inm hI (gz_sh R_a1_10) rfl rfl hc rfl rfl; ⟨by (/-69-/first | omega | (simp only [gz_hd] at *; omega)), by (/-70-/first | omega | (simp only [gz_hd] at *; omega))⟩)) (fun hc => hc.elim (fun hc => (have h9 : 0 ≤ I (a1 + 10) (Int.toNat a2) ∧ I (a1 + 10) (Int.toNat a2) ≤ 2 := gc_inm hI (gz_sh R_a1_10) rfl rfl hc rfl rfl; ⟨by (/-71-/first | omega | (simp only [gz_hd] at *; omega)), by (/-72-/first | omega | (simp only [gz_hd] at *; omega))⟩)) (fun hc => hc.elim (fun hc => (have h9 : 0 ≤ I (a1 + 10) (Int.toNat a2) ∧ I (a1 + 10) (Int.toNat a2) ≤ 2 := gc_inm hI (gz_sh R_a1_10) rfl rfl hc rfl rfl; ⟨by (/-73-/first | omega | (simp only [gz_hd] at *; omega)), by (/-74-/first | omega | (simp only [gz_hd] at *; omega))⟩)) (fun hc => hc.elim (fun hc => (have h9 : 0 ≤ I (a1 + 10) (Int.toNat a2) ∧ I (a1 + 10) (Int.toNat a2) ≤ 2 := gc_inm hI (gz_sh R_a1_10) rfl rfl hc rfl rfl; ⟨by (/-75-/first | omega | (simp only [gz_hd] at *; omega)), by (/-76-/first | omega | (simp only [gz_hd] at *; omega))⟩)) (fun hc => hc.elim (fun hc => (have h9 : 0 ≤ I (a1 + 10) (Int.toNat a2) ∧ I (a1 + 10) (Int.toNat a2) ≤ 2 := gc_inm hI (gz_sh R_a1_10) rfl rfl hc rfl rfl; ⟨by (/-77-/first | omega | (simp only [gz_hd] at *; omega)), by (/-78-/first | omega | (simp only [gz_hd] at *; omega))⟩)) (fun hc => (have h9 : 0 ≤ I (a1 + 10) (Int.toNat a2) ∧ I (a1 + 10) (Int.toNat a2) ≤ 2 := gc_inm hI (gz_sh R_a1_10) rfl rfl hc rfl rfl; ⟨by (/-79-/first | omega | (simp only [gz_hd] at *; omega)), by (/-80-/first | omega | (simp only [gz_hd] at *; omega))⟩)))))))) (show (Int.toNat a2) % 25 = 0 ∨ (Int.toNat a2) % 25 = 7 ∨ (Int.toNat a2) % 25 = 10 ∨ (Int.toNat a2) % 25 = 13 ∨ (Int.toNat a2) % 25 = 16 ∨ (Int.toNat a2) % 25 = 19 ∨ (Int.toNat a2) % 25 = 22 from by (/-81-/first | omega | (simp only [gz_hd] at *; omega))))))
  refine gv_iald hD rfl S_a1_10 rfl ⟨by decide, (gz_sh B_a1_10)⟩ ⟨by (/-82-/first | omega | (simp only [gz_hd] at *; omega)), by (/-83-/first | omega | (simp only [gz_hd] at *; omega))⟩ (gc_iI S_a1_10 rfl) ?_
  show gv_X _ _ (6, [(0, .inr (.inr (some p))), (1, .inr (.inr (some a1))), (2, .inl a2), (3, .inr (.inr (some a3))), (4, .inl a4), (5, .inl a5)], [.inl (I (a1 + 10) (Int.toNat a2))], sh, gc_h sh I J A)
  refine gv_run 1 true hD (pcₚ := 7) (lvₚ := [(0, .inr (.inr (some p))), (1, .inr (.inr (some a1))), (2, .inl a2), (3, .inr (.inr (some a3))), (4, .inl a4), (5, .inl a5)]) (stₚ := [.inl 2, .inl (I (a1 + 10) (Int.toNat a2))]) (hₚ := gc_h sh I J A) (C := (True ∧ True)) rfl ⟨trivial, trivial⟩ ?_
  refine gv_icmp_ne (t := 24) hD rfl rfl ⟨⟨by (/-84-/first | (have o1 := gz_sh f11; omega) | (simp only [gz_hd] at *; omega)), by (/-85-/first | (have o1 := gz_sh f11; omega) | (simp only [gz_hd] at *; omega))⟩, ⟨by (/-86-/first | omega | (simp only [gz_hd] at *; omega)), by (/-87-/first | omega | (simp only [gz_hd] at *; omega))⟩⟩ (fun c12 => ?_) (fun c12 => ?_)
  · show gv_X _ _ (24, [(0, .inr (.inr (some p))), (1, .inr (.inr (some a1))), (2, .inl a2), (3, .inr (.inr (some a3))), (4, .inl a4), (5, .inl a5)], [], sh, gc_h sh I J A)
    refine gv_run 1 true hD (pcₚ := 25) (lvₚ := [(0, .inr (.inr (some p))), (1, .inr (.inr (some a1))), (2, .inl a2), (3, .inr (.inr (some a3))), (4, .inl a4), (5, .inl a5)]) (stₚ := [.inr (.inr (some a1))]) (hₚ := gc_h sh I J A) (C := (True ∧ True)) rfl ⟨trivial, trivial⟩ ?_
    refine gv_get hD rfl rfl S_a1 ⟨by decide, (gz_sh B_a1)⟩ (gc_hA S_a1 rfl A_a1_7) ?_
    show gv_X _ _ (28, [(0, .inr (.inr (some p))), (1, .inr (.inr (some a1))), (2, .inl a2), (3, .inr (.inr (some a3))), (4, .inl a4), (5, .inl a5)], [.inr (.inr (some (a1 + 10)))], sh, gc_h sh I J A)
    refine gv_run 1 true hD (pcₚ := 29) (lvₚ := [(0, .inr (.inr (some p))), (1, .inr (.inr (some a1))), (2, .inl a2), (3, .inr (.inr (some a3))), (4, .inl a4), (5, .inl a5)]) (stₚ := [.inl a2, .inr (.inr (some (a1 + 10)))]) (hₚ := gc_h sh I J A) (C := (True ∧ True)) rfl ⟨trivial, trivial⟩ ?_
    refine gv_iald hD rfl S_a1_10 rfl ⟨by decide, (gz_sh B_a1_10)⟩ ⟨by (/-103-/first | omega | (simp only [gz_hd] at *; omega)), by (/-104-/first | omega | (simp only [gz_hd] at *; omega))⟩ (gc_iI S_a1_10 rfl) ?_
    show gv_X _ _ (30, [(0, .inr (.inr (some p))), (1, .inr (.inr (some a1))), (2, .inl a2), (3, .inr (.inr (some a3))), (4, .inl a4), (5, .inl a5)], [.inl (I (a1 + 10) (Int.toNat a2))], sh, gc_h sh I J A)
    refine gv_run 1 true hD (pcₚ := 31) (lvₚ := [(0, .inr (.inr (some p))), (1, .inr (.inr (some a1))), (2, .inl a2), (3, .inr (.inr (some a3))), (4, .inl a4), (5, .inl a5)]) (stₚ := [.inl 1, .inl (I (a1 + 10) (Int.toNat a2))]) (hₚ := gc_h sh I J A) (C := (True ∧ True)) rfl ⟨trivial, trivial⟩ ?_
    refine gv_icmp_ne (t := 82) hD rfl rfl ⟨⟨by (/-105-/first | (have o1 := gz_sh f11; omega) | (simp only [gz_hd] at *; omega)), by (/-106-/first | (have o1 := gz_sh f11; omega) | (simp only [gz_hd] at *; omega))⟩, ⟨by (/-107-/first | omega | (simp only [gz_hd] at *; omega)), by (/-108-/first | omega | (simp only [gz_hd] at *; omega))⟩⟩ (fun c14 => ?_) (fun c14 => ?_)
    · show gv_X _ _ (82, [(0, .inr (.inr (some p))), (1, .inr (.inr (some a1))), (2, .inl a2), (3, .inr (.inr (some a3))), (4, .inl a4), (5, .inl a5)], [], sh, gc_h sh I J A)
      refine gv_run 1 true hD (pcₚ := 83) (lvₚ := [(0, .inr (.inr (some p))), (1, .inr (.inr (some a1))), (2, .inl a2), (3, .inr (.inr (some a3))), (4, .inl a4), (5, .inl a5)]) (stₚ := [.inr (.inr (some a1))]) (hₚ := gc_h sh I J A) (C := (True ∧ True)) rfl ⟨trivial, trivial⟩ ?_
      refine gv_get hD rfl rfl S_a1 ⟨by decide, (gz_sh B_a1)⟩ (gc_hA S_a1 rfl A_a1_7) ?_
      show gv_X _ _ (86, [(0, .inr (.inr (some p))), (1, .inr (.inr (some a1))), (2, .inl a2), (3, .inr (.inr (some a3))), (4, .inl a4), (5, .inl a5)], [.inr (.inr (some (a1 + 10)))], sh, gc_h sh I J A)
      refine gv_run 3 true hD (pcₚ := 89) (lvₚ := [(0, .inr (.inr (some p))), (1, .inr (.inr (some a1))), (2, .inl a2), (3, .inr (.inr (some a3))), (4, .inl a4), (5, .inl a5)]) (stₚ := [.inl (a2 + 2), .inr (.inr (some (a1 + 10)))]) (hₚ := gc_h sh I J A) (C := (((True ∧ True) ∧ True) ∧ True)) rfl ⟨⟨⟨trivial, trivial⟩, trivial⟩, trivial⟩ ?_
      have f15 := gz_hi ((show 0 ≤ I (a1 + 10) (Int.toNat (a2 + 2)) ∧ I (a1 + 10) (Int.toNat (a2 + 2)) ≤ 12 from ((fun hc => hc.elim (fun hc => (have h9 : 0 ≤ I (a1 + 10) (Int.toNat (a2 + 2)) ∧ I (a1 + 10) (Int.toNat (a2 + 2)) ≤ 12 := gc_inm hI (gz_sh R_a1_10) rfl rfl hc rfl rfl; ⟨by (/-109-/first | omega | (simp only [gz_hd] at *; omega)), by (/-110-/first | omega | (simp only [gz_hd] at *; omega))⟩)) (fun hc => hc.elim (fun hc => (have h9 : 0 ≤ I (a1 + 10) (Int.toNat (a2 + 2)) ∧ I (a1 + 10) (Int.toNat (a2 + 2)) ≤ 12 := gc_inm hI (gz_sh R_a1_10) rfl rfl hc rfl rfl; ⟨by (/-111-/first | omega | (simp only [gz_hd] at *; omega)), by (/-112-/first | omega | (simp only [gz_hd] at *; omega))⟩)) (fun hc => hc.elim (fun hc => (have h9 : 0 ≤ I (a1 + 10) (Int.toNat (a2 + 2)) ∧ I (a1 + 10) (Int.toNat (a2 + 2)) ≤ 12 := gc_inm hI (gz_sh R_a1_10) rfl rfl hc rfl rfl; ⟨by (/-113-/first | omega | (simp only [gz_hd] at *; omega)), by (/-114-/first | omega | (simp only [gz_hd] at *; omega))⟩)) (fun hc => hc.elim (fun hc => (have h9 : 0 ≤ I (a1 + 10) (Int.toNat (a2 + 2)) ∧ I (a1 + 10) (Int.toNat (a2 + 2)) ≤ 12 := gc_inm hI (gz_sh R_a1_10) rfl rfl hc rfl rfl; ⟨by (/-115-/first | omega | (simp only [gz_hd] at *; omega)), by (/-116-/first | omega | (simp only [gz_hd] at *; omega))⟩)) (fun hc => hc.elim (fun hc => (have h9 : 0 ≤ I (a1 + 10) (Int.toNat (a2 + 2)) ∧ I (a1 + 10) (Int.toNat (a2 + 2)) ≤ 12 := gc_inm hI (gz_sh R_a1_10) rfl rfl hc rfl rfl; ⟨by (/-117-/first | omega | (simp only [gz_hd] at *; omega)), by (/-118-/first | omega | (simp only [gz_hd] at *; omega))⟩)) (fun hc => hc.elim (fun hc => (have h9 : 0 ≤ I (a1 + 10) (Int.toNat (a2 + 2)) ∧ I (a1 + 10) (Int.toNat (a2 + 2)) ≤ 12 := gc_inm hI (gz_sh R_a1_10) rfl rfl hc rfl rfl; ⟨by (/-119-/first | omega | (simp only [gz_hd] at *; omega)), by (/-120-/first | omega | (simp only [gz_hd] at *; omega))⟩)) (fun hc => (have h9 : 0 ≤ I (a1 + 10) (Int.toNat (a2 + 2)) ∧ I (a1 + 10) (Int.toNat (a2 + 2)) ≤ 12 := gc_inm hI (gz_sh R_a1_10) rfl rfl hc rfl rfl; ⟨by (/-121-/first | omega | (simp only [gz_hd] at *; omega)), by (/-122-/first | omega | (simp only [gz_hd] at *; omega))⟩)))))))) (show (Int.toNat (a2 + 2)) % 25 = 2 ∨ (Int.toNat (a2 + 2)) % 25 = 9 ∨ (Int.toNat (a2 + 2)) % 25 = 12 ∨ (Int.toNat (a2 + 2)) % 25 = 15 ∨ (Int.toNat (a2 + 2)) % 25 = 18 ∨ (Int.toNat (a2 + 2)) % 25 = 21 ∨ (Int.toNat (a2 + 2)) % 25 = 24 from by (/-123-/first | (have o1 := gz_sh f11; omega) | (simp only [gz_hd] at *; omega))))))
      refine gv_iald hD rfl S_a1_10 rfl ⟨by decide, (gz_sh B_a1_10)⟩ ⟨by (/-124-/first | omega | (simp only [gz_hd] at *; omega)), by (/-125-/first | omega | (simp only [gz_hd] at *; omega))⟩ (gc_iI S_a1_10 rfl) ?_
      show gv_X _ _ (90, [(0, .inr (.inr (some p))), (1, .inr (.inr (some a1))), (2, .inl a2), (3, .inr (.inr (some a3))), (4, .inl a4), (5, .inl a5)], [.inl (I (a1 + 10) (Int.toNat (a2 + 2)))], sh, gc_h sh I J A)
      refine gv_run 2 true hD (pcₚ := 94) (lvₚ := [(6, .inl (I (a1 + 10) (Int.toNat (a2 + 2)))), (0, .inr (.inr (some p))), (1, .inr (.inr (some a1))), (2, .inl a2), (3, .inr (.inr (some a3))), (4, .inl a4), (5, .inl a5)]) (stₚ := [.inl a4]) (hₚ := gc_h sh I J A) (C := ((True ∧ True) ∧ True)) rfl ⟨⟨trivial, trivial⟩, trivial⟩ ?_
      refine gv_if_lt (t := 107) hD rfl rfl ⟨by (/-126-/first | omega | (simp only [gz_hd] at *; omega)), by (/-127-/first | omega | (simp only [gz_hd] at *; omega))⟩ (fun c16 => ?_) (fun c16 => ?_)
      · show gv_X _ _ (107, [(6, .inl (I (a1 + 10) (Int.toNat (a2 + 2)))), (0, .inr (.inr (some p))), (1, .inr (.inr (some a1))), (2, .inl a2), (3, .inr (.inr (some a3))), (4, .inl a4), (5, .inl a5)], [], sh, gc_h sh I J A)
        refine gv_pick [] rfl ?_
        exact L107 (so_fits_ln (so_ci_l c12 c14 (by (/-128-/first | omega | (simp only [gz_hd] at *; omega)))) (by (/-129-/first | omega | (simp only [gz_hd] at *; omega))))
      · show gv_X _ _ (97, [(6, .inl (I (a1 + 10) (Int.toNat (a2 + 2)))), (0, .inr (.inr (some p))), (1, .inr (.inr (some a1))), (2, .inl a2), (3, .inr (.inr (some a3))), (4, .inl a4), (5, .inl a5)], [], sh, gc_h sh I J A)
        refine gv_run 4 true hD (pcₚ := 104) (lvₚ := [(6, .inl (I (a1 + 10) (Int.toNat (a2 + 2)))), (0, .inr (.inr (some p))), (1, .inr (.inr (some a1))), (2, .inl a2), (3, .inr (.inr (some a3))), (4, .inl a4), (5, .inl a5)]) (stₚ := [.inl a5, .inl (a4 + (I (a1 + 10) (Int.toNat (a2 + 2))))]) (hₚ := gc_h sh I J A) (C := ((((True ∧ True) ∧ True) ∧ True) ∧ True)) rfl ⟨⟨⟨⟨trivial, trivial⟩, trivial⟩, trivial⟩, trivial⟩ ?_
        refine gv_icmp_le (t := 109) hD rfl rfl ⟨⟨by (/-130-/first | (have o1 := gz_sh f15; omega) | (simp only [gz_hd] at *; omega)), by (/-131-/first | (have o1 := gz_sh f15; omega) | (simp only [gz_hd] at *; omega))⟩, ⟨by (/-132-/first | omega | (simp only [gz_hd] at *; omega)), by (/-133-/first | omega | (simp only [gz_hd] at *; omega))⟩⟩ (fun c17 => ?_) (fun c17 => ?_)
        · show gv_X _ _ (109, [(6, .inl (I (a1 + 10) (Int.toNat (a2 + 2)))), (0, .inr (.inr (some p))), (1, .inr (.inr (some a1))), (2, .inl a2), (3, .inr (.inr (some a3))), (4, .inl a4), (5, .inl a5)], [], sh, gc_h sh I J A)
          refine gv_run 2 true hD (pcₚ := 112) (lvₚ := [(7, .inl 0), (6, .inl (I (a1 + 10) (Int.toNat (a2 + 2)))), (0, .inr (.inr (some p))), (1, .inr (.inr (some a1))), (2, .inl a2), (3, .inr (.inr (some a3))), (4, .inl a4), (5, .inl a5)]) (stₚ := []) (hₚ := gc_h sh I J A) (C := ((True ∧ True) ∧ True)) rfl ⟨⟨trivial, trivial⟩, trivial⟩ ?_
          refine gv_pick [2, 3, 4, 5, 6, 1, 0] rfl ?_
          exact L112 _ (I (a1 + 10) (Int.toNat (a2 + 2))) 0 (Nat.lt_succ_self _) (by (/-134-/first | (and_intros; (omega); (omega); (omega); (omega); (have o1 := gz_sh f15; omega); (have o1 := gz_sh f15; omega); (omega); (omega); (omega); (omega)) | (simp only [gz_hd] at *; omega))) ⟨⟨rfl, c12, c14⟩, fun i a c => absurd c (by (/-135-/first | omega | (simp only [gz_hd] at *; omega)))⟩
        · show gv_X _ _ (107, [(6, .inl (I (a1 + 10) (Int.toNat (a2 + 2)))), (0, .inr (.inr (some p))), (1, .inr (.inr (some a1))), (2, .inl a2), (3, .inr (.inr (some a3))), (4, .inl a4), (5, .inl a5)], [], sh, gc_h sh I J A)
          refine gv_pick [] rfl ?_
          exact L107 (so_fits_lx (so_ci_l c12 c14 (by (/-136-/first | omega | (simp only [gz_hd] at *; omega)))) (Or.inl (by (/-137-/first | omega | (simp only [gz_hd] at *; omega)))))
    · show gv_X _ _ (34, [(0, .inr (.inr (some p))), (1, .inr (.inr (some a1))), (2, .inl a2), (3, .inr (.inr (some a3))), (4, .inl a4), (5, .inl a5)], [], sh, gc_h sh I J A)
      refine gv_run 1 true hD (pcₚ := 36) (lvₚ := [(0, .inr (.inr (some p))), (1, .inr (.inr (some a1))), (2, .inl a2), (3, .inr (.inr (some a3))), (4, .inl a4), (5, .inl a5)]) (stₚ := [.inl a4]) (hₚ := gc_h sh I J A) (C := (True ∧ True)) rfl ⟨trivial, trivial⟩ ?_
      refine gv_if_lt (t := 80) hD rfl rfl ⟨by (/-138-/first | omega | (simp only [gz_hd] at *; omega)), by (/-139-/first | omega | (simp only [gz_hd] at *; omega))⟩ (fun c18 => ?_) (fun c18 => ?_)
      · show gv_X _ _ (80, [(0, .inr (.inr (some p))), (1, .inr (.inr (some a1))), (2, .inl a2), (3, .inr (.inr (some a3))), (4, .inl a4), (5, .inl a5)], [], sh, gc_h sh I J A)
        refine gv_pick [] rfl ?_
        exact L80 (so_fits_cx (so_ci_c c14 (by (/-140-/first | omega | (simp only [gz_hd] at *; omega)))) (Or.inl (by (/-141-/first | omega | (simp only [gz_hd] at *; omega)))))
      · show gv_X _ _ (39, [(0, .inr (.inr (some p))), (1, .inr (.inr (some a1))), (2, .inl a2), (3, .inr (.inr (some a3))), (4, .inl a4), (5, .inl a5)], [], sh, gc_h sh I J A)
        refine gv_run 2 true hD (pcₚ := 43) (lvₚ := [(0, .inr (.inr (some p))), (1, .inr (.inr (some a1))), (2, .inl a2), (3, .inr (.inr (some a3))), (4, .inl a4), (5, .inl a5)]) (stₚ := [.inl a5, .inl a4]) (hₚ := gc_h sh I J A) (C := ((True ∧ True) ∧ True)) rfl ⟨⟨trivial, trivial⟩, trivial⟩ ?_
        refine gv_icmp_ge (t := 80) hD rfl rfl ⟨⟨by (/-142-/first | omega | (simp only [gz_hd] at *; omega)), by (/-143-/first | omega | (simp only [gz_hd] at *; omega))⟩, ⟨by (/-144-/first | omega | (simp only [gz_hd] at *; omega)), by (/-145-/first | omega | (simp only [gz_hd] at *; omega))⟩⟩ (fun c19 => ?_) (fun c19 => ?_)
        · show gv_X _ _ (80, [(0, .inr (.inr (some p))), (1, .inr (.inr (some a1))), (2, .inl a2), (3, .inr (.inr (some a3))), (4, .inl a4), (5, .inl a5)], [], sh, gc_h sh I J A)
          refine gv_pick [] rfl ?_
          exact L80 (so_fits_cx (so_ci_c c14 (by (/-146-/first | omega | (simp only [gz_hd] at *; omega)))) (Or.inl (by (/-147-/first | omega | (simp only [gz_hd] at *; omega)))))
        · show gv_X _ _ (46, [(0, .inr (.inr (some p))), (1, .inr (.inr (some a1))), (2, .inl a2), (3, .inr (.inr (some a3))), (4, .inl a4), (5, .inl a5)], [], sh, gc_h sh I J A)
          refine gv_run 1 true hD (pcₚ := 47) (lvₚ := [(0, .inr (.inr (some p))), (1, .inr (.inr (some a1))), (2, .inl a2), (3, .inr (.inr (some a3))), (4, .inl a4), (5, .inl a5)]) (stₚ := [.inr (.inr (some a1))]) (hₚ := gc_h sh I J A) (C := (True ∧ True)) rfl ⟨trivial, trivial⟩ ?_
          refine gv_get hD rfl rfl S_a1 ⟨by decide, (gz_sh B_a1)⟩ (gc_hA S_a1 rfl A_a1_5) ?_
          show gv_X _ _ (50, [(0, .inr (.inr (some p))), (1, .inr (.inr (some a1))), (2, .inl a2), (3, .inr (.inr (some a3))), (4, .inl a4), (5, .inl a5)], [.inr (.inr (some (a1 + 9)))], sh, gc_h sh I J A)
          refine gv_run 1 true hD (pcₚ := 51) (lvₚ := [(0, .inr (.inr (some p))), (1, .inr (.inr (some a1))), (2, .inl a2), (3, .inr (.inr (some a3))), (4, .inl a4), (5, .inl a5)]) (stₚ := [.inr (.inr (some a1)), .inr (.inr (some (a1 + 9)))]) (hₚ := gc_h sh I J A) (C := (True ∧ True)) rfl ⟨trivial, trivial⟩ ?_
          refine gv_get hD rfl rfl S_a1 ⟨by decide, (gz_sh B_a1)⟩ (gc_hA S_a1 rfl A_a1_7) ?_
          show gv_X _ _ (54, [(0, .inr (.inr (some p))), (1, .inr (.inr (some a1))), (2, .inl a2), (3, .inr (.inr (some a3))), (4, .inl a4), (5, .inl a5)], [.inr (.inr (some (a1 + 10))), .inr (.inr (some (a1 + 9)))], sh, gc_h sh I J A)
          refine gv_run 3 true hD (pcₚ := 57) (lvₚ := [(0, .inr (.inr (some p))), (1, .inr (.inr (some a1))), (2, .inl a2), (3, .inr (.inr (some a3))), (4, .inl a4), (5, .inl a5)]) (stₚ := [.inl (a2 + 1), .inr (.inr (some (a1 + 10))), .inr (.inr (some (a1 + 9)))]) (hₚ := gc_h sh I J A) (C := (((True ∧ True) ∧ True) ∧ True)) rfl ⟨⟨⟨trivial, trivial⟩, trivial⟩, trivial⟩ ?_
          have f20 := gz_hi ((show 0 ≤ I (a1 + 10) (Int.toNat (a2 + 1)) ∧ I (a1 + 10) (Int.toNat (a2 + 1)) ≤ 2000 from ((fun hc => hc.elim (fun hc => (have h9 : 0 ≤ I (a1 + 10) (Int.toNat (a2 + 1)) ∧ I (a1 + 10) (Int.toNat (a2 + 1)) ≤ 2000 := gc_inm hI (gz_sh R_a1_10) rfl rfl hc rfl rfl; ⟨by (/-148-/first | omega | (simp only [gz_hd] at *; omega)), by (/-149-/first | omega | (simp only [gz_hd] at *; omega))⟩)) (fun hc => hc.elim (fun hc => (have h9 : 0 ≤ I (a1 + 10) (Int.toNat (a2 + 1)) ∧ I (a1 + 10) (Int.toNat (a2 + 1)) ≤ 2000 := gc_inm hI (gz_sh R_a1_10) rfl rfl hc rfl rfl; ⟨by (/-150-/first | omega | (simp only [gz_hd] at *; omega)), by (/-151-/first | omega | (simp only [gz_hd] at *; omega))⟩)) (fun hc => hc.elim (fun hc => (have h9 : 0 ≤ I (a1 + 10) (Int.toNat (a2 + 1)) ∧ I (a1 + 10) (Int.toNat (a2 + 1)) ≤ 2000 := gc_inm hI (gz_sh R_a1_10) rfl rfl hc rfl rfl; ⟨by (/-152-/first | omega | (simp only [gz_hd] at *; omega)), by (/-153-/first | omega | (simp only [gz_hd] at *; omega))⟩)) (fun hc => hc.elim (fun hc => (have h9 : 0 ≤ I (a1 + 10) (Int.toNat (a2 + 1)) ∧ I (a1 + 10) (Int.toNat (a2 + 1)) ≤ 2000 := gc_inm hI (gz_sh R_a1_10) rfl rfl hc rfl rfl; ⟨by (/-154-/first | omega | (simp only [gz_hd] at *; omega)), by (/-155-/first | omega | (simp only [gz_hd] at *; omega))⟩)) (fun hc => hc.elim (fun hc => (have h9 : 0 ≤ I (a1 + 10) (Int.toNat (a2 + 1)) ∧ I (a1 + 10) (Int.toNat (a2 + 1)) ≤ 2000 := gc_inm hI (gz_sh R_a1_10) rfl rfl hc rfl rfl; ⟨by (/-156-/first | omega | (simp only [gz_hd] at *; omega)), by (/-157-/first | omega | (simp only [gz_hd] at *; omega))⟩)) (fun hc => hc.elim (fun hc => (have h9 : 0 ≤ I (a1 + 10) (Int.toNat (a2 + 1)) ∧ I (a1 + 10) (Int.toNat (a2 + 1)) ≤ 2000 := gc_inm hI (gz_sh R_a1_10) rfl rfl hc rfl rfl; ⟨by (/-158-/first | omega | (simp only [gz_hd] at *; omega)), by (/-159-/first | omega | (simp only [gz_hd] at *; omega))⟩)) (fun hc => (have h9 : 0 ≤ I (a1 + 10) (Int.toNat (a2 + 1)) ∧ I (a1 + 10) (Int.toNat (a2 + 1)) ≤ 2000 := gc_inm hI (gz_sh R_a1_10) rfl rfl hc rfl rfl; ⟨by (/-160-/first | omega | (simp only [gz_hd] at *; omega)), by (/-161-/first | omega | (simp only [gz_hd] at *; omega))⟩)))))))) (show (Int.toNat (a2 + 1)) % 25 = 1 ∨ (Int.toNat (a2 + 1)) % 25 = 8 ∨ (Int.toNat (a2 + 1)) % 25 = 11 ∨ (Int.toNat (a2 + 1)) % 25 = 14 ∨ (Int.toNat (a2 + 1)) % 25 = 17 ∨ (Int.toNat (a2 + 1)) % 25 = 20 ∨ (Int.toNat (a2 + 1)) % 25 = 23 from by (/-162-/first | omega | (simp only [gz_hd] at *; omega))))))
          refine gv_iald hD rfl S_a1_10 rfl ⟨by decide, (gz_sh B_a1_10)⟩ ⟨by (/-163-/first | omega | (simp only [gz_hd] at *; omega)), by (/-164-/first | omega | (simp only [gz_hd] at *; omega))⟩ (gc_iI S_a1_10 rfl) ?_
          show gv_X _ _ (58, [(0, .inr (.inr (some p))), (1, .inr (.inr (some a1))), (2, .inl a2), (3, .inr (.inr (some a3))), (4, .inl a4), (5, .inl a5)], [.inl (I (a1 + 10) (Int.toNat (a2 + 1))), .inr (.inr (some (a1 + 9)))], sh, gc_h sh I J A)
          refine gv_iald hD rfl S_a1_9 rfl ⟨by decide, (gz_sh B_a1_9)⟩ ⟨by (/-165-/first | (have o1 := gz_sh f20; omega) | (simp only [gz_hd] at *; omega)), by (/-166-/first | omega | (simp only [gz_hd] at *; omega))⟩ (gc_iI S_a1_9 rfl) ?_
          show gv_X _ _ (59, [(0, .inr (.inr (some p))), (1, .inr (.inr (some a1))), (2, .inl a2), (3, .inr (.inr (some a3))), (4, .inl a4), (5, .inl a5)], [.inl (I (a1 + 9) (Int.toNat ((I (a1 + 10) (Int.toNat (a2 + 1))))))], sh, gc_h sh I J A)
          refine gv_run 2 true hD (pcₚ := 62) (lvₚ := [(0, .inr (.inr (some p))), (1, .inr (.inr (some a1))), (2, .inl a2), (3, .inr (.inr (some a3))), (4, .inl a4), (5, .inl a5)]) (stₚ := [.inl a4, .inr (.inr (some a3)), .inl (I (a1 + 9) (Int.toNat ((I (a1 + 10) (Int.toNat (a2 + 1))))))]) (hₚ := gc_h sh I J A) (C := ((True ∧ True) ∧ True)) rfl ⟨⟨trivial, trivial⟩, trivial⟩ ?_
          refine gv_bald hD rfl S_a3 (Or.inl rfl) ⟨by (/-167-/first | omega | (simp only [gz_hd] at *; omega)), B_a3⟩ ⟨by (/-168-/first | omega | (simp only [gz_hd] at *; omega)), by (/-169-/first | omega | (simp only [gz_hd] at *; omega))⟩ (gc_iI S_a3 rfl) ?_
          show gv_X _ _ (63, [(0, .inr (.inr (some p))), (1, .inr (.inr (some a1))), (2, .inl a2), (3, .inr (.inr (some a3))), (4, .inl a4), (5, .inl a5)], [.inl (I a3 (Int.toNat a4)), .inl (I (a1 + 9) (Int.toNat ((I (a1 + 10) (Int.toNat (a2 + 1))))))], sh, gc_h sh I J A)
          have f24 := gz_hi (gw_and (x := (((Int32.ofInt ((I (a1 + 9) (Int.toNat ((I (a1 + 10) (Int.toNat (a2 + 1))))))) >>> (Int32.ofInt (((I a3 (Int.toNat a4)) - 97)) &&& 31)).toInt))) (y := 1) ⟨by (/-170-/first | omega | (simp only [gz_hd] at *; omega)), by (/-171-/first | omega | (simp only [gz_hd] at *; omega))⟩)
          refine gv_run 6 true hD (pcₚ := 70) (lvₚ := [(0, .inr (.inr (some p))), (1, .inr (.inr (some a1))), (2, .inl a2), (3, .inr (.inr (some a3))), (4, .inl a4), (5, .inl a5)]) (stₚ := [.inl 1, .inl ((Int32.ofInt (((Int32.ofInt ((I (a1 + 9) (Int.toNat ((I (a1 + 10) (Int.toNat (a2 + 1))))))) >>> (Int32.ofInt (((I a3 (Int.toNat a4)) - 97)) &&& 31)).toInt)) &&& Int32.ofInt 1).toInt)]) (hₚ := gc_h sh I J A) (C := ((((((True ∧ True) ∧ True) ∧ True) ∧ True) ∧ True) ∧ True)) rfl ⟨⟨⟨⟨⟨⟨trivial, trivial⟩, trivial⟩, trivial⟩, trivial⟩, trivial⟩, trivial⟩ ?_
          refine gv_icmp_ne (t := 80) hD rfl rfl ⟨⟨by (/-172-/first | (have o1 := gz_sh f24; omega) | (simp only [gz_hd] at *; omega)), by (/-173-/first | (have o1 := gz_sh f24; omega) | (simp only [gz_hd] at *; omega))⟩, ⟨by (/-174-/first | omega | (simp only [gz_hd] at *; omega)), by (/-175-/first | omega | (simp only [gz_hd] at *; omega))⟩⟩ (fun c25 => ?_) (fun c25 => ?_)
          · show gv_X _ _ (80, [(0, .inr (.inr (some p))), (1, .inr (.inr (some a1))), (2, .inl a2), (3, .inr (.inr (some a3))), (4, .inl a4), (5, .inl a5)], [], sh, gc_h sh I J A)
            refine gv_pick [] rfl ?_
            exact L80 (so_fits_cx (so_ci_c c14 (by (/-176-/first | omega | (simp only [gz_hd] at *; omega)))) (Or.inr (by rw [show (so_b a5 (I a3)) a4 = I a3 (Int.toNat a4) from so_cut_i (by (/-177-/first | omega | (simp only [gz_hd] at *; omega))) (by (/-178-/first | omega | (simp only [gz_hd] at *; omega)))]; exact c25)))
          · show gv_X _ _ (73, [(0, .inr (.inr (some p))), (1, .inr (.inr (some a1))), (2, .inl a2), (3, .inr (.inr (some a3))), (4, .inl a4), (5, .inl a5)], [], sh, gc_h sh I J A)
            refine gv_run 4 true hD (pcₚ := 81) (lvₚ := [(0, .inr (.inr (some p))), (1, .inr (.inr (some a1))), (2, .inl a2), (3, .inr (.inr (some a3))), (4, .inl a4), (5, .inl a5)]) (stₚ := [.inl (a4 + 1)]) (hₚ := gc_h sh I J A) (C := ((((True ∧ True) ∧ True) ∧ True) ∧ True)) rfl ⟨⟨⟨⟨trivial, trivial⟩, trivial⟩, trivial⟩, trivial⟩ ?_
            refine gv_pick [] rfl ?_
            exact L81 (a4 + 1) (by (/-179-/first | (and_intros <;> omega) | (simp only [gz_hd] at *; omega))) (Or.inl ⟨by (/-180-/first | omega | (simp only [gz_hd] at *; omega)), so_fits_c (so_ci_c c14 (by (/-181-/first | omega | (simp only [gz_hd] at *; omega)))) ⟨by (/-182-/first | omega | (simp only [gz_hd] at *; omega)), by (/-183-/first | omega | (simp only [gz_hd] at *; omega))⟩ (by rw [show (so_b a5 (I a3)) a4 = I a3 (Int.toNat a4) from so_cut_i (by (/-184-/first | omega | (simp only [gz_hd] at *; omega))) (by (/-185-/first | omega | (simp only [gz_hd] at *; omega)))]; exact c25)⟩)
  · show gv_X _ _ (10, [(0, .inr (.inr (some p))), (1, .inr (.inr (some a1))), (2, .inl a2), (3, .inr (.inr (some a3))), (4, .inl a4), (5, .inl a5)], [], sh, gc_h sh I J A)
    refine gv_run 2 true hD (pcₚ := 14) (lvₚ := [(0, .inr (.inr (some p))), (1, .inr (.inr (some a1))), (2, .inl a2), (3, .inr (.inr (some a3))), (4, .inl a4), (5, .inl a5)]) (stₚ := [.inl a5, .inl a4]) (hₚ := gc_h sh I J A) (C := ((True ∧ True) ∧ True)) rfl ⟨⟨trivial, trivial⟩, trivial⟩ ?_
    refine gv_icmp_ne (t := 22) hD rfl rfl ⟨⟨by (/-186-/first | omega | (simp only [gz_hd] at *; omega)), by (/-187-/first | omega | (simp only [gz_hd] at *; omega))⟩, ⟨by (/-188-/first | omega | (simp only [gz_hd] at *; omega)), by (/-189-/first | omega | (simp only [gz_hd] at *; omega))⟩⟩ (fun c26 => ?_) (fun c26 => ?_)
    · show gv_X _ _ (22, [(0, .inr (.inr (some p))), (1, .inr (.inr (some a1))), (2, .inl a2), (3, .inr (.inr (some a3))), (4, .inl a4), (5, .inl a5)], [], sh, gc_h sh I J A)
      refine gv_run 1 true hD (pcₚ := 23) (lvₚ := [(0, .inr (.inr (some p))), (1, .inr (.inr (some a1))), (2, .inl a2), (3, .inr (.inr (some a3))), (4, .inl a4), (5, .inl a5)]) (stₚ := [.inl (-1)]) (hₚ := gc_h sh I J A) (C := (True ∧ True)) rfl ⟨trivial, trivial⟩ ?_
      refine gv_pick [] rfl ?_
      exact L23 (-1) (by (/-190-/first | (and_intros <;> omega) | (simp only [gz_hd] at *; omega))) (Or.inr ⟨by decide, so_fits_ex (so_ci_b c12) c26⟩)
    · show gv_X _ _ (17, [(0, .inr (.inr (some p))), (1, .inr (.inr (some a1))), (2, .inl a2), (3, .inr (.inr (some a3))), (4, .inl a4), (5, .inl a5)], [], sh, gc_h sh I J A)
      refine gv_run 2 true hD (pcₚ := 23) (lvₚ := [(0, .inr (.inr (some p))), (1, .inr (.inr (some a1))), (2, .inl a2), (3, .inr (.inr (some a3))), (4, .inl a4), (5, .inl a5)]) (stₚ := [.inl a4]) (hₚ := gc_h sh I J A) (C := ((True ∧ True) ∧ True)) rfl ⟨⟨trivial, trivial⟩, trivial⟩ ?_
      refine gv_pick [] rfl ?_
      exact L23 a4 (by (/-191-/first | (and_intros <;> omega) | (simp only [gz_hd] at *; omega))) (Or.inl ⟨by (/-192-/first | omega | (simp only [gz_hd] at *; omega)), so_fits_e (so_ci_b c12) c26⟩)
set_option maxHeartbeats 8000000 in
set_option maxRecDepth 100000 in
theorem d_X2_leftFits_p {ws0 : List Cond} {tb : String → gz_T} (hws : gc_Ws ws0) (htb : gc_tbs tb) (sh : gz_Sh) (ro : Nat → Nat) (I : gr_I) (J : gr_J) (A : gc_A) (hI : gc_Inv ro I) (p : Nat) (a1 : Nat) (a2 : Int) (a3 : Int) (hp : gc_isForms sh ro A p) (h_a1 : gc_isTongue sh ro A a1) (G_a1 : 144 ≤ a1) (ha2 : 0 ≤ a2 ∧ a2 ≤ 575) (ha3 : 0 ≤ a3 ∧ a3 ≤ 24) (x0 : a2 % 25 = 0) (x1 : gc_sc (a1 + 10) I) : ∃ r hₚ, gz_Ev ws0 tb 2 (yX2_leftFits, cX2_leftFits, 8, (some .boolean)) [.inr (.inr (some p)), .inr (.inr (some a1)), .inl a2, .inl a3] sh (gc_h sh I J A) r sh hₚ 0 0 ∧ (hₚ = gc_h sh I J A ∧ (∃ z : Int, r = some (.inl z) ∧ 0 ≤ z ∧ z ≤ 1 ∧ ((z = 1 ∧ so_left (fun k : Nat => so_ci I a1 (a2 + 7 + 3 * (k : Int))) (so_b a3 (I (so_fb I p 7))) (Int.toNat (I (a1 + 10) (Int.toNat (a2 + 5)))) a3) ∨ (z = 0 ∧ ¬ so_left (fun k : Nat => so_ci I a1 (a2 + 7 + 3 * (k : Int))) (so_b a3 (I (so_fb I p 7))) (Int.toNat (I (a1 + 10) (Int.toNat (a2 + 5)))) a3)))) := by
  obtain ⟨S_p, R_p, B_p, A_p_0, S_20, R_20, B_20, A_p_1, S_p_1, R_p_1, B_p_1, A_p_2, S_p_2, R_p_2, B_p_2, A_p_3, S_p_3, R_p_3, B_p_3, A_p_4, S_p_4, R_p_4, B_p_4, A_p_5, S_p_5, R_p_5, B_p_5, S_p_6, R_p_6, B_p_6, S_p_7, R_p_7, B_p_7⟩ := id hp
  replace R_p := gz_hi R_p
  replace B_p := gz_hi B_p
  replace R_20 := gz_hi R_20
  replace B_20 := gz_hi B_20
  replace R_p_1 := gz_hi R_p_1
  replace B_p_1 := gz_hi B_p_1
  replace R_p_2 := gz_hi R_p_2
  replace B_p_2 := gz_hi B_p_2
  replace R_p_3 := gz_hi R_p_3
  replace B_p_3 := gz_hi B_p_3
  replace R_p_4 := gz_hi R_p_4
  replace B_p_4 := gz_hi B_p_4
  replace R_p_5 := gz_hi R_p_5
  replace B_p_5 := gz_hi B_p_5
  replace R_p_6 := gz_hi R_p_6
  replace B_p_6 := gz_hi B_p_6
  replace R_p_7 := gz_hi R_p_7
  replace B_p_7 := gz_hi B_p_7
  obtain ⟨S_a1, R_a1, B_a1, A_a1_0, h_a1_1, A_a1_1, h_a1_3, A_a1_2, S_a1_5, R_a1_5, B_a1_5, A_a1_3, S_a1_6, R_a1_6, B_a1_6, A_a1_4, h_a1_7, A_a1_5, S_a1_9, R_a1_9, B_a1_9, A_a1_7, S_a1_10, R_a1_10, B_a1_10, A_a1_8, h_a1_11, A_a1_9, S_a1_13, R_a1_13, B_a1_13, A_a1_10, S_a1_14, R_a1_14, B_a1_14, A_a1_12, S_a1_15, R_a1_15, B_a1_15, A_a1_14, S_a1_16, R_a1_16, B_a1_16, A_a1_15, h_a1_17⟩ := id h_a1
  replace R_a1 := gz_hi R_a1
  replace B_a1 := gz_hi B_a1
  replace R_a1_5 := gz_hi R_a1_5
  replace B_a1_5 := gz_hi B_a1_5
  replace R_a1_6 := gz_hi R_a1_6
  replace B_a1_6 := gz_hi B_a1_6
  replace R_a1_9 := gz_hi R_a1_9
  replace B_a1_9 := gz_hi B_a1_9
  replace R_a1_10 := gz_hi R_a1_10
  replace B_a1_10 := gz_hi B_a1_10
  replace R_a1_13 := gz_hi R_a1_13
  replace B_a1_13 := gz_hi B_a1_13
  replace R_a1_14 := gz_hi R_a1_14
  replace B_a1_14 := gz_hi B_a1_14
  replace R_a1_15 := gz_hi R_a1_15
  replace B_a1_15 := gz_hi B_a1_15
  replace R_a1_16 := gz_hi R_a1_16
  replace B_a1_16 := gz_hi B_a1_16
  obtain ⟨S_a1_1, R_a1_1, B_a1_1, A_a1_1_0, S_a1_1_1, R_a1_1_1, B_a1_1_1, Q0_a1_1, Q1_a1_1, Q2_a1_1⟩ := id h_a1_1
  replace R_a1_1 := gz_hi R_a1_1
  replace B_a1_1 := gz_hi B_a1_1
  replace R_a1_1_1 := gz_hi R_a1_1_1
  replace B_a1_1_1 := gz_hi B_a1_1_1
  obtain ⟨S_a1_3, R_a1_3, B_a1_3, A_a1_3_0, S_a1_3_1, R_a1_3_1, B_a1_3_1, Q0_a1_3, Q1_a1_3, Q2_a1_3⟩ := id h_a1_3
  replace R_a1_3 := gz_hi R_a1_3
  replace B_a1_3 := gz_hi B_a1_3
  replace R_a1_3_1 := gz_hi R_a1_3_1
  replace B_a1_3_1 := gz_hi B_a1_3_1
  obtain ⟨S_a1_7, R_a1_7, B_a1_7, A_a1_7_0, S_a1_7_1, R_a1_7_1, B_a1_7_1, Q0_a1_7, Q1_a1_7, Q2_a1_7⟩ := id h_a1_7
  replace R_a1_7 := gz_hi R_a1_7
  replace B_a1_7 := gz_hi B_a1_7
  replace R_a1_7_1 := gz_hi R_a1_7_1
  replace B_a1_7_1 := gz_hi B_a1_7_1
  obtain ⟨S_a1_11, R_a1_11, B_a1_11, A_a1_11_0, S_a1_11_1, R_a1_11_1, B_a1_11_1, Q0_a1_11, Q1_a1_11, Q2_a1_11⟩ := id h_a1_11
  replace R_a1_11 := gz_hi R_a1_11
  replace B_a1_11 := gz_hi B_a1_11
  replace R_a1_11_1 := gz_hi R_a1_11_1
  replace B_a1_11_1 := gz_hi B_a1_11_1
  obtain ⟨S_a1_17, R_a1_17, B_a1_17, A_a1_17_0, S_20, R_20, B_20, A_a1_17_1, S_a1_17_1, R_a1_17_1, B_a1_17_1, A_a1_17_2, S_a1_17_2, R_a1_17_2, B_a1_17_2, A_a1_17_3, S_a1_17_3, R_a1_17_3, B_a1_17_3, A_a1_17_4, S_a1_17_4, R_a1_17_4, B_a1_17_4, A_a1_17_5, S_a1_17_5, R_a1_17_5, B_a1_17_5, S_a1_17_6, R_a1_17_6, B_a1_17_6, S_a1_17_7, R_a1_17_7, B_a1_17_7⟩ := id h_a1_17
  replace R_a1_17 := gz_hi R_a1_17
  replace B_a1_17 := gz_hi B_a1_17
  replace R_20 := gz_hi R_20
  replace B_20 := gz_hi B_20
  replace R_a1_17_1 := gz_hi R_a1_17_1
  replace B_a1_17_1 := gz_hi B_a1_17_1
  replace R_a1_17_2 := gz_hi R_a1_17_2
  replace B_a1_17_2 := gz_hi B_a1_17_2
  replace R_a1_17_3 := gz_hi R_a1_17_3
  replace B_a1_17_3 := gz_hi B_a1_17_3
  replace R_a1_17_4 := gz_hi R_a1_17_4
  replace B_a1_17_4 := gz_hi B_a1_17_4
  replace R_a1_17_5 := gz_hi R_a1_17_5
  replace B_a1_17_5 := gz_hi B_a1_17_5
  replace R_a1_17_6 := gz_hi R_a1_17_6
  replace B_a1_17_6 := gz_hi B_a1_17_6
  replace R_a1_17_7 := gz_hi R_a1_17_7
  replace B_a1_17_7 := gz_hi B_a1_17_7
  have hD : gv_D (gc_E2 ws0 tb 1 (yX2_leftFits, cX2_leftFits, 8, (some .boolean)) kX2_leftFits) := gq_of oX2_leftFits
  refine gc_ev2 (d := 1) (l := kX2_leftFits) (Po := fun r hₚ => (hₚ = gc_h sh I J A ∧ (∃ z : Int, r = some (.inl z) ∧ 0 ≤ z ∧ z ≤ 1 ∧ ((z = 1 ∧ so_left (fun k : Nat => so_ci I a1 (a2 + 7 + 3 * (k : Int))) (so_b a3 (I (so_fb I p 7))) (Int.toNat (I (a1 + 10) (Int.toNat (a2 + 5)))) a3) ∨ (z = 0 ∧ ¬ so_left (fun k : Nat => so_ci I a1 (a2 + 7 + 3 * (k : Int))) (so_b a3 (I (so_fb I p 7))) (Int.toNat (I (a1 + 10) (Int.toNat (a2 + 5)))) a3))))) htb rfl (Nat.le_of_ble_eq_true rfl) ?_
  have L15 : ∀ (n9 : Nat) (v4_1 : Int) (v5_1 : Int), (v5_1 - (-2)).toNat < n9 → ((0 ≤ a2 ∧ a2 ≤ 575) ∧ (0 ≤ a3 ∧ a3 ≤ 24) ∧ (0 ≤ v4_1 ∧ v4_1 ≤ 24) ∧ ((-1) ≤ v5_1 ∧ v5_1 ≤ 2)) → (v4_1 ≤ a3 ∧ (so_left (fun k : Nat => so_ci I a1 (a2 + 7 + 3 * (k : Int))) (so_b a3 (I (so_fb I p 7))) (Int.toNat (v5_1 + 1)) v4_1 ↔ so_left (fun k : Nat => so_ci I a1 (a2 + 7 + 3 * (k : Int))) (so_b a3 (I (so_fb I p 7))) (Int.toNat (I (a1 + 10) (Int.toNat (a2 + 5)))) a3)) → gv_X (gc_E2 ws0 tb 1 (yX2_leftFits, cX2_leftFits, 8, (some .boolean)) kX2_leftFits) (gv_Q cX2_leftFits (some .boolean) sh (fun r hₚ => (hₚ = gc_h sh I J A ∧ (∃ z : Int, r = some (.inl z) ∧ 0 ≤ z ∧ z ≤ 1 ∧ ((z = 1 ∧ so_left (fun k : Nat => so_ci I a1 (a2 + 7 + 3 * (k : Int))) (so_b a3 (I (so_fb I p 7))) (Int.toNat (I (a1 + 10) (Int.toNat (a2 + 5)))) a3) ∨ (z = 0 ∧ ¬ so_left (fun k : Nat => so_ci I a1 (a2 + 7 + 3 * (k : Int))) (so_b a3 (I (so_fb I p 7))) (Int.toNat (I (a1 + 10) (Int.toNat (a2 + 5)))) a3)))))) (15, [(0, .inr (.inr (some p))), (1, .inr (.inr (some a1))), (2, .inl a2), (3, .inl a3), (4, .inl v4_1), (5, .inl v5_1)], [], sh, gc_h sh I J A) := by
    intro n9
    induction n9 with
    | zero => intro v4_1 v5_1 hn; (/-0-/first | omega | (simp only [gz_hd] at *; omega))
    | succ n9 ih15 =>
      intro v4_1 v5_1 hn m_1 k_1
      obtain ⟨ha2_1, ha3_1, hv4_1, hv5_1⟩ := gz_h4 m_1
      have L111 : ∀ (v4_2 : Int), ((0 ≤ a2 ∧ a2 ≤ 575) ∧ (0 ≤ a3 ∧ a3 ≤ 24) ∧ (0 ≤ v4_2 ∧ v4_2 ≤ 24) ∧ (0 ≤ v5_1 ∧ v5_1 ≤ 2)) → (v4_2 ≤ a3 ∧ (so_left (fun k : Nat => so_ci I a1 (a2 + 7 + 3 * (k : Int))) (so_b a3 (I (so_fb I p 7))) (Int.toNat v5_1) v4_2 ↔ so_left (fun k : Nat => so_ci I a1 (a2 + 7 + 3 * (k : Int))) (so_b a3 (I (so_fb I p 7))) (Int.toNat (I (a1 + 10) (Int.toNat (a2 + 5)))) a3)) → gv_X (gc_E2 ws0 tb 1 (yX2_leftFits, cX2_leftFits, 8, (some .boolean)) kX2_leftFits) (gv_Q cX2_leftFits (some .boolean) sh (fun r hₚ => (hₚ = gc_h sh I J A ∧ (∃ z : Int, r = some (.inl z) ∧ 0 ≤ z ∧ z ≤ 1 ∧ ((z = 1 ∧ so_left (fun k : Nat => so_ci I a1 (a2 + 7 + 3 * (k : Int))) (so_b a3 (I (so_fb I p 7))) (Int.toNat (I (a1 + 10) (Int.toNat (a2 + 5)))) a3) ∨ (z = 0 ∧ ¬ so_left (fun k : Nat => so_ci I a1 (a2 + 7 + 3 * (k : Int))) (so_b a3 (I (so_fb I p 7))) (Int.toNat (I (a1 + 10) (Int.toNat (a2 + 5)))) a3)))))) (111, [(0, .inr (.inr (some p))), (1, .inr (.inr (some a1))), (2, .inl a2), (3, .inl a3), (4, .inl v4_2), (5, .inl v5_1)], [], sh, gc_h sh I J A) := by
        intro v4_2 m_2 k_2
        obtain ⟨ha2_2, ha3_2, hv4_2, hv5_1_2⟩ := gz_h4 m_2
        refine gv_run 2 true hD (pcₚ := 15) (lvₚ := [(5, .inl (v5_1 + (-1))), (0, .inr (.inr (some p))), (1, .inr (.inr (some a1))), (2, .inl a2), (3, .inl a3), (4, .inl v4_2)]) (stₚ := []) (hₚ := gc_h sh I J A) (C := ((True ∧ True) ∧ True)) rfl ⟨⟨trivial, trivial⟩, trivial⟩ ?_
        refine gv_pick [1, 2, 3, 4, 5, 0] rfl ?_
        exact ih15 v4_2 ((v5_1 + (-1))) (by (/-1-/first | (have o1 := gz_sh hv5_1; have o2 := gz_sh hv5_1_2; omega) | (simp only [gz_hd] at *; omega))) (by (/-2-/first | (and_intros; (omega); (omega); (omega); (omega); (have o1 := gz_sh hv4_2; omega); (have o1 := gz_sh hv4_2; omega); (have o1 := gz_sh hv5_1_2; omega); (have o1 := gz_sh hv5_1; omega)) | (simp only [gz_hd] at *; omega))) ⟨k_2.1, by rw [show Int.toNat (v5_1 + (-1) + 1) = Int.toNat v5_1 from by (/-3-/first | omega | (simp only [gz_hd] at *; omega))]; exact k_2.2⟩
      have L73 : ∀ (v6_3 : Int) (s0_3 : Int), ((0 ≤ a2 ∧ a2 ≤ 575) ∧ (0 ≤ a3 ∧ a3 ≤ 24) ∧ (0 ≤ v4_1 ∧ v4_1 ≤ 24) ∧ (0 ≤ v5_1 ∧ v5_1 ≤ 2) ∧ (7 ≤ v6_3 ∧ v6_3 ≤ 588) ∧ (0 ≤ s0_3 ∧ s0_3 ≤ 12) ∧ (v6_3 = a2 + 7 + 3 * v5_1)) → so_L (so_ci I a1 v6_3) s0_3 → gv_X (gc_E2 ws0 tb 1 (yX2_leftFits, cX2_leftFits, 8, (some .boolean)) kX2_leftFits) (gv_Q cX2_leftFits (some .boolean) sh (fun r hₚ => (hₚ = gc_h sh I J A ∧ (∃ z : Int, r = some (.inl z) ∧ 0 ≤ z ∧ z ≤ 1 ∧ ((z = 1 ∧ so_left (fun k : Nat => so_ci I a1 (a2 + 7 + 3 * (k : Int))) (so_b a3 (I (so_fb I p 7))) (Int.toNat (I (a1 + 10) (Int.toNat (a2 + 5)))) a3) ∨ (z = 0 ∧ ¬ so_left (fun k : Nat => so_ci I a1 (a2 + 7 + 3 * (k : Int))) (so_b a3 (I (so_fb I p 7))) (Int.toNat (I (a1 + 10) (Int.toNat (a2 + 5)))) a3)))))) (73, [(0, .inr (.inr (some p))), (1, .inr (.inr (some a1))), (2, .inl a2), (3, .inl a3), (4, .inl v4_1), (5, .inl v5_1), (6, .inl v6_3)], [.inl s0_3], sh, gc_h sh I J A) := by
        intro v6_3 s0_3 m_3 k_3
        obtain ⟨ha2_3, ha3_3, hv4_1_3, hv5_1_3, hv6_3, hs0_3, e0_3⟩ := gz_h7 m_3
        have w_3 : (fun k : Nat => so_ci I a1 (a2 + 7 + 3 * (k : Int))) (Int.toNat v5_1) = so_ci I a1 v6_3 := by
          show so_ci I a1 (a2 + 7 + 3 * ((Int.toNat v5_1 : Nat) : Int)) = _
          rw [show a2 + 7 + 3 * ((Int.toNat v5_1 : Nat) : Int) = v6_3 from by (/-4-/first | (have o1 := gz_sh e0_3; have o2 := gz_sh hv5_1_3; omega) | (simp only [gz_hd] at *; omega))]
        have l_3 : so_L ((fun k : Nat => so_ci I a1 (a2 + 7 + 3 * (k : Int))) (Int.toNat v5_1)) s0_3 := by
          rw [w_3]
          exact k_3
        have d_3 : so_left (fun k : Nat => so_ci I a1 (a2 + 7 + 3 * (k : Int))) (so_b a3 (I (so_fb I p 7))) ((Int.toNat v5_1) + 1) v4_1 ↔ so_left (fun k : Nat => so_ci I a1 (a2 + 7 + 3 * (k : Int))) (so_b a3 (I (so_fb I p 7))) (Int.toNat (I (a1 + 10) (Int.toNat (a2 + 5)))) a3 := by
          rw [show Int.toNat v5_1 + 1 = Int.toNat (v5_1 + 1) from by (/-5-/first | (have o1 := gz_sh hv5_1; have o2 := gz_sh hv5_1_3; omega) | (simp only [gz_hd] at *; omega))]
          exact k_1.2
        have L109 : ¬ so_left (fun k : Nat => so_ci I a1 (a2 + 7 + 3 * (k : Int))) (so_b a3 (I (so_fb I p 7))) (Int.toNat (I (a1 + 10) (Int.toNat (a2 + 5)))) a3 → gv_X (gc_E2 ws0 tb 1 (yX2_leftFits, cX2_leftFits, 8, (some .boolean)) kX2_leftFits) (gv_Q cX2_leftFits (some .boolean) sh (fun r hₚ => (hₚ = gc_h sh I J A ∧ (∃ z : Int, r = some (.inl z) ∧ 0 ≤ z ∧ z ≤ 1 ∧ ((z = 1 ∧ so_left (fun k : Nat => so_ci I a1 (a2 + 7 + 3 * (k : Int))) (so_b a3 (I (so_fb I p 7))) (Int.toNat (I (a1 + 10) (Int.toNat (a2 + 5)))) a3) ∨ (z = 0 ∧ ¬ so_left (fun k : Nat => so_ci I a1 (a2 + 7 + 3 * (k : Int))) (so_b a3 (I (so_fb I p 7))) (Int.toNat (I (a1 + 10) (Int.toNat (a2 + 5)))) a3)))))) (109, [], [], sh, gc_h sh I J A) := by
          intro n_109
          refine gv_run 1 true hD (pcₚ := 110) (lvₚ := []) (stₚ := [.inl 0]) (hₚ := gc_h sh I J A) (C := (True ∧ True)) rfl ⟨trivial, trivial⟩ ?_
          exact gv_zret hD rfl (by (/-6-/first | omega | (simp only [gz_hd] at *; omega))) ⟨rfl, ⟨_, rfl, by (/-7-/first | omega | (simp only [gz_hd] at *; omega)), by (/-8-/first | omega | (simp only [gz_hd] at *; omega)), Or.inr ⟨rfl, n_109⟩⟩⟩
        have t5 := gz_hi ((show v5_1 = 0 ∨ v5_1 = 1 ∨ v5_1 = 2 from by (/-9-/first | (have o1 := gz_sh hv5_1; have o2 := gz_sh hv5_1_3; omega) | (simp only [gz_hd] at *; omega))))
        refine gv_run 6 true hD (pcₚ := 84) (lvₚ := [(4, .inl (v4_1 - s0_3)), (7, .inl s0_3), (0, .inr (.inr (some p))), (1, .inr (.inr (some a1))), (2, .inl a2), (3, .inl a3), (5, .inl v5_1), (6, .inl v6_3)]) (stₚ := [.inl (v4_1 - s0_3)]) (hₚ := gc_h sh I J A) (C := ((((((True ∧ True) ∧ True) ∧ True) ∧ True) ∧ True) ∧ True)) rfl ⟨⟨⟨⟨⟨⟨trivial, trivial⟩, trivial⟩, trivial⟩, trivial⟩, trivial⟩, trivial⟩ ?_
        refine gv_if_lt (t := 109) hD rfl rfl ⟨by (/-10-/first | (have o1 := gz_sh hs0_3; have o2 := gz_sh hv4_1; omega) | (simp only [gz_hd] at *; omega)), by (/-11-/first | (have o1 := gz_sh hs0_3; have o2 := gz_sh hv4_1; omega) | (simp only [gz_hd] at *; omega))⟩ (fun c6 => ?_) (fun c6 => ?_)
        · show gv_X _ _ (109, [(4, .inl (v4_1 - s0_3)), (7, .inl s0_3), (0, .inr (.inr (some p))), (1, .inr (.inr (some a1))), (2, .inl a2), (3, .inl a3), (5, .inl v5_1), (6, .inl v6_3)], [], sh, gc_h sh I J A)
          refine gv_pick [] rfl ?_
          exact L109 (fun g => so_lf_n (R := (fun k : Nat => so_ci I a1 (a2 + 7 + 3 * (k : Int)))) (j := (Int.toNat v5_1)) (w := (so_b a3 (I (so_fb I p 7)))) (z := 0) l_3 k_1.1 (Or.inl (by (/-12-/first | omega | (simp only [gz_hd] at *; omega)))) (d_3.mpr g))
        · show gv_X _ _ (87, [(4, .inl (v4_1 - s0_3)), (7, .inl s0_3), (0, .inr (.inr (some p))), (1, .inr (.inr (some a1))), (2, .inl a2), (3, .inl a3), (5, .inl v5_1), (6, .inl v6_3)], [], sh, gc_h sh I J A)
          refine gv_run 4 true hD (pcₚ := 92) (lvₚ := [(4, .inl (v4_1 - s0_3)), (7, .inl s0_3), (0, .inr (.inr (some p))), (1, .inr (.inr (some a1))), (2, .inl a2), (3, .inl a3), (5, .inl v5_1), (6, .inl v6_3)]) (stₚ := [.inr (.inr (some p)), .inl v6_3, .inr (.inr (some a1)), .inr (.inr (some p))]) (hₚ := gc_h sh I J A) (C := ((((True ∧ True) ∧ True) ∧ True) ∧ True)) rfl ⟨⟨⟨⟨trivial, trivial⟩, trivial⟩, trivial⟩, trivial⟩ ?_
          have f8 := gz_hi ((show 0 ≤ I p 7 ∧ I p 7 ≤ 1 from gc_in2 hI (gz_sh R_p) rfl rfl rfl))
          obtain ⟨f7_, hq_f7_, S_f7, R_f7, B_f7, D_f7⟩ := gc_sw (p := p) (d := 6) (s := 1) (z := I p 7) (show 0 ≤ I p 7 ∧ I p 7 ≤ 1 from gc_in2 hI (gz_sh R_p) rfl rfl rfl) S_p_6 (gz_sh R_p_6) (gz_sh B_p_6) S_p_7 (gz_sh R_p_7) (gz_sh B_p_7)
          refine gv_get hD rfl rfl S_p ⟨by decide, (gz_sh B_p)⟩ (gc_hS (n := 6) S_p rfl hq_f7_) ?_
          show gv_X _ _ (95, [(4, .inl (v4_1 - s0_3)), (7, .inl s0_3), (0, .inr (.inr (some p))), (1, .inr (.inr (some a1))), (2, .inl a2), (3, .inl a3), (5, .inl v5_1), (6, .inl v6_3)], [.inr (.inr (some f7_)), .inl v6_3, .inr (.inr (some a1)), .inr (.inr (some p))], sh, gc_h sh I J A)
          refine gv_run 2 true hD (pcₚ := 98) (lvₚ := [(4, .inl (v4_1 - s0_3)), (7, .inl s0_3), (0, .inr (.inr (some p))), (1, .inr (.inr (some a1))), (2, .inl a2), (3, .inl a3), (5, .inl v5_1), (6, .inl v6_3)]) (stₚ := [.inl a3, .inl (v4_1 - s0_3), .inr (.inr (some f7_)), .inl v6_3, .inr (.inr (some a1)), .inr (.inr (some p))]) (hₚ := gc_h sh I J A) (C := ((True ∧ True) ∧ True)) rfl ⟨⟨trivial, trivial⟩, trivial⟩ ?_
          obtain ⟨r9, h9, E9, P9⟩ := d_X2_fitsAt_p (ws0 := ws0) (tb := tb) hws htb sh ro I J A hI p 24 a1 v6_3 f7_ (v4_1 - s0_3) a3 hp h_a1 G_a1 S_f7 R_f7 B_f7 (by decide)  ⟨by (/-13-/first | (have o1 := gz_sh hv6_3; omega) | (simp only [gz_hd] at *; omega)), by (/-14-/first | (have o1 := gz_sh hv6_3; omega) | (simp only [gz_hd] at *; omega))⟩ ⟨by (/-15-/first | omega | (simp only [gz_hd] at *; omega)), by (/-16-/first | (have o1 := gz_sh hs0_3; have o2 := gz_sh hv4_1; omega) | (simp only [gz_hd] at *; omega))⟩ ⟨by (/-17-/first | omega | (simp only [gz_hd] at *; omega)), by (/-18-/first | omega | (simp only [gz_hd] at *; omega))⟩ (by (/-19-/first | omega | (simp only [gz_hd] at *; omega))) (by (/-20-/first | (have o1 := gz_sh e0_3; have o2 := gz_sh f8; have o3 := gz_sh t5; omega) | (simp only [gz_hd] at *; omega))) (x1 _ (by (/-21-/first | (have o1 := gz_sh hv6_3; omega) | (simp only [gz_hd] at *; omega))) (by (/-22-/first | (have o1 := gz_sh hv6_3; omega) | (simp only [gz_hd] at *; omega))) (by (/-23-/first | (have o1 := gz_sh e0_3; have o2 := gz_sh f8; have o3 := gz_sh t5; omega) | (simp only [gz_hd] at *; omega)))) 
          obtain ⟨rfl, ⟨z9, rfl, q9⟩⟩ := P9
          replace q9 := gz_hi q9
          refine gv_callV hD rfl (As := [.inr (.inr (some a1)), .inl v6_3, .inr (.inr (some f7_)), .inl (v4_1 - s0_3), .inl a3]) (st := []) rfl (gz_sh B_p) S_p rfl (gc_lV2 hws rfl) (Nat.le_of_ble_eq_true rfl) (gz_Ev_mono (d := 1) (by decide) E9) ?_
          show gv_X _ _ (101, [(4, .inl (v4_1 - s0_3)), (7, .inl s0_3), (0, .inr (.inr (some p))), (1, .inr (.inr (some a1))), (2, .inl a2), (3, .inl a3), (5, .inl v5_1), (6, .inl v6_3)], [.inl z9], sh, gc_h sh I J A)
          refine gv_run 3 true hD (pcₚ := 106) (lvₚ := [(4, .inl (v4_1 - s0_3)), (7, .inl s0_3), (0, .inr (.inr (some p))), (1, .inr (.inr (some a1))), (2, .inl a2), (3, .inl a3), (5, .inl v5_1), (6, .inl v6_3)]) (stₚ := [.inl ((v4_1 - s0_3) + s0_3), .inl z9]) (hₚ := gc_h sh I J A) (C := (((True ∧ True) ∧ True) ∧ True)) rfl ⟨⟨⟨trivial, trivial⟩, trivial⟩, trivial⟩ ?_
          refine gv_icmp_eq (t := 111) hD rfl rfl ⟨⟨by (/-24-/first | (have o1 := gz_sh q9; omega) | (simp only [gz_hd] at *; omega)), by (/-25-/first | (have o1 := gz_sh q9; omega) | (simp only [gz_hd] at *; omega))⟩, ⟨by (/-26-/first | (have o1 := gz_sh hs0_3; omega) | (simp only [gz_hd] at *; omega)), by (/-27-/first | (have o1 := gz_sh hv4_1; omega) | (simp only [gz_hd] at *; omega))⟩⟩ (fun c10 => ?_) (fun c10 => ?_)
          · show gv_X _ _ (111, [(4, .inl (v4_1 - s0_3)), (7, .inl s0_3), (0, .inr (.inr (some p))), (1, .inr (.inr (some a1))), (2, .inl a2), (3, .inl a3), (5, .inl v5_1), (6, .inl v6_3)], [], sh, gc_h sh I J A)
            refine gv_pick [2, 3, 4, 5, 0, 6] rfl ?_
            exact L111 (v4_1 - s0_3) (by (/-28-/first | (and_intros; (omega); (omega); (omega); (omega); (omega); (have o1 := gz_sh hs0_3; have o2 := gz_sh hv4_1; omega); (have o1 := gz_sh hv5_1_3; omega); (have o1 := gz_sh hv5_1; omega)) | (simp only [gz_hd] at *; omega))) ⟨by have h9 := k_1.1; (/-29-/first | (have o1 := gz_sh hs0_3; omega) | (simp only [gz_hd] at *; omega)), (so_lf_y (R := (fun k : Nat => so_ci I a1 (a2 + 7 + 3 * (k : Int)))) (j := (Int.toNat v5_1)) (w := (so_b a3 (I (so_fb I p 7)))) l_3 (show so_End ((fun k : Nat => so_ci I a1 (a2 + 7 + 3 * (k : Int))) (Int.toNat v5_1)) (so_b a3 (I (so_fb I p 7))) a3 (v4_1 - s0_3) z9 by rw [w_3]; have h9 := (gz_sh q9).2.2.2.2; rw [← hq_f7_] at h9; exact h9) c10 (by (/-30-/first | omega | (simp only [gz_hd] at *; omega))) (by (/-31-/first | (have o1 := gz_sh hs0_3; omega) | (simp only [gz_hd] at *; omega)))).symm.trans d_3⟩
          · show gv_X _ _ (109, [(4, .inl (v4_1 - s0_3)), (7, .inl s0_3), (0, .inr (.inr (some p))), (1, .inr (.inr (some a1))), (2, .inl a2), (3, .inl a3), (5, .inl v5_1), (6, .inl v6_3)], [], sh, gc_h sh I J A)
            refine gv_pick [] rfl ?_
            exact L109 (fun g => so_lf_n (R := (fun k : Nat => so_ci I a1 (a2 + 7 + 3 * (k : Int)))) (j := (Int.toNat v5_1)) (w := (so_b a3 (I (so_fb I p 7)))) (z := z9) l_3 k_1.1 (Or.inr ⟨(show so_End ((fun k : Nat => so_ci I a1 (a2 + 7 + 3 * (k : Int))) (Int.toNat v5_1)) (so_b a3 (I (so_fb I p 7))) a3 (v4_1 - s0_3) z9 by rw [w_3]; have h9 := (gz_sh q9).2.2.2.2; rw [← hq_f7_] at h9; exact h9), c10⟩) (d_3.mpr g))
      refine gv_run 1 true hD (pcₚ := 17) (lvₚ := [(0, .inr (.inr (some p))), (1, .inr (.inr (some a1))), (2, .inl a2), (3, .inl a3), (4, .inl v4_1), (5, .inl v5_1)]) (stₚ := [.inl v5_1]) (hₚ := gc_h sh I J A) (C := (True ∧ True)) rfl ⟨trivial, trivial⟩ ?_
      refine gv_if_lt (t := 117) hD rfl rfl ⟨by (/-32-/first | (have o1 := gz_sh hv5_1; omega) | (simp only [gz_hd] at *; omega)), by (/-33-/first | (have o1 := gz_sh hv5_1; omega) | (simp only [gz_hd] at *; omega))⟩ (fun c11 => ?_) (fun c11 => ?_)
      · show gv_X _ _ (117, [(0, .inr (.inr (some p))), (1, .inr (.inr (some a1))), (2, .inl a2), (3, .inl a3), (4, .inl v4_1), (5, .inl v5_1)], [], sh, gc_h sh I J A)
        refine gv_run 1 true hD (pcₚ := 118) (lvₚ := [(0, .inr (.inr (some p))), (1, .inr (.inr (some a1))), (2, .inl a2), (3, .inl a3), (4, .inl v4_1), (5, .inl v5_1)]) (stₚ := [.inl 1]) (hₚ := gc_h sh I J A) (C := (True ∧ True)) rfl ⟨trivial, trivial⟩ ?_
        exact gv_zret hD rfl (by (/-34-/first | omega | (simp only [gz_hd] at *; omega))) ⟨rfl, ⟨_, rfl, by (/-35-/first | omega | (simp only [gz_hd] at *; omega)), by (/-36-/first | omega | (simp only [gz_hd] at *; omega)), Or.inl ⟨rfl, k_1.2.mp (by rw [show Int.toNat (v5_1 + 1) = 0 from by (/-37-/first | (have o1 := gz_sh hv5_1; omega) | (simp only [gz_hd] at *; omega))]; trivial)⟩⟩⟩
      · show gv_X _ _ (20, [(0, .inr (.inr (some p))), (1, .inr (.inr (some a1))), (2, .inl a2), (3, .inl a3), (4, .inl v4_1), (5, .inl v5_1)], [], sh, gc_h sh I J A)
        have t12 := gz_hi ((show v5_1 = 0 ∨ v5_1 = 1 ∨ v5_1 = 2 from by (/-38-/first | (have o1 := gz_sh hv5_1; omega) | (simp only [gz_hd] at *; omega))))
        refine gv_run 7 true hD (pcₚ := 29) (lvₚ := [(0, .inr (.inr (some p))), (1, .inr (.inr (some a1))), (2, .inl a2), (3, .inl a3), (4, .inl v4_1), (5, .inl v5_1)]) (stₚ := [.inl ((a2 + 7) + (3 * v5_1))]) (hₚ := gc_h sh I J A) (C := (((((((True ∧ True) ∧ True) ∧ True) ∧ True) ∧ True) ∧ True) ∧ True)) rfl ⟨⟨⟨⟨⟨⟨⟨trivial, trivial⟩, trivial⟩, trivial⟩, trivial⟩, trivial⟩, trivial⟩, trivial⟩ ?_
        refine gv_run 2 true hD (pcₚ := 32) (lvₚ := [(6, .inl ((a2 + 7) + (3 * v5_1))), (0, .inr (.inr (some p))), (1, .inr (.inr (some a1))), (2, .inl a2), (3, .inl a3), (4, .inl v4_1), (5, .inl v5_1)]) (stₚ := [.inr (.inr (some a1))]) (hₚ := gc_h sh I J A) (C := ((True ∧ True) ∧ True)) rfl ⟨⟨trivial, trivial⟩, trivial⟩ ?_
        refine gv_get hD rfl rfl S_a1 ⟨by decide, (gz_sh B_a1)⟩ (gc_hA S_a1 rfl A_a1_7) ?_
        show gv_X _ _ (35, [(6, .inl ((a2 + 7) + (3 * v5_1))), (0, .inr (.inr (some p))), (1, .inr (.inr (some a1))), (2, .inl a2), (3, .inl a3), (4, .inl v4_1), (5, .inl v5_1)], [.inr (.inr (some (a1 + 10)))], sh, gc_h sh I J A)
        refine gv_run 1 true hD (pcₚ := 37) (lvₚ := [(6, .inl ((a2 + 7) + (3 * v5_1))), (0, .inr (.inr (some p))), (1, .inr (.inr (some a1))), (2, .inl a2), (3, .inl a3), (4, .inl v4_1), (5, .inl v5_1)]) (stₚ := [.inl ((a2 + 7) + (3 * v5_1)), .inr (.inr (some (a1 + 10)))]) (hₚ := gc_h sh I J A) (C := (True ∧ True)) rfl ⟨trivial, trivial⟩ ?_
        have f13 := gz_hi ((show 0 ≤ I (a1 + 10) (Int.toNat (((a2 + 7) + (3 * v5_1)))) ∧ I (a1 + 10) (Int.toNat (((a2 + 7) + (3 * v5_1)))) ≤ 2 from ((fun hc => hc.elim (fun hc => (have h9 : 0 ≤ I (a1 + 10) (Int.toNat (((a2 + 7) + (3 * v5_1)))) ∧ I (a1 + 10) (Int.toNat (((a2 + 7) + (3 * v5_1)))) ≤ 2 := gc_inm hI (gz_sh R_a1_10) rfl rfl hc rfl rfl; ⟨by (/-39-/first | omega | (simp only [gz_hd] at *; omega)), by (/-40-/first | omega | (simp only [gz_hd] at *; omega))⟩)) (fun hc => hc.elim (fun hc => (have h9 : 0 ≤ I (a1 + 10) (Int.toNat (((a2 + 7) + (3 * v5_1)))) ∧ I (a1 + 10) (Int.toNat (((a2 + 7) + (3 * v5_1)))) ≤ 2 := gc_inm hI (gz_sh R_a1_10) rfl rfl hc rfl rfl; ⟨by (/-41-/first | omega | (simp only [gz_hd] at *; omega)), by (/-42-/first | omega | (simp only [gz_hd] at *; omega))⟩)) (fun hc => (have h9 : 0 ≤ I (a1 + 10) (Int.toNat (((a2 + 7) + (3 * v5_1)))) ∧ I (a1 + 10) (Int.toNat (((a2 + 7) + (3 * v5_1)))) ≤ 2 := gc_inm hI (gz_sh R_a1_10) rfl rfl hc rfl rfl; ⟨by (/-43-/first | omega | (simp only [gz_hd] at *; omega)), by (/-44-/first | omega | (simp only [gz_hd] at *; omega))⟩)))) (show (Int.toNat (((a2 + 7) + (3 * v5_1)))) % 25 = 7 ∨ (Int.toNat (((a2 + 7) + (3 * v5_1)))) % 25 = 10 ∨ (Int.toNat (((a2 + 7) + (3 * v5_1)))) % 25 = 13 from by (/-45-/first | (have o1 := gz_sh hv5_1; have o2 := gz_sh t12; omega) | (simp only [gz_hd] at *; omega))))))
        refine gv_iald hD rfl S_a1_10 rfl ⟨by decide, (gz_sh B_a1_10)⟩ ⟨by (/-46-/first | omega | (simp only [gz_hd] at *; omega)), by (/-47-/first | (have o1 := gz_sh hv5_1; omega) | (simp only [gz_hd] at *; omega))⟩ (gc_iI S_a1_10 rfl) ?_
        show gv_X _ _ (38, [(6, .inl ((a2 + 7) + (3 * v5_1))), (0, .inr (.inr (some p))), (1, .inr (.inr (some a1))), (2, .inl a2), (3, .inl a3), (4, .inl v4_1), (5, .inl v5_1)], [.inl (I (a1 + 10) (Int.toNat (((a2 + 7) + (3 * v5_1)))))], sh, gc_h sh I J A)
        refine gv_run 1 true hD (pcₚ := 39) (lvₚ := [(6, .inl ((a2 + 7) + (3 * v5_1))), (0, .inr (.inr (some p))), (1, .inr (.inr (some a1))), (2, .inl a2), (3, .inl a3), (4, .inl v4_1), (5, .inl v5_1)]) (stₚ := [.inl 2, .inl (I (a1 + 10) (Int.toNat (((a2 + 7) + (3 * v5_1)))))]) (hₚ := gc_h sh I J A) (C := (True ∧ True)) rfl ⟨trivial, trivial⟩ ?_
        refine gv_icmp_ne (t := 49) hD rfl rfl ⟨⟨by (/-48-/first | (have o1 := gz_sh f13; omega) | (simp only [gz_hd] at *; omega)), by (/-49-/first | (have o1 := gz_sh f13; omega) | (simp only [gz_hd] at *; omega))⟩, ⟨by (/-50-/first | omega | (simp only [gz_hd] at *; omega)), by (/-51-/first | omega | (simp only [gz_hd] at *; omega))⟩⟩ (fun c14 => ?_) (fun c14 => ?_)
        · show gv_X _ _ (49, [(6, .inl ((a2 + 7) + (3 * v5_1))), (0, .inr (.inr (some p))), (1, .inr (.inr (some a1))), (2, .inl a2), (3, .inl a3), (4, .inl v4_1), (5, .inl v5_1)], [], sh, gc_h sh I J A)
          refine gv_run 1 true hD (pcₚ := 50) (lvₚ := [(6, .inl ((a2 + 7) + (3 * v5_1))), (0, .inr (.inr (some p))), (1, .inr (.inr (some a1))), (2, .inl a2), (3, .inl a3), (4, .inl v4_1), (5, .inl v5_1)]) (stₚ := [.inr (.inr (some a1))]) (hₚ := gc_h sh I J A) (C := (True ∧ True)) rfl ⟨trivial, trivial⟩ ?_
          refine gv_get hD rfl rfl S_a1 ⟨by decide, (gz_sh B_a1)⟩ (gc_hA S_a1 rfl A_a1_7) ?_
          show gv_X _ _ (53, [(6, .inl ((a2 + 7) + (3 * v5_1))), (0, .inr (.inr (some p))), (1, .inr (.inr (some a1))), (2, .inl a2), (3, .inl a3), (4, .inl v4_1), (5, .inl v5_1)], [.inr (.inr (some (a1 + 10)))], sh, gc_h sh I J A)
          refine gv_run 1 true hD (pcₚ := 55) (lvₚ := [(6, .inl ((a2 + 7) + (3 * v5_1))), (0, .inr (.inr (some p))), (1, .inr (.inr (some a1))), (2, .inl a2), (3, .inl a3), (4, .inl v4_1), (5, .inl v5_1)]) (stₚ := [.inl ((a2 + 7) + (3 * v5_1)), .inr (.inr (some (a1 + 10)))]) (hₚ := gc_h sh I J A) (C := (True ∧ True)) rfl ⟨trivial, trivial⟩ ?_
          refine gv_iald hD rfl S_a1_10 rfl ⟨by decide, (gz_sh B_a1_10)⟩ ⟨by (/-59-/first | omega | (simp only [gz_hd] at *; omega)), by (/-60-/first | (have o1 := gz_sh hv5_1; omega) | (simp only [gz_hd] at *; omega))⟩ (gc_iI S_a1_10 rfl) ?_
          show gv_X _ _ (56, [(6, .inl ((a2 + 7) + (3 * v5_1))), (0, .inr (.inr (some p))), (1, .inr (.inr (some a1))), (2, .inl a2), (3, .inl a3), (4, .inl v4_1), (5, .inl v5_1)], [.inl (I (a1 + 10) (Int.toNat (((a2 + 7) + (3 * v5_1)))))], sh, gc_h sh I J A)
          refine gv_run 1 true hD (pcₚ := 57) (lvₚ := [(6, .inl ((a2 + 7) + (3 * v5_1))), (0, .inr (.inr (some p))), (1, .inr (.inr (some a1))), (2, .inl a2), (3, .inl a3), (4, .inl v4_1), (5, .inl v5_1)]) (stₚ := [.inl 1, .inl (I (a1 + 10) (Int.toNat (((a2 + 7) + (3 * v5_1)))))]) (hₚ := gc_h sh I J A) (C := (True ∧ True)) rfl ⟨trivial, trivial⟩ ?_
          refine gv_icmp_ne (t := 64) hD rfl rfl ⟨⟨by (/-61-/first | (have o1 := gz_sh f13; omega) | (simp only [gz_hd] at *; omega)), by (/-62-/first | (have o1 := gz_sh f13; omega) | (simp only [gz_hd] at *; omega))⟩, ⟨by (/-63-/first | omega | (simp only [gz_hd] at *; omega)), by (/-64-/first | omega | (simp only [gz_hd] at *; omega))⟩⟩ (fun c16 => ?_) (fun c16 => ?_)
          · show gv_X _ _ (64, [(6, .inl ((a2 + 7) + (3 * v5_1))), (0, .inr (.inr (some p))), (1, .inr (.inr (some a1))), (2, .inl a2), (3, .inl a3), (4, .inl v4_1), (5, .inl v5_1)], [], sh, gc_h sh I J A)
            refine gv_run 1 true hD (pcₚ := 65) (lvₚ := [(6, .inl ((a2 + 7) + (3 * v5_1))), (0, .inr (.inr (some p))), (1, .inr (.inr (some a1))), (2, .inl a2), (3, .inl a3), (4, .inl v4_1), (5, .inl v5_1)]) (stₚ := [.inr (.inr (some a1))]) (hₚ := gc_h sh I J A) (C := (True ∧ True)) rfl ⟨trivial, trivial⟩ ?_
            refine gv_get hD rfl rfl S_a1 ⟨by decide, (gz_sh B_a1)⟩ (gc_hA S_a1 rfl A_a1_7) ?_
            show gv_X _ _ (68, [(6, .inl ((a2 + 7) + (3 * v5_1))), (0, .inr (.inr (some p))), (1, .inr (.inr (some a1))), (2, .inl a2), (3, .inl a3), (4, .inl v4_1), (5, .inl v5_1)], [.inr (.inr (some (a1 + 10)))], sh, gc_h sh I J A)
            refine gv_run 3 true hD (pcₚ := 72) (lvₚ := [(6, .inl ((a2 + 7) + (3 * v5_1))), (0, .inr (.inr (some p))), (1, .inr (.inr (some a1))), (2, .inl a2), (3, .inl a3), (4, .inl v4_1), (5, .inl v5_1)]) (stₚ := [.inl (((a2 + 7) + (3 * v5_1)) + 2), .inr (.inr (some (a1 + 10)))]) (hₚ := gc_h sh I J A) (C := (((True ∧ True) ∧ True) ∧ True)) rfl ⟨⟨⟨trivial, trivial⟩, trivial⟩, trivial⟩ ?_
            have f17 := gz_hi ((show 0 ≤ I (a1 + 10) (Int.toNat ((((a2 + 7) + (3 * v5_1)) + 2))) ∧ I (a1 + 10) (Int.toNat ((((a2 + 7) + (3 * v5_1)) + 2))) ≤ 12 from ((fun hc => hc.elim (fun hc => (have h9 : 0 ≤ I (a1 + 10) (Int.toNat ((((a2 + 7) + (3 * v5_1)) + 2))) ∧ I (a1 + 10) (Int.toNat ((((a2 + 7) + (3 * v5_1)) + 2))) ≤ 12 := gc_inm hI (gz_sh R_a1_10) rfl rfl hc rfl rfl; ⟨by (/-65-/first | omega | (simp only [gz_hd] at *; omega)), by (/-66-/first | omega | (simp only [gz_hd] at *; omega))⟩)) (fun hc => hc.elim (fun hc => (have h9 : 0 ≤ I (a1 + 10) (Int.toNat ((((a2 + 7) + (3 * v5_1)) + 2))) ∧ I (a1 + 10) (Int.toNat ((((a2 + 7) + (3 * v5_1)) + 2))) ≤ 12 := gc_inm hI (gz_sh R_a1_10) rfl rfl hc rfl rfl; ⟨by (/-67-/first | omega | (simp only [gz_hd] at *; omega)), by (/-68-/first | omega | (simp only [gz_hd] at *; omega))⟩)) (fun hc => (have h9 : 0 ≤ I (a1 + 10) (Int.toNat ((((a2 + 7) + (3 * v5_1)) + 2))) ∧ I (a1 + 10) (Int.toNat ((((a2 + 7) + (3 * v5_1)) + 2))) ≤ 12 := gc_inm hI (gz_sh R_a1_10) rfl rfl hc rfl rfl; ⟨by (/-69-/first | omega | (simp only [gz_hd] at *; omega)), by (/-70-/first | omega | (simp only [gz_hd] at *; omega))⟩)))) (show (Int.toNat ((((a2 + 7) + (3 * v5_1)) + 2))) % 25 = 9 ∨ (Int.toNat ((((a2 + 7) + (3 * v5_1)) + 2))) % 25 = 12 ∨ (Int.toNat ((((a2 + 7) + (3 * v5_1)) + 2))) % 25 = 15 from by (/-71-/first | (have o1 := gz_sh f13; have o2 := gz_sh hv5_1; have o3 := gz_sh t12; omega) | (simp only [gz_hd] at *; omega))))))
            refine gv_iald hD rfl S_a1_10 rfl ⟨by decide, (gz_sh B_a1_10)⟩ ⟨by (/-72-/first | omega | (simp only [gz_hd] at *; omega)), by (/-73-/first | (have o1 := gz_sh hv5_1; omega) | (simp only [gz_hd] at *; omega))⟩ (gc_iI S_a1_10 rfl) ?_
            show gv_X _ _ (73, [(6, .inl ((a2 + 7) + (3 * v5_1))), (0, .inr (.inr (some p))), (1, .inr (.inr (some a1))), (2, .inl a2), (3, .inl a3), (4, .inl v4_1), (5, .inl v5_1)], [.inl (I (a1 + 10) (Int.toNat ((((a2 + 7) + (3 * v5_1)) + 2))))], sh, gc_h sh I J A)
            refine gv_pick [1, 2, 3, 4, 5, 6, 0] rfl ?_
            exact L73 (((a2 + 7) + (3 * v5_1))) (I (a1 + 10) (Int.toNat (((a2 + 7) + (3 * v5_1)) + 2))) (by (/-74-/first | (and_intros; (omega); (omega); (omega); (omega); (have o1 := gz_sh hv4_1; omega); (have o1 := gz_sh hv4_1; omega); (omega); (have o1 := gz_sh hv5_1; omega); (omega); (have o1 := gz_sh hv5_1; omega); (have o1 := gz_sh f17; omega); (have o1 := gz_sh f17; omega); (omega)) | (simp only [gz_hd] at *; omega))) (so_L_l c14 c16 (by (/-75-/first | omega | (simp only [gz_hd] at *; omega))))
          · show gv_X _ _ (60, [(6, .inl ((a2 + 7) + (3 * v5_1))), (0, .inr (.inr (some p))), (1, .inr (.inr (some a1))), (2, .inl a2), (3, .inl a3), (4, .inl v4_1), (5, .inl v5_1)], [], sh, gc_h sh I J A)
            refine gv_run 2 true hD (pcₚ := 73) (lvₚ := [(6, .inl ((a2 + 7) + (3 * v5_1))), (0, .inr (.inr (some p))), (1, .inr (.inr (some a1))), (2, .inl a2), (3, .inl a3), (4, .inl v4_1), (5, .inl v5_1)]) (stₚ := [.inl 1]) (hₚ := gc_h sh I J A) (C := ((True ∧ True) ∧ True)) rfl ⟨⟨trivial, trivial⟩, trivial⟩ ?_
            refine gv_pick [1, 2, 3, 4, 5, 6, 0] rfl ?_
            exact L73 (((a2 + 7) + (3 * v5_1))) 1 (by (/-76-/first | (and_intros; (omega); (omega); (omega); (omega); (have o1 := gz_sh hv4_1; omega); (have o1 := gz_sh hv4_1; omega); (omega); (have o1 := gz_sh hv5_1; omega); (omega); (have o1 := gz_sh hv5_1; omega); (omega); (omega); (omega)) | (simp only [gz_hd] at *; omega))) (so_L_1 c16 (by (/-77-/first | omega | (simp only [gz_hd] at *; omega))))
        · show gv_X _ _ (42, [(6, .inl ((a2 + 7) + (3 * v5_1))), (0, .inr (.inr (some p))), (1, .inr (.inr (some a1))), (2, .inl a2), (3, .inl a3), (4, .inl v4_1), (5, .inl v5_1)], [], sh, gc_h sh I J A)
          refine gv_run 1 true hD (pcₚ := 44) (lvₚ := [(6, .inl ((a2 + 7) + (3 * v5_1))), (0, .inr (.inr (some p))), (1, .inr (.inr (some a1))), (2, .inl a2), (3, .inl a3), (4, .inl v4_1), (5, .inl v5_1)]) (stₚ := [.inl v4_1]) (hₚ := gc_h sh I J A) (C := (True ∧ True)) rfl ⟨trivial, trivial⟩ ?_
          refine gv_if_eq (t := 111) hD rfl rfl ⟨by (/-78-/first | (have o1 := gz_sh hv4_1; omega) | (simp only [gz_hd] at *; omega)), by (/-79-/first | (have o1 := gz_sh hv4_1; omega) | (simp only [gz_hd] at *; omega))⟩ (fun c18 => ?_) (fun c18 => ?_)
          · show gv_X _ _ (111, [(6, .inl ((a2 + 7) + (3 * v5_1))), (0, .inr (.inr (some p))), (1, .inr (.inr (some a1))), (2, .inl a2), (3, .inl a3), (4, .inl v4_1), (5, .inl v5_1)], [], sh, gc_h sh I J A)
            refine gv_pick [1, 2, 3, 4, 5, 6] rfl ?_
            exact L111 v4_1 (by (/-80-/first | (and_intros; (omega); (omega); (omega); (omega); (omega); (omega); (omega); (have o1 := gz_sh hv5_1; omega)) | (simp only [gz_hd] at *; omega))) ⟨k_1.1, (so_left_y (R := (fun k : Nat => so_ci I a1 (a2 + 7 + 3 * (k : Int)))) (so_back_e' (show (fun k : Nat => so_ci I a1 (a2 + 7 + 3 * (k : Int))) (Int.toNat v5_1) = (2, 0, fun _ => 0) from by show so_ci I a1 (a2 + 7 + 3 * ((Int.toNat v5_1 : Nat) : Int)) = _; rw [show a2 + 7 + 3 * ((Int.toNat v5_1 : Nat) : Int) = ((a2 + 7) + (3 * v5_1)) from by (/-81-/first | omega | (simp only [gz_hd] at *; omega))]; exact so_ci_b c14) c18)).symm.trans (show so_left (fun k : Nat => so_ci I a1 (a2 + 7 + 3 * (k : Int))) (so_b a3 (I (so_fb I p 7))) ((Int.toNat v5_1) + 1) v4_1 ↔ so_left (fun k : Nat => so_ci I a1 (a2 + 7 + 3 * (k : Int))) (so_b a3 (I (so_fb I p 7))) (Int.toNat (I (a1 + 10) (Int.toNat (a2 + 5)))) a3 by rw [show Int.toNat v5_1 + 1 = Int.toNat (v5_1 + 1) from by (/-82-/first | (have o1 := gz_sh hv5_1; omega) | (simp only [gz_hd] at *; omega))]; exact k_1.2)⟩
          · show gv_X _ _ (47, [(6, .inl ((a2 + 7) + (3 * v5_1))), (0, .inr (.inr (some p))), (1, .inr (.inr (some a1))), (2, .inl a2), (3, .inl a3), (4, .inl v4_1), (5, .inl v5_1)], [], sh, gc_h sh I J A)
            refine gv_run 1 true hD (pcₚ := 48) (lvₚ := [(6, .inl ((a2 + 7) + (3 * v5_1))), (0, .inr (.inr (some p))), (1, .inr (.inr (some a1))), (2, .inl a2), (3, .inl a3), (4, .inl v4_1), (5, .inl v5_1)]) (stₚ := [.inl 0]) (hₚ := gc_h sh I J A) (C := (True ∧ True)) rfl ⟨trivial, trivial⟩ ?_
            exact gv_zret hD rfl (by (/-83-/first | omega | (simp only [gz_hd] at *; omega))) ⟨rfl, ⟨_, rfl, by (/-84-/first | omega | (simp only [gz_hd] at *; omega)), by (/-85-/first | omega | (simp only [gz_hd] at *; omega)), Or.inr ⟨rfl, fun g => so_left_x (R := (fun k : Nat => so_ci I a1 (a2 + 7 + 3 * (k : Int)))) (so_back_ex (show (fun k : Nat => so_ci I a1 (a2 + 7 + 3 * (k : Int))) (Int.toNat v5_1) = (2, 0, fun _ => 0) from by show so_ci I a1 (a2 + 7 + 3 * ((Int.toNat v5_1 : Nat) : Int)) = _; rw [show a2 + 7 + 3 * ((Int.toNat v5_1 : Nat) : Int) = ((a2 + 7) + (3 * v5_1)) from by (/-86-/first | omega | (simp only [gz_hd] at *; omega))]; exact so_ci_b c14) c18) ((show so_left (fun k : Nat => so_ci I a1 (a2 + 7 + 3 * (k : Int))) (so_b a3 (I (so_fb I p 7))) ((Int.toNat v5_1) + 1) v4_1 ↔ so_left (fun k : Nat => so_ci I a1 (a2 + 7 + 3 * (k : Int))) (so_b a3 (I (so_fb I p 7))) (Int.toNat (I (a1 + 10) (Int.toNat (a2 + 5)))) a3 by rw [show Int.toNat v5_1 + 1 = Int.toNat (v5_1 + 1) from by (/-87-/first | (have o1 := gz_sh hv5_1; omega) | (simp only [gz_hd] at *; omega))]; exact k_1.2).mpr g)⟩⟩⟩
  refine gv_run 3 true hD (pcₚ := 4) (lvₚ := [(4, .inl a3), (0, .inr (.inr (some p))), (1, .inr (.inr (some a1))), (2, .inl a2), (3, .inl a3)]) (stₚ := [.inr (.inr (some a1))]) (hₚ := gc_h sh I J A) (C := (((True ∧ True) ∧ True) ∧ True)) rfl ⟨⟨⟨trivial, trivial⟩, trivial⟩, trivial⟩ ?_
  refine gv_get hD rfl rfl S_a1 ⟨by decide, (gz_sh B_a1)⟩ (gc_hA S_a1 rfl A_a1_7) ?_
  show gv_X _ _ (7, [(4, .inl a3), (0, .inr (.inr (some p))), (1, .inr (.inr (some a1))), (2, .inl a2), (3, .inl a3)], [.inr (.inr (some (a1 + 10)))], sh, gc_h sh I J A)
  refine gv_run 3 true hD (pcₚ := 10) (lvₚ := [(4, .inl a3), (0, .inr (.inr (some p))), (1, .inr (.inr (some a1))), (2, .inl a2), (3, .inl a3)]) (stₚ := [.inl (a2 + 5), .inr (.inr (some (a1 + 10)))]) (hₚ := gc_h sh I J A) (C := (((True ∧ True) ∧ True) ∧ True)) rfl ⟨⟨⟨trivial, trivial⟩, trivial⟩, trivial⟩ ?_
  have f19 := gz_hi ((show 0 ≤ I (a1 + 10) (Int.toNat (a2 + 5)) ∧ I (a1 + 10) (Int.toNat (a2 + 5)) ≤ 3 from gc_inm (c := 5) hI (gz_sh R_a1_10) rfl rfl (by (/-88-/first | omega | (simp only [gz_hd] at *; omega))) rfl rfl))
  refine gv_iald hD rfl S_a1_10 rfl ⟨by decide, (gz_sh B_a1_10)⟩ ⟨by (/-89-/first | omega | (simp only [gz_hd] at *; omega)), by (/-90-/first | omega | (simp only [gz_hd] at *; omega))⟩ (gc_iI S_a1_10 rfl) ?_
  show gv_X _ _ (11, [(4, .inl a3), (0, .inr (.inr (some p))), (1, .inr (.inr (some a1))), (2, .inl a2), (3, .inl a3)], [.inl (I (a1 + 10) (Int.toNat (a2 + 5)))], sh, gc_h sh I J A)
  refine gv_run 3 true hD (pcₚ := 15) (lvₚ := [(5, .inl ((I (a1 + 10) (Int.toNat (a2 + 5))) - 1)), (4, .inl a3), (0, .inr (.inr (some p))), (1, .inr (.inr (some a1))), (2, .inl a2), (3, .inl a3)]) (stₚ := []) (hₚ := gc_h sh I J A) (C := (((True ∧ True) ∧ True) ∧ True)) rfl ⟨⟨⟨trivial, trivial⟩, trivial⟩, trivial⟩ ?_
  refine gv_pick [2, 3, 4, 5, 1, 0] rfl ?_
  exact L15 _ a3 ((I (a1 + 10) (Int.toNat (a2 + 5))) - 1) (Nat.lt_succ_self _) (by (/-91-/first | (and_intros; (omega); (omega); (omega); (omega); (omega); (omega); (have o1 := gz_sh f19; omega); (have o1 := gz_sh f19; omega)) | (simp only [gz_hd] at *; omega))) ⟨Int.le_refl _, by rw [show Int.toNat (I (a1 + 10) (Int.toNat (a2 + 5)) - 1 + 1) = Int.toNat (I (a1 + 10) (Int.toNat (a2 + 5))) from by (/-92-/first | omega | (simp only [gz_hd] at *; omega))]⟩
set_option maxHeartbeats 8000000 in
set_option maxRecDepth 100000 in
theorem d_X2_rightFits_p {ws0 : List Cond} {tb : String → gz_T} (hws : gc_Ws ws0) (htb : gc_tbs tb) (sh : gz_Sh) (ro : Nat → Nat) (I : gr_I) (J : gr_J) (A : gc_A) (hI : gc_Inv ro I) (p : Nat) (a1 : Nat) (a2 : Int) (a3 : Int) (a4 : Int) (hp : gc_isForms sh ro A p) (h_a1 : gc_isTongue sh ro A a1) (G_a1 : 144 ≤ a1) (ha2 : 0 ≤ a2 ∧ a2 ≤ 575) (ha3 : 0 ≤ a3 ∧ a3 ≤ 60) (ha4 : 0 ≤ a4 ∧ a4 ≤ 24) (x0 : a2 % 25 = 0) (x1 : gc_sc (a1 + 10) I) : ∃ r hₚ, gz_Ev ws0 tb 2 (yX2_rightFits, cX2_rightFits, 7, (some .boolean)) [.inr (.inr (some p)), .inr (.inr (some a1)), .inl a2, .inl a3, .inl a4] sh (gc_h sh I J A) r sh hₚ 0 0 ∧ (hₚ = gc_h sh I J A ∧ (∃ z : Int, r = some (.inl z) ∧ 0 ≤ z ∧ z ≤ 1 ∧ ((z = 1 ∧ ∃ e, so_right (fun k : Nat => so_ci I a1 (a2 + 16 + 3 * (k : Int))) (so_b a4 (I (so_fb I p 6))) a4 (Int.toNat (I (a1 + 10) (Int.toNat (a2 + 6)))) a3 e) ∨ (z = 0 ∧ ∀ e, ¬ so_right (fun k : Nat => so_ci I a1 (a2 + 16 + 3 * (k : Int))) (so_b a4 (I (so_fb I p 6))) a4 (Int.toNat (I (a1 + 10) (Int.toNat (a2 + 6)))) a3 e)))) := by
  obtain ⟨S_p, R_p, B_p, A_p_0, S_20, R_20, B_20, A_p_1, S_p_1, R_p_1, B_p_1, A_p_2, S_p_2, R_p_2, B_p_2, A_p_3, S_p_3, R_p_3, B_p_3, A_p_4, S_p_4, R_p_4, B_p_4, A_p_5, S_p_5, R_p_5, B_p_5, S_p_6, R_p_6, B_p_6, S_p_7, R_p_7, B_p_7⟩ := id hp
  replace R_p := gz_hi R_p
  replace B_p := gz_hi B_p
  replace R_20 := gz_hi R_20
  replace B_20 := gz_hi B_20
  replace R_p_1 := gz_hi R_p_1
  replace B_p_1 := gz_hi B_p_1
  replace R_p_2 := gz_hi R_p_2
  replace B_p_2 := gz_hi B_p_2
  replace R_p_3 := gz_hi R_p_3
  replace B_p_3 := gz_hi B_p_3
  replace R_p_4 := gz_hi R_p_4
  replace B_p_4 := gz_hi B_p_4
  replace R_p_5 := gz_hi R_p_5
  replace B_p_5 := gz_hi B_p_5
  replace R_p_6 := gz_hi R_p_6
  replace B_p_6 := gz_hi B_p_6
  replace R_p_7 := gz_hi R_p_7
  replace B_p_7 := gz_hi B_p_7
  obtain ⟨S_a1, R_a1, B_a1, A_a1_0, h_a1_1, A_a1_1, h_a1_3, A_a1_2, S_a1_5, R_a1_5, B_a1_5, A_a1_3, S_a1_6, R_a1_6, B_a1_6, A_a1_4, h_a1_7, A_a1_5, S_a1_9, R_a1_9, B_a1_9, A_a1_7, S_a1_10, R_a1_10, B_a1_10, A_a1_8, h_a1_11, A_a1_9, S_a1_13, R_a1_13, B_a1_13, A_a1_10, S_a1_14, R_a1_14, B_a1_14, A_a1_12, S_a1_15, R_a1_15, B_a1_15, A_a1_14, S_a1_16, R_a1_16, B_a1_16, A_a1_15, h_a1_17⟩ := id h_a1
  replace R_a1 := gz_hi R_a1
  replace B_a1 := gz_hi B_a1
  replace R_a1_5 := gz_hi R_a1_5
  replace B_a1_5 := gz_hi B_a1_5
  replace R_a1_6 := gz_hi R_a1_6
  replace B_a1_6 := gz_hi B_a1_6
  replace R_a1_9 := gz_hi R_a1_9
  replace B_a1_9 := gz_hi B_a1_9
  replace R_a1_10 := gz_hi R_a1_10
  replace B_a1_10 := gz_hi B_a1_10
  replace R_a1_13 := gz_hi R_a1_13
  replace B_a1_13 := gz_hi B_a1_13
  replace R_a1_14 := gz_hi R_a1_14
  replace B_a1_14 := gz_hi B_a1_14
  replace R_a1_15 := gz_hi R_a1_15
  replace B_a1_15 := gz_hi B_a1_15
  replace R_a1_16 := gz_hi R_a1_16
  replace B_a1_16 := gz_hi B_a1_16
  obtain ⟨S_a1_1, R_a1_1, B_a1_1, A_a1_1_0, S_a1_1_1, R_a1_1_1, B_a1_1_1, Q0_a1_1, Q1_a1_1, Q2_a1_1⟩ := id h_a1_1
  replace R_a1_1 := gz_hi R_a1_1
  replace B_a1_1 := gz_hi B_a1_1
  replace R_a1_1_1 := gz_hi R_a1_1_1
  replace B_a1_1_1 := gz_hi B_a1_1_1
  obtain ⟨S_a1_3, R_a1_3, B_a1_3, A_a1_3_0, S_a1_3_1, R_a1_3_1, B_a1_3_1, Q0_a1_3, Q1_a1_3, Q2_a1_3⟩ := id h_a1_3
  replace R_a1_3 := gz_hi R_a1_3
  replace B_a1_3 := gz_hi B_a1_3
  replace R_a1_3_1 := gz_hi R_a1_3_1
  replace B_a1_3_1 := gz_hi B_a1_3_1
  obtain ⟨S_a1_7, R_a1_7, B_a1_7, A_a1_7_0, S_a1_7_1, R_a1_7_1, B_a1_7_1, Q0_a1_7, Q1_a1_7, Q2_a1_7⟩ := id h_a1_7
  replace R_a1_7 := gz_hi R_a1_7
  replace B_a1_7 := gz_hi B_a1_7
  replace R_a1_7_1 := gz_hi R_a1_7_1
  replace B_a1_7_1 := gz_hi B_a1_7_1
  obtain ⟨S_a1_11, R_a1_11, B_a1_11, A_a1_11_0, S_a1_11_1, R_a1_11_1, B_a1_11_1, Q0_a1_11, Q1_a1_11, Q2_a1_11⟩ := id h_a1_11
  replace R_a1_11 := gz_hi R_a1_11
  replace B_a1_11 := gz_hi B_a1_11
  replace R_a1_11_1 := gz_hi R_a1_11_1
  replace B_a1_11_1 := gz_hi B_a1_11_1
  obtain ⟨S_a1_17, R_a1_17, B_a1_17, A_a1_17_0, S_20, R_20, B_20, A_a1_17_1, S_a1_17_1, R_a1_17_1, B_a1_17_1, A_a1_17_2, S_a1_17_2, R_a1_17_2, B_a1_17_2, A_a1_17_3, S_a1_17_3, R_a1_17_3, B_a1_17_3, A_a1_17_4, S_a1_17_4, R_a1_17_4, B_a1_17_4, A_a1_17_5, S_a1_17_5, R_a1_17_5, B_a1_17_5, S_a1_17_6, R_a1_17_6, B_a1_17_6, S_a1_17_7, R_a1_17_7, B_a1_17_7⟩ := id h_a1_17
  replace R_a1_17 := gz_hi R_a1_17
  replace B_a1_17 := gz_hi B_a1_17
  replace R_20 := gz_hi R_20
  replace B_20 := gz_hi B_20
  replace R_a1_17_1 := gz_hi R_a1_17_1
  replace B_a1_17_1 := gz_hi B_a1_17_1
  replace R_a1_17_2 := gz_hi R_a1_17_2
  replace B_a1_17_2 := gz_hi B_a1_17_2
  replace R_a1_17_3 := gz_hi R_a1_17_3
  replace B_a1_17_3 := gz_hi B_a1_17_3
  replace R_a1_17_4 := gz_hi R_a1_17_4
  replace B_a1_17_4 := gz_hi B_a1_17_4
  replace R_a1_17_5 := gz_hi R_a1_17_5
  replace B_a1_17_5 := gz_hi B_a1_17_5
  replace R_a1_17_6 := gz_hi R_a1_17_6
  replace B_a1_17_6 := gz_hi B_a1_17_6
  replace R_a1_17_7 := gz_hi R_a1_17_7
  replace B_a1_17_7 := gz_hi B_a1_17_7
  have hD : gv_D (gc_E2 ws0 tb 1 (yX2_rightFits, cX2_rightFits, 7, (some .boolean)) kX2_rightFits) := gq_of oX2_rightFits
  refine gc_ev2 (d := 1) (l := kX2_rightFits) (Po := fun r hₚ => (hₚ = gc_h sh I J A ∧ (∃ z : Int, r = some (.inl z) ∧ 0 ≤ z ∧ z ≤ 1 ∧ ((z = 1 ∧ ∃ e, so_right (fun k : Nat => so_ci I a1 (a2 + 16 + 3 * (k : Int))) (so_b a4 (I (so_fb I p 6))) a4 (Int.toNat (I (a1 + 10) (Int.toNat (a2 + 6)))) a3 e) ∨ (z = 0 ∧ ∀ e, ¬ so_right (fun k : Nat => so_ci I a1 (a2 + 16 + 3 * (k : Int))) (so_b a4 (I (so_fb I p 6))) a4 (Int.toNat (I (a1 + 10) (Int.toNat (a2 + 6)))) a3 e))))) htb rfl (Nat.le_of_ble_eq_true rfl) ?_
  have L6 : ∀ (n9 : Nat) (v5_1 : Int) (v6_1 : Int), (4 - v6_1).toNat < n9 → ((0 ≤ a2 ∧ a2 ≤ 575) ∧ (0 ≤ a4 ∧ a4 ≤ 24) ∧ (0 ≤ v5_1 ∧ v5_1 ≤ 60) ∧ (0 ≤ v6_1 ∧ v6_1 ≤ 3)) → (v6_1 ≤ I (a1 + 10) (Int.toNat (a2 + 6)) ∧ so_right (fun k : Nat => so_ci I a1 (a2 + 16 + 3 * (k : Int))) (so_b a4 (I (so_fb I p 6))) a4 (Int.toNat v6_1) a3 v5_1) → gv_X (gc_E2 ws0 tb 1 (yX2_rightFits, cX2_rightFits, 7, (some .boolean)) kX2_rightFits) (gv_Q cX2_rightFits (some .boolean) sh (fun r hₚ => (hₚ = gc_h sh I J A ∧ (∃ z : Int, r = some (.inl z) ∧ 0 ≤ z ∧ z ≤ 1 ∧ ((z = 1 ∧ ∃ e, so_right (fun k : Nat => so_ci I a1 (a2 + 16 + 3 * (k : Int))) (so_b a4 (I (so_fb I p 6))) a4 (Int.toNat (I (a1 + 10) (Int.toNat (a2 + 6)))) a3 e) ∨ (z = 0 ∧ ∀ e, ¬ so_right (fun k : Nat => so_ci I a1 (a2 + 16 + 3 * (k : Int))) (so_b a4 (I (so_fb I p 6))) a4 (Int.toNat (I (a1 + 10) (Int.toNat (a2 + 6)))) a3 e)))))) (6, [(0, .inr (.inr (some p))), (1, .inr (.inr (some a1))), (2, .inl a2), (4, .inl a4), (5, .inl v5_1), (6, .inl v6_1)], [], sh, gc_h sh I J A) := by
    intro n9
    induction n9 with
    | zero => intro v5_1 v6_1 hn; (/-0-/first | omega | (simp only [gz_hd] at *; omega))
    | succ n9 ih6 =>
      intro v5_1 v6_1 hn m_1 k_1
      obtain ⟨ha2_1, ha4_1, hv5_1, hv6_1⟩ := gz_h4 m_1
      refine gv_run 2 true hD (pcₚ := 9) (lvₚ := [(0, .inr (.inr (some p))), (1, .inr (.inr (some a1))), (2, .inl a2), (4, .inl a4), (5, .inl v5_1), (6, .inl v6_1)]) (stₚ := [.inr (.inr (some a1)), .inl v6_1]) (hₚ := gc_h sh I J A) (C := ((True ∧ True) ∧ True)) rfl ⟨⟨trivial, trivial⟩, trivial⟩ ?_
      refine gv_get hD rfl rfl S_a1 ⟨by decide, (gz_sh B_a1)⟩ (gc_hA S_a1 rfl A_a1_7) ?_
      show gv_X _ _ (12, [(0, .inr (.inr (some p))), (1, .inr (.inr (some a1))), (2, .inl a2), (4, .inl a4), (5, .inl v5_1), (6, .inl v6_1)], [.inr (.inr (some (a1 + 10))), .inl v6_1], sh, gc_h sh I J A)
      refine gv_run 3 true hD (pcₚ := 16) (lvₚ := [(0, .inr (.inr (some p))), (1, .inr (.inr (some a1))), (2, .inl a2), (4, .inl a4), (5, .inl v5_1), (6, .inl v6_1)]) (stₚ := [.inl (a2 + 6), .inr (.inr (some (a1 + 10))), .inl v6_1]) (hₚ := gc_h sh I J A) (C := (((True ∧ True) ∧ True) ∧ True)) rfl ⟨⟨⟨trivial, trivial⟩, trivial⟩, trivial⟩ ?_
      have f2 := gz_hi ((show 0 ≤ I (a1 + 10) (Int.toNat (a2 + 6)) ∧ I (a1 + 10) (Int.toNat (a2 + 6)) ≤ 3 from gc_inm (c := 6) hI (gz_sh R_a1_10) rfl rfl (by (/-1-/first | omega | (simp only [gz_hd] at *; omega))) rfl rfl))
      refine gv_iald hD rfl S_a1_10 rfl ⟨by decide, (gz_sh B_a1_10)⟩ ⟨by (/-2-/first | omega | (simp only [gz_hd] at *; omega)), by (/-3-/first | omega | (simp only [gz_hd] at *; omega))⟩ (gc_iI S_a1_10 rfl) ?_
      show gv_X _ _ (17, [(0, .inr (.inr (some p))), (1, .inr (.inr (some a1))), (2, .inl a2), (4, .inl a4), (5, .inl v5_1), (6, .inl v6_1)], [.inl (I (a1 + 10) (Int.toNat (a2 + 6))), .inl v6_1], sh, gc_h sh I J A)
      refine gv_icmp_ge (t := 57) hD rfl rfl ⟨⟨by (/-4-/first | (have o1 := gz_sh hv6_1; omega) | (simp only [gz_hd] at *; omega)), by (/-5-/first | (have o1 := gz_sh hv6_1; omega) | (simp only [gz_hd] at *; omega))⟩, ⟨by (/-6-/first | (have o1 := gz_sh f2; omega) | (simp only [gz_hd] at *; omega)), by (/-7-/first | (have o1 := gz_sh f2; omega) | (simp only [gz_hd] at *; omega))⟩⟩ (fun c3 => ?_) (fun c3 => ?_)
      · show gv_X _ _ (57, [(0, .inr (.inr (some p))), (1, .inr (.inr (some a1))), (2, .inl a2), (4, .inl a4), (5, .inl v5_1), (6, .inl v6_1)], [], sh, gc_h sh I J A)
        refine gv_run 1 true hD (pcₚ := 58) (lvₚ := [(0, .inr (.inr (some p))), (1, .inr (.inr (some a1))), (2, .inl a2), (4, .inl a4), (5, .inl v5_1), (6, .inl v6_1)]) (stₚ := [.inl 1]) (hₚ := gc_h sh I J A) (C := (True ∧ True)) rfl ⟨trivial, trivial⟩ ?_
        exact gv_zret hD rfl (by (/-8-/first | omega | (simp only [gz_hd] at *; omega))) ⟨rfl, ⟨_, rfl, by (/-9-/first | omega | (simp only [gz_hd] at *; omega)), by (/-10-/first | omega | (simp only [gz_hd] at *; omega)), Or.inl ⟨rfl, v5_1, by have h9 := k_1.2; rw [show Int.toNat v6_1 = Int.toNat (I (a1 + 10) (Int.toNat (a2 + 6))) from by have h8 := k_1.1; (/-11-/first | (have o1 := gz_sh f2; omega) | (simp only [gz_hd] at *; omega))] at h9; exact h9⟩⟩⟩
      · show gv_X _ _ (20, [(0, .inr (.inr (some p))), (1, .inr (.inr (some a1))), (2, .inl a2), (4, .inl a4), (5, .inl v5_1), (6, .inl v6_1)], [], sh, gc_h sh I J A)
        have t4 := gz_hi ((show v6_1 = 0 ∨ v6_1 = 1 ∨ v6_1 = 2 from by (/-12-/first | (have o1 := gz_sh f2; have o2 := gz_sh hv6_1; omega) | (simp only [gz_hd] at *; omega))))
        refine gv_run 7 true hD (pcₚ := 29) (lvₚ := [(0, .inr (.inr (some p))), (1, .inr (.inr (some a1))), (2, .inl a2), (4, .inl a4), (5, .inl v5_1), (6, .inl v6_1)]) (stₚ := [.inl v6_1, .inl 3, .inl (a2 + 16), .inr (.inr (some a1)), .inr (.inr (some p))]) (hₚ := gc_h sh I J A) (C := (((((((True ∧ True) ∧ True) ∧ True) ∧ True) ∧ True) ∧ True) ∧ True)) rfl ⟨⟨⟨⟨⟨⟨⟨trivial, trivial⟩, trivial⟩, trivial⟩, trivial⟩, trivial⟩, trivial⟩, trivial⟩ ?_
        refine gv_run 3 true hD (pcₚ := 32) (lvₚ := [(0, .inr (.inr (some p))), (1, .inr (.inr (some a1))), (2, .inl a2), (4, .inl a4), (5, .inl v5_1), (6, .inl v6_1)]) (stₚ := [.inr (.inr (some p)), .inl ((a2 + 16) + (3 * v6_1)), .inr (.inr (some a1)), .inr (.inr (some p))]) (hₚ := gc_h sh I J A) (C := (((True ∧ True) ∧ True) ∧ True)) rfl ⟨⟨⟨trivial, trivial⟩, trivial⟩, trivial⟩ ?_
        have f6 := gz_hi ((show 0 ≤ I p 6 ∧ I p 6 ≤ 1 from gc_in2 hI (gz_sh R_p) rfl rfl rfl))
        obtain ⟨f5_, hq_f5_, S_f5, R_f5, B_f5, D_f5⟩ := gc_sw (p := p) (d := 6) (s := 1) (z := I p 6) (show 0 ≤ I p 6 ∧ I p 6 ≤ 1 from gc_in2 hI (gz_sh R_p) rfl rfl rfl) S_p_6 (gz_sh R_p_6) (gz_sh B_p_6) S_p_7 (gz_sh R_p_7) (gz_sh B_p_7)
        refine gv_get hD rfl rfl S_p ⟨by decide, (gz_sh B_p)⟩ (gc_hS (n := 6) S_p rfl hq_f5_) ?_
        show gv_X _ _ (35, [(0, .inr (.inr (some p))), (1, .inr (.inr (some a1))), (2, .inl a2), (4, .inl a4), (5, .inl v5_1), (6, .inl v6_1)], [.inr (.inr (some f5_)), .inl ((a2 + 16) + (3 * v6_1)), .inr (.inr (some a1)), .inr (.inr (some p))], sh, gc_h sh I J A)
        refine gv_run 2 true hD (pcₚ := 39) (lvₚ := [(0, .inr (.inr (some p))), (1, .inr (.inr (some a1))), (2, .inl a2), (4, .inl a4), (5, .inl v5_1), (6, .inl v6_1)]) (stₚ := [.inl a4, .inl v5_1, .inr (.inr (some f5_)), .inl ((a2 + 16) + (3 * v6_1)), .inr (.inr (some a1)), .inr (.inr (some p))]) (hₚ := gc_h sh I J A) (C := ((True ∧ True) ∧ True)) rfl ⟨⟨trivial, trivial⟩, trivial⟩ ?_
        obtain ⟨r7, h7, E7, P7⟩ := d_X2_fitsAt_p (ws0 := ws0) (tb := tb) hws htb sh ro I J A hI p 24 a1 (((a2 + 16) + (3 * v6_1))) f5_ v5_1 a4 hp h_a1 G_a1 S_f5 R_f5 B_f5 (by decide)  ⟨by (/-13-/first | (have o1 := gz_sh hv6_1; omega) | (simp only [gz_hd] at *; omega)), by (/-14-/first | (have o1 := gz_sh f2; omega) | (simp only [gz_hd] at *; omega))⟩ ⟨by (/-15-/first | (have o1 := gz_sh hv5_1; omega) | (simp only [gz_hd] at *; omega)), by (/-16-/first | (have o1 := gz_sh hv5_1; omega) | (simp only [gz_hd] at *; omega))⟩ ⟨by (/-17-/first | omega | (simp only [gz_hd] at *; omega)), by (/-18-/first | omega | (simp only [gz_hd] at *; omega))⟩ (by (/-19-/first | omega | (simp only [gz_hd] at *; omega))) (by (/-20-/first | (have o1 := gz_sh f6; have o2 := gz_sh t4; omega) | (simp only [gz_hd] at *; omega))) (x1 _ (by (/-21-/first | (have o1 := gz_sh hv6_1; omega) | (simp only [gz_hd] at *; omega))) (by (/-22-/first | (have o1 := gz_sh f2; omega) | (simp only [gz_hd] at *; omega))) (by (/-23-/first | (have o1 := gz_sh f6; have o2 := gz_sh t4; omega) | (simp only [gz_hd] at *; omega)))) 
        obtain ⟨rfl, ⟨z7, rfl, q7⟩⟩ := P7
        replace q7 := gz_hi q7
        refine gv_callV hD rfl (As := [.inr (.inr (some a1)), .inl ((a2 + 16) + (3 * v6_1)), .inr (.inr (some f5_)), .inl v5_1, .inl a4]) (st := []) rfl (gz_sh B_p) S_p rfl (gc_lV2 hws rfl) (Nat.le_of_ble_eq_true rfl) (gz_Ev_mono (d := 1) (by decide) E7) ?_
        show gv_X _ _ (42, [(0, .inr (.inr (some p))), (1, .inr (.inr (some a1))), (2, .inl a2), (4, .inl a4), (5, .inl v5_1), (6, .inl v6_1)], [.inl z7], sh, gc_h sh I J A)
        refine gv_run 2 true hD (pcₚ := 46) (lvₚ := [(5, .inl z7), (0, .inr (.inr (some p))), (1, .inr (.inr (some a1))), (2, .inl a2), (4, .inl a4), (6, .inl v6_1)]) (stₚ := [.inl z7]) (hₚ := gc_h sh I J A) (C := ((True ∧ True) ∧ True)) rfl ⟨⟨trivial, trivial⟩, trivial⟩ ?_
        refine gv_if_ge (t := 51) hD rfl rfl ⟨by (/-24-/first | (have o1 := gz_sh q7; omega) | (simp only [gz_hd] at *; omega)), by (/-25-/first | (have o1 := gz_sh q7; omega) | (simp only [gz_hd] at *; omega))⟩ (fun c8 => ?_) (fun c8 => ?_)
        · show gv_X _ _ (51, [(5, .inl z7), (0, .inr (.inr (some p))), (1, .inr (.inr (some a1))), (2, .inl a2), (4, .inl a4), (6, .inl v6_1)], [], sh, gc_h sh I J A)
          refine gv_run 2 true hD (pcₚ := 6) (lvₚ := [(6, .inl (v6_1 + 1)), (5, .inl z7), (0, .inr (.inr (some p))), (1, .inr (.inr (some a1))), (2, .inl a2), (4, .inl a4)]) (stₚ := []) (hₚ := gc_h sh I J A) (C := ((True ∧ True) ∧ True)) rfl ⟨⟨trivial, trivial⟩, trivial⟩ ?_
          refine gv_pick [2, 3, 4, 5, 1, 0] rfl ?_
          exact ih6 z7 (v6_1 + 1) (by (/-26-/first | (have o1 := gz_sh f2; have o2 := gz_sh f6; have o3 := gz_sh hv6_1; have o4 := gz_sh q7; have o5 := gz_sh t4; omega) | (simp only [gz_hd] at *; omega))) (by (/-27-/first | (and_intros; (omega); (omega); (omega); (omega); (omega); (have o1 := gz_sh q7; omega); (have o1 := gz_sh hv6_1; omega); (have o1 := gz_sh f2; omega)) | (simp only [gz_hd] at *; omega))) ⟨by (/-28-/first | omega | (simp only [gz_hd] at *; omega)), by rw [show Int.toNat (v6_1 + 1) = Int.toNat v6_1 + 1 from by (/-29-/first | (have o1 := gz_sh hv6_1; omega) | (simp only [gz_hd] at *; omega))]; exact ⟨v5_1, k_1.2, ((show so_End ((fun k : Nat => so_ci I a1 (a2 + 16 + 3 * (k : Int))) (Int.toNat v6_1)) (so_b a4 (I (so_fb I p 6))) a4 v5_1 z7 by show so_End (so_ci I a1 (a2 + 16 + 3 * ((Int.toNat v6_1 : Nat) : Int))) _ _ _ _; rw [show a2 + 16 + 3 * ((Int.toNat v6_1 : Nat) : Int) = (a2 + 16) + (3 * v6_1) from by (/-30-/first | (have o1 := gz_sh hv6_1; omega) | (simp only [gz_hd] at *; omega))]; have h9 := (gz_sh q7).2.2.2.2; rw [← hq_f5_] at h9; exact h9).resolve_right (fun g => by have := g.1; (/-31-/first | (have o1 := gz_sh q7; omega) | (simp only [gz_hd] at *; omega)))).2⟩⟩
        · show gv_X _ _ (49, [(5, .inl z7), (0, .inr (.inr (some p))), (1, .inr (.inr (some a1))), (2, .inl a2), (4, .inl a4), (6, .inl v6_1)], [], sh, gc_h sh I J A)
          refine gv_run 1 true hD (pcₚ := 50) (lvₚ := [(5, .inl z7), (0, .inr (.inr (some p))), (1, .inr (.inr (some a1))), (2, .inl a2), (4, .inl a4), (6, .inl v6_1)]) (stₚ := [.inl 0]) (hₚ := gc_h sh I J A) (C := (True ∧ True)) rfl ⟨trivial, trivial⟩ ?_
          exact gv_zret hD rfl (by (/-32-/first | omega | (simp only [gz_hd] at *; omega))) ⟨rfl, ⟨_, rfl, by (/-33-/first | omega | (simp only [gz_hd] at *; omega)), by (/-34-/first | omega | (simp only [gz_hd] at *; omega)), Or.inr ⟨rfl, so_right_no k_1.2 ((show so_End ((fun k : Nat => so_ci I a1 (a2 + 16 + 3 * (k : Int))) (Int.toNat v6_1)) (so_b a4 (I (so_fb I p 6))) a4 v5_1 z7 by show so_End (so_ci I a1 (a2 + 16 + 3 * ((Int.toNat v6_1 : Nat) : Int))) _ _ _ _; rw [show a2 + 16 + 3 * ((Int.toNat v6_1 : Nat) : Int) = (a2 + 16) + (3 * v6_1) from by (/-35-/first | (have o1 := gz_sh hv6_1; omega) | (simp only [gz_hd] at *; omega))]; have h9 := (gz_sh q7).2.2.2.2; rw [← hq_f5_] at h9; exact h9).resolve_left (fun g => by have := g.1; (/-36-/first | (have o1 := gz_sh q7; omega) | (simp only [gz_hd] at *; omega)))).2 (by (/-37-/first | (have o1 := gz_sh f2; have o2 := gz_sh hv6_1; omega) | (simp only [gz_hd] at *; omega)))⟩⟩⟩
  refine gv_run 4 true hD (pcₚ := 6) (lvₚ := [(6, .inl 0), (5, .inl a3), (0, .inr (.inr (some p))), (1, .inr (.inr (some a1))), (2, .inl a2), (3, .inl a3), (4, .inl a4)]) (stₚ := []) (hₚ := gc_h sh I J A) (C := ((((True ∧ True) ∧ True) ∧ True) ∧ True)) rfl ⟨⟨⟨⟨trivial, trivial⟩, trivial⟩, trivial⟩, trivial⟩ ?_
  refine gv_pick [2, 3, 4, 6, 1, 0] rfl ?_
  exact L6 _ a3 0 (Nat.lt_succ_self _) (by (/-38-/first | (and_intros <;> omega) | (simp only [gz_hd] at *; omega))) ⟨(show 0 ≤ I (a1 + 10) (Int.toNat (a2 + 6)) ∧ I (a1 + 10) (Int.toNat (a2 + 6)) ≤ 3 from gc_inm (c := 6) hI (gz_sh R_a1_10) rfl rfl (by (/-39-/first | omega | (simp only [gz_hd] at *; omega))) rfl rfl).1, rfl⟩
set_option maxHeartbeats 8000000 in
set_option maxRecDepth 100000 in
theorem d_X2_soundOnce_p_L30 {ws0 : List Cond} {tb : String → gz_T} (hws : gc_Ws ws0) (htb : gc_tbs tb) (sh : gz_Sh) (ro : Nat → Nat) (I : gr_I) (J : gr_J) (A : gc_A) (hI : gc_Inv ro I) (p : Nat) (a1 : Nat) (a2 : Int) (a3 : Int) (r9 : Int) (hp : gc_isForms sh ro A p) (h_a1 : gc_isTongue sh ro A a1) (G_a1 : 144 ≤ a1) (ha2 : 0 ≤ a2 ∧ a2 ≤ 575) (ha3 : 0 ≤ a3 ∧ a3 ≤ 24) (x0 : a2 % 25 = 0) (x1 : gc_sc (a1 + 10) I) (x2 : p = a1 + 17) (y0 : ¬ I p 6 = I p 7) (y1 : so_lh (so_rc I a1 r9)) (y2 : a2 = 25 * r9) (y3 : 0 ≤ r9) : ∀ (n9 : Nat) (I2 : gr_I) (J3 : gr_J) (v4_4 : Int) (v5_4 : Int) (v6_4 : Int), (25 - v6_4).toNat < n9 → gc_Inv ro I2 → (∀ q j : Nat, (q = (p + 6) ∨ q = (p + 7)) ∨ I2 q j = I q j) → (∀ q j : Nat, (False) ∨ J3 q j = J q j) → ((0 ≤ a2 ∧ a2 ≤ 575) ∧ (0 ≤ a3 ∧ a3 ≤ 24) ∧ (0 ≤ v4_4 ∧ v4_4 ≤ 12) ∧ (0 ≤ v5_4 ∧ v5_4 ≤ 24) ∧ (0 ≤ v6_4 ∧ v6_4 ≤ 24) ∧ (v6_4 ≤ a3)) → (so_Fr I p I2 ∧ so_onc I2 a1 p r9 a3 v6_4 v5_4 ∧ so_L (so_ci I a1 a2) v4_4) → gv_X (gc_E2 ws0 tb 2 (yX2_soundOnce, cX2_soundOnce, 9, (some .int)) kX2_soundOnce) (gv_Q cX2_soundOnce (some .int) sh (fun r hₚ => (∃ (Iₚ : gr_I) (Jₚ : gr_J), hₚ = gc_h sh Iₚ Jₚ A ∧ gc_Inv ro Iₚ ∧ (∀ q j : Nat, (q = (p + 6) ∨ q = (p + 7)) ∨ Iₚ q j = I q j) ∧ (∀ q j : Nat, (False) ∨ Jₚ q j = J q j) ∧ (∃ z : Int, r = some (.inl z) ∧ (-1) ≤ z ∧ z ≤ 24 ∧ so_one I a1 p r9 a3 Iₚ z)))) (30, [(0, .inr (.inr (some p))), (1, .inr (.inr (some a1))), (2, .inl a2), (3, .inl a3), (4, .inl v4_4), (5, .inl v5_4), (6, .inl v6_4)], [], sh, gc_h sh I2 J3 A) := by
  have FI : ∀ q j : Nat, (q = (p + 6) ∨ q = (p + 7)) ∨ I q j = I q j := fun _ _ => Or.inr rfl
  have FJ : ∀ q j : Nat, (False) ∨ J q j = J q j := fun _ _ => Or.inr rfl
  obtain ⟨S_p, R_p, B_p, A_p_0, S_20, R_20, B_20, A_p_1, S_p_1, R_p_1, B_p_1, A_p_2, S_p_2, R_p_2, B_p_2, A_p_3, S_p_3, R_p_3, B_p_3, A_p_4, S_p_4, R_p_4, B_p_4, A_p_5, S_p_5, R_p_5, B_p_5, S_p_6, R_p_6, B_p_6, S_p_7, R_p_7, B_p_7⟩ := id hp
  replace R_p := gz_hi R_p
  replace B_p := gz_hi B_p
  replace R_20 := gz_hi R_20
  replace B_20 := gz_hi B_20
  replace R_p_1 := gz_hi R_p_1
  replace B_p_1 := gz_hi B_p_1
  replace R_p_2 := gz_hi R_p_2
  replace B_p_2 := gz_hi B_p_2
  replace R_p_3 := gz_hi R_p_3
  replace B_p_3 := gz_hi B_p_3
  replace R_p_4 := gz_hi R_p_4
  replace B_p_4 := gz_hi B_p_4
  replace R_p_5 := gz_hi R_p_5
  replace B_p_5 := gz_hi B_p_5
  replace R_p_6 := gz_hi R_p_6
  replace B_p_6 := gz_hi B_p_6
  replace R_p_7 := gz_hi R_p_7
  replace B_p_7 := gz_hi B_p_7
  obtain ⟨S_a1, R_a1, B_a1, A_a1_0, h_a1_1, A_a1_1, h_a1_3, A_a1_2, S_a1_5, R_a1_5, B_a1_5, A_a1_3, S_a1_6, R_a1_6, B_a1_6, A_a1_4, h_a1_7, A_a1_5, S_a1_9, R_a1_9, B_a1_9, A_a1_7, S_a1_10, R_a1_10, B_a1_10, A_a1_8, h_a1_11, A_a1_9, S_a1_13, R_a1_13, B_a1_13, A_a1_10, S_a1_14, R_a1_14, B_a1_14, A_a1_12, S_a1_15, R_a1_15, B_a1_15, A_a1_14, S_a1_16, R_a1_16, B_a1_16, A_a1_15, h_a1_17⟩ := id h_a1
  replace R_a1 := gz_hi R_a1
  replace B_a1 := gz_hi B_a1
  replace R_a1_5 := gz_hi R_a1_5
  replace B_a1_5 := gz_hi B_a1_5
  replace R_a1_6 := gz_hi R_a1_6
  replace B_a1_6 := gz_hi B_a1_6
  replace R_a1_9 := gz_hi R_a1_9
  replace B_a1_9 := gz_hi B_a1_9
  replace R_a1_10 := gz_hi R_a1_10
  replace B_a1_10 := gz_hi B_a1_10
  replace R_a1_13 := gz_hi R_a1_13
  replace B_a1_13 := gz_hi B_a1_13
  replace R_a1_14 := gz_hi R_a1_14
  replace B_a1_14 := gz_hi B_a1_14
  replace R_a1_15 := gz_hi R_a1_15
  replace B_a1_15 := gz_hi B_a1_15
  replace R_a1_16 := gz_hi R_a1_16
  replace B_a1_16 := gz_hi B_a1_16
  obtain ⟨S_a1_1, R_a1_1, B_a1_1, A_a1_1_0, S_a1_1_1, R_a1_1_1, B_a1_1_1, Q0_a1_1, Q1_a1_1, Q2_a1_1⟩ := id h_a1_1
  replace R_a1_1 := gz_hi R_a1_1
  replace B_a1_1 := gz_hi B_a1_1
  replace R_a1_1_1 := gz_hi R_a1_1_1
  replace B_a1_1_1 := gz_hi B_a1_1_1
  obtain ⟨S_a1_3, R_a1_3, B_a1_3, A_a1_3_0, S_a1_3_1, R_a1_3_1, B_a1_3_1, Q0_a1_3, Q1_a1_3, Q2_a1_3⟩ := id h_a1_3
  replace R_a1_3 := gz_hi R_a1_3
  replace B_a1_3 := gz_hi B_a1_3
  replace R_a1_3_1 := gz_hi R_a1_3_1
  replace B_a1_3_1 := gz_hi B_a1_3_1
  obtain ⟨S_a1_7, R_a1_7, B_a1_7, A_a1_7_0, S_a1_7_1, R_a1_7_1, B_a1_7_1, Q0_a1_7, Q1_a1_7, Q2_a1_7⟩ := id h_a1_7
  replace R_a1_7 := gz_hi R_a1_7
  replace B_a1_7 := gz_hi B_a1_7
  replace R_a1_7_1 := gz_hi R_a1_7_1
  replace B_a1_7_1 := gz_hi B_a1_7_1
  obtain ⟨S_a1_11, R_a1_11, B_a1_11, A_a1_11_0, S_a1_11_1, R_a1_11_1, B_a1_11_1, Q0_a1_11, Q1_a1_11, Q2_a1_11⟩ := id h_a1_11
  replace R_a1_11 := gz_hi R_a1_11
  replace B_a1_11 := gz_hi B_a1_11
  replace R_a1_11_1 := gz_hi R_a1_11_1
  replace B_a1_11_1 := gz_hi B_a1_11_1
  obtain ⟨S_a1_17, R_a1_17, B_a1_17, A_a1_17_0, S_20, R_20, B_20, A_a1_17_1, S_a1_17_1, R_a1_17_1, B_a1_17_1, A_a1_17_2, S_a1_17_2, R_a1_17_2, B_a1_17_2, A_a1_17_3, S_a1_17_3, R_a1_17_3, B_a1_17_3, A_a1_17_4, S_a1_17_4, R_a1_17_4, B_a1_17_4, A_a1_17_5, S_a1_17_5, R_a1_17_5, B_a1_17_5, S_a1_17_6, R_a1_17_6, B_a1_17_6, S_a1_17_7, R_a1_17_7, B_a1_17_7⟩ := id h_a1_17
  replace R_a1_17 := gz_hi R_a1_17
  replace B_a1_17 := gz_hi B_a1_17
  replace R_20 := gz_hi R_20
  replace B_20 := gz_hi B_20
  replace R_a1_17_1 := gz_hi R_a1_17_1
  replace B_a1_17_1 := gz_hi B_a1_17_1
  replace R_a1_17_2 := gz_hi R_a1_17_2
  replace B_a1_17_2 := gz_hi B_a1_17_2
  replace R_a1_17_3 := gz_hi R_a1_17_3
  replace B_a1_17_3 := gz_hi B_a1_17_3
  replace R_a1_17_4 := gz_hi R_a1_17_4
  replace B_a1_17_4 := gz_hi B_a1_17_4
  replace R_a1_17_5 := gz_hi R_a1_17_5
  replace B_a1_17_5 := gz_hi B_a1_17_5
  replace R_a1_17_6 := gz_hi R_a1_17_6
  replace B_a1_17_6 := gz_hi B_a1_17_6
  replace R_a1_17_7 := gz_hi R_a1_17_7
  replace B_a1_17_7 := gz_hi B_a1_17_7
  have hD : gv_D (gc_E2 ws0 tb 2 (yX2_soundOnce, cX2_soundOnce, 9, (some .int)) kX2_soundOnce) := gq_of oX2_soundOnce
  have fn : ¬ so_fb I p 6 = so_fb I p 7 := so_fb_ne y0 (show 0 ≤ I p 6 ∧ I p 6 ≤ 1 from gc_in2 hI (gz_sh R_p) rfl rfl rfl) (show 0 ≤ I p 7 ∧ I p 7 ≤ 1 from gc_in2 hI (gz_sh R_p) rfl rfl rfl)
  intro n9
  induction n9 with
  | zero => intro I2 J3 v4_4 v5_4 v6_4 hn; (/-0-/first | omega | (simp only [gz_hd] at *; omega))
  | succ n9 ih30 =>
    intro I2 J3 v4_4 v5_4 v6_4 hn hI2 FI2 FJ3 m_4 k_4
    obtain ⟨ha2_4, ha3_4, hv4_4, hv5_4, hv6_4, e0_4⟩ := gz_h6 m_4
    have u_4 : so_L (so_ci I2 a1 a2) v4_4 := by
      rw [so_ci_eq (fun k => (FI2 _ k).resolve_left (by (/-1-/first | omega | (simp only [gz_hd] at *; omega)))) (fun k => (FI2 _ k).resolve_left (by (/-2-/first | omega | (simp only [gz_hd] at *; omega)))) (fun k => (FI2 _ k).resolve_left (by (/-3-/first | (have o1 := gz_sh B_p; have o2 := gz_sh B_p_1; have o3 := gz_sh B_p_2; have o4 := gz_sh B_p_3; have o5 := gz_sh B_p_4; have o6 := gz_sh B_p_5; have o7 := gz_sh B_p_6; have o8 := gz_sh B_p_7; omega) | (simp only [gz_hd] at *; omega))))]
      exact k_4.2.2
    have g_4 : 1 ≤ v4_4 := so_L_lh y1 y2 y3 k_4.2.2
    have fn_4 : ¬ so_fb I2 p 6 = so_fb I2 p 7 := by
      rw [so_fb_7 k_4.1, so_fb_7 k_4.1]
      exact fn
    have L88 : ∀ (s0_5 : Int), ((0 ≤ a2 ∧ a2 ≤ 575) ∧ (1 ≤ a3 ∧ a3 ≤ 24) ∧ (0 ≤ v4_4 ∧ v4_4 ≤ 12) ∧ (0 ≤ v5_4 ∧ v5_4 ≤ 24) ∧ (0 ≤ v6_4 ∧ v6_4 ≤ 23) ∧ (0 ≤ s0_5 ∧ s0_5 ≤ 1) ∧ (v6_4 < a3) ∧ (s0_5 = 0 ∨ v6_4 + v4_4 ≤ a3)) → ((s0_5 = 1 ∧ so_hic I2 a1 p r9 a3 v6_4 v5_4 (v6_4 + v4_4)) ∨ (s0_5 = 0 ∧ ∀ q, ¬ so_hic I2 a1 p r9 a3 v6_4 v5_4 q)) → gv_X (gc_E2 ws0 tb 2 (yX2_soundOnce, cX2_soundOnce, 9, (some .int)) kX2_soundOnce) (gv_Q cX2_soundOnce (some .int) sh (fun r hₚ => (∃ (Iₚ : gr_I) (Jₚ : gr_J), hₚ = gc_h sh Iₚ Jₚ A ∧ gc_Inv ro Iₚ ∧ (∀ q j : Nat, (q = (p + 6) ∨ q = (p + 7)) ∨ Iₚ q j = I q j) ∧ (∀ q j : Nat, (False) ∨ Jₚ q j = J q j) ∧ (∃ z : Int, r = some (.inl z) ∧ (-1) ≤ z ∧ z ≤ 24 ∧ so_one I a1 p r9 a3 Iₚ z)))) (88, [(0, .inr (.inr (some p))), (1, .inr (.inr (some a1))), (2, .inl a2), (3, .inl a3), (4, .inl v4_4), (5, .inl v5_4), (6, .inl v6_4)], [.inl s0_5], sh, gc_h sh I2 J3 A) := by
      intro s0_5 m_5 k_5
      obtain ⟨ha2_5, ha3_5, hv4_4_5, hv5_4_5, hv6_4_5, hs0_5, e0_5, e1_5⟩ := gz_h8 m_5
      have L107 : ∀ (v7_6 : Int) (s0_6 : Int), ((0 ≤ a2 ∧ a2 ≤ 575) ∧ (1 ≤ a3 ∧ a3 ≤ 24) ∧ (0 ≤ v4_4 ∧ v4_4 ≤ 12) ∧ (0 ≤ v5_4 ∧ v5_4 ≤ 24) ∧ (0 ≤ v6_4 ∧ v6_4 ≤ 23) ∧ (0 ≤ v7_6 ∧ v7_6 ≤ 1) ∧ (0 ≤ s0_6 ∧ s0_6 ≤ 12) ∧ (v6_4 < a3) ∧ (v7_6 = 0 ∨ v6_4 + v4_4 ≤ a3) ∧ (v6_4 = v6_4) ∧ (v7_6 = 1 ∨ s0_6 = 1)) → ((v7_6 = 1 ∧ s0_6 = I2 (a1 + 10) (Int.toNat (a2 + 4)) ∧ so_hic I2 a1 p r9 a3 v6_4 v5_4 (v6_4 + v4_4)) ∨ (v7_6 = 0 ∧ s0_6 = 1 ∧ ∀ q, ¬ so_hic I2 a1 p r9 a3 v6_4 v5_4 q)) → gv_X (gc_E2 ws0 tb 2 (yX2_soundOnce, cX2_soundOnce, 9, (some .int)) kX2_soundOnce) (gv_Q cX2_soundOnce (some .int) sh (fun r hₚ => (∃ (Iₚ : gr_I) (Jₚ : gr_J), hₚ = gc_h sh Iₚ Jₚ A ∧ gc_Inv ro Iₚ ∧ (∀ q j : Nat, (q = (p + 6) ∨ q = (p + 7)) ∨ Iₚ q j = I q j) ∧ (∀ q j : Nat, (False) ∨ Jₚ q j = J q j) ∧ (∃ z : Int, r = some (.inl z) ∧ (-1) ≤ z ∧ z ≤ 24 ∧ so_one I a1 p r9 a3 Iₚ z)))) (107, [(0, .inr (.inr (some p))), (1, .inr (.inr (some a1))), (2, .inl a2), (3, .inl a3), (4, .inl v4_4), (5, .inl v5_4), (6, .inl v6_4), (7, .inl v7_6)], [.inl s0_6], sh, gc_h sh I2 J3 A) := by
        intro v7_6 s0_6 m_6 k_6
        obtain ⟨ha2_6, ha3_6, hv4_4_6, hv5_4_6, hv6_4_6, hv7_6, hs0_6, e0_6, e1_6, e2_6, e3_6⟩ := gz_h11 m_6
        have L166 : ∀ (I7 : gr_I) (J8 : gr_J) (v8_9 : Int), gc_Inv ro I7 → (∀ q j : Nat, (q = (p + 6) ∨ q = (p + 7)) ∨ I7 q j = I q j) → (∀ q j : Nat, (False) ∨ J8 q j = J q j) → ((0 ≤ a2 ∧ a2 ≤ 575) ∧ (1 ≤ a3 ∧ a3 ≤ 24) ∧ (0 ≤ v4_4 ∧ v4_4 ≤ 12) ∧ (0 ≤ v5_4 ∧ v5_4 ≤ 24) ∧ (0 ≤ v6_4 ∧ v6_4 ≤ 23) ∧ (0 ≤ v7_6 ∧ v7_6 ≤ 1) ∧ (0 ≤ v8_9 ∧ v8_9 ≤ 12) ∧ (v6_4 < a3) ∧ (v7_6 = 0 ∨ v6_4 + v4_4 ≤ a3) ∧ (v6_4 = v6_4) ∧ (v5_4 + v8_9 ≤ 24)) → (so_Fr I p I7 ∧ (v7_6 = 1 → so_onc I7 a1 p r9 a3 (v6_4 + v4_4) (v5_4 + v8_9)) ∧ (v7_6 = 0 → so_onc I7 a1 p r9 a3 (v6_4 + 1) (v5_4 + v8_9))) → gv_X (gc_E2 ws0 tb 2 (yX2_soundOnce, cX2_soundOnce, 9, (some .int)) kX2_soundOnce) (gv_Q cX2_soundOnce (some .int) sh (fun r hₚ => (∃ (Iₚ : gr_I) (Jₚ : gr_J), hₚ = gc_h sh Iₚ Jₚ A ∧ gc_Inv ro Iₚ ∧ (∀ q j : Nat, (q = (p + 6) ∨ q = (p + 7)) ∨ Iₚ q j = I q j) ∧ (∀ q j : Nat, (False) ∨ Jₚ q j = J q j) ∧ (∃ z : Int, r = some (.inl z) ∧ (-1) ≤ z ∧ z ≤ 24 ∧ so_one I a1 p r9 a3 Iₚ z)))) (166, [(0, .inr (.inr (some p))), (1, .inr (.inr (some a1))), (2, .inl a2), (3, .inl a3), (4, .inl v4_4), (5, .inl v5_4), (6, .inl v6_4), (7, .inl v7_6), (8, .inl v8_9)], [], sh, gc_h sh I7 J8 A) := by
          intro I7 J8 v8_9 hI7 FI7 FJ8 m_9 k_9
          clear ha2_6 ha3_6 hv4_4_6 hv5_4_6 hv6_4_6 hv7_6 hs0_6 e0_6 e1_6 e2_6 e3_6 ha2_5 ha3_5 hv4_4_5 hv5_4_5 hv6_4_5 hs0_5 e0_5 e1_5 ha2_4 ha3_4 hv4_4 hv5_4 hv6_4 e0_4
          obtain ⟨ha2_9, ha3_9, hv4_4_9, hv5_4_9, hv6_4_9, hv7_6_9, hv8_9, e0_9, e1_9, e2_9, e3_9⟩ := gz_h11 m_9
          have L191 : ∀ (v5_10 : Int) (s0_10 : Int) (s1_10 : Int), ((0 ≤ a2 ∧ a2 ≤ 575) ∧ (1 ≤ a3 ∧ a3 ≤ 24) ∧ (0 ≤ v4_4 ∧ v4_4 ≤ 12) ∧ (0 ≤ v5_10 ∧ v5_10 ≤ 24) ∧ (0 ≤ s0_10 ∧ s0_10 ≤ 23) ∧ (1 ≤ s1_10 ∧ s1_10 ≤ 12) ∧ (s0_10 = v6_4) ∧ (s0_10 + s1_10 ≤ a3) ∧ (1 ≤ s1_10)) → so_onc I7 a1 p r9 a3 (s0_10 + s1_10) v5_10 → gv_X (gc_E2 ws0 tb 2 (yX2_soundOnce, cX2_soundOnce, 9, (some .int)) kX2_soundOnce) (gv_Q cX2_soundOnce (some .int) sh (fun r hₚ => (∃ (Iₚ : gr_I) (Jₚ : gr_J), hₚ = gc_h sh Iₚ Jₚ A ∧ gc_Inv ro Iₚ ∧ (∀ q j : Nat, (q = (p + 6) ∨ q = (p + 7)) ∨ Iₚ q j = I q j) ∧ (∀ q j : Nat, (False) ∨ Jₚ q j = J q j) ∧ (∃ z : Int, r = some (.inl z) ∧ (-1) ≤ z ∧ z ≤ 24 ∧ so_one I a1 p r9 a3 Iₚ z)))) (191, [(0, .inr (.inr (some p))), (1, .inr (.inr (some a1))), (2, .inl a2), (3, .inl a3), (4, .inl v4_4), (5, .inl v5_10)], [.inl s1_10, .inl s0_10], sh, gc_h sh I7 J8 A) := by
            intro v5_10 s0_10 s1_10 m_10 k_10
            obtain ⟨ha2_10, ha3_10, hv4_4_10, hv5_10, hs0_10, hs1_10, e0_10, e1_10, e2_10⟩ := gz_h9 m_10
            refine gv_run 3 true hD (pcₚ := 30) (lvₚ := [(6, .inl (s0_10 + s1_10)), (0, .inr (.inr (some p))), (1, .inr (.inr (some a1))), (2, .inl a2), (3, .inl a3), (4, .inl v4_4), (5, .inl v5_10)]) (stₚ := []) (hₚ := gc_h sh I7 J8 A) (C := (((True ∧ True) ∧ True) ∧ True)) rfl ⟨⟨⟨trivial, trivial⟩, trivial⟩, trivial⟩ ?_
            refine gv_pick [1, 2, 3, 4, 5, 6, 0] rfl ?_
            exact ih30 I7 J8 v4_4 v5_10 (s0_10 + s1_10) (by (/-4-/first | (have o1 := gz_sh e0_10; have o2 := gz_sh e1_10; have o3 := gz_sh e1_9; have o4 := gz_sh ha3_9; have o5 := gz_sh hs0_10; have o6 := gz_sh hs1_10; have o7 := gz_sh hv7_6_9; omega) | (simp only [gz_hd] at *; omega))) hI7 FI7 FJ8 (by (/-5-/first | (and_intros; (omega); (omega); (have o1 := gz_sh ha3_9; omega); (omega); (omega); (have o1 := gz_sh hv4_4_9; omega); (have o1 := gz_sh hv5_10; omega); (have o1 := gz_sh hv5_10; omega); (have o1 := gz_sh hs0_10; have o2 := gz_sh hs1_10; omega); (have o1 := gz_sh e1_10; omega); (have o1 := gz_sh e1_10; omega)) | (simp only [gz_hd] at *; omega))) ⟨k_9.1, k_10, k_4.2.2⟩
          have L190 : ∀ (v5_11 : Int) (s0_11 : Int), ((0 ≤ a2 ∧ a2 ≤ 575) ∧ (1 ≤ a3 ∧ a3 ≤ 24) ∧ (0 ≤ v4_4 ∧ v4_4 ≤ 12) ∧ (0 ≤ v5_11 ∧ v5_11 ≤ 24) ∧ (0 ≤ s0_11 ∧ s0_11 ≤ 23) ∧ (s0_11 = v6_4) ∧ (s0_11 < a3)) → so_onc I7 a1 p r9 a3 (s0_11 + 1) v5_11 → gv_X (gc_E2 ws0 tb 2 (yX2_soundOnce, cX2_soundOnce, 9, (some .int)) kX2_soundOnce) (gv_Q cX2_soundOnce (some .int) sh (fun r hₚ => (∃ (Iₚ : gr_I) (Jₚ : gr_J), hₚ = gc_h sh Iₚ Jₚ A ∧ gc_Inv ro Iₚ ∧ (∀ q j : Nat, (q = (p + 6) ∨ q = (p + 7)) ∨ Iₚ q j = I q j) ∧ (∀ q j : Nat, (False) ∨ Jₚ q j = J q j) ∧ (∃ z : Int, r = some (.inl z) ∧ (-1) ≤ z ∧ z ≤ 24 ∧ so_one I a1 p r9 a3 Iₚ z)))) (190, [(0, .inr (.inr (some p))), (1, .inr (.inr (some a1))), (2, .inl a2), (3, .inl a3), (4, .inl v4_4), (5, .inl v5_11)], [.inl s0_11], sh, gc_h sh I7 J8 A) := by
            intro v5_11 s0_11 m_11 k_11
            obtain ⟨ha2_11, ha3_11, hv4_4_11, hv5_11, hs0_11, e0_11, e1_11⟩ := gz_h7 m_11
            refine gv_run 1 true hD (pcₚ := 191) (lvₚ := [(0, .inr (.inr (some p))), (1, .inr (.inr (some a1))), (2, .inl a2), (3, .inl a3), (4, .inl v4_4), (5, .inl v5_11)]) (stₚ := [.inl 1, .inl s0_11]) (hₚ := gc_h sh I7 J8 A) (C := (True ∧ True)) rfl ⟨trivial, trivial⟩ ?_
            exact L191 v5_11 s0_11 1 (by (/-6-/first | (and_intros; (omega); (omega); (have o1 := gz_sh ha3_9; omega); (omega); (omega); (have o1 := gz_sh hv4_4_9; omega); (have o1 := gz_sh hv5_11; omega); (have o1 := gz_sh hv5_11; omega); (have o1 := gz_sh hs0_11; omega); (have o1 := gz_sh hs0_11; omega); (omega); (omega); (have o1 := gz_sh e0_11; omega); (have o1 := gz_sh e0_11; have o2 := gz_sh e0_9; omega); (omega)) | (simp only [gz_hd] at *; omega))) k_11
          refine gv_run 6 true hD (pcₚ := 177) (lvₚ := [(5, .inl (v5_4 + v8_9)), (0, .inr (.inr (some p))), (1, .inr (.inr (some a1))), (2, .inl a2), (3, .inl a3), (4, .inl v4_4), (6, .inl v6_4), (7, .inl v7_6), (8, .inl v8_9)]) (stₚ := [.inl v7_6, .inl v6_4]) (hₚ := gc_h sh I7 J8 A) (C := ((((((True ∧ True) ∧ True) ∧ True) ∧ True) ∧ True) ∧ True)) rfl ⟨⟨⟨⟨⟨⟨trivial, trivial⟩, trivial⟩, trivial⟩, trivial⟩, trivial⟩, trivial⟩ ?_
          refine gv_if_eq (t := 190) hD rfl rfl ⟨by (/-7-/first | (have o1 := gz_sh hv7_6_9; omega) | (simp only [gz_hd] at *; omega)), by (/-8-/first | (have o1 := gz_sh hv7_6_9; omega) | (simp only [gz_hd] at *; omega))⟩ (fun c12 => ?_) (fun c12 => ?_)
          · show gv_X _ _ (190, [(5, .inl (v5_4 + v8_9)), (0, .inr (.inr (some p))), (1, .inr (.inr (some a1))), (2, .inl a2), (3, .inl a3), (4, .inl v4_4), (6, .inl v6_4), (7, .inl v7_6), (8, .inl v8_9)], [.inl v6_4], sh, gc_h sh I7 J8 A)
            refine gv_pick [1, 2, 3, 4, 5, 0] rfl ?_
            exact L190 (v5_4 + v8_9) v6_4 (by (/-9-/first | (and_intros; (omega); (omega); (have o1 := gz_sh ha3_9; omega); (omega); (omega); (have o1 := gz_sh hv4_4_9; omega); (have o1 := gz_sh hv5_4_9; have o2 := gz_sh hv8_9; omega); (have o1 := gz_sh e3_9; omega); (have o1 := gz_sh hv6_4_9; omega); (have o1 := gz_sh hv6_4_9; omega); (omega); (have o1 := gz_sh e0_9; omega)) | (simp only [gz_hd] at *; omega))) (k_9.2.2 c12)
          · show gv_X _ _ (180, [(5, .inl (v5_4 + v8_9)), (0, .inr (.inr (some p))), (1, .inr (.inr (some a1))), (2, .inl a2), (3, .inl a3), (4, .inl v4_4), (6, .inl v6_4), (7, .inl v7_6), (8, .inl v8_9)], [.inl v6_4], sh, gc_h sh I7 J8 A)
            refine gv_run 1 true hD (pcₚ := 182) (lvₚ := [(5, .inl (v5_4 + v8_9)), (0, .inr (.inr (some p))), (1, .inr (.inr (some a1))), (2, .inl a2), (3, .inl a3), (4, .inl v4_4), (6, .inl v6_4), (7, .inl v7_6), (8, .inl v8_9)]) (stₚ := [.inl v4_4, .inl v6_4]) (hₚ := gc_h sh I7 J8 A) (C := (True ∧ True)) rfl ⟨trivial, trivial⟩ ?_
            refine gv_if_le (t := 190) hD rfl rfl ⟨by (/-10-/first | omega | (simp only [gz_hd] at *; omega)), by (/-11-/first | (have o1 := gz_sh hv4_4_9; omega) | (simp only [gz_hd] at *; omega))⟩ (fun c13 => ?_) (fun c13 => ?_)
            · show gv_X _ _ (190, [(5, .inl (v5_4 + v8_9)), (0, .inr (.inr (some p))), (1, .inr (.inr (some a1))), (2, .inl a2), (3, .inl a3), (4, .inl v4_4), (6, .inl v6_4), (7, .inl v7_6), (8, .inl v8_9)], [.inl v6_4], sh, gc_h sh I7 J8 A)
              refine gv_pick [1, 2, 3, 4, 5, 0] rfl ?_
              exact L190 (v5_4 + v8_9) v6_4 (by (/-12-/first | (and_intros; (have o1 := gz_sh hv4_4_9; omega); (have o1 := gz_sh hv4_4_9; omega); (have o1 := gz_sh hv4_4_9; omega); (have o1 := gz_sh hv4_4_9; omega); (have o1 := gz_sh hv4_4_9; omega); (have o1 := gz_sh hv4_4_9; omega); (have o1 := gz_sh hv4_4_9; omega); (have o1 := gz_sh hv4_4_9; omega); (have o1 := gz_sh hv4_4_9; omega); (have o1 := gz_sh hv4_4_9; omega); (have o1 := gz_sh hv4_4_9; omega); (have o1 := gz_sh hv4_4_9; omega)) | (simp only [gz_hd] at *; omega))) (by exfalso; (/-13-/first | (have o1 := gz_sh hv4_4_9; omega) | (simp only [gz_hd] at *; omega)))
            · show gv_X _ _ (185, [(5, .inl (v5_4 + v8_9)), (0, .inr (.inr (some p))), (1, .inr (.inr (some a1))), (2, .inl a2), (3, .inl a3), (4, .inl v4_4), (6, .inl v6_4), (7, .inl v7_6), (8, .inl v8_9)], [.inl v6_4], sh, gc_h sh I7 J8 A)
              refine gv_run 2 true hD (pcₚ := 191) (lvₚ := [(5, .inl (v5_4 + v8_9)), (0, .inr (.inr (some p))), (1, .inr (.inr (some a1))), (2, .inl a2), (3, .inl a3), (4, .inl v4_4), (6, .inl v6_4), (7, .inl v7_6), (8, .inl v8_9)]) (stₚ := [.inl v4_4, .inl v6_4]) (hₚ := gc_h sh I7 J8 A) (C := ((True ∧ True) ∧ True)) rfl ⟨⟨trivial, trivial⟩, trivial⟩ ?_
              refine gv_pick [1, 2, 3, 4, 5, 0] rfl ?_
              exact L191 (v5_4 + v8_9) v6_4 v4_4 (by (/-14-/first | (and_intros; (omega); (omega); (have o1 := gz_sh ha3_9; omega); (omega); (omega); (have o1 := gz_sh hv4_4_9; omega); (have o1 := gz_sh hv5_4_9; have o2 := gz_sh hv8_9; omega); (have o1 := gz_sh e3_9; omega); (have o1 := gz_sh hv6_4_9; omega); (have o1 := gz_sh hv6_4_9; omega); (omega); (have o1 := gz_sh hv4_4_9; omega); (omega); (have o1 := gz_sh e1_9; have o2 := gz_sh hv7_6_9; omega); (omega)) | (simp only [gz_hd] at *; omega))) (k_9.2.1 (by (/-15-/first | (have o1 := gz_sh hv7_6_9; omega) | (simp only [gz_hd] at *; omega))))
        refine gv_run 5 true hD (pcₚ := 116) (lvₚ := [(8, .inl s0_6), (0, .inr (.inr (some p))), (1, .inr (.inr (some a1))), (2, .inl a2), (3, .inl a3), (4, .inl v4_4), (5, .inl v5_4), (6, .inl v6_4), (7, .inl v7_6)]) (stₚ := [.inl 24, .inl (v5_4 + s0_6)]) (hₚ := gc_h sh I2 J3 A) (C := (((((True ∧ True) ∧ True) ∧ True) ∧ True) ∧ True)) rfl ⟨⟨⟨⟨⟨trivial, trivial⟩, trivial⟩, trivial⟩, trivial⟩, trivial⟩ ?_
        refine gv_icmp_le (t := 121) hD rfl rfl ⟨⟨by (/-16-/first | (have o1 := gz_sh hs0_6; have o2 := gz_sh hv5_4; omega) | (simp only [gz_hd] at *; omega)), by (/-17-/first | (have o1 := gz_sh hs0_6; have o2 := gz_sh hv5_4; omega) | (simp only [gz_hd] at *; omega))⟩, ⟨by (/-18-/first | omega | (simp only [gz_hd] at *; omega)), by (/-19-/first | omega | (simp only [gz_hd] at *; omega))⟩⟩ (fun c14 => ?_) (fun c14 => ?_)
        · show gv_X _ _ (121, [(8, .inl s0_6), (0, .inr (.inr (some p))), (1, .inr (.inr (some a1))), (2, .inl a2), (3, .inl a3), (4, .inl v4_4), (5, .inl v5_4), (6, .inl v6_4), (7, .inl v7_6)], [], sh, gc_h sh I2 J3 A)
          refine gv_run 1 true hD (pcₚ := 123) (lvₚ := [(8, .inl s0_6), (0, .inr (.inr (some p))), (1, .inr (.inr (some a1))), (2, .inl a2), (3, .inl a3), (4, .inl v4_4), (5, .inl v5_4), (6, .inl v6_4), (7, .inl v7_6)]) (stₚ := [.inl v7_6]) (hₚ := gc_h sh I2 J3 A) (C := (True ∧ True)) rfl ⟨trivial, trivial⟩ ?_
          refine gv_if_eq (t := 152) hD rfl rfl ⟨by (/-20-/first | (have o1 := gz_sh hv7_6; omega) | (simp only [gz_hd] at *; omega)), by (/-21-/first | (have o1 := gz_sh hv7_6; omega) | (simp only [gz_hd] at *; omega))⟩ (fun c15 => ?_) (fun c15 => ?_)
          · show gv_X _ _ (152, [(8, .inl s0_6), (0, .inr (.inr (some p))), (1, .inr (.inr (some a1))), (2, .inl a2), (3, .inl a3), (4, .inl v4_4), (5, .inl v5_4), (6, .inl v6_4), (7, .inl v7_6)], [], sh, gc_h sh I2 J3 A)
            refine gv_run 1 true hD (pcₚ := 153) (lvₚ := [(8, .inl s0_6), (0, .inr (.inr (some p))), (1, .inr (.inr (some a1))), (2, .inl a2), (3, .inl a3), (4, .inl v4_4), (5, .inl v5_4), (6, .inl v6_4), (7, .inl v7_6)]) (stₚ := [.inr (.inr (some p))]) (hₚ := gc_h sh I2 J3 A) (C := (True ∧ True)) rfl ⟨trivial, trivial⟩ ?_
            have f17 := gz_hi ((show 0 ≤ I2 p 7 ∧ I2 p 7 ≤ 1 from gc_in2 hI2 (gz_sh R_p) rfl rfl rfl))
            obtain ⟨f16_, hq_f16_, S_f16, R_f16, B_f16, D_f16⟩ := gc_sw (p := p) (d := 6) (s := 1) (z := I2 p 7) (show 0 ≤ I2 p 7 ∧ I2 p 7 ≤ 1 from gc_in2 hI2 (gz_sh R_p) rfl rfl rfl) S_p_6 (gz_sh R_p_6) (gz_sh B_p_6) S_p_7 (gz_sh R_p_7) (gz_sh B_p_7)
            refine gv_get hD rfl rfl S_p ⟨by decide, (gz_sh B_p)⟩ (gc_hS (n := 6) S_p rfl hq_f16_) ?_
            show gv_X _ _ (156, [(8, .inl s0_6), (0, .inr (.inr (some p))), (1, .inr (.inr (some a1))), (2, .inl a2), (3, .inl a3), (4, .inl v4_4), (5, .inl v5_4), (6, .inl v6_4), (7, .inl v7_6)], [.inr (.inr (some f16_))], sh, gc_h sh I2 J3 A)
            refine gv_run 2 true hD (pcₚ := 159) (lvₚ := [(8, .inl s0_6), (0, .inr (.inr (some p))), (1, .inr (.inr (some a1))), (2, .inl a2), (3, .inl a3), (4, .inl v4_4), (5, .inl v5_4), (6, .inl v6_4), (7, .inl v7_6)]) (stₚ := [.inr (.inr (some p)), .inl v5_4, .inr (.inr (some f16_))]) (hₚ := gc_h sh I2 J3 A) (C := ((True ∧ True) ∧ True)) rfl ⟨⟨trivial, trivial⟩, trivial⟩ ?_
            have f19 := gz_hi ((show 0 ≤ I2 p 6 ∧ I2 p 6 ≤ 1 from gc_in2 hI2 (gz_sh R_p) rfl rfl rfl))
            obtain ⟨f18_, hq_f18_, S_f18, R_f18, B_f18, D_f18⟩ := gc_sw (p := p) (d := 6) (s := 1) (z := I2 p 6) (show 0 ≤ I2 p 6 ∧ I2 p 6 ≤ 1 from gc_in2 hI2 (gz_sh R_p) rfl rfl rfl) S_p_6 (gz_sh R_p_6) (gz_sh B_p_6) S_p_7 (gz_sh R_p_7) (gz_sh B_p_7)
            refine gv_get hD rfl rfl S_p ⟨by decide, (gz_sh B_p)⟩ (gc_hS (n := 6) S_p rfl hq_f18_) ?_
            show gv_X _ _ (162, [(8, .inl s0_6), (0, .inr (.inr (some p))), (1, .inr (.inr (some a1))), (2, .inl a2), (3, .inl a3), (4, .inl v4_4), (5, .inl v5_4), (6, .inl v6_4), (7, .inl v7_6)], [.inr (.inr (some f18_)), .inl v5_4, .inr (.inr (some f16_))], sh, gc_h sh I2 J3 A)
            refine gv_run 1 true hD (pcₚ := 164) (lvₚ := [(8, .inl s0_6), (0, .inr (.inr (some p))), (1, .inr (.inr (some a1))), (2, .inl a2), (3, .inl a3), (4, .inl v4_4), (5, .inl v5_4), (6, .inl v6_4), (7, .inl v7_6)]) (stₚ := [.inl v6_4, .inr (.inr (some f18_)), .inl v5_4, .inr (.inr (some f16_))]) (hₚ := gc_h sh I2 J3 A) (C := (True ∧ True)) rfl ⟨trivial, trivial⟩ ?_
            have f20 := gz_hi ((show (-128) ≤ I2 f18_ (Int.toNat v6_4) ∧ I2 f18_ (Int.toNat v6_4) ≤ 127 from gc_in2 hI2 R_f18 rfl rfl rfl))
            refine gv_bald hD rfl S_f18 (Or.inl rfl) ⟨by decide, B_f18⟩ ⟨by (/-22-/first | (have o1 := gz_sh hv6_4; omega) | (simp only [gz_hd] at *; omega)), by (/-23-/first | (have o1 := gz_sh hv6_4_5; omega) | (simp only [gz_hd] at *; omega))⟩ (gc_iI S_f18 rfl) ?_
            show gv_X _ _ (165, [(8, .inl s0_6), (0, .inr (.inr (some p))), (1, .inr (.inr (some a1))), (2, .inl a2), (3, .inl a3), (4, .inl v4_4), (5, .inl v5_4), (6, .inl v6_4), (7, .inl v7_6)], [.inl (I2 f18_ (Int.toNat v6_4)), .inl v5_4, .inr (.inr (some f16_))], sh, gc_h sh I2 J3 A)
            have f21 := gz_hi (gc_nar (x := ((I2 f18_ (Int.toNat v6_4)))) ⟨by (/-24-/first | (have o1 := gz_sh f20; omega) | (simp only [gz_hd] at *; omega)), by (/-25-/first | (have o1 := gz_sh f20; omega) | (simp only [gz_hd] at *; omega))⟩)
            refine gv_bast hD rfl S_f16 ⟨by decide, B_f16⟩ ⟨by (/-26-/first | (have o1 := gz_sh hv5_4; omega) | (simp only [gz_hd] at *; omega)), by (/-27-/first | (have o1 := gz_sh e3_6; omega) | (simp only [gz_hd] at *; omega))⟩ ?_
            refine gc_st hI2 S_f16 rfl R_f16 (lo := (-128)) (hi := 127) rfl rfl (by (/-28-/first | (have o1 := gz_sh f20; have o2 := gz_sh f21; omega) | (simp only [gz_hd] at *; omega))) (by (/-29-/first | (have o1 := gz_sh f20; have o2 := gz_sh f21; omega) | (simp only [gz_hd] at *; omega))) (fun I22 hI22 q23 p23 => ?_)
            have FI22 := gc_frs (W := fun q j => q = (p + 6) ∨ q = (p + 7)) FI2 (show f16_ = (p + 6) ∨ f16_ = (p + 7) from by (/-30-/first | omega | (simp only [gz_hd] at *; omega))) p23
            show gv_X _ _ (166, [(8, .inl s0_6), (0, .inr (.inr (some p))), (1, .inr (.inr (some a1))), (2, .inl a2), (3, .inl a3), (4, .inl v4_4), (5, .inl v5_4), (6, .inl v6_4), (7, .inl v7_6)], [], sh, gc_h sh I22 J3 A)
            refine gv_pick [1, 2, 3, 4, 5, 6, 7, 8, 0] rfl ?_
            exact L166 I22 J3 s0_6 hI22 FI22 FJ3 (by (/-31-/first | (and_intros; (omega); (omega); (have o1 := gz_sh ha3_5; omega); (omega); (omega); (have o1 := gz_sh hv4_4; omega); (have o1 := gz_sh hv5_4; omega); (have o1 := gz_sh hv5_4; omega); (have o1 := gz_sh hv6_4; omega); (have o1 := gz_sh hv6_4_5; omega); (omega); (omega); (have o1 := gz_sh hs0_6; omega); (have o1 := gz_sh hs0_6; omega); (have o1 := gz_sh e0_5; omega); (omega); (omega); (omega)) | (simp only [gz_hd] at *; omega))) ⟨so_Fr_tr k_4.1 (I3 := I22) (fun q j h => p23 q j (fun g => h (g.1.trans hq_f16_.symm))), fun g => absurd g (by (/-32-/first | omega | (simp only [gz_hd] at *; omega))), fun _ => by rw [show s0_6 = 1 from (k_6.resolve_left (fun g => by have := g.1; (/-33-/first | omega | (simp only [gz_hd] at *; omega)))).2.1]; exact (so_onc_s (I := I2) (fun q j h => p23 q j (fun g => h (g.1.trans hq_f16_.symm))) x2 G_a1 fn_4 (so_on_n k_4.2.1 (by (/-34-/first | (have o1 := gz_sh e0_6; omega) | (simp only [gz_hd] at *; omega))) (k_6.resolve_left (fun g => by have := g.1; (/-35-/first | omega | (simp only [gz_hd] at *; omega)))).2.2 (by (/-36-/first | (have o1 := gz_sh e3_6; omega) | (simp only [gz_hd] at *; omega)))) (so_app_s0 (m := v5_4) (c := Int.toNat v5_4) (g := I2 (so_fb I2 p 7)) (by (/-37-/first | (have o1 := gz_sh hv5_4; omega) | (simp only [gz_hd] at *; omega))) rfl (fun j hj => p23 _ j (fun g => hj g.2)) (by rw [show so_fb I2 p 7 = f16_ from hq_f16_]; exact q23.trans ((gz_sh f21).trans ((show I2 f18_ (Int.toNat v6_4) = I2 (so_fb I2 p 6) (Int.toNat v6_4) by rw [show so_fb I2 p 6 = f18_ from hq_f18_]).trans (so_b_i (n := a3) (g := I2 (so_fb I2 p 6)) (k := v6_4) (by (/-38-/first | (have o1 := gz_sh hv6_4; omega) | (simp only [gz_hd] at *; omega))) (by (/-39-/first | (have o1 := gz_sh e0_6; omega) | (simp only [gz_hd] at *; omega)))).symm)))))⟩
          · show gv_X _ _ (126, [(8, .inl s0_6), (0, .inr (.inr (some p))), (1, .inr (.inr (some a1))), (2, .inl a2), (3, .inl a3), (4, .inl v4_4), (5, .inl v5_4), (6, .inl v6_4), (7, .inl v7_6)], [], sh, gc_h sh I2 J3 A)
            refine gv_run 1 true hD (pcₚ := 127) (lvₚ := [(8, .inl s0_6), (0, .inr (.inr (some p))), (1, .inr (.inr (some a1))), (2, .inl a2), (3, .inl a3), (4, .inl v4_4), (5, .inl v5_4), (6, .inl v6_4), (7, .inl v7_6)]) (stₚ := [.inr (.inr (some p))]) (hₚ := gc_h sh I2 J3 A) (C := (True ∧ True)) rfl ⟨trivial, trivial⟩ ?_
            refine gv_get hD rfl rfl S_p ⟨by decide, (gz_sh B_p)⟩ (gc_hA S_p rfl A_p_0) ?_
            show gv_X _ _ (130, [(8, .inl s0_6), (0, .inr (.inr (some p))), (1, .inr (.inr (some a1))), (2, .inl a2), (3, .inl a3), (4, .inl v4_4), (5, .inl v5_4), (6, .inl v6_4), (7, .inl v7_6)], [.inr (.inr (some 20))], sh, gc_h sh I2 J3 A)
            refine gv_run 1 true hD (pcₚ := 131) (lvₚ := [(8, .inl s0_6), (0, .inr (.inr (some p))), (1, .inr (.inr (some a1))), (2, .inl a2), (3, .inl a3), (4, .inl v4_4), (5, .inl v5_4), (6, .inl v6_4), (7, .inl v7_6)]) (stₚ := [.inr (.inr (some a1)), .inr (.inr (some 20))]) (hₚ := gc_h sh I2 J3 A) (C := (True ∧ True)) rfl ⟨trivial, trivial⟩ ?_
            refine gv_get hD rfl rfl S_a1 ⟨by decide, (gz_sh B_a1)⟩ (gc_hA S_a1 rfl A_a1_7) ?_
            show gv_X _ _ (134, [(8, .inl s0_6), (0, .inr (.inr (some p))), (1, .inr (.inr (some a1))), (2, .inl a2), (3, .inl a3), (4, .inl v4_4), (5, .inl v5_4), (6, .inl v6_4), (7, .inl v7_6)], [.inr (.inr (some (a1 + 10))), .inr (.inr (some 20))], sh, gc_h sh I2 J3 A)
            refine gv_run 3 true hD (pcₚ := 137) (lvₚ := [(8, .inl s0_6), (0, .inr (.inr (some p))), (1, .inr (.inr (some a1))), (2, .inl a2), (3, .inl a3), (4, .inl v4_4), (5, .inl v5_4), (6, .inl v6_4), (7, .inl v7_6)]) (stₚ := [.inl (a2 + 3), .inr (.inr (some (a1 + 10))), .inr (.inr (some 20))]) (hₚ := gc_h sh I2 J3 A) (C := (((True ∧ True) ∧ True) ∧ True)) rfl ⟨⟨⟨trivial, trivial⟩, trivial⟩, trivial⟩ ?_
            have f24 := gz_hi ((show 0 ≤ I2 (a1 + 10) (Int.toNat (a2 + 3)) ∧ I2 (a1 + 10) (Int.toNat (a2 + 3)) ≤ 2000 from gc_inm (c := 3) hI2 (gz_sh R_a1_10) rfl rfl (by (/-40-/first | omega | (simp only [gz_hd] at *; omega))) rfl rfl))
            refine gv_iald hD rfl S_a1_10 rfl ⟨by decide, (gz_sh B_a1_10)⟩ ⟨by (/-41-/first | omega | (simp only [gz_hd] at *; omega)), by (/-42-/first | omega | (simp only [gz_hd] at *; omega))⟩ (gc_iI S_a1_10 rfl) ?_
            show gv_X _ _ (138, [(8, .inl s0_6), (0, .inr (.inr (some p))), (1, .inr (.inr (some a1))), (2, .inl a2), (3, .inl a3), (4, .inl v4_4), (5, .inl v5_4), (6, .inl v6_4), (7, .inl v7_6)], [.inl (I2 (a1 + 10) (Int.toNat (a2 + 3))), .inr (.inr (some 20))], sh, gc_h sh I2 J3 A)
            refine gv_run 1 true hD (pcₚ := 139) (lvₚ := [(8, .inl s0_6), (0, .inr (.inr (some p))), (1, .inr (.inr (some a1))), (2, .inl a2), (3, .inl a3), (4, .inl v4_4), (5, .inl v5_4), (6, .inl v6_4), (7, .inl v7_6)]) (stₚ := [.inr (.inr (some p)), .inl (I2 (a1 + 10) (Int.toNat (a2 + 3))), .inr (.inr (some 20))]) (hₚ := gc_h sh I2 J3 A) (C := (True ∧ True)) rfl ⟨trivial, trivial⟩ ?_
            have f26 := gz_hi ((show 0 ≤ I2 p 7 ∧ I2 p 7 ≤ 1 from gc_in2 hI2 (gz_sh R_p) rfl rfl rfl))
            obtain ⟨f25_, hq_f25_, S_f25, R_f25, B_f25, D_f25⟩ := gc_sw (p := p) (d := 6) (s := 1) (z := I2 p 7) (show 0 ≤ I2 p 7 ∧ I2 p 7 ≤ 1 from gc_in2 hI2 (gz_sh R_p) rfl rfl rfl) S_p_6 (gz_sh R_p_6) (gz_sh B_p_6) S_p_7 (gz_sh R_p_7) (gz_sh B_p_7)
            refine gv_get hD rfl rfl S_p ⟨by decide, (gz_sh B_p)⟩ (gc_hS (n := 6) S_p rfl hq_f25_) ?_
            show gv_X _ _ (142, [(8, .inl s0_6), (0, .inr (.inr (some p))), (1, .inr (.inr (some a1))), (2, .inl a2), (3, .inl a3), (4, .inl v4_4), (5, .inl v5_4), (6, .inl v6_4), (7, .inl v7_6)], [.inr (.inr (some f25_)), .inl (I2 (a1 + 10) (Int.toNat (a2 + 3))), .inr (.inr (some 20))], sh, gc_h sh I2 J3 A)
            refine gv_run 2 true hD (pcₚ := 146) (lvₚ := [(8, .inl s0_6), (0, .inr (.inr (some p))), (1, .inr (.inr (some a1))), (2, .inl a2), (3, .inl a3), (4, .inl v4_4), (5, .inl v5_4), (6, .inl v6_4), (7, .inl v7_6)]) (stₚ := [.inl s0_6, .inl v5_4, .inr (.inr (some f25_)), .inl (I2 (a1 + 10) (Int.toNat (a2 + 3))), .inr (.inr (some 20))]) (hₚ := gc_h sh I2 J3 A) (C := ((True ∧ True) ∧ True)) rfl ⟨⟨trivial, trivial⟩, trivial⟩ ?_
            refine gv_copy hD rfl (gc_lC2_71 hws) (Nat.le_of_ble_eq_true rfl) ⟨(gz_sh B_20), B_f25⟩ S_20 S_f25 (by decide) ⟨by decide, by decide⟩ ⟨by (/-43-/first | (have o1 := gz_sh f24; omega) | (simp only [gz_hd] at *; omega)), by (/-44-/first | (have o1 := gz_sh hv5_4; omega) | (simp only [gz_hd] at *; omega)), by (/-45-/first | (have o1 := gz_sh hs0_6; omega) | (simp only [gz_hd] at *; omega))⟩ (by (/-46-/first | (have o1 := gz_sh f24; have o2 := gz_sh hs0_6; omega) | (simp only [gz_hd] at *; omega))) (by (/-47-/first | omega | (simp only [gz_hd] at *; omega))) (fun _ k _ => by rw [gc_iI S_20 rfl]; have h9 := (gc_b_36 hI2 (gz_sh R_20) (Int.toNat ((I2 (a1 + 10) (Int.toNat (a2 + 3)))) + k)); exact ⟨by (/-48-/first | omega | (simp only [gz_hd] at *; omega)), by (/-49-/first | omega | (simp only [gz_hd] at *; omega))⟩) ?_
            refine gc_cp hI2 S_20 S_f25 (by decide) (fun j hj => by have h9 := (gc_b_36 hI2 (gz_sh R_20) (Int.toNat ((I2 (a1 + 10) (Int.toNat (a2 + 3)))) + j)); rw [R_f25]; exact ⟨by show (-128) ≤ _; (/-50-/first | omega | (simp only [gz_hd] at *; omega)), by show _ ≤ 127; (/-51-/first | omega | (simp only [gz_hd] at *; omega))⟩) (fun I28 hI28 p27 q27 => ?_)
            have FI28 := gc_frp (W := fun q j => q = (p + 6) ∨ q = (p + 7)) (V := fun q j => q = f25_ ∧ Int.toNat v5_4 ≤ j ∧ j < Int.toNat v5_4 + Int.toNat s0_6) FI2 (fun q j h => (show q = (p + 6) ∨ q = (p + 7) from by have := h.1; (/-52-/first | omega | (simp only [gz_hd] at *; omega)))) p27
            show gv_X _ _ (149, [(8, .inl s0_6), (0, .inr (.inr (some p))), (1, .inr (.inr (some a1))), (2, .inl a2), (3, .inl a3), (4, .inl v4_4), (5, .inl v5_4), (6, .inl v6_4), (7, .inl v7_6)], [], sh, gc_h sh I28 J3 A)
            refine gv_run 1 true hD (pcₚ := 166) (lvₚ := [(8, .inl s0_6), (0, .inr (.inr (some p))), (1, .inr (.inr (some a1))), (2, .inl a2), (3, .inl a3), (4, .inl v4_4), (5, .inl v5_4), (6, .inl v6_4), (7, .inl v7_6)]) (stₚ := []) (hₚ := gc_h sh I28 J3 A) (C := (True ∧ True)) rfl ⟨trivial, trivial⟩ ?_
            refine gv_pick [1, 2, 3, 4, 5, 6, 7, 8, 0] rfl ?_
            exact L166 I28 J3 s0_6 hI28 FI28 FJ3 (by (/-53-/first | (and_intros; (omega); (omega); (have o1 := gz_sh ha3_5; omega); (omega); (omega); (have o1 := gz_sh hv4_4; omega); (have o1 := gz_sh hv5_4; omega); (have o1 := gz_sh hv5_4; omega); (have o1 := gz_sh hv6_4; omega); (have o1 := gz_sh hv6_4_5; omega); (have o1 := gz_sh hv7_6; omega); (have o1 := gz_sh hv7_6; omega); (have o1 := gz_sh hs0_6; omega); (have o1 := gz_sh hs0_6; omega); (have o1 := gz_sh e0_5; omega); (have o1 := gz_sh e1_6; have o2 := gz_sh hv7_6; omega); (omega); (omega)) | (simp only [gz_hd] at *; omega))) ⟨so_Fr_tr k_4.1 (I3 := I28) (fun q j h => p27 q j (fun g => h (g.1.trans hq_f25_.symm))), fun _ => (by have r8 := (so_rc_r (I := I2) (t := a1) y2 y3); have e8 := (k_6.resolve_right (fun g => by have := g.1; (/-54-/first | omega | (simp only [gz_hd] at *; omega)))).2.1; have h8 := so_on_h k_4.2.1 (by (/-55-/first | (have o1 := gz_sh e0_6; omega) | (simp only [gz_hd] at *; omega))) (k_6.resolve_right (fun g => by have := g.1; (/-56-/first | omega | (simp only [gz_hd] at *; omega)))).2.2 (by rw [r8]; show v5_4 + I2 (a1 + 10) (Int.toNat (a2 + 4)) ≤ 24; (/-57-/first | omega | (simp only [gz_hd] at *; omega))); rw [r8] at h8; rw [e8]; exact so_onc_s (I := I2) (fun q j h => p27 q j (fun g => h (g.1.trans hq_f25_.symm))) x2 G_a1 fn_4 h8 (so_app_c (m := v5_4) (k := I2 (a1 + 10) (Int.toNat (a2 + 4))) (g := I2 (so_fb I2 p 7)) (by (/-58-/first | (have o1 := gz_sh hv5_4; omega) | (simp only [gz_hd] at *; omega))) (by (/-59-/first | (have o1 := gz_sh hs0_6; omega) | (simp only [gz_hd] at *; omega))) (fun j hj => p27 _ j (fun g => hj (by rw [← e8]; exact g.2))) (fun j hj => by rw [show so_fb I2 p 7 = f25_ from hq_f25_, q27 j (by (/-60-/first | (have o1 := gz_sh hs0_6; omega) | (simp only [gz_hd] at *; omega)))]; exact (show I2 20 (Int.toNat (I2 (a1 + 10) (Int.toNat (a2 + 3))) + j) = I2 20 (Int.toNat (I2 (a1 + 10) (Int.toNat (a2 + 3)) + (j : Int))) by rw [show Int.toNat (I2 (a1 + 10) (Int.toNat (a2 + 3)) + (j : Int)) = Int.toNat (I2 (a1 + 10) (Int.toNat (a2 + 3))) + j from by (/-61-/first | (have o1 := gz_sh f24; omega) | (simp only [gz_hd] at *; omega))]).trans (so_cut_i (n := I2 (a1 + 10) (Int.toNat (a2 + 4))) (k := (j : Int)) (r := fun i => I2 20 (Int.toNat (I2 (a1 + 10) (Int.toNat (a2 + 3)) + i))) (by (/-62-/first | omega | (simp only [gz_hd] at *; omega))) (by (/-63-/first | omega | (simp only [gz_hd] at *; omega)))).symm))), fun g => absurd g (by (/-64-/first | omega | (simp only [gz_hd] at *; omega)))⟩
        · show gv_X _ _ (119, [(8, .inl s0_6), (0, .inr (.inr (some p))), (1, .inr (.inr (some a1))), (2, .inl a2), (3, .inl a3), (4, .inl v4_4), (5, .inl v5_4), (6, .inl v6_4), (7, .inl v7_6)], [], sh, gc_h sh I2 J3 A)
          refine gv_run 1 true hD (pcₚ := 120) (lvₚ := [(8, .inl s0_6), (0, .inr (.inr (some p))), (1, .inr (.inr (some a1))), (2, .inl a2), (3, .inl a3), (4, .inl v4_4), (5, .inl v5_4), (6, .inl v6_4), (7, .inl v7_6)]) (stₚ := [.inl (-1)]) (hₚ := gc_h sh I2 J3 A) (C := (True ∧ True)) rfl ⟨trivial, trivial⟩ ?_
          exact gv_iret hD rfl ⟨I2, J3, rfl, hI2, FI2, FJ3, ⟨_, rfl, by (/-65-/first | omega | (simp only [gz_hd] at *; omega)), by (/-66-/first | omega | (simp only [gz_hd] at *; omega)), so_one_x (fin := fun _ => 0) k_4.1 x2 G_a1 fn (by rcases k_6 with ⟨_, e8, g8⟩ | ⟨_, e8, g8⟩; (exact so_on_hx k_4.2.1 (by (/-67-/first | (have o1 := gz_sh e0_6; omega) | (simp only [gz_hd] at *; omega))) g8 (by rw [(so_rc_r (I := I2) (t := a1) y2 y3)]; show 24 < v5_4 + I2 (a1 + 10) (Int.toNat (a2 + 4)); (/-68-/first | omega | (simp only [gz_hd] at *; omega))) (fun _ => 0)); (exact so_on_nx k_4.2.1 (by (/-69-/first | (have o1 := gz_sh e0_6; omega) | (simp only [gz_hd] at *; omega))) g8 (by (/-70-/first | omega | (simp only [gz_hd] at *; omega))) (fun _ => 0)))⟩⟩
      refine gv_run 2 true hD (pcₚ := 92) (lvₚ := [(7, .inl s0_5), (0, .inr (.inr (some p))), (1, .inr (.inr (some a1))), (2, .inl a2), (3, .inl a3), (4, .inl v4_4), (5, .inl v5_4), (6, .inl v6_4)]) (stₚ := [.inl s0_5]) (hₚ := gc_h sh I2 J3 A) (C := ((True ∧ True) ∧ True)) rfl ⟨⟨trivial, trivial⟩, trivial⟩ ?_
      refine gv_if_eq (t := 106) hD rfl rfl ⟨by (/-71-/first | (have o1 := gz_sh hs0_5; omega) | (simp only [gz_hd] at *; omega)), by (/-72-/first | (have o1 := gz_sh hs0_5; omega) | (simp only [gz_hd] at *; omega))⟩ (fun c30 => ?_) (fun c30 => ?_)
      · show gv_X _ _ (106, [(7, .inl s0_5), (0, .inr (.inr (some p))), (1, .inr (.inr (some a1))), (2, .inl a2), (3, .inl a3), (4, .inl v4_4), (5, .inl v5_4), (6, .inl v6_4)], [], sh, gc_h sh I2 J3 A)
        refine gv_run 1 true hD (pcₚ := 107) (lvₚ := [(7, .inl s0_5), (0, .inr (.inr (some p))), (1, .inr (.inr (some a1))), (2, .inl a2), (3, .inl a3), (4, .inl v4_4), (5, .inl v5_4), (6, .inl v6_4)]) (stₚ := [.inl 1]) (hₚ := gc_h sh I2 J3 A) (C := (True ∧ True)) rfl ⟨trivial, trivial⟩ ?_
        refine gv_pick [1, 2, 3, 4, 5, 6, 7, 0] rfl ?_
        exact L107 s0_5 1 (by (/-73-/first | (and_intros; (omega); (omega); (have o1 := gz_sh ha3_5; omega); (omega); (omega); (have o1 := gz_sh hv4_4; omega); (have o1 := gz_sh hv5_4; omega); (have o1 := gz_sh hv5_4; omega); (have o1 := gz_sh hv6_4; omega); (have o1 := gz_sh hv6_4_5; omega); (omega); (omega); (omega); (omega); (have o1 := gz_sh e0_5; omega); (omega); (omega); (omega)) | (simp only [gz_hd] at *; omega))) (Or.inr ⟨c30, rfl, (k_5.resolve_left (fun g => by have := g.1; (/-74-/first | omega | (simp only [gz_hd] at *; omega)))).2⟩)
      · show gv_X _ _ (95, [(7, .inl s0_5), (0, .inr (.inr (some p))), (1, .inr (.inr (some a1))), (2, .inl a2), (3, .inl a3), (4, .inl v4_4), (5, .inl v5_4), (6, .inl v6_4)], [], sh, gc_h sh I2 J3 A)
        refine gv_run 1 true hD (pcₚ := 96) (lvₚ := [(7, .inl s0_5), (0, .inr (.inr (some p))), (1, .inr (.inr (some a1))), (2, .inl a2), (3, .inl a3), (4, .inl v4_4), (5, .inl v5_4), (6, .inl v6_4)]) (stₚ := [.inr (.inr (some a1))]) (hₚ := gc_h sh I2 J3 A) (C := (True ∧ True)) rfl ⟨trivial, trivial⟩ ?_
        refine gv_get hD rfl rfl S_a1 ⟨by decide, (gz_sh B_a1)⟩ (gc_hA S_a1 rfl A_a1_7) ?_
        show gv_X _ _ (99, [(7, .inl s0_5), (0, .inr (.inr (some p))), (1, .inr (.inr (some a1))), (2, .inl a2), (3, .inl a3), (4, .inl v4_4), (5, .inl v5_4), (6, .inl v6_4)], [.inr (.inr (some (a1 + 10)))], sh, gc_h sh I2 J3 A)
        refine gv_run 3 true hD (pcₚ := 102) (lvₚ := [(7, .inl s0_5), (0, .inr (.inr (some p))), (1, .inr (.inr (some a1))), (2, .inl a2), (3, .inl a3), (4, .inl v4_4), (5, .inl v5_4), (6, .inl v6_4)]) (stₚ := [.inl (a2 + 4), .inr (.inr (some (a1 + 10)))]) (hₚ := gc_h sh I2 J3 A) (C := (((True ∧ True) ∧ True) ∧ True)) rfl ⟨⟨⟨trivial, trivial⟩, trivial⟩, trivial⟩ ?_
        have f31 := gz_hi ((show 0 ≤ I2 (a1 + 10) (Int.toNat (a2 + 4)) ∧ I2 (a1 + 10) (Int.toNat (a2 + 4)) ≤ 12 from gc_inm (c := 4) hI2 (gz_sh R_a1_10) rfl rfl (by (/-75-/first | omega | (simp only [gz_hd] at *; omega))) rfl rfl))
        refine gv_iald hD rfl S_a1_10 rfl ⟨by decide, (gz_sh B_a1_10)⟩ ⟨by (/-76-/first | omega | (simp only [gz_hd] at *; omega)), by (/-77-/first | omega | (simp only [gz_hd] at *; omega))⟩ (gc_iI S_a1_10 rfl) ?_
        show gv_X _ _ (103, [(7, .inl s0_5), (0, .inr (.inr (some p))), (1, .inr (.inr (some a1))), (2, .inl a2), (3, .inl a3), (4, .inl v4_4), (5, .inl v5_4), (6, .inl v6_4)], [.inl (I2 (a1 + 10) (Int.toNat (a2 + 4)))], sh, gc_h sh I2 J3 A)
        refine gv_run 1 true hD (pcₚ := 107) (lvₚ := [(7, .inl s0_5), (0, .inr (.inr (some p))), (1, .inr (.inr (some a1))), (2, .inl a2), (3, .inl a3), (4, .inl v4_4), (5, .inl v5_4), (6, .inl v6_4)]) (stₚ := [.inl (I2 (a1 + 10) (Int.toNat (a2 + 4)))]) (hₚ := gc_h sh I2 J3 A) (C := (True ∧ True)) rfl ⟨trivial, trivial⟩ ?_
        refine gv_pick [1, 2, 3, 4, 5, 6, 7, 0] rfl ?_
        exact L107 s0_5 (I2 (a1 + 10) (Int.toNat (a2 + 4))) (by (/-78-/first | (and_intros; (omega); (omega); (have o1 := gz_sh ha3_5; omega); (omega); (omega); (have o1 := gz_sh hv4_4; omega); (have o1 := gz_sh hv5_4; omega); (have o1 := gz_sh hv5_4; omega); (have o1 := gz_sh hv6_4; omega); (have o1 := gz_sh hv6_4_5; omega); (have o1 := gz_sh hs0_5; omega); (have o1 := gz_sh hs0_5; omega); (have o1 := gz_sh f31; omega); (have o1 := gz_sh f31; omega); (have o1 := gz_sh e0_5; omega); (have o1 := gz_sh e1_5; have o2 := gz_sh hs0_5; omega); (omega); (have o1 := gz_sh hs0_5; omega)) | (simp only [gz_hd] at *; omega))) (Or.inl ⟨by (/-79-/first | (have o1 := gz_sh hs0_5; omega) | (simp only [gz_hd] at *; omega)), rfl, (k_5.resolve_right (fun g => by have := g.1; (/-80-/first | omega | (simp only [gz_hd] at *; omega)))).2⟩)
    have L87 : ((0 ≤ a2 ∧ a2 ≤ 575) ∧ (1 ≤ a3 ∧ a3 ≤ 24) ∧ (0 ≤ v4_4 ∧ v4_4 ≤ 12) ∧ (0 ≤ v5_4 ∧ v5_4 ≤ 24) ∧ (0 ≤ v6_4 ∧ v6_4 ≤ 23) ∧ (v6_4 < a3)) → (∀ q, ¬ so_hic I2 a1 p r9 a3 v6_4 v5_4 q) → gv_X (gc_E2 ws0 tb 2 (yX2_soundOnce, cX2_soundOnce, 9, (some .int)) kX2_soundOnce) (gv_Q cX2_soundOnce (some .int) sh (fun r hₚ => (∃ (Iₚ : gr_I) (Jₚ : gr_J), hₚ = gc_h sh Iₚ Jₚ A ∧ gc_Inv ro Iₚ ∧ (∀ q j : Nat, (q = (p + 6) ∨ q = (p + 7)) ∨ Iₚ q j = I q j) ∧ (∀ q j : Nat, (False) ∨ Jₚ q j = J q j) ∧ (∃ z : Int, r = some (.inl z) ∧ (-1) ≤ z ∧ z ≤ 24 ∧ so_one I a1 p r9 a3 Iₚ z)))) (87, [(0, .inr (.inr (some p))), (1, .inr (.inr (some a1))), (2, .inl a2), (3, .inl a3), (4, .inl v4_4), (5, .inl v5_4), (6, .inl v6_4)], [], sh, gc_h sh I2 J3 A) := by
      intro m_32 n_87
      obtain ⟨ha2_32, ha3_32, hv4_4_32, hv5_4_32, hv6_4_32, e0_32⟩ := gz_h6 m_32
      refine gv_run 1 true hD (pcₚ := 88) (lvₚ := [(0, .inr (.inr (some p))), (1, .inr (.inr (some a1))), (2, .inl a2), (3, .inl a3), (4, .inl v4_4), (5, .inl v5_4), (6, .inl v6_4)]) (stₚ := [.inl 0]) (hₚ := gc_h sh I2 J3 A) (C := (True ∧ True)) rfl ⟨trivial, trivial⟩ ?_
      exact L88 0 (by (/-81-/first | (and_intros; (omega); (omega); (have o1 := gz_sh ha3_32; omega); (omega); (omega); (have o1 := gz_sh hv4_4; omega); (have o1 := gz_sh hv5_4; omega); (have o1 := gz_sh hv5_4; omega); (have o1 := gz_sh hv6_4; omega); (have o1 := gz_sh hv6_4_32; omega); (omega); (omega); (have o1 := gz_sh e0_32; omega); (omega)) | (simp only [gz_hd] at *; omega))) (Or.inr ⟨rfl, n_87⟩)
    refine gv_run 2 true hD (pcₚ := 33) (lvₚ := [(0, .inr (.inr (some p))), (1, .inr (.inr (some a1))), (2, .inl a2), (3, .inl a3), (4, .inl v4_4), (5, .inl v5_4), (6, .inl v6_4)]) (stₚ := [.inl a3, .inl v6_4]) (hₚ := gc_h sh I2 J3 A) (C := ((True ∧ True) ∧ True)) rfl ⟨⟨trivial, trivial⟩, trivial⟩ ?_
    refine gv_icmp_ge (t := 197) hD rfl rfl ⟨⟨by (/-82-/first | (have o1 := gz_sh hv6_4; omega) | (simp only [gz_hd] at *; omega)), by (/-83-/first | (have o1 := gz_sh hv6_4; omega) | (simp only [gz_hd] at *; omega))⟩, ⟨by (/-84-/first | omega | (simp only [gz_hd] at *; omega)), by (/-85-/first | omega | (simp only [gz_hd] at *; omega))⟩⟩ (fun c33 => ?_) (fun c33 => ?_)
    · show gv_X _ _ (197, [(0, .inr (.inr (some p))), (1, .inr (.inr (some a1))), (2, .inl a2), (3, .inl a3), (4, .inl v4_4), (5, .inl v5_4), (6, .inl v6_4)], [], sh, gc_h sh I2 J3 A)
      refine gv_run 1 true hD (pcₚ := 199) (lvₚ := [(0, .inr (.inr (some p))), (1, .inr (.inr (some a1))), (2, .inl a2), (3, .inl a3), (4, .inl v4_4), (5, .inl v5_4), (6, .inl v6_4)]) (stₚ := [.inl v5_4]) (hₚ := gc_h sh I2 J3 A) (C := (True ∧ True)) rfl ⟨trivial, trivial⟩ ?_
      exact gv_iret hD rfl ⟨I2, J3, rfl, hI2, FI2, FJ3, ⟨_, rfl, by (/-86-/first | (have o1 := gz_sh hv5_4; omega) | (simp only [gz_hd] at *; omega)), by (/-87-/first | (have o1 := gz_sh hv5_4; omega) | (simp only [gz_hd] at *; omega)), so_one_e k_4.1 x2 G_a1 fn k_4.2.1 (by (/-88-/first | omega | (simp only [gz_hd] at *; omega)))⟩⟩
    · show gv_X _ _ (36, [(0, .inr (.inr (some p))), (1, .inr (.inr (some a1))), (2, .inl a2), (3, .inl a3), (4, .inl v4_4), (5, .inl v5_4), (6, .inl v6_4)], [], sh, gc_h sh I2 J3 A)
      refine gv_run 4 true hD (pcₚ := 40) (lvₚ := [(0, .inr (.inr (some p))), (1, .inr (.inr (some a1))), (2, .inl a2), (3, .inl a3), (4, .inl v4_4), (5, .inl v5_4), (6, .inl v6_4)]) (stₚ := [.inr (.inr (some p)), .inl a2, .inr (.inr (some a1)), .inr (.inr (some p))]) (hₚ := gc_h sh I2 J3 A) (C := ((((True ∧ True) ∧ True) ∧ True) ∧ True)) rfl ⟨⟨⟨⟨trivial, trivial⟩, trivial⟩, trivial⟩, trivial⟩ ?_
      obtain ⟨f34_, hq_f34_, S_f34, R_f34, B_f34, D_f34⟩ := gc_sw (p := p) (d := 6) (s := 1) (z := I2 p 6) (show 0 ≤ I2 p 6 ∧ I2 p 6 ≤ 1 from gc_in2 hI2 (gz_sh R_p) rfl rfl rfl) S_p_6 (gz_sh R_p_6) (gz_sh B_p_6) S_p_7 (gz_sh R_p_7) (gz_sh B_p_7)
      refine gv_get hD rfl rfl S_p ⟨by decide, (gz_sh B_p)⟩ (gc_hS (n := 6) S_p rfl hq_f34_) ?_
      show gv_X _ _ (43, [(0, .inr (.inr (some p))), (1, .inr (.inr (some a1))), (2, .inl a2), (3, .inl a3), (4, .inl v4_4), (5, .inl v5_4), (6, .inl v6_4)], [.inr (.inr (some f34_)), .inl a2, .inr (.inr (some a1)), .inr (.inr (some p))], sh, gc_h sh I2 J3 A)
      refine gv_run 2 true hD (pcₚ := 46) (lvₚ := [(0, .inr (.inr (some p))), (1, .inr (.inr (some a1))), (2, .inl a2), (3, .inl a3), (4, .inl v4_4), (5, .inl v5_4), (6, .inl v6_4)]) (stₚ := [.inl a3, .inl v6_4, .inr (.inr (some f34_)), .inl a2, .inr (.inr (some a1)), .inr (.inr (some p))]) (hₚ := gc_h sh I2 J3 A) (C := ((True ∧ True) ∧ True)) rfl ⟨⟨trivial, trivial⟩, trivial⟩ ?_
      obtain ⟨r36, h36, E36, P36⟩ := d_X2_fitsAt_p (ws0 := ws0) (tb := tb) hws htb sh ro I2 J3 A hI2 p 24 a1 a2 f34_ v6_4 a3 hp h_a1 G_a1 S_f34 R_f34 B_f34 (by decide)  ⟨by (/-89-/first | omega | (simp only [gz_hd] at *; omega)), by (/-90-/first | omega | (simp only [gz_hd] at *; omega))⟩ ⟨by (/-91-/first | (have o1 := gz_sh hv6_4; omega) | (simp only [gz_hd] at *; omega)), by (/-92-/first | (have o1 := gz_sh hv6_4; omega) | (simp only [gz_hd] at *; omega))⟩ ⟨by (/-93-/first | omega | (simp only [gz_hd] at *; omega)), by (/-94-/first | omega | (simp only [gz_hd] at *; omega))⟩ (by (/-95-/first | omega | (simp only [gz_hd] at *; omega))) (by (/-96-/first | omega | (simp only [gz_hd] at *; omega))) ((gc_sc_fr x1 (fun k => (FI2 (a1 + 10) k).resolve_left (by (/-97-/first | omega | (simp only [gz_hd] at *; omega))))) _ (by (/-98-/first | omega | (simp only [gz_hd] at *; omega))) (by (/-99-/first | omega | (simp only [gz_hd] at *; omega))) (by (/-100-/first | omega | (simp only [gz_hd] at *; omega)))) 
      obtain ⟨rfl, ⟨z36, rfl, q36⟩⟩ := P36
      replace q36 := gz_hi q36
      refine gv_callV hD rfl (As := [.inr (.inr (some a1)), .inl a2, .inr (.inr (some f34_)), .inl v6_4, .inl a3]) (st := []) rfl (gz_sh B_p) S_p rfl (gc_lV2 hws rfl) (Nat.le_of_ble_eq_true rfl) (gz_Ev_mono (d := 1) (by decide) E36) ?_
      show gv_X _ _ (49, [(0, .inr (.inr (some p))), (1, .inr (.inr (some a1))), (2, .inl a2), (3, .inl a3), (4, .inl v4_4), (5, .inl v5_4), (6, .inl v6_4)], [.inl z36], sh, gc_h sh I2 J3 A)
      refine gv_run 3 true hD (pcₚ := 54) (lvₚ := [(0, .inr (.inr (some p))), (1, .inr (.inr (some a1))), (2, .inl a2), (3, .inl a3), (4, .inl v4_4), (5, .inl v5_4), (6, .inl v6_4)]) (stₚ := [.inl (v6_4 + v4_4), .inl z36]) (hₚ := gc_h sh I2 J3 A) (C := (((True ∧ True) ∧ True) ∧ True)) rfl ⟨⟨⟨trivial, trivial⟩, trivial⟩, trivial⟩ ?_
      refine gv_icmp_ne (t := 87) hD rfl rfl ⟨⟨by (/-101-/first | (have o1 := gz_sh q36; omega) | (simp only [gz_hd] at *; omega)), by (/-102-/first | (have o1 := gz_sh q36; omega) | (simp only [gz_hd] at *; omega))⟩, ⟨by (/-103-/first | (have o1 := gz_sh hv6_4; omega) | (simp only [gz_hd] at *; omega)), by (/-104-/first | (have o1 := gz_sh hv4_4; have o2 := gz_sh hv6_4; omega) | (simp only [gz_hd] at *; omega))⟩⟩ (fun c37 => ?_) (fun c37 => ?_)
      · show gv_X _ _ (87, [(0, .inr (.inr (some p))), (1, .inr (.inr (some a1))), (2, .inl a2), (3, .inl a3), (4, .inl v4_4), (5, .inl v5_4), (6, .inl v6_4)], [], sh, gc_h sh I2 J3 A)
        exact L87 (by (/-105-/first | (and_intros; (omega); (omega); (have o1 := gz_sh hv6_4; omega); (omega); (omega); (have o1 := gz_sh hv4_4; omega); (have o1 := gz_sh hv5_4; omega); (have o1 := gz_sh hv5_4; omega); (have o1 := gz_sh hv6_4; omega); (omega); (omega)) | (simp only [gz_hd] at *; omega))) (so_hic_1 y2 y3 u_4 (show so_End (so_ci I2 a1 a2) (so_b a3 (I2 (so_fb I2 p 6))) a3 v6_4 z36 by have h9 := (gz_sh q36).2.2.2.2; rw [← hq_f34_] at h9; exact h9) c37)
      · show gv_X _ _ (57, [(0, .inr (.inr (some p))), (1, .inr (.inr (some a1))), (2, .inl a2), (3, .inl a3), (4, .inl v4_4), (5, .inl v5_4), (6, .inl v6_4)], [], sh, gc_h sh I2 J3 A)
        refine gv_run 4 true hD (pcₚ := 62) (lvₚ := [(0, .inr (.inr (some p))), (1, .inr (.inr (some a1))), (2, .inl a2), (3, .inl a3), (4, .inl v4_4), (5, .inl v5_4), (6, .inl v6_4)]) (stₚ := [.inl v5_4, .inl a2, .inr (.inr (some a1)), .inr (.inr (some p))]) (hₚ := gc_h sh I2 J3 A) (C := ((((True ∧ True) ∧ True) ∧ True) ∧ True)) rfl ⟨⟨⟨⟨trivial, trivial⟩, trivial⟩, trivial⟩, trivial⟩ ?_
        obtain ⟨r38, h38, E38, P38⟩ := d_X2_leftFits_p (ws0 := ws0) (tb := tb) hws htb sh ro I2 J3 A hI2 p a1 a2 v5_4 hp h_a1 G_a1  ⟨by (/-106-/first | omega | (simp only [gz_hd] at *; omega)), by (/-107-/first | omega | (simp only [gz_hd] at *; omega))⟩ ⟨by (/-108-/first | (have o1 := gz_sh hv5_4; omega) | (simp only [gz_hd] at *; omega)), by (/-109-/first | (have o1 := gz_sh hv5_4; omega) | (simp only [gz_hd] at *; omega))⟩ (by (/-110-/first | omega | (simp only [gz_hd] at *; omega))) (gc_sc_fr x1 (fun k => (FI2 (a1 + 10) k).resolve_left (by (/-111-/first | omega | (simp only [gz_hd] at *; omega))))) 
        obtain ⟨rfl, ⟨z38, rfl, q38⟩⟩ := P38
        replace q38 := gz_hi q38
        refine gv_callV hD rfl (As := [.inr (.inr (some a1)), .inl a2, .inl v5_4]) (st := []) rfl (gz_sh B_p) S_p rfl (gc_lV2 hws rfl) (Nat.le_of_ble_eq_true rfl) (gz_Ev_mono (d := 2) (by decide) E38) ?_
        show gv_X _ _ (65, [(0, .inr (.inr (some p))), (1, .inr (.inr (some a1))), (2, .inl a2), (3, .inl a3), (4, .inl v4_4), (5, .inl v5_4), (6, .inl v6_4)], [.inl z38], sh, gc_h sh I2 J3 A)
        refine gv_if_eq (t := 87) hD rfl rfl ⟨by (/-112-/first | (have o1 := gz_sh q38; omega) | (simp only [gz_hd] at *; omega)), by (/-113-/first | (have o1 := gz_sh q38; omega) | (simp only [gz_hd] at *; omega))⟩ (fun c39 => ?_) (fun c39 => ?_)
        · show gv_X _ _ (87, [(0, .inr (.inr (some p))), (1, .inr (.inr (some a1))), (2, .inl a2), (3, .inl a3), (4, .inl v4_4), (5, .inl v5_4), (6, .inl v6_4)], [], sh, gc_h sh I2 J3 A)
          exact L87 (by (/-114-/first | (and_intros; (omega); (omega); (have o1 := gz_sh hv6_4; omega); (omega); (omega); (have o1 := gz_sh hv4_4; omega); (have o1 := gz_sh hv5_4; omega); (have o1 := gz_sh hv5_4; omega); (have o1 := gz_sh hv6_4; omega); (omega); (omega)) | (simp only [gz_hd] at *; omega))) (so_hic_2 y2 y3 ((gz_sh q38).2.2.resolve_left (fun g => by have := g.1; (/-115-/first | omega | (simp only [gz_hd] at *; omega)))).2)
        · show gv_X _ _ (68, [(0, .inr (.inr (some p))), (1, .inr (.inr (some a1))), (2, .inl a2), (3, .inl a3), (4, .inl v4_4), (5, .inl v5_4), (6, .inl v6_4)], [], sh, gc_h sh I2 J3 A)
          refine gv_run 7 true hD (pcₚ := 77) (lvₚ := [(0, .inr (.inr (some p))), (1, .inr (.inr (some a1))), (2, .inl a2), (3, .inl a3), (4, .inl v4_4), (5, .inl v5_4), (6, .inl v6_4)]) (stₚ := [.inl a3, .inl (v6_4 + v4_4), .inl a2, .inr (.inr (some a1)), .inr (.inr (some p))]) (hₚ := gc_h sh I2 J3 A) (C := (((((((True ∧ True) ∧ True) ∧ True) ∧ True) ∧ True) ∧ True) ∧ True)) rfl ⟨⟨⟨⟨⟨⟨⟨trivial, trivial⟩, trivial⟩, trivial⟩, trivial⟩, trivial⟩, trivial⟩, trivial⟩ ?_
          obtain ⟨r40, h40, E40, P40⟩ := d_X2_rightFits_p (ws0 := ws0) (tb := tb) hws htb sh ro I2 J3 A hI2 p a1 a2 (v6_4 + v4_4) a3 hp h_a1 G_a1  ⟨by (/-116-/first | omega | (simp only [gz_hd] at *; omega)), by (/-117-/first | omega | (simp only [gz_hd] at *; omega))⟩ ⟨by (/-118-/first | (have o1 := gz_sh hv6_4; omega) | (simp only [gz_hd] at *; omega)), by (/-119-/first | (have o1 := gz_sh q36; omega) | (simp only [gz_hd] at *; omega))⟩ ⟨by (/-120-/first | omega | (simp only [gz_hd] at *; omega)), by (/-121-/first | omega | (simp only [gz_hd] at *; omega))⟩ (by (/-122-/first | omega | (simp only [gz_hd] at *; omega))) (gc_sc_fr x1 (fun k => (FI2 (a1 + 10) k).resolve_left (by (/-123-/first | omega | (simp only [gz_hd] at *; omega))))) 
          obtain ⟨rfl, ⟨z40, rfl, q40⟩⟩ := P40
          replace q40 := gz_hi q40
          refine gv_callV hD rfl (As := [.inr (.inr (some a1)), .inl a2, .inl (v6_4 + v4_4), .inl a3]) (st := []) rfl (gz_sh B_p) S_p rfl (gc_lV2 hws rfl) (Nat.le_of_ble_eq_true rfl) (gz_Ev_mono (d := 2) (by decide) E40) ?_
          show gv_X _ _ (80, [(0, .inr (.inr (some p))), (1, .inr (.inr (some a1))), (2, .inl a2), (3, .inl a3), (4, .inl v4_4), (5, .inl v5_4), (6, .inl v6_4)], [.inl z40], sh, gc_h sh I2 J3 A)
          refine gv_if_eq (t := 87) hD rfl rfl ⟨by (/-124-/first | (have o1 := gz_sh q40; omega) | (simp only [gz_hd] at *; omega)), by (/-125-/first | (have o1 := gz_sh q40; omega) | (simp only [gz_hd] at *; omega))⟩ (fun c41 => ?_) (fun c41 => ?_)
          · show gv_X _ _ (87, [(0, .inr (.inr (some p))), (1, .inr (.inr (some a1))), (2, .inl a2), (3, .inl a3), (4, .inl v4_4), (5, .inl v5_4), (6, .inl v6_4)], [], sh, gc_h sh I2 J3 A)
            exact L87 (by (/-126-/first | (and_intros; (omega); (omega); (have o1 := gz_sh hv6_4; omega); (omega); (omega); (have o1 := gz_sh hv4_4; omega); (have o1 := gz_sh hv5_4; omega); (have o1 := gz_sh hv5_4; omega); (have o1 := gz_sh hv6_4; omega); (omega); (omega)) | (simp only [gz_hd] at *; omega))) (so_hic_3 y2 y3 u_4 ((gz_sh q40).2.2.resolve_left (fun g => by have := g.1; (/-127-/first | omega | (simp only [gz_hd] at *; omega)))).2)
          · show gv_X _ _ (83, [(0, .inr (.inr (some p))), (1, .inr (.inr (some a1))), (2, .inl a2), (3, .inl a3), (4, .inl v4_4), (5, .inl v5_4), (6, .inl v6_4)], [], sh, gc_h sh I2 J3 A)
            refine gv_run 2 true hD (pcₚ := 88) (lvₚ := [(0, .inr (.inr (some p))), (1, .inr (.inr (some a1))), (2, .inl a2), (3, .inl a3), (4, .inl v4_4), (5, .inl v5_4), (6, .inl v6_4)]) (stₚ := [.inl 1]) (hₚ := gc_h sh I2 J3 A) (C := ((True ∧ True) ∧ True)) rfl ⟨⟨trivial, trivial⟩, trivial⟩ ?_
            exact L88 1 (by (/-128-/first | (and_intros; (omega); (omega); (have o1 := gz_sh hv6_4; omega); (omega); (omega); (have o1 := gz_sh hv4_4; omega); (have o1 := gz_sh hv5_4; omega); (have o1 := gz_sh hv5_4; omega); (have o1 := gz_sh hv6_4; omega); (omega); (omega); (omega); (omega); (have o1 := gz_sh q36; omega)) | (simp only [gz_hd] at *; omega))) (Or.inl ⟨rfl, so_hic_y y2 y3 (show so_End (so_ci I2 a1 a2) (so_b a3 (I2 (so_fb I2 p 6))) a3 v6_4 z36 by have h9 := (gz_sh q36).2.2.2.2; rw [← hq_f34_] at h9; exact h9) c37 (by (/-129-/first | (have o1 := gz_sh hv6_4; omega) | (simp only [gz_hd] at *; omega))) ((gz_sh q38).2.2.resolve_right (fun g => by have := g.1; (/-130-/first | (have o1 := gz_sh q40; omega) | (simp only [gz_hd] at *; omega)))).2 ((gz_sh q40).2.2.resolve_right (fun g => by have := g.1; (/-131-/first | omega | (simp only [gz_hd] at *; omega)))).2⟩)
set_option maxHeartbeats 8000000 in
set_option maxRecDepth 100000 in
theorem d_X2_soundOnce_p {ws0 : List Cond} {tb : String → gz_T} (hws : gc_Ws ws0) (htb : gc_tbs tb) (sh : gz_Sh) (ro : Nat → Nat) (I : gr_I) (J : gr_J) (A : gc_A) (hI : gc_Inv ro I) (p : Nat) (a1 : Nat) (a2 : Int) (a3 : Int) (r9 : Int) (hp : gc_isForms sh ro A p) (h_a1 : gc_isTongue sh ro A a1) (G_a1 : 144 ≤ a1) (ha2 : 0 ≤ a2 ∧ a2 ≤ 575) (ha3 : 0 ≤ a3 ∧ a3 ≤ 24) (x0 : a2 % 25 = 0) (x1 : gc_sc (a1 + 10) I) (x2 : p = a1 + 17) (y0 : ¬ I p 6 = I p 7) (y1 : so_lh (so_rc I a1 r9)) (y2 : a2 = 25 * r9) (y3 : 0 ≤ r9) : ∃ r hₚ, gz_Ev ws0 tb 3 (yX2_soundOnce, cX2_soundOnce, 9, (some .int)) [.inr (.inr (some p)), .inr (.inr (some a1)), .inl a2, .inl a3] sh (gc_h sh I J A) r sh hₚ 0 0 ∧ (∃ (Iₚ : gr_I) (Jₚ : gr_J), hₚ = gc_h sh Iₚ Jₚ A ∧ gc_Inv ro Iₚ ∧ (∀ q j : Nat, (q = (p + 6) ∨ q = (p + 7)) ∨ Iₚ q j = I q j) ∧ (∀ q j : Nat, (False) ∨ Jₚ q j = J q j) ∧ (∃ z : Int, r = some (.inl z) ∧ (-1) ≤ z ∧ z ≤ 24 ∧ so_one I a1 p r9 a3 Iₚ z)) := by
  have FI : ∀ q j : Nat, (q = (p + 6) ∨ q = (p + 7)) ∨ I q j = I q j := fun _ _ => Or.inr rfl
  have FJ : ∀ q j : Nat, (False) ∨ J q j = J q j := fun _ _ => Or.inr rfl
  obtain ⟨S_p, R_p, B_p, A_p_0, S_20, R_20, B_20, A_p_1, S_p_1, R_p_1, B_p_1, A_p_2, S_p_2, R_p_2, B_p_2, A_p_3, S_p_3, R_p_3, B_p_3, A_p_4, S_p_4, R_p_4, B_p_4, A_p_5, S_p_5, R_p_5, B_p_5, S_p_6, R_p_6, B_p_6, S_p_7, R_p_7, B_p_7⟩ := id hp
  replace R_p := gz_hi R_p
  replace B_p := gz_hi B_p
  replace R_20 := gz_hi R_20
  replace B_20 := gz_hi B_20
  replace R_p_1 := gz_hi R_p_1
  replace B_p_1 := gz_hi B_p_1
  replace R_p_2 := gz_hi R_p_2
  replace B_p_2 := gz_hi B_p_2
  replace R_p_3 := gz_hi R_p_3
  replace B_p_3 := gz_hi B_p_3
  replace R_p_4 := gz_hi R_p_4
  replace B_p_4 := gz_hi B_p_4
  replace R_p_5 := gz_hi R_p_5
  replace B_p_5 := gz_hi B_p_5
  replace R_p_6 := gz_hi R_p_6
  replace B_p_6 := gz_hi B_p_6
  replace R_p_7 := gz_hi R_p_7
  replace B_p_7 := gz_hi B_p_7
  obtain ⟨S_a1, R_a1, B_a1, A_a1_0, h_a1_1, A_a1_1, h_a1_3, A_a1_2, S_a1_5, R_a1_5, B_a1_5, A_a1_3, S_a1_6, R_a1_6, B_a1_6, A_a1_4, h_a1_7, A_a1_5, S_a1_9, R_a1_9, B_a1_9, A_a1_7, S_a1_10, R_a1_10, B_a1_10, A_a1_8, h_a1_11, A_a1_9, S_a1_13, R_a1_13, B_a1_13, A_a1_10, S_a1_14, R_a1_14, B_a1_14, A_a1_12, S_a1_15, R_a1_15, B_a1_15, A_a1_14, S_a1_16, R_a1_16, B_a1_16, A_a1_15, h_a1_17⟩ := id h_a1
  replace R_a1 := gz_hi R_a1
  replace B_a1 := gz_hi B_a1
  replace R_a1_5 := gz_hi R_a1_5
  replace B_a1_5 := gz_hi B_a1_5
  replace R_a1_6 := gz_hi R_a1_6
  replace B_a1_6 := gz_hi B_a1_6
  replace R_a1_9 := gz_hi R_a1_9
  replace B_a1_9 := gz_hi B_a1_9
  replace R_a1_10 := gz_hi R_a1_10
  replace B_a1_10 := gz_hi B_a1_10
  replace R_a1_13 := gz_hi R_a1_13
  replace B_a1_13 := gz_hi B_a1_13
  replace R_a1_14 := gz_hi R_a1_14
  replace B_a1_14 := gz_hi B_a1_14
  replace R_a1_15 := gz_hi R_a1_15
  replace B_a1_15 := gz_hi B_a1_15
  replace R_a1_16 := gz_hi R_a1_16
  replace B_a1_16 := gz_hi B_a1_16
  obtain ⟨S_a1_1, R_a1_1, B_a1_1, A_a1_1_0, S_a1_1_1, R_a1_1_1, B_a1_1_1, Q0_a1_1, Q1_a1_1, Q2_a1_1⟩ := id h_a1_1
  replace R_a1_1 := gz_hi R_a1_1
  replace B_a1_1 := gz_hi B_a1_1
  replace R_a1_1_1 := gz_hi R_a1_1_1
  replace B_a1_1_1 := gz_hi B_a1_1_1
  obtain ⟨S_a1_3, R_a1_3, B_a1_3, A_a1_3_0, S_a1_3_1, R_a1_3_1, B_a1_3_1, Q0_a1_3, Q1_a1_3, Q2_a1_3⟩ := id h_a1_3
  replace R_a1_3 := gz_hi R_a1_3
  replace B_a1_3 := gz_hi B_a1_3
  replace R_a1_3_1 := gz_hi R_a1_3_1
  replace B_a1_3_1 := gz_hi B_a1_3_1
  obtain ⟨S_a1_7, R_a1_7, B_a1_7, A_a1_7_0, S_a1_7_1, R_a1_7_1, B_a1_7_1, Q0_a1_7, Q1_a1_7, Q2_a1_7⟩ := id h_a1_7
  replace R_a1_7 := gz_hi R_a1_7
  replace B_a1_7 := gz_hi B_a1_7
  replace R_a1_7_1 := gz_hi R_a1_7_1
  replace B_a1_7_1 := gz_hi B_a1_7_1
  obtain ⟨S_a1_11, R_a1_11, B_a1_11, A_a1_11_0, S_a1_11_1, R_a1_11_1, B_a1_11_1, Q0_a1_11, Q1_a1_11, Q2_a1_11⟩ := id h_a1_11
  replace R_a1_11 := gz_hi R_a1_11
  replace B_a1_11 := gz_hi B_a1_11
  replace R_a1_11_1 := gz_hi R_a1_11_1
  replace B_a1_11_1 := gz_hi B_a1_11_1
  obtain ⟨S_a1_17, R_a1_17, B_a1_17, A_a1_17_0, S_20, R_20, B_20, A_a1_17_1, S_a1_17_1, R_a1_17_1, B_a1_17_1, A_a1_17_2, S_a1_17_2, R_a1_17_2, B_a1_17_2, A_a1_17_3, S_a1_17_3, R_a1_17_3, B_a1_17_3, A_a1_17_4, S_a1_17_4, R_a1_17_4, B_a1_17_4, A_a1_17_5, S_a1_17_5, R_a1_17_5, B_a1_17_5, S_a1_17_6, R_a1_17_6, B_a1_17_6, S_a1_17_7, R_a1_17_7, B_a1_17_7⟩ := id h_a1_17
  replace R_a1_17 := gz_hi R_a1_17
  replace B_a1_17 := gz_hi B_a1_17
  replace R_20 := gz_hi R_20
  replace B_20 := gz_hi B_20
  replace R_a1_17_1 := gz_hi R_a1_17_1
  replace B_a1_17_1 := gz_hi B_a1_17_1
  replace R_a1_17_2 := gz_hi R_a1_17_2
  replace B_a1_17_2 := gz_hi B_a1_17_2
  replace R_a1_17_3 := gz_hi R_a1_17_3
  replace B_a1_17_3 := gz_hi B_a1_17_3
  replace R_a1_17_4 := gz_hi R_a1_17_4
  replace B_a1_17_4 := gz_hi B_a1_17_4
  replace R_a1_17_5 := gz_hi R_a1_17_5
  replace B_a1_17_5 := gz_hi B_a1_17_5
  replace R_a1_17_6 := gz_hi R_a1_17_6
  replace B_a1_17_6 := gz_hi B_a1_17_6
  replace R_a1_17_7 := gz_hi R_a1_17_7
  replace B_a1_17_7 := gz_hi B_a1_17_7
  have hD : gv_D (gc_E2 ws0 tb 2 (yX2_soundOnce, cX2_soundOnce, 9, (some .int)) kX2_soundOnce) := gq_of oX2_soundOnce
  have fn : ¬ so_fb I p 6 = so_fb I p 7 := so_fb_ne y0 (show 0 ≤ I p 6 ∧ I p 6 ≤ 1 from gc_in2 hI (gz_sh R_p) rfl rfl rfl) (show 0 ≤ I p 7 ∧ I p 7 ≤ 1 from gc_in2 hI (gz_sh R_p) rfl rfl rfl)
  refine gc_ev2 (d := 2) (l := kX2_soundOnce) (Po := fun r hₚ => (∃ (Iₚ : gr_I) (Jₚ : gr_J), hₚ = gc_h sh Iₚ Jₚ A ∧ gc_Inv ro Iₚ ∧ (∀ q j : Nat, (q = (p + 6) ∨ q = (p + 7)) ∨ Iₚ q j = I q j) ∧ (∀ q j : Nat, (False) ∨ Jₚ q j = J q j) ∧ (∃ z : Int, r = some (.inl z) ∧ (-1) ≤ z ∧ z ≤ 24 ∧ so_one I a1 p r9 a3 Iₚ z))) htb rfl (Nat.le_of_ble_eq_true rfl) ?_
  have L22 : ∀ (s0_1 : Int), ((0 ≤ a2 ∧ a2 ≤ 575) ∧ (0 ≤ a3 ∧ a3 ≤ 24) ∧ (0 ≤ s0_1 ∧ s0_1 ≤ 12)) → so_L (so_ci I a1 a2) s0_1 → gv_X (gc_E2 ws0 tb 2 (yX2_soundOnce, cX2_soundOnce, 9, (some .int)) kX2_soundOnce) (gv_Q cX2_soundOnce (some .int) sh (fun r hₚ => (∃ (Iₚ : gr_I) (Jₚ : gr_J), hₚ = gc_h sh Iₚ Jₚ A ∧ gc_Inv ro Iₚ ∧ (∀ q j : Nat, (q = (p + 6) ∨ q = (p + 7)) ∨ Iₚ q j = I q j) ∧ (∀ q j : Nat, (False) ∨ Jₚ q j = J q j) ∧ (∃ z : Int, r = some (.inl z) ∧ (-1) ≤ z ∧ z ≤ 24 ∧ so_one I a1 p r9 a3 Iₚ z)))) (22, [(0, .inr (.inr (some p))), (1, .inr (.inr (some a1))), (2, .inl a2), (3, .inl a3)], [.inl s0_1], sh, gc_h sh I J A) := by
    intro s0_1 m_1 k_1
    obtain ⟨ha2_1, ha3_1, hs0_1⟩ := gz_h3 m_1
    have L30 : ∀ (n9 : Nat) (I2 : gr_I) (J3 : gr_J) (v4_4 : Int) (v5_4 : Int) (v6_4 : Int), (25 - v6_4).toNat < n9 → gc_Inv ro I2 → (∀ q j : Nat, (q = (p + 6) ∨ q = (p + 7)) ∨ I2 q j = I q j) → (∀ q j : Nat, (False) ∨ J3 q j = J q j) → ((0 ≤ a2 ∧ a2 ≤ 575) ∧ (0 ≤ a3 ∧ a3 ≤ 24) ∧ (0 ≤ v4_4 ∧ v4_4 ≤ 12) ∧ (0 ≤ v5_4 ∧ v5_4 ≤ 24) ∧ (0 ≤ v6_4 ∧ v6_4 ≤ 24) ∧ (v6_4 ≤ a3)) → (so_Fr I p I2 ∧ so_onc I2 a1 p r9 a3 v6_4 v5_4 ∧ so_L (so_ci I a1 a2) v4_4) → gv_X (gc_E2 ws0 tb 2 (yX2_soundOnce, cX2_soundOnce, 9, (some .int)) kX2_soundOnce) (gv_Q cX2_soundOnce (some .int) sh (fun r hₚ => (∃ (Iₚ : gr_I) (Jₚ : gr_J), hₚ = gc_h sh Iₚ Jₚ A ∧ gc_Inv ro Iₚ ∧ (∀ q j : Nat, (q = (p + 6) ∨ q = (p + 7)) ∨ Iₚ q j = I q j) ∧ (∀ q j : Nat, (False) ∨ Jₚ q j = J q j) ∧ (∃ z : Int, r = some (.inl z) ∧ (-1) ≤ z ∧ z ≤ 24 ∧ so_one I a1 p r9 a3 Iₚ z)))) (30, [(0, .inr (.inr (some p))), (1, .inr (.inr (some a1))), (2, .inl a2), (3, .inl a3), (4, .inl v4_4), (5, .inl v5_4), (6, .inl v6_4)], [], sh, gc_h sh I2 J3 A) := d_X2_soundOnce_p_L30 (ws0 := ws0) (tb := tb) hws htb sh ro I J A hI p a1 a2 a3 r9 hp h_a1 G_a1 ha2 ha3 x0 x1 x2 y0 y1 y2 y3
    refine gv_run 5 true hD (pcₚ := 30) (lvₚ := [(6, .inl 0), (5, .inl 0), (4, .inl s0_1), (0, .inr (.inr (some p))), (1, .inr (.inr (some a1))), (2, .inl a2), (3, .inl a3)]) (stₚ := []) (hₚ := gc_h sh I J A) (C := (((((True ∧ True) ∧ True) ∧ True) ∧ True) ∧ True)) rfl ⟨⟨⟨⟨⟨trivial, trivial⟩, trivial⟩, trivial⟩, trivial⟩, trivial⟩ ?_
    refine gv_pick [3, 4, 5, 6, 2, 1, 0] rfl ?_
    exact L30 _ I J s0_1 0 0 (Nat.lt_succ_self _) hI FI FJ (by (/-132-/first | (and_intros; (omega); (omega); (omega); (omega); (have o1 := gz_sh hs0_1; omega); (have o1 := gz_sh hs0_1; omega); (omega); (omega); (omega); (omega); (omega)) | (simp only [gz_hd] at *; omega))) ⟨so_Fr_rf, so_on_0, k_1⟩
  refine gv_run 1 true hD (pcₚ := 1) (lvₚ := [(0, .inr (.inr (some p))), (1, .inr (.inr (some a1))), (2, .inl a2), (3, .inl a3)]) (stₚ := [.inr (.inr (some a1))]) (hₚ := gc_h sh I J A) (C := (True ∧ True)) rfl ⟨trivial, trivial⟩ ?_
  refine gv_get hD rfl rfl S_a1 ⟨by decide, (gz_sh B_a1)⟩ (gc_hA S_a1 rfl A_a1_7) ?_
  show gv_X _ _ (4, [(0, .inr (.inr (some p))), (1, .inr (.inr (some a1))), (2, .inl a2), (3, .inl a3)], [.inr (.inr (some (a1 + 10)))], sh, gc_h sh I J A)
  refine gv_run 1 true hD (pcₚ := 5) (lvₚ := [(0, .inr (.inr (some p))), (1, .inr (.inr (some a1))), (2, .inl a2), (3, .inl a3)]) (stₚ := [.inl a2, .inr (.inr (some (a1 + 10)))]) (hₚ := gc_h sh I J A) (C := (True ∧ True)) rfl ⟨trivial, trivial⟩ ?_
  have f42 := gz_hi ((show 0 ≤ I (a1 + 10) (Int.toNat a2) ∧ I (a1 + 10) (Int.toNat a2) ≤ 2 from gc_inm (c := 0) hI (gz_sh R_a1_10) rfl rfl (by (/-133-/first | omega | (simp only [gz_hd] at *; omega))) rfl rfl))
  refine gv_iald hD rfl S_a1_10 rfl ⟨by decide, (gz_sh B_a1_10)⟩ ⟨by (/-134-/first | omega | (simp only [gz_hd] at *; omega)), by (/-135-/first | omega | (simp only [gz_hd] at *; omega))⟩ (gc_iI S_a1_10 rfl) ?_
  show gv_X _ _ (6, [(0, .inr (.inr (some p))), (1, .inr (.inr (some a1))), (2, .inl a2), (3, .inl a3)], [.inl (I (a1 + 10) (Int.toNat a2))], sh, gc_h sh I J A)
  refine gv_run 1 true hD (pcₚ := 7) (lvₚ := [(0, .inr (.inr (some p))), (1, .inr (.inr (some a1))), (2, .inl a2), (3, .inl a3)]) (stₚ := [.inl 1, .inl (I (a1 + 10) (Int.toNat a2))]) (hₚ := gc_h sh I J A) (C := (True ∧ True)) rfl ⟨trivial, trivial⟩ ?_
  refine gv_icmp_ne (t := 14) hD rfl rfl ⟨⟨by (/-136-/first | (have o1 := gz_sh f42; omega) | (simp only [gz_hd] at *; omega)), by (/-137-/first | (have o1 := gz_sh f42; omega) | (simp only [gz_hd] at *; omega))⟩, ⟨by (/-138-/first | omega | (simp only [gz_hd] at *; omega)), by (/-139-/first | omega | (simp only [gz_hd] at *; omega))⟩⟩ (fun c43 => ?_) (fun c43 => ?_)
  · show gv_X _ _ (14, [(0, .inr (.inr (some p))), (1, .inr (.inr (some a1))), (2, .inl a2), (3, .inl a3)], [], sh, gc_h sh I J A)
    refine gv_run 1 true hD (pcₚ := 15) (lvₚ := [(0, .inr (.inr (some p))), (1, .inr (.inr (some a1))), (2, .inl a2), (3, .inl a3)]) (stₚ := [.inr (.inr (some a1))]) (hₚ := gc_h sh I J A) (C := (True ∧ True)) rfl ⟨trivial, trivial⟩ ?_
    refine gv_get hD rfl rfl S_a1 ⟨by decide, (gz_sh B_a1)⟩ (gc_hA S_a1 rfl A_a1_7) ?_
    show gv_X _ _ (18, [(0, .inr (.inr (some p))), (1, .inr (.inr (some a1))), (2, .inl a2), (3, .inl a3)], [.inr (.inr (some (a1 + 10)))], sh, gc_h sh I J A)
    refine gv_run 3 true hD (pcₚ := 21) (lvₚ := [(0, .inr (.inr (some p))), (1, .inr (.inr (some a1))), (2, .inl a2), (3, .inl a3)]) (stₚ := [.inl (a2 + 2), .inr (.inr (some (a1 + 10)))]) (hₚ := gc_h sh I J A) (C := (((True ∧ True) ∧ True) ∧ True)) rfl ⟨⟨⟨trivial, trivial⟩, trivial⟩, trivial⟩ ?_
    have f44 := gz_hi ((show 0 ≤ I (a1 + 10) (Int.toNat (a2 + 2)) ∧ I (a1 + 10) (Int.toNat (a2 + 2)) ≤ 12 from gc_inm (c := 2) hI (gz_sh R_a1_10) rfl rfl (by (/-140-/first | omega | (simp only [gz_hd] at *; omega))) rfl rfl))
    refine gv_iald hD rfl S_a1_10 rfl ⟨by decide, (gz_sh B_a1_10)⟩ ⟨by (/-141-/first | omega | (simp only [gz_hd] at *; omega)), by (/-142-/first | omega | (simp only [gz_hd] at *; omega))⟩ (gc_iI S_a1_10 rfl) ?_
    show gv_X _ _ (22, [(0, .inr (.inr (some p))), (1, .inr (.inr (some a1))), (2, .inl a2), (3, .inl a3)], [.inl (I (a1 + 10) (Int.toNat (a2 + 2)))], sh, gc_h sh I J A)
    exact L22 (I (a1 + 10) (Int.toNat (a2 + 2))) (by (/-143-/first | (and_intros; (omega); (omega); (omega); (omega); (have o1 := gz_sh f44; omega); (have o1 := gz_sh f44; omega)) | (simp only [gz_hd] at *; omega))) (so_L_l (so_lh_2 y1 y2 y3) c43 (by (/-144-/first | omega | (simp only [gz_hd] at *; omega))))
  · show gv_X _ _ (10, [(0, .inr (.inr (some p))), (1, .inr (.inr (some a1))), (2, .inl a2), (3, .inl a3)], [], sh, gc_h sh I J A)
    refine gv_run 2 true hD (pcₚ := 22) (lvₚ := [(0, .inr (.inr (some p))), (1, .inr (.inr (some a1))), (2, .inl a2), (3, .inl a3)]) (stₚ := [.inl 1]) (hₚ := gc_h sh I J A) (C := ((True ∧ True) ∧ True)) rfl ⟨⟨trivial, trivial⟩, trivial⟩ ?_
    exact L22 1 (by (/-145-/first | (and_intros <;> omega) | (simp only [gz_hd] at *; omega))) (so_L_1 c43 (by (/-146-/first | omega | (simp only [gz_hd] at *; omega))))
set_option maxHeartbeats 8000000 in
set_option maxRecDepth 100000 in
theorem d_X2_soundAll_p {ws0 : List Cond} {tb : String → gz_T} (hws : gc_Ws ws0) (htb : gc_tbs tb) (sh : gz_Sh) (ro : Nat → Nat) (I : gr_I) (J : gr_J) (A : gc_A) (hI : gc_Inv ro I) (p : Nat) (a1 : Nat) (a2 : Int) (hp : gc_isForms sh ro A p) (h_a1 : gc_isTongue sh ro A a1) (G_a1 : 144 ≤ a1) (ha2 : 0 ≤ a2 ∧ a2 ≤ 24) (x0 : gc_sc (a1 + 10) I) (x1 : p = a1 + 17) (y0 : ¬ I p 6 = I p 7) (y1 : so_lhs I a1) : ∃ r hₚ, gz_Ev ws0 tb 4 (yX2_soundAll, cX2_soundAll, 6, (some .int)) [.inr (.inr (some p)), .inr (.inr (some a1)), .inl a2] sh (gc_h sh I J A) r sh hₚ 0 0 ∧ (∃ (Iₚ : gr_I) (Jₚ : gr_J), hₚ = gc_h sh Iₚ Jₚ A ∧ gc_Inv ro Iₚ ∧ (∀ q j : Nat, ((q = p ∧ j = 6) ∨ (q = p ∧ j = 7) ∨ q = (p + 6) ∨ q = (p + 7)) ∨ Iₚ q j = I q j) ∧ (∀ q j : Nat, (False) ∨ Jₚ q j = J q j) ∧ (∃ z : Int, r = some (.inl z) ∧ (-1) ≤ z ∧ z ≤ 24 ∧ (z = -1 ∨ 1 ≤ z) ∧ (¬ Iₚ p 6 = Iₚ p 7 ∧ so_out (fun k : Nat => so_rc I a1 (k : Int)) (Int.toNat (I a1 6)) (so_b a2 (I (so_fb I p 6))) a2 (Iₚ (so_fb Iₚ p 6)) z z))) := by
  have FI : ∀ q j : Nat, ((q = p ∧ j = 6) ∨ (q = p ∧ j = 7) ∨ q = (p + 6) ∨ q = (p + 7)) ∨ I q j = I q j := fun _ _ => Or.inr rfl
  have FJ : ∀ q j : Nat, (False) ∨ J q j = J q j := fun _ _ => Or.inr rfl
  obtain ⟨S_p, R_p, B_p, A_p_0, S_20, R_20, B_20, A_p_1, S_p_1, R_p_1, B_p_1, A_p_2, S_p_2, R_p_2, B_p_2, A_p_3, S_p_3, R_p_3, B_p_3, A_p_4, S_p_4, R_p_4, B_p_4, A_p_5, S_p_5, R_p_5, B_p_5, S_p_6, R_p_6, B_p_6, S_p_7, R_p_7, B_p_7⟩ := id hp
  replace R_p := gz_hi R_p
  replace B_p := gz_hi B_p
  replace R_20 := gz_hi R_20
  replace B_20 := gz_hi B_20
  replace R_p_1 := gz_hi R_p_1
  replace B_p_1 := gz_hi B_p_1
  replace R_p_2 := gz_hi R_p_2
  replace B_p_2 := gz_hi B_p_2
  replace R_p_3 := gz_hi R_p_3
  replace B_p_3 := gz_hi B_p_3
  replace R_p_4 := gz_hi R_p_4
  replace B_p_4 := gz_hi B_p_4
  replace R_p_5 := gz_hi R_p_5
  replace B_p_5 := gz_hi B_p_5
  replace R_p_6 := gz_hi R_p_6
  replace B_p_6 := gz_hi B_p_6
  replace R_p_7 := gz_hi R_p_7
  replace B_p_7 := gz_hi B_p_7
  obtain ⟨S_a1, R_a1, B_a1, A_a1_0, h_a1_1, A_a1_1, h_a1_3, A_a1_2, S_a1_5, R_a1_5, B_a1_5, A_a1_3, S_a1_6, R_a1_6, B_a1_6, A_a1_4, h_a1_7, A_a1_5, S_a1_9, R_a1_9, B_a1_9, A_a1_7, S_a1_10, R_a1_10, B_a1_10, A_a1_8, h_a1_11, A_a1_9, S_a1_13, R_a1_13, B_a1_13, A_a1_10, S_a1_14, R_a1_14, B_a1_14, A_a1_12, S_a1_15, R_a1_15, B_a1_15, A_a1_14, S_a1_16, R_a1_16, B_a1_16, A_a1_15, h_a1_17⟩ := id h_a1
  replace R_a1 := gz_hi R_a1
  replace B_a1 := gz_hi B_a1
  replace R_a1_5 := gz_hi R_a1_5
  replace B_a1_5 := gz_hi B_a1_5
  replace R_a1_6 := gz_hi R_a1_6
  replace B_a1_6 := gz_hi B_a1_6
  replace R_a1_9 := gz_hi R_a1_9
  replace B_a1_9 := gz_hi B_a1_9
  replace R_a1_10 := gz_hi R_a1_10
  replace B_a1_10 := gz_hi B_a1_10
  replace R_a1_13 := gz_hi R_a1_13
  replace B_a1_13 := gz_hi B_a1_13
  replace R_a1_14 := gz_hi R_a1_14
  replace B_a1_14 := gz_hi B_a1_14
  replace R_a1_15 := gz_hi R_a1_15
  replace B_a1_15 := gz_hi B_a1_15
  replace R_a1_16 := gz_hi R_a1_16
  replace B_a1_16 := gz_hi B_a1_16
  obtain ⟨S_a1_1, R_a1_1, B_a1_1, A_a1_1_0, S_a1_1_1, R_a1_1_1, B_a1_1_1, Q0_a1_1, Q1_a1_1, Q2_a1_1⟩ := id h_a1_1
  replace R_a1_1 := gz_hi R_a1_1
  replace B_a1_1 := gz_hi B_a1_1
  replace R_a1_1_1 := gz_hi R_a1_1_1
  replace B_a1_1_1 := gz_hi B_a1_1_1
  obtain ⟨S_a1_3, R_a1_3, B_a1_3, A_a1_3_0, S_a1_3_1, R_a1_3_1, B_a1_3_1, Q0_a1_3, Q1_a1_3, Q2_a1_3⟩ := id h_a1_3
  replace R_a1_3 := gz_hi R_a1_3
  replace B_a1_3 := gz_hi B_a1_3
  replace R_a1_3_1 := gz_hi R_a1_3_1
  replace B_a1_3_1 := gz_hi B_a1_3_1
  obtain ⟨S_a1_7, R_a1_7, B_a1_7, A_a1_7_0, S_a1_7_1, R_a1_7_1, B_a1_7_1, Q0_a1_7, Q1_a1_7, Q2_a1_7⟩ := id h_a1_7
  replace R_a1_7 := gz_hi R_a1_7
  replace B_a1_7 := gz_hi B_a1_7
  replace R_a1_7_1 := gz_hi R_a1_7_1
  replace B_a1_7_1 := gz_hi B_a1_7_1
  obtain ⟨S_a1_11, R_a1_11, B_a1_11, A_a1_11_0, S_a1_11_1, R_a1_11_1, B_a1_11_1, Q0_a1_11, Q1_a1_11, Q2_a1_11⟩ := id h_a1_11
  replace R_a1_11 := gz_hi R_a1_11
  replace B_a1_11 := gz_hi B_a1_11
  replace R_a1_11_1 := gz_hi R_a1_11_1
  replace B_a1_11_1 := gz_hi B_a1_11_1
  obtain ⟨S_a1_17, R_a1_17, B_a1_17, A_a1_17_0, S_20, R_20, B_20, A_a1_17_1, S_a1_17_1, R_a1_17_1, B_a1_17_1, A_a1_17_2, S_a1_17_2, R_a1_17_2, B_a1_17_2, A_a1_17_3, S_a1_17_3, R_a1_17_3, B_a1_17_3, A_a1_17_4, S_a1_17_4, R_a1_17_4, B_a1_17_4, A_a1_17_5, S_a1_17_5, R_a1_17_5, B_a1_17_5, S_a1_17_6, R_a1_17_6, B_a1_17_6, S_a1_17_7, R_a1_17_7, B_a1_17_7⟩ := id h_a1_17
  replace R_a1_17 := gz_hi R_a1_17
  replace B_a1_17 := gz_hi B_a1_17
  replace R_20 := gz_hi R_20
  replace B_20 := gz_hi B_20
  replace R_a1_17_1 := gz_hi R_a1_17_1
  replace B_a1_17_1 := gz_hi B_a1_17_1
  replace R_a1_17_2 := gz_hi R_a1_17_2
  replace B_a1_17_2 := gz_hi B_a1_17_2
  replace R_a1_17_3 := gz_hi R_a1_17_3
  replace B_a1_17_3 := gz_hi B_a1_17_3
  replace R_a1_17_4 := gz_hi R_a1_17_4
  replace B_a1_17_4 := gz_hi B_a1_17_4
  replace R_a1_17_5 := gz_hi R_a1_17_5
  replace B_a1_17_5 := gz_hi B_a1_17_5
  replace R_a1_17_6 := gz_hi R_a1_17_6
  replace B_a1_17_6 := gz_hi B_a1_17_6
  replace R_a1_17_7 := gz_hi R_a1_17_7
  replace B_a1_17_7 := gz_hi B_a1_17_7
  have hD : gv_D (gc_E2 ws0 tb 3 (yX2_soundAll, cX2_soundAll, 6, (some .int)) kX2_soundAll) := gq_of oX2_soundAll
  refine gc_ev2 (d := 3) (l := kX2_soundAll) (Po := fun r hₚ => (∃ (Iₚ : gr_I) (Jₚ : gr_J), hₚ = gc_h sh Iₚ Jₚ A ∧ gc_Inv ro Iₚ ∧ (∀ q j : Nat, ((q = p ∧ j = 6) ∨ (q = p ∧ j = 7) ∨ q = (p + 6) ∨ q = (p + 7)) ∨ Iₚ q j = I q j) ∧ (∀ q j : Nat, (False) ∨ Jₚ q j = J q j) ∧ (∃ z : Int, r = some (.inl z) ∧ (-1) ≤ z ∧ z ≤ 24 ∧ (z = -1 ∨ 1 ≤ z) ∧ (¬ Iₚ p 6 = Iₚ p 7 ∧ so_out (fun k : Nat => so_rc I a1 (k : Int)) (Int.toNat (I a1 6)) (so_b a2 (I (so_fb I p 6))) a2 (Iₚ (so_fb Iₚ p 6)) z z)))) htb rfl (Nat.le_of_ble_eq_true rfl) ?_
  have L5 : ∀ (n9 : Nat) (I1 : gr_I) (J2 : gr_J) (v3_3 : Int) (v4_3 : Int), (25 - v4_3).toNat < n9 → gc_Inv ro I1 → (∀ q j : Nat, ((q = p ∧ j = 6) ∨ (q = p ∧ j = 7) ∨ q = (p + 6) ∨ q = (p + 7)) ∨ I1 q j = I q j) → (∀ q j : Nat, (False) ∨ J2 q j = J q j) → (((-1) ≤ v3_3 ∧ v3_3 ≤ 24) ∧ (0 ≤ v4_3 ∧ v4_3 ≤ 24)) → (v4_3 ≤ I a1 6 ∧ ¬ I1 p 6 = I1 p 7 ∧ ∃ fin, so_all (fun k : Nat => so_rc I a1 (k : Int)) (Int.toNat v4_3) (so_b a2 (I (so_fb I p 6))) a2 fin v3_3 ∧ (1 ≤ v3_3 → so_b v3_3 (I1 (so_fb I1 p 6)) = fin)) → gv_X (gc_E2 ws0 tb 3 (yX2_soundAll, cX2_soundAll, 6, (some .int)) kX2_soundAll) (gv_Q cX2_soundAll (some .int) sh (fun r hₚ => (∃ (Iₚ : gr_I) (Jₚ : gr_J), hₚ = gc_h sh Iₚ Jₚ A ∧ gc_Inv ro Iₚ ∧ (∀ q j : Nat, ((q = p ∧ j = 6) ∨ (q = p ∧ j = 7) ∨ q = (p + 6) ∨ q = (p + 7)) ∨ Iₚ q j = I q j) ∧ (∀ q j : Nat, (False) ∨ Jₚ q j = J q j) ∧ (∃ z : Int, r = some (.inl z) ∧ (-1) ≤ z ∧ z ≤ 24 ∧ (z = -1 ∨ 1 ≤ z) ∧ (¬ Iₚ p 6 = Iₚ p 7 ∧ so_out (fun k : Nat => so_rc I a1 (k : Int)) (Int.toNat (I a1 6)) (so_b a2 (I (so_fb I p 6))) a2 (Iₚ (so_fb Iₚ p 6)) z z))))) (5, [(0, .inr (.inr (some p))), (1, .inr (.inr (some a1))), (3, .inl v3_3), (4, .inl v4_3)], [], sh, gc_h sh I1 J2 A) := by
    intro n9
    induction n9 with
    | zero => intro I1 J2 v3_3 v4_3 hn; (/-0-/first | omega | (simp only [gz_hd] at *; omega))
    | succ n9 ih5 =>
      intro I1 J2 v3_3 v4_3 hn hI1 FI1 FJ2 m_3 k_3
      obtain ⟨hv3_3, hv4_3⟩ := gz_h2 m_3
      have L56 : (((-1) ≤ v3_3 ∧ v3_3 ≤ 24)) → (Int.toNat v4_3 = (Int.toNat (I a1 6)) ∨ v3_3 < 1) → gv_X (gc_E2 ws0 tb 3 (yX2_soundAll, cX2_soundAll, 6, (some .int)) kX2_soundAll) (gv_Q cX2_soundAll (some .int) sh (fun r hₚ => (∃ (Iₚ : gr_I) (Jₚ : gr_J), hₚ = gc_h sh Iₚ Jₚ A ∧ gc_Inv ro Iₚ ∧ (∀ q j : Nat, ((q = p ∧ j = 6) ∨ (q = p ∧ j = 7) ∨ q = (p + 6) ∨ q = (p + 7)) ∨ Iₚ q j = I q j) ∧ (∀ q j : Nat, (False) ∨ Jₚ q j = J q j) ∧ (∃ z : Int, r = some (.inl z) ∧ (-1) ≤ z ∧ z ≤ 24 ∧ (z = -1 ∨ 1 ≤ z) ∧ (¬ Iₚ p 6 = Iₚ p 7 ∧ so_out (fun k : Nat => so_rc I a1 (k : Int)) (Int.toNat (I a1 6)) (so_b a2 (I (so_fb I p 6))) a2 (Iₚ (so_fb Iₚ p 6)) z z))))) (56, [(3, .inl v3_3)], [], sh, gc_h sh I1 J2 A) := by
        intro m_4 k_4
        have hv3_3_4 := m_4
        have L65 : ∀ (s0_5 : Int), (((-1) ≤ s0_5 ∧ s0_5 ≤ 24) ∧ (s0_5 = -1 ∨ 1 ≤ s0_5)) → so_out (fun k : Nat => so_rc I a1 (k : Int)) (Int.toNat (I a1 6)) (so_b a2 (I (so_fb I p 6))) a2 (I1 (so_fb I1 p 6)) s0_5 s0_5 → gv_X (gc_E2 ws0 tb 3 (yX2_soundAll, cX2_soundAll, 6, (some .int)) kX2_soundAll) (gv_Q cX2_soundAll (some .int) sh (fun r hₚ => (∃ (Iₚ : gr_I) (Jₚ : gr_J), hₚ = gc_h sh Iₚ Jₚ A ∧ gc_Inv ro Iₚ ∧ (∀ q j : Nat, ((q = p ∧ j = 6) ∨ (q = p ∧ j = 7) ∨ q = (p + 6) ∨ q = (p + 7)) ∨ Iₚ q j = I q j) ∧ (∀ q j : Nat, (False) ∨ Jₚ q j = J q j) ∧ (∃ z : Int, r = some (.inl z) ∧ (-1) ≤ z ∧ z ≤ 24 ∧ (z = -1 ∨ 1 ≤ z) ∧ (¬ Iₚ p 6 = Iₚ p 7 ∧ so_out (fun k : Nat => so_rc I a1 (k : Int)) (Int.toNat (I a1 6)) (so_b a2 (I (so_fb I p 6))) a2 (Iₚ (so_fb Iₚ p 6)) z z))))) (65, [], [.inl s0_5], sh, gc_h sh I1 J2 A) := by
          intro s0_5 m_5 k_5
          obtain ⟨hs0_5, e0_5⟩ := gz_h2 m_5
          exact gv_iret hD rfl ⟨I1, J2, rfl, hI1, FI1, FJ2, ⟨_, rfl, by (/-1-/first | (have o1 := gz_sh hs0_5; omega) | (simp only [gz_hd] at *; omega)), by (/-2-/first | (have o1 := gz_sh hs0_5; omega) | (simp only [gz_hd] at *; omega)), by (/-3-/first | (have o1 := gz_sh e0_5; omega) | (simp only [gz_hd] at *; omega)), k_3.2.1, k_5⟩⟩
        refine gv_run 1 true hD (pcₚ := 57) (lvₚ := [(3, .inl v3_3)]) (stₚ := [.inl v3_3]) (hₚ := gc_h sh I1 J2 A) (C := (True ∧ True)) rfl ⟨trivial, trivial⟩ ?_
        refine gv_if_le (t := 64) hD rfl rfl ⟨by (/-4-/first | (have o1 := gz_sh hv3_3; omega) | (simp only [gz_hd] at *; omega)), by (/-5-/first | (have o1 := gz_sh hv3_3; omega) | (simp only [gz_hd] at *; omega))⟩ (fun c6 => ?_) (fun c6 => ?_)
        · show gv_X _ _ (64, [(3, .inl v3_3)], [], sh, gc_h sh I1 J2 A)
          refine gv_run 1 true hD (pcₚ := 65) (lvₚ := [(3, .inl v3_3)]) (stₚ := [.inl (-1)]) (hₚ := gc_h sh I1 J2 A) (C := (True ∧ True)) rfl ⟨trivial, trivial⟩ ?_
          refine gv_pick [] rfl ?_
          exact L65 (-1) (by (/-6-/first | (and_intros <;> omega) | (simp only [gz_hd] at *; omega))) (so_out_mk k_3.2.2 (by have h9 := k_3.1; (/-7-/first | (have o1 := gz_sh hv4_3; omega) | (simp only [gz_hd] at *; omega))) k_4 (-1) (Or.inr ⟨by (/-8-/first | omega | (simp only [gz_hd] at *; omega)), rfl⟩))
        · show gv_X _ _ (60, [(3, .inl v3_3)], [], sh, gc_h sh I1 J2 A)
          refine gv_run 2 true hD (pcₚ := 65) (lvₚ := [(3, .inl v3_3)]) (stₚ := [.inl v3_3]) (hₚ := gc_h sh I1 J2 A) (C := ((True ∧ True) ∧ True)) rfl ⟨⟨trivial, trivial⟩, trivial⟩ ?_
          refine gv_pick [] rfl ?_
          exact L65 v3_3 (by (/-9-/first | (and_intros; (omega); (have o1 := gz_sh hv3_3; omega); (omega)) | (simp only [gz_hd] at *; omega))) (so_out_mk k_3.2.2 (by have h9 := k_3.1; (/-10-/first | (have o1 := gz_sh hv4_3; omega) | (simp only [gz_hd] at *; omega))) k_4 v3_3 (Or.inl ⟨by (/-11-/first | omega | (simp only [gz_hd] at *; omega)), rfl⟩))
      refine gv_run 2 true hD (pcₚ := 8) (lvₚ := [(0, .inr (.inr (some p))), (1, .inr (.inr (some a1))), (3, .inl v3_3), (4, .inl v4_3)]) (stₚ := [.inr (.inr (some a1)), .inl v4_3]) (hₚ := gc_h sh I1 J2 A) (C := ((True ∧ True) ∧ True)) rfl ⟨⟨trivial, trivial⟩, trivial⟩ ?_
      have f7 := gz_hi ((show 0 ≤ I1 a1 6 ∧ I1 a1 6 ≤ 24 from gc_in2 hI1 (gz_sh R_a1) rfl rfl rfl))
      refine gv_get hD rfl rfl S_a1 ⟨by decide, (gz_sh B_a1)⟩ (gc_hI S_a1 rfl) ?_
      show gv_X _ _ (11, [(0, .inr (.inr (some p))), (1, .inr (.inr (some a1))), (3, .inl v3_3), (4, .inl v4_3)], [.inl (I1 a1 6), .inl v4_3], sh, gc_h sh I1 J2 A)
      refine gv_icmp_ge (t := 56) hD rfl rfl ⟨⟨by (/-12-/first | (have o1 := gz_sh hv4_3; omega) | (simp only [gz_hd] at *; omega)), by (/-13-/first | (have o1 := gz_sh hv4_3; omega) | (simp only [gz_hd] at *; omega))⟩, ⟨by (/-14-/first | (have o1 := gz_sh f7; omega) | (simp only [gz_hd] at *; omega)), by (/-15-/first | (have o1 := gz_sh f7; omega) | (simp only [gz_hd] at *; omega))⟩⟩ (fun c8 => ?_) (fun c8 => ?_)
      · show gv_X _ _ (56, [(0, .inr (.inr (some p))), (1, .inr (.inr (some a1))), (3, .inl v3_3), (4, .inl v4_3)], [], sh, gc_h sh I1 J2 A)
        refine gv_pick [2] rfl ?_
        exact L56 (by (/-16-/first | (have o1 := gz_sh hv3_3; omega) | (simp only [gz_hd] at *; omega))) (Or.inl (by have h9 := (show I1 a1 6 = I a1 6 from (FI1 a1 6).resolve_left (by (/-17-/first | omega | (simp only [gz_hd] at *; omega)))); have h8 := k_3.1; (/-18-/first | (have o1 := gz_sh hv4_3; omega) | (simp only [gz_hd] at *; omega))))
      · show gv_X _ _ (14, [(0, .inr (.inr (some p))), (1, .inr (.inr (some a1))), (3, .inl v3_3), (4, .inl v4_3)], [], sh, gc_h sh I1 J2 A)
        refine gv_run 1 true hD (pcₚ := 15) (lvₚ := [(0, .inr (.inr (some p))), (1, .inr (.inr (some a1))), (3, .inl v3_3), (4, .inl v4_3)]) (stₚ := [.inl v3_3]) (hₚ := gc_h sh I1 J2 A) (C := (True ∧ True)) rfl ⟨trivial, trivial⟩ ?_
        refine gv_if_le (t := 56) hD rfl rfl ⟨by (/-19-/first | (have o1 := gz_sh hv3_3; omega) | (simp only [gz_hd] at *; omega)), by (/-20-/first | (have o1 := gz_sh hv3_3; omega) | (simp only [gz_hd] at *; omega))⟩ (fun c9 => ?_) (fun c9 => ?_)
        · show gv_X _ _ (56, [(0, .inr (.inr (some p))), (1, .inr (.inr (some a1))), (3, .inl v3_3), (4, .inl v4_3)], [], sh, gc_h sh I1 J2 A)
          refine gv_pick [2] rfl ?_
          exact L56 (by (/-21-/first | (have o1 := gz_sh hv3_3; omega) | (simp only [gz_hd] at *; omega))) (Or.inr (by (/-22-/first | omega | (simp only [gz_hd] at *; omega))))
        · show gv_X _ _ (18, [(0, .inr (.inr (some p))), (1, .inr (.inr (some a1))), (3, .inl v3_3), (4, .inl v4_3)], [], sh, gc_h sh I1 J2 A)
          refine gv_run 6 true hD (pcₚ := 26) (lvₚ := [(0, .inr (.inr (some p))), (1, .inr (.inr (some a1))), (3, .inl v3_3), (4, .inl v4_3)]) (stₚ := [.inl v3_3, .inl (v4_3 * 25), .inr (.inr (some a1)), .inr (.inr (some p))]) (hₚ := gc_h sh I1 J2 A) (C := ((((((True ∧ True) ∧ True) ∧ True) ∧ True) ∧ True) ∧ True)) rfl ⟨⟨⟨⟨⟨⟨trivial, trivial⟩, trivial⟩, trivial⟩, trivial⟩, trivial⟩, trivial⟩ ?_
          obtain ⟨r10, h10, E10, P10⟩ := d_X2_soundOnce_p (ws0 := ws0) (tb := tb) hws htb sh ro I1 J2 A hI1 p a1 (v4_3 * 25) v3_3 v4_3 hp h_a1 G_a1  ⟨by (/-23-/first | (have o1 := gz_sh hv4_3; omega) | (simp only [gz_hd] at *; omega)), by (/-24-/first | (have o1 := gz_sh f7; omega) | (simp only [gz_hd] at *; omega))⟩ ⟨by (/-25-/first | omega | (simp only [gz_hd] at *; omega)), by (/-26-/first | (have o1 := gz_sh hv3_3; omega) | (simp only [gz_hd] at *; omega))⟩ (by (/-27-/first | omega | (simp only [gz_hd] at *; omega))) (gc_sc_fr x0 (fun k => (FI1 (a1 + 10) k).resolve_left (by (/-28-/first | omega | (simp only [gz_hd] at *; omega))))) (by (/-29-/first | omega | (simp only [gz_hd] at *; omega))) k_3.2.1 (by rw [show so_rc I1 a1 v4_3 = so_rc I a1 v4_3 from (so_rc_eq (fun k => (FI1 _ k).resolve_left (by (/-30-/first | omega | (simp only [gz_hd] at *; omega)))) (fun k => (FI1 _ k).resolve_left (by (/-31-/first | omega | (simp only [gz_hd] at *; omega)))) (fun k => (FI1 _ k).resolve_left (by (/-32-/first | (have o1 := gz_sh B_p; have o2 := gz_sh B_p_1; have o3 := gz_sh B_p_2; have o4 := gz_sh B_p_3; have o5 := gz_sh B_p_4; have o6 := gz_sh B_p_5; have o7 := gz_sh B_p_6; have o8 := gz_sh B_p_7; omega) | (simp only [gz_hd] at *; omega)))))]; exact y1 v4_3 (by (/-33-/first | (have o1 := gz_sh hv4_3; omega) | (simp only [gz_hd] at *; omega))) (by have h9 := (show I1 a1 6 = I a1 6 from (FI1 a1 6).resolve_left (by (/-34-/first | omega | (simp only [gz_hd] at *; omega)))); (/-35-/first | omega | (simp only [gz_hd] at *; omega)))) (by (/-36-/first | omega | (simp only [gz_hd] at *; omega))) (by (/-37-/first | (have o1 := gz_sh hv4_3; omega) | (simp only [gz_hd] at *; omega))) 
          obtain ⟨I11, J12, rfl, hI11, g10, k10, ⟨z10, rfl, q10⟩⟩ := P10
          replace q10 := gz_hi q10
          have FI11 := gc_frc (W := fun q j => (q = p ∧ j = 6) ∨ (q = p ∧ j = 7) ∨ q = (p + 6) ∨ q = (p + 7)) (V := fun q j => q = (p + 6) ∨ q = (p + 7)) FI1 (fun q j h => (h.elim (fun h => (Or.inr (Or.inr (Or.inl h)))) (fun h => (Or.inr (Or.inr (Or.inr h)))))) g10
          obtain rfl : J2 = J12 := funext fun q => funext fun j => ((k10 q j).resolve_left id).symm
          refine gv_callV hD rfl (As := [.inr (.inr (some a1)), .inl (v4_3 * 25), .inl v3_3]) (st := []) rfl (gz_sh B_p) S_p rfl (gc_lV2 hws rfl) (Nat.le_of_ble_eq_true rfl) (gz_Ev_mono (d := 3) (by decide) E10) ?_
          show gv_X _ _ (29, [(0, .inr (.inr (some p))), (1, .inr (.inr (some a1))), (3, .inl v3_3), (4, .inl v4_3)], [.inl z10], sh, gc_h sh I11 J2 A)
          refine gv_run 2 true hD (pcₚ := 31) (lvₚ := [(3, .inl z10), (0, .inr (.inr (some p))), (1, .inr (.inr (some a1))), (4, .inl v4_3)]) (stₚ := [.inr (.inr (some p))]) (hₚ := gc_h sh I11 J2 A) (C := ((True ∧ True) ∧ True)) rfl ⟨⟨trivial, trivial⟩, trivial⟩ ?_
          have f14 := gz_hi ((show 0 ≤ I11 p 6 ∧ I11 p 6 ≤ 1 from gc_in2 hI11 (gz_sh R_p) rfl rfl rfl))
          obtain ⟨f13_, hq_f13_, S_f13, R_f13, B_f13, D_f13⟩ := gc_sw (p := p) (d := 6) (s := 1) (z := I11 p 6) (show 0 ≤ I11 p 6 ∧ I11 p 6 ≤ 1 from gc_in2 hI11 (gz_sh R_p) rfl rfl rfl) S_p_6 (gz_sh R_p_6) (gz_sh B_p_6) S_p_7 (gz_sh R_p_7) (gz_sh B_p_7)
          refine gv_get hD rfl rfl S_p ⟨by decide, (gz_sh B_p)⟩ (gc_hS (n := 6) S_p rfl hq_f13_) ?_
          show gv_X _ _ (34, [(3, .inl z10), (0, .inr (.inr (some p))), (1, .inr (.inr (some a1))), (4, .inl v4_3)], [.inr (.inr (some f13_))], sh, gc_h sh I11 J2 A)
          refine gv_run 3 true hD (pcₚ := 38) (lvₚ := [(5, .inr (.inr (some f13_))), (3, .inl z10), (0, .inr (.inr (some p))), (1, .inr (.inr (some a1))), (4, .inl v4_3)]) (stₚ := [.inr (.inr (some p)), .inr (.inr (some p))]) (hₚ := gc_h sh I11 J2 A) (C := (((True ∧ True) ∧ True) ∧ True)) rfl ⟨⟨⟨trivial, trivial⟩, trivial⟩, trivial⟩ ?_
          have f16 := gz_hi ((show 0 ≤ I11 p 7 ∧ I11 p 7 ≤ 1 from gc_in2 hI11 (gz_sh R_p) rfl rfl rfl))
          obtain ⟨f15_, hq_f15_, S_f15, R_f15, B_f15, D_f15⟩ := gc_sw (p := p) (d := 6) (s := 1) (z := I11 p 7) (show 0 ≤ I11 p 7 ∧ I11 p 7 ≤ 1 from gc_in2 hI11 (gz_sh R_p) rfl rfl rfl) S_p_6 (gz_sh R_p_6) (gz_sh B_p_6) S_p_7 (gz_sh R_p_7) (gz_sh B_p_7)
          refine gv_get hD rfl rfl S_p ⟨by decide, (gz_sh B_p)⟩ (gc_hS (n := 6) S_p rfl hq_f15_) ?_
          show gv_X _ _ (41, [(5, .inr (.inr (some f13_))), (3, .inl z10), (0, .inr (.inr (some p))), (1, .inr (.inr (some a1))), (4, .inl v4_3)], [.inr (.inr (some f15_)), .inr (.inr (some p))], sh, gc_h sh I11 J2 A)
          refine gv_put hD rfl rfl S_p ⟨by decide, (gz_sh B_p)⟩ rfl trivial ?_
          refine gc_stS (n := 6) (b0 := (f15_ - (p + 6)) / 1) hI11 S_p rfl (by (/-38-/first | (have o1 := gz_sh B_p; have o2 := gz_sh B_p_1; have o3 := gz_sh B_p_2; have o4 := gz_sh B_p_3; have o5 := gz_sh B_p_4; have o6 := gz_sh B_p_5; have o7 := gz_sh B_p_6; have o8 := gz_sh B_p_7; omega) | (simp only [gz_hd] at *; omega))) (gz_sh R_p) (lo := 0) (hi := 1) rfl rfl (by (/-39-/first | omega | (simp only [gz_hd] at *; omega))) (by (/-40-/first | omega | (simp only [gz_hd] at *; omega))) (fun I17 hI17 q18 p18 => ?_)
          have FI17 := gc_frs (W := fun q j => (q = p ∧ j = 6) ∨ (q = p ∧ j = 7) ∨ q = (p + 6) ∨ q = (p + 7)) FI11 (Or.inl ⟨rfl, rfl⟩) p18
          show gv_X _ _ (44, [(5, .inr (.inr (some f13_))), (3, .inl z10), (0, .inr (.inr (some p))), (1, .inr (.inr (some a1))), (4, .inl v4_3)], [], sh, gc_h sh I17 J2 A)
          refine gv_run 2 true hD (pcₚ := 47) (lvₚ := [(5, .inr (.inr (some f13_))), (3, .inl z10), (0, .inr (.inr (some p))), (1, .inr (.inr (some a1))), (4, .inl v4_3)]) (stₚ := [.inr (.inr (some f13_)), .inr (.inr (some p))]) (hₚ := gc_h sh I17 J2 A) (C := ((True ∧ True) ∧ True)) rfl ⟨⟨trivial, trivial⟩, trivial⟩ ?_
          refine gv_put hD rfl rfl S_p ⟨by decide, (gz_sh B_p)⟩ rfl trivial ?_
          refine gc_stS (n := 6) (b0 := (f13_ - (p + 6)) / 1) hI17 S_p rfl (by (/-41-/first | omega | (simp only [gz_hd] at *; omega))) (gz_sh R_p) (lo := 0) (hi := 1) rfl rfl (by (/-42-/first | omega | (simp only [gz_hd] at *; omega))) (by (/-43-/first | (have o1 := gz_sh f16; omega) | (simp only [gz_hd] at *; omega))) (fun I19 hI19 q20 p20 => ?_)
          have FI19 := gc_frs (W := fun q j => (q = p ∧ j = 6) ∨ (q = p ∧ j = 7) ∨ q = (p + 6) ∨ q = (p + 7)) FI17 (Or.inr (Or.inl ⟨rfl, rfl⟩)) p20
          show gv_X _ _ (50, [(5, .inr (.inr (some f13_))), (3, .inl z10), (0, .inr (.inr (some p))), (1, .inr (.inr (some a1))), (4, .inl v4_3)], [], sh, gc_h sh I19 J2 A)
          refine gv_run 2 true hD (pcₚ := 5) (lvₚ := [(4, .inl (v4_3 + 1)), (5, .inr (.inr (some f13_))), (3, .inl z10), (0, .inr (.inr (some p))), (1, .inr (.inr (some a1)))]) (stₚ := []) (hₚ := gc_h sh I19 J2 A) (C := ((True ∧ True) ∧ True)) rfl ⟨⟨trivial, trivial⟩, trivial⟩ ?_
          refine gv_pick [3, 4, 2, 0] rfl ?_
          have o9 : so_one I1 a1 p v4_3 v3_3 I11 z10 := (gz_sh q10).2.2
          have b7 : so_fb I11 p 7 = so_fb I1 p 7 := so_fb_7 o9.1 7
          have b6 : so_fb I11 p 6 = so_fb I1 p 6 := so_fb_7 o9.1 6
          have e13 : so_fb I11 p 6 = f13_ := hq_f13_
          have e15 : so_fb I11 p 7 = f15_ := hq_f15_
          have n9 : ¬ so_fb I1 p 6 = so_fb I1 p 7 := so_fb_ne k_3.2.1 (show 0 ≤ I1 p 6 ∧ I1 p 6 ≤ 1 from gc_in2 hI1 (gz_sh R_p) rfl rfl rfl) (show 0 ≤ I1 p 7 ∧ I1 p 7 ≤ 1 from gc_in2 hI1 (gz_sh R_p) rfl rfl rfl)
          have w6 : I19 p 6 = I17 p 6 := p20 p 6 (fun h => absurd h.2 (by first | exact gz_ne rfl | decide))
          have s6 : so_fb I19 p 6 = so_fb I1 p 7 := by
            unfold so_fb at b7 e15 ⊢
            (/-44-/first | (have o1 := gz_sh B_p; have o2 := gz_sh B_p_1; have o3 := gz_sh B_p_2; have o4 := gz_sh B_p_3; have o5 := gz_sh B_p_4; have o6 := gz_sh B_p_5; have o7 := gz_sh B_p_6; have o8 := gz_sh B_p_7; omega) | (simp only [gz_hd] at *; omega))
          have s9 : ¬ I19 p 6 = I19 p 7 := by
            unfold so_fb at b7 b6 e13 e15 n9
            (/-45-/first | (have o1 := gz_sh B_p; have o2 := gz_sh B_p_1; have o3 := gz_sh B_p_2; have o4 := gz_sh B_p_3; have o5 := gz_sh B_p_4; have o6 := gz_sh B_p_5; have o7 := gz_sh B_p_6; have o8 := gz_sh B_p_7; omega) | (simp only [gz_hd] at *; omega))
          have g9 : ∀ j, I19 (so_fb I1 p 7) j = I11 (so_fb I1 p 7) j := fun j => (p20 _ j (fun h => absurd h.1 (by unfold so_fb; (/-46-/first | omega | (simp only [gz_hd] at *; omega))))).trans (p18 _ j (fun h => absurd h.1 (by unfold so_fb; (/-47-/first | omega | (simp only [gz_hd] at *; omega)))))
          exact ih5 I19 J2 z10 (v4_3 + 1) (by (/-48-/first | (have o1 := gz_sh f14; have o2 := gz_sh f16; have o3 := gz_sh f7; have o4 := gz_sh hv3_3; have o5 := gz_sh hv4_3; omega) | (simp only [gz_hd] at *; omega))) hI19 FI19 FJ2 (by (/-49-/first | (and_intros; (have o1 := gz_sh q10; omega); (have o1 := gz_sh q10; omega); (have o1 := gz_sh hv4_3; omega); (have o1 := gz_sh f7; omega)) | (simp only [gz_hd] at *; omega))) ⟨by have h9 := (show I1 a1 6 = I a1 6 from (FI1 a1 6).resolve_left (by (/-50-/first | omega | (simp only [gz_hd] at *; omega)))); (/-51-/first | omega | (simp only [gz_hd] at *; omega)), s9, by rw [show Int.toNat (v4_3 + 1) = Int.toNat v4_3 + 1 from by (/-52-/first | (have o1 := gz_sh hv4_3; omega) | (simp only [gz_hd] at *; omega))]; exact so_sw (I := I1) (r := v4_3) (by show so_rc I a1 ((Int.toNat v4_3 : Nat) : Int) = _; rw [show ((Int.toNat v4_3 : Nat) : Int) = v4_3 from by (/-53-/first | (have o1 := gz_sh hv4_3; omega) | (simp only [gz_hd] at *; omega))]; exact (so_rc_eq (fun k => (FI1 _ k).resolve_left (by (/-54-/first | omega | (simp only [gz_hd] at *; omega)))) (fun k => (FI1 _ k).resolve_left (by (/-55-/first | omega | (simp only [gz_hd] at *; omega)))) (fun k => (FI1 _ k).resolve_left (by (/-56-/first | (have o1 := gz_sh B_p; have o2 := gz_sh B_p_1; have o3 := gz_sh B_p_2; have o4 := gz_sh B_p_3; have o5 := gz_sh B_p_4; have o6 := gz_sh B_p_5; have o7 := gz_sh B_p_6; have o8 := gz_sh B_p_7; omega) | (simp only [gz_hd] at *; omega))))).symm) k_3.2.2 (by (/-57-/first | omega | (simp only [gz_hd] at *; omega))) o9 s6 g9⟩
  refine gv_run 4 true hD (pcₚ := 5) (lvₚ := [(4, .inl 0), (3, .inl a2), (0, .inr (.inr (some p))), (1, .inr (.inr (some a1))), (2, .inl a2)]) (stₚ := []) (hₚ := gc_h sh I J A) (C := ((((True ∧ True) ∧ True) ∧ True) ∧ True)) rfl ⟨⟨⟨⟨trivial, trivial⟩, trivial⟩, trivial⟩, trivial⟩ ?_
  refine gv_pick [2, 3, 1, 0] rfl ?_
  exact L5 _ I J a2 0 (Nat.lt_succ_self _) hI FI FJ (by (/-58-/first | (and_intros <;> omega) | (simp only [gz_hd] at *; omega))) ⟨(show 0 ≤ I a1 6 ∧ I a1 6 ≤ 24 from gc_in2 hI (gz_sh R_a1) rfl rfl rfl).1, y0, _, ⟨rfl, rfl⟩, fun _ => rfl⟩
