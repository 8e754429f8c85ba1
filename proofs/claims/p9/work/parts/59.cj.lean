def gc_sc (n : Nat) (I : gr_I) : Prop := ∀ k : Int, 0 ≤ k → k < 600 → (k % 25 = 0 ∨ k % 25 = 7 ∨ k % 25 = 10 ∨ k % 25 = 13 ∨ k % 25 = 16 ∨ k % 25 = 19 ∨ k % 25 = 22) → I n (Int.toNat k) = 1 → I n (Int.toNat (k + 1)) ≤ 15
theorem gc_sc_fr {n : Nat} {I Iₚ : gr_I} (h : gc_sc n I) (hf : ∀ k, Iₚ n k = I n k) : gc_sc n Iₚ := fun k a b c d => by rw [hf] at d ⊢; exact h k a b c d
set_option maxHeartbeats 8000000 in
set_option maxRecDepth 100000 in
theorem d_X2_fitsAt {ws0 : List Cond} {tb : String → gz_T} (hws : gc_Ws ws0) (htb : gc_tbs tb) (sh : gz_Sh) (ro : Nat → Nat) (I : gr_I) (J : gr_J) (A : gc_A) (hI : gc_Inv ro I) (p : Nat) (m : Nat) (a1 : Nat) (a2 : Int) (a3 : Nat) (a4 : Int) (a5 : Int) (hp : gc_isForms sh ro A p) (h_a1 : gc_isTongue sh ro A a1) (G_a1 : 144 ≤ a1) (S_a3 : sh[a3]? = some (true, 0, m)) (R_a3 : ro a3 = 1) (B_a3 : a3 < 1000000) (M_a3 : m < 2147483648) (ha2 : 0 ≤ a2 ∧ a2 ≤ 597) (ha4 : (-40) ≤ a4 ∧ a4 ≤ 60) (ha5 : 0 ≤ a5 ∧ a5 ≤ 24) (x0 : a5 ≤ m) (x1 : (a2 % 25 = 0 ∨ a2 % 25 = 7 ∨ a2 % 25 = 10 ∨ a2 % 25 = 13 ∨ a2 % 25 = 16 ∨ a2 % 25 = 19 ∨ a2 % 25 = 22)) (x2 : I (a1 + 10) (Int.toNat a2) = 1 → I (a1 + 10) (Int.toNat (a2 + 1)) ≤ 15) : ∃ r hₚ, gz_Ev ws0 tb 1 (yX2_fitsAt, cX2_fitsAt, 8, (some .int)) [.inr (.inr (some p)), .inr (.inr (some a1)), .inl a2, .inr (.inr (some a3)), .inl a4, .inl a5] sh (gc_h sh I J A) r sh hₚ 0 0 ∧ (hₚ = gc_h sh I J A ∧ (∃ z : Int, r = some (.inl z) ∧ (-1) ≤ z ∧ z ≤ 24 ∧ (z < 0 ∨ a4 ≤ z) ∧ (z ≤ a5))) := by
  obtain ⟨S_p, R_p, B_p, A_p_0, S_20, R_20, B_20, A_p_1, S_p_1, R_p_1, B_p_1, A_p_2, S_p_2, R_p_2, B_p_2, A_p_3, S_p_3, R_p_3, B_p_3, A_p_4, S_p_4, R_p_4, B_p_4, A_p_5, S_p_5, R_p_5, B_p_5, S_p_6, R_p_6, B_p_6, S_p_7, R_p_7, B_p_7⟩ := id hp
  replace R_p := gz_hi R_p
  replace B_p := gz_hi B_p
  replace R_20 := gz_hi R_20
  replace B_20 := gz_hi B_20
  replace R_p_1 := gz_hi R_p_1
  replace B_p_1 := gz_hi B_p_1
  replace R_p_2 := gz_hi R_p_2
  replace B_p_2 := gz_hi B_p_2
  replace R_p_3 := gz_hi R_p_3
  replace B_p_3 := gz_hi B_p_3
  replace R_p_4 := gz_hi R_p_4
  replace B_p_4 := gz_hi B_p_4
  replace R_p_5 := gz_hi R_p_5
  replace B_p_5 := gz_hi B_p_5
  replace R_p_6 := gz_hi R_p_6
  replace B_p_6 := gz_hi B_p_6
  replace R_p_7 := gz_hi R_p_7
  replace B_p_7 := gz_hi B_p_7
  obtain ⟨S_a1, R_a1, B_a1, A_a1_0, h_a1_1, A_a1_1, h_a1_3, A_a1_2, S_a1_5, R_a1_5, B_a1_5, A_a1_3, S_a1_6, R_a1_6, B_a1_6, A_a1_4, h_a1_7, A_a1_5, S_a1_9, R_a1_9, B_a1_9, A_a1_7, S_a1_10, R_a1_10, B_a1_10, A_a1_8, h_a1_11, A_a1_9, S_a1_13, R_a1_13, B_a1_13, A_a1_10, S_a1_14, R_a1_14, B_a1_14, A_a1_12, S_a1_15, R_a1_15, B_a1_15, A_a1_14, S_a1_16, R_a1_16, B_a1_16, A_a1_15, h_a1_17⟩ := id h_a1
  replace R_a1 := gz_hi R_a1
  replace B_a1 := gz_hi B_a1
  replace R_a1_5 := gz_hi R_a1_5
  replace B_a1_5 := gz_hi B_a1_5
  replace R_a1_6 := gz_hi R_a1_6
  replace B_a1_6 := gz_hi B_a1_6
  replace R_a1_9 := gz_hi R_a1_9
  replace B_a1_9 := gz_hi B_a1_9
  replace R_a1_10 := gz_hi R_a1_10
  replace B_a1_10 := gz_hi B_a1_10
  replace R_a1_13 := gz_hi R_a1_13
  replace B_a1_13 := gz_hi B_a1_13
  replace R_a1_14 := gz_hi R_a1_14
  replace B_a1_14 := gz_hi B_a1_14
  replace R_a1_15 := gz_hi R_a1_15
  replace B_a1_15 := gz_hi B_a1_15
  replace R_a1_16 := gz_hi R_a1_16
  replace B_a1_16 := gz_hi B_a1_16
  obtain ⟨S_a1_1, R_a1_1, B_a1_1, A_a1_1_0, S_a1_1_1, R_a1_1_1, B_a1_1_1, Q0_a1_1, Q1_a1_1, Q2_a1_1⟩ := id h_a1_1
  replace R_a1_1 := gz_hi R_a1_1
  replace B_a1_1 := gz_hi B_a1_1
  replace R_a1_1_1 := gz_hi R_a1_1_1
  replace B_a1_1_1 := gz_hi B_a1_1_1
  obtain ⟨S_a1_3, R_a1_3, B_a1_3, A_a1_3_0, S_a1_3_1, R_a1_3_1, B_a1_3_1, Q0_a1_3, Q1_a1_3, Q2_a1_3⟩ := id h_a1_3
  replace R_a1_3 := gz_hi R_a1_3
  replace B_a1_3 := gz_hi B_a1_3
  replace R_a1_3_1 := gz_hi R_a1_3_1
  replace B_a1_3_1 := gz_hi B_a1_3_1
  obtain ⟨S_a1_7, R_a1_7, B_a1_7, A_a1_7_0, S_a1_7_1, R_a1_7_1, B_a1_7_1, Q0_a1_7, Q1_a1_7, Q2_a1_7⟩ := id h_a1_7
  replace R_a1_7 := gz_hi R_a1_7
  replace B_a1_7 := gz_hi B_a1_7
  replace R_a1_7_1 := gz_hi R_a1_7_1
  replace B_a1_7_1 := gz_hi B_a1_7_1
  obtain ⟨S_a1_11, R_a1_11, B_a1_11, A_a1_11_0, S_a1_11_1, R_a1_11_1, B_a1_11_1, Q0_a1_11, Q1_a1_11, Q2_a1_11⟩ := id h_a1_11
  replace R_a1_11 := gz_hi R_a1_11
  replace B_a1_11 := gz_hi B_a1_11
  replace R_a1_11_1 := gz_hi R_a1_11_1
  replace B_a1_11_1 := gz_hi B_a1_11_1
  obtain ⟨S_a1_17, R_a1_17, B_a1_17, A_a1_17_0, S_20, R_20, B_20, A_a1_17_1, S_a1_17_1, R_a1_17_1, B_a1_17_1, A_a1_17_2, S_a1_17_2, R_a1_17_2, B_a1_17_2, A_a1_17_3, S_a1_17_3, R_a1_17_3, B_a1_17_3, A_a1_17_4, S_a1_17_4, R_a1_17_4, B_a1_17_4, A_a1_17_5, S_a1_17_5, R_a1_17_5, B_a1_17_5, S_a1_17_6, R_a1_17_6, B_a1_17_6, S_a1_17_7, R_a1_17_7, B_a1_17_7⟩ := id h_a1_17
  replace R_a1_17 := gz_hi R_a1_17
  replace B_a1_17 := gz_hi B_a1_17
  replace R_20 := gz_hi R_20
  replace B_20 := gz_hi B_20
  replace R_a1_17_1 := gz_hi R_a1_17_1
  replace B_a1_17_1 := gz_hi B_a1_17_1
  replace R_a1_17_2 := gz_hi R_a1_17_2
  replace B_a1_17_2 := gz_hi B_a1_17_2
  replace R_a1_17_3 := gz_hi R_a1_17_3
  replace B_a1_17_3 := gz_hi B_a1_17_3
  replace R_a1_17_4 := gz_hi R_a1_17_4
  replace B_a1_17_4 := gz_hi B_a1_17_4
  replace R_a1_17_5 := gz_hi R_a1_17_5
  replace B_a1_17_5 := gz_hi B_a1_17_5
  replace R_a1_17_6 := gz_hi R_a1_17_6
  replace B_a1_17_6 := gz_hi B_a1_17_6
  replace R_a1_17_7 := gz_hi R_a1_17_7
  replace B_a1_17_7 := gz_hi B_a1_17_7
  have hD : gv_D (gc_E2 ws0 tb 0 (yX2_fitsAt, cX2_fitsAt, 8, (some .int)) kX2_fitsAt) := gq_of oX2_fitsAt
  refine gc_ev2 (d := 0) (l := kX2_fitsAt) (Po := fun r hₚ => (hₚ = gc_h sh I J A ∧ (∃ z : Int, r = some (.inl z) ∧ (-1) ≤ z ∧ z ≤ 24 ∧ (z < 0 ∨ a4 ≤ z) ∧ (z ≤ a5)))) htb rfl (Nat.le_of_ble_eq_true rfl) ?_
  have L23 : ∀ (s0_1 : Int), (((-1) ≤ s0_1 ∧ s0_1 ≤ 24) ∧ (s0_1 < 0 ∨ (s0_1 ≤ 24 ∧ a4 ≤ s0_1)) ∧ (s0_1 ≤ a5)) → gv_X (gc_E2 ws0 tb 0 (yX2_fitsAt, cX2_fitsAt, 8, (some .int)) kX2_fitsAt) (gv_Q cX2_fitsAt (some .int) sh (fun r hₚ => (hₚ = gc_h sh I J A ∧ (∃ z : Int, r = some (.inl z) ∧ (-1) ≤ z ∧ z ≤ 24 ∧ (z < 0 ∨ a4 ≤ z) ∧ (z ≤ a5))))) (23, [], [.inl s0_1], sh, gc_h sh I J A) := by
    intro s0_1 m_1
    obtain ⟨hs0_1, e0_1, e1_1⟩ := gz_h3 m_1
    exact gv_iret hD rfl ⟨rfl, ⟨_, rfl, by (/-0-/first | (and_intros; (have o1 := gz_sh hs0_1; omega); (have o1 := gz_sh hs0_1; omega); (have o1 := gz_sh e0_1; omega); (have o1 := gz_sh e1_1; omega)) | (simp only [gz_hd] at *; omega))⟩⟩
  have L81 : ∀ (s0_2 : Int), (((-1) ≤ s0_2 ∧ s0_2 ≤ 24) ∧ (s0_2 < 0 ∨ (s0_2 ≤ 24 ∧ a4 ≤ s0_2)) ∧ (s0_2 ≤ a5)) → gv_X (gc_E2 ws0 tb 0 (yX2_fitsAt, cX2_fitsAt, 8, (some .int)) kX2_fitsAt) (gv_Q cX2_fitsAt (some .int) sh (fun r hₚ => (hₚ = gc_h sh I J A ∧ (∃ z : Int, r = some (.inl z) ∧ (-1) ≤ z ∧ z ≤ 24 ∧ (z < 0 ∨ a4 ≤ z) ∧ (z ≤ a5))))) (81, [], [.inl s0_2], sh, gc_h sh I J A) := by
    intro s0_2 m_2
    obtain ⟨hs0_2, e0_2, e1_2⟩ := gz_h3 m_2
    exact gv_iret hD rfl ⟨rfl, ⟨_, rfl, by (/-1-/first | (and_intros; (have o1 := gz_sh hs0_2; omega); (have o1 := gz_sh hs0_2; omega); (have o1 := gz_sh e0_2; omega); (have o1 := gz_sh e1_2; omega)) | (simp only [gz_hd] at *; omega))⟩⟩
  have L80 : gv_X (gc_E2 ws0 tb 0 (yX2_fitsAt, cX2_fitsAt, 8, (some .int)) kX2_fitsAt) (gv_Q cX2_fitsAt (some .int) sh (fun r hₚ => (hₚ = gc_h sh I J A ∧ (∃ z : Int, r = some (.inl z) ∧ (-1) ≤ z ∧ z ≤ 24 ∧ (z < 0 ∨ a4 ≤ z) ∧ (z ≤ a5))))) (80, [], [], sh, gc_h sh I J A) := by
    refine gv_run 1 true hD (pcₚ := 81) (lvₚ := []) (stₚ := [.inl (-1)]) (hₚ := gc_h sh I J A) (C := (True ∧ True)) rfl ⟨trivial, trivial⟩ ?_
    exact L81 (-1) (by (/-2-/first | (and_intros <;> omega) | (simp only [gz_hd] at *; omega)))
  have L107 : gv_X (gc_E2 ws0 tb 0 (yX2_fitsAt, cX2_fitsAt, 8, (some .int)) kX2_fitsAt) (gv_Q cX2_fitsAt (some .int) sh (fun r hₚ => (hₚ = gc_h sh I J A ∧ (∃ z : Int, r = some (.inl z) ∧ (-1) ≤ z ∧ z ≤ 24 ∧ (z < 0 ∨ a4 ≤ z) ∧ (z ≤ a5))))) (107, [], [], sh, gc_h sh I J A) := by
    refine gv_run 1 true hD (pcₚ := 108) (lvₚ := []) (stₚ := [.inl (-1)]) (hₚ := gc_h sh I J A) (C := (True ∧ True)) rfl ⟨trivial, trivial⟩ ?_
    exact gv_iret hD rfl ⟨rfl, ⟨_, rfl, by (/-3-/first | (and_intros <;> omega) | (simp only [gz_hd] at *; omega))⟩⟩
  have L112 : ∀ (n9 : Nat) (v6_5 : Int) (v7_5 : Int), (13 - v7_5).toNat < n9 → ((0 ≤ a2 ∧ a2 ≤ 597) ∧ (0 ≤ a4 ∧ a4 ≤ 60) ∧ (0 ≤ v6_5 ∧ v6_5 ≤ 12) ∧ (0 ≤ v7_5 ∧ v7_5 ≤ 12) ∧ (0 ≤ a4) ∧ (a4 + v6_5 ≤ a5)) → gv_X (gc_E2 ws0 tb 0 (yX2_fitsAt, cX2_fitsAt, 8, (some .int)) kX2_fitsAt) (gv_Q cX2_fitsAt (some .int) sh (fun r hₚ => (hₚ = gc_h sh I J A ∧ (∃ z : Int, r = some (.inl z) ∧ (-1) ≤ z ∧ z ≤ 24 ∧ (z < 0 ∨ a4 ≤ z) ∧ (z ≤ a5))))) (112, [(0, .inr (.inr (some p))), (1, .inr (.inr (some a1))), (2, .inl a2), (3, .inr (.inr (some a3))), (4, .inl a4), (6, .inl v6_5), (7, .inl v7_5)], [], sh, gc_h sh I J A) := by
    intro n9
    induction n9 with
    | zero => intro v6_5 v7_5 hn; (/-4-/first | omega | (simp only [gz_hd] at *; omega))
    | succ n9 ih112 =>
      intro v6_5 v7_5 hn m_5
      obtain ⟨ha2_5, ha4_5, hv6_5, hv7_5, e0_5, e1_5⟩ := gz_h6 m_5
      refine gv_run 2 true hD (pcₚ := 116) (lvₚ := [(0, .inr (.inr (some p))), (1, .inr (.inr (some a1))), (2, .inl a2), (3, .inr (.inr (some a3))), (4, .inl a4), (6, .inl v6_5), (7, .inl v7_5)]) (stₚ := [.inl v6_5, .inl v7_5]) (hₚ := gc_h sh I J A) (C := ((True ∧ True) ∧ True)) rfl ⟨⟨trivial, trivial⟩, trivial⟩ ?_
      refine gv_icmp_ge (t := 153) hD rfl rfl ⟨⟨by (/-5-/first | (have o1 := gz_sh hv7_5; omega) | (simp only [gz_hd] at *; omega)), by (/-6-/first | (have o1 := gz_sh hv7_5; omega) | (simp only [gz_hd] at *; omega))⟩, ⟨by (/-7-/first | (have o1 := gz_sh hv6_5; omega) | (simp only [gz_hd] at *; omega)), by (/-8-/first | (have o1 := gz_sh hv6_5; omega) | (simp only [gz_hd] at *; omega))⟩⟩ (fun c6 => ?_) (fun c6 => ?_)
      · show gv_X _ _ (153, [(0, .inr (.inr (some p))), (1, .inr (.inr (some a1))), (2, .inl a2), (3, .inr (.inr (some a3))), (4, .inl a4), (6, .inl v6_5), (7, .inl v7_5)], [], sh, gc_h sh I J A)
        refine gv_run 3 true hD (pcₚ := 158) (lvₚ := [(0, .inr (.inr (some p))), (1, .inr (.inr (some a1))), (2, .inl a2), (3, .inr (.inr (some a3))), (4, .inl a4), (6, .inl v6_5), (7, .inl v7_5)]) (stₚ := [.inl (a4 + v6_5)]) (hₚ := gc_h sh I J A) (C := (((True ∧ True) ∧ True) ∧ True)) rfl ⟨⟨⟨trivial, trivial⟩, trivial⟩, trivial⟩ ?_
        exact gv_iret hD rfl ⟨rfl, ⟨_, rfl, by (/-9-/first | (and_intros; (have o1 := gz_sh ha4_5; have o2 := gz_sh hv6_5; omega); (have o1 := gz_sh e1_5; omega); (have o1 := gz_sh hv6_5; omega); (have o1 := gz_sh e1_5; omega)) | (simp only [gz_hd] at *; omega))⟩⟩
      · show gv_X _ _ (119, [(0, .inr (.inr (some p))), (1, .inr (.inr (some a1))), (2, .inl a2), (3, .inr (.inr (some a3))), (4, .inl a4), (6, .inl v6_5), (7, .inl v7_5)], [], sh, gc_h sh I J A)
        refine gv_run 4 true hD (pcₚ := 125) (lvₚ := [(0, .inr (.inr (some p))), (1, .inr (.inr (some a1))), (2, .inl a2), (3, .inr (.inr (some a3))), (4, .inl a4), (6, .inl v6_5), (7, .inl v7_5)]) (stₚ := [.inl (a4 + v7_5), .inr (.inr (some a3))]) (hₚ := gc_h sh I J A) (C := ((((True ∧ True) ∧ True) ∧ True) ∧ True)) rfl ⟨⟨⟨⟨trivial, trivial⟩, trivial⟩, trivial⟩, trivial⟩ ?_
        have f7 := gz_hi ((show (-128) ≤ I a3 (Int.toNat (a4 + v7_5)) ∧ I a3 (Int.toNat (a4 + v7_5)) ≤ 127 from gc_in2 hI R_a3 rfl rfl rfl))
        refine gv_bald hD rfl S_a3 (Or.inl rfl) ⟨by (/-10-/first | omega | (simp only [gz_hd] at *; omega)), B_a3⟩ ⟨by (/-11-/first | (have o1 := gz_sh ha4_5; have o2 := gz_sh hv7_5; omega) | (simp only [gz_hd] at *; omega)), by (/-12-/first | (have o1 := gz_sh e1_5; omega) | (simp only [gz_hd] at *; omega))⟩ (gc_iI S_a3 rfl) ?_
        show gv_X _ _ (126, [(0, .inr (.inr (some p))), (1, .inr (.inr (some a1))), (2, .inl a2), (3, .inr (.inr (some a3))), (4, .inl a4), (6, .inl v6_5), (7, .inl v7_5)], [.inl (I a3 (Int.toNat (a4 + v7_5)))], sh, gc_h sh I J A)
        refine gv_run 1 true hD (pcₚ := 127) (lvₚ := [(0, .inr (.inr (some p))), (1, .inr (.inr (some a1))), (2, .inl a2), (3, .inr (.inr (some a3))), (4, .inl a4), (6, .inl v6_5), (7, .inl v7_5)]) (stₚ := [.inr (.inr (some p)), .inl (I a3 (Int.toNat (a4 + v7_5)))]) (hₚ := gc_h sh I J A) (C := (True ∧ True)) rfl ⟨trivial, trivial⟩ ?_
        refine gv_get hD rfl rfl S_p ⟨by decide, (gz_sh B_p)⟩ (gc_hA S_p rfl A_p_0) ?_
        show gv_X _ _ (130, [(0, .inr (.inr (some p))), (1, .inr (.inr (some a1))), (2, .inl a2), (3, .inr (.inr (some a3))), (4, .inl a4), (6, .inl v6_5), (7, .inl v7_5)], [.inr (.inr (some 20)), .inl (I a3 (Int.toNat (a4 + v7_5)))], sh, gc_h sh I J A)
        refine gv_run 1 true hD (pcₚ := 131) (lvₚ := [(0, .inr (.inr (some p))), (1, .inr (.inr (some a1))), (2, .inl a2), (3, .inr (.inr (some a3))), (4, .inl a4), (6, .inl v6_5), (7, .inl v7_5)]) (stₚ := [.inr (.inr (some a1)), .inr (.inr (some 20)), .inl (I a3 (Int.toNat (a4 + v7_5)))]) (hₚ := gc_h sh I J A) (C := (True ∧ True)) rfl ⟨trivial, trivial⟩ ?_
        refine gv_get hD rfl rfl S_a1 ⟨by decide, (gz_sh B_a1)⟩ (gc_hA S_a1 rfl A_a1_7) ?_
        show gv_X _ _ (134, [(0, .inr (.inr (some p))), (1, .inr (.inr (some a1))), (2, .inl a2), (3, .inr (.inr (some a3))), (4, .inl a4), (6, .inl v6_5), (7, .inl v7_5)], [.inr (.inr (some (a1 + 10))), .inr (.inr (some 20)), .inl (I a3 (Int.toNat (a4 + v7_5)))], sh, gc_h sh I J A)
        refine gv_run 3 true hD (pcₚ := 137) (lvₚ := [(0, .inr (.inr (some p))), (1, .inr (.inr (some a1))), (2, .inl a2), (3, .inr (.inr (some a3))), (4, .inl a4), (6, .inl v6_5), (7, .inl v7_5)]) (stₚ := [.inl (a2 + 1), .inr (.inr (some (a1 + 10))), .inr (.inr (some 20)), .inl (I a3 (Int.toNat (a4 + v7_5)))]) (hₚ := gc_h sh I J A) (C := (((True ∧ True) ∧ True) ∧ True)) rfl ⟨⟨⟨trivial, trivial⟩, trivial⟩, trivial⟩ ?_
        have f8 := gz_hi ((show 0 ≤ I (a1 + 10) (Int.toNat (a2 + 1)) ∧ I (a1 + 10) (Int.toNat (a2 + 1)) ≤ 2000 from ((fun hc => hc.elim (fun hc => (have h9 : 0 ≤ I (a1 + 10) (Int.toNat (a2 + 1)) ∧ I (a1 + 10) (Int.toNat (a2 + 1)) ≤ 2000 := gc_inm hI (gz_sh R_a1_10) rfl rfl hc rfl rfl; ⟨by (/-13-/first | omega | (simp only [gz_hd] at *; omega)), by (/-14-/first | omega | (simp only [gz_hd] at *; omega))⟩)) (fun hc => hc.elim (fun hc => (have h9 : 0 ≤ I (a1 + 10) (Int.toNat (a2 + 1)) ∧ I (a1 + 10) (Int.toNat (a2 + 1)) ≤ 2000 := gc_inm hI (gz_sh R_a1_10) rfl rfl hc rfl rfl; ⟨by (/-15-/first | omega | (simp only [gz_hd] at *; omega)), by (/-16-/first | omega | (simp only [gz_hd] at *; omega))⟩)) (fun hc => hc.elim (fun hc => (have h9 : 0 ≤ I (a1 + 10) (Int.toNat (a2 + 1)) ∧ I (a1 + 10) (Int.toNat (a2 + 1)) ≤ 2000 := gc_inm hI (gz_sh R_a1_10) rfl rfl hc rfl rfl; ⟨by (/-17-/first | omega | (simp only [gz_hd] at *; omega)), by (/-18-/first | omega | (simp only [gz_hd] at *; omega))⟩)) (fun hc => hc.elim (fun hc => (have h9 : 0 ≤ I (a1 + 10) (Int.toNat (a2 + 1)) ∧ I (a1 + 10) (Int.toNat (a2 + 1)) ≤ 2000 := gc_inm hI (gz_sh R_a1_10) rfl rfl hc rfl rfl; ⟨by (/-19-/first | omega | (simp only [gz_hd] at *; omega)), by (/-20-/first | omega | (simp only [gz_hd] at *; omega))⟩)) (fun hc => hc.elim (fun hc => (have h9 : 0 ≤ I (a1 + 10) (Int.toNat (a2 + 1)) ∧ I (a1 + 10) (Int.toNat (a2 + 1)) ≤ 2000 := gc_inm hI (gz_sh R_a1_10) rfl rfl hc rfl rfl; ⟨by (/-21-/first | omega | (simp only [gz_hd] at *; omega)), by (/-22-/first | omega | (simp only [gz_hd] at *; omega))⟩)) (fun hc => hc.elim (fun hc => (have h9 : 0 ≤ I (a1 + 10) (Int.toNat (a2 + 1)) ∧ I (a1 + 10) (Int.toNat (a2 + 1)) ≤ 2000 := gc_inm hI (gz_sh R_a1_10) rfl rfl hc rfl rfl; ⟨by (/-23-/first | omega | (simp only [gz_hd] at *; omega)), by (/-24-/first | omega | (simp only [gz_hd] at *; omega))⟩)) (fun hc => (have h9 : 0 ≤ I (a1 + 10) (Int.toNat (a2 + 1)) ∧ I (a1 + 10) (Int.toNat (a2 + 1)) ≤ 2000 := gc_inm hI (gz_sh R_a1_10) rfl rfl hc rfl rfl; ⟨by (/-25-/first | omega | (simp only [gz_hd] at *; omega)), by (/-26-/first | omega | (simp only [gz_hd] at *; omega))⟩)))))))) (show (Int.toNat (a2 + 1)) % 25 = 1 ∨ (Int.toNat (a2 + 1)) % 25 = 8 ∨ (Int.toNat (a2 + 1)) % 25 = 11 ∨ (Int.toNat (a2 + 1)) % 25 = 14 ∨ (Int.toNat (a2 + 1)) % 25 = 17 ∨ (Int.toNat (a2 + 1)) % 25 = 20 ∨ (Int.toNat (a2 + 1)) % 25 = 23 from by (/-27-/first | (have o1 := gz_sh hv7_5; omega) | (simp only [gz_hd] at *; omega))))))
        refine gv_iald hD rfl S_a1_10 rfl ⟨by decide, (gz_sh B_a1_10)⟩ ⟨by (/-28-/first | omega | (simp only [gz_hd] at *; omega)), by (/-29-/first | omega | (simp only [gz_hd] at *; omega))⟩ (gc_iI S_a1_10 rfl) ?_
        show gv_X _ _ (138, [(0, .inr (.inr (some p))), (1, .inr (.inr (some a1))), (2, .inl a2), (3, .inr (.inr (some a3))), (4, .inl a4), (6, .inl v6_5), (7, .inl v7_5)], [.inl (I (a1 + 10) (Int.toNat (a2 + 1))), .inr (.inr (some 20)), .inl (I a3 (Int.toNat (a4 + v7_5)))], sh, gc_h sh I J A)
        refine gv_run 2 true hD (pcₚ := 141) (lvₚ := [(0, .inr (.inr (some p))), (1, .inr (.inr (some a1))), (2, .inl a2), (3, .inr (.inr (some a3))), (4, .inl a4), (6, .inl v6_5), (7, .inl v7_5)]) (stₚ := [.inl ((I (a1 + 10) (Int.toNat (a2 + 1))) + v7_5), .inr (.inr (some 20)), .inl (I a3 (Int.toNat (a4 + v7_5)))]) (hₚ := gc_h sh I J A) (C := ((True ∧ True) ∧ True)) rfl ⟨⟨trivial, trivial⟩, trivial⟩ ?_
        have f9 := gz_hi ((gc_b_36 hI (gz_sh R_20) (Int.toNat (((I (a1 + 10) (Int.toNat (a2 + 1))) + v7_5)))))
        refine gv_bald hD rfl S_20 (Or.inl rfl) ⟨by decide, (gz_sh B_20)⟩ ⟨by (/-30-/first | (have o1 := gz_sh f8; have o2 := gz_sh hv7_5; omega) | (simp only [gz_hd] at *; omega)), by (/-31-/first | (have o1 := gz_sh f8; have o2 := gz_sh hv7_5; omega) | (simp only [gz_hd] at *; omega))⟩ (gc_iI S_20 rfl) ?_
        show gv_X _ _ (142, [(0, .inr (.inr (some p))), (1, .inr (.inr (some a1))), (2, .inl a2), (3, .inr (.inr (some a3))), (4, .inl a4), (6, .inl v6_5), (7, .inl v7_5)], [.inl (I 20 (Int.toNat (((I (a1 + 10) (Int.toNat (a2 + 1))) + v7_5)))), .inl (I a3 (Int.toNat (a4 + v7_5)))], sh, gc_h sh I J A)
        refine gv_icmp_eq (t := 147) hD rfl rfl ⟨⟨by (/-32-/first | (have o1 := gz_sh f7; omega) | (simp only [gz_hd] at *; omega)), by (/-33-/first | (have o1 := gz_sh f7; omega) | (simp only [gz_hd] at *; omega))⟩, ⟨by (/-34-/first | (have o1 := gz_sh f9; omega) | (simp only [gz_hd] at *; omega)), by (/-35-/first | (have o1 := gz_sh f9; omega) | (simp only [gz_hd] at *; omega))⟩⟩ (fun c10 => ?_) (fun c10 => ?_)
        · show gv_X _ _ (147, [(0, .inr (.inr (some p))), (1, .inr (.inr (some a1))), (2, .inl a2), (3, .inr (.inr (some a3))), (4, .inl a4), (6, .inl v6_5), (7, .inl v7_5)], [], sh, gc_h sh I J A)
          refine gv_run 2 true hD (pcₚ := 112) (lvₚ := [(7, .inl (v7_5 + 1)), (0, .inr (.inr (some p))), (1, .inr (.inr (some a1))), (2, .inl a2), (3, .inr (.inr (some a3))), (4, .inl a4), (6, .inl v6_5)]) (stₚ := []) (hₚ := gc_h sh I J A) (C := ((True ∧ True) ∧ True)) rfl ⟨⟨trivial, trivial⟩, trivial⟩ ?_
          refine gv_pick [1, 2, 3, 4, 5, 6, 0] rfl ?_
          exact ih112 v6_5 (v7_5 + 1) (by (/-36-/first | (have o1 := gz_sh hv6_5; have o2 := gz_sh hv7_5; omega) | (simp only [gz_hd] at *; omega))) (by (/-37-/first | (and_intros; (omega); (omega); (have o1 := gz_sh ha4_5; omega); (omega); (have o1 := gz_sh hv6_5; omega); (have o1 := gz_sh hv6_5; omega); (have o1 := gz_sh hv7_5; omega); (have o1 := gz_sh hv6_5; omega); (have o1 := gz_sh ha4_5; omega); (have o1 := gz_sh e1_5; omega)) | (simp only [gz_hd] at *; omega)))
        · show gv_X _ _ (145, [(0, .inr (.inr (some p))), (1, .inr (.inr (some a1))), (2, .inl a2), (3, .inr (.inr (some a3))), (4, .inl a4), (6, .inl v6_5), (7, .inl v7_5)], [], sh, gc_h sh I J A)
          refine gv_run 1 true hD (pcₚ := 146) (lvₚ := [(0, .inr (.inr (some p))), (1, .inr (.inr (some a1))), (2, .inl a2), (3, .inr (.inr (some a3))), (4, .inl a4), (6, .inl v6_5), (7, .inl v7_5)]) (stₚ := [.inl (-1)]) (hₚ := gc_h sh I J A) (C := (True ∧ True)) rfl ⟨trivial, trivial⟩ ?_
          exact gv_iret hD rfl ⟨rfl, ⟨_, rfl, by (/-38-/first | (and_intros <;> omega) | (simp only [gz_hd] at *; omega))⟩⟩
  refine gv_run 1 true hD (pcₚ := 1) (lvₚ := [(0, .inr (.inr (some p))), (1, .inr (.inr (some a1))), (2, .inl a2), (3, .inr (.inr (some a3))), (4, .inl a4), (5, .inl a5)]) (stₚ := [.inr (.inr (some a1))]) (hₚ := gc_h sh I J A) (C := (True ∧ True)) rfl ⟨trivial, trivial⟩ ?_
  refine gv_get hD rfl rfl S_a1 ⟨by decide, (gz_sh B_a1)⟩ (gc_hA S_a1 rfl A_a1_7) ?_
  show gv_X _ _ (4, [(0, .inr (.inr (some p))), (1, .inr (.inr (some a1))), (2, .inl a2), (3, .inr (.inr (some a3))), (4, .inl a4), (5, .inl a5)], [.inr (.inr (some (a1 + 10)))], sh, gc_h sh I J A)
  refine gv_run 1 true hD (pcₚ := 5) (lvₚ := [(0, .inr (.inr (some p))), (1, .inr (.inr (some a1))), (2, .inl a2), (3, .inr (.inr (some a3))), (4, .inl a4), (5, .inl a5)]) (stₚ := [.inl a2, .inr (.inr (some (a1 + 10)))]) (hₚ := gc_h sh I J A) (C := (True ∧ True)) rfl ⟨trivial, trivial⟩ ?_
  have f11 := gz_hi ((show 0 ≤ I (a1 + 10) (Int.toNat a2) ∧ I (a1 + 10) (Int.toNat a2) ≤ 2 from ((fun hc => hc.elim (fun hc => (have h9 : 0 ≤ I (a1 + 10) (Int.toNat a2) ∧ I (a1 + 10) (Int.toNat a2) ≤ 2 := gc_inm hI (gz_sh R_a1_10) rfl rfl hc rfl rfl; ⟨by (/-39-/first | omega | (simp only [gz_hd] at *; omega)), by (/-40-/first | omega | (simp only [gz_hd] at *; omega))⟩)) (fun hc => hc.elim (fun hc => (have h9 : 0 ≤ I (a1 + 10) (Int.toNat a2) ∧ I (a1 + 10) (Int.toNat a2) ≤ 2 := gc_inm hI (gz_sh R_a1_10) rfl rfl hc rfl rfl; ⟨by (/-41-/first | omega | (simp only [gz_hd] at *; omega)), by (/-42-/first | omega | (simp only [gz_hd] at *; omega))⟩)) (fun hc => hc.elim (fun hc => (have h9 : 0 ≤ I (a1 + 10) (Int.toNat a2) ∧ I (a1 + 10) (Int.toNat a2) ≤ 2 := gc_inm hI (gz_sh R_a1_10) rfl rfl hc rfl rfl; ⟨by (/-43-/first | omega | (simp only [gz_hd] at *; omega)), by (/-44-/first | omega | (simp only [gz_hd] at *; omega))⟩)) (fun hc => hc.elim (fun hc => (have h9 : 0 ≤ I (a1 + 10) (Int.toNat a2) ∧ I (a1 + 10) (Int.toNat a2) ≤ 2 := gc_inm hI (gz_sh R_a1_10) rfl rfl hc rfl rfl; ⟨by (/-45-/first | omega | (simp only [gz_hd] at *; omega)), by (/-46-/first | omega | (simp only [gz_hd] at *; omega))⟩)) (fun hc => hc.elim (fun hc => (have h9 : 0 ≤ I (a1 + 10) (Int.toNat a2) ∧ I (a1 + 10) (Int.toNat a2) ≤ 2 := gc_inm hI (gz_sh R_a1_10) rfl rfl hc rfl rfl; ⟨by (/-47-/first | omega | (simp only [gz_hd] at *; omega)), by (/-48-/first | omega | (simp only [gz_hd] at *; omega))⟩)) (fun hc => hc.elim (fun hc => (have h9 : 0 ≤ I (a1 + 10) (Int.toNat a2) ∧ I (a1 + 10) (Int.toNat a2) ≤ 2 := gc_inm hI (gz_sh R_a1_10) rfl rfl hc rfl rfl; ⟨by (/-49-/first | omega | (simp only [gz_hd] at *; omega)), by (/-50-/first | omega | (simp only [gz_hd] at *; omega))⟩)) (fun hc => (have h9 : 0 ≤ I (a1 + 10) (Int.toNat a2) ∧ I (a1 + 10) (Int.toNat a2) ≤ 2 := gc_inm hI (gz_sh R_a1_10) rfl rfl hc rfl rfl; ⟨by (/-51-/first | omega | (simp only [gz_hd] at *; omega)), by (/-52-/first | omega | (simp only [gz_hd] at *; omega))⟩)))))))) (show (Int.toNat a2) % 25 = 0 ∨ (Int.toNat a2) % 25 = 7 ∨ (Int.toNat a2) % 25 = 10 ∨ (Int.toNat a2) % 25 = 13 ∨ (Int.toNat a2) % 25 = 16 ∨ (Int.toNat a2) % 25 = 19 ∨ (Int.toNat a2) % 25 = 22 from by (/-53-/first | omega | (simp only [gz_hd] at *; omega))))))
  refine gv_iald hD rfl S_a1_10 rfl ⟨by decide, (gz_sh B_a1_10)⟩ ⟨by (/-54-/first | omega | (simp only [gz_hd] at *; omega)), by (/-55-/first | omega | (simp only [gz_hd] at *; omega))⟩ (gc_iI S_a1_10 rfl) ?_
  show gv_X _ _ (6, [(0, .inr (.inr (some p))), (1, .inr (.inr (some a1))), (2, .inl a2), (3, .inr (.inr (some a3))), (4, .inl a4), (5, .inl a5)], [.inl (I (a1 + 10) (Int.toNat a2))], sh, gc_h sh I J A)
  refine gv_run 1 true hD (pcₚ := 7) (lvₚ := [(0, .inr (.inr (some p))), (1, .inr (.inr (some a1))), (2, .inl a2), (3, .inr (.inr (some a3))), (4, .inl a4), (5, .inl a5)]) (stₚ := [.inl 2, .inl (I (a1 + 10) (Int.toNat a2))]) (hₚ := gc_h sh I J A) (C := (True ∧ True)) rfl ⟨trivial, trivial⟩ ?_
  refine gv_icmp_ne (t := 24) hD rfl rfl ⟨⟨by (/-56-/first | (have o1 := gz_sh f11; omega) | (simp only [gz_hd] at *; omega)), by (/-57-/first | (have o1 := gz_sh f11; omega) | (simp only [gz_hd] at *; omega))⟩, ⟨by (/-58-/first | omega | (simp only [gz_hd] at *; omega)), by (/-59-/first | omega | (simp only [gz_hd] at *; omega))⟩⟩ (fun c12 => ?_) (fun c12 => ?_)
  · show gv_X _ _ (24, [(0, .inr (.inr (some p))), (1, .inr (.inr (some a1))), (2, .inl a2), (3, .inr (.inr (some a3))), (4, .inl a4), (5, .inl a5)], [], sh, gc_h sh I J A)
    refine gv_run 1 true hD (pcₚ := 25) (lvₚ := [(0, .inr (.inr (some p))), (1, .inr (.inr (some a1))), (2, .inl a2), (3, .inr (.inr (some a3))), (4, .inl a4), (5, .inl a5)]) (stₚ := [.inr (.inr (some a1))]) (hₚ := gc_h sh I J A) (C := (True ∧ True)) rfl ⟨trivial, trivial⟩ ?_
    refine gv_get hD rfl rfl S_a1 ⟨by decide, (gz_sh B_a1)⟩ (gc_hA S_a1 rfl A_a1_7) ?_
    show gv_X _ _ (28, [(0, .inr (.inr (some p))), (1, .inr (.inr (some a1))), (2, .inl a2), (3, .inr (.inr (some a3))), (4, .inl a4), (5, .inl a5)], [.inr (.inr (some (a1 + 10)))], sh, gc_h sh I J A)
    refine gv_run 1 true hD (pcₚ := 29) (lvₚ := [(0, .inr (.inr (some p))), (1, .inr (.inr (some a1))), (2, .inl a2), (3, .inr (.inr (some a3))), (4, .inl a4), (5, .inl a5)]) (stₚ := [.inl a2, .inr (.inr (some (a1 + 10)))]) (hₚ := gc_h sh I J A) (C := (True ∧ True)) rfl ⟨trivial, trivial⟩ ?_
    refine gv_iald hD rfl S_a1_10 rfl ⟨by decide, (gz_sh B_a1_10)⟩ ⟨by (/-75-/first | omega | (simp only [gz_hd] at *; omega)), by (/-76-/first | omega | (simp only [gz_hd] at *; omega))⟩ (gc_iI S_a1_10 rfl) ?_
    show gv_X _ _ (30, [(0, .inr (.inr (some p))), (1, .inr (.inr (some a1))), (2, .inl a2), (3, .inr (.inr (some a3))), (4, .inl a4), (5, .inl a5)], [.inl (I (a1 + 10) (Int.toNat a2))], sh, gc_h sh I J A)
    refine gv_run 1 true hD (pcₚ := 31) (lvₚ := [(0, .inr (.inr (some p))), (1, .inr (.inr (some a1))), (2, .inl a2), (3, .inr (.inr (some a3))), (4, .inl a4), (5, .inl a5)]) (stₚ := [.inl 1, .inl (I (a1 + 10) (Int.toNat a2))]) (hₚ := gc_h sh I J A) (C := (True ∧ True)) rfl ⟨trivial, trivial⟩ ?_
    refine gv_icmp_ne (t := 82) hD rfl rfl ⟨⟨by (/-77-/first | (have o1 := gz_sh f11; omega) | (simp only [gz_hd] at *; omega)), by (/-78-/first | (have o1 := gz_sh f11; omega) | (simp only [gz_hd] at *; omega))⟩, ⟨by (/-79-/first | omega | (simp only [gz_hd] at *; omega)), by (/-80-/first | omega | (simp only [gz_hd] at *; omega))⟩⟩ (fun c14 => ?_) (fun c14 => ?_)
    · show gv_X _ _ (82, [(0, .inr (.inr (some p))), (1, .inr (.inr (some a1))), (2, .inl a2), (3, .inr (.inr (some a3))), (4, .inl a4), (5, .inl a5)], [], sh, gc_h sh I J A)
      refine gv_run 1 true hD (pcₚ := 83) (lvₚ := [(0, .inr (.inr (some p))), (1, .inr (.inr (some a1))), (2, .inl a2), (3, .inr (.inr (some a3))), (4, .inl a4), (5, .inl a5)]) (stₚ := [.inr (.inr (some a1))]) (hₚ := gc_h sh I J A) (C := (True ∧ True)) rfl ⟨trivial, trivial⟩ ?_
      refine gv_get hD rfl rfl S_a1 ⟨by decide, (gz_sh B_a1)⟩ (gc_hA S_a1 rfl A_a1_7) ?_
      show gv_X _ _ (86, [(0, .inr (.inr (some p))), (1, .inr (.inr (some a1))), (2, .inl a2), (3, .inr (.inr (some a3))), (4, .inl a4), (5, .inl a5)], [.inr (.inr (some (a1 + 10)))], sh, gc_h sh I J A)
      refine gv_run 3 true hD (pcₚ := 89) (lvₚ := [(0, .inr (.inr (some p))), (1, .inr (.inr (some a1))), (2, .inl a2), (3, .inr (.inr (some a3))), (4, .inl a4), (5, .inl a5)]) (stₚ := [.inl (a2 + 2), .inr (.inr (some (a1 + 10)))]) (hₚ := gc_h sh I J A) (C := (((True ∧ True) ∧ True) ∧ True)) rfl ⟨⟨⟨trivial, trivial⟩, trivial⟩, trivial⟩ ?_
      have f15 := gz_hi ((show 0 ≤ I (a1 + 10) (Int.toNat (a2 + 2)) ∧ I (a1 + 10) (Int.toNat (a2 + 2)) ≤ 12 from ((fun hc => hc.elim (fun hc => (have h9 : 0 ≤ I (a1 + 10) (Int.toNat (a2 + 2)) ∧ I (a1 + 10) (Int.toNat (a2 + 2)) ≤ 12 := gc_inm hI (gz_sh R_a1_10) rfl rfl hc rfl rfl; ⟨by (/-81-/first | omega | (simp only [gz_hd] at *; omega)), by (/-82-/first | omega | (simp only [gz_hd] at *; omega))⟩)) (fun hc => hc.elim (fun hc => (have h9 : 0 ≤ I (a1 + 10) (Int.toNat (a2 + 2)) ∧ I (a1 + 10) (Int.toNat (a2 + 2)) ≤ 12 := gc_inm hI (gz_sh R_a1_10) rfl rfl hc rfl rfl; ⟨by (/-83-/first | omega | (simp only [gz_hd] at *; omega)), by (/-84-/first | omega | (simp only [gz_hd] at *; omega))⟩)) (fun hc => hc.elim (fun hc => (have h9 : 0 ≤ I (a1 + 10) (Int.toNat (a2 + 2)) ∧ I (a1 + 10) (Int.toNat (a2 + 2)) ≤ 12 := gc_inm hI (gz_sh R_a1_10) rfl rfl hc rfl rfl; ⟨by (/-85-/first | omega | (simp only [gz_hd] at *; omega)), by (/-86-/first | omega | (simp only [gz_hd] at *; omega))⟩)) (fun hc => hc.elim (fun hc => (have h9 : 0 ≤ I (a1 + 10) (Int.toNat (a2 + 2)) ∧ I (a1 + 10) (Int.toNat (a2 + 2)) ≤ 12 := gc_inm hI (gz_sh R_a1_10) rfl rfl hc rfl rfl; ⟨by (/-87-/first | omega | (simp only [gz_hd] at *; omega)), by (/-88-/first | omega | (simp only [gz_hd] at *; omega))⟩)) (fun hc => hc.elim (fun hc => (have h9 : 0 ≤ I (a1 + 10) (Int.toNat (a2 + 2)) ∧ I (a1 + 10) (Int.toNat (a2 + 2)) ≤ 12 := gc_inm hI (gz_sh R_a1_10) rfl rfl hc rfl rfl; ⟨by (/-89-/first | omega | (simp only [gz_hd] at *; omega)), by (/-90-/first | omega | (simp only [gz_hd] at *; omega))⟩)) (fun hc => hc.elim (fun hc => (have h9 : 0 ≤ I (a1 + 10) (Int.toNat (a2 + 2)) ∧ I (a1 + 10) (Int.toNat (a2 + 2)) ≤ 12 := gc_inm hI (gz_sh R_a1_10) rfl rfl hc rfl rfl; ⟨by (/-91-/first | omega | (simp only [gz_hd] at *; omega)), by (/-92-/first | omega | (simp only [gz_hd] at *; omega))⟩)) (fun hc => (have h9 : 0 ≤ I (a1 + 10) (Int.toNat (a2 + 2)) ∧ I (a1 + 10) (Int.toNat (a2 + 2)) ≤ 12 := gc_inm hI (gz_sh R_a1_10) rfl rfl hc rfl rfl; ⟨by (/-93-/first | omega | (simp only [gz_hd] at *; omega)), by (/-94-/first | omega | (simp only [gz_hd] at *; omega))⟩)))))))) (show (Int.toNat (a2 + 2)) % 25 = 2 ∨ (Int.toNat (a2 + 2)) % 25 = 9 ∨ (Int.toNat (a2 + 2)) % 25 = 12 ∨ (Int.toNat (a2 + 2)) % 25 = 15 ∨ (Int.toNat (a2 + 2)) % 25 = 18 ∨ (Int.toNat (a2 + 2)) % 25 = 21 ∨ (Int.toNat (a2 + 2)) % 25 = 24 from by (/-95-/first | (have o1 := gz_sh f11; omega) | (simp only [gz_hd] at *; omega))))))
      refine gv_iald hD rfl S_a1_10 rfl ⟨by decide, (gz_sh B_a1_10)⟩ ⟨by (/-96-/first | omega | (simp only [gz_hd] at *; omega)), by (/-97-/first | omega | (simp only [gz_hd] at *; omega))⟩ (gc_iI S_a1_10 rfl) ?_
      show gv_X _ _ (90, [(0, .inr (.inr (some p))), (1, .inr (.inr (some a1))), (2, .inl a2), (3, .inr (.inr (some a3))), (4, .inl a4), (5, .inl a5)], [.inl (I (a1 + 10) (Int.toNat (a2 + 2)))], sh, gc_h sh I J A)
      refine gv_run 2 true hD (pcₚ := 94) (lvₚ := [(6, .inl (I (a1 + 10) (Int.toNat (a2 + 2)))), (0, .inr (.inr (some p))), (1, .inr (.inr (some a1))), (2, .inl a2), (3, .inr (.inr (some a3))), (4, .inl a4), (5, .inl a5)]) (stₚ := [.inl a4]) (hₚ := gc_h sh I J A) (C := ((True ∧ True) ∧ True)) rfl ⟨⟨trivial, trivial⟩, trivial⟩ ?_
      refine gv_if_lt (t := 107) hD rfl rfl ⟨by (/-98-/first | omega | (simp only [gz_hd] at *; omega)), by (/-99-/first | omega | (simp only [gz_hd] at *; omega))⟩ (fun c16 => ?_) (fun c16 => ?_)
      · show gv_X _ _ (107, [(6, .inl (I (a1 + 10) (Int.toNat (a2 + 2)))), (0, .inr (.inr (some p))), (1, .inr (.inr (some a1))), (2, .inl a2), (3, .inr (.inr (some a3))), (4, .inl a4), (5, .inl a5)], [], sh, gc_h sh I J A)
        refine gv_pick [] rfl ?_
        exact L107 
      · show gv_X _ _ (97, [(6, .inl (I (a1 + 10) (Int.toNat (a2 + 2)))), (0, .inr (.inr (some p))), (1, .inr (.inr (some a1))), (2, .inl a2), (3, .inr (.inr (some a3))), (4, .inl a4), (5, .inl a5)], [], sh, gc_h sh I J A)
        refine gv_run 4 true hD (pcₚ := 104) (lvₚ := [(6, .inl (I (a1 + 10) (Int.toNat (a2 + 2)))), (0, .inr (.inr (some p))), (1, .inr (.inr (some a1))), (2, .inl a2), (3, .inr (.inr (some a3))), (4, .inl a4), (5, .inl a5)]) (stₚ := [.inl a5, .inl (a4 + (I (a1 + 10) (Int.toNat (a2 + 2))))]) (hₚ := gc_h sh I J A) (C := ((((True ∧ True) ∧ True) ∧ True) ∧ True)) rfl ⟨⟨⟨⟨trivial, trivial⟩, trivial⟩, trivial⟩, trivial⟩ ?_
        refine gv_icmp_le (t := 109) hD rfl rfl ⟨⟨by (/-100-/first | (have o1 := gz_sh f15; omega) | (simp only [gz_hd] at *; omega)), by (/-101-/first | (have o1 := gz_sh f15; omega) | (simp only [gz_hd] at *; omega))⟩, ⟨by (/-102-/first | omega | (simp only [gz_hd] at *; omega)), by (/-103-/first | omega | (simp only [gz_hd] at *; omega))⟩⟩ (fun c17 => ?_) (fun c17 => ?_)
        · show gv_X _ _ (109, [(6, .inl (I (a1 + 10) (Int.toNat (a2 + 2)))), (0, .inr (.inr (some p))), (1, .inr (.inr (some a1))), (2, .inl a2), (3, .inr (.inr (some a3))), (4, .inl a4), (5, .inl a5)], [], sh, gc_h sh I J A)
          refine gv_run 2 true hD (pcₚ := 112) (lvₚ := [(7, .inl 0), (6, .inl (I (a1 + 10) (Int.toNat (a2 + 2)))), (0, .inr (.inr (some p))), (1, .inr (.inr (some a1))), (2, .inl a2), (3, .inr (.inr (some a3))), (4, .inl a4), (5, .inl a5)]) (stₚ := []) (hₚ := gc_h sh I J A) (C := ((True ∧ True) ∧ True)) rfl ⟨⟨trivial, trivial⟩, trivial⟩ ?_
          refine gv_pick [2, 3, 4, 5, 6, 1, 0] rfl ?_
          exact L112 _ ((I (a1 + 10) (Int.toNat (a2 + 2)))) 0 (Nat.lt_succ_self _) (by (/-104-/first | (and_intros; (omega); (omega); (omega); (omega); (have o1 := gz_sh f15; omega); (have o1 := gz_sh f15; omega); (omega); (omega); (omega); (omega)) | (simp only [gz_hd] at *; omega)))
        · show gv_X _ _ (107, [(6, .inl (I (a1 + 10) (Int.toNat (a2 + 2)))), (0, .inr (.inr (some p))), (1, .inr (.inr (some a1))), (2, .inl a2), (3, .inr (.inr (some a3))), (4, .inl a4), (5, .inl a5)], [], sh, gc_h sh I J A)
          refine gv_pick [] rfl ?_
          exact L107 
    · show gv_X _ _ (34, [(0, .inr (.inr (some p))), (1, .inr (.inr (some a1))), (2, .inl a2), (3, .inr (.inr (some a3))), (4, .inl a4), (5, .inl a5)], [], sh, gc_h sh I J A)
      refine gv_run 1 true hD (pcₚ := 36) (lvₚ := [(0, .inr (.inr (some p))), (1, .inr (.inr (some a1))), (2, .inl a2), (3, .inr (.inr (some a3))), (4, .inl a4), (5, .inl a5)]) (stₚ := [.inl a4]) (hₚ := gc_h sh I J A) (C := (True ∧ True)) rfl ⟨trivial, trivial⟩ ?_
      refine gv_if_lt (t := 80) hD rfl rfl ⟨by (/-105-/first | omega | (simp only [gz_hd] at *; omega)), by (/-106-/first | omega | (simp only [gz_hd] at *; omega))⟩ (fun c18 => ?_) (fun c18 => ?_)
      · show gv_X _ _ (80, [(0, .inr (.inr (some p))), (1, .inr (.inr (some a1))), (2, .inl a2), (3, .inr (.inr (some a3))), (4, .inl a4), (5, .inl a5)], [], sh, gc_h sh I J A)
        refine gv_pick [] rfl ?_
        exact L80 
      · show gv_X _ _ (39, [(0, .inr (.inr (some p))), (1, .inr (.inr (some a1))), (2, .inl a2), (3, .inr (.inr (some a3))), (4, .inl a4), (5, .inl a5)], [], sh, gc_h sh I J A)
        refine gv_run 2 true hD (pcₚ := 43) (lvₚ := [(0, .inr (.inr (some p))), (1, .inr (.inr (some a1))), (2, .inl a2), (3, .inr (.inr (some a3))), (4, .inl a4), (5, .inl a5)]) (stₚ := [.inl a5, .inl a4]) (hₚ := gc_h sh I J A) (C := ((True ∧ True) ∧ True)) rfl ⟨⟨trivial, trivial⟩, trivial⟩ ?_
        refine gv_icmp_ge (t := 80) hD rfl rfl ⟨⟨by (/-107-/first | omega | (simp only [gz_hd] at *; omega)), by (/-108-/first | omega | (simp only [gz_hd] at *; omega))⟩, ⟨by (/-109-/first | omega | (simp only [gz_hd] at *; omega)), by (/-110-/first | omega | (simp only [gz_hd] at *; omega))⟩⟩ (fun c19 => ?_) (fun c19 => ?_)
        · show gv_X _ _ (80, [(0, .inr (.inr (some p))), (1, .inr (.inr (some a1))), (2, .inl a2), (3, .inr (.inr (some a3))), (4, .inl a4), (5, .inl a5)], [], sh, gc_h sh I J A)
          refine gv_pick [] rfl ?_
          exact L80 
        · show gv_X _ _ (46, [(0, .inr (.inr (some p))), (1, .inr (.inr (some a1))), (2, .inl a2), (3, .inr (.inr (some a3))), (4, .inl a4), (5, .inl a5)], [], sh, gc_h sh I J A)
          refine gv_run 1 true hD (pcₚ := 47) (lvₚ := [(0, .inr (.inr (some p))), (1, .inr (.inr (some a1))), (2, .inl a2), (3, .inr (.inr (some a3))), (4, .inl a4), (5, .inl a5)]) (stₚ := [.inr (.inr (some a1))]) (hₚ := gc_h sh I J A) (C := (True ∧ True)) rfl ⟨trivial, trivial⟩ ?_
          refine gv_get hD rfl rfl S_a1 ⟨by decide, (gz_sh B_a1)⟩ (gc_hA S_a1 rfl A_a1_5) ?_
          show gv_X _ _ (50, [(0, .inr (.inr (some p))), (1, .inr (.inr (some a1))), (2, .inl a2), (3, .inr (.inr (some a3))), (4, .inl a4), (5, .inl a5)], [.inr (.inr (some (a1 + 9)))], sh, gc_h sh I J A)
          refine gv_run 1 true hD (pcₚ := 51) (lvₚ := [(0, .inr (.inr (some p))), (1, .inr (.inr (some a1))), (2, .inl a2), (3, .inr (.inr (some a3))), (4, .inl a4), (5, .inl a5)]) (stₚ := [.inr (.inr (some a1)), .inr (.inr (some (a1 + 9)))]) (hₚ := gc_h sh I J A) (C := (True ∧ True)) rfl ⟨trivial, trivial⟩ ?_
          refine gv_get hD rfl rfl S_a1 ⟨by decide, (gz_sh B_a1)⟩ (gc_hA S_a1 rfl A_a1_7) ?_
          show gv_X _ _ (54, [(0, .inr (.inr (some p))), (1, .inr (.inr (some a1))), (2, .inl a2), (3, .inr (.inr (some a3))), (4, .inl a4), (5, .inl a5)], [.inr (.inr (some (a1 + 10))), .inr (.inr (some (a1 + 9)))], sh, gc_h sh I J A)
          refine gv_run 3 true hD (pcₚ := 57) (lvₚ := [(0, .inr (.inr (some p))), (1, .inr (.inr (some a1))), (2, .inl a2), (3, .inr (.inr (some a3))), (4, .inl a4), (5, .inl a5)]) (stₚ := [.inl (a2 + 1), .inr (.inr (some (a1 + 10))), .inr (.inr (some (a1 + 9)))]) (hₚ := gc_h sh I J A) (C := (((True ∧ True) ∧ True) ∧ True)) rfl ⟨⟨⟨trivial, trivial⟩, trivial⟩, trivial⟩ ?_
          have f20 := gz_hi ((show 0 ≤ I (a1 + 10) (Int.toNat (a2 + 1)) ∧ I (a1 + 10) (Int.toNat (a2 + 1)) ≤ 2000 from ((fun hc => hc.elim (fun hc => (have h9 : 0 ≤ I (a1 + 10) (Int.toNat (a2 + 1)) ∧ I (a1 + 10) (Int.toNat (a2 + 1)) ≤ 2000 := gc_inm hI (gz_sh R_a1_10) rfl rfl hc rfl rfl; ⟨by (/-111-/first | omega | (simp only [gz_hd] at *; omega)), by (/-112-/first | omega | (simp only [gz_hd] at *; omega))⟩)) (fun hc => hc.elim (fun hc => (have h9 : 0 ≤ I (a1 + 10) (Int.toNat (a2 + 1)) ∧ I (a1 + 10) (Int.toNat (a2 + 1)) ≤ 2000 := gc_inm hI (gz_sh R_a1_10) rfl rfl hc rfl rfl; ⟨by (/-113-/first | omega | (simp only [gz_hd] at *; omega)), by (/-114-/first | omega | (simp only [gz_hd] at *; omega))⟩)) (fun hc => hc.elim (fun hc => (have h9 : 0 ≤ I (a1 + 10) (Int.toNat (a2 + 1)) ∧ I (a1 + 10) (Int.toNat (a2 + 1)) ≤ 2000 := gc_inm hI (gz_sh R_a1_10) rfl rfl hc rfl rfl; ⟨by (/-115-/first | omega | (simp only [gz_hd] at *; omega)), by (/-116-/first | omega | (simp only [gz_hd] at *; omega))⟩)) (fun hc => hc.elim (fun hc => (have h9 : 0 ≤ I (a1 + 10) (Int.toNat (a2 + 1)) ∧ I (a1 + 10) (Int.toNat (a2 + 1)) ≤ 2000 := gc_inm hI (gz_sh R_a1_10) rfl rfl hc rfl rfl; ⟨by (/-117-/first | omega | (simp only [gz_hd] at *; omega)), by (/-118-/first | omega | (simp only [gz_hd] at *; omega))⟩)) (fun hc => hc.elim (fun hc => (have h9 : 0 ≤ I (a1 + 10) (Int.toNat (a2 + 1)) ∧ I (a1 + 10) (Int.toNat (a2 + 1)) ≤ 2000 := gc_inm hI (gz_sh R_a1_10) rfl rfl hc rfl rfl; ⟨by (/-119-/first | omega | (simp only [gz_hd] at *; omega)), by (/-120-/first | omega | (simp only [gz_hd] at *; omega))⟩)) (fun hc => hc.elim (fun hc => (have h9 : 0 ≤ I (a1 + 10) (Int.toNat (a2 + 1)) ∧ I (a1 + 10) (Int.toNat (a2 + 1)) ≤ 2000 := gc_inm hI (gz_sh R_a1_10) rfl rfl hc rfl rfl; ⟨by (/-121-/first | omega | (simp only [gz_hd] at *; omega)), by (/-122-/first | omega | (simp only [gz_hd] at *; omega))⟩)) (fun hc => (have h9 : 0 ≤ I (a1 + 10) (Int.toNat (a2 + 1)) ∧ I (a1 + 10) (Int.toNat (a2 + 1)) ≤ 2000 := gc_inm hI (gz_sh R_a1_10) rfl rfl hc rfl rfl; ⟨by (/-123-/first | omega | (simp only [gz_hd] at *; omega)), by (/-124-/first | omega | (simp only [gz_hd] at *; omega))⟩)))))))) (show (Int.toNat (a2 + 1)) % 25 = 1 ∨ (Int.toNat (a2 + 1)) % 25 = 8 ∨ (Int.toNat (a2 + 1)) % 25 = 11 ∨ (Int.toNat (a2 + 1)) % 25 = 14 ∨ (Int.toNat (a2 + 1)) % 25 = 17 ∨ (Int.toNat (a2 + 1)) % 25 = 20 ∨ (Int.toNat (a2 + 1)) % 25 = 23 from by (/-125-/first | omega | (simp only [gz_hd] at *; omega))))))
          refine gv_iald hD rfl S_a1_10 rfl ⟨by decide, (gz_sh B_a1_10)⟩ ⟨by (/-126-/first | omega | (simp only [gz_hd] at *; omega)), by (/-127-/first | omega | (simp only [gz_hd] at *; omega))⟩ (gc_iI S_a1_10 rfl) ?_
          show gv_X _ _ (58, [(0, .inr (.inr (some p))), (1, .inr (.inr (some a1))), (2, .inl a2), (3, .inr (.inr (some a3))), (4, .inl a4), (5, .inl a5)], [.inl (I (a1 + 10) (Int.toNat (a2 + 1))), .inr (.inr (some (a1 + 9)))], sh, gc_h sh I J A)
          refine gv_iald hD rfl S_a1_9 rfl ⟨by decide, (gz_sh B_a1_9)⟩ ⟨by (/-128-/first | (have o1 := gz_sh f20; omega) | (simp only [gz_hd] at *; omega)), by (/-129-/first | omega | (simp only [gz_hd] at *; omega))⟩ (gc_iI S_a1_9 rfl) ?_
          show gv_X _ _ (59, [(0, .inr (.inr (some p))), (1, .inr (.inr (some a1))), (2, .inl a2), (3, .inr (.inr (some a3))), (4, .inl a4), (5, .inl a5)], [.inl (I (a1 + 9) (Int.toNat ((I (a1 + 10) (Int.toNat (a2 + 1))))))], sh, gc_h sh I J A)
          refine gv_run 2 true hD (pcₚ := 62) (lvₚ := [(0, .inr (.inr (some p))), (1, .inr (.inr (some a1))), (2, .inl a2), (3, .inr (.inr (some a3))), (4, .inl a4), (5, .inl a5)]) (stₚ := [.inl a4, .inr (.inr (some a3)), .inl (I (a1 + 9) (Int.toNat ((I (a1 + 10) (Int.toNat (a2 + 1))))))]) (hₚ := gc_h sh I J A) (C := ((True ∧ True) ∧ True)) rfl ⟨⟨trivial, trivial⟩, trivial⟩ ?_
          refine gv_bald hD rfl S_a3 (Or.inl rfl) ⟨by (/-130-/first | omega | (simp only [gz_hd] at *; omega)), B_a3⟩ ⟨by (/-131-/first | omega | (simp only [gz_hd] at *; omega)), by (/-132-/first | omega | (simp only [gz_hd] at *; omega))⟩ (gc_iI S_a3 rfl) ?_
          show gv_X _ _ (63, [(0, .inr (.inr (some p))), (1, .inr (.inr (some a1))), (2, .inl a2), (3, .inr (.inr (some a3))), (4, .inl a4), (5, .inl a5)], [.inl (I a3 (Int.toNat a4)), .inl (I (a1 + 9) (Int.toNat ((I (a1 + 10) (Int.toNat (a2 + 1))))))], sh, gc_h sh I J A)
          have f24 := gz_hi (gw_and (x := (((Int32.ofInt ((I (a1 + 9) (Int.toNat ((I (a1 + 10) (Int.toNat (a2 + 1))))))) >>> (Int32.ofInt (((I a3 (Int.toNat a4)) - 97)) &&& 31)).toInt))) (y := 1) ⟨by (/-133-/first | omega | (simp only [gz_hd] at *; omega)), by (/-134-/first | omega | (simp only [gz_hd] at *; omega))⟩)
          refine gv_run 6 true hD (pcₚ := 70) (lvₚ := [(0, .inr (.inr (some p))), (1, .inr (.inr (some a1))), (2, .inl a2), (3, .inr (.inr (some a3))), (4, .inl a4), (5, .inl a5)]) (stₚ := [.inl 1, .inl ((Int32.ofInt (((Int32.ofInt ((I (a1 + 9) (Int.toNat ((I (a1 + 10) (Int.toNat (a2 + 1))))))) >>> (Int32.ofInt (((I a3 (Int.toNat a4)) - 97)) &&& 31)).toInt)) &&& Int32.ofInt 1).toInt)]) (hₚ := gc_h sh I J A) (C := ((((((True ∧ True) ∧ True) ∧ True) ∧ True) ∧ True) ∧ True)) rfl ⟨⟨⟨⟨⟨⟨trivial, trivial⟩, trivial⟩, trivial⟩, trivial⟩, trivial⟩, trivial⟩ ?_
          refine gv_icmp_ne (t := 80) hD rfl rfl ⟨⟨by (/-135-/first | (have o1 := gz_sh f24; omega) | (simp only [gz_hd] at *; omega)), by (/-136-/first | (have o1 := gz_sh f24; omega) | (simp only [gz_hd] at *; omega))⟩, ⟨by (/-137-/first | omega | (simp only [gz_hd] at *; omega)), by (/-138-/first | omega | (simp only [gz_hd] at *; omega))⟩⟩ (fun c25 => ?_) (fun c25 => ?_)
          · show gv_X _ _ (80, [(0, .inr (.inr (some p))), (1, .inr (.inr (some a1))), (2, .inl a2), (3, .inr (.inr (some a3))), (4, .inl a4), (5, .inl a5)], [], sh, gc_h sh I J A)
            refine gv_pick [] rfl ?_
            exact L80 
          · show gv_X _ _ (73, [(0, .inr (.inr (some p))), (1, .inr (.inr (some a1))), (2, .inl a2), (3, .inr (.inr (some a3))), (4, .inl a4), (5, .inl a5)], [], sh, gc_h sh I J A)
            refine gv_run 4 true hD (pcₚ := 81) (lvₚ := [(0, .inr (.inr (some p))), (1, .inr (.inr (some a1))), (2, .inl a2), (3, .inr (.inr (some a3))), (4, .inl a4), (5, .inl a5)]) (stₚ := [.inl (a4 + 1)]) (hₚ := gc_h sh I J A) (C := ((((True ∧ True) ∧ True) ∧ True) ∧ True)) rfl ⟨⟨⟨⟨trivial, trivial⟩, trivial⟩, trivial⟩, trivial⟩ ?_
            refine gv_pick [] rfl ?_
            exact L81 (a4 + 1) (by (/-139-/first | (and_intros <;> omega) | (simp only [gz_hd] at *; omega)))
  · show gv_X _ _ (10, [(0, .inr (.inr (some p))), (1, .inr (.inr (some a1))), (2, .inl a2), (3, .inr (.inr (some a3))), (4, .inl a4), (5, .inl a5)], [], sh, gc_h sh I J A)
    refine gv_run 2 true hD (pcₚ := 14) (lvₚ := [(0, .inr (.inr (some p))), (1, .inr (.inr (some a1))), (2, .inl a2), (3, .inr (.inr (some a3))), (4, .inl a4), (5, .inl a5)]) (stₚ := [.inl a5, .inl a4]) (hₚ := gc_h sh I J A) (C := ((True ∧ True) ∧ True)) rfl ⟨⟨trivial, trivial⟩, trivial⟩ ?_
    refine gv_icmp_ne (t := 22) hD rfl rfl ⟨⟨by (/-140-/first | omega | (simp only [gz_hd] at *; omega)), by (/-141-/first | omega | (simp only [gz_hd] at *; omega))⟩, ⟨by (/-142-/first | omega | (simp only [gz_hd] at *; omega)), by (/-143-/first | omega | (simp only [gz_hd] at *; omega))⟩⟩ (fun c26 => ?_) (fun c26 => ?_)
    · show gv_X _ _ (22, [(0, .inr (.inr (some p))), (1, .inr (.inr (some a1))), (2, .inl a2), (3, .inr (.inr (some a3))), (4, .inl a4), (5, .inl a5)], [], sh, gc_h sh I J A)
      refine gv_run 1 true hD (pcₚ := 23) (lvₚ := [(0, .inr (.inr (some p))), (1, .inr (.inr (some a1))), (2, .inl a2), (3, .inr (.inr (some a3))), (4, .inl a4), (5, .inl a5)]) (stₚ := [.inl (-1)]) (hₚ := gc_h sh I J A) (C := (True ∧ True)) rfl ⟨trivial, trivial⟩ ?_
      refine gv_pick [] rfl ?_
      exact L23 (-1) (by (/-144-/first | (and_intros <;> omega) | (simp only [gz_hd] at *; omega)))
    · show gv_X _ _ (17, [(0, .inr (.inr (some p))), (1, .inr (.inr (some a1))), (2, .inl a2), (3, .inr (.inr (some a3))), (4, .inl a4), (5, .inl a5)], [], sh, gc_h sh I J A)
      refine gv_run 2 true hD (pcₚ := 23) (lvₚ := [(0, .inr (.inr (some p))), (1, .inr (.inr (some a1))), (2, .inl a2), (3, .inr (.inr (some a3))), (4, .inl a4), (5, .inl a5)]) (stₚ := [.inl a4]) (hₚ := gc_h sh I J A) (C := ((True ∧ True) ∧ True)) rfl ⟨⟨trivial, trivial⟩, trivial⟩ ?_
      refine gv_pick [] rfl ?_
      exact L23 a4 (by (/-145-/first | (and_intros <;> omega) | (simp only [gz_hd] at *; omega)))
set_option maxHeartbeats 8000000 in
set_option maxRecDepth 100000 in
theorem d_X2_leftFits {ws0 : List Cond} {tb : String → gz_T} (hws : gc_Ws ws0) (htb : gc_tbs tb) (sh : gz_Sh) (ro : Nat → Nat) (I : gr_I) (J : gr_J) (A : gc_A) (hI : gc_Inv ro I) (p : Nat) (a1 : Nat) (a2 : Int) (a3 : Int) (hp : gc_isForms sh ro A p) (h_a1 : gc_isTongue sh ro A a1) (G_a1 : 144 ≤ a1) (ha2 : 0 ≤ a2 ∧ a2 ≤ 575) (ha3 : 0 ≤ a3 ∧ a3 ≤ 24) (x0 : a2 % 25 = 0) (x1 : gc_sc (a1 + 10) I) : ∃ r hₚ, gz_Ev ws0 tb 2 (yX2_leftFits, cX2_leftFits, 8, (some .boolean)) [.inr (.inr (some p)), .inr (.inr (some a1)), .inl a2, .inl a3] sh (gc_h sh I J A) r sh hₚ 0 0 ∧ (hₚ = gc_h sh I J A ∧ (∃ z : Int, r = some (.inl z) ∧ 0 ≤ z ∧ z ≤ 1)) := by
  obtain ⟨S_p, R_p, B_p, A_p_0, S_20, R_20, B_20, A_p_1, S_p_1, R_p_1, B_p_1, A_p_2, S_p_2, R_p_2, B_p_2, A_p_3, S_p_3, R_p_3, B_p_3, A_p_4, S_p_4, R_p_4, B_p_4, A_p_5, S_p_5, R_p_5, B_p_5, S_p_6, R_p_6, B_p_6, S_p_7, R_p_7, B_p_7⟩ := id hp
  replace R_p := gz_hi R_p
  replace B_p := gz_hi B_p
  replace R_20 := gz_hi R_20
  replace B_20 := gz_hi B_20
  replace R_p_1 := gz_hi R_p_1
  replace B_p_1 := gz_hi B_p_1
  replace R_p_2 := gz_hi R_p_2
  replace B_p_2 := gz_hi B_p_2
  replace R_p_3 := gz_hi R_p_3
  replace B_p_3 := gz_hi B_p_3
  replace R_p_4 := gz_hi R_p_4
  replace B_p_4 := gz_hi B_p_4
  replace R_p_5 := gz_hi R_p_5
  replace B_p_5 := gz_hi B_p_5
  replace R_p_6 := gz_hi R_p_6
  replace B_p_6 := gz_hi B_p_6
  replace R_p_7 := gz_hi R_p_7
  replace B_p_7 := gz_hi B_p_7
  obtain ⟨S_a1, R_a1, B_a1, A_a1_0, h_a1_1, A_a1_1, h_a1_3, A_a1_2, S_a1_5, R_a1_5, B_a1_5, A_a1_3, S_a1_6, R_a1_6, B_a1_6, A_a1_4, h_a1_7, A_a1_5, S_a1_9, R_a1_9, B_a1_9, A_a1_7, S_a1_10, R_a1_10, B_a1_10, A_a1_8, h_a1_11, A_a1_9, S_a1_13, R_a1_13, B_a1_13, A_a1_10, S_a1_14, R_a1_14, B_a1_14, A_a1_12, S_a1_15, R_a1_15, B_a1_15, A_a1_14, S_a1_16, R_a1_16, B_a1_16, A_a1_15, h_a1_17⟩ := id h_a1
  replace R_a1 := gz_hi R_a1
  replace B_a1 := gz_hi B_a1
  replace R_a1_5 := gz_hi R_a1_5
  replace B_a1_5 := gz_hi B_a1_5
  replace R_a1_6 := gz_hi R_a1_6
  replace B_a1_6 := gz_hi B_a1_6
  replace R_a1_9 := gz_hi R_a1_9
  replace B_a1_9 := gz_hi B_a1_9
  replace R_a1_10 := gz_hi R_a1_10
  replace B_a1_10 := gz_hi B_a1_10
  replace R_a1_13 := gz_hi R_a1_13
  replace B_a1_13 := gz_hi B_a1_13
  replace R_a1_14 := gz_hi R_a1_14
  replace B_a1_14 := gz_hi B_a1_14
  replace R_a1_15 := gz_hi R_a1_15
  replace B_a1_15 := gz_hi B_a1_15
  replace R_a1_16 := gz_hi R_a1_16
  replace B_a1_16 := gz_hi B_a1_16
  obtain ⟨S_a1_1, R_a1_1, B_a1_1, A_a1_1_0, S_a1_1_1, R_a1_1_1, B_a1_1_1, Q0_a1_1, Q1_a1_1, Q2_a1_1⟩ := id h_a1_1
  replace R_a1_1 := gz_hi R_a1_1
  replace B_a1_1 := gz_hi B_a1_1
  replace R_a1_1_1 := gz_hi R_a1_1_1
  replace B_a1_1_1 := gz_hi B_a1_1_1
  obtain ⟨S_a1_3, R_a1_3, B_a1_3, A_a1_3_0, S_a1_3_1, R_a1_3_1, B_a1_3_1, Q0_a1_3, Q1_a1_3, Q2_a1_3⟩ := id h_a1_3
  replace R_a1_3 := gz_hi R_a1_3
  replace B_a1_3 := gz_hi B_a1_3
  replace R_a1_3_1 := gz_hi R_a1_3_1
  replace B_a1_3_1 := gz_hi B_a1_3_1
  obtain ⟨S_a1_7, R_a1_7, B_a1_7, A_a1_7_0, S_a1_7_1, R_a1_7_1, B_a1_7_1, Q0_a1_7, Q1_a1_7, Q2_a1_7⟩ := id h_a1_7
  replace R_a1_7 := gz_hi R_a1_7
  replace B_a1_7 := gz_hi B_a1_7
  replace R_a1_7_1 := gz_hi R_a1_7_1
  replace B_a1_7_1 := gz_hi B_a1_7_1
  obtain ⟨S_a1_11, R_a1_11, B_a1_11, A_a1_11_0, S_a1_11_1, R_a1_11_1, B_a1_11_1, Q0_a1_11, Q1_a1_11, Q2_a1_11⟩ := id h_a1_11
  replace R_a1_11 := gz_hi R_a1_11
  replace B_a1_11 := gz_hi B_a1_11
  replace R_a1_11_1 := gz_hi R_a1_11_1
  replace B_a1_11_1 := gz_hi B_a1_11_1
  obtain ⟨S_a1_17, R_a1_17, B_a1_17, A_a1_17_0, S_20, R_20, B_20, A_a1_17_1, S_a1_17_1, R_a1_17_1, B_a1_17_1, A_a1_17_2, S_a1_17_2, R_a1_17_2, B_a1_17_2, A_a1_17_3, S_a1_17_3, R_a1_17_3, B_a1_17_3, A_a1_17_4, S_a1_17_4, R_a1_17_4, B_a1_17_4, A_a1_17_5, S_a1_17_5, R_a1_17_5, B_a1_17_5, S_a1_17_6, R_a1_17_6, B_a1_17_6, S_a1_17_7, R_a1_17_7, B_a1_17_7⟩ := id h_a1_17
  replace R_a1_17 := gz_hi R_a1_17
  replace B_a1_17 := gz_hi B_a1_17
  replace R_20 := gz_hi R_20
  replace B_20 := gz_hi B_20
  replace R_a1_17_1 := gz_hi R_a1_17_1
  replace B_a1_17_1 := gz_hi B_a1_17_1
  replace R_a1_17_2 := gz_hi R_a1_17_2
  replace B_a1_17_2 := gz_hi B_a1_17_2
  replace R_a1_17_3 := gz_hi R_a1_17_3
  replace B_a1_17_3 := gz_hi B_a1_17_3
  replace R_a1_17_4 := gz_hi R_a1_17_4
  replace B_a1_17_4 := gz_hi B_a1_17_4
  replace R_a1_17_5 := gz_hi R_a1_17_5
  replace B_a1_17_5 := gz_hi B_a1_17_5
  replace R_a1_17_6 := gz_hi R_a1_17_6
  replace B_a1_17_6 := gz_hi B_a1_17_6
  replace R_a1_17_7 := gz_hi R_a1_17_7
  replace B_a1_17_7 := gz_hi B_a1_17_7
  have hD : gv_D (gc_E2 ws0 tb 1 (yX2_leftFits, cX2_leftFits, 8, (some .boolean)) kX2_leftFits) := gq_of oX2_leftFits
  refine gc_ev2 (d := 1) (l := kX2_leftFits) (Po := fun r hₚ => (hₚ = gc_h sh I J A ∧ (∃ z : Int, r = some (.inl z) ∧ 0 ≤ z ∧ z ≤ 1))) htb rfl (Nat.le_of_ble_eq_true rfl) ?_
  have L15 : ∀ (n9 : Nat) (v4_1 : Int) (v5_1 : Int), (v5_1 - (-2)).toNat < n9 → ((0 ≤ a2 ∧ a2 ≤ 575) ∧ (0 ≤ a3 ∧ a3 ≤ 24) ∧ (0 ≤ v4_1 ∧ v4_1 ≤ 24) ∧ ((-1) ≤ v5_1 ∧ v5_1 ≤ 2)) → gv_X (gc_E2 ws0 tb 1 (yX2_leftFits, cX2_leftFits, 8, (some .boolean)) kX2_leftFits) (gv_Q cX2_leftFits (some .boolean) sh (fun r hₚ => (hₚ = gc_h sh I J A ∧ (∃ z : Int, r = some (.inl z) ∧ 0 ≤ z ∧ z ≤ 1)))) (15, [(0, .inr (.inr (some p))), (1, .inr (.inr (some a1))), (2, .inl a2), (3, .inl a3), (4, .inl v4_1), (5, .inl v5_1)], [], sh, gc_h sh I J A) := by
    intro n9
    induction n9 with
    | zero => intro v4_1 v5_1 hn; (/-0-/first | omega | (simp only [gz_hd] at *; omega))
    | succ n9 ih15 =>
      intro v4_1 v5_1 hn m_1
      obtain ⟨ha2_1, ha3_1, hv4_1, hv5_1⟩ := gz_h4 m_1
      have L111 : ∀ (v4_2 : Int), ((0 ≤ a2 ∧ a2 ≤ 575) ∧ (0 ≤ a3 ∧ a3 ≤ 24) ∧ (0 ≤ v4_2 ∧ v4_2 ≤ 24) ∧ (0 ≤ v5_1 ∧ v5_1 ≤ 2)) → gv_X (gc_E2 ws0 tb 1 (yX2_leftFits, cX2_leftFits, 8, (some .boolean)) kX2_leftFits) (gv_Q cX2_leftFits (some .boolean) sh (fun r hₚ => (hₚ = gc_h sh I J A ∧ (∃ z : Int, r = some (.inl z) ∧ 0 ≤ z ∧ z ≤ 1)))) (111, [(0, .inr (.inr (some p))), (1, .inr (.inr (some a1))), (2, .inl a2), (3, .inl a3), (4, .inl v4_2), (5, .inl v5_1)], [], sh, gc_h sh I J A) := by
        intro v4_2 m_2
        obtain ⟨ha2_2, ha3_2, hv4_2, hv5_1_2⟩ := gz_h4 m_2
        refine gv_run 2 true hD (pcₚ := 15) (lvₚ := [(5, .inl (v5_1 + (-1))), (0, .inr (.inr (some p))), (1, .inr (.inr (some a1))), (2, .inl a2), (3, .inl a3), (4, .inl v4_2)]) (stₚ := []) (hₚ := gc_h sh I J A) (C := ((True ∧ True) ∧ True)) rfl ⟨⟨trivial, trivial⟩, trivial⟩ ?_
        refine gv_pick [1, 2, 3, 4, 5, 0] rfl ?_
        exact ih15 v4_2 ((v5_1 + (-1))) (by (/-1-/first | (have o1 := gz_sh hv5_1; have o2 := gz_sh hv5_1_2; omega) | (simp only [gz_hd] at *; omega))) (by (/-2-/first | (and_intros; (omega); (omega); (omega); (omega); (have o1 := gz_sh hv4_2; omega); (have o1 := gz_sh hv4_2; omega); (have o1 := gz_sh hv5_1_2; omega); (have o1 := gz_sh hv5_1; omega)) | (simp only [gz_hd] at *; omega)))
      have L73 : ∀ (v6_3 : Int) (s0_3 : Int), ((0 ≤ a2 ∧ a2 ≤ 575) ∧ (0 ≤ a3 ∧ a3 ≤ 24) ∧ (0 ≤ v4_1 ∧ v4_1 ≤ 24) ∧ (0 ≤ v5_1 ∧ v5_1 ≤ 2) ∧ (7 ≤ v6_3 ∧ v6_3 ≤ 588) ∧ (0 ≤ s0_3 ∧ s0_3 ≤ 12) ∧ (v6_3 = a2 + 7 + 3 * v5_1)) → gv_X (gc_E2 ws0 tb 1 (yX2_leftFits, cX2_leftFits, 8, (some .boolean)) kX2_leftFits) (gv_Q cX2_leftFits (some .boolean) sh (fun r hₚ => (hₚ = gc_h sh I J A ∧ (∃ z : Int, r = some (.inl z) ∧ 0 ≤ z ∧ z ≤ 1)))) (73, [(0, .inr (.inr (some p))), (1, .inr (.inr (some a1))), (2, .inl a2), (3, .inl a3), (4, .inl v4_1), (5, .inl v5_1), (6, .inl v6_3)], [.inl s0_3], sh, gc_h sh I J A) := by
        intro v6_3 s0_3 m_3
        obtain ⟨ha2_3, ha3_3, hv4_1_3, hv5_1_3, hv6_3, hs0_3, e0_3⟩ := gz_h7 m_3
        have L109 : gv_X (gc_E2 ws0 tb 1 (yX2_leftFits, cX2_leftFits, 8, (some .boolean)) kX2_leftFits) (gv_Q cX2_leftFits (some .boolean) sh (fun r hₚ => (hₚ = gc_h sh I J A ∧ (∃ z : Int, r = some (.inl z) ∧ 0 ≤ z ∧ z ≤ 1)))) (109, [], [], sh, gc_h sh I J A) := by
          refine gv_run 1 true hD (pcₚ := 110) (lvₚ := []) (stₚ := [.inl 0]) (hₚ := gc_h sh I J A) (C := (True ∧ True)) rfl ⟨trivial, trivial⟩ ?_
          exact gv_zret hD rfl (by (/-3-/first | omega | (simp only [gz_hd] at *; omega))) ⟨rfl, ⟨_, rfl, by (/-4-/first | (and_intros <;> omega) | (simp only [gz_hd] at *; omega))⟩⟩
        have t5 := gz_hi ((show v5_1 = 0 ∨ v5_1 = 1 ∨ v5_1 = 2 from by (/-5-/first | (have o1 := gz_sh hv5_1; have o2 := gz_sh hv5_1_3; omega) | (simp only [gz_hd] at *; omega))))
        refine gv_run 6 true hD (pcₚ := 84) (lvₚ := [(4, .inl (v4_1 - s0_3)), (7, .inl s0_3), (0, .inr (.inr (some p))), (1, .inr (.inr (some a1))), (2, .inl a2), (3, .inl a3), (5, .inl v5_1), (6, .inl v6_3)]) (stₚ := [.inl (v4_1 - s0_3)]) (hₚ := gc_h sh I J A) (C := ((((((True ∧ True) ∧ True) ∧ True) ∧ True) ∧ True) ∧ True)) rfl ⟨⟨⟨⟨⟨⟨trivial, trivial⟩, trivial⟩, trivial⟩, trivial⟩, trivial⟩, trivial⟩ ?_
        refine gv_if_lt (t := 109) hD rfl rfl ⟨by (/-6-/first | (have o1 := gz_sh hs0_3; have o2 := gz_sh hv4_1; omega) | (simp only [gz_hd] at *; omega)), by (/-7-/first | (have o1 := gz_sh hs0_3; have o2 := gz_sh hv4_1; omega) | (simp only [gz_hd] at *; omega))⟩ (fun c6 => ?_) (fun c6 => ?_)
        · show gv_X _ _ (109, [(4, .inl (v4_1 - s0_3)), (7, .inl s0_3), (0, .inr (.inr (some p))), (1, .inr (.inr (some a1))), (2, .inl a2), (3, .inl a3), (5, .inl v5_1), (6, .inl v6_3)], [], sh, gc_h sh I J A)
          refine gv_pick [] rfl ?_
          exact L109 
        · show gv_X _ _ (87, [(4, .inl (v4_1 - s0_3)), (7, .inl s0_3), (0, .inr (.inr (some p))), (1, .inr (.inr (some a1))), (2, .inl a2), (3, .inl a3), (5, .inl v5_1), (6, .inl v6_3)], [], sh, gc_h sh I J A)
          refine gv_run 4 true hD (pcₚ := 92) (lvₚ := [(4, .inl (v4_1 - s0_3)), (7, .inl s0_3), (0, .inr (.inr (some p))), (1, .inr (.inr (some a1))), (2, .inl a2), (3, .inl a3), (5, .inl v5_1), (6, .inl v6_3)]) (stₚ := [.inr (.inr (some p)), .inl v6_3, .inr (.inr (some a1)), .inr (.inr (some p))]) (hₚ := gc_h sh I J A) (C := ((((True ∧ True) ∧ True) ∧ True) ∧ True)) rfl ⟨⟨⟨⟨trivial, trivial⟩, trivial⟩, trivial⟩, trivial⟩ ?_
          have f8 := gz_hi ((show 0 ≤ I p 7 ∧ I p 7 ≤ 1 from gc_in2 hI (gz_sh R_p) rfl rfl rfl))
          obtain ⟨f7_, hq_f7_, S_f7, R_f7, B_f7, D_f7⟩ := gc_sw (p := p) (d := 6) (s := 1) (z := I p 7) (show 0 ≤ I p 7 ∧ I p 7 ≤ 1 from gc_in2 hI (gz_sh R_p) rfl rfl rfl) S_p_6 (gz_sh R_p_6) (gz_sh B_p_6) S_p_7 (gz_sh R_p_7) (gz_sh B_p_7)
          refine gv_get hD rfl rfl S_p ⟨by decide, (gz_sh B_p)⟩ (gc_hS (n := 6) S_p rfl hq_f7_) ?_
          show gv_X _ _ (95, [(4, .inl (v4_1 - s0_3)), (7, .inl s0_3), (0, .inr (.inr (some p))), (1, .inr (.inr (some a1))), (2, .inl a2), (3, .inl a3), (5, .inl v5_1), (6, .inl v6_3)], [.inr (.inr (some f7_)), .inl v6_3, .inr (.inr (some a1)), .inr (.inr (some p))], sh, gc_h sh I J A)
          refine gv_run 2 true hD (pcₚ := 98) (lvₚ := [(4, .inl (v4_1 - s0_3)), (7, .inl s0_3), (0, .inr (.inr (some p))), (1, .inr (.inr (some a1))), (2, .inl a2), (3, .inl a3), (5, .inl v5_1), (6, .inl v6_3)]) (stₚ := [.inl a3, .inl (v4_1 - s0_3), .inr (.inr (some f7_)), .inl v6_3, .inr (.inr (some a1)), .inr (.inr (some p))]) (hₚ := gc_h sh I J A) (C := ((True ∧ True) ∧ True)) rfl ⟨⟨trivial, trivial⟩, trivial⟩ ?_
          obtain ⟨r9, h9, E9, P9⟩ := d_X2_fitsAt (ws0 := ws0) (tb := tb) hws htb sh ro I J A hI p 24 a1 v6_3 f7_ (v4_1 - s0_3) a3 hp h_a1 G_a1 S_f7 R_f7 B_f7 (by decide)  ⟨by (/-8-/first | (have o1 := gz_sh hv6_3; omega) | (simp only [gz_hd] at *; omega)), by (/-9-/first | (have o1 := gz_sh hv6_3; omega) | (simp only [gz_hd] at *; omega))⟩ ⟨by (/-10-/first | omega | (simp only [gz_hd] at *; omega)), by (/-11-/first | (have o1 := gz_sh hs0_3; have o2 := gz_sh hv4_1; omega) | (simp only [gz_hd] at *; omega))⟩ ⟨by (/-12-/first | omega | (simp only [gz_hd] at *; omega)), by (/-13-/first | omega | (simp only [gz_hd] at *; omega))⟩ (by (/-14-/first | omega | (simp only [gz_hd] at *; omega))) (by (/-15-/first | (have o1 := gz_sh e0_3; have o2 := gz_sh f8; have o3 := gz_sh t5; omega) | (simp only [gz_hd] at *; omega))) (x1 _ (by (/-16-/first | (have o1 := gz_sh hv6_3; omega) | (simp only [gz_hd] at *; omega))) (by (/-17-/first | (have o1 := gz_sh hv6_3; omega) | (simp only [gz_hd] at *; omega))) (by (/-18-/first | (have o1 := gz_sh e0_3; have o2 := gz_sh f8; have o3 := gz_sh t5; omega) | (simp only [gz_hd] at *; omega)))) 
          obtain ⟨rfl, ⟨z9, rfl, q9⟩⟩ := P9
          replace q9 := gz_hi q9
          refine gv_callV hD rfl (As := [.inr (.inr (some a1)), .inl v6_3, .inr (.inr (some f7_)), .inl (v4_1 - s0_3), .inl a3]) (st := []) rfl (gz_sh B_p) S_p rfl (gc_lV2 hws rfl) (Nat.le_of_ble_eq_true rfl) (gz_Ev_mono (d := 1) (by decide) E9) ?_
          show gv_X _ _ (101, [(4, .inl (v4_1 - s0_3)), (7, .inl s0_3), (0, .inr (.inr (some p))), (1, .inr (.inr (some a1))), (2, .inl a2), (3, .inl a3), (5, .inl v5_1), (6, .inl v6_3)], [.inl z9], sh, gc_h sh I J A)
          refine gv_run 3 true hD (pcₚ := 106) (lvₚ := [(4, .inl (v4_1 - s0_3)), (7, .inl s0_3), (0, .inr (.inr (some p))), (1, .inr (.inr (some a1))), (2, .inl a2), (3, .inl a3), (5, .inl v5_1), (6, .inl v6_3)]) (stₚ := [.inl ((v4_1 - s0_3) + s0_3), .inl z9]) (hₚ := gc_h sh I J A) (C := (((True ∧ True) ∧ True) ∧ True)) rfl ⟨⟨⟨trivial, trivial⟩, trivial⟩, trivial⟩ ?_
          refine gv_icmp_eq (t := 111) hD rfl rfl ⟨⟨by (/-19-/first | (have o1 := gz_sh q9; omega) | (simp only [gz_hd] at *; omega)), by (/-20-/first | (have o1 := gz_sh q9; omega) | (simp only [gz_hd] at *; omega))⟩, ⟨by (/-21-/first | (have o1 := gz_sh hs0_3; omega) | (simp only [gz_hd] at *; omega)), by (/-22-/first | (have o1 := gz_sh hv4_1; omega) | (simp only [gz_hd] at *; omega))⟩⟩ (fun c10 => ?_) (fun c10 => ?_)
          · show gv_X _ _ (111, [(4, .inl (v4_1 - s0_3)), (7, .inl s0_3), (0, .inr (.inr (some p))), (1, .inr (.inr (some a1))), (2, .inl a2), (3, .inl a3), (5, .inl v5_1), (6, .inl v6_3)], [], sh, gc_h sh I J A)
            refine gv_pick [2, 3, 4, 5, 0, 6] rfl ?_
            exact L111 (v4_1 - s0_3) (by (/-23-/first | (and_intros; (omega); (omega); (omega); (omega); (omega); (have o1 := gz_sh hs0_3; have o2 := gz_sh hv4_1; omega); (have o1 := gz_sh hv5_1_3; omega); (have o1 := gz_sh hv5_1; omega)) | (simp only [gz_hd] at *; omega)))
          · show gv_X _ _ (109, [(4, .inl (v4_1 - s0_3)), (7, .inl s0_3), (0, .inr (.inr (some p))), (1, .inr (.inr (some a1))), (2, .inl a2), (3, .inl a3), (5, .inl v5_1), (6, .inl v6_3)], [], sh, gc_h sh I J A)
            refine gv_pick [] rfl ?_
            exact L109 
      refine gv_run 1 true hD (pcₚ := 17) (lvₚ := [(0, .inr (.inr (some p))), (1, .inr (.inr (some a1))), (2, .inl a2), (3, .inl a3), (4, .inl v4_1), (5, .inl v5_1)]) (stₚ := [.inl v5_1]) (hₚ := gc_h sh I J A) (C := (True ∧ True)) rfl ⟨trivial, trivial⟩ ?_
      refine gv_if_lt (t := 117) hD rfl rfl ⟨by (/-24-/first | (have o1 := gz_sh hv5_1; omega) | (simp only [gz_hd] at *; omega)), by (/-25-/first | (have o1 := gz_sh hv5_1; omega) | (simp only [gz_hd] at *; omega))⟩ (fun c11 => ?_) (fun c11 => ?_)
      · show gv_X _ _ (117, [(0, .inr (.inr (some p))), (1, .inr (.inr (some a1))), (2, .inl a2), (3, .inl a3), (4, .inl v4_1), (5, .inl v5_1)], [], sh, gc_h sh I J A)
        refine gv_run 1 true hD (pcₚ := 118) (lvₚ := [(0, .inr (.inr (some p))), (1, .inr (.inr (some a1))), (2, .inl a2), (3, .inl a3), (4, .inl v4_1), (5, .inl v5_1)]) (stₚ := [.inl 1]) (hₚ := gc_h sh I J A) (C := (True ∧ True)) rfl ⟨trivial, trivial⟩ ?_
        exact gv_zret hD rfl (by (/-26-/first | omega | (simp only [gz_hd] at *; omega))) ⟨rfl, ⟨_, rfl, by (/-27-/first | (and_intros <;> omega) | (simp only [gz_hd] at *; omega))⟩⟩
      · show gv_X _ _ (20, [(0, .inr (.inr (some p))), (1, .inr (.inr (some a1))), (2, .inl a2), (3, .inl a3), (4, .inl v4_1), (5, .inl v5_1)], [], sh, gc_h sh I J A)
        have t12 := gz_hi ((show v5_1 = 0 ∨ v5_1 = 1 ∨ v5_1 = 2 from by (/-28-/first | (have o1 := gz_sh hv5_1; omega) | (simp only [gz_hd] at *; omega))))
        refine gv_run 7 true hD (pcₚ := 29) (lvₚ := [(0, .inr (.inr (some p))), (1, .inr (.inr (some a1))), (2, .inl a2), (3, .inl a3), (4, .inl v4_1), (5, .inl v5_1)]) (stₚ := [.inl ((a2 + 7) + (3 * v5_1))]) (hₚ := gc_h sh I J A) (C := (((((((True ∧ True) ∧ True) ∧ True) ∧ True) ∧ True) ∧ True) ∧ True)) rfl ⟨⟨⟨⟨⟨⟨⟨trivial, trivial⟩, trivial⟩, trivial⟩, trivial⟩, trivial⟩, trivial⟩, trivial⟩ ?_
        refine gv_run 2 true hD (pcₚ := 32) (lvₚ := [(6, .inl ((a2 + 7) + (3 * v5_1))), (0, .inr (.inr (some p))), (1, .inr (.inr (some a1))), (2, .inl a2), (3, .inl a3), (4, .inl v4_1), (5, .inl v5_1)]) (stₚ := [.inr (.inr (some a1))]) (hₚ := gc_h sh I J A) (C := ((True ∧ True) ∧ True)) rfl ⟨⟨trivial, trivial⟩, trivial⟩ ?_
        refine gv_get hD rfl rfl S_a1 ⟨by decide, (gz_sh B_a1)⟩ (gc_hA S_a1 rfl A_a1_7) ?_
        show gv_X _ _ (35, [(6, .inl ((a2 + 7) + (3 * v5_1))), (0, .inr (.inr (some p))), (1, .inr (.inr (some a1))), (2, .inl a2), (3, .inl a3), (4, .inl v4_1), (5, .inl v5_1)], [.inr (.inr (some (a1 + 10)))], sh, gc_h sh I J A)
        refine gv_run 1 true hD (pcₚ := 37) (lvₚ := [(6, .inl ((a2 + 7) + (3 * v5_1))), (0, .inr (.inr (some p))), (1, .inr (.inr (some a1))), (2, .inl a2), (3, .inl a3), (4, .inl v4_1), (5, .inl v5_1)]) (stₚ := [.inl ((a2 + 7) + (3 * v5_1)), .inr (.inr (some (a1 + 10)))]) (hₚ := gc_h sh I J A) (C := (True ∧ True)) rfl ⟨trivial, trivial⟩ ?_
        have f13 := gz_hi ((show 0 ≤ I (a1 + 10) (Int.toNat (((a2 + 7) + (3 * v5_1)))) ∧ I (a1 + 10) (Int.toNat (((a2 + 7) + (3 * v5_1)))) ≤ 2 from ((fun hc => hc.elim (fun hc => (have h9 : 0 ≤ I (a1 + 10) (Int.toNat (((a2 + 7) + (3 * v5_1)))) ∧ I (a1 + 10) (Int.toNat (((a2 + 7) + (3 * v5_1)))) ≤ 2 := gc_inm hI (gz_sh R_a1_10) rfl rfl hc rfl rfl; ⟨by (/-29-/first | omega | (simp only [gz_hd] at *; omega)), by (/-30-/first | omega | (simp only [gz_hd] at *; omega))⟩)) (fun hc => hc.elim (fun hc => (have h9 : 0 ≤ I (a1 + 10) (Int.toNat (((a2 + 7) + (3 * v5_1)))) ∧ I (a1 + 10) (Int.toNat (((a2 + 7) + (3 * v5_1)))) ≤ 2 := gc_inm hI (gz_sh R_a1_10) rfl rfl hc rfl rfl; ⟨by (/-31-/first | omega | (simp only [gz_hd] at *; omega)), by (/-32-/first | omega | (simp only [gz_hd] at *; omega))⟩)) (fun hc => (have h9 : 0 ≤ I (a1 + 10) (Int.toNat (((a2 + 7) + (3 * v5_1)))) ∧ I (a1 + 10) (Int.toNat (((a2 + 7) + (3 * v5_1)))) ≤ 2 := gc_inm hI (gz_sh R_a1_10) rfl rfl hc rfl rfl; ⟨by (/-33-/first | omega | (simp only [gz_hd] at *; omega)), by (/-34-/first | omega | (simp only [gz_hd] at *; omega))⟩)))) (show (Int.toNat (((a2 + 7) + (3 * v5_1)))) % 25 = 7 ∨ (Int.toNat (((a2 + 7) + (3 * v5_1)))) % 25 = 10 ∨ (Int.toNat (((a2 + 7) + (3 * v5_1)))) % 25 = 13 from by (/-35-/first | (have o1 := gz_sh hv5_1; have o2 := gz_sh t12; omega) | (simp only [gz_hd] at *; omega))))))
        refine gv_iald hD rfl S_a1_10 rfl ⟨by decide, (gz_sh B_a1_10)⟩ ⟨by (/-36-/first | omega | (simp only [gz_hd] at *; omega)), by (/-37-/first | (have o1 := gz_sh hv5_1; omega) | (simp only [gz_hd] at *; omega))⟩ (gc_iI S_a1_10 rfl) ?_
        show gv_X _ _ (38, [(6, .inl ((a2 + 7) + (3 * v5_1))), (0, .inr (.inr (some p))), (1, .inr (.inr (some a1))), (2, .inl a2), (3, .inl a3), (4, .inl v4_1), (5, .inl v5_1)], [.inl (I (a1 + 10) (Int.toNat (((a2 + 7) + (3 * v5_1)))))], sh, gc_h sh I J A)
        refine gv_run 1 true hD (pcₚ := 39) (lvₚ := [(6, .inl ((a2 + 7) + (3 * v5_1))), (0, .inr (.inr (some p))), (1, .inr (.inr (some a1))), (2, .inl a2), (3, .inl a3), (4, .inl v4_1), (5, .inl v5_1)]) (stₚ := [.inl 2, .inl (I (a1 + 10) (Int.toNat (((a2 + 7) + (3 * v5_1)))))]) (hₚ := gc_h sh I J A) (C := (True ∧ True)) rfl ⟨trivial, trivial⟩ ?_
        refine gv_icmp_ne (t := 49) hD rfl rfl ⟨⟨by (/-38-/first | (have o1 := gz_sh f13; omega) | (simp only [gz_hd] at *; omega)), by (/-39-/first | (have o1 := gz_sh f13; omega) | (simp only [gz_hd] at *; omega))⟩, ⟨by (/-40-/first | omega | (simp only [gz_hd] at *; omega)), by (/-41-/first | omega | (simp only [gz_hd] at *; omega))⟩⟩ (fun c14 => ?_) (fun c14 => ?_)
        · show gv_X _ _ (49, [(6, .inl ((a2 + 7) + (3 * v5_1))), (0, .inr (.inr (some p))), (1, .inr (.inr (some a1))), (2, .inl a2), (3, .inl a3), (4, .inl v4_1), (5, .inl v5_1)], [], sh, gc_h sh I J A)
          refine gv_run 1 true hD (pcₚ := 50) (lvₚ := [(6, .inl ((a2 + 7) + (3 * v5_1))), (0, .inr (.inr (some p))), (1, .inr (.inr (some a1))), (2, .inl a2), (3, .inl a3), (4, .inl v4_1), (5, .inl v5_1)]) (stₚ := [.inr (.inr (some a1))]) (hₚ := gc_h sh I J A) (C := (True ∧ True)) rfl ⟨trivial, trivial⟩ ?_
          refine gv_get hD rfl rfl S_a1 ⟨by decide, (gz_sh B_a1)⟩ (gc_hA S_a1 rfl A_a1_7) ?_
          show gv_X _ _ (53, [(6, .inl ((a2 + 7) + (3 * v5_1))), (0, .inr (.inr (some p))), (1, .inr (.inr (some a1))), (2, .inl a2), (3, .inl a3), (4, .inl v4_1), (5, .inl v5_1)], [.inr (.inr (some (a1 + 10)))], sh, gc_h sh I J A)
          refine gv_run 1 true hD (pcₚ := 55) (lvₚ := [(6, .inl ((a2 + 7) + (3 * v5_1))), (0, .inr (.inr (some p))), (1, .inr (.inr (some a1))), (2, .inl a2), (3, .inl a3), (4, .inl v4_1), (5, .inl v5_1)]) (stₚ := [.inl ((a2 + 7) + (3 * v5_1)), .inr (.inr (some (a1 + 10)))]) (hₚ := gc_h sh I J A) (C := (True ∧ True)) rfl ⟨trivial, trivial⟩ ?_
          refine gv_iald hD rfl S_a1_10 rfl ⟨by decide, (gz_sh B_a1_10)⟩ ⟨by (/-49-/first | omega | (simp only [gz_hd] at *; omega)), by (/-50-/first | (have o1 := gz_sh hv5_1; omega) | (simp only [gz_hd] at *; omega))⟩ (gc_iI S_a1_10 rfl) ?_
          show gv_X _ _ (56, [(6, .inl ((a2 + 7) + (3 * v5_1))), (0, .inr (.inr (some p))), (1, .inr (.inr (some a1))), (2, .inl a2), (3, .inl a3), (4, .inl v4_1), (5, .inl v5_1)], [.inl (I (a1 + 10) (Int.toNat (((a2 + 7) + (3 * v5_1)))))], sh, gc_h sh I J A)
          refine gv_run 1 true hD (pcₚ := 57) (lvₚ := [(6, .inl ((a2 + 7) + (3 * v5_1))), (0, .inr (.inr (some p))), (1, .inr (.inr (some a1))), (2, .inl a2), (3, .inl a3), (4, .inl v4_1), (5, .inl v5_1)]) (stₚ := [.inl 1, .inl (I (a1 + 10) (Int.toNat (((a2 + 7) + (3 * v5_1)))))]) (hₚ := gc_h sh I J A) (C := (True ∧ True)) rfl ⟨trivial, trivial⟩ ?_
          refine gv_icmp_ne (t := 64) hD rfl rfl ⟨⟨by (/-51-/first | (have o1 := gz_sh f13; omega) | (simp only [gz_hd] at *; omega)), by (/-52-/first | (have o1 := gz_sh f13; omega) | (simp only [gz_hd] at *; omega))⟩, ⟨by (/-53-/first | omega | (simp only [gz_hd] at *; omega)), by (/-54-/first | omega | (simp only [gz_hd] at *; omega))⟩⟩ (fun c16 => ?_) (fun c16 => ?_)
          · show gv_X _ _ (64, [(6, .inl ((a2 + 7) + (3 * v5_1))), (0, .inr (.inr (some p))), (1, .inr (.inr (some a1))), (2, .inl a2), (3, .inl a3), (4, .inl v4_1), (5, .inl v5_1)], [], sh, gc_h sh I J A)
            refine gv_run 1 true hD (pcₚ := 65) (lvₚ := [(6, .inl ((a2 + 7) + (3 * v5_1))), (0, .inr (.inr (some p))), (1, .inr (.inr (some a1))), (2, .inl a2), (3, .inl a3), (4, .inl v4_1), (5, .inl v5_1)]) (stₚ := [.inr (.inr (some a1))]) (hₚ := gc_h sh I J A) (C := (True ∧ True)) rfl ⟨trivial, trivial⟩ ?_
            refine gv_get hD rfl rfl S_a1 ⟨by decide, (gz_sh B_a1)⟩ (gc_hA S_a1 rfl A_a1_7) ?_
            show gv_X _ _ (68, [(6, .inl ((a2 + 7) + (3 * v5_1))), (0, .inr (.inr (some p))), (1, .inr (.inr (some a1))), (2, .inl a2), (3, .inl a3), (4, .inl v4_1), (5, .inl v5_1)], [.inr (.inr (some (a1 + 10)))], sh, gc_h sh I J A)
            refine gv_run 3 true hD (pcₚ := 72) (lvₚ := [(6, .inl ((a2 + 7) + (3 * v5_1))), (0, .inr (.inr (some p))), (1, .inr (.inr (some a1))), (2, .inl a2), (3, .inl a3), (4, .inl v4_1), (5, .inl v5_1)]) (stₚ := [.inl (((a2 + 7) + (3 * v5_1)) + 2), .inr (.inr (some (a1 + 10)))]) (hₚ := gc_h sh I J A) (C := (((True ∧ True) ∧ True) ∧ True)) rfl ⟨⟨⟨trivial, trivial⟩, trivial⟩, trivial⟩ ?_
            have f17 := gz_hi ((show 0 ≤ I (a1 + 10) (Int.toNat ((((a2 + 7) + (3 * v5_1)) + 2))) ∧ I (a1 + 10) (Int.toNat ((((a2 + 7) + (3 * v5_1)) + 2))) ≤ 12 from ((fun hc => hc.elim (fun hc => (have h9 : 0 ≤ I (a1 + 10) (Int.toNat ((((a2 + 7) + (3 * v5_1)) + 2))) ∧ I (a1 + 10) (Int.toNat ((((a2 + 7) + (3 * v5_1)) + 2))) ≤ 12 := gc_inm hI (gz_sh R_a1_10) rfl rfl hc rfl rfl; ⟨by (/-55-/first | omega | (simp only [gz_hd] at *; omega)), by (/-56-/first | omega | (simp only [gz_hd] at *; omega))⟩)) (fun hc => hc.elim (fun hc => (have h9 : 0 ≤ I (a1 + 10) (Int.toNat ((((a2 + 7) + (3 * v5_1)) + 2))) ∧ I (a1 + 10) (Int.toNat ((((a2 + 7) + (3 * v5_1)) + 2))) ≤ 12 := gc_inm hI (gz_sh R_a1_10) rfl rfl hc rfl rfl; ⟨by (/-57-/first | omega | (simp only [gz_hd] at *; omega)), by (/-58-/first | omega | (simp only [gz_hd] at *; omega))⟩)) (fun hc => (have h9 : 0 ≤ I (a1 + 10) (Int.toNat ((((a2 + 7) + (3 * v5_1)) + 2))) ∧ I (a1 + 10) (Int.toNat ((((a2 + 7) + (3 * v5_1)) + 2))) ≤ 12 := gc_inm hI (gz_sh R_a1_10) rfl rfl hc rfl rfl; ⟨by (/-59-/first | omega | (simp only [gz_hd] at *; omega)), by (/-60-/first | omega | (simp only [gz_hd] at *; omega))⟩)))) (show (Int.toNat ((((a2 + 7) + (3 * v5_1)) + 2))) % 25 = 9 ∨ (Int.toNat ((((a2 + 7) + (3 * v5_1)) + 2))) % 25 = 12 ∨ (Int.toNat ((((a2 + 7) + (3 * v5_1)) + 2))) % 25 = 15 from by (/-61-/first | (have o1 := gz_sh f13; have o2 := gz_sh hv5_1; have o3 := gz_sh t12; omega) | (simp only [gz_hd] at *; omega))))))
            refine gv_iald hD rfl S_a1_10 rfl ⟨by decide, (gz_sh B_a1_10)⟩ ⟨by (/-62-/first | omega | (simp only [gz_hd] at *; omega)), by (/-63-/first | (have o1 := gz_sh hv5_1; omega) | (simp only [gz_hd] at *; omega))⟩ (gc_iI S_a1_10 rfl) ?_
            show gv_X _ _ (73, [(6, .inl ((a2 + 7) + (3 * v5_1))), (0, .inr (.inr (some p))), (1, .inr (.inr (some a1))), (2, .inl a2), (3, .inl a3), (4, .inl v4_1), (5, .inl v5_1)], [.inl (I (a1 + 10) (Int.toNat ((((a2 + 7) + (3 * v5_1)) + 2))))], sh, gc_h sh I J A)
            refine gv_pick [1, 2, 3, 4, 5, 6, 0] rfl ?_
            exact L73 (((a2 + 7) + (3 * v5_1))) ((I (a1 + 10) (Int.toNat ((((a2 + 7) + (3 * v5_1)) + 2))))) (by (/-64-/first | (and_intros; (omega); (omega); (omega); (omega); (have o1 := gz_sh hv4_1; omega); (have o1 := gz_sh hv4_1; omega); (omega); (have o1 := gz_sh hv5_1; omega); (omega); (have o1 := gz_sh hv5_1; omega); (have o1 := gz_sh f17; omega); (have o1 := gz_sh f17; omega); (omega)) | (simp only [gz_hd] at *; omega)))
          · show gv_X _ _ (60, [(6, .inl ((a2 + 7) + (3 * v5_1))), (0, .inr (.inr (some p))), (1, .inr (.inr (some a1))), (2, .inl a2), (3, .inl a3), (4, .inl v4_1), (5, .inl v5_1)], [], sh, gc_h sh I J A)
            refine gv_run 2 true hD (pcₚ := 73) (lvₚ := [(6, .inl ((a2 + 7) + (3 * v5_1))), (0, .inr (.inr (some p))), (1, .inr (.inr (some a1))), (2, .inl a2), (3, .inl a3), (4, .inl v4_1), (5, .inl v5_1)]) (stₚ := [.inl 1]) (hₚ := gc_h sh I J A) (C := ((True ∧ True) ∧ True)) rfl ⟨⟨trivial, trivial⟩, trivial⟩ ?_
            refine gv_pick [1, 2, 3, 4, 5, 6, 0] rfl ?_
            exact L73 (((a2 + 7) + (3 * v5_1))) 1 (by (/-65-/first | (and_intros; (omega); (omega); (omega); (omega); (have o1 := gz_sh hv4_1; omega); (have o1 := gz_sh hv4_1; omega); (omega); (have o1 := gz_sh hv5_1; omega); (omega); (have o1 := gz_sh hv5_1; omega); (omega); (omega); (omega)) | (simp only [gz_hd] at *; omega)))
        · show gv_X _ _ (42, [(6, .inl ((a2 + 7) + (3 * v5_1))), (0, .inr (.inr (some p))), (1, .inr (.inr (some a1))), (2, .inl a2), (3, .inl a3), (4, .inl v4_1), (5, .inl v5_1)], [], sh, gc_h sh I J A)
          refine gv_run 1 true hD (pcₚ := 44) (lvₚ := [(6, .inl ((a2 + 7) + (3 * v5_1))), (0, .inr (.inr (some p))), (1, .inr (.inr (some a1))), (2, .inl a2), (3, .inl a3), (4, .inl v4_1), (5, .inl v5_1)]) (stₚ := [.inl v4_1]) (hₚ := gc_h sh I J A) (C := (True ∧ True)) rfl ⟨trivial, trivial⟩ ?_
          refine gv_if_eq (t := 111) hD rfl rfl ⟨by (/-66-/first | (have o1 := gz_sh hv4_1; omega) | (simp only [gz_hd] at *; omega)), by (/-67-/first | (have o1 := gz_sh hv4_1; omega) | (simp only [gz_hd] at *; omega))⟩ (fun c18 => ?_) (fun c18 => ?_)
          · show gv_X _ _ (111, [(6, .inl ((a2 + 7) + (3 * v5_1))), (0, .inr (.inr (some p))), (1, .inr (.inr (some a1))), (2, .inl a2), (3, .inl a3), (4, .inl v4_1), (5, .inl v5_1)], [], sh, gc_h sh I J A)
            refine gv_pick [1, 2, 3, 4, 5, 6] rfl ?_
            exact L111 v4_1 (by (/-68-/first | (and_intros; (omega); (omega); (omega); (omega); (omega); (omega); (omega); (have o1 := gz_sh hv5_1; omega)) | (simp only [gz_hd] at *; omega)))
          · show gv_X _ _ (47, [(6, .inl ((a2 + 7) + (3 * v5_1))), (0, .inr (.inr (some p))), (1, .inr (.inr (some a1))), (2, .inl a2), (3, .inl a3), (4, .inl v4_1), (5, .inl v5_1)], [], sh, gc_h sh I J A)
            refine gv_run 1 true hD (pcₚ := 48) (lvₚ := [(6, .inl ((a2 + 7) + (3 * v5_1))), (0, .inr (.inr (some p))), (1, .inr (.inr (some a1))), (2, .inl a2), (3, .inl a3), (4, .inl v4_1), (5, .inl v5_1)]) (stₚ := [.inl 0]) (hₚ := gc_h sh I J A) (C := (True ∧ True)) rfl ⟨trivial, trivial⟩ ?_
            exact gv_zret hD rfl (by (/-69-/first | omega | (simp only [gz_hd] at *; omega))) ⟨rfl, ⟨_, rfl, by (/-70-/first | (and_intros <;> omega) | (simp only [gz_hd] at *; omega))⟩⟩
  refine gv_run 3 true hD (pcₚ := 4) (lvₚ := [(4, .inl a3), (0, .inr (.inr (some p))), (1, .inr (.inr (some a1))), (2, .inl a2), (3, .inl a3)]) (stₚ := [.inr (.inr (some a1))]) (hₚ := gc_h sh I J A) (C := (((True ∧ True) ∧ True) ∧ True)) rfl ⟨⟨⟨trivial, trivial⟩, trivial⟩, trivial⟩ ?_
  refine gv_get hD rfl rfl S_a1 ⟨by decide, (gz_sh B_a1)⟩ (gc_hA S_a1 rfl A_a1_7) ?_
  show gv_X _ _ (7, [(4, .inl a3), (0, .inr (.inr (some p))), (1, .inr (.inr (some a1))), (2, .inl a2), (3, .inl a3)], [.inr (.inr (some (a1 + 10)))], sh, gc_h sh I J A)
  refine gv_run 3 true hD (pcₚ := 10) (lvₚ := [(4, .inl a3), (0, .inr (.inr (some p))), (1, .inr (.inr (some a1))), (2, .inl a2), (3, .inl a3)]) (stₚ := [.inl (a2 + 5), .inr (.inr (some (a1 + 10)))]) (hₚ := gc_h sh I J A) (C := (((True ∧ True) ∧ True) ∧ True)) rfl ⟨⟨⟨trivial, trivial⟩, trivial⟩, trivial⟩ ?_
  have f19 := gz_hi ((show 0 ≤ I (a1 + 10) (Int.toNat (a2 + 5)) ∧ I (a1 + 10) (Int.toNat (a2 + 5)) ≤ 3 from gc_inm (c := 5) hI (gz_sh R_a1_10) rfl rfl (by (/-71-/first | omega | (simp only [gz_hd] at *; omega))) rfl rfl))
  refine gv_iald hD rfl S_a1_10 rfl ⟨by decide, (gz_sh B_a1_10)⟩ ⟨by (/-72-/first | omega | (simp only [gz_hd] at *; omega)), by (/-73-/first | omega | (simp only [gz_hd] at *; omega))⟩ (gc_iI S_a1_10 rfl) ?_
  show gv_X _ _ (11, [(4, .inl a3), (0, .inr (.inr (some p))), (1, .inr (.inr (some a1))), (2, .inl a2), (3, .inl a3)], [.inl (I (a1 + 10) (Int.toNat (a2 + 5)))], sh, gc_h sh I J A)
  refine gv_run 3 true hD (pcₚ := 15) (lvₚ := [(5, .inl ((I (a1 + 10) (Int.toNat (a2 + 5))) - 1)), (4, .inl a3), (0, .inr (.inr (some p))), (1, .inr (.inr (some a1))), (2, .inl a2), (3, .inl a3)]) (stₚ := []) (hₚ := gc_h sh I J A) (C := (((True ∧ True) ∧ True) ∧ True)) rfl ⟨⟨⟨trivial, trivial⟩, trivial⟩, trivial⟩ ?_
  refine gv_pick [2, 3, 4, 5, 1, 0] rfl ?_
  exact L15 _ a3 (((I (a1 + 10) (Int.toNat (a2 + 5))) - 1)) (Nat.lt_succ_self _) (by (/-74-/first | (and_intros; (omega); (omega); (omega); (omega); (omega); (omega); (have o1 := gz_sh f19; omega); (have o1 := gz_sh f19; omega)) | (simp only [gz_hd] at *; omega)))
set_option maxHeartbeats 8000000 in
set_option maxRecDepth 100000 in
theorem d_X2_rightFits {ws0 : List Cond} {tb : String → gz_T} (hws : gc_Ws ws0) (htb : gc_tbs tb) (sh : gz_Sh) (ro : Nat → Nat) (I : gr_I) (J : gr_J) (A : gc_A) (hI : gc_Inv ro I) (p : Nat) (a1 : Nat) (a2 : Int) (a3 : Int) (a4 : Int) (hp : gc_isForms sh ro A p) (h_a1 : gc_isTongue sh ro A a1) (G_a1 : 144 ≤ a1) (ha2 : 0 ≤ a2 ∧ a2 ≤ 575) (ha3 : 0 ≤ a3 ∧ a3 ≤ 60) (ha4 : 0 ≤ a4 ∧ a4 ≤ 24) (x0 : a2 % 25 = 0) (x1 : gc_sc (a1 + 10) I) : ∃ r hₚ, gz_Ev ws0 tb 2 (yX2_rightFits, cX2_rightFits, 7, (some .boolean)) [.inr (.inr (some p)), .inr (.inr (some a1)), .inl a2, .inl a3, .inl a4] sh (gc_h sh I J A) r sh hₚ 0 0 ∧ (hₚ = gc_h sh I J A ∧ (∃ z : Int, r = some (.inl z) ∧ 0 ≤ z ∧ z ≤ 1)) := by
  obtain ⟨S_p, R_p, B_p, A_p_0, S_20, R_20, B_20, A_p_1, S_p_1, R_p_1, B_p_1, A_p_2, S_p_2, R_p_2, B_p_2, A_p_3, S_p_3, R_p_3, B_p_3, A_p_4, S_p_4, R_p_4, B_p_4, A_p_5, S_p_5, R_p_5, B_p_5, S_p_6, R_p_6, B_p_6, S_p_7, R_p_7, B_p_7⟩ := id hp
  replace R_p := gz_hi R_p
  replace B_p := gz_hi B_p
  replace R_20 := gz_hi R_20
  replace B_20 := gz_hi B_20
  replace R_p_1 := gz_hi R_p_1
  replace B_p_1 := gz_hi B_p_1
  replace R_p_2 := gz_hi R_p_2
  replace B_p_2 := gz_hi B_p_2
  replace R_p_3 := gz_hi R_p_3
  replace B_p_3 := gz_hi B_p_3
  replace R_p_4 := gz_hi R_p_4
  replace B_p_4 := gz_hi B_p_4
  replace R_p_5 := gz_hi R_p_5
  replace B_p_5 := gz_hi B_p_5
  replace R_p_6 := gz_hi R_p_6
  replace B_p_6 := gz_hi B_p_6
  replace R_p_7 := gz_hi R_p_7
  replace B_p_7 := gz_hi B_p_7
  obtain ⟨S_a1, R_a1, B_a1, A_a1_0, h_a1_1, A_a1_1, h_a1_3, A_a1_2, S_a1_5, R_a1_5, B_a1_5, A_a1_3, S_a1_6, R_a1_6, B_a1_6, A_a1_4, h_a1_7, A_a1_5, S_a1_9, R_a1_9, B_a1_9, A_a1_7, S_a1_10, R_a1_10, B_a1_10, A_a1_8, h_a1_11, A_a1_9, S_a1_13, R_a1_13, B_a1_13, A_a1_10, S_a1_14, R_a1_14, B_a1_14, A_a1_12, S_a1_15, R_a1_15, B_a1_15, A_a1_14, S_a1_16, R_a1_16, B_a1_16, A_a1_15, h_a1_17⟩ := id h_a1
  replace R_a1 := gz_hi R_a1
  replace B_a1 := gz_hi B_a1
  replace R_a1_5 := gz_hi R_a1_5
  replace B_a1_5 := gz_hi B_a1_5
  replace R_a1_6 := gz_hi R_a1_6
  replace B_a1_6 := gz_hi B_a1_6
  replace R_a1_9 := gz_hi R_a1_9
  replace B_a1_9 := gz_hi B_a1_9
  replace R_a1_10 := gz_hi R_a1_10
  replace B_a1_10 := gz_hi B_a1_10
  replace R_a1_13 := gz_hi R_a1_13
  replace B_a1_13 := gz_hi B_a1_13
  replace R_a1_14 := gz_hi R_a1_14
  replace B_a1_14 := gz_hi B_a1_14
  replace R_a1_15 := gz_hi R_a1_15
  replace B_a1_15 := gz_hi B_a1_15
  replace R_a1_16 := gz_hi R_a1_16
  replace B_a1_16 := gz_hi B_a1_16
  obtain ⟨S_a1_1, R_a1_1, B_a1_1, A_a1_1_0, S_a1_1_1, R_a1_1_1, B_a1_1_1, Q0_a1_1, Q1_a1_1, Q2_a1_1⟩ := id h_a1_1
  replace R_a1_1 := gz_hi R_a1_1
  replace B_a1_1 := gz_hi B_a1_1
  replace R_a1_1_1 := gz_hi R_a1_1_1
  replace B_a1_1_1 := gz_hi B_a1_1_1
  obtain ⟨S_a1_3, R_a1_3, B_a1_3, A_a1_3_0, S_a1_3_1, R_a1_3_1, B_a1_3_1, Q0_a1_3, Q1_a1_3, Q2_a1_3⟩ := id h_a1_3
  replace R_a1_3 := gz_hi R_a1_3
  replace B_a1_3 := gz_hi B_a1_3
  replace R_a1_3_1 := gz_hi R_a1_3_1
  replace B_a1_3_1 := gz_hi B_a1_3_1
  obtain ⟨S_a1_7, R_a1_7, B_a1_7, A_a1_7_0, S_a1_7_1, R_a1_7_1, B_a1_7_1, Q0_a1_7, Q1_a1_7, Q2_a1_7⟩ := id h_a1_7
  replace R_a1_7 := gz_hi R_a1_7
  replace B_a1_7 := gz_hi B_a1_7
  replace R_a1_7_1 := gz_hi R_a1_7_1
  replace B_a1_7_1 := gz_hi B_a1_7_1
  obtain ⟨S_a1_11, R_a1_11, B_a1_11, A_a1_11_0, S_a1_11_1, R_a1_11_1, B_a1_11_1, Q0_a1_11, Q1_a1_11, Q2_a1_11⟩ := id h_a1_11
  replace R_a1_11 := gz_hi R_a1_11
  replace B_a1_11 := gz_hi B_a1_11
  replace R_a1_11_1 := gz_hi R_a1_11_1
  replace B_a1_11_1 := gz_hi B_a1_11_1
  obtain ⟨S_a1_17, R_a1_17, B_a1_17, A_a1_17_0, S_20, R_20, B_20, A_a1_17_1, S_a1_17_1, R_a1_17_1, B_a1_17_1, A_a1_17_2, S_a1_17_2, R_a1_17_2, B_a1_17_2, A_a1_17_3, S_a1_17_3, R_a1_17_3, B_a1_17_3, A_a1_17_4, S_a1_17_4, R_a1_17_4, B_a1_17_4, A_a1_17_5, S_a1_17_5, R_a1_17_5, B_a1_17_5, S_a1_17_6, R_a1_17_6, B_a1_17_6, S_a1_17_7, R_a1_17_7, B_a1_17_7⟩ := id h_a1_17
  replace R_a1_17 := gz_hi R_a1_17
  replace B_a1_17 := gz_hi B_a1_17
  replace R_20 := gz_hi R_20
  replace B_20 := gz_hi B_20
  replace R_a1_17_1 := gz_hi R_a1_17_1
  replace B_a1_17_1 := gz_hi B_a1_17_1
  replace R_a1_17_2 := gz_hi R_a1_17_2
  replace B_a1_17_2 := gz_hi B_a1_17_2
  replace R_a1_17_3 := gz_hi R_a1_17_3
  replace B_a1_17_3 := gz_hi B_a1_17_3
  replace R_a1_17_4 := gz_hi R_a1_17_4
  replace B_a1_17_4 := gz_hi B_a1_17_4
  replace R_a1_17_5 := gz_hi R_a1_17_5
  replace B_a1_17_5 := gz_hi B_a1_17_5
  replace R_a1_17_6 := gz_hi R_a1_17_6
  replace B_a1_17_6 := gz_hi B_a1_17_6
  replace R_a1_17_7 := gz_hi R_a1_17_7
  replace B_a1_17_7 := gz_hi B_a1_17_7
  have hD : gv_D (gc_E2 ws0 tb 1 (yX2_rightFits, cX2_rightFits, 7, (some .boolean)) kX2_rightFits) := gq_of oX2_rightFits
  refine gc_ev2 (d := 1) (l := kX2_rightFits) (Po := fun r hₚ => (hₚ = gc_h sh I J A ∧ (∃ z : Int, r = some (.inl z) ∧ 0 ≤ z ∧ z ≤ 1))) htb rfl (Nat.le_of_ble_eq_true rfl) ?_
  have L6 : ∀ (n9 : Nat) (v5_1 : Int) (v6_1 : Int), (4 - v6_1).toNat < n9 → ((0 ≤ a2 ∧ a2 ≤ 575) ∧ (0 ≤ a4 ∧ a4 ≤ 24) ∧ (0 ≤ v5_1 ∧ v5_1 ≤ 60) ∧ (0 ≤ v6_1 ∧ v6_1 ≤ 3)) → gv_X (gc_E2 ws0 tb 1 (yX2_rightFits, cX2_rightFits, 7, (some .boolean)) kX2_rightFits) (gv_Q cX2_rightFits (some .boolean) sh (fun r hₚ => (hₚ = gc_h sh I J A ∧ (∃ z : Int, r = some (.inl z) ∧ 0 ≤ z ∧ z ≤ 1)))) (6, [(0, .inr (.inr (some p))), (1, .inr (.inr (some a1))), (2, .inl a2), (4, .inl a4), (5, .inl v5_1), (6, .inl v6_1)], [], sh, gc_h sh I J A) := by
    intro n9
    induction n9 with
    | zero => intro v5_1 v6_1 hn; (/-0-/first | omega | (simp only [gz_hd] at *; omega))
    | succ n9 ih6 =>
      intro v5_1 v6_1 hn m_1
      obtain ⟨ha2_1, ha4_1, hv5_1, hv6_1⟩ := gz_h4 m_1
      refine gv_run 2 true hD (pcₚ := 9) (lvₚ := [(0, .inr (.inr (some p))), (1, .inr (.inr (some a1))), (2, .inl a2), (4, .inl a4), (5, .inl v5_1), (6, .inl v6_1)]) (stₚ := [.inr (.inr (some a1)), .inl v6_1]) (hₚ := gc_h sh I J A) (C := ((True ∧ True) ∧ True)) rfl ⟨⟨trivial, trivial⟩, trivial⟩ ?_
      refine gv_get hD rfl rfl S_a1 ⟨by decide, (gz_sh B_a1)⟩ (gc_hA S_a1 rfl A_a1_7) ?_
      show gv_X _ _ (12, [(0, .inr (.inr (some p))), (1, .inr (.inr (some a1))), (2, .inl a2), (4, .inl a4), (5, .inl v5_1), (6, .inl v6_1)], [.inr (.inr (some (a1 + 10))), .inl v6_1], sh, gc_h sh I J A)
      refine gv_run 3 true hD (pcₚ := 16) (lvₚ := [(0, .inr (.inr (some p))), (1, .inr (.inr (some a1))), (2, .inl a2), (4, .inl a4), (5, .inl v5_1), (6, .inl v6_1)]) (stₚ := [.inl (a2 + 6), .inr (.inr (some (a1 + 10))), .inl v6_1]) (hₚ := gc_h sh I J A) (C := (((True ∧ True) ∧ True) ∧ True)) rfl ⟨⟨⟨trivial, trivial⟩, trivial⟩, trivial⟩ ?_
      have f2 := gz_hi ((show 0 ≤ I (a1 + 10) (Int.toNat (a2 + 6)) ∧ I (a1 + 10) (Int.toNat (a2 + 6)) ≤ 3 from gc_inm (c := 6) hI (gz_sh R_a1_10) rfl rfl (by (/-1-/first | omega | (simp only [gz_hd] at *; omega))) rfl rfl))
      refine gv_iald hD rfl S_a1_10 rfl ⟨by decide, (gz_sh B_a1_10)⟩ ⟨by (/-2-/first | omega | (simp only [gz_hd] at *; omega)), by (/-3-/first | omega | (simp only [gz_hd] at *; omega))⟩ (gc_iI S_a1_10 rfl) ?_
      show gv_X _ _ (17, [(0, .inr (.inr (some p))), (1, .inr (.inr (some a1))), (2, .inl a2), (4, .inl a4), (5, .inl v5_1), (6, .inl v6_1)], [.inl (I (a1 + 10) (Int.toNat (a2 + 6))), .inl v6_1], sh, gc_h sh I J A)
      refine gv_icmp_ge (t := 57) hD rfl rfl ⟨⟨by (/-4-/first | (have o1 := gz_sh hv6_1; omega) | (simp only [gz_hd] at *; omega)), by (/-5-/first | (have o1 := gz_sh hv6_1; omega) | (simp only [gz_hd] at *; omega))⟩, ⟨by (/-6-/first | (have o1 := gz_sh f2; omega) | (simp only [gz_hd] at *; omega)), by (/-7-/first | (have o1 := gz_sh f2; omega) | (simp only [gz_hd] at *; omega))⟩⟩ (fun c3 => ?_) (fun c3 => ?_)
      · show gv_X _ _ (57, [(0, .inr (.inr (some p))), (1, .inr (.inr (some a1))), (2, .inl a2), (4, .inl a4), (5, .inl v5_1), (6, .inl v6_1)], [], sh, gc_h sh I J A)
        refine gv_run 1 true hD (pcₚ := 58) (lvₚ := [(0, .inr (.inr (some p))), (1, .inr (.inr (some a1))), (2, .inl a2), (4, .inl a4), (5, .inl v5_1), (6, .inl v6_1)]) (stₚ := [.inl 1]) (hₚ := gc_h sh I J A) (C := (True ∧ True)) rfl ⟨trivial, trivial⟩ ?_
        exact gv_zret hD rfl (by (/-8-/first | omega | (simp only [gz_hd] at *; omega))) ⟨rfl, ⟨_, rfl, by (/-9-/first | (and_intros <;> omega) | (simp only [gz_hd] at *; omega))⟩⟩
      · show gv_X _ _ (20, [(0, .inr (.inr (some p))), (1, .inr (.inr (some a1))), (2, .inl a2), (4, .inl a4), (5, .inl v5_1), (6, .inl v6_1)], [], sh, gc_h sh I J A)
        have t4 := gz_hi ((show v6_1 = 0 ∨ v6_1 = 1 ∨ v6_1 = 2 from by (/-10-/first | (have o1 := gz_sh f2; have o2 := gz_sh hv6_1; omega) | (simp only [gz_hd] at *; omega))))
        refine gv_run 7 true hD (pcₚ := 29) (lvₚ := [(0, .inr (.inr (some p))), (1, .inr (.inr (some a1))), (2, .inl a2), (4, .inl a4), (5, .inl v5_1), (6, .inl v6_1)]) (stₚ := [.inl v6_1, .inl 3, .inl (a2 + 16), .inr (.inr (some a1)), .inr (.inr (some p))]) (hₚ := gc_h sh I J A) (C := (((((((True ∧ True) ∧ True) ∧ True) ∧ True) ∧ True) ∧ True) ∧ True)) rfl ⟨⟨⟨⟨⟨⟨⟨trivial, trivial⟩, trivial⟩, trivial⟩, trivial⟩, trivial⟩, trivial⟩, trivial⟩ ?_
        refine gv_run 3 true hD (pcₚ := 32) (lvₚ := [(0, .inr (.inr (some p))), (1, .inr (.inr (some a1))), (2, .inl a2), (4, .inl a4), (5, .inl v5_1), (6, .inl v6_1)]) (stₚ := [.inr (.inr (some p)), .inl ((a2 + 16) + (3 * v6_1)), .inr (.inr (some a1)), .inr (.inr (some p))]) (hₚ := gc_h sh I J A) (C := (((True ∧ True) ∧ True) ∧ True)) rfl ⟨⟨⟨trivial, trivial⟩, trivial⟩, trivial⟩ ?_
        have f6 := gz_hi ((show 0 ≤ I p 6 ∧ I p 6 ≤ 1 from gc_in2 hI (gz_sh R_p) rfl rfl rfl))
        obtain ⟨f5_, hq_f5_, S_f5, R_f5, B_f5, D_f5⟩ := gc_sw (p := p) (d := 6) (s := 1) (z := I p 6) (show 0 ≤ I p 6 ∧ I p 6 ≤ 1 from gc_in2 hI (gz_sh R_p) rfl rfl rfl) S_p_6 (gz_sh R_p_6) (gz_sh B_p_6) S_p_7 (gz_sh R_p_7) (gz_sh B_p_7)
        refine gv_get hD rfl rfl S_p ⟨by decide, (gz_sh B_p)⟩ (gc_hS (n := 6) S_p rfl hq_f5_) ?_
        show gv_X _ _ (35, [(0, .inr (.inr (some p))), (1, .inr (.inr (some a1))), (2, .inl a2), (4, .inl a4), (5, .inl v5_1), (6, .inl v6_1)], [.inr (.inr (some f5_)), .inl ((a2 + 16) + (3 * v6_1)), .inr (.inr (some a1)), .inr (.inr (some p))], sh, gc_h sh I J A)
        refine gv_run 2 true hD (pcₚ := 39) (lvₚ := [(0, .inr (.inr (some p))), (1, .inr (.inr (some a1))), (2, .inl a2), (4, .inl a4), (5, .inl v5_1), (6, .inl v6_1)]) (stₚ := [.inl a4, .inl v5_1, .inr (.inr (some f5_)), .inl ((a2 + 16) + (3 * v6_1)), .inr (.inr (some a1)), .inr (.inr (some p))]) (hₚ := gc_h sh I J A) (C := ((True ∧ True) ∧ True)) rfl ⟨⟨trivial, trivial⟩, trivial⟩ ?_
        obtain ⟨r7, h7, E7, P7⟩ := d_X2_fitsAt (ws0 := ws0) (tb := tb) hws htb sh ro I J A hI p 24 a1 (((a2 + 16) + (3 * v6_1))) f5_ v5_1 a4 hp h_a1 G_a1 S_f5 R_f5 B_f5 (by decide)  ⟨by (/-11-/first | (have o1 := gz_sh hv6_1; omega) | (simp only [gz_hd] at *; omega)), by (/-12-/first | (have o1 := gz_sh f2; omega) | (simp only [gz_hd] at *; omega))⟩ ⟨by (/-13-/first | (have o1 := gz_sh hv5_1; omega) | (simp only [gz_hd] at *; omega)), by (/-14-/first | (have o1 := gz_sh hv5_1; omega) | (simp only [gz_hd] at *; omega))⟩ ⟨by (/-15-/first | omega | (simp only [gz_hd] at *; omega)), by (/-16-/first | omega | (simp only [gz_hd] at *; omega))⟩ (by (/-17-/first | omega | (simp only [gz_hd] at *; omega))) (by (/-18-/first | (have o1 := gz_sh f6; have o2 := gz_sh t4; omega) | (simp only [gz_hd] at *; omega))) (x1 _ (by (/-19-/first | (have o1 := gz_sh hv6_1; omega) | (simp only [gz_hd] at *; omega))) (by (/-20-/first | (have o1 := gz_sh f2; omega) | (simp only [gz_hd] at *; omega))) (by (/-21-/first | (have o1 := gz_sh f6; have o2 := gz_sh t4; omega) | (simp only [gz_hd] at *; omega)))) 
        obtain ⟨rfl, ⟨z7, rfl, q7⟩⟩ := P7
        replace q7 := gz_hi q7
        refine gv_callV hD rfl (As := [.inr (.inr (some a1)), .inl ((a2 + 16) + (3 * v6_1)), .inr (.inr (some f5_)), .inl v5_1, .inl a4]) (st := []) rfl (gz_sh B_p) S_p rfl (gc_lV2 hws rfl) (Nat.le_of_ble_eq_true rfl) (gz_Ev_mono (d := 1) (by decide) E7) ?_
        show gv_X _ _ (42, [(0, .inr (.inr (some p))), (1, .inr (.inr (some a1))), (2, .inl a2), (4, .inl a4), (5, .inl v5_1), (6, .inl v6_1)], [.inl z7], sh, gc_h sh I J A)
        refine gv_run 2 true hD (pcₚ := 46) (lvₚ := [(5, .inl z7), (0, .inr (.inr (some p))), (1, .inr (.inr (some a1))), (2, .inl a2), (4, .inl a4), (6, .inl v6_1)]) (stₚ := [.inl z7]) (hₚ := gc_h sh I J A) (C := ((True ∧ True) ∧ True)) rfl ⟨⟨trivial, trivial⟩, trivial⟩ ?_
        refine gv_if_ge (t := 51) hD rfl rfl ⟨by (/-22-/first | (have o1 := gz_sh q7; omega) | (simp only [gz_hd] at *; omega)), by (/-23-/first | (have o1 := gz_sh q7; omega) | (simp only [gz_hd] at *; omega))⟩ (fun c8 => ?_) (fun c8 => ?_)
        · show gv_X _ _ (51, [(5, .inl z7), (0, .inr (.inr (some p))), (1, .inr (.inr (some a1))), (2, .inl a2), (4, .inl a4), (6, .inl v6_1)], [], sh, gc_h sh I J A)
          refine gv_run 2 true hD (pcₚ := 6) (lvₚ := [(6, .inl (v6_1 + 1)), (5, .inl z7), (0, .inr (.inr (some p))), (1, .inr (.inr (some a1))), (2, .inl a2), (4, .inl a4)]) (stₚ := []) (hₚ := gc_h sh I J A) (C := ((True ∧ True) ∧ True)) rfl ⟨⟨trivial, trivial⟩, trivial⟩ ?_
          refine gv_pick [2, 3, 4, 5, 1, 0] rfl ?_
          exact ih6 z7 (v6_1 + 1) (by (/-24-/first | (have o1 := gz_sh f2; have o2 := gz_sh f6; have o3 := gz_sh hv6_1; have o4 := gz_sh q7; have o5 := gz_sh t4; omega) | (simp only [gz_hd] at *; omega))) (by (/-25-/first | (and_intros; (omega); (omega); (omega); (omega); (omega); (have o1 := gz_sh q7; omega); (have o1 := gz_sh hv6_1; omega); (have o1 := gz_sh f2; omega)) | (simp only [gz_hd] at *; omega)))
        · show gv_X _ _ (49, [(5, .inl z7), (0, .inr (.inr (some p))), (1, .inr (.inr (some a1))), (2, .inl a2), (4, .inl a4), (6, .inl v6_1)], [], sh, gc_h sh I J A)
          refine gv_run 1 true hD (pcₚ := 50) (lvₚ := [(5, .inl z7), (0, .inr (.inr (some p))), (1, .inr (.inr (some a1))), (2, .inl a2), (4, .inl a4), (6, .inl v6_1)]) (stₚ := [.inl 0]) (hₚ := gc_h sh I J A) (C := (True ∧ True)) rfl ⟨trivial, trivial⟩ ?_
          exact gv_zret hD rfl (by (/-26-/first | omega | (simp only [gz_hd] at *; omega))) ⟨rfl, ⟨_, rfl, by (/-27-/first | (and_intros <;> omega) | (simp only [gz_hd] at *; omega))⟩⟩
  refine gv_run 4 true hD (pcₚ := 6) (lvₚ := [(6, .inl 0), (5, .inl a3), (0, .inr (.inr (some p))), (1, .inr (.inr (some a1))), (2, .inl a2), (3, .inl a3), (4, .inl a4)]) (stₚ := []) (hₚ := gc_h sh I J A) (C := ((((True ∧ True) ∧ True) ∧ True) ∧ True)) rfl ⟨⟨⟨⟨trivial, trivial⟩, trivial⟩, trivial⟩, trivial⟩ ?_
  refine gv_pick [2, 3, 4, 6, 1, 0] rfl ?_
  exact L6 _ a3 0 (Nat.lt_succ_self _) (by (/-28-/first | (and_intros <;> omega) | (simp only [gz_hd] at *; omega)))
