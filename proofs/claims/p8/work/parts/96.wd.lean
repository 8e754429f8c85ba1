theorem fo_pr_0 {I : gr_I} {t : Int} (hI : gr_Inv I) (x : Int) : 0 ≤ fo_pr I t x := (gr_b_37 hI _).1
set_option maxHeartbeats 8000000 in
set_option maxRecDepth 100000 in
theorem r_endsSo_p {ws0 : List Cond} {tb : String → gz_T} (hws : ∀ w ∈ gr_ws, w ∈ ws0) (htb : tb RX13 = gr_T) (ext : gz_Sh) (I : gr_I) (J : gr_J) (hI : gr_Inv I) (a1 : Int) (a2 : Int) (a3 : Int) (ha1 : 0 ≤ a1 ∧ a1 ≤ 1535) (ha2 : 1 ≤ a2 ∧ a2 ≤ 24) (ha3 : 1 ≤ a3 ∧ a3 ≤ 4) (x0 : a3 ≤ a2) : ∃ r hₚ, gz_Ev ws0 tb 1 (yX13_endsSo, cX13_endsSo, 5, (some .boolean)) [.inr (.inr (some 0)), .inl a1, .inl a2, .inl a3] (gr_sh ++ ext) (gr_h I J) r (gr_sh ++ ext) hₚ 0 0 ∧ (hₚ = gr_h I J ∧ (∃ z : Int, r = some (.inl z) ∧ 0 ≤ z ∧ z ≤ 1 ∧ ((z = 1 ∧ fo_ew (I 78) (I 79) (fun i : Nat => I 57 (Int.toNat (a2 - a3) + i)) a3 a1) ∨ (z = 0 ∧ ¬ fo_ew (I 78) (I 79) (fun i : Nat => I 57 (Int.toNat (a2 - a3) + i)) a3 a1)))) := by
  have hD : gv_D (gr_E ws0 tb 0 (yX13_endsSo, cX13_endsSo, 5, (some .boolean)) kX13_endsSo) := gq_of oX13_endsSo
  refine gr_ev (d := 0) (l := kX13_endsSo) (Po := fun r hₚ => (hₚ = gr_h I J ∧ (∃ z : Int, r = some (.inl z) ∧ 0 ≤ z ∧ z ≤ 1 ∧ ((z = 1 ∧ fo_ew (I 78) (I 79) (fun i : Nat => I 57 (Int.toNat (a2 - a3) + i)) a3 a1) ∨ (z = 0 ∧ ¬ fo_ew (I 78) (I 79) (fun i : Nat => I 57 (Int.toNat (a2 - a3) + i)) a3 a1))))) htb rfl (Nat.le_of_ble_eq_true rfl) ?_
  have L15 : ∀ (n : Nat) (v4_1 : Int), (5 - v4_1).toNat < n → ((0 ≤ a1 ∧ a1 ≤ 1535) ∧ (1 ≤ a2 ∧ a2 ≤ 24) ∧ (1 ≤ a3 ∧ a3 ≤ 4) ∧ (0 ≤ v4_1 ∧ v4_1 ≤ 4) ∧ (a3 ≤ a2) ∧ (a3 ≤ I 79 (a1).toNat)) → (∀ i : Int, 0 ≤ i → i < v4_1 → I 78 (Int.toNat (24 * a1 + I 79 (Int.toNat a1) - a3 + i)) = I 57 (Int.toNat (a2 - a3) + Int.toNat i)) → gv_X (gr_E ws0 tb 0 (yX13_endsSo, cX13_endsSo, 5, (some .boolean)) kX13_endsSo) (gv_Q cX13_endsSo (some .boolean) (gr_sh ++ ext) (fun r hₚ => (hₚ = gr_h I J ∧ (∃ z : Int, r = some (.inl z) ∧ 0 ≤ z ∧ z ≤ 1 ∧ ((z = 1 ∧ fo_ew (I 78) (I 79) (fun i : Nat => I 57 (Int.toNat (a2 - a3) + i)) a3 a1) ∨ (z = 0 ∧ ¬ fo_ew (I 78) (I 79) (fun i : Nat => I 57 (Int.toNat (a2 - a3) + i)) a3 a1)))))) (15, [(0, .inr (.inr (some 0))), (1, .inl a1), (2, .inl a2), (3, .inl a3), (4, .inl v4_1)], [], gr_sh ++ ext, gr_h I J) := by
    intro n
    induction n with
    | zero => intro v4_1 hn; exact gz_m 0 (by omega)
    | succ n ih15 =>
      intro v4_1 hn m_1 k_1
      obtain ⟨ha1_1, ha2_1, ha3_1, hv4_1, e0_1, e1_1⟩ := m_1
      refine gv_run 2 true hD (pcₚ := 18) (lvₚ := [(0, .inr (.inr (some 0))), (1, .inl a1), (2, .inl a2), (3, .inl a3), (4, .inl v4_1)]) (stₚ := [.inl a3, .inl v4_1]) (hₚ := gr_h I J) (C := ((True ∧ True) ∧ True)) rfl ⟨⟨trivial, trivial⟩, trivial⟩ ?_
      refine gv_icmp_ge (t := 64) hD rfl rfl ⟨⟨by exact gz_m 1 (by omega), by exact gz_m 2 (by omega)⟩, ⟨by exact gz_m 3 (by omega), by exact gz_m 4 (by omega)⟩⟩ (fun c2 => ?_) (fun c2 => ?_)
      · refine gv_run 1 true hD (pcₚ := 65) (lvₚ := [(0, .inr (.inr (some 0))), (1, .inl a1), (2, .inl a2), (3, .inl a3), (4, .inl v4_1)]) (stₚ := [.inl 1]) (hₚ := gr_h I J) (C := (True ∧ True)) rfl ⟨trivial, trivial⟩ ?_
        exact gv_zret hD rfl (by exact gz_m 5 (by omega)) ⟨rfl, ⟨_, rfl, by exact gz_m 6 (by omega), by exact gz_m 7 (by omega), Or.inl ⟨rfl, by exact gz_m 8 (by omega), fun i i0 i1 => k_1 i i0 (by exact gz_m 9 (by omega))⟩⟩⟩
      · refine gv_run 7 true hD (pcₚ := 33) (lvₚ := [(0, .inr (.inr (some 0))), (1, .inl a1), (2, .inl a2), (3, .inl a3), (4, .inl v4_1)]) (stₚ := [.inr (.inr (some 79)), .inl (24 * a1), .inr (.inr (some 78))]) (hₚ := gr_h I J) (C := (((((((True ∧ True) ∧ True) ∧ True) ∧ True) ∧ True) ∧ True) ∧ True)) rfl ⟨⟨⟨⟨⟨⟨⟨trivial, trivial⟩, trivial⟩, trivial⟩, trivial⟩, trivial⟩, trivial⟩, trivial⟩ ?_
        have f3 := (gr_b_79 hI (Int.toNat a1))
        refine gv_run 2 true hD (pcₚ := 35) (lvₚ := [(0, .inr (.inr (some 0))), (1, .inl a1), (2, .inl a2), (3, .inl a3), (4, .inl v4_1)]) (stₚ := [.inl (I 79 (Int.toNat a1)), .inl (24 * a1), .inr (.inr (some 78))]) (hₚ := gr_h I J) (C := ((True ∧ True) ∧ (0 ≤ a1 ∧ a1 < ((1536 : Nat) : Int)))) rfl ⟨⟨trivial, trivial⟩, ⟨by exact gz_m 10 (by omega), by exact gz_m 11 (by omega)⟩⟩ ?_
        have f4 := (gr_b_78 hI (Int.toNat (((((24 * a1) + (I 79 (Int.toNat a1))) - a3) + v4_1))))
        refine gv_run 6 true hD (pcₚ := 42) (lvₚ := [(0, .inr (.inr (some 0))), (1, .inl a1), (2, .inl a2), (3, .inl a3), (4, .inl v4_1)]) (stₚ := [.inl (I 78 (Int.toNat (((((24 * a1) + (I 79 (Int.toNat a1))) - a3) + v4_1))))]) (hₚ := gr_h I J) (C := ((((((True ∧ True) ∧ True) ∧ True) ∧ True) ∧ True) ∧ (0 ≤ (((((24 * a1) + (I 79 (Int.toNat a1))) - a3) + v4_1)) ∧ (((((24 * a1) + (I 79 (Int.toNat a1))) - a3) + v4_1)) < ((36864 : Nat) : Int)))) rfl ⟨⟨⟨⟨⟨⟨trivial, trivial⟩, trivial⟩, trivial⟩, trivial⟩, trivial⟩, ⟨by exact gz_m 12 (by omega), by exact gz_m 13 (by omega)⟩⟩ ?_
        refine gv_run 7 true hD (pcₚ := 52) (lvₚ := [(0, .inr (.inr (some 0))), (1, .inl a1), (2, .inl a2), (3, .inl a3), (4, .inl v4_1)]) (stₚ := [.inl ((a2 - a3) + v4_1), .inr (.inr (some 57)), .inl (I 78 (Int.toNat (((((24 * a1) + (I 79 (Int.toNat a1))) - a3) + v4_1))))]) (hₚ := gr_h I J) (C := (((((((True ∧ True) ∧ True) ∧ True) ∧ True) ∧ True) ∧ True) ∧ True)) rfl ⟨⟨⟨⟨⟨⟨⟨trivial, trivial⟩, trivial⟩, trivial⟩, trivial⟩, trivial⟩, trivial⟩, trivial⟩ ?_
        have f5 := (gr_b_57 hI (Int.toNat (((a2 - a3) + v4_1))))
        refine gv_run 1 true hD (pcₚ := 53) (lvₚ := [(0, .inr (.inr (some 0))), (1, .inl a1), (2, .inl a2), (3, .inl a3), (4, .inl v4_1)]) (stₚ := [.inl (I 57 (Int.toNat (((a2 - a3) + v4_1)))), .inl (I 78 (Int.toNat (((((24 * a1) + (I 79 (Int.toNat a1))) - a3) + v4_1))))]) (hₚ := gr_h I J) (C := (True ∧ (0 ≤ (((a2 - a3) + v4_1)) ∧ (((a2 - a3) + v4_1)) < ((1000 : Nat) : Int)))) rfl ⟨trivial, ⟨by exact gz_m 14 (by omega), by exact gz_m 15 (by omega)⟩⟩ ?_
        refine gv_icmp_eq (t := 58) hD rfl rfl ⟨⟨by exact gz_m 16 (by omega), by exact gz_m 17 (by omega)⟩, ⟨by exact gz_m 18 (by omega), by exact gz_m 19 (by omega)⟩⟩ (fun c6 => ?_) (fun c6 => ?_)
        · refine gv_run 2 true hD (pcₚ := 15) (lvₚ := [(4, .inl (v4_1 + 1)), (0, .inr (.inr (some 0))), (1, .inl a1), (2, .inl a2), (3, .inl a3)]) (stₚ := []) (hₚ := gr_h I J) (C := ((True ∧ True) ∧ True)) rfl ⟨⟨trivial, trivial⟩, trivial⟩ ?_
          refine gv_pick [1, 2, 3, 4, 0] rfl ?_
          exact ih15 (v4_1 + 1) (by exact gz_m 20 (by omega)) (by exact gz_m 21 (by omega)) (fun i i0 i1 => if e9 : i = v4_1 then (by rw [e9, show Int.toNat (a2 - a3) + Int.toNat v4_1 = Int.toNat (((a2 - a3) + v4_1)) from by exact gz_m 22 (by omega)]; exact c6) else k_1 i i0 (by exact gz_m 23 (by omega)))
        · refine gv_run 1 true hD (pcₚ := 57) (lvₚ := [(0, .inr (.inr (some 0))), (1, .inl a1), (2, .inl a2), (3, .inl a3), (4, .inl v4_1)]) (stₚ := [.inl 0]) (hₚ := gr_h I J) (C := (True ∧ True)) rfl ⟨trivial, trivial⟩ ?_
          exact gv_zret hD rfl (by exact gz_m 24 (by omega)) ⟨rfl, ⟨_, rfl, by exact gz_m 25 (by omega), by exact gz_m 26 (by omega), Or.inr ⟨rfl, fun h9 => c6 (by have h8 := h9.2 v4_1 (by exact gz_m 27 (by omega)) (by exact gz_m 28 (by omega)); have h7 : I 78 (Int.toNat (24 * a1 + I 79 (Int.toNat a1) - a3 + v4_1)) = I 57 (Int.toNat (a2 - a3) + Int.toNat v4_1) := h8; rw [show Int.toNat (a2 - a3) + Int.toNat v4_1 = Int.toNat (((a2 - a3) + v4_1)) from by exact gz_m 29 (by omega)] at h7; exact h7)⟩⟩⟩
  have f7 := (gr_b_79 hI (Int.toNat a1))
  refine gv_run 4 true hD (pcₚ := 6) (lvₚ := [(0, .inr (.inr (some 0))), (1, .inl a1), (2, .inl a2), (3, .inl a3)]) (stₚ := [.inl (I 79 (Int.toNat a1))]) (hₚ := gr_h I J) (C := ((((True ∧ True) ∧ True) ∧ True) ∧ (0 ≤ a1 ∧ a1 < ((1536 : Nat) : Int)))) rfl ⟨⟨⟨⟨trivial, trivial⟩, trivial⟩, trivial⟩, ⟨by exact gz_m 30 (by omega), by exact gz_m 31 (by omega)⟩⟩ ?_
  refine gv_run 1 true hD (pcₚ := 7) (lvₚ := [(0, .inr (.inr (some 0))), (1, .inl a1), (2, .inl a2), (3, .inl a3)]) (stₚ := [.inl a3, .inl (I 79 (Int.toNat a1))]) (hₚ := gr_h I J) (C := (True ∧ True)) rfl ⟨trivial, trivial⟩ ?_
  refine gv_icmp_ge (t := 12) hD rfl rfl ⟨⟨by exact gz_m 32 (by omega), by exact gz_m 33 (by omega)⟩, ⟨by exact gz_m 34 (by omega), by exact gz_m 35 (by omega)⟩⟩ (fun c8 => ?_) (fun c8 => ?_)
  · refine gv_run 2 true hD (pcₚ := 15) (lvₚ := [(4, .inl 0), (0, .inr (.inr (some 0))), (1, .inl a1), (2, .inl a2), (3, .inl a3)]) (stₚ := []) (hₚ := gr_h I J) (C := ((True ∧ True) ∧ True)) rfl ⟨⟨trivial, trivial⟩, trivial⟩ ?_
    refine gv_pick [1, 2, 3, 4, 0] rfl ?_
    exact L15 _ 0 (Nat.lt_succ_self _) (by exact gz_m 36 (by omega)) (fun i i0 i1 => absurd i1 (by exact gz_m 37 (by omega)))
  · refine gv_run 1 true hD (pcₚ := 11) (lvₚ := [(0, .inr (.inr (some 0))), (1, .inl a1), (2, .inl a2), (3, .inl a3)]) (stₚ := [.inl 0]) (hₚ := gr_h I J) (C := (True ∧ True)) rfl ⟨trivial, trivial⟩ ?_
    exact gv_zret hD rfl (by exact gz_m 38 (by omega)) ⟨rfl, ⟨_, rfl, by exact gz_m 39 (by omega), by exact gz_m 40 (by omega), Or.inr ⟨rfl, fun h9 => absurd h9.1 (by exact gz_m 41 (by omega))⟩⟩⟩
set_option maxHeartbeats 8000000 in
set_option maxRecDepth 100000 in
theorem r_guess_p_L66 {ws0 : List Cond} {tb : String → gz_T} (hws : ∀ w ∈ gr_ws, w ∈ ws0) (htb : tb RX13 = gr_T) (ext : gz_Sh) (I : gr_I) (J : gr_J) (hI : gr_Inv I) (a1 : Int) (ha1 : (-2147483648) ≤ a1 ∧ a1 ≤ 2147483647) (x0 : gr_KQ I) (x1 : (0 ≤ a1 ∧ a1 < I 0 1) → ∀ x : Int, fo_br I a1 x → fo_pr I a1 x < I 17 (Int.toNat a1)) (v2_10 : Int) : ∀ (n : Nat) (I20 : gr_I) (J21 : gr_J) (v3_22 : Int), (v3_22 - (-1)).toNat < n → gr_Inv I20 → gr_fr [0, 68, 69, 126, 127, 128, 136, 137, 138] [57, 76, 77, 78, 79, 81, 82] I I20 → gr_fj [0, 68, 69, 126, 127, 128, 136, 137, 138] [57, 76, 77, 78, 79, 81, 82] J J21 → gr_KR I I20 → ((0 ≤ a1 ∧ a1 ≤ 7) ∧ (0 ≤ v2_10 ∧ v2_10 ≤ 24) ∧ (0 ≤ v3_22 ∧ v3_22 ≤ 4) ∧ (v3_22 ≤ v2_10) ∧ (I20 0 68 = 0) ∧ ((0 ≤ a1 ∧ a1 < I 0 1)) ∧ (v2_10 = I 0 68) ∧ (1 ≤ I 0 68 ∧ I 0 68 ≤ 24) ∧ (v3_22 ≤ fo_L0 I) ∧ (I20 0 0 = 0)) → (fo_g66 I I20 a1 v3_22) → gv_X (gr_E ws0 tb 6 (yX13_guess, cX13_guess, 8, (some .int)) kX13_guess) (gv_Q cX13_guess (some .int) (gr_sh ++ ext) (fun r hₚ => (∃ (Iₚ : gr_I) (Jₚ : gr_J), hₚ = gr_h Iₚ Jₚ ∧ gr_Inv Iₚ ∧ gr_fr [0, 68, 69, 126, 127, 128, 136, 137, 138] [57, 76, 77, 78, 79, 81, 82] I Iₚ ∧ gr_fj [0, 68, 69, 126, 127, 128, 136, 137, 138] [57, 76, 77, 78, 79, 81, 82] J Jₚ ∧ (∃ z : Int, r = some (.inl z) ∧ (-3) ≤ z ∧ z ≤ 24 ∧ ((0 ≤ a1 ∧ a1 < I 0 1) → Iₚ 0 68 = 0) ∧ (¬ (0 ≤ a1 ∧ a1 < I 0 1) → Iₚ 0 68 = I 0 68) ∧ ((0 ≤ a1 ∧ a1 < I 0 1) → Iₚ 0 0 = 0) ∧ (¬ (0 ≤ a1 ∧ a1 < I 0 1) → Iₚ 0 0 = 1) ∧ (fo_uP I Iₚ a1 z) ∧ (fo_nB I Iₚ a1) ∧ (gr_KR I Iₚ))))) (66, [(0, .inr (.inr (some 0))), (1, .inl a1), (2, .inl v2_10), (3, .inl v3_22)], [], gr_sh ++ ext, gr_h I20 J21) := by
  have FI : gr_fr [0, 68, 69, 126, 127, 128, 136, 137, 138] [57, 76, 77, 78, 79, 81, 82] I I := fun _ _ _ => rfl
  have FJ : gr_fj [0, 68, 69, 126, 127, 128, 136, 137, 138] [57, 76, 77, 78, 79, 81, 82] J J := fun _ _ _ => rfl
  have hD : gv_D (gr_E ws0 tb 6 (yX13_guess, cX13_guess, 8, (some .int)) kX13_guess) := gq_of oX13_guess
  have hb9 : ∀ w : Int, fo_cr I a1 w ≤ 24 := fun w => (gr_b_31 hI _).2
  have y9 := x1
  have l_0 : fo_L0 I ≤ 4 ∧ fo_L0 I ≤ I 0 68 := ⟨fo_L0_b.1, fo_L0_b.2.1⟩
  have w_0 : 0 ≤ I 18 (Int.toNat a1) ∧ I 18 (Int.toNat a1) ≤ 64 := (hI 18 _).1
  have w_7 : 0 ≤ I 17 (Int.toNat a1) ∧ I 17 (Int.toNat a1) ≤ 24 := (hI 17 _).1
  have f1 := (gr_b_0_136 hI)
  have f2 := (gr_b_0_137 hI)
  have f3 := (gr_b_0_68 hI)
  have f4 := (gr_b_0_1 hI)
  have f5 := (gr_b_0_2 hI)
  have f6 := (gr_b_0_0 hI)
  have f7 := (gr_b_0_138 hI)
  have KKR_I : gr_KR I I := gr_KR_rf
  intro n
  induction n with
  | zero => intro I20 J21 v3_22 hn; exact gz_m 1 (by omega)
  | succ n ih66 =>
    intro I20 J21 v3_22 hn hI20 FI20 FJ21 KKR_I20 m_22 e6_22
    obtain ⟨ha1_22, hv2_10_22, hv3_22, e0_22, e1_22, e2_22, e3_22, e4_22, e5_22, e7_22⟩ := m_22
    have f23 := (gr_b_0_136 hI20)
    have f24 := (gr_b_0_137 hI20)
    have f25 := (gr_b_0_68 hI20)
    have f26 := (gr_b_0_1 hI20)
    have f27 := (gr_b_0_2 hI20)
    have f28 := (gr_b_0_0 hI20)
    have f29 := (gr_b_0_138 hI20)
    have t30 := FI20 18 (Int.toNat a1) rfl
    have t31 := FI20 17 (Int.toNat a1) rfl
    have L90 : ∀ (n : Nat) (I32 : gr_I) (J33 : gr_J) (v4_34 : Int), (25 - v4_34).toNat < n → gr_Inv I32 → gr_fr [0, 68, 69, 126, 127, 128, 136, 137, 138] [57, 76, 77, 78, 79, 81, 82] I I32 → gr_fj [0, 68, 69, 126, 127, 128, 136, 137, 138] [57, 76, 77, 78, 79, 81, 82] J J33 → gr_KR I I32 → ((0 ≤ a1 ∧ a1 ≤ 7) ∧ (1 ≤ v2_10 ∧ v2_10 ≤ 24) ∧ (1 ≤ v3_22 ∧ v3_22 ≤ 4) ∧ (0 ≤ v4_34 ∧ v4_34 ≤ 24) ∧ (v3_22 ≤ v2_10) ∧ (I32 0 136 ≤ v4_34) ∧ (I32 0 137 ≤ 1536 * v4_34) ∧ (I32 0 68 = 0) ∧ ((0 ≤ a1 ∧ a1 < I 0 1)) ∧ (v2_10 = I 0 68) ∧ (1 ≤ I 0 68 ∧ I 0 68 ≤ 24) ∧ (v3_22 ≤ fo_L0 I) ∧ (I32 0 138 = v3_22) ∧ (v4_34 ≤ I 17 (Int.toNat a1)) ∧ (I32 0 0 = 0)) → (fo_g90 I I32 a1 v3_22 (Int.toNat v4_34)) → gv_X (gr_E ws0 tb 6 (yX13_guess, cX13_guess, 8, (some .int)) kX13_guess) (gv_Q cX13_guess (some .int) (gr_sh ++ ext) (fun r hₚ => (∃ (Iₚ : gr_I) (Jₚ : gr_J), hₚ = gr_h Iₚ Jₚ ∧ gr_Inv Iₚ ∧ gr_fr [0, 68, 69, 126, 127, 128, 136, 137, 138] [57, 76, 77, 78, 79, 81, 82] I Iₚ ∧ gr_fj [0, 68, 69, 126, 127, 128, 136, 137, 138] [57, 76, 77, 78, 79, 81, 82] J Jₚ ∧ (∃ z : Int, r = some (.inl z) ∧ (-3) ≤ z ∧ z ≤ 24 ∧ ((0 ≤ a1 ∧ a1 < I 0 1) → Iₚ 0 68 = 0) ∧ (¬ (0 ≤ a1 ∧ a1 < I 0 1) → Iₚ 0 68 = I 0 68) ∧ ((0 ≤ a1 ∧ a1 < I 0 1) → Iₚ 0 0 = 0) ∧ (¬ (0 ≤ a1 ∧ a1 < I 0 1) → Iₚ 0 0 = 1) ∧ (fo_uP I Iₚ a1 z) ∧ (fo_nB I Iₚ a1) ∧ (gr_KR I Iₚ))))) (90, [(0, .inr (.inr (some 0))), (1, .inl a1), (2, .inl v2_10), (3, .inl v3_22), (4, .inl v4_34)], [], gr_sh ++ ext, gr_h I32 J33) := by
      intro n
      induction n with
      | zero => intro I32 J33 v4_34 hn; exact gz_m 2 (by omega)
      | succ n ih90 =>
        intro I32 J33 v4_34 hn hI32 FI32 FJ33 KKR_I32 m_34 e10_34
        clear ha1_22 hv2_10_22 hv3_22 e0_22 e1_22 e2_22 e3_22 e4_22 e5_22 e7_22 f23 f24 f25 f26 f27 f28 f29 t30 t31
        obtain ⟨ha1_34, hv2_10_34, hv3_22_34, hv4_34, e0_34, e1_34, e2_34, e3_34, e4_34, e5_34, e6_34, e7_34, e8_34, e9_34, e11_34⟩ := m_34
        have f35 := (gr_b_0_136 hI32)
        have f36 := (gr_b_0_137 hI32)
        have f37 := (gr_b_0_68 hI32)
        have f38 := (gr_b_0_1 hI32)
        have f39 := (gr_b_0_2 hI32)
        have f40 := (gr_b_0_0 hI32)
        have f41 := (gr_b_0_138 hI32)
        have t42 := FI32 18 (Int.toNat a1) rfl
        have t43 := FI32 17 (Int.toNat a1) rfl
        have L107 : ∀ (n : Nat) (v5_44 : Int) (v6_44 : Int), (65 - v6_44).toNat < n → ((0 ≤ a1 ∧ a1 ≤ 7) ∧ (1 ≤ v2_10 ∧ v2_10 ≤ 24) ∧ (1 ≤ v3_22 ∧ v3_22 ≤ 4) ∧ (0 ≤ v4_34 ∧ v4_34 ≤ 23) ∧ (0 ≤ v5_44 ∧ v5_44 ≤ 1536) ∧ (0 ≤ v6_44 ∧ v6_44 ≤ 64) ∧ (v3_22 ≤ v2_10) ∧ (v5_44 ≤ 24 * v6_44) ∧ (I32 0 68 = 0) ∧ ((0 ≤ a1 ∧ a1 < I 0 1)) ∧ (v4_34 < I 17 (Int.toNat a1)) ∧ (I32 0 0 = 0)) → (fo_cn (fo_Gr I I32 a1 v3_22 v4_34) (Int.toNat (24 * v6_44)) v5_44) → gv_X (gr_E ws0 tb 6 (yX13_guess, cX13_guess, 8, (some .int)) kX13_guess) (gv_Q cX13_guess (some .int) (gr_sh ++ ext) (fun r hₚ => (∃ (Iₚ : gr_I) (Jₚ : gr_J), hₚ = gr_h Iₚ Jₚ ∧ gr_Inv Iₚ ∧ gr_fr [0, 68, 69, 126, 127, 128, 136, 137, 138] [57, 76, 77, 78, 79, 81, 82] I Iₚ ∧ gr_fj [0, 68, 69, 126, 127, 128, 136, 137, 138] [57, 76, 77, 78, 79, 81, 82] J Jₚ ∧ (∃ z : Int, r = some (.inl z) ∧ (-3) ≤ z ∧ z ≤ 24 ∧ ((0 ≤ a1 ∧ a1 < I 0 1) → Iₚ 0 68 = 0) ∧ (¬ (0 ≤ a1 ∧ a1 < I 0 1) → Iₚ 0 68 = I 0 68) ∧ ((0 ≤ a1 ∧ a1 < I 0 1) → Iₚ 0 0 = 0) ∧ (¬ (0 ≤ a1 ∧ a1 < I 0 1) → Iₚ 0 0 = 1) ∧ (fo_uP I Iₚ a1 z) ∧ (fo_nB I Iₚ a1) ∧ (gr_KR I Iₚ))))) (107, [(0, .inr (.inr (some 0))), (1, .inl a1), (2, .inl v2_10), (3, .inl v3_22), (4, .inl v4_34), (5, .inl v5_44), (6, .inl v6_44)], [], gr_sh ++ ext, gr_h I32 J33) := by
          intro n
          induction n with
          | zero => intro v5_44 v6_44 hn; exact gz_m 3 (by omega)
          | succ n ih107 =>
            intro v5_44 v6_44 hn m_44 e5_44
            obtain ⟨ha1_44, hv2_10_44, hv3_22_44, hv4_34_44, hv5_44, hv6_44, e0_44, e1_44, e2_44, e3_44, e4_44, e6_44⟩ := m_44
            have f45 := (gr_b_0_136 hI32)
            have f46 := (gr_b_0_137 hI32)
            have f47 := (gr_b_0_68 hI32)
            have f48 := (gr_b_0_1 hI32)
            have f49 := (gr_b_0_2 hI32)
            have f50 := (gr_b_0_0 hI32)
            have f51 := (gr_b_0_138 hI32)
            have t52 := FI32 18 (Int.toNat a1) rfl
            have t53 := FI32 17 (Int.toNat a1) rfl
            have L179 : ∀ (v5_54 : Int), ((0 ≤ a1 ∧ a1 ≤ 7) ∧ (1 ≤ v2_10 ∧ v2_10 ≤ 24) ∧ (1 ≤ v3_22 ∧ v3_22 ≤ 4) ∧ (0 ≤ v4_34 ∧ v4_34 ≤ 23) ∧ (0 ≤ v5_54 ∧ v5_54 ≤ 1536) ∧ (0 ≤ v6_44 ∧ v6_44 ≤ 63) ∧ (v3_22 ≤ v2_10) ∧ (v5_54 ≤ 24 * v6_44 + 24) ∧ (I32 0 68 = 0) ∧ ((0 ≤ a1 ∧ a1 < I 0 1)) ∧ (v4_34 < I 17 (Int.toNat a1)) ∧ (I32 0 0 = 0)) → (fo_cn (fo_Gr I I32 a1 v3_22 v4_34) (Int.toNat (24 * (v6_44 + 1))) v5_54) → gv_X (gr_E ws0 tb 6 (yX13_guess, cX13_guess, 8, (some .int)) kX13_guess) (gv_Q cX13_guess (some .int) (gr_sh ++ ext) (fun r hₚ => (∃ (Iₚ : gr_I) (Jₚ : gr_J), hₚ = gr_h Iₚ Jₚ ∧ gr_Inv Iₚ ∧ gr_fr [0, 68, 69, 126, 127, 128, 136, 137, 138] [57, 76, 77, 78, 79, 81, 82] I Iₚ ∧ gr_fj [0, 68, 69, 126, 127, 128, 136, 137, 138] [57, 76, 77, 78, 79, 81, 82] J Jₚ ∧ (∃ z : Int, r = some (.inl z) ∧ (-3) ≤ z ∧ z ≤ 24 ∧ ((0 ≤ a1 ∧ a1 < I 0 1) → Iₚ 0 68 = 0) ∧ (¬ (0 ≤ a1 ∧ a1 < I 0 1) → Iₚ 0 68 = I 0 68) ∧ ((0 ≤ a1 ∧ a1 < I 0 1) → Iₚ 0 0 = 0) ∧ (¬ (0 ≤ a1 ∧ a1 < I 0 1) → Iₚ 0 0 = 1) ∧ (fo_uP I Iₚ a1 z) ∧ (fo_nB I Iₚ a1) ∧ (gr_KR I Iₚ))))) (179, [(0, .inr (.inr (some 0))), (1, .inl a1), (2, .inl v2_10), (3, .inl v3_22), (4, .inl v4_34), (5, .inl v5_54), (6, .inl v6_44)], [], gr_sh ++ ext, gr_h I32 J33) := by
              intro v5_54 m_54 e5_54
              obtain ⟨ha1_54, hv2_10_54, hv3_22_54, hv4_34_54, hv5_54, hv6_44_54, e0_54, e1_54, e2_54, e3_54, e4_54, e6_54⟩ := m_54
              have f55 := (gr_b_0_136 hI32)
              have f56 := (gr_b_0_137 hI32)
              have f57 := (gr_b_0_68 hI32)
              have f58 := (gr_b_0_1 hI32)
              have f59 := (gr_b_0_2 hI32)
              have f60 := (gr_b_0_0 hI32)
              have f61 := (gr_b_0_138 hI32)
              have t62 := FI32 18 (Int.toNat a1) rfl
              have t63 := FI32 17 (Int.toNat a1) rfl
              refine gv_run 2 true hD (pcₚ := 107) (lvₚ := [(6, .inl (v6_44 + 1)), (0, .inr (.inr (some 0))), (1, .inl a1), (2, .inl v2_10), (3, .inl v3_22), (4, .inl v4_34), (5, .inl v5_54)]) (stₚ := []) (hₚ := gr_h I32 J33) (C := ((True ∧ True) ∧ True)) rfl ⟨⟨trivial, trivial⟩, trivial⟩ ?_
              refine gv_pick [1, 2, 3, 4, 5, 6, 0] rfl ?_
              exact ih107 v5_54 (v6_44 + 1) (by exact gz_m 4 (by omega)) (by exact gz_m 5 (by omega)) (fo_cg_m e5_54 (by exact gz_m 6 (by omega)))
            have L141 : ∀ (n : Nat) (v5_64 : Int) (v7_64 : Int), (25 - v7_64).toNat < n → ((0 ≤ a1 ∧ a1 ≤ 7) ∧ (1 ≤ v2_10 ∧ v2_10 ≤ 24) ∧ (1 ≤ v3_22 ∧ v3_22 ≤ 4) ∧ (0 ≤ v4_34 ∧ v4_34 ≤ 23) ∧ (0 ≤ v5_64 ∧ v5_64 ≤ 1536) ∧ (0 ≤ v6_44 ∧ v6_44 ≤ 63) ∧ (0 ≤ v7_64 ∧ v7_64 ≤ 24) ∧ (v3_22 ≤ v2_10) ∧ (v5_64 ≤ 24 * v6_44 + v7_64) ∧ (I32 0 68 = 0) ∧ ((0 ≤ a1 ∧ a1 < I 0 1)) ∧ (v6_44 < I 18 (Int.toNat a1)) ∧ (I 37 (Int.toNat (64 * a1 + v6_44)) = v4_34) ∧ (v4_34 < I 17 (Int.toNat a1)) ∧ (I32 0 0 = 0)) → (fo_cn (fo_Gr I I32 a1 v3_22 v4_34) (Int.toNat (24 * v6_44 + v7_64)) v5_64) → gv_X (gr_E ws0 tb 6 (yX13_guess, cX13_guess, 8, (some .int)) kX13_guess) (gv_Q cX13_guess (some .int) (gr_sh ++ ext) (fun r hₚ => (∃ (Iₚ : gr_I) (Jₚ : gr_J), hₚ = gr_h Iₚ Jₚ ∧ gr_Inv Iₚ ∧ gr_fr [0, 68, 69, 126, 127, 128, 136, 137, 138] [57, 76, 77, 78, 79, 81, 82] I Iₚ ∧ gr_fj [0, 68, 69, 126, 127, 128, 136, 137, 138] [57, 76, 77, 78, 79, 81, 82] J Jₚ ∧ (∃ z : Int, r = some (.inl z) ∧ (-3) ≤ z ∧ z ≤ 24 ∧ ((0 ≤ a1 ∧ a1 < I 0 1) → Iₚ 0 68 = 0) ∧ (¬ (0 ≤ a1 ∧ a1 < I 0 1) → Iₚ 0 68 = I 0 68) ∧ ((0 ≤ a1 ∧ a1 < I 0 1) → Iₚ 0 0 = 0) ∧ (¬ (0 ≤ a1 ∧ a1 < I 0 1) → Iₚ 0 0 = 1) ∧ (fo_uP I Iₚ a1 z) ∧ (fo_nB I Iₚ a1) ∧ (gr_KR I Iₚ))))) (141, [(0, .inr (.inr (some 0))), (1, .inl a1), (2, .inl v2_10), (3, .inl v3_22), (4, .inl v4_34), (5, .inl v5_64), (6, .inl v6_44), (7, .inl v7_64)], [], gr_sh ++ ext, gr_h I32 J33) := by
              intro n
              induction n with
              | zero => intro v5_64 v7_64 hn; exact gz_m 7 (by omega)
              | succ n ih141 =>
                intro v5_64 v7_64 hn m_64 e7_64
                obtain ⟨ha1_64, hv2_10_64, hv3_22_64, hv4_34_64, hv5_64, hv6_44_64, hv7_64, e0_64, e1_64, e2_64, e3_64, e4_64, e5_64, e6_64, e8_64⟩ := m_64
                have f65 := (gr_b_0_136 hI32)
                have f66 := (gr_b_0_137 hI32)
                have f67 := (gr_b_0_68 hI32)
                have f68 := (gr_b_0_1 hI32)
                have f69 := (gr_b_0_2 hI32)
                have f70 := (gr_b_0_0 hI32)
                have f71 := (gr_b_0_138 hI32)
                have t72 := FI32 18 (Int.toNat a1) rfl
                have t73 := FI32 17 (Int.toNat a1) rfl
                have L173 : ∀ (v5_74 : Int), ((0 ≤ a1 ∧ a1 ≤ 7) ∧ (1 ≤ v2_10 ∧ v2_10 ≤ 24) ∧ (1 ≤ v3_22 ∧ v3_22 ≤ 4) ∧ (0 ≤ v4_34 ∧ v4_34 ≤ 23) ∧ (0 ≤ v5_74 ∧ v5_74 ≤ 1536) ∧ (0 ≤ v6_44 ∧ v6_44 ≤ 63) ∧ (0 ≤ v7_64 ∧ v7_64 ≤ 23) ∧ (v3_22 ≤ v2_10) ∧ (v5_74 ≤ 24 * v6_44 + v7_64 + 1) ∧ (I32 0 68 = 0) ∧ ((0 ≤ a1 ∧ a1 < I 0 1)) ∧ (v6_44 < I 18 (Int.toNat a1)) ∧ (I 37 (Int.toNat (64 * a1 + v6_44)) = v4_34) ∧ (v4_34 < I 17 (Int.toNat a1)) ∧ (I32 0 0 = 0)) → (fo_cn (fo_Gr I I32 a1 v3_22 v4_34) (Int.toNat (24 * v6_44 + v7_64) + 1) v5_74) → gv_X (gr_E ws0 tb 6 (yX13_guess, cX13_guess, 8, (some .int)) kX13_guess) (gv_Q cX13_guess (some .int) (gr_sh ++ ext) (fun r hₚ => (∃ (Iₚ : gr_I) (Jₚ : gr_J), hₚ = gr_h Iₚ Jₚ ∧ gr_Inv Iₚ ∧ gr_fr [0, 68, 69, 126, 127, 128, 136, 137, 138] [57, 76, 77, 78, 79, 81, 82] I Iₚ ∧ gr_fj [0, 68, 69, 126, 127, 128, 136, 137, 138] [57, 76, 77, 78, 79, 81, 82] J Jₚ ∧ (∃ z : Int, r = some (.inl z) ∧ (-3) ≤ z ∧ z ≤ 24 ∧ ((0 ≤ a1 ∧ a1 < I 0 1) → Iₚ 0 68 = 0) ∧ (¬ (0 ≤ a1 ∧ a1 < I 0 1) → Iₚ 0 68 = I 0 68) ∧ ((0 ≤ a1 ∧ a1 < I 0 1) → Iₚ 0 0 = 0) ∧ (¬ (0 ≤ a1 ∧ a1 < I 0 1) → Iₚ 0 0 = 1) ∧ (fo_uP I Iₚ a1 z) ∧ (fo_nB I Iₚ a1) ∧ (gr_KR I Iₚ))))) (173, [(0, .inr (.inr (some 0))), (1, .inl a1), (2, .inl v2_10), (3, .inl v3_22), (4, .inl v4_34), (5, .inl v5_74), (6, .inl v6_44), (7, .inl v7_64)], [], gr_sh ++ ext, gr_h I32 J33) := by
                  intro v5_74 m_74 e7_74
                  obtain ⟨ha1_74, hv2_10_74, hv3_22_74, hv4_34_74, hv5_74, hv6_44_74, hv7_64_74, e0_74, e1_74, e2_74, e3_74, e4_74, e5_74, e6_74, e8_74⟩ := m_74
                  have f75 := (gr_b_0_136 hI32)
                  have f76 := (gr_b_0_137 hI32)
                  have f77 := (gr_b_0_68 hI32)
                  have f78 := (gr_b_0_1 hI32)
                  have f79 := (gr_b_0_2 hI32)
                  have f80 := (gr_b_0_0 hI32)
                  have f81 := (gr_b_0_138 hI32)
                  have t82 := FI32 18 (Int.toNat a1) rfl
                  have t83 := FI32 17 (Int.toNat a1) rfl
                  refine gv_run 2 true hD (pcₚ := 141) (lvₚ := [(7, .inl (v7_64 + 1)), (0, .inr (.inr (some 0))), (1, .inl a1), (2, .inl v2_10), (3, .inl v3_22), (4, .inl v4_34), (5, .inl v5_74), (6, .inl v6_44)]) (stₚ := []) (hₚ := gr_h I32 J33) (C := ((True ∧ True) ∧ True)) rfl ⟨⟨trivial, trivial⟩, trivial⟩ ?_
                  refine gv_pick [1, 2, 3, 4, 5, 6, 7, 0] rfl ?_
                  exact ih141 v5_74 (v7_64 + 1) (by exact gz_m 8 (by omega)) (by exact gz_m 9 (by omega)) (fo_cg_m e7_74 (by exact gz_m 10 (by omega)))
                refine gv_run 4 true hD (pcₚ := 147) (lvₚ := [(0, .inr (.inr (some 0))), (1, .inl a1), (2, .inl v2_10), (3, .inl v3_22), (4, .inl v4_34), (5, .inl v5_64), (6, .inl v6_44), (7, .inl v7_64)]) (stₚ := [.inl v6_44, .inl a1, .inr (.inr (some 0)), .inl v7_64]) (hₚ := gr_h I32 J33) (C := ((((True ∧ True) ∧ True) ∧ True) ∧ True)) rfl ⟨⟨⟨⟨trivial, trivial⟩, trivial⟩, trivial⟩, trivial⟩ ?_
                obtain ⟨r84, h84, E84, P84⟩ := r_cellsOf_z (ws0 := ws0) (tb := tb) hws htb ext I32 J33 hI32 a1 v6_44 ⟨by exact gz_m 11 (by omega), by exact gz_m 12 (by omega)⟩ ⟨by exact gz_m 13 (by omega), by exact gz_m 14 (by omega)⟩ 
                obtain ⟨rfl, ⟨z84, rfl, q84⟩⟩ := P84
                have W_9 : z84 = fo_cr I a1 v6_44 := (show z84 = fo_cr I32 a1 v6_44 from q84.2.2).trans (fo_cr_fr (fun k => FI32 37 k rfl) (fun k => FI32 31 k rfl))
                refine gv_callV hD rfl (As := [.inl a1, .inl v6_44]) (st := [.inl v7_64]) rfl (by decide) rfl rfl (gr_lV hws rfl) (Nat.le_of_ble_eq_true rfl) (gz_Ev_mono (d := 1) (by decide) E84) ?_
                show gv_X _ _ (150, [(0, .inr (.inr (some 0))), (1, .inl a1), (2, .inl v2_10), (3, .inl v3_22), (4, .inl v4_34), (5, .inl v5_64), (6, .inl v6_44), (7, .inl v7_64)], [.inl z84, .inl v7_64], gr_sh ++ ext, gr_h I32 J33)
                refine gv_icmp_ge (t := 179) hD rfl rfl ⟨⟨by exact gz_m 15 (by omega), by exact gz_m 16 (by omega)⟩, ⟨by exact gz_m 17 (by omega), by exact gz_m 18 (by omega)⟩⟩ (fun c85 => ?_) (fun c85 => ?_)
                · refine gv_pick [0, 1, 2, 3, 4, 5, 6] rfl ?_
                  exact L179 v5_64 (by exact gz_m 19 (by omega)) (fo_cg_c e7_64 rfl hb9 (by exact gz_m 20 (by omega)) (by exact gz_m 21 (by omega)) (by exact gz_m 22 (by omega)) rfl)
                · refine gv_run 7 true hD (pcₚ := 163) (lvₚ := [(0, .inr (.inr (some 0))), (1, .inl a1), (2, .inl v2_10), (3, .inl v3_22), (4, .inl v4_34), (5, .inl v5_64), (6, .inl v6_44), (7, .inl v7_64)]) (stₚ := [.inl v2_10, .inl ((24 * v6_44) + v7_64), .inr (.inr (some 0))]) (hₚ := gr_h I32 J33) (C := (((((((True ∧ True) ∧ True) ∧ True) ∧ True) ∧ True) ∧ True) ∧ True)) rfl ⟨⟨⟨⟨⟨⟨⟨trivial, trivial⟩, trivial⟩, trivial⟩, trivial⟩, trivial⟩, trivial⟩, trivial⟩ ?_
                  refine gv_run 1 true hD (pcₚ := 164) (lvₚ := [(0, .inr (.inr (some 0))), (1, .inl a1), (2, .inl v2_10), (3, .inl v3_22), (4, .inl v4_34), (5, .inl v5_64), (6, .inl v6_44), (7, .inl v7_64)]) (stₚ := [.inl v3_22, .inl v2_10, .inl ((24 * v6_44) + v7_64), .inr (.inr (some 0))]) (hₚ := gr_h I32 J33) (C := (True ∧ True)) rfl ⟨trivial, trivial⟩ ?_
                  obtain ⟨r86, h86, E86, P86⟩ := r_endsSo_p (ws0 := ws0) (tb := tb) hws htb ext I32 J33 hI32 (((24 * v6_44) + v7_64)) v2_10 v3_22 ⟨by exact gz_m 23 (by omega), by exact gz_m 24 (by omega)⟩ ⟨by exact gz_m 25 (by omega), by exact gz_m 26 (by omega)⟩ ⟨by exact gz_m 27 (by omega), by exact gz_m 28 (by omega)⟩ (by exact gz_m 29 (by omega))
                  obtain ⟨rfl, ⟨z86, rfl, q86⟩⟩ := P86
                  have F_9 := fo_Gr_x (p := v4_34) (l := v3_22) (y := 24 * v6_44 + v7_64) (z := z86) (x := Int.toNat (24 * v6_44 + v7_64)) e10_34.1 (by rw [show I 0 68 = v2_10 from by exact gz_m 30 (by omega)]; exact q86.2.2) rfl (by exact gz_m 31 (by omega)) (by exact gz_m 32 (by omega)) ⟨v6_44, v7_64, by exact gz_m 33 (by omega), by exact gz_m 34 (by omega), by exact gz_m 35 (by omega), by exact gz_m 36 (by omega), by exact gz_m 37 (by omega)⟩ (by unfold fo_pr; rw [show (24 * v6_44 + v7_64) / 24 = v6_44 from by exact gz_m 38 (by omega)]; exact gz_m 39 (by omega))
                  refine gv_callV hD rfl (As := [.inl ((24 * v6_44) + v7_64), .inl v2_10, .inl v3_22]) (st := []) rfl (by decide) rfl rfl (gr_lV hws rfl) (Nat.le_of_ble_eq_true rfl) (gz_Ev_mono (d := 1) (by decide) E86) ?_
                  show gv_X _ _ (167, [(0, .inr (.inr (some 0))), (1, .inl a1), (2, .inl v2_10), (3, .inl v3_22), (4, .inl v4_34), (5, .inl v5_64), (6, .inl v6_44), (7, .inl v7_64)], [.inl z86], gr_sh ++ ext, gr_h I32 J33)
                  refine gv_if_eq (t := 173) hD rfl rfl ⟨by exact gz_m 40 (by omega), by exact gz_m 41 (by omega)⟩ (fun c87 => ?_) (fun c87 => ?_)
                  · exact L173 v5_64 (by exact gz_m 42 (by omega)) (fo_cg_n e7_64 F_9 (by exact gz_m 43 (by omega)) rfl)
                  · refine gv_run 1 true hD (pcₚ := 173) (lvₚ := [(5, .inl (v5_64 + 1)), (0, .inr (.inr (some 0))), (1, .inl a1), (2, .inl v2_10), (3, .inl v3_22), (4, .inl v4_34), (6, .inl v6_44), (7, .inl v7_64)]) (stₚ := []) (hₚ := gr_h I32 J33) (C := (True ∧ True)) rfl ⟨trivial, trivial⟩ ?_
                    refine gv_pick [1, 2, 3, 4, 5, 0, 6, 7] rfl ?_
                    exact L173 (v5_64 + 1) (by exact gz_m 44 (by omega)) (fo_cg_y e7_64 F_9 (by exact gz_m 45 (by omega)) rfl rfl)
            have L233 : ∀ (I88 : gr_I) (J89 : gr_J) , gr_Inv I88 → gr_fr [0, 68, 69, 126, 127, 128, 136, 137, 138] [57, 76, 77, 78, 79, 81, 82] I I88 → gr_fj [0, 68, 69, 126, 127, 128, 136, 137, 138] [57, 76, 77, 78, 79, 81, 82] J J89 → gr_KR I I88 → ((0 ≤ a1 ∧ a1 ≤ 7) ∧ (1 ≤ v2_10 ∧ v2_10 ≤ 24) ∧ (1 ≤ v3_22 ∧ v3_22 ≤ 4) ∧ (0 ≤ v4_34 ∧ v4_34 ≤ 23) ∧ (v3_22 ≤ v2_10) ∧ (I88 0 136 ≤ v4_34 + 1) ∧ (I88 0 137 ≤ 1536 * v4_34 + 1536) ∧ (I88 0 68 = 0) ∧ ((0 ≤ a1 ∧ a1 < I 0 1)) ∧ (v2_10 = I 0 68) ∧ (1 ≤ I 0 68 ∧ I 0 68 ≤ 24) ∧ (v3_22 ≤ fo_L0 I) ∧ (I88 0 138 = v3_22) ∧ (v4_34 < I 17 (Int.toNat a1)) ∧ (I88 0 0 = 0)) → (fo_g90 I I88 a1 v3_22 (Int.toNat (v4_34 + 1))) → gv_X (gr_E ws0 tb 6 (yX13_guess, cX13_guess, 8, (some .int)) kX13_guess) (gv_Q cX13_guess (some .int) (gr_sh ++ ext) (fun r hₚ => (∃ (Iₚ : gr_I) (Jₚ : gr_J), hₚ = gr_h Iₚ Jₚ ∧ gr_Inv Iₚ ∧ gr_fr [0, 68, 69, 126, 127, 128, 136, 137, 138] [57, 76, 77, 78, 79, 81, 82] I Iₚ ∧ gr_fj [0, 68, 69, 126, 127, 128, 136, 137, 138] [57, 76, 77, 78, 79, 81, 82] J Jₚ ∧ (∃ z : Int, r = some (.inl z) ∧ (-3) ≤ z ∧ z ≤ 24 ∧ ((0 ≤ a1 ∧ a1 < I 0 1) → Iₚ 0 68 = 0) ∧ (¬ (0 ≤ a1 ∧ a1 < I 0 1) → Iₚ 0 68 = I 0 68) ∧ ((0 ≤ a1 ∧ a1 < I 0 1) → Iₚ 0 0 = 0) ∧ (¬ (0 ≤ a1 ∧ a1 < I 0 1) → Iₚ 0 0 = 1) ∧ (fo_uP I Iₚ a1 z) ∧ (fo_nB I Iₚ a1) ∧ (gr_KR I Iₚ))))) (233, [(0, .inr (.inr (some 0))), (1, .inl a1), (2, .inl v2_10), (3, .inl v3_22), (4, .inl v4_34)], [], gr_sh ++ ext, gr_h I88 J89) := by
              intro I88 J89 hI88 FI88 FJ89 KKR_I88 m_90 e10_90
              clear ha1_44 hv2_10_44 hv3_22_44 hv4_34_44 hv5_44 hv6_44 e0_44 e1_44 e2_44 e3_44 e4_44 e6_44 f45 f46 f47 f48 f49 f50 f51 t52 t53 ha1_34 hv2_10_34 hv3_22_34 hv4_34 e0_34 e1_34 e2_34 e3_34 e4_34 e5_34 e6_34 e7_34 e8_34 e9_34 e11_34 f35 f36 f37 f38 f39 f40 f41 t42 t43
              obtain ⟨ha1_90, hv2_10_90, hv3_22_90, hv4_34_90, e0_90, e1_90, e2_90, e3_90, e4_90, e5_90, e6_90, e7_90, e8_90, e9_90, e11_90⟩ := m_90
              have f91 := (gr_b_0_136 hI88)
              have f92 := (gr_b_0_137 hI88)
              have f93 := (gr_b_0_68 hI88)
              have f94 := (gr_b_0_1 hI88)
              have f95 := (gr_b_0_2 hI88)
              have f96 := (gr_b_0_0 hI88)
              have f97 := (gr_b_0_138 hI88)
              have t98 := FI88 18 (Int.toNat a1) rfl
              have t99 := FI88 17 (Int.toNat a1) rfl
              refine gv_run 2 true hD (pcₚ := 90) (lvₚ := [(4, .inl (v4_34 + 1)), (0, .inr (.inr (some 0))), (1, .inl a1), (2, .inl v2_10), (3, .inl v3_22)]) (stₚ := []) (hₚ := gr_h I88 J89) (C := ((True ∧ True) ∧ True)) rfl ⟨⟨trivial, trivial⟩, trivial⟩ ?_
              refine gv_pick [1, 2, 3, 4, 0] rfl ?_
              exact ih90 I88 J89 (v4_34 + 1) (by exact gz_m 46 (by omega)) hI88 FI88 FJ89 KKR_I88 (by exact gz_m 47 (by omega)) (by have h9 := e10_90; exact h9)
            have f100 := (gr_b_18 hI32 (Int.toNat a1))
            refine gv_run 5 true hD (pcₚ := 115) (lvₚ := [(0, .inr (.inr (some 0))), (1, .inl a1), (2, .inl v2_10), (3, .inl v3_22), (4, .inl v4_34), (5, .inl v5_44), (6, .inl v6_44)]) (stₚ := [.inl (I32 18 (Int.toNat a1)), .inl v6_44]) (hₚ := gr_h I32 J33) (C := (((((True ∧ True) ∧ True) ∧ True) ∧ True) ∧ (0 ≤ a1 ∧ a1 < ((8 : Nat) : Int)))) rfl ⟨⟨⟨⟨⟨trivial, trivial⟩, trivial⟩, trivial⟩, trivial⟩, ⟨by exact gz_m 48 (by omega), by exact gz_m 49 (by omega)⟩⟩ ?_
            refine gv_icmp_ge (t := 185) hD rfl rfl ⟨⟨by exact gz_m 50 (by omega), by exact gz_m 51 (by omega)⟩, ⟨by exact gz_m 52 (by omega), by exact gz_m 53 (by omega)⟩⟩ (fun c101 => ?_) (fun c101 => ?_)
            · refine gv_run 1 true hD (pcₚ := 187) (lvₚ := [(0, .inr (.inr (some 0))), (1, .inl a1), (2, .inl v2_10), (3, .inl v3_22), (4, .inl v4_34), (5, .inl v5_44), (6, .inl v6_44)]) (stₚ := [.inl v5_44]) (hₚ := gr_h I32 J33) (C := (True ∧ True)) rfl ⟨trivial, trivial⟩ ?_
              refine gv_if_ne (t := 193) hD rfl rfl ⟨by exact gz_m 54 (by omega), by exact gz_m 55 (by omega)⟩ (fun c102 => ?_) (fun c102 => ?_)
              · have f103 := (gr_b_0_137 hI32)
                refine gv_run 5 true hD (pcₚ := 201) (lvₚ := [(0, .inr (.inr (some 0))), (1, .inl a1), (2, .inl v2_10), (3, .inl v3_22), (4, .inl v4_34), (5, .inl v5_44), (6, .inl v6_44)]) (stₚ := [.inl ((I32 0 137) + v5_44), .inr (.inr (some 0))]) (hₚ := gr_h I32 J33) (C := (((((True ∧ True) ∧ True) ∧ True) ∧ True) ∧ True)) rfl ⟨⟨⟨⟨⟨trivial, trivial⟩, trivial⟩, trivial⟩, trivial⟩, trivial⟩ ?_
                refine gv_run 1 true hD (pcₚ := 204) (lvₚ := [(0, .inr (.inr (some 0))), (1, .inl a1), (2, .inl v2_10), (3, .inl v3_22), (4, .inl v4_34), (5, .inl v5_44), (6, .inl v6_44)]) (stₚ := []) (hₚ := gz_up (gr_h I32 J33) 0 137 (.inl (((I32 0 137) + v5_44)))) (C := (True ∧ True)) rfl ⟨trivial, trivial⟩ ?_
                refine gr_st hI32 FI32 rfl rfl ⟨⟨by show 0 ≤ _; exact gz_m 56 (by omega), by show _ ≤ 40000; exact gz_m 57 (by omega)⟩, trivial⟩ (fun I104 hI104 FI104 q105 p105 => ?_)
                have t106 := p105 0 136 (by decide)
                have t107 := p105 0 68 (by decide)
                have t108 := p105 0 1 (by decide)
                have t109 := p105 0 2 (by decide)
                have t110 := p105 0 0 (by decide)
                have t111 := p105 0 138 (by decide)
                have f112 := (gr_b_0_136 hI104)
                have f113 := (gr_b_0_137 hI104)
                have f114 := (gr_b_0_68 hI104)
                have f115 := (gr_b_0_1 hI104)
                have f116 := (gr_b_0_2 hI104)
                have f117 := (gr_b_0_0 hI104)
                have f118 := (gr_b_0_138 hI104)
                have KKR_I104 := gr_KR_f KKR_I32 p105 (by decide)
                have t119 := FI104 18 (Int.toNat a1) rfl
                have t120 := FI104 17 (Int.toNat a1) rfl
                have f121 := (gr_b_0_136 hI104)
                refine gv_run 5 true hD (pcₚ := 214) (lvₚ := [(0, .inr (.inr (some 0))), (1, .inl a1), (2, .inl v2_10), (3, .inl v3_22), (4, .inl v4_34), (5, .inl v5_44), (6, .inl v6_44)]) (stₚ := [.inl v4_34, .inl (I104 0 136), .inr (.inr (some 81))]) (hₚ := gr_h I104 J33) (C := (((((True ∧ True) ∧ True) ∧ True) ∧ True) ∧ True)) rfl ⟨⟨⟨⟨⟨trivial, trivial⟩, trivial⟩, trivial⟩, trivial⟩, trivial⟩ ?_
                refine gv_run 1 true hD (pcₚ := 215) (lvₚ := [(0, .inr (.inr (some 0))), (1, .inl a1), (2, .inl v2_10), (3, .inl v3_22), (4, .inl v4_34), (5, .inl v5_44), (6, .inl v6_44)]) (stₚ := []) (hₚ := gz_up (gr_h I104 J33) 81 (Int.toNat ((I104 0 136))) (.inl v4_34)) (C := (True ∧ (0 ≤ (I104 0 136) ∧ (I104 0 136) < ((24 : Nat) : Int)))) rfl ⟨trivial, ⟨by exact gz_m 58 (by omega), by exact gz_m 59 (by omega)⟩⟩ ?_
                refine gr_st hI104 FI104 rfl rfl ⟨⟨by show 0 ≤ _; exact gz_m 60 (by omega), by show _ ≤ 23; exact gz_m 61 (by omega)⟩, trivial⟩ (fun I122 hI122 FI122 q123 p123 => ?_)
                have t124 := p123 0 136 (fun q => absurd q.1 (by first | exact gz_ne rfl | decide))
                have t125 := p123 0 137 (fun q => absurd q.1 (by first | exact gz_ne rfl | decide))
                have t126 := p123 0 68 (fun q => absurd q.1 (by first | exact gz_ne rfl | decide))
                have t127 := p123 0 1 (fun q => absurd q.1 (by first | exact gz_ne rfl | decide))
                have t128 := p123 0 2 (fun q => absurd q.1 (by first | exact gz_ne rfl | decide))
                have t129 := p123 0 0 (fun q => absurd q.1 (by first | exact gz_ne rfl | decide))
                have t130 := p123 0 138 (fun q => absurd q.1 (by first | exact gz_ne rfl | decide))
                have f131 := (gr_b_0_136 hI122)
                have f132 := (gr_b_0_137 hI122)
                have f133 := (gr_b_0_68 hI122)
                have f134 := (gr_b_0_1 hI122)
                have f135 := (gr_b_0_2 hI122)
                have f136 := (gr_b_0_0 hI122)
                have f137 := (gr_b_0_138 hI122)
                have KKR_I122 := gr_KR_a (by decide) KKR_I104 p123 (by decide)
                have t138 := FI122 18 (Int.toNat a1) rfl
                have t139 := FI122 17 (Int.toNat a1) rfl
                have f140 := (gr_b_0_136 hI122)
                refine gv_run 7 true hD (pcₚ := 226) (lvₚ := [(0, .inr (.inr (some 0))), (1, .inl a1), (2, .inl v2_10), (3, .inl v3_22), (4, .inl v4_34), (5, .inl v5_44), (6, .inl v6_44)]) (stₚ := [.inl 1, .inl (I122 0 136), .inr (.inr (some 0)), .inl (I122 0 136), .inr (.inr (some 82))]) (hₚ := gr_h I122 J33) (C := (((((((True ∧ True) ∧ True) ∧ True) ∧ True) ∧ True) ∧ True) ∧ True)) rfl ⟨⟨⟨⟨⟨⟨⟨trivial, trivial⟩, trivial⟩, trivial⟩, trivial⟩, trivial⟩, trivial⟩, trivial⟩ ?_
                refine gv_run 2 true hD (pcₚ := 230) (lvₚ := [(0, .inr (.inr (some 0))), (1, .inl a1), (2, .inl v2_10), (3, .inl v3_22), (4, .inl v4_34), (5, .inl v5_44), (6, .inl v6_44)]) (stₚ := [.inl (I122 0 136), .inr (.inr (some 82))]) (hₚ := gz_up (gr_h I122 J33) 0 136 (.inl (((I122 0 136) + 1)))) (C := ((True ∧ True) ∧ True)) rfl ⟨⟨trivial, trivial⟩, trivial⟩ ?_
                refine gr_st hI122 FI122 rfl rfl ⟨⟨by show 0 ≤ _; exact gz_m 62 (by omega), by show _ ≤ 24; exact gz_m 63 (by omega)⟩, trivial⟩ (fun I141 hI141 FI141 q142 p142 => ?_)
                have t143 := p142 0 137 (by decide)
                have t144 := p142 0 68 (by decide)
                have t145 := p142 0 1 (by decide)
                have t146 := p142 0 2 (by decide)
                have t147 := p142 0 0 (by decide)
                have t148 := p142 0 138 (by decide)
                have f149 := (gr_b_0_136 hI141)
                have f150 := (gr_b_0_137 hI141)
                have f151 := (gr_b_0_68 hI141)
                have f152 := (gr_b_0_1 hI141)
                have f153 := (gr_b_0_2 hI141)
                have f154 := (gr_b_0_0 hI141)
                have f155 := (gr_b_0_138 hI141)
                have KKR_I141 := gr_KR_f KKR_I122 p142 (by decide)
                have t156 := FI141 18 (Int.toNat a1) rfl
                have t157 := FI141 17 (Int.toNat a1) rfl
                refine gv_run 2 true hD (pcₚ := 233) (lvₚ := [(0, .inr (.inr (some 0))), (1, .inl a1), (2, .inl v2_10), (3, .inl v3_22), (4, .inl v4_34), (5, .inl v5_44), (6, .inl v6_44)]) (stₚ := []) (hₚ := gz_up (gr_h I141 J33) 82 (Int.toNat ((I122 0 136))) (.inl v5_44)) (C := ((True ∧ True) ∧ (0 ≤ (I122 0 136) ∧ (I122 0 136) < ((24 : Nat) : Int)))) rfl ⟨⟨trivial, trivial⟩, ⟨by exact gz_m 64 (by omega), by exact gz_m 65 (by omega)⟩⟩ ?_
                refine gr_st hI141 FI141 rfl rfl ⟨⟨by show 0 ≤ _; exact gz_m 66 (by omega), by show _ ≤ 1536; exact gz_m 67 (by omega)⟩, trivial⟩ (fun I158 hI158 FI158 q159 p159 => ?_)
                have t160 := p159 0 136 (fun q => absurd q.1 (by first | exact gz_ne rfl | decide))
                have t161 := p159 0 137 (fun q => absurd q.1 (by first | exact gz_ne rfl | decide))
                have t162 := p159 0 68 (fun q => absurd q.1 (by first | exact gz_ne rfl | decide))
                have t163 := p159 0 1 (fun q => absurd q.1 (by first | exact gz_ne rfl | decide))
                have t164 := p159 0 2 (fun q => absurd q.1 (by first | exact gz_ne rfl | decide))
                have t165 := p159 0 0 (fun q => absurd q.1 (by first | exact gz_ne rfl | decide))
                have t166 := p159 0 138 (fun q => absurd q.1 (by first | exact gz_ne rfl | decide))
                have f167 := (gr_b_0_136 hI158)
                have f168 := (gr_b_0_137 hI158)
                have f169 := (gr_b_0_68 hI158)
                have f170 := (gr_b_0_1 hI158)
                have f171 := (gr_b_0_2 hI158)
                have f172 := (gr_b_0_0 hI158)
                have f173 := (gr_b_0_138 hI158)
                have KKR_I158 := gr_KR_a (by decide) KKR_I141 p159 (by decide)
                have t174 := FI158 18 (Int.toNat a1) rfl
                have t175 := FI158 17 (Int.toNat a1) rfl
                refine gv_pick [0, 1, 2, 3, 4] rfl ?_
                exact L233 I158 J33 hI158 FI158 FJ33 KKR_I158 (by exact gz_m 68 (by omega)) (fo_g90_y e10_34 (fo_cg_e e5_44 rfl hb9 (by exact gz_m 69 (by omega)) (by exact gz_m 70 (by omega))) (by exact gz_m 71 (by omega)) (by exact gz_m 72 (by omega)) (by exact gz_m 73 (by omega)) (fun k => (((p159 57 k (fun q => absurd q.1 (by first | exact gz_ne rfl | decide))).trans (p142 57 k (fun q => absurd q.1 (by first | exact gz_ne rfl | decide)))).trans (p123 57 k (fun q => absurd q.1 (by first | exact gz_ne rfl | decide)))).trans (p105 57 k (fun q => absurd q.1 (by first | exact gz_ne rfl | decide)))) (fun k => (((p159 78 k (fun q => absurd q.1 (by first | exact gz_ne rfl | decide))).trans (p142 78 k (fun q => absurd q.1 (by first | exact gz_ne rfl | decide)))).trans (p123 78 k (fun q => absurd q.1 (by first | exact gz_ne rfl | decide)))).trans (p105 78 k (fun q => absurd q.1 (by first | exact gz_ne rfl | decide)))) (fun k => (((p159 79 k (fun q => absurd q.1 (by first | exact gz_ne rfl | decide))).trans (p142 79 k (fun q => absurd q.1 (by first | exact gz_ne rfl | decide)))).trans (p123 79 k (fun q => absurd q.1 (by first | exact gz_ne rfl | decide)))).trans (p105 79 k (fun q => absurd q.1 (by first | exact gz_ne rfl | decide)))) ((p159 81 _ (fun q => absurd q.1 (by first | exact gz_ne rfl | decide))).trans ((p142 81 _ (fun q => absurd q.1 (by first | exact gz_ne rfl | decide))).trans (by rw [show Int.toNat (I32 0 136) = Int.toNat (I104 0 136) from by exact gz_m 74 (by omega)]; exact q123))) (fun j hj => (p159 81 j (fun q => absurd q.1 (by first | exact gz_ne rfl | decide))).trans ((p142 81 j (fun q => absurd q.1 (by first | exact gz_ne rfl | decide))).trans ((p123 81 j (fun q => hj (by have := q.2; exact gz_m 75 (by omega)))).trans (p105 81 j (fun q => absurd q.1 (by first | exact gz_ne rfl | decide)))))) (by rw [show Int.toNat (I32 0 136) = Int.toNat (I122 0 136) from by exact gz_m 76 (by omega)]; exact q159) (fun j hj => (p159 82 j (fun q => hj (by have := q.2; exact gz_m 77 (by omega)))).trans ((p142 82 j (fun q => absurd q.1 (by first | exact gz_ne rfl | decide))).trans ((p123 82 j (fun q => absurd q.1 (by first | exact gz_ne rfl | decide))).trans (p105 82 j (fun q => absurd q.1 (by first | exact gz_ne rfl | decide)))))) (by exact gz_m 78 (by omega)) (by exact gz_m 79 (by omega)))
              · refine gv_run 1 true hD (pcₚ := 233) (lvₚ := [(0, .inr (.inr (some 0))), (1, .inl a1), (2, .inl v2_10), (3, .inl v3_22), (4, .inl v4_34), (5, .inl v5_44), (6, .inl v6_44)]) (stₚ := []) (hₚ := gr_h I32 J33) (C := (True ∧ True)) rfl ⟨trivial, trivial⟩ ?_
                refine gv_pick [0, 1, 2, 3, 4] rfl ?_
                exact L233 I32 J33 hI32 FI32 FJ33 KKR_I32 (by exact gz_m 80 (by omega)) (fo_g90_n e10_34 (fo_cg_e e5_44 rfl hb9 (by exact gz_m 81 (by omega)) (by exact gz_m 82 (by omega))) (by exact gz_m 83 (by omega)) (by exact gz_m 84 (by omega)) (fo_br_b hb9 (by exact gz_m 85 (by omega))) (by exact gz_m 86 (by omega)))
            · refine gv_run 7 true hD (pcₚ := 129) (lvₚ := [(0, .inr (.inr (some 0))), (1, .inl a1), (2, .inl v2_10), (3, .inl v3_22), (4, .inl v4_34), (5, .inl v5_44), (6, .inl v6_44)]) (stₚ := [.inl ((64 * a1) + v6_44), .inr (.inr (some 37))]) (hₚ := gr_h I32 J33) (C := (((((((True ∧ True) ∧ True) ∧ True) ∧ True) ∧ True) ∧ True) ∧ True)) rfl ⟨⟨⟨⟨⟨⟨⟨trivial, trivial⟩, trivial⟩, trivial⟩, trivial⟩, trivial⟩, trivial⟩, trivial⟩ ?_
              have f176 := (gr_b_37 hI32 (Int.toNat (((64 * a1) + v6_44))))
              refine gv_run 1 true hD (pcₚ := 130) (lvₚ := [(0, .inr (.inr (some 0))), (1, .inl a1), (2, .inl v2_10), (3, .inl v3_22), (4, .inl v4_34), (5, .inl v5_44), (6, .inl v6_44)]) (stₚ := [.inl (I32 37 (Int.toNat (((64 * a1) + v6_44))))]) (hₚ := gr_h I32 J33) (C := (True ∧ (0 ≤ (((64 * a1) + v6_44)) ∧ (((64 * a1) + v6_44)) < ((512 : Nat) : Int)))) rfl ⟨trivial, ⟨by exact gz_m 87 (by omega), by exact gz_m 88 (by omega)⟩⟩ ?_
              refine gv_run 1 true hD (pcₚ := 132) (lvₚ := [(0, .inr (.inr (some 0))), (1, .inl a1), (2, .inl v2_10), (3, .inl v3_22), (4, .inl v4_34), (5, .inl v5_44), (6, .inl v6_44)]) (stₚ := [.inl v4_34, .inl (I32 37 (Int.toNat (((64 * a1) + v6_44))))]) (hₚ := gr_h I32 J33) (C := (True ∧ True)) rfl ⟨trivial, trivial⟩ ?_
              have t177 := (show I32 37 (Int.toNat (((64 * a1) + v6_44))) = I 37 (Int.toNat (64 * a1 + v6_44)) from FI32 37 _ rfl)
              refine gv_icmp_eq (t := 138) hD rfl rfl ⟨⟨by exact gz_m 89 (by omega), by exact gz_m 90 (by omega)⟩, ⟨by exact gz_m 91 (by omega), by exact gz_m 92 (by omega)⟩⟩ (fun c178 => ?_) (fun c178 => ?_)
              · refine gv_run 2 true hD (pcₚ := 141) (lvₚ := [(7, .inl 0), (0, .inr (.inr (some 0))), (1, .inl a1), (2, .inl v2_10), (3, .inl v3_22), (4, .inl v4_34), (5, .inl v5_44), (6, .inl v6_44)]) (stₚ := []) (hₚ := gr_h I32 J33) (C := ((True ∧ True) ∧ True)) rfl ⟨⟨trivial, trivial⟩, trivial⟩ ?_
                refine gv_pick [1, 2, 3, 4, 5, 6, 7, 0] rfl ?_
                exact L141 _ v5_44 0 (Nat.lt_succ_self _) (by exact gz_m 93 (by omega)) (fo_cg_m e5_44 (by exact gz_m 94 (by omega)))
              · refine gv_run 1 true hD (pcₚ := 179) (lvₚ := [(0, .inr (.inr (some 0))), (1, .inl a1), (2, .inl v2_10), (3, .inl v3_22), (4, .inl v4_34), (5, .inl v5_44), (6, .inl v6_44)]) (stₚ := []) (hₚ := gr_h I32 J33) (C := (True ∧ True)) rfl ⟨trivial, trivial⟩ ?_
                exact L179 v5_44 (by exact gz_m 95 (by omega)) (fo_cg_o e5_44 rfl (by exact gz_m 96 (by omega)) (by exact gz_m 97 (by omega)) rfl)
        have f179 := (gr_b_17 hI32 (Int.toNat a1))
        refine gv_run 5 true hD (pcₚ := 98) (lvₚ := [(0, .inr (.inr (some 0))), (1, .inl a1), (2, .inl v2_10), (3, .inl v3_22), (4, .inl v4_34)]) (stₚ := [.inl (I32 17 (Int.toNat a1)), .inl v4_34]) (hₚ := gr_h I32 J33) (C := (((((True ∧ True) ∧ True) ∧ True) ∧ True) ∧ (0 ≤ a1 ∧ a1 < ((8 : Nat) : Int)))) rfl ⟨⟨⟨⟨⟨trivial, trivial⟩, trivial⟩, trivial⟩, trivial⟩, ⟨by exact gz_m 98 (by omega), by exact gz_m 99 (by omega)⟩⟩ ?_
        refine gv_icmp_ge (t := 239) hD rfl rfl ⟨⟨by exact gz_m 100 (by omega), by exact gz_m 101 (by omega)⟩, ⟨by exact gz_m 102 (by omega), by exact gz_m 103 (by omega)⟩⟩ (fun c180 => ?_) (fun c180 => ?_)
        · refine gv_run 2 true hD (pcₚ := 66) (lvₚ := [(3, .inl (v3_22 + (-1))), (0, .inr (.inr (some 0))), (1, .inl a1), (2, .inl v2_10), (4, .inl v4_34)]) (stₚ := []) (hₚ := gr_h I32 J33) (C := ((True ∧ True) ∧ True)) rfl ⟨⟨trivial, trivial⟩, trivial⟩ ?_
          refine gv_pick [1, 2, 3, 0] rfl ?_
          exact ih66 I32 J33 ((v3_22 + (-1))) (by exact gz_m 104 (by omega)) hI32 FI32 FJ33 KKR_I32 (by exact gz_m 105 (by omega)) (fo_g90_e e10_34 (by exact gz_m 106 (by omega)) (fun x hx => fo_pr_0 hI x) (fun x hx => y9 (by exact gz_m 107 (by omega)) x hx) (by exact gz_m 108 (by omega)) (by exact gz_m 109 (by omega)) (by exact gz_m 110 (by omega)))
        · refine gv_run 4 true hD (pcₚ := 107) (lvₚ := [(6, .inl 0), (5, .inl 0), (0, .inr (.inr (some 0))), (1, .inl a1), (2, .inl v2_10), (3, .inl v3_22), (4, .inl v4_34)]) (stₚ := []) (hₚ := gr_h I32 J33) (C := ((((True ∧ True) ∧ True) ∧ True) ∧ True)) rfl ⟨⟨⟨⟨trivial, trivial⟩, trivial⟩, trivial⟩, trivial⟩ ?_
          refine gv_pick [2, 3, 4, 5, 6, 1, 0] rfl ?_
          exact L107 _ 0 0 (Nat.lt_succ_self _) (by exact gz_m 111 (by omega)) (fo_cg_0 (by exact gz_m 112 (by omega)))
    have L245 : ((I20 0 68 = 0) ∧ ((0 ≤ a1 ∧ a1 < I 0 1)) ∧ (v3_22 ≤ 0 ∨ ¬ I20 0 136 = 0) ∧ (I20 0 0 = 0)) → gv_X (gr_E ws0 tb 6 (yX13_guess, cX13_guess, 8, (some .int)) kX13_guess) (gv_Q cX13_guess (some .int) (gr_sh ++ ext) (fun r hₚ => (∃ (Iₚ : gr_I) (Jₚ : gr_J), hₚ = gr_h Iₚ Jₚ ∧ gr_Inv Iₚ ∧ gr_fr [0, 68, 69, 126, 127, 128, 136, 137, 138] [57, 76, 77, 78, 79, 81, 82] I Iₚ ∧ gr_fj [0, 68, 69, 126, 127, 128, 136, 137, 138] [57, 76, 77, 78, 79, 81, 82] J Jₚ ∧ (∃ z : Int, r = some (.inl z) ∧ (-3) ≤ z ∧ z ≤ 24 ∧ ((0 ≤ a1 ∧ a1 < I 0 1) → Iₚ 0 68 = 0) ∧ (¬ (0 ≤ a1 ∧ a1 < I 0 1) → Iₚ 0 68 = I 0 68) ∧ ((0 ≤ a1 ∧ a1 < I 0 1) → Iₚ 0 0 = 0) ∧ (¬ (0 ≤ a1 ∧ a1 < I 0 1) → Iₚ 0 0 = 1) ∧ (fo_uP I Iₚ a1 z) ∧ (fo_nB I Iₚ a1) ∧ (gr_KR I Iₚ))))) (245, [(0, .inr (.inr (some 0)))], [], gr_sh ++ ext, gr_h I20 J21) := by
      intro m_181
      obtain ⟨e0_181, e1_181, e2_181, e3_181⟩ := m_181
      have f182 := (gr_b_0_136 hI20)
      have f183 := (gr_b_0_137 hI20)
      have f184 := (gr_b_0_68 hI20)
      have f185 := (gr_b_0_1 hI20)
      have f186 := (gr_b_0_2 hI20)
      have f187 := (gr_b_0_0 hI20)
      have f188 := (gr_b_0_138 hI20)
      have t189 := FI20 18 (Int.toNat a1) rfl
      have t190 := FI20 17 (Int.toNat a1) rfl
      have f191 := (gr_b_0_136 hI20)
      refine gv_run 2 true hD (pcₚ := 249) (lvₚ := [(0, .inr (.inr (some 0)))]) (stₚ := [.inl (I20 0 136)]) (hₚ := gr_h I20 J21) (C := ((True ∧ True) ∧ True)) rfl ⟨⟨trivial, trivial⟩, trivial⟩ ?_
      have b192 : ((0 ≤ a1 ∧ a1 < I 0 1) → I20 0 68 = 0) ∧ (¬ (0 ≤ a1 ∧ a1 < I 0 1) → I20 0 68 = I 0 68) ∧ ((0 ≤ a1 ∧ a1 < I 0 1) → I20 0 0 = 0) ∧ (¬ (0 ≤ a1 ∧ a1 < I 0 1) → I20 0 0 = 1) := by exact gz_m 113 (by omega)
      exact gv_iret hD rfl ⟨I20, J21, rfl, hI20, FI20, FJ21, ⟨_, rfl, by exact gz_m 114 (by omega), by exact gz_m 115 (by omega), b192.1, b192.2.1, b192.2.2.1, b192.2.2.2, (fun _ => Or.inl ⟨e6_22.1.1, rfl, fo_g66_e e6_22 (by exact gz_m 116 (by omega)) (by exact gz_m 117 (by omega))⟩), (fun h9 => absurd (by exact gz_m 118 (by omega)) h9), KKR_I20⟩⟩
    refine gv_run 1 true hD (pcₚ := 67) (lvₚ := [(0, .inr (.inr (some 0))), (1, .inl a1), (2, .inl v2_10), (3, .inl v3_22)]) (stₚ := [.inl v3_22]) (hₚ := gr_h I20 J21) (C := (True ∧ True)) rfl ⟨trivial, trivial⟩ ?_
    refine gv_if_le (t := 245) hD rfl rfl ⟨by exact gz_m 119 (by omega), by exact gz_m 120 (by omega)⟩ (fun c193 => ?_) (fun c193 => ?_)
    · refine gv_pick [0] rfl ?_
      exact L245 (by exact gz_m 121 (by omega))
    · have f194 := (gr_b_0_136 hI20)
      refine gv_run 2 true hD (pcₚ := 74) (lvₚ := [(0, .inr (.inr (some 0))), (1, .inl a1), (2, .inl v2_10), (3, .inl v3_22)]) (stₚ := [.inl (I20 0 136)]) (hₚ := gr_h I20 J21) (C := ((True ∧ True) ∧ True)) rfl ⟨⟨trivial, trivial⟩, trivial⟩ ?_
      refine gv_if_ne (t := 245) hD rfl rfl ⟨by exact gz_m 122 (by omega), by exact gz_m 123 (by omega)⟩ (fun c195 => ?_) (fun c195 => ?_)
      · refine gv_pick [0] rfl ?_
        exact L245 (by exact gz_m 124 (by omega))
      · refine gv_run 3 true hD (pcₚ := 82) (lvₚ := [(0, .inr (.inr (some 0))), (1, .inl a1), (2, .inl v2_10), (3, .inl v3_22)]) (stₚ := []) (hₚ := gz_up (gr_h I20 J21) 0 137 (.inl 0)) (C := (((True ∧ True) ∧ True) ∧ True)) rfl ⟨⟨⟨trivial, trivial⟩, trivial⟩, trivial⟩ ?_
        refine gr_st hI20 FI20 rfl rfl ⟨⟨by show 0 ≤ _; exact gz_m 125 (by omega), by show _ ≤ 40000; exact gz_m 126 (by omega)⟩, trivial⟩ (fun I196 hI196 FI196 q197 p197 => ?_)
        have t198 := p197 0 136 (by decide)
        have t199 := p197 0 68 (by decide)
        have t200 := p197 0 1 (by decide)
        have t201 := p197 0 2 (by decide)
        have t202 := p197 0 0 (by decide)
        have t203 := p197 0 138 (by decide)
        have f204 := (gr_b_0_136 hI196)
        have f205 := (gr_b_0_137 hI196)
        have f206 := (gr_b_0_68 hI196)
        have f207 := (gr_b_0_1 hI196)
        have f208 := (gr_b_0_2 hI196)
        have f209 := (gr_b_0_0 hI196)
        have f210 := (gr_b_0_138 hI196)
        have KKR_I196 := gr_KR_f KKR_I20 p197 (by decide)
        have t211 := FI196 18 (Int.toNat a1) rfl
        have t212 := FI196 17 (Int.toNat a1) rfl
        refine gv_run 3 true hD (pcₚ := 87) (lvₚ := [(0, .inr (.inr (some 0))), (1, .inl a1), (2, .inl v2_10), (3, .inl v3_22)]) (stₚ := []) (hₚ := gz_up (gr_h I196 J21) 0 138 (.inl v3_22)) (C := (((True ∧ True) ∧ True) ∧ True)) rfl ⟨⟨⟨trivial, trivial⟩, trivial⟩, trivial⟩ ?_
        refine gr_st hI196 FI196 rfl rfl ⟨⟨by show 0 ≤ _; exact gz_m 127 (by omega), by show _ ≤ 4; exact gz_m 128 (by omega)⟩, trivial⟩ (fun I213 hI213 FI213 q214 p214 => ?_)
        have t215 := p214 0 136 (by decide)
        have t216 := p214 0 137 (by decide)
        have t217 := p214 0 68 (by decide)
        have t218 := p214 0 1 (by decide)
        have t219 := p214 0 2 (by decide)
        have t220 := p214 0 0 (by decide)
        have f221 := (gr_b_0_136 hI213)
        have f222 := (gr_b_0_137 hI213)
        have f223 := (gr_b_0_68 hI213)
        have f224 := (gr_b_0_1 hI213)
        have f225 := (gr_b_0_2 hI213)
        have f226 := (gr_b_0_0 hI213)
        have f227 := (gr_b_0_138 hI213)
        have KKR_I213 := gr_KR_f KKR_I196 p214 (by decide)
        have t228 := FI213 18 (Int.toNat a1) rfl
        have t229 := FI213 17 (Int.toNat a1) rfl
        refine gv_run 2 true hD (pcₚ := 90) (lvₚ := [(4, .inl 0), (0, .inr (.inr (some 0))), (1, .inl a1), (2, .inl v2_10), (3, .inl v3_22)]) (stₚ := []) (hₚ := gr_h I213 J21) (C := ((True ∧ True) ∧ True)) rfl ⟨⟨trivial, trivial⟩, trivial⟩ ?_
        refine gv_pick [1, 2, 3, 4, 0] rfl ?_
        exact L90 _ I213 J21 0 (Nat.lt_succ_self _) hI213 FI213 FJ21 KKR_I213 (by exact gz_m 129 (by omega)) (fo_g90_0 e6_22 (by exact gz_m 130 (by omega)) (fun x hx => fo_pr_0 hI x) (fun k => (p214 57 k (fun q => absurd q.1 (by first | exact gz_ne rfl | decide))).trans (p197 57 k (fun q => absurd q.1 (by first | exact gz_ne rfl | decide)))) (fun k => (p214 78 k (fun q => absurd q.1 (by first | exact gz_ne rfl | decide))).trans (p197 78 k (fun q => absurd q.1 (by first | exact gz_ne rfl | decide)))) (fun k => (p214 79 k (fun q => absurd q.1 (by first | exact gz_ne rfl | decide))).trans (p197 79 k (fun q => absurd q.1 (by first | exact gz_ne rfl | decide)))) (by exact gz_m 131 (by omega)) (by exact gz_m 132 (by omega)) (by exact gz_m 133 (by omega)))
set_option maxHeartbeats 8000000 in
set_option maxRecDepth 100000 in
theorem r_guess_p {ws0 : List Cond} {tb : String → gz_T} (hws : ∀ w ∈ gr_ws, w ∈ ws0) (htb : tb RX13 = gr_T) (ext : gz_Sh) (I : gr_I) (J : gr_J) (hI : gr_Inv I) (a1 : Int) (ha1 : (-2147483648) ≤ a1 ∧ a1 ≤ 2147483647) (x0 : gr_KQ I) (x1 : (0 ≤ a1 ∧ a1 < I 0 1) → ∀ x : Int, fo_br I a1 x → fo_pr I a1 x < I 17 (Int.toNat a1)) : ∃ r hₚ, gz_Ev ws0 tb 7 (yX13_guess, cX13_guess, 8, (some .int)) [.inr (.inr (some 0)), .inl a1] (gr_sh ++ ext) (gr_h I J) r (gr_sh ++ ext) hₚ 0 0 ∧ (∃ (Iₚ : gr_I) (Jₚ : gr_J), hₚ = gr_h Iₚ Jₚ ∧ gr_Inv Iₚ ∧ gr_fr [0, 68, 69, 126, 127, 128, 136, 137, 138] [57, 76, 77, 78, 79, 81, 82] I Iₚ ∧ gr_fj [0, 68, 69, 126, 127, 128, 136, 137, 138] [57, 76, 77, 78, 79, 81, 82] J Jₚ ∧ (∃ z : Int, r = some (.inl z) ∧ (-3) ≤ z ∧ z ≤ 24 ∧ ((0 ≤ a1 ∧ a1 < I 0 1) → Iₚ 0 68 = 0) ∧ (¬ (0 ≤ a1 ∧ a1 < I 0 1) → Iₚ 0 68 = I 0 68) ∧ ((0 ≤ a1 ∧ a1 < I 0 1) → Iₚ 0 0 = 0) ∧ (¬ (0 ≤ a1 ∧ a1 < I 0 1) → Iₚ 0 0 = 1) ∧ (fo_uP I Iₚ a1 z) ∧ (fo_nB I Iₚ a1) ∧ (gr_KR I Iₚ))) := by
  have FI : gr_fr [0, 68, 69, 126, 127, 128, 136, 137, 138] [57, 76, 77, 78, 79, 81, 82] I I := fun _ _ _ => rfl
  have FJ : gr_fj [0, 68, 69, 126, 127, 128, 136, 137, 138] [57, 76, 77, 78, 79, 81, 82] J J := fun _ _ _ => rfl
  have hD : gv_D (gr_E ws0 tb 6 (yX13_guess, cX13_guess, 8, (some .int)) kX13_guess) := gq_of oX13_guess
  refine gr_ev (d := 6) (l := kX13_guess) (Po := fun r hₚ => (∃ (Iₚ : gr_I) (Jₚ : gr_J), hₚ = gr_h Iₚ Jₚ ∧ gr_Inv Iₚ ∧ gr_fr [0, 68, 69, 126, 127, 128, 136, 137, 138] [57, 76, 77, 78, 79, 81, 82] I Iₚ ∧ gr_fj [0, 68, 69, 126, 127, 128, 136, 137, 138] [57, 76, 77, 78, 79, 81, 82] J Jₚ ∧ (∃ z : Int, r = some (.inl z) ∧ (-3) ≤ z ∧ z ≤ 24 ∧ ((0 ≤ a1 ∧ a1 < I 0 1) → Iₚ 0 68 = 0) ∧ (¬ (0 ≤ a1 ∧ a1 < I 0 1) → Iₚ 0 68 = I 0 68) ∧ ((0 ≤ a1 ∧ a1 < I 0 1) → Iₚ 0 0 = 0) ∧ (¬ (0 ≤ a1 ∧ a1 < I 0 1) → Iₚ 0 0 = 1) ∧ (fo_uP I Iₚ a1 z) ∧ (fo_nB I Iₚ a1) ∧ (gr_KR I Iₚ)))) htb rfl (Nat.le_of_ble_eq_true rfl) ?_
  have hb9 : ∀ w : Int, fo_cr I a1 w ≤ 24 := fun w => (gr_b_31 hI _).2
  have y9 := x1
  have l_0 : fo_L0 I ≤ 4 ∧ fo_L0 I ≤ I 0 68 := ⟨fo_L0_b.1, fo_L0_b.2.1⟩
  have w_0 : 0 ≤ I 18 (Int.toNat a1) ∧ I 18 (Int.toNat a1) ≤ 64 := (hI 18 _).1
  have w_7 : 0 ≤ I 17 (Int.toNat a1) ∧ I 17 (Int.toNat a1) ≤ 24 := (hI 17 _).1
  have f1 := (gr_b_0_136 hI)
  have f2 := (gr_b_0_137 hI)
  have f3 := (gr_b_0_68 hI)
  have f4 := (gr_b_0_1 hI)
  have f5 := (gr_b_0_2 hI)
  have f6 := (gr_b_0_0 hI)
  have f7 := (gr_b_0_138 hI)
  have KKR_I : gr_KR I I := gr_KR_rf
  have L32 : ∀ (n : Nat) (I8 : gr_I) (J9 : gr_J) (v2_10 : Int) (v3_10 : Int), (25 - v3_10).toNat < n → gr_Inv I8 → gr_fr [0, 68, 69, 126, 127, 128, 136, 137, 138] [57, 76, 77, 78, 79, 81, 82] I I8 → gr_fj [0, 68, 69, 126, 127, 128, 136, 137, 138] [57, 76, 77, 78, 79, 81, 82] J J9 → gr_KR I I8 → ((0 ≤ a1 ∧ a1 ≤ 7) ∧ (0 ≤ v2_10 ∧ v2_10 ≤ 24) ∧ (0 ≤ v3_10 ∧ v3_10 ≤ 24) ∧ (I8 0 68 = 0) ∧ ((0 ≤ a1 ∧ a1 < I 0 1)) ∧ (v2_10 = I 0 68) ∧ (1 ≤ I 0 68 ∧ I 0 68 ≤ 24) ∧ (I8 0 136 = 0) ∧ (I8 0 0 = 0)) → (fo_a3 I I8 v3_10) → gv_X (gr_E ws0 tb 6 (yX13_guess, cX13_guess, 8, (some .int)) kX13_guess) (gv_Q cX13_guess (some .int) (gr_sh ++ ext) (fun r hₚ => (∃ (Iₚ : gr_I) (Jₚ : gr_J), hₚ = gr_h Iₚ Jₚ ∧ gr_Inv Iₚ ∧ gr_fr [0, 68, 69, 126, 127, 128, 136, 137, 138] [57, 76, 77, 78, 79, 81, 82] I Iₚ ∧ gr_fj [0, 68, 69, 126, 127, 128, 136, 137, 138] [57, 76, 77, 78, 79, 81, 82] J Jₚ ∧ (∃ z : Int, r = some (.inl z) ∧ (-3) ≤ z ∧ z ≤ 24 ∧ ((0 ≤ a1 ∧ a1 < I 0 1) → Iₚ 0 68 = 0) ∧ (¬ (0 ≤ a1 ∧ a1 < I 0 1) → Iₚ 0 68 = I 0 68) ∧ ((0 ≤ a1 ∧ a1 < I 0 1) → Iₚ 0 0 = 0) ∧ (¬ (0 ≤ a1 ∧ a1 < I 0 1) → Iₚ 0 0 = 1) ∧ (fo_uP I Iₚ a1 z) ∧ (fo_nB I Iₚ a1) ∧ (gr_KR I Iₚ))))) (32, [(0, .inr (.inr (some 0))), (1, .inl a1), (2, .inl v2_10), (3, .inl v3_10)], [], gr_sh ++ ext, gr_h I8 J9) := by
    intro n
    induction n with
    | zero => intro I8 J9 v2_10 v3_10 hn; exact gz_m 0 (by omega)
    | succ n ih32 =>
      intro I8 J9 v2_10 v3_10 hn hI8 FI8 FJ9 KKR_I8 m_10 e5_10
      obtain ⟨ha1_10, hv2_10, hv3_10, e0_10, e1_10, e2_10, e3_10, e4_10, e6_10⟩ := m_10
      have f11 := (gr_b_0_136 hI8)
      have f12 := (gr_b_0_137 hI8)
      have f13 := (gr_b_0_68 hI8)
      have f14 := (gr_b_0_1 hI8)
      have f15 := (gr_b_0_2 hI8)
      have f16 := (gr_b_0_0 hI8)
      have f17 := (gr_b_0_138 hI8)
      have t18 := FI8 18 (Int.toNat a1) rfl
      have t19 := FI8 17 (Int.toNat a1) rfl
      have L66 : ∀ (n : Nat) (I20 : gr_I) (J21 : gr_J) (v3_22 : Int), (v3_22 - (-1)).toNat < n → gr_Inv I20 → gr_fr [0, 68, 69, 126, 127, 128, 136, 137, 138] [57, 76, 77, 78, 79, 81, 82] I I20 → gr_fj [0, 68, 69, 126, 127, 128, 136, 137, 138] [57, 76, 77, 78, 79, 81, 82] J J21 → gr_KR I I20 → ((0 ≤ a1 ∧ a1 ≤ 7) ∧ (0 ≤ v2_10 ∧ v2_10 ≤ 24) ∧ (0 ≤ v3_22 ∧ v3_22 ≤ 4) ∧ (v3_22 ≤ v2_10) ∧ (I20 0 68 = 0) ∧ ((0 ≤ a1 ∧ a1 < I 0 1)) ∧ (v2_10 = I 0 68) ∧ (1 ≤ I 0 68 ∧ I 0 68 ≤ 24) ∧ (v3_22 ≤ fo_L0 I) ∧ (I20 0 0 = 0)) → (fo_g66 I I20 a1 v3_22) → gv_X (gr_E ws0 tb 6 (yX13_guess, cX13_guess, 8, (some .int)) kX13_guess) (gv_Q cX13_guess (some .int) (gr_sh ++ ext) (fun r hₚ => (∃ (Iₚ : gr_I) (Jₚ : gr_J), hₚ = gr_h Iₚ Jₚ ∧ gr_Inv Iₚ ∧ gr_fr [0, 68, 69, 126, 127, 128, 136, 137, 138] [57, 76, 77, 78, 79, 81, 82] I Iₚ ∧ gr_fj [0, 68, 69, 126, 127, 128, 136, 137, 138] [57, 76, 77, 78, 79, 81, 82] J Jₚ ∧ (∃ z : Int, r = some (.inl z) ∧ (-3) ≤ z ∧ z ≤ 24 ∧ ((0 ≤ a1 ∧ a1 < I 0 1) → Iₚ 0 68 = 0) ∧ (¬ (0 ≤ a1 ∧ a1 < I 0 1) → Iₚ 0 68 = I 0 68) ∧ ((0 ≤ a1 ∧ a1 < I 0 1) → Iₚ 0 0 = 0) ∧ (¬ (0 ≤ a1 ∧ a1 < I 0 1) → Iₚ 0 0 = 1) ∧ (fo_uP I Iₚ a1 z) ∧ (fo_nB I Iₚ a1) ∧ (gr_KR I Iₚ))))) (66, [(0, .inr (.inr (some 0))), (1, .inl a1), (2, .inl v2_10), (3, .inl v3_22)], [], gr_sh ++ ext, gr_h I20 J21) := r_guess_p_L66 (ws0 := ws0) (tb := tb) hws htb ext I J hI a1 ha1 x0 x1 v2_10
      refine gv_run 2 true hD (pcₚ := 34) (lvₚ := [(0, .inr (.inr (some 0))), (1, .inl a1), (2, .inl v2_10), (3, .inl v3_10)]) (stₚ := [.inl v2_10, .inl v3_10]) (hₚ := gr_h I8 J9) (C := ((True ∧ True) ∧ True)) rfl ⟨⟨trivial, trivial⟩, trivial⟩ ?_
      refine gv_icmp_ge (t := 55) hD rfl rfl ⟨⟨by exact gz_m 134 (by omega), by exact gz_m 135 (by omega)⟩, ⟨by exact gz_m 136 (by omega), by exact gz_m 137 (by omega)⟩⟩ (fun c230 => ?_) (fun c230 => ?_)
      · refine gv_run 2 true hD (pcₚ := 57) (lvₚ := [(0, .inr (.inr (some 0))), (1, .inl a1), (2, .inl v2_10), (3, .inl v3_10)]) (stₚ := [.inl a1, .inr (.inr (some 0))]) (hₚ := gr_h I8 J9) (C := ((True ∧ True) ∧ True)) rfl ⟨⟨trivial, trivial⟩, trivial⟩ ?_
        obtain ⟨r231, h231, E231, P231⟩ := r_forms_q (ws0 := ws0) (tb := tb) hws htb ext I8 J9 hI8 a1 ⟨by exact gz_m 138 (by omega), by exact gz_m 139 (by omega)⟩ (KKR_I8 x0) (by have h9 := FI8 0 1 rfl; exact gz_m 140 (by omega))
        obtain ⟨I232, J233, rfl, hI232, g231, k231, ⟨rfl, q231⟩⟩ := P231
        have FI232 := gr_frt FI8 g231 rfl rfl
        have FJ233 := gr_fjt FJ9 k231 rfl rfl
        have t234 := g231 0 136 rfl
        have t235 := g231 0 137 rfl
        have t236 := g231 0 68 rfl
        have t237 := g231 0 1 rfl
        have t238 := g231 0 2 rfl
        have t239 := g231 0 0 rfl
        have t240 := g231 0 138 rfl
        have f241 := (gr_b_0_136 hI232)
        have f242 := (gr_b_0_137 hI232)
        have f243 := (gr_b_0_68 hI232)
        have f244 := (gr_b_0_1 hI232)
        have f245 := (gr_b_0_2 hI232)
        have f246 := (gr_b_0_0 hI232)
        have f247 := (gr_b_0_138 hI232)
        have l231 := q231.1
        have KKR_I232 := gr_KR_tr KKR_I8 l231
        have M_9 := fo_L0_b (I := I)
        refine gv_callV hD rfl (As := [.inl a1]) (st := []) rfl (by decide) rfl rfl (gr_lV hws rfl) (Nat.le_of_ble_eq_true rfl) (gz_Ev_mono (d := 6) (by decide) E231) ?_
        show gv_X _ _ (60, [(0, .inr (.inr (some 0))), (1, .inl a1), (2, .inl v2_10), (3, .inl v3_10)], [], gr_sh ++ ext, gr_h I232 J233)
        refine gv_run 2 true hD (pcₚ := 62) (lvₚ := [(0, .inr (.inr (some 0))), (1, .inl a1), (2, .inl v2_10), (3, .inl v3_10)]) (stₚ := [.inl v2_10, .inl 4]) (hₚ := gr_h I232 J233) (C := ((True ∧ True) ∧ True)) rfl ⟨⟨trivial, trivial⟩, trivial⟩ ?_
        obtain ⟨z248, E248, q248⟩ := gj_min (ws0 := ws0) (tb := tb) (sh := gr_sh ++ ext) (h := gr_h I232 J233) 4 v2_10 ⟨by exact gz_m 141 (by omega), by exact gz_m 142 (by omega)⟩ ⟨by exact gz_m 143 (by omega), by exact gz_m 144 (by omega)⟩
        refine gv_callS hD rfl (As := [.inl 4, .inl v2_10]) (st := []) rfl (gr_lMi hws) (Nat.le_of_ble_eq_true rfl) (gz_Ev_mono (d := 1) (by decide) E248) ?_
        show gv_X _ _ (65, [(0, .inr (.inr (some 0))), (1, .inl a1), (2, .inl v2_10), (3, .inl v3_10)], [.inl z248], gr_sh ++ ext, gr_h I232 J233)
        refine gv_run 1 true hD (pcₚ := 66) (lvₚ := [(3, .inl z248), (0, .inr (.inr (some 0))), (1, .inl a1), (2, .inl v2_10)]) (stₚ := []) (hₚ := gr_h I232 J233) (C := (True ∧ True)) rfl ⟨trivial, trivial⟩ ?_
        refine gv_pick [1, 2, 3, 0] rfl ?_
        exact L66 _ I232 J233 z248 (Nat.lt_succ_self _) hI232 FI232 FJ233 KKR_I232 (by exact gz_m 145 (by omega)) (fo_g66_0 e5_10 (by exact gz_m 146 (by omega)) (fun j => g231 57 j rfl) (fo_tr_FR (fo_tr_sy (gr_kt_t (by decide) FI232)) q231.2 (fun _ => rfl) (fun _ => rfl)) (by exact gz_m 147 (by omega)) (by exact gz_m 148 (by omega)))
      · have f249 := (gr_b_76 hI8 (Int.toNat v3_10))
        refine gv_run 7 true hD (pcₚ := 48) (lvₚ := [(0, .inr (.inr (some 0))), (1, .inl a1), (2, .inl v2_10), (3, .inl v3_10)]) (stₚ := [.inl (I8 76 (Int.toNat v3_10)), .inl v3_10, .inr (.inr (some 57))]) (hₚ := gr_h I8 J9) (C := (((((((True ∧ True) ∧ True) ∧ True) ∧ True) ∧ True) ∧ True) ∧ (0 ≤ v3_10 ∧ v3_10 < ((64 : Nat) : Int)))) rfl ⟨⟨⟨⟨⟨⟨⟨trivial, trivial⟩, trivial⟩, trivial⟩, trivial⟩, trivial⟩, trivial⟩, ⟨by exact gz_m 149 (by omega), by exact gz_m 150 (by omega)⟩⟩ ?_
        have f250 := gw_nar_byte (x := ((I8 76 (Int.toNat v3_10))))
        refine gv_run 1 true hD (pcₚ := 49) (lvₚ := [(0, .inr (.inr (some 0))), (1, .inl a1), (2, .inl v2_10), (3, .inl v3_10)]) (stₚ := []) (hₚ := gz_up (gr_h I8 J9) 57 (Int.toNat v3_10) (.inl (((vp_nar .byte (Int32.ofInt ((I8 76 (Int.toNat v3_10))))).toInt)))) (C := (True ∧ (0 ≤ v3_10 ∧ v3_10 < ((1000 : Nat) : Int)))) rfl ⟨trivial, ⟨by exact gz_m 151 (by omega), by exact gz_m 152 (by omega)⟩⟩ ?_
        refine gr_st hI8 FI8 rfl rfl ⟨⟨by show (-128) ≤ _; exact gz_m 153 (by omega), by show _ ≤ 127; exact gz_m 154 (by omega)⟩, trivial⟩ (fun I251 hI251 FI251 q252 p252 => ?_)
        have t253 := p252 0 136 (fun q => absurd q.1 (by first | exact gz_ne rfl | decide))
        have t254 := p252 0 137 (fun q => absurd q.1 (by first | exact gz_ne rfl | decide))
        have t255 := p252 0 68 (fun q => absurd q.1 (by first | exact gz_ne rfl | decide))
        have t256 := p252 0 1 (fun q => absurd q.1 (by first | exact gz_ne rfl | decide))
        have t257 := p252 0 2 (fun q => absurd q.1 (by first | exact gz_ne rfl | decide))
        have t258 := p252 0 0 (fun q => absurd q.1 (by first | exact gz_ne rfl | decide))
        have t259 := p252 0 138 (fun q => absurd q.1 (by first | exact gz_ne rfl | decide))
        have f260 := (gr_b_0_136 hI251)
        have f261 := (gr_b_0_137 hI251)
        have f262 := (gr_b_0_68 hI251)
        have f263 := (gr_b_0_1 hI251)
        have f264 := (gr_b_0_2 hI251)
        have f265 := (gr_b_0_0 hI251)
        have f266 := (gr_b_0_138 hI251)
        have KKR_I251 := gr_KR_a (by decide) KKR_I8 p252 (by decide)
        have t267 := FI251 18 (Int.toNat a1) rfl
        have t268 := FI251 17 (Int.toNat a1) rfl
        refine gv_run 2 true hD (pcₚ := 32) (lvₚ := [(3, .inl (v3_10 + 1)), (0, .inr (.inr (some 0))), (1, .inl a1), (2, .inl v2_10)]) (stₚ := []) (hₚ := gr_h I251 J9) (C := ((True ∧ True) ∧ True)) rfl ⟨⟨trivial, trivial⟩, trivial⟩ ?_
        refine gv_pick [1, 2, 3, 0] rfl ?_
        exact ih32 I251 J9 v2_10 (v3_10 + 1) (by exact gz_m 155 (by omega)) hI251 FI251 FJ9 KKR_I251 (by exact gz_m 156 (by omega)) (fo_a3_s e5_10 (by exact gz_m 157 (by omega)) (by exact gz_m 158 (by omega)) rfl p252 (q252.trans (gc_nar ⟨by exact gz_m 159 (by omega), by exact gz_m 160 (by omega)⟩)))
  refine gv_run 2 true hD (pcₚ := 2) (lvₚ := [(0, .inr (.inr (some 0))), (1, .inl a1)]) (stₚ := [.inl a1, .inr (.inr (some 0))]) (hₚ := gr_h I J) (C := ((True ∧ True) ∧ True)) rfl ⟨⟨trivial, trivial⟩, trivial⟩ ?_
  obtain ⟨r269, h269, E269, P269⟩ := r_noTongue_z (ws0 := ws0) (tb := tb) hws htb ext I J hI a1 ⟨by exact gz_m 161 (by omega), by exact gz_m 162 (by omega)⟩ 
  obtain ⟨I270, J271, rfl, hI270, g269, k269, ⟨z269, rfl, q269⟩⟩ := P269
  have FI270 := gr_frt FI g269 rfl rfl
  have FJ271 := gr_fjt FJ k269 rfl rfl
  have t272 := g269 0 136 rfl
  have t273 := g269 0 137 rfl
  have t274 := g269 0 68 rfl
  have t275 := g269 0 1 rfl
  have t276 := g269 0 2 rfl
  have t277 := g269 0 138 rfl
  have f278 := (gr_b_0_136 hI270)
  have f279 := (gr_b_0_137 hI270)
  have f280 := (gr_b_0_68 hI270)
  have f281 := (gr_b_0_1 hI270)
  have f282 := (gr_b_0_2 hI270)
  have f283 := (gr_b_0_0 hI270)
  have f284 := (gr_b_0_138 hI270)
  have KKR_I270 := gr_KR_g KKR_I g269 (by decide)
  refine gv_callV hD rfl (As := [.inl a1]) (st := []) rfl (by decide) rfl rfl (gr_lV hws rfl) (Nat.le_of_ble_eq_true rfl) (gz_Ev_mono (d := 1) (by decide) E269) ?_
  show gv_X _ _ (5, [(0, .inr (.inr (some 0))), (1, .inl a1)], [.inl z269], gr_sh ++ ext, gr_h I270 J271)
  refine gv_if_eq (t := 10) hD rfl rfl ⟨by exact gz_m 163 (by omega), by exact gz_m 164 (by omega)⟩ (fun c285 => ?_) (fun c285 => ?_)
  · refine gv_run 3 true hD (pcₚ := 15) (lvₚ := [(0, .inr (.inr (some 0))), (1, .inl a1)]) (stₚ := []) (hₚ := gz_up (gr_h I270 J271) 0 136 (.inl 0)) (C := (((True ∧ True) ∧ True) ∧ True)) rfl ⟨⟨⟨trivial, trivial⟩, trivial⟩, trivial⟩ ?_
    refine gr_st hI270 FI270 rfl rfl ⟨⟨by show 0 ≤ _; exact gz_m 165 (by omega), by show _ ≤ 24; exact gz_m 166 (by omega)⟩, trivial⟩ (fun I286 hI286 FI286 q287 p287 => ?_)
    have t288 := p287 0 137 (by decide)
    have t289 := p287 0 68 (by decide)
    have t290 := p287 0 1 (by decide)
    have t291 := p287 0 2 (by decide)
    have t292 := p287 0 0 (by decide)
    have t293 := p287 0 138 (by decide)
    have f294 := (gr_b_0_136 hI286)
    have f295 := (gr_b_0_137 hI286)
    have f296 := (gr_b_0_68 hI286)
    have f297 := (gr_b_0_1 hI286)
    have f298 := (gr_b_0_2 hI286)
    have f299 := (gr_b_0_0 hI286)
    have f300 := (gr_b_0_138 hI286)
    have KKR_I286 := gr_KR_f KKR_I270 p287 (by decide)
    have t301 := FI286 18 (Int.toNat a1) rfl
    have t302 := FI286 17 (Int.toNat a1) rfl
    refine gv_run 1 true hD (pcₚ := 16) (lvₚ := [(0, .inr (.inr (some 0))), (1, .inl a1)]) (stₚ := [.inr (.inr (some 0))]) (hₚ := gr_h I286 J271) (C := (True ∧ True)) rfl ⟨trivial, trivial⟩ ?_
    obtain ⟨r303, h303, E303, P303⟩ := r_oneWord_p (ws0 := ws0) (tb := tb) hws htb ext I286 J271 hI286   
    obtain ⟨I304, J305, rfl, hI304, g303, k303, ⟨z303, rfl, q303⟩⟩ := P303
    have FI304 := gr_frt FI286 g303 rfl rfl
    have FJ305 := gr_fjt FJ271 k303 rfl rfl
    have t306 := g303 0 136 rfl
    have t307 := g303 0 137 rfl
    have t308 := g303 0 1 rfl
    have t309 := g303 0 2 rfl
    have t310 := g303 0 0 rfl
    have t311 := g303 0 138 rfl
    have f312 := (gr_b_0_136 hI304)
    have f313 := (gr_b_0_137 hI304)
    have f314 := (gr_b_0_68 hI304)
    have f315 := (gr_b_0_1 hI304)
    have f316 := (gr_b_0_2 hI304)
    have f317 := (gr_b_0_0 hI304)
    have f318 := (gr_b_0_138 hI304)
    have KKR_I304 := gr_KR_g KKR_I286 g303 (by decide)
    have O_9 : fo_OW I286 I304 z303 := q303.2.2.2
    have o_9 := fo_ow O_9
    refine gv_callV hD rfl (As := []) (st := []) rfl (by decide) rfl rfl (gr_lV hws rfl) (Nat.le_of_ble_eq_true rfl) (gz_Ev_mono (d := 2) (by decide) E303) ?_
    show gv_X _ _ (19, [(0, .inr (.inr (some 0))), (1, .inl a1)], [.inl z303], gr_sh ++ ext, gr_h I304 J305)
    refine gv_if_ne (t := 25) hD rfl rfl ⟨by exact gz_m 167 (by omega), by exact gz_m 168 (by omega)⟩ (fun c319 => ?_) (fun c319 => ?_)
    · have f320 := (gr_b_0_126 hI304)
      refine gv_run 5 true hD (pcₚ := 32) (lvₚ := [(3, .inl 0), (2, .inl (I304 0 126)), (0, .inr (.inr (some 0))), (1, .inl a1)]) (stₚ := []) (hₚ := gr_h I304 J305) (C := (((((True ∧ True) ∧ True) ∧ True) ∧ True) ∧ True)) rfl ⟨⟨⟨⟨⟨trivial, trivial⟩, trivial⟩, trivial⟩, trivial⟩, trivial⟩ ?_
      refine gv_pick [2, 3, 1, 0] rfl ?_
      exact L32 _ I304 J305 (I304 0 126) 0 (Nat.lt_succ_self _) hI304 FI304 FJ305 KKR_I304 (by exact gz_m 169 (by omega)) (fo_a3_0 O_9 (by exact gz_m 170 (by omega)) (by exact gz_m 171 (by omega)) (fun k => FI286 56 k rfl))
    · refine gv_run 1 true hD (pcₚ := 24) (lvₚ := [(0, .inr (.inr (some 0))), (1, .inl a1)]) (stₚ := [.inl (-3)]) (hₚ := gr_h I304 J305) (C := (True ∧ True)) rfl ⟨trivial, trivial⟩ ?_
      have b321 : ((0 ≤ a1 ∧ a1 < I 0 1) → I304 0 68 = 0) ∧ (¬ (0 ≤ a1 ∧ a1 < I 0 1) → I304 0 68 = I 0 68) ∧ ((0 ≤ a1 ∧ a1 < I 0 1) → I304 0 0 = 0) ∧ (¬ (0 ≤ a1 ∧ a1 < I 0 1) → I304 0 0 = 1) := by exact gz_m 172 (by omega)
      exact gv_iret hD rfl ⟨I304, J305, rfl, hI304, FI304, FJ305, ⟨_, rfl, by exact gz_m 173 (by omega), by exact gz_m 174 (by omega), b321.1, b321.2.1, b321.2.2.1, b321.2.2.2, (fun _ => Or.inr ⟨fo_ow_n O_9 (by exact gz_m 175 (by omega)) (by exact gz_m 176 (by omega)) (fun k => FI286 56 k rfl), rfl, by exact gz_m 177 (by omega)⟩), (fun h9 => absurd (by exact gz_m 178 (by omega)) h9), KKR_I304⟩⟩
  · refine gv_run 1 true hD (pcₚ := 9) (lvₚ := [(0, .inr (.inr (some 0))), (1, .inl a1)]) (stₚ := [.inl 0]) (hₚ := gr_h I270 J271) (C := (True ∧ True)) rfl ⟨trivial, trivial⟩ ?_
    have b322 : ((0 ≤ a1 ∧ a1 < I 0 1) → I270 0 68 = 0) ∧ (¬ (0 ≤ a1 ∧ a1 < I 0 1) → I270 0 68 = I 0 68) ∧ ((0 ≤ a1 ∧ a1 < I 0 1) → I270 0 0 = 0) ∧ (¬ (0 ≤ a1 ∧ a1 < I 0 1) → I270 0 0 = 1) := by exact gz_m 179 (by omega)
    exact gv_iret hD rfl ⟨I270, J271, rfl, hI270, FI270, FJ271, ⟨_, rfl, by exact gz_m 180 (by omega), by exact gz_m 181 (by omega), b322.1, b322.2.1, b322.2.2.1, b322.2.2.2, (fun h9 => absurd h9 (by exact gz_m 182 (by omega))), (fun _ => ⟨g269 0 136 rfl, g269 0 137 rfl, g269 0 138 rfl, fun k => g269 81 k rfl, fun k => g269 82 k rfl⟩), KKR_I270⟩⟩
