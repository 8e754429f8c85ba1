set_option maxHeartbeats 8000000 in
set_option maxRecDepth 100000 in
theorem r_isForm_57_p {ws0 : List Cond} {tb : String → gz_T} (hws : ∀ w ∈ gr_ws, w ∈ ws0) (htb : tb RX13 = gr_T) (ext : gz_Sh) (I : gr_I) (J : gr_J) (hI : gr_Inv I) (a1 : Int) (a3 : Int) (a4 : Int) (ha1 : 0 ≤ a1 ∧ a1 ≤ 1535) (ha3 : 0 ≤ a3 ∧ a3 ≤ 1000) (ha4 : 0 ≤ a4 ∧ a4 ≤ 24) (x0 : a3 + a4 ≤ 1000) : ∃ r hₚ, gz_Ev ws0 tb 1 (yX13_isForm, cX13_isForm, 6, (some .boolean)) [.inr (.inr (some 0)), .inl a1, .inr (.inr (some 57)), .inl a3, .inl a4] (gr_sh ++ ext) (gr_h I J) r (gr_sh ++ ext) hₚ 0 0 ∧ (hₚ = gr_h I J ∧ (∃ z : Int, r = some (.inl z) ∧ 0 ≤ z ∧ z ≤ 1 ∧ ((z = 1 ∧ fo_if I 57 a1 a3 a4) ∨ (z = 0 ∧ ¬ fo_if I 57 a1 a3 a4)))) := by
  have hD : gv_D (gr_E ws0 tb 0 (yX13_isForm, cX13_isForm, 6, (some .boolean)) kX13_isForm) := gq_of oX13_isForm
  refine gr_ev (d := 0) (l := kX13_isForm) (Po := fun r hₚ => (hₚ = gr_h I J ∧ (∃ z : Int, r = some (.inl z) ∧ 0 ≤ z ∧ z ≤ 1 ∧ ((z = 1 ∧ fo_if I 57 a1 a3 a4) ∨ (z = 0 ∧ ¬ fo_if I 57 a1 a3 a4))))) htb rfl (Nat.le_of_ble_eq_true rfl) ?_
  have L16 : ∀ (n : Nat) (v5_1 : Int), (25 - v5_1).toNat < n → ((0 ≤ a1 ∧ a1 ≤ 1535) ∧ (0 ≤ a3 ∧ a3 ≤ 1000) ∧ (0 ≤ a4 ∧ a4 ≤ 24) ∧ (0 ≤ v5_1 ∧ v5_1 ≤ 24) ∧ (a3 + a4 ≤ 1000)) → (I 79 (Int.toNat a1) = a4 ∧ ∀ j : Nat, (j : Int) < v5_1 → I 78 (Int.toNat (24 * a1) + j) = I 57 (Int.toNat a3 + j)) → gv_X (gr_E ws0 tb 0 (yX13_isForm, cX13_isForm, 6, (some .boolean)) kX13_isForm) (gv_Q cX13_isForm (some .boolean) (gr_sh ++ ext) (fun r hₚ => (hₚ = gr_h I J ∧ (∃ z : Int, r = some (.inl z) ∧ 0 ≤ z ∧ z ≤ 1 ∧ ((z = 1 ∧ fo_if I 57 a1 a3 a4) ∨ (z = 0 ∧ ¬ fo_if I 57 a1 a3 a4)))))) (16, [(0, .inr (.inr (some 0))), (1, .inl a1), (2, .inr (.inr (some 57))), (3, .inl a3), (4, .inl a4), (5, .inl v5_1)], [], gr_sh ++ ext, gr_h I J) := by
    intro n
    induction n with
    | zero => intro v5_1 hn; exact gz_m 0 (by omega)
    | succ n ih16 =>
      intro v5_1 hn m_1 k_1
      obtain ⟨ha1_1, ha3_1, ha4_1, hv5_1, e0_1⟩ := m_1
      refine gv_run 2 true hD (pcₚ := 20) (lvₚ := [(0, .inr (.inr (some 0))), (1, .inl a1), (2, .inr (.inr (some 57))), (3, .inl a3), (4, .inl a4), (5, .inl v5_1)]) (stₚ := [.inl a4, .inl v5_1]) (hₚ := gr_h I J) (C := ((True ∧ True) ∧ True)) rfl ⟨⟨trivial, trivial⟩, trivial⟩ ?_
      refine gv_icmp_ge (t := 52) hD rfl rfl ⟨⟨by exact gz_m 1 (by omega), by exact gz_m 2 (by omega)⟩, ⟨by exact gz_m 3 (by omega), by exact gz_m 4 (by omega)⟩⟩ (fun c2 => ?_) (fun c2 => ?_)
      · refine gv_run 1 true hD (pcₚ := 53) (lvₚ := [(0, .inr (.inr (some 0))), (1, .inl a1), (2, .inr (.inr (some 57))), (3, .inl a3), (4, .inl a4), (5, .inl v5_1)]) (stₚ := [.inl 1]) (hₚ := gr_h I J) (C := (True ∧ True)) rfl ⟨trivial, trivial⟩ ?_
        exact gv_zret hD rfl (by exact gz_m 5 (by omega)) ⟨rfl, ⟨_, rfl, by exact gz_m 6 (by omega), by exact gz_m 7 (by omega), Or.inl ⟨rfl, k_1.1, fun j hj => k_1.2 j (by exact gz_m 8 (by omega))⟩⟩⟩
      · refine gv_run 7 true hD (pcₚ := 34) (lvₚ := [(0, .inr (.inr (some 0))), (1, .inl a1), (2, .inr (.inr (some 57))), (3, .inl a3), (4, .inl a4), (5, .inl v5_1)]) (stₚ := [.inl ((24 * a1) + v5_1), .inr (.inr (some 78))]) (hₚ := gr_h I J) (C := (((((((True ∧ True) ∧ True) ∧ True) ∧ True) ∧ True) ∧ True) ∧ True)) rfl ⟨⟨⟨⟨⟨⟨⟨trivial, trivial⟩, trivial⟩, trivial⟩, trivial⟩, trivial⟩, trivial⟩, trivial⟩ ?_
        have f3 := (gr_b_78 hI (Int.toNat (((24 * a1) + v5_1))))
        refine gv_run 1 true hD (pcₚ := 35) (lvₚ := [(0, .inr (.inr (some 0))), (1, .inl a1), (2, .inr (.inr (some 57))), (3, .inl a3), (4, .inl a4), (5, .inl v5_1)]) (stₚ := [.inl (I 78 (Int.toNat (((24 * a1) + v5_1))))]) (hₚ := gr_h I J) (C := (True ∧ (0 ≤ (((24 * a1) + v5_1)) ∧ (((24 * a1) + v5_1)) < ((36864 : Nat) : Int)))) rfl ⟨trivial, ⟨by exact gz_m 9 (by omega), by exact gz_m 10 (by omega)⟩⟩ ?_
        have f4 := (gr_b_57 hI (Int.toNat ((a3 + v5_1))))
        refine gv_run 5 true hD (pcₚ := 41) (lvₚ := [(0, .inr (.inr (some 0))), (1, .inl a1), (2, .inr (.inr (some 57))), (3, .inl a3), (4, .inl a4), (5, .inl v5_1)]) (stₚ := [.inl (I 57 (Int.toNat ((a3 + v5_1)))), .inl (I 78 (Int.toNat (((24 * a1) + v5_1))))]) (hₚ := gr_h I J) (C := (((((True ∧ True) ∧ True) ∧ True) ∧ True) ∧ (0 ≤ (a3 + v5_1) ∧ (a3 + v5_1) < ((1000 : Nat) : Int)))) rfl ⟨⟨⟨⟨⟨trivial, trivial⟩, trivial⟩, trivial⟩, trivial⟩, ⟨by exact gz_m 11 (by omega), by exact gz_m 12 (by omega)⟩⟩ ?_
        refine gv_icmp_eq (t := 46) hD rfl rfl ⟨⟨by exact gz_m 13 (by omega), by exact gz_m 14 (by omega)⟩, ⟨by exact gz_m 15 (by omega), by exact gz_m 16 (by omega)⟩⟩ (fun c5 => ?_) (fun c5 => ?_)
        · refine gv_run 2 true hD (pcₚ := 16) (lvₚ := [(5, .inl (v5_1 + 1)), (0, .inr (.inr (some 0))), (1, .inl a1), (2, .inr (.inr (some 57))), (3, .inl a3), (4, .inl a4)]) (stₚ := []) (hₚ := gr_h I J) (C := ((True ∧ True) ∧ True)) rfl ⟨⟨trivial, trivial⟩, trivial⟩ ?_
          refine gv_pick [1, 2, 3, 4, 5, 0] rfl ?_
          exact ih16 (v5_1 + 1) (by exact gz_m 17 (by omega)) (by exact gz_m 18 (by omega)) ⟨k_1.1, fun j hj => if e9 : (j : Int) = v5_1 then (by rw [show Int.toNat (24 * a1) + j = Int.toNat (((24 * a1) + v5_1)) from by exact gz_m 19 (by omega), show Int.toNat a3 + j = Int.toNat ((a3 + v5_1)) from by exact gz_m 20 (by omega)]; exact c5) else k_1.2 j (by exact gz_m 21 (by omega))⟩
        · refine gv_run 1 true hD (pcₚ := 45) (lvₚ := [(0, .inr (.inr (some 0))), (1, .inl a1), (2, .inr (.inr (some 57))), (3, .inl a3), (4, .inl a4), (5, .inl v5_1)]) (stₚ := [.inl 0]) (hₚ := gr_h I J) (C := (True ∧ True)) rfl ⟨trivial, trivial⟩ ?_
          exact gv_zret hD rfl (by exact gz_m 22 (by omega)) ⟨rfl, ⟨_, rfl, by exact gz_m 23 (by omega), by exact gz_m 24 (by omega), Or.inr ⟨rfl, fun h9 => c5 (by have h8 := h9.2 (Int.toNat v5_1) (by exact gz_m 25 (by omega)); rw [show Int.toNat (24 * a1) + Int.toNat v5_1 = Int.toNat (((24 * a1) + v5_1)) from by exact gz_m 26 (by omega), show Int.toNat a3 + Int.toNat v5_1 = Int.toNat ((a3 + v5_1)) from by exact gz_m 27 (by omega)] at h8; exact h8)⟩⟩⟩
  have f6 := (gr_b_79 hI (Int.toNat a1))
  refine gv_run 4 true hD (pcₚ := 6) (lvₚ := [(0, .inr (.inr (some 0))), (1, .inl a1), (2, .inr (.inr (some 57))), (3, .inl a3), (4, .inl a4)]) (stₚ := [.inl (I 79 (Int.toNat a1))]) (hₚ := gr_h I J) (C := ((((True ∧ True) ∧ True) ∧ True) ∧ (0 ≤ a1 ∧ a1 < ((1536 : Nat) : Int)))) rfl ⟨⟨⟨⟨trivial, trivial⟩, trivial⟩, trivial⟩, ⟨by exact gz_m 28 (by omega), by exact gz_m 29 (by omega)⟩⟩ ?_
  refine gv_run 1 true hD (pcₚ := 8) (lvₚ := [(0, .inr (.inr (some 0))), (1, .inl a1), (2, .inr (.inr (some 57))), (3, .inl a3), (4, .inl a4)]) (stₚ := [.inl a4, .inl (I 79 (Int.toNat a1))]) (hₚ := gr_h I J) (C := (True ∧ True)) rfl ⟨trivial, trivial⟩ ?_
  refine gv_icmp_eq (t := 13) hD rfl rfl ⟨⟨by exact gz_m 30 (by omega), by exact gz_m 31 (by omega)⟩, ⟨by exact gz_m 32 (by omega), by exact gz_m 33 (by omega)⟩⟩ (fun c7 => ?_) (fun c7 => ?_)
  · refine gv_run 2 true hD (pcₚ := 16) (lvₚ := [(5, .inl 0), (0, .inr (.inr (some 0))), (1, .inl a1), (2, .inr (.inr (some 57))), (3, .inl a3), (4, .inl a4)]) (stₚ := []) (hₚ := gr_h I J) (C := ((True ∧ True) ∧ True)) rfl ⟨⟨trivial, trivial⟩, trivial⟩ ?_
    refine gv_pick [1, 2, 3, 4, 5, 0] rfl ?_
    exact L16 _ 0 (Nat.lt_succ_self _) (by exact gz_m 34 (by omega)) ⟨c7, fun j hj => absurd hj (by exact gz_m 35 (by omega))⟩
  · refine gv_run 1 true hD (pcₚ := 12) (lvₚ := [(0, .inr (.inr (some 0))), (1, .inl a1), (2, .inr (.inr (some 57))), (3, .inl a3), (4, .inl a4)]) (stₚ := [.inl 0]) (hₚ := gr_h I J) (C := (True ∧ True)) rfl ⟨trivial, trivial⟩ ?_
    exact gv_zret hD rfl (by exact gz_m 36 (by omega)) ⟨rfl, ⟨_, rfl, by exact gz_m 37 (by omega), by exact gz_m 38 (by omega), Or.inr ⟨rfl, fun h9 => c7 h9.1⟩⟩⟩
set_option maxHeartbeats 8000000 in
set_option maxRecDepth 100000 in
theorem r_analyse_p {ws0 : List Cond} {tb : String → gz_T} (hws : ∀ w ∈ gr_ws, w ∈ ws0) (htb : tb RX13 = gr_T) (ext : gz_Sh) (I : gr_I) (J : gr_J) (hI : gr_Inv I) (a1 : Int) (ha1 : (-2147483648) ≤ a1 ∧ a1 ≤ 2147483647) (x0 : gr_KQ I) : ∃ r hₚ, gz_Ev ws0 tb 7 (yX13_analyse, cX13_analyse, 5, (some .int)) [.inr (.inr (some 0)), .inl a1] (gr_sh ++ ext) (gr_h I J) r (gr_sh ++ ext) hₚ 0 0 ∧ (∃ (Iₚ : gr_I) (Jₚ : gr_J), hₚ = gr_h Iₚ Jₚ ∧ gr_Inv Iₚ ∧ gr_fr [0, 68, 69, 126, 127, 128, 132, 133] [57, 76, 77, 78, 79, 80] I Iₚ ∧ gr_fj [0, 68, 69, 126, 127, 128, 132, 133] [57, 76, 77, 78, 79, 80] J Jₚ ∧ (∃ z : Int, r = some (.inl z) ∧ (-3) ≤ z ∧ z ≤ 1536 ∧ ((0 ≤ a1 ∧ a1 < I 0 1) → Iₚ 0 68 = 0) ∧ (¬ (0 ≤ a1 ∧ a1 < I 0 1) → Iₚ 0 68 = I 0 68) ∧ ((0 ≤ a1 ∧ a1 < I 0 1) → Iₚ 0 0 = 0) ∧ (¬ (0 ≤ a1 ∧ a1 < I 0 1) → Iₚ 0 0 = 1) ∧ (fo_aP I Iₚ a1 z) ∧ (fo_nA I Iₚ a1) ∧ (gr_KR I Iₚ))) := by
  have FI : gr_fr [0, 68, 69, 126, 127, 128, 132, 133] [57, 76, 77, 78, 79, 80] I I := fun _ _ _ => rfl
  have FJ : gr_fj [0, 68, 69, 126, 127, 128, 132, 133] [57, 76, 77, 78, 79, 80] J J := fun _ _ _ => rfl
  have hD : gv_D (gr_E ws0 tb 6 (yX13_analyse, cX13_analyse, 5, (some .int)) kX13_analyse) := gq_of oX13_analyse
  refine gr_ev (d := 6) (l := kX13_analyse) (Po := fun r hₚ => (∃ (Iₚ : gr_I) (Jₚ : gr_J), hₚ = gr_h Iₚ Jₚ ∧ gr_Inv Iₚ ∧ gr_fr [0, 68, 69, 126, 127, 128, 132, 133] [57, 76, 77, 78, 79, 80] I Iₚ ∧ gr_fj [0, 68, 69, 126, 127, 128, 132, 133] [57, 76, 77, 78, 79, 80] J Jₚ ∧ (∃ z : Int, r = some (.inl z) ∧ (-3) ≤ z ∧ z ≤ 1536 ∧ ((0 ≤ a1 ∧ a1 < I 0 1) → Iₚ 0 68 = 0) ∧ (¬ (0 ≤ a1 ∧ a1 < I 0 1) → Iₚ 0 68 = I 0 68) ∧ ((0 ≤ a1 ∧ a1 < I 0 1) → Iₚ 0 0 = 0) ∧ (¬ (0 ≤ a1 ∧ a1 < I 0 1) → Iₚ 0 0 = 1) ∧ (fo_aP I Iₚ a1 z) ∧ (fo_nA I Iₚ a1) ∧ (gr_KR I Iₚ)))) htb rfl (Nat.le_of_ble_eq_true rfl) ?_
  have hb9 : ∀ w : Int, fo_cr I a1 w ≤ 24 := fun w => (gr_b_31 hI _).2
  have f1 := (gr_b_0_132 hI)
  have f2 := (gr_b_0_68 hI)
  have f3 := (gr_b_0_1 hI)
  have f4 := (gr_b_0_2 hI)
  have f5 := (gr_b_0_0 hI)
  have f6 := (gr_b_0_133 hI)
  have KKR_I : gr_KR I I := gr_KR_rf
  have L32 : ∀ (n : Nat) (I7 : gr_I) (J8 : gr_J) (v2_9 : Int) (v3_9 : Int), (25 - v3_9).toNat < n → gr_Inv I7 → gr_fr [0, 68, 69, 126, 127, 128, 132, 133] [57, 76, 77, 78, 79, 80] I I7 → gr_fj [0, 68, 69, 126, 127, 128, 132, 133] [57, 76, 77, 78, 79, 80] J J8 → gr_KR I I7 → ((0 ≤ a1 ∧ a1 ≤ 7) ∧ (0 ≤ v2_9 ∧ v2_9 ≤ 24) ∧ (0 ≤ v3_9 ∧ v3_9 ≤ 24) ∧ (I7 0 132 = 0) ∧ (I7 0 68 = 0) ∧ ((0 ≤ a1 ∧ a1 < I 0 1)) ∧ (v2_9 = I 0 68) ∧ (1 ≤ I 0 68 ∧ I 0 68 ≤ 24) ∧ (I7 0 0 = 0)) → (fo_a3 I I7 v3_9) → gv_X (gr_E ws0 tb 6 (yX13_analyse, cX13_analyse, 5, (some .int)) kX13_analyse) (gv_Q cX13_analyse (some .int) (gr_sh ++ ext) (fun r hₚ => (∃ (Iₚ : gr_I) (Jₚ : gr_J), hₚ = gr_h Iₚ Jₚ ∧ gr_Inv Iₚ ∧ gr_fr [0, 68, 69, 126, 127, 128, 132, 133] [57, 76, 77, 78, 79, 80] I Iₚ ∧ gr_fj [0, 68, 69, 126, 127, 128, 132, 133] [57, 76, 77, 78, 79, 80] J Jₚ ∧ (∃ z : Int, r = some (.inl z) ∧ (-3) ≤ z ∧ z ≤ 1536 ∧ ((0 ≤ a1 ∧ a1 < I 0 1) → Iₚ 0 68 = 0) ∧ (¬ (0 ≤ a1 ∧ a1 < I 0 1) → Iₚ 0 68 = I 0 68) ∧ ((0 ≤ a1 ∧ a1 < I 0 1) → Iₚ 0 0 = 0) ∧ (¬ (0 ≤ a1 ∧ a1 < I 0 1) → Iₚ 0 0 = 1) ∧ (fo_aP I Iₚ a1 z) ∧ (fo_nA I Iₚ a1) ∧ (gr_KR I Iₚ))))) (32, [(0, .inr (.inr (some 0))), (1, .inl a1), (2, .inl v2_9), (3, .inl v3_9)], [], gr_sh ++ ext, gr_h I7 J8) := by
    intro n
    induction n with
    | zero => intro I7 J8 v2_9 v3_9 hn; exact gz_m 0 (by omega)
    | succ n ih32 =>
      intro I7 J8 v2_9 v3_9 hn hI7 FI7 FJ8 KKR_I7 m_9 e5_9
      obtain ⟨ha1_9, hv2_9, hv3_9, e0_9, e1_9, e2_9, e3_9, e4_9, e6_9⟩ := m_9
      have f10 := (gr_b_0_132 hI7)
      have f11 := (gr_b_0_68 hI7)
      have f12 := (gr_b_0_1 hI7)
      have f13 := (gr_b_0_2 hI7)
      have f14 := (gr_b_0_0 hI7)
      have f15 := (gr_b_0_133 hI7)
      have t16 := FI7 18 (Int.toNat a1) rfl
      have L67 : ∀ (n : Nat) (I17 : gr_I) (J18 : gr_J) (v3_19 : Int), (65 - v3_19).toNat < n → gr_Inv I17 → gr_fr [0, 68, 69, 126, 127, 128, 132, 133] [57, 76, 77, 78, 79, 80] I I17 → gr_fj [0, 68, 69, 126, 127, 128, 132, 133] [57, 76, 77, 78, 79, 80] J J18 → gr_KR I I17 → ((0 ≤ a1 ∧ a1 ≤ 7) ∧ (0 ≤ v2_9 ∧ v2_9 ≤ 24) ∧ (0 ≤ v3_19 ∧ v3_19 ≤ 64) ∧ (I17 0 132 ≤ 24 * v3_19) ∧ (I17 0 68 = 0) ∧ ((0 ≤ a1 ∧ a1 < I 0 1)) ∧ (v2_9 = I 0 68) ∧ (1 ≤ I 0 68 ∧ I 0 68 ≤ 24) ∧ (I17 0 133 = a1) ∧ (I17 0 0 = 0)) → (fo_aA I I17 a1 (Int.toNat (24 * v3_19))) → gv_X (gr_E ws0 tb 6 (yX13_analyse, cX13_analyse, 5, (some .int)) kX13_analyse) (gv_Q cX13_analyse (some .int) (gr_sh ++ ext) (fun r hₚ => (∃ (Iₚ : gr_I) (Jₚ : gr_J), hₚ = gr_h Iₚ Jₚ ∧ gr_Inv Iₚ ∧ gr_fr [0, 68, 69, 126, 127, 128, 132, 133] [57, 76, 77, 78, 79, 80] I Iₚ ∧ gr_fj [0, 68, 69, 126, 127, 128, 132, 133] [57, 76, 77, 78, 79, 80] J Jₚ ∧ (∃ z : Int, r = some (.inl z) ∧ (-3) ≤ z ∧ z ≤ 1536 ∧ ((0 ≤ a1 ∧ a1 < I 0 1) → Iₚ 0 68 = 0) ∧ (¬ (0 ≤ a1 ∧ a1 < I 0 1) → Iₚ 0 68 = I 0 68) ∧ ((0 ≤ a1 ∧ a1 < I 0 1) → Iₚ 0 0 = 0) ∧ (¬ (0 ≤ a1 ∧ a1 < I 0 1) → Iₚ 0 0 = 1) ∧ (fo_aP I Iₚ a1 z) ∧ (fo_nA I Iₚ a1) ∧ (gr_KR I Iₚ))))) (67, [(0, .inr (.inr (some 0))), (1, .inl a1), (2, .inl v2_9), (3, .inl v3_19)], [], gr_sh ++ ext, gr_h I17 J18) := by
        intro n
        induction n with
        | zero => intro I17 J18 v3_19 hn; exact gz_m 1 (by omega)
        | succ n ih67 =>
          intro I17 J18 v3_19 hn hI17 FI17 FJ18 KKR_I17 m_19 e6_19
          clear ha1_9 hv2_9 hv3_9 e0_9 e1_9 e2_9 e3_9 e4_9 e6_9 f10 f11 f12 f13 f14 f15 t16
          obtain ⟨ha1_19, hv2_9_19, hv3_19, e0_19, e1_19, e2_19, e3_19, e4_19, e5_19, e7_19⟩ := m_19
          have f20 := (gr_b_0_132 hI17)
          have f21 := (gr_b_0_68 hI17)
          have f22 := (gr_b_0_1 hI17)
          have f23 := (gr_b_0_2 hI17)
          have f24 := (gr_b_0_0 hI17)
          have f25 := (gr_b_0_133 hI17)
          have t26 := FI17 18 (Int.toNat a1) rfl
          have L80 : ∀ (n : Nat) (I27 : gr_I) (J28 : gr_J) (v4_29 : Int), (25 - v4_29).toNat < n → gr_Inv I27 → gr_fr [0, 68, 69, 126, 127, 128, 132, 133] [57, 76, 77, 78, 79, 80] I I27 → gr_fj [0, 68, 69, 126, 127, 128, 132, 133] [57, 76, 77, 78, 79, 80] J J28 → gr_KR I I27 → ((0 ≤ a1 ∧ a1 ≤ 7) ∧ (0 ≤ v2_9 ∧ v2_9 ≤ 24) ∧ (0 ≤ v3_19 ∧ v3_19 ≤ 63) ∧ (0 ≤ v4_29 ∧ v4_29 ≤ 24) ∧ (I27 0 132 ≤ 24 * v3_19 + v4_29) ∧ (I27 0 68 = 0) ∧ ((0 ≤ a1 ∧ a1 < I 0 1)) ∧ (v2_9 = I 0 68) ∧ (1 ≤ I 0 68 ∧ I 0 68 ≤ 24) ∧ (I27 0 133 = a1) ∧ (v3_19 < I 18 (Int.toNat a1)) ∧ (I27 0 0 = 0)) → (fo_aA I I27 a1 (Int.toNat (24 * v3_19 + v4_29))) → gv_X (gr_E ws0 tb 6 (yX13_analyse, cX13_analyse, 5, (some .int)) kX13_analyse) (gv_Q cX13_analyse (some .int) (gr_sh ++ ext) (fun r hₚ => (∃ (Iₚ : gr_I) (Jₚ : gr_J), hₚ = gr_h Iₚ Jₚ ∧ gr_Inv Iₚ ∧ gr_fr [0, 68, 69, 126, 127, 128, 132, 133] [57, 76, 77, 78, 79, 80] I Iₚ ∧ gr_fj [0, 68, 69, 126, 127, 128, 132, 133] [57, 76, 77, 78, 79, 80] J Jₚ ∧ (∃ z : Int, r = some (.inl z) ∧ (-3) ≤ z ∧ z ≤ 1536 ∧ ((0 ≤ a1 ∧ a1 < I 0 1) → Iₚ 0 68 = 0) ∧ (¬ (0 ≤ a1 ∧ a1 < I 0 1) → Iₚ 0 68 = I 0 68) ∧ ((0 ≤ a1 ∧ a1 < I 0 1) → Iₚ 0 0 = 0) ∧ (¬ (0 ≤ a1 ∧ a1 < I 0 1) → Iₚ 0 0 = 1) ∧ (fo_aP I Iₚ a1 z) ∧ (fo_nA I Iₚ a1) ∧ (gr_KR I Iₚ))))) (80, [(0, .inr (.inr (some 0))), (1, .inl a1), (2, .inl v2_9), (3, .inl v3_19), (4, .inl v4_29)], [], gr_sh ++ ext, gr_h I27 J28) := by
            intro n
            induction n with
            | zero => intro I27 J28 v4_29 hn; exact gz_m 2 (by omega)
            | succ n ih80 =>
              intro I27 J28 v4_29 hn hI27 FI27 FJ28 KKR_I27 m_29 e7_29
              clear ha1_19 hv2_9_19 hv3_19 e0_19 e1_19 e2_19 e3_19 e4_19 e5_19 e7_19 f20 f21 f22 f23 f24 f25 t26
              obtain ⟨ha1_29, hv2_9_29, hv3_19_29, hv4_29, e0_29, e1_29, e2_29, e3_29, e4_29, e5_29, e6_29, e8_29⟩ := m_29
              have f30 := (gr_b_0_132 hI27)
              have f31 := (gr_b_0_68 hI27)
              have f32 := (gr_b_0_1 hI27)
              have f33 := (gr_b_0_2 hI27)
              have f34 := (gr_b_0_0 hI27)
              have f35 := (gr_b_0_133 hI27)
              have t36 := FI27 18 (Int.toNat a1) rfl
              have L134 : ∀ (I37 : gr_I) (J38 : gr_J) , gr_Inv I37 → gr_fr [0, 68, 69, 126, 127, 128, 132, 133] [57, 76, 77, 78, 79, 80] I I37 → gr_fj [0, 68, 69, 126, 127, 128, 132, 133] [57, 76, 77, 78, 79, 80] J J38 → gr_KR I I37 → ((0 ≤ a1 ∧ a1 ≤ 7) ∧ (0 ≤ v2_9 ∧ v2_9 ≤ 24) ∧ (0 ≤ v3_19 ∧ v3_19 ≤ 63) ∧ (0 ≤ v4_29 ∧ v4_29 ≤ 23) ∧ (I37 0 132 ≤ 24 * v3_19 + v4_29 + 1) ∧ (I37 0 68 = 0) ∧ ((0 ≤ a1 ∧ a1 < I 0 1)) ∧ (v2_9 = I 0 68) ∧ (1 ≤ I 0 68 ∧ I 0 68 ≤ 24) ∧ (I37 0 133 = a1) ∧ (v3_19 < I 18 (Int.toNat a1)) ∧ (I37 0 0 = 0)) → (fo_aA I I37 a1 (Int.toNat (24 * v3_19 + v4_29) + 1)) → gv_X (gr_E ws0 tb 6 (yX13_analyse, cX13_analyse, 5, (some .int)) kX13_analyse) (gv_Q cX13_analyse (some .int) (gr_sh ++ ext) (fun r hₚ => (∃ (Iₚ : gr_I) (Jₚ : gr_J), hₚ = gr_h Iₚ Jₚ ∧ gr_Inv Iₚ ∧ gr_fr [0, 68, 69, 126, 127, 128, 132, 133] [57, 76, 77, 78, 79, 80] I Iₚ ∧ gr_fj [0, 68, 69, 126, 127, 128, 132, 133] [57, 76, 77, 78, 79, 80] J Jₚ ∧ (∃ z : Int, r = some (.inl z) ∧ (-3) ≤ z ∧ z ≤ 1536 ∧ ((0 ≤ a1 ∧ a1 < I 0 1) → Iₚ 0 68 = 0) ∧ (¬ (0 ≤ a1 ∧ a1 < I 0 1) → Iₚ 0 68 = I 0 68) ∧ ((0 ≤ a1 ∧ a1 < I 0 1) → Iₚ 0 0 = 0) ∧ (¬ (0 ≤ a1 ∧ a1 < I 0 1) → Iₚ 0 0 = 1) ∧ (fo_aP I Iₚ a1 z) ∧ (fo_nA I Iₚ a1) ∧ (gr_KR I Iₚ))))) (134, [(0, .inr (.inr (some 0))), (1, .inl a1), (2, .inl v2_9), (3, .inl v3_19), (4, .inl v4_29)], [], gr_sh ++ ext, gr_h I37 J38) := by
                intro I37 J38 hI37 FI37 FJ38 KKR_I37 m_39 e7_39
                clear ha1_29 hv2_9_29 hv3_19_29 hv4_29 e0_29 e1_29 e2_29 e3_29 e4_29 e5_29 e6_29 e8_29 f30 f31 f32 f33 f34 f35 t36
                obtain ⟨ha1_39, hv2_9_39, hv3_19_39, hv4_29_39, e0_39, e1_39, e2_39, e3_39, e4_39, e5_39, e6_39, e8_39⟩ := m_39
                have f40 := (gr_b_0_132 hI37)
                have f41 := (gr_b_0_68 hI37)
                have f42 := (gr_b_0_1 hI37)
                have f43 := (gr_b_0_2 hI37)
                have f44 := (gr_b_0_0 hI37)
                have f45 := (gr_b_0_133 hI37)
                have t46 := FI37 18 (Int.toNat a1) rfl
                refine gv_run 2 true hD (pcₚ := 80) (lvₚ := [(4, .inl (v4_29 + 1)), (0, .inr (.inr (some 0))), (1, .inl a1), (2, .inl v2_9), (3, .inl v3_19)]) (stₚ := []) (hₚ := gr_h I37 J38) (C := ((True ∧ True) ∧ True)) rfl ⟨⟨trivial, trivial⟩, trivial⟩ ?_
                refine gv_pick [1, 2, 3, 4, 0] rfl ?_
                exact ih80 I37 J38 (v4_29 + 1) (by exact gz_m 3 (by omega)) hI37 FI37 FJ38 KKR_I37 (by exact gz_m 4 (by omega)) (fo_aA_m e7_39 (by exact gz_m 5 (by omega)))
              refine gv_run 4 true hD (pcₚ := 85) (lvₚ := [(0, .inr (.inr (some 0))), (1, .inl a1), (2, .inl v2_9), (3, .inl v3_19), (4, .inl v4_29)]) (stₚ := [.inl v3_19, .inl a1, .inr (.inr (some 0)), .inl v4_29]) (hₚ := gr_h I27 J28) (C := ((((True ∧ True) ∧ True) ∧ True) ∧ True)) rfl ⟨⟨⟨⟨trivial, trivial⟩, trivial⟩, trivial⟩, trivial⟩ ?_
              obtain ⟨r47, h47, E47, P47⟩ := r_cellsOf_z (ws0 := ws0) (tb := tb) hws htb ext I27 J28 hI27 a1 v3_19 ⟨by exact gz_m 6 (by omega), by exact gz_m 7 (by omega)⟩ ⟨by exact gz_m 8 (by omega), by exact gz_m 9 (by omega)⟩ 
              obtain ⟨rfl, ⟨z47, rfl, q47⟩⟩ := P47
              have W_9 : z47 = fo_cr I a1 v3_19 := (show z47 = fo_cr I27 a1 v3_19 from q47.2.2).trans (fo_cr_fr (fun k => FI27 37 k rfl) (fun k => FI27 31 k rfl))
              refine gv_callV hD rfl (As := [.inl a1, .inl v3_19]) (st := [.inl v4_29]) rfl (by decide) rfl rfl (gr_lV hws rfl) (Nat.le_of_ble_eq_true rfl) (gz_Ev_mono (d := 1) (by decide) E47) ?_
              show gv_X _ _ (88, [(0, .inr (.inr (some 0))), (1, .inl a1), (2, .inl v2_9), (3, .inl v3_19), (4, .inl v4_29)], [.inl z47, .inl v4_29], gr_sh ++ ext, gr_h I27 J28)
              refine gv_icmp_ge (t := 140) hD rfl rfl ⟨⟨by exact gz_m 10 (by omega), by exact gz_m 11 (by omega)⟩, ⟨by exact gz_m 12 (by omega), by exact gz_m 13 (by omega)⟩⟩ (fun c48 => ?_) (fun c48 => ?_)
              · refine gv_run 2 true hD (pcₚ := 67) (lvₚ := [(3, .inl (v3_19 + 1)), (0, .inr (.inr (some 0))), (1, .inl a1), (2, .inl v2_9), (4, .inl v4_29)]) (stₚ := []) (hₚ := gr_h I27 J28) (C := ((True ∧ True) ∧ True)) rfl ⟨⟨trivial, trivial⟩, trivial⟩ ?_
                refine gv_pick [1, 2, 3, 0] rfl ?_
                exact ih67 I27 J28 (v3_19 + 1) (by exact gz_m 14 (by omega)) hI27 FI27 FJ28 KKR_I27 (by exact gz_m 15 (by omega)) (fo_aA_n e7_29 rfl hb9 (by exact gz_m 16 (by omega)) (by exact gz_m 17 (by omega)) (by exact gz_m 18 (by omega)) rfl)
              · refine gv_run 7 true hD (pcₚ := 100) (lvₚ := [(0, .inr (.inr (some 0))), (1, .inl a1), (2, .inl v2_9), (3, .inl v3_19), (4, .inl v4_29)]) (stₚ := [.inr (.inr (some 0)), .inl ((24 * v3_19) + v4_29), .inr (.inr (some 0))]) (hₚ := gr_h I27 J28) (C := (((((((True ∧ True) ∧ True) ∧ True) ∧ True) ∧ True) ∧ True) ∧ True)) rfl ⟨⟨⟨⟨⟨⟨⟨trivial, trivial⟩, trivial⟩, trivial⟩, trivial⟩, trivial⟩, trivial⟩, trivial⟩ ?_
                refine gv_run 3 true hD (pcₚ := 105) (lvₚ := [(0, .inr (.inr (some 0))), (1, .inl a1), (2, .inl v2_9), (3, .inl v3_19), (4, .inl v4_29)]) (stₚ := [.inl v2_9, .inl 0, .inr (.inr (some 57)), .inl ((24 * v3_19) + v4_29), .inr (.inr (some 0))]) (hₚ := gr_h I27 J28) (C := (((True ∧ True) ∧ True) ∧ True)) rfl ⟨⟨⟨trivial, trivial⟩, trivial⟩, trivial⟩ ?_
                obtain ⟨r49, h49, E49, P49⟩ := r_isForm_57_p (ws0 := ws0) (tb := tb) hws htb ext I27 J28 hI27 (((24 * v3_19) + v4_29)) 0 v2_9 ⟨by exact gz_m 19 (by omega), by exact gz_m 20 (by omega)⟩ ⟨by exact gz_m 21 (by omega), by exact gz_m 22 (by omega)⟩ ⟨by exact gz_m 23 (by omega), by exact gz_m 24 (by omega)⟩ (by exact gz_m 25 (by omega))
                obtain ⟨rfl, ⟨z49, rfl, q49⟩⟩ := P49
                have F_9 := q49.2.2
                refine gv_callV hD rfl (As := [.inl ((24 * v3_19) + v4_29), .inr (.inr (some 57)), .inl 0, .inl v2_9]) (st := []) rfl (by decide) rfl rfl (gr_lV hws rfl) (Nat.le_of_ble_eq_true rfl) (gz_Ev_mono (d := 1) (by decide) E49) ?_
                show gv_X _ _ (108, [(0, .inr (.inr (some 0))), (1, .inl a1), (2, .inl v2_9), (3, .inl v3_19), (4, .inl v4_29)], [.inl z49], gr_sh ++ ext, gr_h I27 J28)
                refine gv_if_eq (t := 134) hD rfl rfl ⟨by exact gz_m 26 (by omega), by exact gz_m 27 (by omega)⟩ (fun c50 => ?_) (fun c50 => ?_)
                · exact L134 I27 J28 hI27 FI27 FJ28 KKR_I27 (by exact gz_m 28 (by omega)) (fo_aA_no e7_29 F_9 (by exact gz_m 29 (by omega)) rfl (by exact gz_m 30 (by omega)) (by exact gz_m 31 (by omega)) ⟨v3_19, v4_29, by exact gz_m 32 (by omega), by exact gz_m 33 (by omega), by exact gz_m 34 (by omega), by exact gz_m 35 (by omega), by exact gz_m 36 (by omega)⟩ rfl)
                · have f51 := (gr_b_0_132 hI27)
                  refine gv_run 7 true hD (pcₚ := 122) (lvₚ := [(0, .inr (.inr (some 0))), (1, .inl a1), (2, .inl v2_9), (3, .inl v3_19), (4, .inl v4_29)]) (stₚ := [.inl 1, .inl (I27 0 132), .inr (.inr (some 0)), .inl (I27 0 132), .inr (.inr (some 80))]) (hₚ := gr_h I27 J28) (C := (((((((True ∧ True) ∧ True) ∧ True) ∧ True) ∧ True) ∧ True) ∧ True)) rfl ⟨⟨⟨⟨⟨⟨⟨trivial, trivial⟩, trivial⟩, trivial⟩, trivial⟩, trivial⟩, trivial⟩, trivial⟩ ?_
                  refine gv_run 2 true hD (pcₚ := 126) (lvₚ := [(0, .inr (.inr (some 0))), (1, .inl a1), (2, .inl v2_9), (3, .inl v3_19), (4, .inl v4_29)]) (stₚ := [.inl (I27 0 132), .inr (.inr (some 80))]) (hₚ := gz_up (gr_h I27 J28) 0 132 (.inl (((I27 0 132) + 1)))) (C := ((True ∧ True) ∧ True)) rfl ⟨⟨trivial, trivial⟩, trivial⟩ ?_
                  refine gr_st hI27 FI27 rfl rfl ⟨⟨by show 0 ≤ _; exact gz_m 37 (by omega), by show _ ≤ 1536; exact gz_m 38 (by omega)⟩, trivial⟩ (fun I52 hI52 FI52 q53 p53 => ?_)
                  have t54 := p53 0 68 (by decide)
                  have t55 := p53 0 1 (by decide)
                  have t56 := p53 0 2 (by decide)
                  have t57 := p53 0 0 (by decide)
                  have t58 := p53 0 133 (by decide)
                  have f59 := (gr_b_0_132 hI52)
                  have f60 := (gr_b_0_68 hI52)
                  have f61 := (gr_b_0_1 hI52)
                  have f62 := (gr_b_0_2 hI52)
                  have f63 := (gr_b_0_0 hI52)
                  have f64 := (gr_b_0_133 hI52)
                  have KKR_I52 := gr_KR_f KKR_I27 p53 (by decide)
                  have t65 := FI52 18 (Int.toNat a1) rfl
                  refine gv_run 5 true hD (pcₚ := 133) (lvₚ := [(0, .inr (.inr (some 0))), (1, .inl a1), (2, .inl v2_9), (3, .inl v3_19), (4, .inl v4_29)]) (stₚ := [.inl ((24 * v3_19) + v4_29), .inl (I27 0 132), .inr (.inr (some 80))]) (hₚ := gr_h I52 J28) (C := (((((True ∧ True) ∧ True) ∧ True) ∧ True) ∧ True)) rfl ⟨⟨⟨⟨⟨trivial, trivial⟩, trivial⟩, trivial⟩, trivial⟩, trivial⟩ ?_
                  refine gv_run 1 true hD (pcₚ := 134) (lvₚ := [(0, .inr (.inr (some 0))), (1, .inl a1), (2, .inl v2_9), (3, .inl v3_19), (4, .inl v4_29)]) (stₚ := []) (hₚ := gz_up (gr_h I52 J28) 80 (Int.toNat ((I27 0 132))) (.inl (((24 * v3_19) + v4_29)))) (C := (True ∧ (0 ≤ (I27 0 132) ∧ (I27 0 132) < ((1536 : Nat) : Int)))) rfl ⟨trivial, ⟨by exact gz_m 39 (by omega), by exact gz_m 40 (by omega)⟩⟩ ?_
                  refine gr_st hI52 FI52 rfl rfl ⟨⟨by show 0 ≤ _; exact gz_m 41 (by omega), by show _ ≤ 1535; exact gz_m 42 (by omega)⟩, trivial⟩ (fun I66 hI66 FI66 q67 p67 => ?_)
                  have t68 := p67 0 132 (fun q => absurd q.1 (by first | exact gz_ne rfl | decide))
                  have t69 := p67 0 68 (fun q => absurd q.1 (by first | exact gz_ne rfl | decide))
                  have t70 := p67 0 1 (fun q => absurd q.1 (by first | exact gz_ne rfl | decide))
                  have t71 := p67 0 2 (fun q => absurd q.1 (by first | exact gz_ne rfl | decide))
                  have t72 := p67 0 0 (fun q => absurd q.1 (by first | exact gz_ne rfl | decide))
                  have t73 := p67 0 133 (fun q => absurd q.1 (by first | exact gz_ne rfl | decide))
                  have f74 := (gr_b_0_132 hI66)
                  have f75 := (gr_b_0_68 hI66)
                  have f76 := (gr_b_0_1 hI66)
                  have f77 := (gr_b_0_2 hI66)
                  have f78 := (gr_b_0_0 hI66)
                  have f79 := (gr_b_0_133 hI66)
                  have KKR_I66 := gr_KR_a (by decide) KKR_I52 p67 (by decide)
                  have t80 := FI66 18 (Int.toNat a1) rfl
                  exact L134 I66 J28 hI66 FI66 FJ28 KKR_I66 (by exact gz_m 43 (by omega)) (fo_aA_in e7_29 F_9 (by exact gz_m 44 (by omega)) rfl (by exact gz_m 45 (by omega)) (by exact gz_m 46 (by omega)) ⟨v3_19, v4_29, by exact gz_m 47 (by omega), by exact gz_m 48 (by omega), by exact gz_m 49 (by omega), by exact gz_m 50 (by omega), by exact gz_m 51 (by omega)⟩ rfl (fun j => (p67 57 j (fun q => absurd q.1 (by first | exact gz_ne rfl | decide))).trans (p53 57 j (fun q => absurd q.1 (by first | exact gz_ne rfl | decide)))) (fun j => (p67 78 j (fun q => absurd q.1 (by first | exact gz_ne rfl | decide))).trans (p53 78 j (fun q => absurd q.1 (by first | exact gz_ne rfl | decide)))) (fun j => (p67 79 j (fun q => absurd q.1 (by first | exact gz_ne rfl | decide))).trans (p53 79 j (fun q => absurd q.1 (by first | exact gz_ne rfl | decide)))) (by exact gz_m 52 (by omega)) q67 (fun j hj => (p67 80 j (fun q => hj q.2)).trans (p53 80 j (fun q => absurd q.1 (by first | exact gz_ne rfl | decide)))))
          have f81 := (gr_b_18 hI17 (Int.toNat a1))
          refine gv_run 5 true hD (pcₚ := 74) (lvₚ := [(0, .inr (.inr (some 0))), (1, .inl a1), (2, .inl v2_9), (3, .inl v3_19)]) (stₚ := [.inl (I17 18 (Int.toNat a1)), .inl v3_19]) (hₚ := gr_h I17 J18) (C := (((((True ∧ True) ∧ True) ∧ True) ∧ True) ∧ (0 ≤ a1 ∧ a1 < ((8 : Nat) : Int)))) rfl ⟨⟨⟨⟨⟨trivial, trivial⟩, trivial⟩, trivial⟩, trivial⟩, ⟨by exact gz_m 53 (by omega), by exact gz_m 54 (by omega)⟩⟩ ?_
          refine gv_icmp_ge (t := 146) hD rfl rfl ⟨⟨by exact gz_m 55 (by omega), by exact gz_m 56 (by omega)⟩, ⟨by exact gz_m 57 (by omega), by exact gz_m 58 (by omega)⟩⟩ (fun c82 => ?_) (fun c82 => ?_)
          · have f83 := (gr_b_0_132 hI17)
            refine gv_run 2 true hD (pcₚ := 150) (lvₚ := [(0, .inr (.inr (some 0))), (1, .inl a1), (2, .inl v2_9), (3, .inl v3_19)]) (stₚ := [.inl (I17 0 132)]) (hₚ := gr_h I17 J18) (C := ((True ∧ True) ∧ True)) rfl ⟨⟨trivial, trivial⟩, trivial⟩ ?_
            have b84 : ((0 ≤ a1 ∧ a1 < I 0 1) → I17 0 68 = 0) ∧ (¬ (0 ≤ a1 ∧ a1 < I 0 1) → I17 0 68 = I 0 68) ∧ ((0 ≤ a1 ∧ a1 < I 0 1) → I17 0 0 = 0) ∧ (¬ (0 ≤ a1 ∧ a1 < I 0 1) → I17 0 0 = 1) := by exact gz_m 59 (by omega)
            exact gv_iret hD rfl ⟨I17, J18, rfl, hI17, FI17, FJ18, ⟨_, rfl, by exact gz_m 60 (by omega), by exact gz_m 61 (by omega), b84.1, b84.2.1, b84.2.2.1, b84.2.2.2, (fun _ => Or.inl ⟨e6_19.1, rfl, by exact gz_m 62 (by omega), fo_AN_e e6_19.2.2 rfl hb9 (by exact gz_m 63 (by omega)) (by exact gz_m 64 (by omega))⟩), (fun h9 => absurd (by exact gz_m 65 (by omega)) h9), KKR_I17⟩⟩
          · refine gv_run 2 true hD (pcₚ := 80) (lvₚ := [(4, .inl 0), (0, .inr (.inr (some 0))), (1, .inl a1), (2, .inl v2_9), (3, .inl v3_19)]) (stₚ := []) (hₚ := gr_h I17 J18) (C := ((True ∧ True) ∧ True)) rfl ⟨⟨trivial, trivial⟩, trivial⟩ ?_
            refine gv_pick [1, 2, 3, 4, 0] rfl ?_
            exact L80 _ I17 J18 0 (Nat.lt_succ_self _) hI17 FI17 FJ18 KKR_I17 (by exact gz_m 66 (by omega)) (fo_aA_m e6_19 (by exact gz_m 67 (by omega)))
      refine gv_run 2 true hD (pcₚ := 34) (lvₚ := [(0, .inr (.inr (some 0))), (1, .inl a1), (2, .inl v2_9), (3, .inl v3_9)]) (stₚ := [.inl v2_9, .inl v3_9]) (hₚ := gr_h I7 J8) (C := ((True ∧ True) ∧ True)) rfl ⟨⟨trivial, trivial⟩, trivial⟩ ?_
      refine gv_icmp_ge (t := 55) hD rfl rfl ⟨⟨by exact gz_m 68 (by omega), by exact gz_m 69 (by omega)⟩, ⟨by exact gz_m 70 (by omega), by exact gz_m 71 (by omega)⟩⟩ (fun c85 => ?_) (fun c85 => ?_)
      · refine gv_run 2 true hD (pcₚ := 57) (lvₚ := [(0, .inr (.inr (some 0))), (1, .inl a1), (2, .inl v2_9), (3, .inl v3_9)]) (stₚ := [.inl a1, .inr (.inr (some 0))]) (hₚ := gr_h I7 J8) (C := ((True ∧ True) ∧ True)) rfl ⟨⟨trivial, trivial⟩, trivial⟩ ?_
        obtain ⟨r86, h86, E86, P86⟩ := r_forms_q (ws0 := ws0) (tb := tb) hws htb ext I7 J8 hI7 a1 ⟨by exact gz_m 72 (by omega), by exact gz_m 73 (by omega)⟩ (KKR_I7 x0) (by have h9 := FI7 0 1 rfl; exact gz_m 74 (by omega))
        obtain ⟨I87, J88, rfl, hI87, g86, k86, ⟨rfl, q86⟩⟩ := P86
        have FI87 := gr_frt FI7 g86 rfl rfl
        have FJ88 := gr_fjt FJ8 k86 rfl rfl
        have t89 := g86 0 132 rfl
        have t90 := g86 0 68 rfl
        have t91 := g86 0 1 rfl
        have t92 := g86 0 2 rfl
        have t93 := g86 0 0 rfl
        have t94 := g86 0 133 rfl
        have f95 := (gr_b_0_132 hI87)
        have f96 := (gr_b_0_68 hI87)
        have f97 := (gr_b_0_1 hI87)
        have f98 := (gr_b_0_2 hI87)
        have f99 := (gr_b_0_0 hI87)
        have f100 := (gr_b_0_133 hI87)
        have l86 := q86.1
        have KKR_I87 := gr_KR_tr KKR_I7 l86
        refine gv_callV hD rfl (As := [.inl a1]) (st := []) rfl (by decide) rfl rfl (gr_lV hws rfl) (Nat.le_of_ble_eq_true rfl) (gz_Ev_mono (d := 6) (by decide) E86) ?_
        show gv_X _ _ (60, [(0, .inr (.inr (some 0))), (1, .inl a1), (2, .inl v2_9), (3, .inl v3_9)], [], gr_sh ++ ext, gr_h I87 J88)
        refine gv_run 3 true hD (pcₚ := 65) (lvₚ := [(0, .inr (.inr (some 0))), (1, .inl a1), (2, .inl v2_9), (3, .inl v3_9)]) (stₚ := []) (hₚ := gz_up (gr_h I87 J88) 0 133 (.inl a1)) (C := (((True ∧ True) ∧ True) ∧ True)) rfl ⟨⟨⟨trivial, trivial⟩, trivial⟩, trivial⟩ ?_
        refine gr_st hI87 FI87 rfl rfl ⟨⟨by show 0 ≤ _; exact gz_m 75 (by omega), by show _ ≤ 7; exact gz_m 76 (by omega)⟩, trivial⟩ (fun I101 hI101 FI101 q102 p102 => ?_)
        have t103 := p102 0 132 (by decide)
        have t104 := p102 0 68 (by decide)
        have t105 := p102 0 1 (by decide)
        have t106 := p102 0 2 (by decide)
        have t107 := p102 0 0 (by decide)
        have f108 := (gr_b_0_132 hI101)
        have f109 := (gr_b_0_68 hI101)
        have f110 := (gr_b_0_1 hI101)
        have f111 := (gr_b_0_2 hI101)
        have f112 := (gr_b_0_0 hI101)
        have f113 := (gr_b_0_133 hI101)
        have KKR_I101 := gr_KR_f KKR_I87 p102 (by decide)
        have t114 := FI101 18 (Int.toNat a1) rfl
        refine gv_run 2 true hD (pcₚ := 67) (lvₚ := [(3, .inl 0), (0, .inr (.inr (some 0))), (1, .inl a1), (2, .inl v2_9)]) (stₚ := []) (hₚ := gr_h I101 J88) (C := ((True ∧ True) ∧ True)) rfl ⟨⟨trivial, trivial⟩, trivial⟩ ?_
        refine gv_pick [1, 2, 3, 0] rfl ?_
        exact L67 _ I101 J88 0 (Nat.lt_succ_self _) hI101 FI101 FJ88 KKR_I101 (by exact gz_m 77 (by omega)) (fo_aA_0 e5_9 (by exact gz_m 78 (by omega)) (fun j => (p102 57 j (fun q => absurd q.1 (by first | exact gz_ne rfl | decide))).trans (g86 57 j rfl)) (fo_tr_FR (fo_tr_sy (gr_kt_t (by decide) FI87)) q86.2 (fun k => p102 78 k (fun q => absurd q.1 (by first | exact gz_ne rfl | decide))) (fun k => p102 79 k (fun q => absurd q.1 (by first | exact gz_ne rfl | decide)))) (by exact gz_m 79 (by omega)) (by exact gz_m 80 (by omega)))
      · have f115 := (gr_b_76 hI7 (Int.toNat v3_9))
        refine gv_run 7 true hD (pcₚ := 48) (lvₚ := [(0, .inr (.inr (some 0))), (1, .inl a1), (2, .inl v2_9), (3, .inl v3_9)]) (stₚ := [.inl (I7 76 (Int.toNat v3_9)), .inl v3_9, .inr (.inr (some 57))]) (hₚ := gr_h I7 J8) (C := (((((((True ∧ True) ∧ True) ∧ True) ∧ True) ∧ True) ∧ True) ∧ (0 ≤ v3_9 ∧ v3_9 < ((64 : Nat) : Int)))) rfl ⟨⟨⟨⟨⟨⟨⟨trivial, trivial⟩, trivial⟩, trivial⟩, trivial⟩, trivial⟩, trivial⟩, ⟨by exact gz_m 81 (by omega), by exact gz_m 82 (by omega)⟩⟩ ?_
        have f116 := gw_nar_byte (x := ((I7 76 (Int.toNat v3_9))))
        refine gv_run 1 true hD (pcₚ := 49) (lvₚ := [(0, .inr (.inr (some 0))), (1, .inl a1), (2, .inl v2_9), (3, .inl v3_9)]) (stₚ := []) (hₚ := gz_up (gr_h I7 J8) 57 (Int.toNat v3_9) (.inl (((vp_nar .byte (Int32.ofInt ((I7 76 (Int.toNat v3_9))))).toInt)))) (C := (True ∧ (0 ≤ v3_9 ∧ v3_9 < ((1000 : Nat) : Int)))) rfl ⟨trivial, ⟨by exact gz_m 83 (by omega), by exact gz_m 84 (by omega)⟩⟩ ?_
        refine gr_st hI7 FI7 rfl rfl ⟨⟨by show (-128) ≤ _; exact gz_m 85 (by omega), by show _ ≤ 127; exact gz_m 86 (by omega)⟩, trivial⟩ (fun I117 hI117 FI117 q118 p118 => ?_)
        have t119 := p118 0 132 (fun q => absurd q.1 (by first | exact gz_ne rfl | decide))
        have t120 := p118 0 68 (fun q => absurd q.1 (by first | exact gz_ne rfl | decide))
        have t121 := p118 0 1 (fun q => absurd q.1 (by first | exact gz_ne rfl | decide))
        have t122 := p118 0 2 (fun q => absurd q.1 (by first | exact gz_ne rfl | decide))
        have t123 := p118 0 0 (fun q => absurd q.1 (by first | exact gz_ne rfl | decide))
        have t124 := p118 0 133 (fun q => absurd q.1 (by first | exact gz_ne rfl | decide))
        have f125 := (gr_b_0_132 hI117)
        have f126 := (gr_b_0_68 hI117)
        have f127 := (gr_b_0_1 hI117)
        have f128 := (gr_b_0_2 hI117)
        have f129 := (gr_b_0_0 hI117)
        have f130 := (gr_b_0_133 hI117)
        have KKR_I117 := gr_KR_a (by decide) KKR_I7 p118 (by decide)
        have t131 := FI117 18 (Int.toNat a1) rfl
        refine gv_run 2 true hD (pcₚ := 32) (lvₚ := [(3, .inl (v3_9 + 1)), (0, .inr (.inr (some 0))), (1, .inl a1), (2, .inl v2_9)]) (stₚ := []) (hₚ := gr_h I117 J8) (C := ((True ∧ True) ∧ True)) rfl ⟨⟨trivial, trivial⟩, trivial⟩ ?_
        refine gv_pick [1, 2, 3, 0] rfl ?_
        exact ih32 I117 J8 v2_9 (v3_9 + 1) (by exact gz_m 87 (by omega)) hI117 FI117 FJ8 KKR_I117 (by exact gz_m 88 (by omega)) (fo_a3_s e5_9 (by exact gz_m 89 (by omega)) (by exact gz_m 90 (by omega)) rfl p118 (q118.trans (gc_nar ⟨by exact gz_m 91 (by omega), by exact gz_m 92 (by omega)⟩)))
  refine gv_run 2 true hD (pcₚ := 2) (lvₚ := [(0, .inr (.inr (some 0))), (1, .inl a1)]) (stₚ := [.inl a1, .inr (.inr (some 0))]) (hₚ := gr_h I J) (C := ((True ∧ True) ∧ True)) rfl ⟨⟨trivial, trivial⟩, trivial⟩ ?_
  obtain ⟨r132, h132, E132, P132⟩ := r_noTongue_z (ws0 := ws0) (tb := tb) hws htb ext I J hI a1 ⟨by exact gz_m 93 (by omega), by exact gz_m 94 (by omega)⟩ 
  obtain ⟨I133, J134, rfl, hI133, g132, k132, ⟨z132, rfl, q132⟩⟩ := P132
  have FI133 := gr_frt FI g132 rfl rfl
  have FJ134 := gr_fjt FJ k132 rfl rfl
  have t135 := g132 0 132 rfl
  have t136 := g132 0 68 rfl
  have t137 := g132 0 1 rfl
  have t138 := g132 0 2 rfl
  have t139 := g132 0 133 rfl
  have f140 := (gr_b_0_132 hI133)
  have f141 := (gr_b_0_68 hI133)
  have f142 := (gr_b_0_1 hI133)
  have f143 := (gr_b_0_2 hI133)
  have f144 := (gr_b_0_0 hI133)
  have f145 := (gr_b_0_133 hI133)
  have KKR_I133 := gr_KR_g KKR_I g132 (by decide)
  refine gv_callV hD rfl (As := [.inl a1]) (st := []) rfl (by decide) rfl rfl (gr_lV hws rfl) (Nat.le_of_ble_eq_true rfl) (gz_Ev_mono (d := 1) (by decide) E132) ?_
  show gv_X _ _ (5, [(0, .inr (.inr (some 0))), (1, .inl a1)], [.inl z132], gr_sh ++ ext, gr_h I133 J134)
  refine gv_if_eq (t := 10) hD rfl rfl ⟨by exact gz_m 95 (by omega), by exact gz_m 96 (by omega)⟩ (fun c146 => ?_) (fun c146 => ?_)
  · refine gv_run 3 true hD (pcₚ := 15) (lvₚ := [(0, .inr (.inr (some 0))), (1, .inl a1)]) (stₚ := []) (hₚ := gz_up (gr_h I133 J134) 0 132 (.inl 0)) (C := (((True ∧ True) ∧ True) ∧ True)) rfl ⟨⟨⟨trivial, trivial⟩, trivial⟩, trivial⟩ ?_
    refine gr_st hI133 FI133 rfl rfl ⟨⟨by show 0 ≤ _; exact gz_m 97 (by omega), by show _ ≤ 1536; exact gz_m 98 (by omega)⟩, trivial⟩ (fun I147 hI147 FI147 q148 p148 => ?_)
    have t149 := p148 0 68 (by decide)
    have t150 := p148 0 1 (by decide)
    have t151 := p148 0 2 (by decide)
    have t152 := p148 0 0 (by decide)
    have t153 := p148 0 133 (by decide)
    have f154 := (gr_b_0_132 hI147)
    have f155 := (gr_b_0_68 hI147)
    have f156 := (gr_b_0_1 hI147)
    have f157 := (gr_b_0_2 hI147)
    have f158 := (gr_b_0_0 hI147)
    have f159 := (gr_b_0_133 hI147)
    have KKR_I147 := gr_KR_f KKR_I133 p148 (by decide)
    have t160 := FI147 18 (Int.toNat a1) rfl
    refine gv_run 1 true hD (pcₚ := 16) (lvₚ := [(0, .inr (.inr (some 0))), (1, .inl a1)]) (stₚ := [.inr (.inr (some 0))]) (hₚ := gr_h I147 J134) (C := (True ∧ True)) rfl ⟨trivial, trivial⟩ ?_
    obtain ⟨r161, h161, E161, P161⟩ := r_oneWord_p (ws0 := ws0) (tb := tb) hws htb ext I147 J134 hI147   
    obtain ⟨I162, J163, rfl, hI162, g161, k161, ⟨z161, rfl, q161⟩⟩ := P161
    have FI162 := gr_frt FI147 g161 rfl rfl
    have FJ163 := gr_fjt FJ134 k161 rfl rfl
    have t164 := g161 0 132 rfl
    have t165 := g161 0 1 rfl
    have t166 := g161 0 2 rfl
    have t167 := g161 0 0 rfl
    have t168 := g161 0 133 rfl
    have f169 := (gr_b_0_132 hI162)
    have f170 := (gr_b_0_68 hI162)
    have f171 := (gr_b_0_1 hI162)
    have f172 := (gr_b_0_2 hI162)
    have f173 := (gr_b_0_0 hI162)
    have f174 := (gr_b_0_133 hI162)
    have KKR_I162 := gr_KR_g KKR_I147 g161 (by decide)
    have O_9 : fo_OW I147 I162 z161 := q161.2.2.2
    have o_9 := fo_ow O_9
    refine gv_callV hD rfl (As := []) (st := []) rfl (by decide) rfl rfl (gr_lV hws rfl) (Nat.le_of_ble_eq_true rfl) (gz_Ev_mono (d := 2) (by decide) E161) ?_
    show gv_X _ _ (19, [(0, .inr (.inr (some 0))), (1, .inl a1)], [.inl z161], gr_sh ++ ext, gr_h I162 J163)
    refine gv_if_ne (t := 25) hD rfl rfl ⟨by exact gz_m 99 (by omega), by exact gz_m 100 (by omega)⟩ (fun c175 => ?_) (fun c175 => ?_)
    · have f176 := (gr_b_0_126 hI162)
      refine gv_run 5 true hD (pcₚ := 32) (lvₚ := [(3, .inl 0), (2, .inl (I162 0 126)), (0, .inr (.inr (some 0))), (1, .inl a1)]) (stₚ := []) (hₚ := gr_h I162 J163) (C := (((((True ∧ True) ∧ True) ∧ True) ∧ True) ∧ True)) rfl ⟨⟨⟨⟨⟨trivial, trivial⟩, trivial⟩, trivial⟩, trivial⟩, trivial⟩ ?_
      refine gv_pick [2, 3, 1, 0] rfl ?_
      exact L32 _ I162 J163 (I162 0 126) 0 (Nat.lt_succ_self _) hI162 FI162 FJ163 KKR_I162 (by exact gz_m 101 (by omega)) (fo_a3_0 O_9 (by exact gz_m 102 (by omega)) (by exact gz_m 103 (by omega)) (fun k => FI147 56 k rfl))
    · refine gv_run 1 true hD (pcₚ := 24) (lvₚ := [(0, .inr (.inr (some 0))), (1, .inl a1)]) (stₚ := [.inl (-3)]) (hₚ := gr_h I162 J163) (C := (True ∧ True)) rfl ⟨trivial, trivial⟩ ?_
      have b177 : ((0 ≤ a1 ∧ a1 < I 0 1) → I162 0 68 = 0) ∧ (¬ (0 ≤ a1 ∧ a1 < I 0 1) → I162 0 68 = I 0 68) ∧ ((0 ≤ a1 ∧ a1 < I 0 1) → I162 0 0 = 0) ∧ (¬ (0 ≤ a1 ∧ a1 < I 0 1) → I162 0 0 = 1) := by exact gz_m 104 (by omega)
      exact gv_iret hD rfl ⟨I162, J163, rfl, hI162, FI162, FJ163, ⟨_, rfl, by exact gz_m 105 (by omega), by exact gz_m 106 (by omega), b177.1, b177.2.1, b177.2.2.1, b177.2.2.2, (fun _ => Or.inr ⟨fo_ow_n O_9 (by exact gz_m 107 (by omega)) (by exact gz_m 108 (by omega)) (fun k => FI147 56 k rfl), rfl, by exact gz_m 109 (by omega)⟩), (fun h9 => absurd (by exact gz_m 110 (by omega)) h9), KKR_I162⟩⟩
  · refine gv_run 1 true hD (pcₚ := 9) (lvₚ := [(0, .inr (.inr (some 0))), (1, .inl a1)]) (stₚ := [.inl 0]) (hₚ := gr_h I133 J134) (C := (True ∧ True)) rfl ⟨trivial, trivial⟩ ?_
    have b178 : ((0 ≤ a1 ∧ a1 < I 0 1) → I133 0 68 = 0) ∧ (¬ (0 ≤ a1 ∧ a1 < I 0 1) → I133 0 68 = I 0 68) ∧ ((0 ≤ a1 ∧ a1 < I 0 1) → I133 0 0 = 0) ∧ (¬ (0 ≤ a1 ∧ a1 < I 0 1) → I133 0 0 = 1) := by exact gz_m 111 (by omega)
    exact gv_iret hD rfl ⟨I133, J134, rfl, hI133, FI133, FJ134, ⟨_, rfl, by exact gz_m 112 (by omega), by exact gz_m 113 (by omega), b178.1, b178.2.1, b178.2.2.1, b178.2.2.2, (fun h9 => absurd h9 (by exact gz_m 114 (by omega))), (fun _ => ⟨g132 0 132 rfl, g132 0 133 rfl, fun k => g132 80 k rfl⟩), KKR_I133⟩⟩
